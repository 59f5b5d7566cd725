def cutL : List Nat := [0, 5, 12, 18, 23, 28, 34, 42, 46, 50, 54]
theorem cut_mono {n : Nat} (h : n < 10) : cutL.getD n 0 ≤ cutL.getD (n + 1) 0 ∧ cutL.getD (n + 1) 0 ≤ 54 := by
  rcases (show n = 0 ∨ n = 1 ∨ n = 2 ∨ n = 3 ∨ n = 4 ∨ n = 5 ∨ n = 6 ∨ n = 7 ∨ n = 8 ∨ n = 9 by omega) with q|q|q|q|q|q|q|q|q|q <;> subst q <;> decide
theorem nIm4 {n : Nat} (h : n ≤ 9) : (nI n - 4).toInt = (n : Int) - 4 := by
  rcases (show n = 0 ∨ n = 1 ∨ n = 2 ∨ n = 3 ∨ n = 4 ∨ n = 5 ∨ n = 6 ∨ n = 7 ∨ n = 8 ∨ n = 9 by omega) with q|q|q|q|q|q|q|q|q|q <;> subst q <;> decide
theorem OKP.zero {f : Nat → Int32} (h : ∀ q : Nat, q < 49 → f q = 0) : OKP f := by
  intro q hq
  rw [h q hq]
  have e : (0 : Int32).toInt = 0 := by decide
  exact ⟨fun _ => by omega, fun _ _ => by omega, fun _ => by omega⟩
set_option maxHeartbeats 1000000 in
set_option maxRecDepth 100000 in
theorem c_X11_nameHere (l : Launch) (dC : Nat → ClassId) (dI : Nat → Nat → Nat) (G : Nat → ClassId) (sz : Nat) (h0 st N B rp tp T nsp nhe cu lt od th be ln S ma M ah bh ik la lg ce : Nat) (vrs vrb vhs vca vxs vxb vfa vbr vba vtk vva vto : Int32) (ftp : Nat → Int32) (fcu : Nat → Int32) (flt : Nat → Int32) (hN : N ≤ 10) (hB : B ≤ 6) (hT : T ≤ 320) (hS0 : S ≤ 8) (hM : M ≤ 6) (hsp : nsp ≤ T) (hhe : nhe ≤ nsp) (hc : ∀ q : Nat, q < 11 → fcu q = nI (cutL.getD q 0)) : Met l yX11_nameHere (Cond.code yX11_nameHere cX11_nameHere 4 (some .int) :: GT) ({ frames := 1, cells := 0, slots := 0, locals := 21 } : Room) (PcR [.ref h0] dC dI G [(h0, .inr (11, [.ref st, .int (nI N), .int (nI B), .ref rp, .int vrs, .int vrb, .int vhs, .int vca, .int vxs, .int vxb, .ref tp, .int (nI T), .int vfa, .int vbr, .int vba, .int (nI nsp), .int (nI nhe), .int vtk, .int vva, .ref cu, .ref lt, .ref od, .ref th, .ref be, .ref ln, .int (nI S), .ref ma, .int (nI M), .ref ah, .ref bh, .ref ik, .ref la, .ref lg, .ref ce, .int vto])), (tp, .inl (G 0, 320, .inl ftp)), (cu, .inl (G 0, 11, .inl fcu)), (lt, .inl (G 0, 54, .inl flt))] sz) (va_Qi (fun (r : Int32) (u : Unit) => match u with | _ => (r = -4 ∨ ∃ k : Nat, r = nI k ∧ k ≤ 9) ∧ True) (fun _ _ => True) (fun q : Nat => sz ≤ q)) 0 0 (fun q : Nat => sz ≤ q) := by
  refine Met.ofW (cc := cX11_nameHere) (maxL := 4) (ret := (some .int)) (by decide) rfl ?_
  intro p e s m args below meth c s₁ Bd hml hv
  obtain ⟨rfl, hsz, hP, hK⟩ := hv
  have hx := Bd.exec
  have hb := Bd.bytes
  have hr := Bd.returns
  have hg : ∀ w ∈ GT, w.before ([.ref h0] : List Value).toArray s = true := fun w h => atoms_spec (ws := Cond.code yX11_nameHere cX11_nameHere 4 (some .int) :: GT) Bd.pre w (List.mem_cons_of_mem _ h)
  have hown : s.vm.findClass RX11 = some m.cls := findClass_of_methodNamed Bd.named
  have hlocks := Bd.notSynchronized
  subst hsz
  have hA : ∀ q : Nat, s.heap.size ≤ q → (fun q : Nat => s.heap.size ≤ q) q := fun _ h => h
  have hS : va_S (fun q : Nat => s.heap.size ≤ q) s.heap s.heap [] := va_S.rf
  have hl := lv_entry ([.ref h0]) (n := 4) (Nat.le_of_ble_eq_true rfl)
  rw [lg_entry_eq]
  generalize (lg_sl ([.ref h0]) ++ List.replicate (4 - (lg_sl ([.ref h0])).length) Slot.unset).toArray = ls at hl ⊢
  have hl : lv_has ls 4 [(0, .ref h0)] := hl
  refine lv_iconst (v := 0) hx hb dX11_nameHere_0 (by decide) ?_
  refine lv_istore_n (lv' := [(1, .int 0), (0, .ref h0)]) hx hb dX11_nameHere_1 rfl hl (by decide) rfl (fun ls hl => ?_)
  have loop2_2 : ∀ (nf j1 : Nat), 10 + 1 ≤ j1 + nf → j1 ≤ 10 → ∀ (H : Heap) (locs : List Loc), va_P (dC, dI) vwCl [(h0, .inr (11, [.ref st, .int (nI N), .int (nI B), .ref rp, .int vrs, .int vrb, .int vhs, .int vca, .int vxs, .int vxb, .ref tp, .int (nI T), .int vfa, .int vbr, .int vba, .int (nI nsp), .int (nI nhe), .int vtk, .int vva, .ref cu, .ref lt, .ref od, .ref th, .ref be, .ref ln, .int (nI S), .ref ma, .int (nI M), .ref ah, .ref bh, .ref ik, .ref la, .ref lg, .ref ce, .int vto])), (tp, .inl (G 0, 320, .inl ftp)), (cu, .inl (G 0, 11, .inl fcu)), (lt, .inl (G 0, 54, .inl flt))] H → va_S (fun q : Nat => s.heap.size ≤ q) s.heap H locs → ∀ (ls : Array Slot), lv_has ls 4 [(1, .int (nI j1)), (0, .ref h0)] → W p l e (headSpec (Cond.code yX11_nameHere cX11_nameHere 4 (some .int) :: GT) ({ frames := 1, cells := 0, slots := 0, locals := 21 } : Room)).room s m ([.ref h0] : List Value).toArray below meth c H locs 0 0 (MQ below (va_Qi (fun (r : Int32) (u : Unit) => match u with | _ => (r = -4 ∨ ∃ k : Nat, r = nI k ∧ k ≤ 9) ∧ True) (fun _ _ => True) (fun q : Nat => s.heap.size ≤ q)) ([.ref h0] : List Value).toArray s 0 0 (fun q : Nat => s.heap.size ≤ q)) (F0 m 2 ls []) := by
    intro nf
    induction nf with
    | zero => intro j1 h1 h2; exact absurd h1 (by omega)
    | succ nf ih2_2 =>
      intro j1 hn3 hj4  H locs hP hS ls hl
      refine lv_iload_n hx hb dX11_nameHere_2 rfl (lv_at hl 0 rfl) ?_
      refine lv_bipush (v := 10) hx hb dX11_nameHere_3 (by decide) ?_
      refine lv_icmp_ge (tgt := 118) hx hb dX11_nameHere_5 (by decide) (fun c5 => ?_) (fun c5 => ?_)
      · skip
        have n6 : 10 ≤ j1 := by have t := leI c5; rw [nI_toInt (n := j1) (by omega)] at t; have : (10 : Int32).toInt = 10 := (by decide); omega
        refine lv_bipush (v := (-4)) hx hb dX11_nameHere_118 (by decide) ?_
        have hpost : ((-4) : Int32) = -4 ∨ ∃ k : Nat, ((-4) : Int32) = nI k ∧ k ≤ 9 := by
          exact Or.inl rfl
        refine W.widen (k := 0) (n := 0) (by omega) (by omega) ?_
        exact W.iret (v := (-4)) hx hb hr (fun t ht hW => ⟨⟨(-4), (), rfl, ⟨hpost, trivial⟩, trivial⟩, hS.F ht⟩) hS.2.2 dX11_nameHere_120
      · skip
        have n7 : j1 < 10 := by have t := nleI c5; rw [nI_toInt (n := j1) (by omega)] at t; have : (10 : Int32).toInt = 10 := (by decide); omega
        refine lv_aload_n hx hb dX11_nameHere_8 rfl (lv_at hl 1 rfl) ?_
        refine va_get (D := (dC, dI)) (ci := 11) (v := .int vtk) (C := RX11) (T := TX11) (N := 35) hx hb hg inG11 hown hK.1 hP 0 rfl rfl 17 (by decide) (hg _ wt_895) (fun _ h9 => h9) rfl dX11_nameHere_9 ?_
        refine lv_iconst (v := 1) hx hb dX11_nameHere_12 (by decide) ?_
        refine lv_icmp_ne (tgt := 118) hx hb dX11_nameHere_13 (by decide) (fun c8 => ?_) (fun c8 => ?_)
        · skip
          refine lv_bipush (v := (-4)) hx hb dX11_nameHere_118 (by decide) ?_
          have hpost : ((-4) : Int32) = -4 ∨ ∃ k : Nat, ((-4) : Int32) = nI k ∧ k ≤ 9 := by
            exact Or.inl rfl
          refine W.widen (k := 0) (n := 0) (by omega) (by omega) ?_
          exact W.iret (v := (-4)) hx hb hr (fun t ht hW => ⟨⟨(-4), (), rfl, ⟨hpost, trivial⟩, trivial⟩, hS.F ht⟩) hS.2.2 dX11_nameHere_120
        · skip
          refine lv_aload_n hx hb dX11_nameHere_16 rfl (lv_at hl 1 rfl) ?_
          refine va_get (D := (dC, dI)) (ci := 11) (v := .int (nI nsp)) (C := RX11) (T := TX11) (N := 35) hx hb hg inG11 hown hK.1 hP 0 rfl rfl 15 (by decide) (hg _ wt_893) (fun _ h9 => h9) rfl dX11_nameHere_17 ?_
          refine lv_aload_n hx hb dX11_nameHere_20 rfl (lv_at hl 1 rfl) ?_
          refine va_get (D := (dC, dI)) (ci := 11) (v := .int (nI nhe)) (C := RX11) (T := TX11) (N := 35) hx hb hg inG11 hown hK.1 hP 0 rfl rfl 16 (by decide) (hg _ wt_894) (fun _ h9 => h9) rfl dX11_nameHere_21 ?_
          refine lv_isub hx hb dX11_nameHere_24 ?_
          refine lv_cg (y := nI (nsp - nhe)) (by exact pk_sub (by have t_hj4 := hj4; have t_n7 := n7; have t_c8 := eqI c8; have : (1 : Int32).toInt = 1 := (by decide); have t_n0 : (nI N).toInt = (N : Int) := nI_toInt (by omega); have t_n1 : (nI B).toInt = (B : Int) := nI_toInt (by omega); have t_n2 : (nI T).toInt = (T : Int) := nI_toInt (by omega); have t_n3 : (nI nsp).toInt = (nsp : Int) := nI_toInt (by omega); have t_n4 : (nI nhe).toInt = (nhe : Int) := nI_toInt (by omega); have t_n5 : (nI S).toInt = (S : Int) := nI_toInt (by omega); have t_n6 : (nI M).toInt = (M : Int) := nI_toInt (by omega); have t_n7 : (nI j1).toInt = (j1 : Int) := nI_toInt (by omega); omega)) ?_
          refine lv_aload_n hx hb dX11_nameHere_25 rfl (lv_at hl 1 rfl) ?_
          refine va_get (D := (dC, dI)) (ci := 11) (v := .ref cu) (C := RX11) (T := TX11) (N := 35) hx hb hg inG11 hown hK.1 hP 0 rfl rfl 19 (by decide) (hg _ wt_897) (fun _ h9 => h9) rfl dX11_nameHere_26 ?_
          refine lv_iload_n hx hb dX11_nameHere_29 rfl (lv_at hl 0 rfl) ?_
          refine lv_iconst (v := 1) hx hb dX11_nameHere_30 (by decide) ?_
          refine lv_iadd hx hb dX11_nameHere_31 ?_
          refine lv_cg (y := nI (j1 + 1)) (by rw [show (1 : Int32) = nI 1 from rfl]; exact nI_add _ _) ?_
          refine va_iald hx hb hK.1 hP 2 0 rfl rfl (vp_in_nI (by have t_hj4 := hj4; have t_n7 := n7; have t_c8 := eqI c8; have : (1 : Int32).toInt = 1 := (by decide); have t_n0 : (nI N).toInt = (N : Int) := nI_toInt (by omega); have t_n1 : (nI B).toInt = (B : Int) := nI_toInt (by omega); have t_n2 : (nI T).toInt = (T : Int) := nI_toInt (by omega); have t_n3 : (nI nsp).toInt = (nsp : Int) := nI_toInt (by omega); have t_n4 : (nI nhe).toInt = (nhe : Int) := nI_toInt (by omega); have t_n5 : (nI S).toInt = (S : Int) := nI_toInt (by omega); have t_n6 : (nI M).toInt = (M : Int) := nI_toInt (by omega); have t_n7 : (nI j1).toInt = (j1 : Int) := nI_toInt (by omega); omega) (by decide)) dX11_nameHere_32 ?_
          refine lv_cg (y := fcu (j1 + 1)) (by rw [nI_clamp (by omega)]) ?_
          refine lv_cg (y := nI (cutL.getD (j1 + 1) 0)) (hc (j1 + 1) (by omega)) ?_
          refine lv_aload_n hx hb dX11_nameHere_33 rfl (lv_at hl 1 rfl) ?_
          refine va_get (D := (dC, dI)) (ci := 11) (v := .ref cu) (C := RX11) (T := TX11) (N := 35) hx hb hg inG11 hown hK.1 hP 0 rfl rfl 19 (by decide) (hg _ wt_897) (fun _ h9 => h9) rfl dX11_nameHere_34 ?_
          refine lv_iload_n hx hb dX11_nameHere_37 rfl (lv_at hl 0 rfl) ?_
          refine va_iald hx hb hK.1 hP 2 0 rfl rfl (vp_in_nI (by have t_hj4 := hj4; have t_n7 := n7; have t_c8 := eqI c8; have : (1 : Int32).toInt = 1 := (by decide); have t_n0 : (nI N).toInt = (N : Int) := nI_toInt (by omega); have t_n1 : (nI B).toInt = (B : Int) := nI_toInt (by omega); have t_n2 : (nI T).toInt = (T : Int) := nI_toInt (by omega); have t_n3 : (nI nsp).toInt = (nsp : Int) := nI_toInt (by omega); have t_n4 : (nI nhe).toInt = (nhe : Int) := nI_toInt (by omega); have t_n5 : (nI S).toInt = (S : Int) := nI_toInt (by omega); have t_n6 : (nI M).toInt = (M : Int) := nI_toInt (by omega); have t_n7 : (nI j1).toInt = (j1 : Int) := nI_toInt (by omega); omega) (by decide)) dX11_nameHere_38 ?_
          refine lv_cg (y := fcu j1) (by rw [nI_clamp (by omega)]) ?_
          refine lv_cg (y := nI (cutL.getD j1 0)) (hc j1 (by omega)) ?_
          have hcmj1 := cut_mono (n := j1) (by omega)
          refine lv_isub hx hb dX11_nameHere_39 ?_
          refine lv_cg (y := nI ((cutL.getD (j1 + 1) 0) - (cutL.getD j1 0))) (by exact pk_sub (by have t_hj4 := hj4; have t_n7 := n7; have t_c8 := eqI c8; have t_hcmj1 := hcmj1; have : (1 : Int32).toInt = 1 := (by decide); have t_n0 : (nI N).toInt = (N : Int) := nI_toInt (by omega); have t_n1 : (nI B).toInt = (B : Int) := nI_toInt (by omega); have t_n2 : (nI T).toInt = (T : Int) := nI_toInt (by omega); have t_n3 : (nI nsp).toInt = (nsp : Int) := nI_toInt (by omega); have t_n4 : (nI nhe).toInt = (nhe : Int) := nI_toInt (by omega); have t_n5 : (nI S).toInt = (S : Int) := nI_toInt (by omega); have t_n6 : (nI M).toInt = (M : Int) := nI_toInt (by omega); have t_n7 : (nI j1).toInt = (j1 : Int) := nI_toInt (by omega); omega)) ?_
          refine lv_icmp_ne (tgt := 47) hx hb dX11_nameHere_40 (by decide) (fun c9 => ?_) (fun c9 => ?_)
          · skip
            have n10 : (nsp - nhe) ≠ ((cutL.getD (j1 + 1) 0) - (cutL.getD j1 0)) := by have t := neI c9; rw [nI_toInt (n := (nsp - nhe)) (by omega)] at t; rw [nI_toInt (n := ((cutL.getD (j1 + 1) 0) - (cutL.getD j1 0))) (by omega)] at t; omega
            refine lv_iconst (v := 0) hx hb dX11_nameHere_47 (by decide) ?_
            refine lv_istore_n (lv' := [(2, .int 0), (1, .int (nI j1)), (0, .ref h0)]) hx hb dX11_nameHere_48 rfl hl (by decide) rfl (fun ls hl => ?_)
            refine lv_iconst (v := 0) hx hb dX11_nameHere_49 (by decide) ?_
            refine lv_istore_n (lv' := [(3, .int 0), (2, .int 0), (1, .int (nI j1)), (0, .ref h0)]) hx hb dX11_nameHere_50 rfl hl (by decide) rfl (fun ls hl => ?_)
            have loop51_12 : ∀ (nf j11 : Nat), (nsp - nhe) + 1 ≤ j11 + nf → j11 ≤ (nsp - nhe) → ∀ (H : Heap) (locs : List Loc), va_P (dC, dI) vwCl [(h0, .inr (11, [.ref st, .int (nI N), .int (nI B), .ref rp, .int vrs, .int vrb, .int vhs, .int vca, .int vxs, .int vxb, .ref tp, .int (nI T), .int vfa, .int vbr, .int vba, .int (nI nsp), .int (nI nhe), .int vtk, .int vva, .ref cu, .ref lt, .ref od, .ref th, .ref be, .ref ln, .int (nI S), .ref ma, .int (nI M), .ref ah, .ref bh, .ref ik, .ref la, .ref lg, .ref ce, .int vto])), (tp, .inl (G 0, 320, .inl ftp)), (cu, .inl (G 0, 11, .inl fcu)), (lt, .inl (G 0, 54, .inl flt))] H → va_S (fun q : Nat => s.heap.size ≤ q) s.heap H locs → ∀ (ls : Array Slot), lv_has ls 4 [(3, .int (nI j11)), (2, .int 0), (1, .int (nI j1)), (0, .ref h0)] → W p l e (headSpec (Cond.code yX11_nameHere cX11_nameHere 4 (some .int) :: GT) ({ frames := 1, cells := 0, slots := 0, locals := 21 } : Room)).room s m ([.ref h0] : List Value).toArray below meth c H locs 0 0 (MQ below (va_Qi (fun (r : Int32) (u : Unit) => match u with | _ => (r = -4 ∨ ∃ k : Nat, r = nI k ∧ k ≤ 9) ∧ True) (fun _ _ => True) (fun q : Nat => s.heap.size ≤ q)) ([.ref h0] : List Value).toArray s 0 0 (fun q : Nat => s.heap.size ≤ q)) (F0 m 51 ls []) := by
              intro nf
              induction nf with
              | zero => intro j11 h1 h2; exact absurd h1 (by omega)
              | succ nf ih51_12 =>
                intro j11 hn13 hj14  H locs hP hS ls hl
                refine lv_iload_n hx hb dX11_nameHere_51 rfl (lv_at hl 1 rfl) ?_
                refine lv_if_eq (tgt := 106) hx hb dX11_nameHere_52 (by decide) (fun c15 => ?_) (fun c15 => ?_)
                · skip
                  refine lv_iload_n hx hb dX11_nameHere_106 rfl (lv_at hl 1 rfl) ?_
                  refine lv_if_eq (tgt := 112) hx hb dX11_nameHere_107 (by decide) (fun c16 => ?_) (fun c16 => ?_)
                  · skip
                    refine lv_iinc (v := nI (j1 + 1)) (lv' := [(1, .int (nI (j1 + 1))), (3, .int (nI j11)), (2, .int 0), (0, .ref h0)]) hx hb dX11_nameHere_112 hl (k := 2) rfl (by rw [show Int32.ofInt 1 = nI 1 from by decide]; exact nI_add _ _) (by decide) rfl (fun ls hl => ?_)
                    refine lv_goto (tgt := 2) hx hb dX11_nameHere_115 (by decide) ?_
                    exact ih2_2 (j1 + 1) (by omega) (by omega)  _ _ hP hS ls (lv_sub hl [0, 3] rfl)
                  · skip
                    exact absurd c16 (by decide)
                · skip
                  exact absurd c15 (by decide)
            exact loop51_12 ((nsp - nhe) + 1) 0 (by omega) (by omega)  _ _ hP hS ls (lv_sub hl [0, 1, 2, 3] rfl)
          · skip
            have n17 : (nsp - nhe) = ((cutL.getD (j1 + 1) 0) - (cutL.getD j1 0)) := by have t := eqI c9; rw [nI_toInt (n := (nsp - nhe)) (by omega)] at t; rw [nI_toInt (n := ((cutL.getD (j1 + 1) 0) - (cutL.getD j1 0))) (by omega)] at t; omega
            refine lv_iconst (v := 1) hx hb dX11_nameHere_43 (by decide) ?_
            refine lv_goto (tgt := 48) hx hb dX11_nameHere_44 (by decide) ?_
            refine lv_istore_n (lv' := [(2, .int 1), (1, .int (nI j1)), (0, .ref h0)]) hx hb dX11_nameHere_48 rfl hl (by decide) rfl (fun ls hl => ?_)
            refine lv_iconst (v := 0) hx hb dX11_nameHere_49 (by decide) ?_
            refine lv_istore_n (lv' := [(3, .int 0), (2, .int 1), (1, .int (nI j1)), (0, .ref h0)]) hx hb dX11_nameHere_50 rfl hl (by decide) rfl (fun ls hl => ?_)
            have loop51_20 : ∀ (nf j18 : Nat), (nsp - nhe) + 1 ≤ j18 + nf → j18 ≤ (nsp - nhe) → ∀ (y19 : Int32) (H : Heap) (locs : List Loc), va_P (dC, dI) vwCl [(h0, .inr (11, [.ref st, .int (nI N), .int (nI B), .ref rp, .int vrs, .int vrb, .int vhs, .int vca, .int vxs, .int vxb, .ref tp, .int (nI T), .int vfa, .int vbr, .int vba, .int (nI nsp), .int (nI nhe), .int vtk, .int vva, .ref cu, .ref lt, .ref od, .ref th, .ref be, .ref ln, .int (nI S), .ref ma, .int (nI M), .ref ah, .ref bh, .ref ik, .ref la, .ref lg, .ref ce, .int vto])), (tp, .inl (G 0, 320, .inl ftp)), (cu, .inl (G 0, 11, .inl fcu)), (lt, .inl (G 0, 54, .inl flt))] H → va_S (fun q : Nat => s.heap.size ≤ q) s.heap H locs → ∀ (ls : Array Slot), lv_has ls 4 [(3, .int (nI j18)), (2, .int y19), (1, .int (nI j1)), (0, .ref h0)] → W p l e (headSpec (Cond.code yX11_nameHere cX11_nameHere 4 (some .int) :: GT) ({ frames := 1, cells := 0, slots := 0, locals := 21 } : Room)).room s m ([.ref h0] : List Value).toArray below meth c H locs 0 0 (MQ below (va_Qi (fun (r : Int32) (u : Unit) => match u with | _ => (r = -4 ∨ ∃ k : Nat, r = nI k ∧ k ≤ 9) ∧ True) (fun _ _ => True) (fun q : Nat => s.heap.size ≤ q)) ([.ref h0] : List Value).toArray s 0 0 (fun q : Nat => s.heap.size ≤ q)) (F0 m 51 ls []) := by
              intro nf
              induction nf with
              | zero => intro j18 h1 h2; exact absurd h1 (by omega)
              | succ nf ih51_20 =>
                intro j18 hn21 hj22 y19 H locs hP hS ls hl
                refine lv_iload_n hx hb dX11_nameHere_51 rfl (lv_at hl 1 rfl) ?_
                refine lv_if_eq (tgt := 106) hx hb dX11_nameHere_52 (by decide) (fun c23 => ?_) (fun c23 => ?_)
                · skip
                  refine lv_iload_n hx hb dX11_nameHere_106 rfl (lv_at hl 1 rfl) ?_
                  refine lv_if_eq (tgt := 112) hx hb dX11_nameHere_107 (by decide) (fun c24 => ?_) (fun c24 => ?_)
                  · skip
                    refine lv_iinc (v := nI (j1 + 1)) (lv' := [(1, .int (nI (j1 + 1))), (3, .int (nI j18)), (2, .int y19), (0, .ref h0)]) hx hb dX11_nameHere_112 hl (k := 2) rfl (by rw [show Int32.ofInt 1 = nI 1 from by decide]; exact nI_add _ _) (by decide) rfl (fun ls hl => ?_)
                    refine lv_goto (tgt := 2) hx hb dX11_nameHere_115 (by decide) ?_
                    exact ih2_2 (j1 + 1) (by omega) (by omega)  _ _ hP hS ls (lv_sub hl [0, 3] rfl)
                  · skip
                    have t_hj4 := hj4
                    have t_n7 := n7
                    have t_c8 := eqI c8
                    have t_hcmj1 := hcmj1
                    have t_n17 := n17
                    have t_hj22 := hj22
                    have t_c23 := eqI c23
                    have t_c24 := neI c24
                    have : (0 : Int32).toInt = 0 := (by decide)
                    have : (1 : Int32).toInt = 1 := (by decide)
                    have t_n0 : (nI N).toInt = (N : Int) := nI_toInt (by omega)
                    have t_n1 : (nI B).toInt = (B : Int) := nI_toInt (by omega)
                    have t_n2 : (nI T).toInt = (T : Int) := nI_toInt (by omega)
                    have t_n3 : (nI nsp).toInt = (nsp : Int) := nI_toInt (by omega)
                    have t_n4 : (nI nhe).toInt = (nhe : Int) := nI_toInt (by omega)
                    have t_n5 : (nI S).toInt = (S : Int) := nI_toInt (by omega)
                    have t_n6 : (nI M).toInt = (M : Int) := nI_toInt (by omega)
                    have t_n7 : (nI j1).toInt = (j1 : Int) := nI_toInt (by omega)
                    have t_n8 : (nI j18).toInt = (j18 : Int) := nI_toInt (by omega)
                    exfalso; omega
                · skip
                  refine lv_iload_n hx hb dX11_nameHere_55 rfl (lv_at hl 0 rfl) ?_
                  refine lv_aload_n hx hb dX11_nameHere_56 rfl (lv_at hl 3 rfl) ?_
                  refine va_get (D := (dC, dI)) (ci := 11) (v := .int (nI nsp)) (C := RX11) (T := TX11) (N := 35) hx hb hg inG11 hown hK.1 hP 0 rfl rfl 15 (by decide) (hg _ wt_893) (fun _ h9 => h9) rfl dX11_nameHere_57 ?_
                  refine lv_aload_n hx hb dX11_nameHere_60 rfl (lv_at hl 3 rfl) ?_
                  refine va_get (D := (dC, dI)) (ci := 11) (v := .int (nI nhe)) (C := RX11) (T := TX11) (N := 35) hx hb hg inG11 hown hK.1 hP 0 rfl rfl 16 (by decide) (hg _ wt_894) (fun _ h9 => h9) rfl dX11_nameHere_61 ?_
                  refine lv_isub hx hb dX11_nameHere_64 ?_
                  refine lv_cg (y := nI (nsp - nhe)) (by exact pk_sub (by have t_hj4 := hj4; have t_n7 := n7; have t_c8 := eqI c8; have t_hcmj1 := hcmj1; have t_n17 := n17; have t_hj22 := hj22; have t_c23 := neI c23; have : (0 : Int32).toInt = 0 := (by decide); have : (1 : Int32).toInt = 1 := (by decide); have t_n0 : (nI N).toInt = (N : Int) := nI_toInt (by omega); have t_n1 : (nI B).toInt = (B : Int) := nI_toInt (by omega); have t_n2 : (nI T).toInt = (T : Int) := nI_toInt (by omega); have t_n3 : (nI nsp).toInt = (nsp : Int) := nI_toInt (by omega); have t_n4 : (nI nhe).toInt = (nhe : Int) := nI_toInt (by omega); have t_n5 : (nI S).toInt = (S : Int) := nI_toInt (by omega); have t_n6 : (nI M).toInt = (M : Int) := nI_toInt (by omega); have t_n7 : (nI j1).toInt = (j1 : Int) := nI_toInt (by omega); have t_n8 : (nI j18).toInt = (j18 : Int) := nI_toInt (by omega); omega)) ?_
                  refine lv_icmp_ge (tgt := 106) hx hb dX11_nameHere_65 (by decide) (fun c25 => ?_) (fun c25 => ?_)
                  · skip
                    have n26 : (nsp - nhe) ≤ j18 := by have t := leI c25; rw [nI_toInt (n := j18) (by omega)] at t; rw [nI_toInt (n := (nsp - nhe)) (by omega)] at t; omega
                    refine lv_iload_n hx hb dX11_nameHere_106 rfl (lv_at hl 1 rfl) ?_
                    refine lv_if_eq (tgt := 112) hx hb dX11_nameHere_107 (by decide) (fun c27 => ?_) (fun c27 => ?_)
                    · skip
                      have t_hj4 := hj4
                      have t_n7 := n7
                      have t_c8 := eqI c8
                      have t_hcmj1 := hcmj1
                      have t_n17 := n17
                      have t_hj22 := hj22
                      have t_c23 := neI c23
                      have t_n26 := n26
                      have t_c27 := eqI c27
                      have : (0 : Int32).toInt = 0 := (by decide)
                      have : (1 : Int32).toInt = 1 := (by decide)
                      have t_n0 : (nI N).toInt = (N : Int) := nI_toInt (by omega)
                      have t_n1 : (nI B).toInt = (B : Int) := nI_toInt (by omega)
                      have t_n2 : (nI T).toInt = (T : Int) := nI_toInt (by omega)
                      have t_n3 : (nI nsp).toInt = (nsp : Int) := nI_toInt (by omega)
                      have t_n4 : (nI nhe).toInt = (nhe : Int) := nI_toInt (by omega)
                      have t_n5 : (nI S).toInt = (S : Int) := nI_toInt (by omega)
                      have t_n6 : (nI M).toInt = (M : Int) := nI_toInt (by omega)
                      have t_n7 : (nI j1).toInt = (j1 : Int) := nI_toInt (by omega)
                      have t_n8 : (nI j18).toInt = (j18 : Int) := nI_toInt (by omega)
                      exfalso; omega
                    · skip
                      refine lv_iload_n hx hb dX11_nameHere_110 rfl (lv_at hl 2 rfl) ?_
                      have hpost : (nI j1 : Int32) = -4 ∨ ∃ k : Nat, (nI j1 : Int32) = nI k ∧ k ≤ 9 := by
                        have t_hj4 := hj4
                        have t_n7 := n7
                        have t_c8 := eqI c8
                        have t_hcmj1 := hcmj1
                        have t_n17 := n17
                        have t_hj22 := hj22
                        have t_c23 := neI c23
                        have t_n26 := n26
                        have t_c27 := neI c27
                        have : (0 : Int32).toInt = 0 := (by decide)
                        have : (1 : Int32).toInt = 1 := (by decide)
                        have t_n0 : (nI N).toInt = (N : Int) := nI_toInt (by omega)
                        have t_n1 : (nI B).toInt = (B : Int) := nI_toInt (by omega)
                        have t_n2 : (nI T).toInt = (T : Int) := nI_toInt (by omega)
                        have t_n3 : (nI nsp).toInt = (nsp : Int) := nI_toInt (by omega)
                        have t_n4 : (nI nhe).toInt = (nhe : Int) := nI_toInt (by omega)
                        have t_n5 : (nI S).toInt = (S : Int) := nI_toInt (by omega)
                        have t_n6 : (nI M).toInt = (M : Int) := nI_toInt (by omega)
                        have t_n7 : (nI j1).toInt = (j1 : Int) := nI_toInt (by omega)
                        have t_n8 : (nI j18).toInt = (j18 : Int) := nI_toInt (by omega)
                        exact Or.inr ⟨j1, rfl, by omega⟩
                      refine W.widen (k := 0) (n := 0) (by omega) (by omega) ?_
                      exact W.iret (v := nI j1) hx hb hr (fun t ht hW => ⟨⟨nI j1, (), rfl, ⟨hpost, trivial⟩, trivial⟩, hS.F ht⟩) hS.2.2 dX11_nameHere_111
                  · skip
                    have n28 : j18 < (nsp - nhe) := by have t := nleI c25; rw [nI_toInt (n := j18) (by omega)] at t; rw [nI_toInt (n := (nsp - nhe)) (by omega)] at t; omega
                    refine lv_aload_n hx hb dX11_nameHere_68 rfl (lv_at hl 3 rfl) ?_
                    refine lv_aload_n hx hb dX11_nameHere_69 rfl (lv_at hl 3 rfl) ?_
                    refine va_get (D := (dC, dI)) (ci := 11) (v := .int (nI nhe)) (C := RX11) (T := TX11) (N := 35) hx hb hg inG11 hown hK.1 hP 0 rfl rfl 16 (by decide) (hg _ wt_894) (fun _ h9 => h9) rfl dX11_nameHere_70 ?_
                    refine lv_iload_n hx hb dX11_nameHere_73 rfl (lv_at hl 0 rfl) ?_
                    refine lv_iadd hx hb dX11_nameHere_74 ?_
                    refine lv_cg (y := nI (nhe + j18)) (by exact nI_add _ _) ?_
                    have hPc := hP.sub (ws' := [(h0, .inr (11, [.ref st, .int (nI N), .int (nI B), .ref rp, .int vrs, .int vrb, .int vhs, .int vca, .int vxs, .int vxb, .ref tp, .int (nI T), .int vfa, .int vbr, .int vba, .int (nI nsp), .int (nI nhe), .int vtk, .int vva, .ref cu, .ref lt, .ref od, .ref th, .ref be, .ref ln, .int (nI S), .ref ma, .int (nI M), .ref ah, .ref bh, .ref ik, .ref la, .ref lg, .ref ce, .int vto])), (tp, .inl (G 0, 320, .inl ftp))]) [0, 1] rfl
                    refine va_calli (va_runV (As := [.int (nI (nhe + j18))]) (rest := []) ⟨hx, hb, hml, hown, hg⟩ (c_X11_byteAt l dC dI G _ h0 (nhe + j18) st N B rp tp T cu lt od th be ln S ma M ah bh ik la lg ce vrs vrb vhs vca vxs vxb vfa vbr vba (nI nsp) (nI nhe) vtk vva vto ftp (by have t_hj4 := hj4; have t_n7 := n7; have t_c8 := eqI c8; have t_hcmj1 := hcmj1; have t_n17 := n17; have t_hj22 := hj22; have t_c23 := neI c23; have t_n28 := n28; have : (0 : Int32).toInt = 0 := (by decide); have : (1 : Int32).toInt = 1 := (by decide); have t_n0 : (nI N).toInt = (N : Int) := nI_toInt (by omega); have t_n1 : (nI B).toInt = (B : Int) := nI_toInt (by omega); have t_n2 : (nI T).toInt = (T : Int) := nI_toInt (by omega); have t_n3 : (nI nsp).toInt = (nsp : Int) := nI_toInt (by omega); have t_n4 : (nI nhe).toInt = (nhe : Int) := nI_toInt (by omega); have t_n5 : (nI S).toInt = (S : Int) := nI_toInt (by omega); have t_n6 : (nI M).toInt = (M : Int) := nI_toInt (by omega); have t_n7 : (nI j1).toInt = (j1 : Int) := nI_toInt (by omega); have t_n8 : (nI j18).toInt = (j18 : Int) := nI_toInt (by omega); omega) (by have t_hj4 := hj4; have t_n7 := n7; have t_c8 := eqI c8; have t_hcmj1 := hcmj1; have t_n17 := n17; have t_hj22 := hj22; have t_c23 := neI c23; have t_n28 := n28; have : (0 : Int32).toInt = 0 := (by decide); have : (1 : Int32).toInt = 1 := (by decide); have t_n0 : (nI N).toInt = (N : Int) := nI_toInt (by omega); have t_n1 : (nI B).toInt = (B : Int) := nI_toInt (by omega); have t_n2 : (nI T).toInt = (T : Int) := nI_toInt (by omega); have t_n3 : (nI nsp).toInt = (nsp : Int) := nI_toInt (by omega); have t_n4 : (nI nhe).toInt = (nhe : Int) := nI_toInt (by omega); have t_n5 : (nI S).toInt = (S : Int) := nI_toInt (by omega); have t_n6 : (nI M).toInt = (M : Int) := nI_toInt (by omega); have t_n7 : (nI j1).toInt = (j1 : Int) := nI_toInt (by omega); have t_n8 : (nI j18).toInt = (j18 : Int) := nI_toInt (by omega); omega) (by have t_hj4 := hj4; have t_n7 := n7; have t_c8 := eqI c8; have t_hcmj1 := hcmj1; have t_n17 := n17; have t_hj22 := hj22; have t_c23 := neI c23; have t_n28 := n28; have : (0 : Int32).toInt = 0 := (by decide); have : (1 : Int32).toInt = 1 := (by decide); have t_n0 : (nI N).toInt = (N : Int) := nI_toInt (by omega); have t_n1 : (nI B).toInt = (B : Int) := nI_toInt (by omega); have t_n2 : (nI T).toInt = (T : Int) := nI_toInt (by omega); have t_n3 : (nI nsp).toInt = (nsp : Int) := nI_toInt (by omega); have t_n4 : (nI nhe).toInt = (nhe : Int) := nI_toInt (by omega); have t_n5 : (nI S).toInt = (S : Int) := nI_toInt (by omega); have t_n6 : (nI M).toInt = (M : Int) := nI_toInt (by omega); have t_n7 : (nI j1).toInt = (j1 : Int) := nI_toInt (by omega); have t_n8 : (nI j18).toInt = (j18 : Int) := nI_toInt (by omega); omega) (by have t_hj4 := hj4; have t_n7 := n7; have t_c8 := eqI c8; have t_hcmj1 := hcmj1; have t_n17 := n17; have t_hj22 := hj22; have t_c23 := neI c23; have t_n28 := n28; have : (0 : Int32).toInt = 0 := (by decide); have : (1 : Int32).toInt = 1 := (by decide); have t_n0 : (nI N).toInt = (N : Int) := nI_toInt (by omega); have t_n1 : (nI B).toInt = (B : Int) := nI_toInt (by omega); have t_n2 : (nI T).toInt = (T : Int) := nI_toInt (by omega); have t_n3 : (nI nsp).toInt = (nsp : Int) := nI_toInt (by omega); have t_n4 : (nI nhe).toInt = (nhe : Int) := nI_toInt (by omega); have t_n5 : (nI S).toInt = (S : Int) := nI_toInt (by omega); have t_n6 : (nI M).toInt = (M : Int) := nI_toInt (by omega); have t_n7 : (nI j1).toInt = (j1 : Int) := nI_toInt (by omega); have t_n8 : (nI j18).toInt = (j18 : Int) := nI_toInt (by omega); omega) (by have t_hj4 := hj4; have t_n7 := n7; have t_c8 := eqI c8; have t_hcmj1 := hcmj1; have t_n17 := n17; have t_hj22 := hj22; have t_c23 := neI c23; have t_n28 := n28; have : (0 : Int32).toInt = 0 := (by decide); have : (1 : Int32).toInt = 1 := (by decide); have t_n0 : (nI N).toInt = (N : Int) := nI_toInt (by omega); have t_n1 : (nI B).toInt = (B : Int) := nI_toInt (by omega); have t_n2 : (nI T).toInt = (T : Int) := nI_toInt (by omega); have t_n3 : (nI nsp).toInt = (nsp : Int) := nI_toInt (by omega); have t_n4 : (nI nhe).toInt = (nhe : Int) := nI_toInt (by omega); have t_n5 : (nI S).toInt = (S : Int) := nI_toInt (by omega); have t_n6 : (nI M).toInt = (M : Int) := nI_toInt (by omega); have t_n7 : (nI j1).toInt = (j1 : Int) := nI_toInt (by omega); have t_n8 : (nI j18).toInt = (j18 : Int) := nI_toInt (by omega); omega) (by have t_hj4 := hj4; have t_n7 := n7; have t_c8 := eqI c8; have t_hcmj1 := hcmj1; have t_n17 := n17; have t_hj22 := hj22; have t_c23 := neI c23; have t_n28 := n28; have : (0 : Int32).toInt = 0 := (by decide); have : (1 : Int32).toInt = 1 := (by decide); have t_n0 : (nI N).toInt = (N : Int) := nI_toInt (by omega); have t_n1 : (nI B).toInt = (B : Int) := nI_toInt (by omega); have t_n2 : (nI T).toInt = (T : Int) := nI_toInt (by omega); have t_n3 : (nI nsp).toInt = (nsp : Int) := nI_toInt (by omega); have t_n4 : (nI nhe).toInt = (nhe : Int) := nI_toInt (by omega); have t_n5 : (nI S).toInt = (S : Int) := nI_toInt (by omega); have t_n6 : (nI M).toInt = (M : Int) := nI_toInt (by omega); have t_n7 : (nI j1).toInt = (j1 : Int) := nI_toInt (by omega); have t_n8 : (nI j18).toInt = (j18 : Int) := nI_toInt (by omega); omega)) (kwV hg mfX11_byteAt wt_1003 ⟨Nat.le_of_ble_eq_true rfl, Nat.le_of_ble_eq_true rfl⟩) (preVR hK hPc (ci := 11) rfl rfl) rfl rfl hl.1 rfl (lv_room (Nat.le_of_ble_eq_true rfl)) dX11_nameHere_75 ⟨Nat.le_of_ble_eq_true rfl, Nat.le_of_ble_eq_true rfl⟩) hS (fun q h1 h2 => absurd h2 (Nat.not_le.mpr h1)) (fun q h => hA q (Nat.le_trans hS.1 h)) (fun r29 ur29 t H1 locs ht hvm w30 hB hz1 hk1 hS => ?_)
                    have hP := keepR hP hk1
                    obtain ⟨w30, w30x⟩ := w30
                    rcases w30 with ⟨w301, w302⟩ | ⟨w301, w302⟩
                    · skip
                      refine lv_cg (y := ftp (nhe + j18)) w302 ?_
                      refine lv_aload_n hx hb dX11_nameHere_78 rfl (lv_at hl 3 rfl) ?_
                      refine va_get (D := (dC, dI)) (ci := 11) (v := .ref lt) (C := RX11) (T := TX11) (N := 35) hx hb hg inG11 hown hK.1 hP 0 rfl rfl 20 (by decide) (hg _ wt_898) (fun _ h9 => h9) rfl dX11_nameHere_79 ?_
                      refine lv_aload_n hx hb dX11_nameHere_82 rfl (lv_at hl 3 rfl) ?_
                      refine va_get (D := (dC, dI)) (ci := 11) (v := .ref cu) (C := RX11) (T := TX11) (N := 35) hx hb hg inG11 hown hK.1 hP 0 rfl rfl 19 (by decide) (hg _ wt_897) (fun _ h9 => h9) rfl dX11_nameHere_83 ?_
                      refine lv_iload_n hx hb dX11_nameHere_86 rfl (lv_at hl 2 rfl) ?_
                      refine va_iald hx hb hK.1 hP 2 0 rfl rfl (vp_in_nI (by have t_hj4 := hj4; have t_n7 := n7; have t_c8 := eqI c8; have t_hcmj1 := hcmj1; have t_n17 := n17; have t_hj22 := hj22; have t_c23 := neI c23; have t_n28 := n28; have t_w301 := w301; have : (0 : Int32).toInt = 0 := (by decide); have : (1 : Int32).toInt = 1 := (by decide); have t_n0 : (nI N).toInt = (N : Int) := nI_toInt (by omega); have t_n1 : (nI B).toInt = (B : Int) := nI_toInt (by omega); have t_n2 : (nI T).toInt = (T : Int) := nI_toInt (by omega); have t_n3 : (nI nsp).toInt = (nsp : Int) := nI_toInt (by omega); have t_n4 : (nI nhe).toInt = (nhe : Int) := nI_toInt (by omega); have t_n5 : (nI S).toInt = (S : Int) := nI_toInt (by omega); have t_n6 : (nI M).toInt = (M : Int) := nI_toInt (by omega); have t_n7 : (nI j1).toInt = (j1 : Int) := nI_toInt (by omega); have t_n8 : (nI j18).toInt = (j18 : Int) := nI_toInt (by omega); omega) (by decide)) dX11_nameHere_87 ?_
                      refine lv_cg (y := fcu j1) (by rw [nI_clamp (by omega)]) ?_
                      refine lv_cg (y := nI (cutL.getD j1 0)) (hc j1 (by omega)) ?_
                      refine lv_iload_n hx hb dX11_nameHere_88 rfl (lv_at hl 0 rfl) ?_
                      refine lv_iadd hx hb dX11_nameHere_89 ?_
                      refine lv_cg (y := nI ((cutL.getD j1 0) + j18)) (by exact nI_add _ _) ?_
                      refine va_iald hx hb hK.1 hP 3 0 rfl rfl (vp_in_nI (by have t_hj4 := hj4; have t_n7 := n7; have t_c8 := eqI c8; have t_hcmj1 := hcmj1; have t_n17 := n17; have t_hj22 := hj22; have t_c23 := neI c23; have t_n28 := n28; have t_w301 := w301; have : (0 : Int32).toInt = 0 := (by decide); have : (1 : Int32).toInt = 1 := (by decide); have t_n0 : (nI N).toInt = (N : Int) := nI_toInt (by omega); have t_n1 : (nI B).toInt = (B : Int) := nI_toInt (by omega); have t_n2 : (nI T).toInt = (T : Int) := nI_toInt (by omega); have t_n3 : (nI nsp).toInt = (nsp : Int) := nI_toInt (by omega); have t_n4 : (nI nhe).toInt = (nhe : Int) := nI_toInt (by omega); have t_n5 : (nI S).toInt = (S : Int) := nI_toInt (by omega); have t_n6 : (nI M).toInt = (M : Int) := nI_toInt (by omega); have t_n7 : (nI j1).toInt = (j1 : Int) := nI_toInt (by omega); have t_n8 : (nI j18).toInt = (j18 : Int) := nI_toInt (by omega); omega) (by decide)) dX11_nameHere_90 ?_
                      refine lv_cg (y := flt ((cutL.getD j1 0) + j18)) (by rw [nI_clamp (by omega)]) ?_
                      have cut99_32 : ∀ (y31 : Int32) (H : Heap) (locs : List Loc), va_P (dC, dI) vwCl [(h0, .inr (11, [.ref st, .int (nI N), .int (nI B), .ref rp, .int vrs, .int vrb, .int vhs, .int vca, .int vxs, .int vxb, .ref tp, .int (nI T), .int vfa, .int vbr, .int vba, .int (nI nsp), .int (nI nhe), .int vtk, .int vva, .ref cu, .ref lt, .ref od, .ref th, .ref be, .ref ln, .int (nI S), .ref ma, .int (nI M), .ref ah, .ref bh, .ref ik, .ref la, .ref lg, .ref ce, .int vto])), (tp, .inl (G 0, 320, .inl ftp)), (cu, .inl (G 0, 11, .inl fcu)), (lt, .inl (G 0, 54, .inl flt))] H → va_S (fun q : Nat => s.heap.size ≤ q) s.heap H locs → ∀ (ls : Array Slot), lv_has ls 4 [(3, .int (nI j18)), (2, .int y19), (1, .int (nI j1)), (0, .ref h0)] → W p l e (headSpec (Cond.code yX11_nameHere cX11_nameHere 4 (some .int) :: GT) ({ frames := 1, cells := 0, slots := 0, locals := 21 } : Room)).room s m ([.ref h0] : List Value).toArray below meth c H locs 0 0 (MQ below (va_Qi (fun (r : Int32) (u : Unit) => match u with | _ => (r = -4 ∨ ∃ k : Nat, r = nI k ∧ k ≤ 9) ∧ True) (fun _ _ => True) (fun q : Nat => s.heap.size ≤ q)) ([.ref h0] : List Value).toArray s 0 0 (fun q : Nat => s.heap.size ≤ q)) (F0 m 99 ls [.int y31]) := by
                        intro y31 H locs hP hS ls hl
                        refine lv_istore_n (lv' := [(2, .int y31), (3, .int (nI j18)), (1, .int (nI j1)), (0, .ref h0)]) hx hb dX11_nameHere_99 rfl hl (by decide) rfl (fun ls hl => ?_)
                        refine lv_iinc (v := nI (j18 + 1)) (lv' := [(3, .int (nI (j18 + 1))), (2, .int y31), (1, .int (nI j1)), (0, .ref h0)]) hx hb dX11_nameHere_100 hl (k := 1) rfl (by rw [show Int32.ofInt 1 = nI 1 from by decide]; exact nI_add _ _) (by decide) rfl (fun ls hl => ?_)
                        refine lv_goto (tgt := 51) hx hb dX11_nameHere_103 (by decide) ?_
                        exact ih51_20 (j18 + 1) (by omega) (by omega) y31 _ _ hP hS ls (lv_sub hl [0, 1, 2, 3] rfl)
                      refine lv_icmp_ne (tgt := 98) hx hb dX11_nameHere_91 (by decide) (fun c33 => ?_) (fun c33 => ?_)
                      · skip
                        refine lv_iconst (v := 0) hx hb dX11_nameHere_98 (by decide) ?_
                        exact cut99_32 0 _ _ hP hS ls (lv_sub hl [0, 1, 2, 3] rfl)
                      · skip
                        refine lv_iconst (v := 1) hx hb dX11_nameHere_94 (by decide) ?_
                        refine lv_goto (tgt := 99) hx hb dX11_nameHere_95 (by decide) ?_
                        exact cut99_32 1 _ _ hP hS ls (lv_sub hl [0, 1, 2, 3] rfl)
                    · skip
                      refine lv_cg (y := (-4)) w302 ?_
                      refine lv_aload_n hx hb dX11_nameHere_78 rfl (lv_at hl 3 rfl) ?_
                      refine va_get (D := (dC, dI)) (ci := 11) (v := .ref lt) (C := RX11) (T := TX11) (N := 35) hx hb hg inG11 hown hK.1 hP 0 rfl rfl 20 (by decide) (hg _ wt_898) (fun _ h9 => h9) rfl dX11_nameHere_79 ?_
                      refine lv_aload_n hx hb dX11_nameHere_82 rfl (lv_at hl 3 rfl) ?_
                      refine va_get (D := (dC, dI)) (ci := 11) (v := .ref cu) (C := RX11) (T := TX11) (N := 35) hx hb hg inG11 hown hK.1 hP 0 rfl rfl 19 (by decide) (hg _ wt_897) (fun _ h9 => h9) rfl dX11_nameHere_83 ?_
                      refine lv_iload_n hx hb dX11_nameHere_86 rfl (lv_at hl 2 rfl) ?_
                      refine va_iald hx hb hK.1 hP 2 0 rfl rfl (vp_in_nI (by have t_hj4 := hj4; have t_n7 := n7; have t_c8 := eqI c8; have t_hcmj1 := hcmj1; have t_n17 := n17; have t_hj22 := hj22; have t_c23 := neI c23; have t_n28 := n28; have t_w301 := w301; have : (0 : Int32).toInt = 0 := (by decide); have : (1 : Int32).toInt = 1 := (by decide); have t_n0 : (nI N).toInt = (N : Int) := nI_toInt (by omega); have t_n1 : (nI B).toInt = (B : Int) := nI_toInt (by omega); have t_n2 : (nI T).toInt = (T : Int) := nI_toInt (by omega); have t_n3 : (nI nsp).toInt = (nsp : Int) := nI_toInt (by omega); have t_n4 : (nI nhe).toInt = (nhe : Int) := nI_toInt (by omega); have t_n5 : (nI S).toInt = (S : Int) := nI_toInt (by omega); have t_n6 : (nI M).toInt = (M : Int) := nI_toInt (by omega); have t_n7 : (nI j1).toInt = (j1 : Int) := nI_toInt (by omega); have t_n8 : (nI j18).toInt = (j18 : Int) := nI_toInt (by omega); omega) (by decide)) dX11_nameHere_87 ?_
                      refine lv_cg (y := fcu j1) (by rw [nI_clamp (by omega)]) ?_
                      refine lv_cg (y := nI (cutL.getD j1 0)) (hc j1 (by omega)) ?_
                      refine lv_iload_n hx hb dX11_nameHere_88 rfl (lv_at hl 0 rfl) ?_
                      refine lv_iadd hx hb dX11_nameHere_89 ?_
                      refine lv_cg (y := nI ((cutL.getD j1 0) + j18)) (by exact nI_add _ _) ?_
                      refine va_iald hx hb hK.1 hP 3 0 rfl rfl (vp_in_nI (by have t_hj4 := hj4; have t_n7 := n7; have t_c8 := eqI c8; have t_hcmj1 := hcmj1; have t_n17 := n17; have t_hj22 := hj22; have t_c23 := neI c23; have t_n28 := n28; have t_w301 := w301; have : (0 : Int32).toInt = 0 := (by decide); have : (1 : Int32).toInt = 1 := (by decide); have t_n0 : (nI N).toInt = (N : Int) := nI_toInt (by omega); have t_n1 : (nI B).toInt = (B : Int) := nI_toInt (by omega); have t_n2 : (nI T).toInt = (T : Int) := nI_toInt (by omega); have t_n3 : (nI nsp).toInt = (nsp : Int) := nI_toInt (by omega); have t_n4 : (nI nhe).toInt = (nhe : Int) := nI_toInt (by omega); have t_n5 : (nI S).toInt = (S : Int) := nI_toInt (by omega); have t_n6 : (nI M).toInt = (M : Int) := nI_toInt (by omega); have t_n7 : (nI j1).toInt = (j1 : Int) := nI_toInt (by omega); have t_n8 : (nI j18).toInt = (j18 : Int) := nI_toInt (by omega); omega) (by decide)) dX11_nameHere_90 ?_
                      refine lv_cg (y := flt ((cutL.getD j1 0) + j18)) (by rw [nI_clamp (by omega)]) ?_
                      have cut99_35 : ∀ (y34 : Int32) (H : Heap) (locs : List Loc), va_P (dC, dI) vwCl [(h0, .inr (11, [.ref st, .int (nI N), .int (nI B), .ref rp, .int vrs, .int vrb, .int vhs, .int vca, .int vxs, .int vxb, .ref tp, .int (nI T), .int vfa, .int vbr, .int vba, .int (nI nsp), .int (nI nhe), .int vtk, .int vva, .ref cu, .ref lt, .ref od, .ref th, .ref be, .ref ln, .int (nI S), .ref ma, .int (nI M), .ref ah, .ref bh, .ref ik, .ref la, .ref lg, .ref ce, .int vto])), (tp, .inl (G 0, 320, .inl ftp)), (cu, .inl (G 0, 11, .inl fcu)), (lt, .inl (G 0, 54, .inl flt))] H → va_S (fun q : Nat => s.heap.size ≤ q) s.heap H locs → ∀ (ls : Array Slot), lv_has ls 4 [(3, .int (nI j18)), (2, .int y19), (1, .int (nI j1)), (0, .ref h0)] → W p l e (headSpec (Cond.code yX11_nameHere cX11_nameHere 4 (some .int) :: GT) ({ frames := 1, cells := 0, slots := 0, locals := 21 } : Room)).room s m ([.ref h0] : List Value).toArray below meth c H locs 0 0 (MQ below (va_Qi (fun (r : Int32) (u : Unit) => match u with | _ => (r = -4 ∨ ∃ k : Nat, r = nI k ∧ k ≤ 9) ∧ True) (fun _ _ => True) (fun q : Nat => s.heap.size ≤ q)) ([.ref h0] : List Value).toArray s 0 0 (fun q : Nat => s.heap.size ≤ q)) (F0 m 99 ls [.int y34]) := by
                        intro y34 H locs hP hS ls hl
                        refine lv_istore_n (lv' := [(2, .int y34), (3, .int (nI j18)), (1, .int (nI j1)), (0, .ref h0)]) hx hb dX11_nameHere_99 rfl hl (by decide) rfl (fun ls hl => ?_)
                        refine lv_iinc (v := nI (j18 + 1)) (lv' := [(3, .int (nI (j18 + 1))), (2, .int y34), (1, .int (nI j1)), (0, .ref h0)]) hx hb dX11_nameHere_100 hl (k := 1) rfl (by rw [show Int32.ofInt 1 = nI 1 from by decide]; exact nI_add _ _) (by decide) rfl (fun ls hl => ?_)
                        refine lv_goto (tgt := 51) hx hb dX11_nameHere_103 (by decide) ?_
                        exact ih51_20 (j18 + 1) (by omega) (by omega) y34 _ _ hP hS ls (lv_sub hl [0, 1, 2, 3] rfl)
                      refine lv_icmp_ne (tgt := 98) hx hb dX11_nameHere_91 (by decide) (fun c36 => ?_) (fun c36 => ?_)
                      · skip
                        refine lv_iconst (v := 0) hx hb dX11_nameHere_98 (by decide) ?_
                        exact cut99_35 0 _ _ hP hS ls (lv_sub hl [0, 1, 2, 3] rfl)
                      · skip
                        refine lv_iconst (v := 1) hx hb dX11_nameHere_94 (by decide) ?_
                        refine lv_goto (tgt := 99) hx hb dX11_nameHere_95 (by decide) ?_
                        exact cut99_35 1 _ _ hP hS ls (lv_sub hl [0, 1, 2, 3] rfl)
            exact loop51_20 ((nsp - nhe) + 1) 0 (by omega) (by omega) 1 _ _ hP hS ls (lv_sub hl [0, 1, 2, 3] rfl)
  exact loop2_2 (10 + 1) 0 (by omega) (by omega)  _ _ hP hS ls (lv_sub hl [0, 1] rfl)

set_option maxHeartbeats 1000000 in
set_option maxRecDepth 100000 in
theorem c_X11_other (l : Launch) (dC : Nat → ClassId) (dI : Nat → Nat → Nat) (G : Nat → ClassId) (sz : Nat) (h0 st N B rp tp T nsp nhe cu lt od th be ln S ma M ah bh ik la lg ce : Nat) (lo xh sm vrs vrb vhs vca vxs vxb vfa vbr vba vtk vva vto : Int32) (ftp : Nat → Int32) (hN : N ≤ 10) (hB : B ≤ 6) (hT : T ≤ 320) (hS0 : S ≤ 8) (hM : M ≤ 6) (hbr : 0 ≤ vbr.toInt) (hsp : nsp ≤ T) (hhe : nhe ≤ nsp) (hlo : lo.toInt ≤ xh.toInt) : Met l yX11_other (Cond.code yX11_other cX11_other 5 (some .int) :: GT) ({ frames := 2, cells := 0, slots := 0, locals := 46 } : Room) (PcW [.ref h0, .int lo, .int xh, .int sm] dC dI G [(h0, .inr (11, [.ref st, .int (nI N), .int (nI B), .ref rp, .int vrs, .int vrb, .int vhs, .int vca, .int vxs, .int vxb, .ref tp, .int (nI T), .int vfa, .int vbr, .int vba, .int (nI nsp), .int (nI nhe), .int vtk, .int vva, .ref cu, .ref lt, .ref od, .ref th, .ref be, .ref ln, .int (nI S), .ref ma, .int (nI M), .ref ah, .ref bh, .ref ik, .ref la, .ref lg, .ref ce, .int vto])), (tp, .inl (G 0, 320, .inl ftp))] sz) (va_Qi (fun (r : Int32) (u : Int32 × Int32 × Nat × Nat × Int32 × Int32) => match u with | (obr, oba, osp, ohe, otk, ova) => (lo.toInt ≤ r.toInt ∧ r.toInt ≤ xh.toInt) ∧ 0 ≤ obr.toInt ∧ (vbr.toInt = 0 ∨ 0 < obr.toInt) ∧ nsp ≤ osp ∧ osp ≤ T ∧ ohe ≤ osp ∧ (0 < obr.toInt ∨ otk.toInt = 0 ∨ nsp < osp)) (fun (u : Int32 × Int32 × Nat × Nat × Int32 × Int32) (t : State) => match u with | (obr, oba, osp, ohe, otk, ova) => va_P (dC, dI) vwCl [(h0, .inr (11, [.ref st, .int (nI N), .int (nI B), .ref rp, .int vrs, .int vrb, .int vhs, .int vca, .int vxs, .int vxb, .ref tp, .int (nI T), .int vfa, .int obr, .int oba, .int (nI osp), .int (nI ohe), .int otk, .int ova, .ref cu, .ref lt, .ref od, .ref th, .ref be, .ref ln, .int (nI S), .ref ma, .int (nI M), .ref ah, .ref bh, .ref ik, .ref la, .ref lg, .ref ce, .int vto])), (tp, .inl (G 0, 320, .inl ftp))] t.heap ∧ va_D (va_A [(h0, .inr (11, [.ref st, .int (nI N), .int (nI B), .ref rp, .int vrs, .int vrb, .int vhs, .int vca, .int vxs, .int vxb, .ref tp, .int (nI T), .int vfa, .int vbr, .int vba, .int (nI nsp), .int (nI nhe), .int vtk, .int vva, .ref cu, .ref lt, .ref od, .ref th, .ref be, .ref ln, .int (nI S), .ref ma, .int (nI M), .ref ah, .ref bh, .ref ik, .ref la, .ref lg, .ref ce, .int vto])), (tp, .inl (G 0, 320, .inl ftp))] sz) [(h0, .inr (11, [.ref st, .int (nI N), .int (nI B), .ref rp, .int vrs, .int vrb, .int vhs, .int vca, .int vxs, .int vxb, .ref tp, .int (nI T), .int vfa, .int obr, .int oba, .int (nI osp), .int (nI ohe), .int otk, .int ova, .ref cu, .ref lt, .ref od, .ref th, .ref be, .ref ln, .int (nI S), .ref ma, .int (nI M), .ref ah, .ref bh, .ref ik, .ref la, .ref lg, .ref ce, .int vto])), (tp, .inl (G 0, 320, .inl ftp))]) (va_A [(h0, .inr (11, [.ref st, .int (nI N), .int (nI B), .ref rp, .int vrs, .int vrb, .int vhs, .int vca, .int vxs, .int vxb, .ref tp, .int (nI T), .int vfa, .int vbr, .int vba, .int (nI nsp), .int (nI nhe), .int vtk, .int vva, .ref cu, .ref lt, .ref od, .ref th, .ref be, .ref ln, .int (nI S), .ref ma, .int (nI M), .ref ah, .ref bh, .ref ik, .ref la, .ref lg, .ref ce, .int vto])), (tp, .inl (G 0, 320, .inl ftp))] sz)) 0 0 (va_A [(h0, .inr (11, [.ref st, .int (nI N), .int (nI B), .ref rp, .int vrs, .int vrb, .int vhs, .int vca, .int vxs, .int vxb, .ref tp, .int (nI T), .int vfa, .int vbr, .int vba, .int (nI nsp), .int (nI nhe), .int vtk, .int vva, .ref cu, .ref lt, .ref od, .ref th, .ref be, .ref ln, .int (nI S), .ref ma, .int (nI M), .ref ah, .ref bh, .ref ik, .ref la, .ref lg, .ref ce, .int vto])), (tp, .inl (G 0, 320, .inl ftp))] sz) := by
  refine Met.ofW (cc := cX11_other) (maxL := 5) (ret := (some .int)) (by decide) rfl ?_
  intro p e s m args below meth c s₁ Bd hml hv
  obtain ⟨rfl, hsz, hP, hK, hD0⟩ := hv
  have hx := Bd.exec
  have hb := Bd.bytes
  have hr := Bd.returns
  have hg : ∀ w ∈ GT, w.before ([.ref h0, .int lo, .int xh, .int sm] : List Value).toArray s = true := fun w h => atoms_spec (ws := Cond.code yX11_other cX11_other 5 (some .int) :: GT) Bd.pre w (List.mem_cons_of_mem _ h)
  have hown : s.vm.findClass RX11 = some m.cls := findClass_of_methodNamed Bd.named
  have hlocks := Bd.notSynchronized
  subst hsz
  have hD := hD0.self (sz := s.heap.size)
  generalize hAe : va_A [(h0, .inr (11, [.ref st, .int (nI N), .int (nI B), .ref rp, .int vrs, .int vrb, .int vhs, .int vca, .int vxs, .int vxb, .ref tp, .int (nI T), .int vfa, .int vbr, .int vba, .int (nI nsp), .int (nI nhe), .int vtk, .int vva, .ref cu, .ref lt, .ref od, .ref th, .ref be, .ref ln, .int (nI S), .ref ma, .int (nI M), .ref ah, .ref bh, .ref ik, .ref la, .ref lg, .ref ce, .int vto])), (tp, .inl (G 0, 320, .inl ftp))] s.heap.size = A at hD ⊢
  have hA : ∀ q : Nat, s.heap.size ≤ q → A q := fun q h => by rw [← hAe]; exact Or.inr h
  have hS : va_S A s.heap s.heap [] := va_S.rf
  have hl := lv_entry ([.ref h0, .int lo, .int xh, .int sm]) (n := 5) (Nat.le_of_ble_eq_true rfl)
  rw [lg_entry_eq]
  generalize (lg_sl ([.ref h0, .int lo, .int xh, .int sm]) ++ List.replicate (5 - (lg_sl ([.ref h0, .int lo, .int xh, .int sm])).length) Slot.unset).toArray = ls at hl ⊢
  have hl : lv_has ls 5 [(0, .ref h0), (1, .int lo), (2, .int xh), (3, .int sm)] := hl
  refine lv_aload_n hx hb dX11_other_0 rfl (lv_at hl 0 rfl) ?_
  refine va_get (D := (dC, dI)) (ci := 11) (v := .int vbr) (C := RX11) (T := TX11) (N := 35) hx hb hg inG11 hown hK.1 hP 0 rfl rfl 13 (by decide) (hg _ wt_891) (fun _ h9 => h9) rfl dX11_other_1 ?_
  refine lv_if_ne (tgt := 20) hx hb dX11_other_4 (by decide) (fun c1 => ?_) (fun c1 => ?_)
  · skip
    refine lv_aload_n hx hb dX11_other_20 rfl (lv_at hl 0 rfl) ?_
    refine va_get (D := (dC, dI)) (ci := 11) (v := .int vbr) (C := RX11) (T := TX11) (N := 35) hx hb hg inG11 hown hK.1 hP 0 rfl rfl 13 (by decide) (hg _ wt_891) (fun _ h9 => h9) rfl dX11_other_21 ?_
    refine lv_if_ne (tgt := 47) hx hb dX11_other_24 (by decide) (fun c2 => ?_) (fun c2 => ?_)
    · skip
      refine lv_aload_n hx hb dX11_other_47 rfl (lv_at hl 0 rfl) ?_
      refine va_get (D := (dC, dI)) (ci := 11) (v := .int vbr) (C := RX11) (T := TX11) (N := 35) hx hb hg inG11 hown hK.1 hP 0 rfl rfl 13 (by decide) (hg _ wt_891) (fun _ h9 => h9) rfl dX11_other_48 ?_
      refine lv_if_ne (tgt := 71) hx hb dX11_other_51 (by decide) (fun c3 => ?_) (fun c3 => ?_)
      · skip
        refine lv_aload_n hx hb dX11_other_71 rfl (lv_at hl 0 rfl) ?_
        refine va_get (D := (dC, dI)) (ci := 11) (v := .int vbr) (C := RX11) (T := TX11) (N := 35) hx hb hg inG11 hown hK.1 hP 0 rfl rfl 13 (by decide) (hg _ wt_891) (fun _ h9 => h9) rfl dX11_other_72 ?_
        refine lv_if_ne (tgt := 85) hx hb dX11_other_75 (by decide) (fun c4 => ?_) (fun c4 => ?_)
        · skip
          refine lv_iload_n hx hb dX11_other_85 rfl (lv_at hl 1 rfl) ?_
          refine lv_istore (lv' := [(4, .int lo), (0, .ref h0), (1, .int lo), (2, .int xh), (3, .int sm)]) hx hb dX11_other_86 hl (by decide) rfl (fun ls hl => ?_)
          refine lv_aload_n hx hb dX11_other_88 rfl (lv_at hl 1 rfl) ?_
          have hPc := hP.sub (ws' := [(h0, .inr (11, [.ref st, .int (nI N), .int (nI B), .ref rp, .int vrs, .int vrb, .int vhs, .int vca, .int vxs, .int vxb, .ref tp, .int (nI T), .int vfa, .int vbr, .int vba, .int (nI nsp), .int (nI nhe), .int vtk, .int vva, .ref cu, .ref lt, .ref od, .ref th, .ref be, .ref ln, .int (nI S), .ref ma, .int (nI M), .ref ah, .ref bh, .ref ik, .ref la, .ref lg, .ref ce, .int vto])), (tp, .inl (G 0, 320, .inl ftp))]) [0, 1] rfl
          have hDc := hD.sub (ws' := [(h0, .inr (11, [.ref st, .int (nI N), .int (nI B), .ref rp, .int vrs, .int vrb, .int vhs, .int vca, .int vxs, .int vxb, .ref tp, .int (nI T), .int vfa, .int vbr, .int vba, .int (nI nsp), .int (nI nhe), .int vtk, .int vva, .ref cu, .ref lt, .ref od, .ref th, .ref be, .ref ln, .int (nI S), .ref ma, .int (nI M), .ref ah, .ref bh, .ref ik, .ref la, .ref lg, .ref ce, .int vto])), (tp, .inl (G 0, 320, .inl ftp))]) [0, 1] (by decide) rfl
          have hFc := va_free (wc := [(h0, .inr (11, [.ref st, .int (nI N), .int (nI B), .ref rp, .int vrs, .int vrb, .int vhs, .int vca, .int vxs, .int vxb, .ref tp, .int (nI T), .int vfa, .int vbr, .int vba, .int (nI nsp), .int (nI nhe), .int vtk, .int vva, .ref cu, .ref lt, .ref od, .ref th, .ref be, .ref ln, .int (nI S), .ref ma, .int (nI M), .ref ah, .ref bh, .ref ik, .ref la, .ref lg, .ref ce, .int vto])), (tp, .inl (G 0, 320, .inl ftp))]) hD hS hA [0, 1] rfl
          refine va_callv (va_runV (As := []) (rest := []) ⟨hx, hb, hml, hown, hg⟩ (c_X11_goesOn l dC dI G _ h0 st N B rp tp T nsp nhe cu lt od th be ln S ma M ah bh ik la lg ce vrs vrb vhs vca vxs vxb vfa vbr vba vtk vva vto ftp (by have t_c1 := neI c1; have t_c2 := neI c2; have t_c3 := neI c3; have t_c4 := neI c4; have : (0 : Int32).toInt = 0 := (by decide); have t_n0 : (nI N).toInt = (N : Int) := nI_toInt (by omega); have t_n1 : (nI B).toInt = (B : Int) := nI_toInt (by omega); have t_n2 : (nI T).toInt = (T : Int) := nI_toInt (by omega); have t_n3 : (nI nsp).toInt = (nsp : Int) := nI_toInt (by omega); have t_n4 : (nI nhe).toInt = (nhe : Int) := nI_toInt (by omega); have t_n5 : (nI S).toInt = (S : Int) := nI_toInt (by omega); have t_n6 : (nI M).toInt = (M : Int) := nI_toInt (by omega); omega) (by have t_c1 := neI c1; have t_c2 := neI c2; have t_c3 := neI c3; have t_c4 := neI c4; have : (0 : Int32).toInt = 0 := (by decide); have t_n0 : (nI N).toInt = (N : Int) := nI_toInt (by omega); have t_n1 : (nI B).toInt = (B : Int) := nI_toInt (by omega); have t_n2 : (nI T).toInt = (T : Int) := nI_toInt (by omega); have t_n3 : (nI nsp).toInt = (nsp : Int) := nI_toInt (by omega); have t_n4 : (nI nhe).toInt = (nhe : Int) := nI_toInt (by omega); have t_n5 : (nI S).toInt = (S : Int) := nI_toInt (by omega); have t_n6 : (nI M).toInt = (M : Int) := nI_toInt (by omega); omega) (by have t_c1 := neI c1; have t_c2 := neI c2; have t_c3 := neI c3; have t_c4 := neI c4; have : (0 : Int32).toInt = 0 := (by decide); have t_n0 : (nI N).toInt = (N : Int) := nI_toInt (by omega); have t_n1 : (nI B).toInt = (B : Int) := nI_toInt (by omega); have t_n2 : (nI T).toInt = (T : Int) := nI_toInt (by omega); have t_n3 : (nI nsp).toInt = (nsp : Int) := nI_toInt (by omega); have t_n4 : (nI nhe).toInt = (nhe : Int) := nI_toInt (by omega); have t_n5 : (nI S).toInt = (S : Int) := nI_toInt (by omega); have t_n6 : (nI M).toInt = (M : Int) := nI_toInt (by omega); omega) (by have t_c1 := neI c1; have t_c2 := neI c2; have t_c3 := neI c3; have t_c4 := neI c4; have : (0 : Int32).toInt = 0 := (by decide); have t_n0 : (nI N).toInt = (N : Int) := nI_toInt (by omega); have t_n1 : (nI B).toInt = (B : Int) := nI_toInt (by omega); have t_n2 : (nI T).toInt = (T : Int) := nI_toInt (by omega); have t_n3 : (nI nsp).toInt = (nsp : Int) := nI_toInt (by omega); have t_n4 : (nI nhe).toInt = (nhe : Int) := nI_toInt (by omega); have t_n5 : (nI S).toInt = (S : Int) := nI_toInt (by omega); have t_n6 : (nI M).toInt = (M : Int) := nI_toInt (by omega); omega) (by have t_c1 := neI c1; have t_c2 := neI c2; have t_c3 := neI c3; have t_c4 := neI c4; have : (0 : Int32).toInt = 0 := (by decide); have t_n0 : (nI N).toInt = (N : Int) := nI_toInt (by omega); have t_n1 : (nI B).toInt = (B : Int) := nI_toInt (by omega); have t_n2 : (nI T).toInt = (T : Int) := nI_toInt (by omega); have t_n3 : (nI nsp).toInt = (nsp : Int) := nI_toInt (by omega); have t_n4 : (nI nhe).toInt = (nhe : Int) := nI_toInt (by omega); have t_n5 : (nI S).toInt = (S : Int) := nI_toInt (by omega); have t_n6 : (nI M).toInt = (M : Int) := nI_toInt (by omega); omega) (by have t_c1 := neI c1; have t_c2 := neI c2; have t_c3 := neI c3; have t_c4 := neI c4; have : (0 : Int32).toInt = 0 := (by decide); have t_n0 : (nI N).toInt = (N : Int) := nI_toInt (by omega); have t_n1 : (nI B).toInt = (B : Int) := nI_toInt (by omega); have t_n2 : (nI T).toInt = (T : Int) := nI_toInt (by omega); have t_n3 : (nI nsp).toInt = (nsp : Int) := nI_toInt (by omega); have t_n4 : (nI nhe).toInt = (nhe : Int) := nI_toInt (by omega); have t_n5 : (nI S).toInt = (S : Int) := nI_toInt (by omega); have t_n6 : (nI M).toInt = (M : Int) := nI_toInt (by omega); omega) (by have t_c1 := neI c1; have t_c2 := neI c2; have t_c3 := neI c3; have t_c4 := neI c4; have : (0 : Int32).toInt = 0 := (by decide); have t_n0 : (nI N).toInt = (N : Int) := nI_toInt (by omega); have t_n1 : (nI B).toInt = (B : Int) := nI_toInt (by omega); have t_n2 : (nI T).toInt = (T : Int) := nI_toInt (by omega); have t_n3 : (nI nsp).toInt = (nsp : Int) := nI_toInt (by omega); have t_n4 : (nI nhe).toInt = (nhe : Int) := nI_toInt (by omega); have t_n5 : (nI S).toInt = (S : Int) := nI_toInt (by omega); have t_n6 : (nI M).toInt = (M : Int) := nI_toInt (by omega); omega) (by have t_c1 := neI c1; have t_c2 := neI c2; have t_c3 := neI c3; have t_c4 := neI c4; have : (0 : Int32).toInt = 0 := (by decide); have t_n0 : (nI N).toInt = (N : Int) := nI_toInt (by omega); have t_n1 : (nI B).toInt = (B : Int) := nI_toInt (by omega); have t_n2 : (nI T).toInt = (T : Int) := nI_toInt (by omega); have t_n3 : (nI nsp).toInt = (nsp : Int) := nI_toInt (by omega); have t_n4 : (nI nhe).toInt = (nhe : Int) := nI_toInt (by omega); have t_n5 : (nI S).toInt = (S : Int) := nI_toInt (by omega); have t_n6 : (nI M).toInt = (M : Int) := nI_toInt (by omega); omega)) (kwV hg mfX11_goesOn wt_999 ⟨Nat.le_of_ble_eq_true rfl, Nat.le_of_ble_eq_true rfl⟩) (preVW hK hPc hDc (ci := 11) rfl rfl) rfl rfl hl.1 rfl (lv_room (Nat.le_of_ble_eq_true rfl)) dX11_other_89 ⟨Nat.le_of_ble_eq_true rfl, Nat.le_of_ble_eq_true rfl⟩) hS (fun q _ h => hFc q h) hFc (fun ur5 t H1 locs ht hvm w6 hB hz1 hk1 hS => ?_)
          obtain ⟨u7, u8, u9, u10, u11, u12⟩ := ur5
          obtain ⟨hP1, hD1⟩ := hB
          rw [ht] at hP1
          obtain ⟨hP, hD⟩ := va_join (wr := []) (w1 := [(h0, .inr (11, [.ref st, .int (nI N), .int (nI B), .ref rp, .int vrs, .int vrb, .int vhs, .int vca, .int vxs, .int vxb, .ref tp, .int (nI T), .int vfa, .int u7, .int u8, .int (nI u9), .int (nI u10), .int u11, .int u12, .ref cu, .ref lt, .ref od, .ref th, .ref be, .ref ln, .int (nI S), .ref ma, .int (nI M), .ref ah, .ref bh, .ref ik, .ref la, .ref lg, .ref ce, .int vto])), (tp, .inl (G 0, 320, .inl ftp))]) hP hD [0, 1] [] rfl rfl (by decide) (by decide) hk1 hFc hP1 hD1
          have w6 : 0 ≤ u7.toInt ∧ (vbr.toInt = 0 ∨ u7.toInt = vbr.toInt) ∧ nsp ≤ u9 ∧ u9 ≤ T ∧ u10 ≤ u9 ∧ (0 < vbr.toInt ∨ u11.toInt = 0 ∨ nsp < u9) := w6
          generalize H1 = H at hP hS ⊢
          have hP : va_P (dC, dI) vwCl [(h0, .inr (11, [.ref st, .int (nI N), .int (nI B), .ref rp, .int vrs, .int vrb, .int vhs, .int vca, .int vxs, .int vxb, .ref tp, .int (nI T), .int vfa, .int u7, .int u8, .int (nI u9), .int (nI u10), .int u11, .int u12, .ref cu, .ref lt, .ref od, .ref th, .ref be, .ref ln, .int (nI S), .ref ma, .int (nI M), .ref ah, .ref bh, .ref ik, .ref la, .ref lg, .ref ce, .int vto])), (tp, .inl (G 0, 320, .inl ftp))] H := hP
          have hD : va_D A [(h0, .inr (11, [.ref st, .int (nI N), .int (nI B), .ref rp, .int vrs, .int vrb, .int vhs, .int vca, .int vxs, .int vxb, .ref tp, .int (nI T), .int vfa, .int u7, .int u8, .int (nI u9), .int (nI u10), .int u11, .int u12, .ref cu, .ref lt, .ref od, .ref th, .ref be, .ref ln, .int (nI S), .ref ma, .int (nI M), .ref ah, .ref bh, .ref ik, .ref la, .ref lg, .ref ce, .int vto])), (tp, .inl (G 0, 320, .inl ftp))] := hD
          refine lv_iload hx hb dX11_other_92 (lv_at hl 0 rfl) ?_
          have hpost : lo.toInt ≤ (lo : Int32).toInt ∧ (lo : Int32).toInt ≤ xh.toInt := by
            have t_c1 := neI c1
            have t_c2 := neI c2
            have t_c3 := neI c3
            have t_c4 := neI c4
            have : (0 : Int32).toInt = 0 := (by decide)
            have t_n0 : (nI N).toInt = (N : Int) := nI_toInt (by omega)
            have t_n1 : (nI B).toInt = (B : Int) := nI_toInt (by omega)
            have t_n2 : (nI T).toInt = (T : Int) := nI_toInt (by omega)
            have t_n3 : (nI nsp).toInt = (nsp : Int) := nI_toInt (by omega)
            have t_n4 : (nI nhe).toInt = (nhe : Int) := nI_toInt (by omega)
            have t_n5 : (nI S).toInt = (S : Int) := nI_toInt (by omega)
            have t_n6 : (nI M).toInt = (M : Int) := nI_toInt (by omega)
            omega
          have hP9 := hP.sub (ws' := [(h0, .inr (11, [.ref st, .int (nI N), .int (nI B), .ref rp, .int vrs, .int vrb, .int vhs, .int vca, .int vxs, .int vxb, .ref tp, .int (nI T), .int vfa, .int u7, .int u8, .int (nI u9), .int (nI u10), .int u11, .int u12, .ref cu, .ref lt, .ref od, .ref th, .ref be, .ref ln, .int (nI S), .ref ma, .int (nI M), .ref ah, .ref bh, .ref ik, .ref la, .ref lg, .ref ce, .int vto])), (tp, .inl (G 0, 320, .inl ftp))]) [0, 1] rfl
          have hD9 := hD.sub (ws' := [(h0, .inr (11, [.ref st, .int (nI N), .int (nI B), .ref rp, .int vrs, .int vrb, .int vhs, .int vca, .int vxs, .int vxb, .ref tp, .int (nI T), .int vfa, .int u7, .int u8, .int (nI u9), .int (nI u10), .int u11, .int u12, .ref cu, .ref lt, .ref od, .ref th, .ref be, .ref ln, .int (nI S), .ref ma, .int (nI M), .ref ah, .ref bh, .ref ik, .ref la, .ref lg, .ref ce, .int vto])), (tp, .inl (G 0, 320, .inl ftp))]) [0, 1] (by decide) rfl
          refine W.widen (k := 0) (n := 0) (by omega) (by omega) ?_
          exact W.iret (v := lo) hx hb hr (fun t ht hW => ⟨⟨lo, (u7, u8, u9, u10, u11, u12), rfl, ⟨hpost, (by have t_c1 := neI c1; have t_c2 := neI c2; have t_c3 := neI c3; have t_c4 := neI c4; have : (0 : Int32).toInt = 0 := (by decide); have t_n0 : (nI N).toInt = (N : Int) := nI_toInt (by omega); have t_n1 : (nI B).toInt = (B : Int) := nI_toInt (by omega); have t_n2 : (nI T).toInt = (T : Int) := nI_toInt (by omega); have t_n3 : (nI nsp).toInt = (nsp : Int) := nI_toInt (by omega); have t_n4 : (nI nhe).toInt = (nhe : Int) := nI_toInt (by omega); have t_n5 : (nI S).toInt = (S : Int) := nI_toInt (by omega); have t_n6 : (nI M).toInt = (M : Int) := nI_toInt (by omega); have z0 : (0 : Int32).toInt = 0 := (by decide); have z1 : (1 : Int32).toInt = 1 := (by decide); have z2 : (2 : Int32).toInt = 2 := (by decide); have z3 : (3 : Int32).toInt = 3 := (by decide); have z5 : (5 : Int32).toInt = 5 := (by decide); have z9 : (9 : Int32).toInt = 9 := (by decide); omega)⟩, ⟨by rw [ht]; exact hP9, hD9⟩⟩, hS.F ht⟩) hS.2.2 dX11_other_94
        · skip
          have t_c1 := neI c1
          have t_c2 := neI c2
          have t_c3 := neI c3
          have t_c4 := eqI c4
          have : (0 : Int32).toInt = 0 := (by decide)
          have t_n0 : (nI N).toInt = (N : Int) := nI_toInt (by omega)
          have t_n1 : (nI B).toInt = (B : Int) := nI_toInt (by omega)
          have t_n2 : (nI T).toInt = (T : Int) := nI_toInt (by omega)
          have t_n3 : (nI nsp).toInt = (nsp : Int) := nI_toInt (by omega)
          have t_n4 : (nI nhe).toInt = (nhe : Int) := nI_toInt (by omega)
          have t_n5 : (nI S).toInt = (S : Int) := nI_toInt (by omega)
          have t_n6 : (nI M).toInt = (M : Int) := nI_toInt (by omega)
          exfalso; omega
      · skip
        have t_c1 := neI c1
        have t_c2 := neI c2
        have t_c3 := eqI c3
        have : (0 : Int32).toInt = 0 := (by decide)
        have t_n0 : (nI N).toInt = (N : Int) := nI_toInt (by omega)
        have t_n1 : (nI B).toInt = (B : Int) := nI_toInt (by omega)
        have t_n2 : (nI T).toInt = (T : Int) := nI_toInt (by omega)
        have t_n3 : (nI nsp).toInt = (nsp : Int) := nI_toInt (by omega)
        have t_n4 : (nI nhe).toInt = (nhe : Int) := nI_toInt (by omega)
        have t_n5 : (nI S).toInt = (S : Int) := nI_toInt (by omega)
        have t_n6 : (nI M).toInt = (M : Int) := nI_toInt (by omega)
        exfalso; omega
    · skip
      have t_c1 := neI c1
      have t_c2 := eqI c2
      have : (0 : Int32).toInt = 0 := (by decide)
      have t_n0 : (nI N).toInt = (N : Int) := nI_toInt (by omega)
      have t_n1 : (nI B).toInt = (B : Int) := nI_toInt (by omega)
      have t_n2 : (nI T).toInt = (T : Int) := nI_toInt (by omega)
      have t_n3 : (nI nsp).toInt = (nsp : Int) := nI_toInt (by omega)
      have t_n4 : (nI nhe).toInt = (nhe : Int) := nI_toInt (by omega)
      have t_n5 : (nI S).toInt = (S : Int) := nI_toInt (by omega)
      have t_n6 : (nI M).toInt = (M : Int) := nI_toInt (by omega)
      exfalso; omega
  · skip
    refine lv_aload_n hx hb dX11_other_7 rfl (lv_at hl 0 rfl) ?_
    refine va_get (D := (dC, dI)) (ci := 11) (v := .int vtk) (C := RX11) (T := TX11) (N := 35) hx hb hg inG11 hown hK.1 hP 0 rfl rfl 17 (by decide) (hg _ wt_895) (fun _ h9 => h9) rfl dX11_other_8 ?_
    refine lv_iconst (v := 2) hx hb dX11_other_11 (by decide) ?_
    refine lv_icmp_eq (tgt := 20) hx hb dX11_other_12 (by decide) (fun c13 => ?_) (fun c13 => ?_)
    · skip
      refine lv_aload_n hx hb dX11_other_20 rfl (lv_at hl 0 rfl) ?_
      refine va_get (D := (dC, dI)) (ci := 11) (v := .int vbr) (C := RX11) (T := TX11) (N := 35) hx hb hg inG11 hown hK.1 hP 0 rfl rfl 13 (by decide) (hg _ wt_891) (fun _ h9 => h9) rfl dX11_other_21 ?_
      refine lv_if_ne (tgt := 47) hx hb dX11_other_24 (by decide) (fun c14 => ?_) (fun c14 => ?_)
      · skip
        have t_c1 := eqI c1
        have t_c13 := eqI c13
        have t_c14 := neI c14
        have : (0 : Int32).toInt = 0 := (by decide)
        have : (2 : Int32).toInt = 2 := (by decide)
        have t_n0 : (nI N).toInt = (N : Int) := nI_toInt (by omega)
        have t_n1 : (nI B).toInt = (B : Int) := nI_toInt (by omega)
        have t_n2 : (nI T).toInt = (T : Int) := nI_toInt (by omega)
        have t_n3 : (nI nsp).toInt = (nsp : Int) := nI_toInt (by omega)
        have t_n4 : (nI nhe).toInt = (nhe : Int) := nI_toInt (by omega)
        have t_n5 : (nI S).toInt = (S : Int) := nI_toInt (by omega)
        have t_n6 : (nI M).toInt = (M : Int) := nI_toInt (by omega)
        exfalso; omega
      · skip
        refine lv_aload_n hx hb dX11_other_27 rfl (lv_at hl 0 rfl) ?_
        refine va_get (D := (dC, dI)) (ci := 11) (v := .int vva) (C := RX11) (T := TX11) (N := 35) hx hb hg inG11 hown hK.1 hP 0 rfl rfl 18 (by decide) (hg _ wt_896) (fun _ h9 => h9) rfl dX11_other_28 ?_
        refine lv_i2l (v := vva.toInt64) hx hb dX11_other_31 rfl ?_
        refine lv_iload_n hx hb dX11_other_32 rfl (lv_at hl 1 rfl) ?_
        refine lv_i2l (v := lo.toInt64) hx hb dX11_other_33 rfl ?_
        refine lv_iload_n hx hb dX11_other_34 rfl (lv_at hl 2 rfl) ?_
        refine lv_i2l (v := xh.toInt64) hx hb dX11_other_35 rfl ?_
        have hPc := hP.sub (ws' := []) [] rfl
        refine va_calli (va_runS (As := [.long vva.toInt64, .long lo.toInt64, .long xh.toInt64]) (rest := []) ⟨hx, hb, hml, hown, hg⟩ (c_X11_in l dC dI G _ vva.toInt64 lo.toInt64 xh.toInt64 ) (kwS hg mfX11_in wt_992 ⟨Nat.le_of_ble_eq_true rfl, Nat.le_of_ble_eq_true rfl⟩) (preSR hK hPc) rfl rfl hl.1 rfl (lv_room (Nat.le_of_ble_eq_true rfl)) dX11_other_36 ⟨Nat.le_of_ble_eq_true rfl, Nat.le_of_ble_eq_true rfl⟩) hS (fun q h1 h2 => absurd h2 (Nat.not_le.mpr h1)) (fun q h => hA q (Nat.le_trans hS.1 h)) (fun r15 ur15 t H1 locs ht hvm w16 hB hz1 hk1 hS => ?_)
        have hP := keepR hP hk1
        obtain ⟨w16, w16x⟩ := w16
        try simp only [l_ii] at w16
        subst w16
        refine lv_if_ne (tgt := 47) hx hb dX11_other_39 (by decide) (fun c17 => ?_) (fun c17 => ?_)
        · skip
          have b18 := if10_p c17
          refine lv_aload_n hx hb dX11_other_47 rfl (lv_at hl 0 rfl) ?_
          refine va_get (D := (dC, dI)) (ci := 11) (v := .int vbr) (C := RX11) (T := TX11) (N := 35) hx hb hg inG11 hown hK.1 hP 0 rfl rfl 13 (by decide) (hg _ wt_891) (fun _ h9 => h9) rfl dX11_other_48 ?_
          refine lv_if_ne (tgt := 71) hx hb dX11_other_51 (by decide) (fun c19 => ?_) (fun c19 => ?_)
          · skip
            have t_c1 := eqI c1
            have t_c13 := eqI c13
            have t_c14 := eqI c14
            have t_b18 := b18
            have t_c19 := neI c19
            have : (0 : Int32).toInt = 0 := (by decide)
            have : (2 : Int32).toInt = 2 := (by decide)
            have t_n0 : (nI N).toInt = (N : Int) := nI_toInt (by omega)
            have t_n1 : (nI B).toInt = (B : Int) := nI_toInt (by omega)
            have t_n2 : (nI T).toInt = (T : Int) := nI_toInt (by omega)
            have t_n3 : (nI nsp).toInt = (nsp : Int) := nI_toInt (by omega)
            have t_n4 : (nI nhe).toInt = (nhe : Int) := nI_toInt (by omega)
            have t_n5 : (nI S).toInt = (S : Int) := nI_toInt (by omega)
            have t_n6 : (nI M).toInt = (M : Int) := nI_toInt (by omega)
            exfalso; omega
          · skip
            refine lv_iload_n hx hb dX11_other_54 rfl (lv_at hl 3 rfl) ?_
            refine lv_aload_n hx hb dX11_other_55 rfl (lv_at hl 0 rfl) ?_
            refine va_get (D := (dC, dI)) (ci := 11) (v := .int vva) (C := RX11) (T := TX11) (N := 35) hx hb hg inG11 hown hK.1 hP 0 rfl rfl 18 (by decide) (hg _ wt_896) (fun _ h9 => h9) rfl dX11_other_56 ?_
            refine lv_ishr hx hb dX11_other_59 ?_
            refine lv_iconst (v := 1) hx hb dX11_other_60 (by decide) ?_
            refine lv_iand hx hb dX11_other_61 ?_
            refine lv_topi (fun v20 ev20 => ?_)
            refine lv_iconst (v := 1) hx hb dX11_other_62 (by decide) ?_
            refine lv_icmp_ne (tgt := 71) hx hb dX11_other_63 (by decide) (fun c21 => ?_) (fun c21 => ?_)
            · skip
              refine lv_aload_n hx hb dX11_other_71 rfl (lv_at hl 0 rfl) ?_
              refine va_get (D := (dC, dI)) (ci := 11) (v := .int vbr) (C := RX11) (T := TX11) (N := 35) hx hb hg inG11 hown hK.1 hP 0 rfl rfl 13 (by decide) (hg _ wt_891) (fun _ h9 => h9) rfl dX11_other_72 ?_
              refine lv_if_ne (tgt := 85) hx hb dX11_other_75 (by decide) (fun c22 => ?_) (fun c22 => ?_)
              · skip
                have t_c1 := eqI c1
                have t_c13 := eqI c13
                have t_c14 := eqI c14
                have t_b18 := b18
                have t_c19 := eqI c19
                have t_c21 := neI c21
                have t_c22 := neI c22
                have : (0 : Int32).toInt = 0 := (by decide)
                have : (1 : Int32).toInt = 1 := (by decide)
                have : (2 : Int32).toInt = 2 := (by decide)
                have t_n0 : (nI N).toInt = (N : Int) := nI_toInt (by omega)
                have t_n1 : (nI B).toInt = (B : Int) := nI_toInt (by omega)
                have t_n2 : (nI T).toInt = (T : Int) := nI_toInt (by omega)
                have t_n3 : (nI nsp).toInt = (nsp : Int) := nI_toInt (by omega)
                have t_n4 : (nI nhe).toInt = (nhe : Int) := nI_toInt (by omega)
                have t_n5 : (nI S).toInt = (S : Int) := nI_toInt (by omega)
                have t_n6 : (nI M).toInt = (M : Int) := nI_toInt (by omega)
                exfalso; omega
              · skip
                refine lv_aload_n hx hb dX11_other_78 rfl (lv_at hl 0 rfl) ?_
                refine va_get (D := (dC, dI)) (ci := 11) (v := .int vva) (C := RX11) (T := TX11) (N := 35) hx hb hg inG11 hown hK.1 hP 0 rfl rfl 18 (by decide) (hg _ wt_896) (fun _ h9 => h9) rfl dX11_other_79 ?_
                refine lv_goto (tgt := 86) hx hb dX11_other_82 (by decide) ?_
                refine lv_istore (lv' := [(4, .int vva), (0, .ref h0), (1, .int lo), (2, .int xh), (3, .int sm)]) hx hb dX11_other_86 hl (by decide) rfl (fun ls hl => ?_)
                refine lv_aload_n hx hb dX11_other_88 rfl (lv_at hl 1 rfl) ?_
                have hPc := hP.sub (ws' := [(h0, .inr (11, [.ref st, .int (nI N), .int (nI B), .ref rp, .int vrs, .int vrb, .int vhs, .int vca, .int vxs, .int vxb, .ref tp, .int (nI T), .int vfa, .int vbr, .int vba, .int (nI nsp), .int (nI nhe), .int vtk, .int vva, .ref cu, .ref lt, .ref od, .ref th, .ref be, .ref ln, .int (nI S), .ref ma, .int (nI M), .ref ah, .ref bh, .ref ik, .ref la, .ref lg, .ref ce, .int vto])), (tp, .inl (G 0, 320, .inl ftp))]) [0, 1] rfl
                have hDc := hD.sub (ws' := [(h0, .inr (11, [.ref st, .int (nI N), .int (nI B), .ref rp, .int vrs, .int vrb, .int vhs, .int vca, .int vxs, .int vxb, .ref tp, .int (nI T), .int vfa, .int vbr, .int vba, .int (nI nsp), .int (nI nhe), .int vtk, .int vva, .ref cu, .ref lt, .ref od, .ref th, .ref be, .ref ln, .int (nI S), .ref ma, .int (nI M), .ref ah, .ref bh, .ref ik, .ref la, .ref lg, .ref ce, .int vto])), (tp, .inl (G 0, 320, .inl ftp))]) [0, 1] (by decide) rfl
                have hFc := va_free (wc := [(h0, .inr (11, [.ref st, .int (nI N), .int (nI B), .ref rp, .int vrs, .int vrb, .int vhs, .int vca, .int vxs, .int vxb, .ref tp, .int (nI T), .int vfa, .int vbr, .int vba, .int (nI nsp), .int (nI nhe), .int vtk, .int vva, .ref cu, .ref lt, .ref od, .ref th, .ref be, .ref ln, .int (nI S), .ref ma, .int (nI M), .ref ah, .ref bh, .ref ik, .ref la, .ref lg, .ref ce, .int vto])), (tp, .inl (G 0, 320, .inl ftp))]) hD hS hA [0, 1] rfl
                refine va_callv (va_runV (As := []) (rest := []) ⟨hx, hb, hml, hown, hg⟩ (c_X11_goesOn l dC dI G _ h0 st N B rp tp T nsp nhe cu lt od th be ln S ma M ah bh ik la lg ce vrs vrb vhs vca vxs vxb vfa vbr vba vtk vva vto ftp (by have t_c1 := eqI c1; have t_c13 := eqI c13; have t_c14 := eqI c14; have t_b18 := b18; have t_c19 := eqI c19; have t_c21 := neI c21; have t_c22 := eqI c22; have : (0 : Int32).toInt = 0 := (by decide); have : (1 : Int32).toInt = 1 := (by decide); have : (2 : Int32).toInt = 2 := (by decide); have t_n0 : (nI N).toInt = (N : Int) := nI_toInt (by omega); have t_n1 : (nI B).toInt = (B : Int) := nI_toInt (by omega); have t_n2 : (nI T).toInt = (T : Int) := nI_toInt (by omega); have t_n3 : (nI nsp).toInt = (nsp : Int) := nI_toInt (by omega); have t_n4 : (nI nhe).toInt = (nhe : Int) := nI_toInt (by omega); have t_n5 : (nI S).toInt = (S : Int) := nI_toInt (by omega); have t_n6 : (nI M).toInt = (M : Int) := nI_toInt (by omega); omega) (by have t_c1 := eqI c1; have t_c13 := eqI c13; have t_c14 := eqI c14; have t_b18 := b18; have t_c19 := eqI c19; have t_c21 := neI c21; have t_c22 := eqI c22; have : (0 : Int32).toInt = 0 := (by decide); have : (1 : Int32).toInt = 1 := (by decide); have : (2 : Int32).toInt = 2 := (by decide); have t_n0 : (nI N).toInt = (N : Int) := nI_toInt (by omega); have t_n1 : (nI B).toInt = (B : Int) := nI_toInt (by omega); have t_n2 : (nI T).toInt = (T : Int) := nI_toInt (by omega); have t_n3 : (nI nsp).toInt = (nsp : Int) := nI_toInt (by omega); have t_n4 : (nI nhe).toInt = (nhe : Int) := nI_toInt (by omega); have t_n5 : (nI S).toInt = (S : Int) := nI_toInt (by omega); have t_n6 : (nI M).toInt = (M : Int) := nI_toInt (by omega); omega) (by have t_c1 := eqI c1; have t_c13 := eqI c13; have t_c14 := eqI c14; have t_b18 := b18; have t_c19 := eqI c19; have t_c21 := neI c21; have t_c22 := eqI c22; have : (0 : Int32).toInt = 0 := (by decide); have : (1 : Int32).toInt = 1 := (by decide); have : (2 : Int32).toInt = 2 := (by decide); have t_n0 : (nI N).toInt = (N : Int) := nI_toInt (by omega); have t_n1 : (nI B).toInt = (B : Int) := nI_toInt (by omega); have t_n2 : (nI T).toInt = (T : Int) := nI_toInt (by omega); have t_n3 : (nI nsp).toInt = (nsp : Int) := nI_toInt (by omega); have t_n4 : (nI nhe).toInt = (nhe : Int) := nI_toInt (by omega); have t_n5 : (nI S).toInt = (S : Int) := nI_toInt (by omega); have t_n6 : (nI M).toInt = (M : Int) := nI_toInt (by omega); omega) (by have t_c1 := eqI c1; have t_c13 := eqI c13; have t_c14 := eqI c14; have t_b18 := b18; have t_c19 := eqI c19; have t_c21 := neI c21; have t_c22 := eqI c22; have : (0 : Int32).toInt = 0 := (by decide); have : (1 : Int32).toInt = 1 := (by decide); have : (2 : Int32).toInt = 2 := (by decide); have t_n0 : (nI N).toInt = (N : Int) := nI_toInt (by omega); have t_n1 : (nI B).toInt = (B : Int) := nI_toInt (by omega); have t_n2 : (nI T).toInt = (T : Int) := nI_toInt (by omega); have t_n3 : (nI nsp).toInt = (nsp : Int) := nI_toInt (by omega); have t_n4 : (nI nhe).toInt = (nhe : Int) := nI_toInt (by omega); have t_n5 : (nI S).toInt = (S : Int) := nI_toInt (by omega); have t_n6 : (nI M).toInt = (M : Int) := nI_toInt (by omega); omega) (by have t_c1 := eqI c1; have t_c13 := eqI c13; have t_c14 := eqI c14; have t_b18 := b18; have t_c19 := eqI c19; have t_c21 := neI c21; have t_c22 := eqI c22; have : (0 : Int32).toInt = 0 := (by decide); have : (1 : Int32).toInt = 1 := (by decide); have : (2 : Int32).toInt = 2 := (by decide); have t_n0 : (nI N).toInt = (N : Int) := nI_toInt (by omega); have t_n1 : (nI B).toInt = (B : Int) := nI_toInt (by omega); have t_n2 : (nI T).toInt = (T : Int) := nI_toInt (by omega); have t_n3 : (nI nsp).toInt = (nsp : Int) := nI_toInt (by omega); have t_n4 : (nI nhe).toInt = (nhe : Int) := nI_toInt (by omega); have t_n5 : (nI S).toInt = (S : Int) := nI_toInt (by omega); have t_n6 : (nI M).toInt = (M : Int) := nI_toInt (by omega); omega) (by have t_c1 := eqI c1; have t_c13 := eqI c13; have t_c14 := eqI c14; have t_b18 := b18; have t_c19 := eqI c19; have t_c21 := neI c21; have t_c22 := eqI c22; have : (0 : Int32).toInt = 0 := (by decide); have : (1 : Int32).toInt = 1 := (by decide); have : (2 : Int32).toInt = 2 := (by decide); have t_n0 : (nI N).toInt = (N : Int) := nI_toInt (by omega); have t_n1 : (nI B).toInt = (B : Int) := nI_toInt (by omega); have t_n2 : (nI T).toInt = (T : Int) := nI_toInt (by omega); have t_n3 : (nI nsp).toInt = (nsp : Int) := nI_toInt (by omega); have t_n4 : (nI nhe).toInt = (nhe : Int) := nI_toInt (by omega); have t_n5 : (nI S).toInt = (S : Int) := nI_toInt (by omega); have t_n6 : (nI M).toInt = (M : Int) := nI_toInt (by omega); omega) (by have t_c1 := eqI c1; have t_c13 := eqI c13; have t_c14 := eqI c14; have t_b18 := b18; have t_c19 := eqI c19; have t_c21 := neI c21; have t_c22 := eqI c22; have : (0 : Int32).toInt = 0 := (by decide); have : (1 : Int32).toInt = 1 := (by decide); have : (2 : Int32).toInt = 2 := (by decide); have t_n0 : (nI N).toInt = (N : Int) := nI_toInt (by omega); have t_n1 : (nI B).toInt = (B : Int) := nI_toInt (by omega); have t_n2 : (nI T).toInt = (T : Int) := nI_toInt (by omega); have t_n3 : (nI nsp).toInt = (nsp : Int) := nI_toInt (by omega); have t_n4 : (nI nhe).toInt = (nhe : Int) := nI_toInt (by omega); have t_n5 : (nI S).toInt = (S : Int) := nI_toInt (by omega); have t_n6 : (nI M).toInt = (M : Int) := nI_toInt (by omega); omega) (by have t_c1 := eqI c1; have t_c13 := eqI c13; have t_c14 := eqI c14; have t_b18 := b18; have t_c19 := eqI c19; have t_c21 := neI c21; have t_c22 := eqI c22; have : (0 : Int32).toInt = 0 := (by decide); have : (1 : Int32).toInt = 1 := (by decide); have : (2 : Int32).toInt = 2 := (by decide); have t_n0 : (nI N).toInt = (N : Int) := nI_toInt (by omega); have t_n1 : (nI B).toInt = (B : Int) := nI_toInt (by omega); have t_n2 : (nI T).toInt = (T : Int) := nI_toInt (by omega); have t_n3 : (nI nsp).toInt = (nsp : Int) := nI_toInt (by omega); have t_n4 : (nI nhe).toInt = (nhe : Int) := nI_toInt (by omega); have t_n5 : (nI S).toInt = (S : Int) := nI_toInt (by omega); have t_n6 : (nI M).toInt = (M : Int) := nI_toInt (by omega); omega)) (kwV hg mfX11_goesOn wt_999 ⟨Nat.le_of_ble_eq_true rfl, Nat.le_of_ble_eq_true rfl⟩) (preVW hK hPc hDc (ci := 11) rfl rfl) rfl rfl hl.1 rfl (lv_room (Nat.le_of_ble_eq_true rfl)) dX11_other_89 ⟨Nat.le_of_ble_eq_true rfl, Nat.le_of_ble_eq_true rfl⟩) hS (fun q _ h => hFc q h) hFc (fun ur23 t H1 locs ht hvm w24 hB hz1 hk1 hS => ?_)
                obtain ⟨u25, u26, u27, u28, u29, u30⟩ := ur23
                obtain ⟨hP1, hD1⟩ := hB
                rw [ht] at hP1
                obtain ⟨hP, hD⟩ := va_join (wr := []) (w1 := [(h0, .inr (11, [.ref st, .int (nI N), .int (nI B), .ref rp, .int vrs, .int vrb, .int vhs, .int vca, .int vxs, .int vxb, .ref tp, .int (nI T), .int vfa, .int u25, .int u26, .int (nI u27), .int (nI u28), .int u29, .int u30, .ref cu, .ref lt, .ref od, .ref th, .ref be, .ref ln, .int (nI S), .ref ma, .int (nI M), .ref ah, .ref bh, .ref ik, .ref la, .ref lg, .ref ce, .int vto])), (tp, .inl (G 0, 320, .inl ftp))]) hP hD [0, 1] [] rfl rfl (by decide) (by decide) hk1 hFc hP1 hD1
                have w24 : 0 ≤ u25.toInt ∧ (vbr.toInt = 0 ∨ u25.toInt = vbr.toInt) ∧ nsp ≤ u27 ∧ u27 ≤ T ∧ u28 ≤ u27 ∧ (0 < vbr.toInt ∨ u29.toInt = 0 ∨ nsp < u27) := w24
                generalize H1 = H at hP hS ⊢
                have hP : va_P (dC, dI) vwCl [(h0, .inr (11, [.ref st, .int (nI N), .int (nI B), .ref rp, .int vrs, .int vrb, .int vhs, .int vca, .int vxs, .int vxb, .ref tp, .int (nI T), .int vfa, .int u25, .int u26, .int (nI u27), .int (nI u28), .int u29, .int u30, .ref cu, .ref lt, .ref od, .ref th, .ref be, .ref ln, .int (nI S), .ref ma, .int (nI M), .ref ah, .ref bh, .ref ik, .ref la, .ref lg, .ref ce, .int vto])), (tp, .inl (G 0, 320, .inl ftp))] H := hP
                have hD : va_D A [(h0, .inr (11, [.ref st, .int (nI N), .int (nI B), .ref rp, .int vrs, .int vrb, .int vhs, .int vca, .int vxs, .int vxb, .ref tp, .int (nI T), .int vfa, .int u25, .int u26, .int (nI u27), .int (nI u28), .int u29, .int u30, .ref cu, .ref lt, .ref od, .ref th, .ref be, .ref ln, .int (nI S), .ref ma, .int (nI M), .ref ah, .ref bh, .ref ik, .ref la, .ref lg, .ref ce, .int vto])), (tp, .inl (G 0, 320, .inl ftp))] := hD
                refine lv_iload hx hb dX11_other_92 (lv_at hl 0 rfl) ?_
                have hpost : lo.toInt ≤ (vva : Int32).toInt ∧ (vva : Int32).toInt ≤ xh.toInt := by
                  have t_c1 := eqI c1
                  have t_c13 := eqI c13
                  have t_c14 := eqI c14
                  have t_b18 := b18
                  have t_c19 := eqI c19
                  have t_c21 := neI c21
                  have t_c22 := eqI c22
                  have : (0 : Int32).toInt = 0 := (by decide)
                  have : (1 : Int32).toInt = 1 := (by decide)
                  have : (2 : Int32).toInt = 2 := (by decide)
                  have t_n0 : (nI N).toInt = (N : Int) := nI_toInt (by omega)
                  have t_n1 : (nI B).toInt = (B : Int) := nI_toInt (by omega)
                  have t_n2 : (nI T).toInt = (T : Int) := nI_toInt (by omega)
                  have t_n3 : (nI nsp).toInt = (nsp : Int) := nI_toInt (by omega)
                  have t_n4 : (nI nhe).toInt = (nhe : Int) := nI_toInt (by omega)
                  have t_n5 : (nI S).toInt = (S : Int) := nI_toInt (by omega)
                  have t_n6 : (nI M).toInt = (M : Int) := nI_toInt (by omega)
                  omega
                have hP9 := hP.sub (ws' := [(h0, .inr (11, [.ref st, .int (nI N), .int (nI B), .ref rp, .int vrs, .int vrb, .int vhs, .int vca, .int vxs, .int vxb, .ref tp, .int (nI T), .int vfa, .int u25, .int u26, .int (nI u27), .int (nI u28), .int u29, .int u30, .ref cu, .ref lt, .ref od, .ref th, .ref be, .ref ln, .int (nI S), .ref ma, .int (nI M), .ref ah, .ref bh, .ref ik, .ref la, .ref lg, .ref ce, .int vto])), (tp, .inl (G 0, 320, .inl ftp))]) [0, 1] rfl
                have hD9 := hD.sub (ws' := [(h0, .inr (11, [.ref st, .int (nI N), .int (nI B), .ref rp, .int vrs, .int vrb, .int vhs, .int vca, .int vxs, .int vxb, .ref tp, .int (nI T), .int vfa, .int u25, .int u26, .int (nI u27), .int (nI u28), .int u29, .int u30, .ref cu, .ref lt, .ref od, .ref th, .ref be, .ref ln, .int (nI S), .ref ma, .int (nI M), .ref ah, .ref bh, .ref ik, .ref la, .ref lg, .ref ce, .int vto])), (tp, .inl (G 0, 320, .inl ftp))]) [0, 1] (by decide) rfl
                refine W.widen (k := 0) (n := 0) (by omega) (by omega) ?_
                exact W.iret (v := vva) hx hb hr (fun t ht hW => ⟨⟨vva, (u25, u26, u27, u28, u29, u30), rfl, ⟨hpost, (by have t_c1 := eqI c1; have t_c13 := eqI c13; have t_c14 := eqI c14; have t_b18 := b18; have t_c19 := eqI c19; have t_c21 := neI c21; have t_c22 := eqI c22; have : (0 : Int32).toInt = 0 := (by decide); have : (1 : Int32).toInt = 1 := (by decide); have : (2 : Int32).toInt = 2 := (by decide); have t_n0 : (nI N).toInt = (N : Int) := nI_toInt (by omega); have t_n1 : (nI B).toInt = (B : Int) := nI_toInt (by omega); have t_n2 : (nI T).toInt = (T : Int) := nI_toInt (by omega); have t_n3 : (nI nsp).toInt = (nsp : Int) := nI_toInt (by omega); have t_n4 : (nI nhe).toInt = (nhe : Int) := nI_toInt (by omega); have t_n5 : (nI S).toInt = (S : Int) := nI_toInt (by omega); have t_n6 : (nI M).toInt = (M : Int) := nI_toInt (by omega); have z0 : (0 : Int32).toInt = 0 := (by decide); have z1 : (1 : Int32).toInt = 1 := (by decide); have z2 : (2 : Int32).toInt = 2 := (by decide); have z3 : (3 : Int32).toInt = 3 := (by decide); have z5 : (5 : Int32).toInt = 5 := (by decide); have z9 : (9 : Int32).toInt = 9 := (by decide); omega)⟩, ⟨by rw [ht]; exact hP9, hD9⟩⟩, hS.F ht⟩) hS.2.2 dX11_other_94
            · skip
              refine lv_aload_n hx hb dX11_other_66 rfl (lv_at hl 0 rfl) ?_
              refine lv_iconst (v := 4) hx hb dX11_other_67 (by decide) ?_
              have hPc := hP.sub (ws' := [(h0, .inr (11, [.ref st, .int (nI N), .int (nI B), .ref rp, .int vrs, .int vrb, .int vhs, .int vca, .int vxs, .int vxb, .ref tp, .int (nI T), .int vfa, .int vbr, .int vba, .int (nI nsp), .int (nI nhe), .int vtk, .int vva, .ref cu, .ref lt, .ref od, .ref th, .ref be, .ref ln, .int (nI S), .ref ma, .int (nI M), .ref ah, .ref bh, .ref ik, .ref la, .ref lg, .ref ce, .int vto]))]) [0] rfl
              have hDc := hD.sub (ws' := [(h0, .inr (11, [.ref st, .int (nI N), .int (nI B), .ref rp, .int vrs, .int vrb, .int vhs, .int vca, .int vxs, .int vxb, .ref tp, .int (nI T), .int vfa, .int vbr, .int vba, .int (nI nsp), .int (nI nhe), .int vtk, .int vva, .ref cu, .ref lt, .ref od, .ref th, .ref be, .ref ln, .int (nI S), .ref ma, .int (nI M), .ref ah, .ref bh, .ref ik, .ref la, .ref lg, .ref ce, .int vto]))]) [0] (by decide) rfl
              have hFc := va_free (wc := [(h0, .inr (11, [.ref st, .int (nI N), .int (nI B), .ref rp, .int vrs, .int vrb, .int vhs, .int vca, .int vxs, .int vxb, .ref tp, .int (nI T), .int vfa, .int vbr, .int vba, .int (nI nsp), .int (nI nhe), .int vtk, .int vva, .ref cu, .ref lt, .ref od, .ref th, .ref be, .ref ln, .int (nI S), .ref ma, .int (nI M), .ref ah, .ref bh, .ref ik, .ref la, .ref lg, .ref ce, .int vto]))]) hD hS hA [0] rfl
              refine va_callv (va_runV (As := [.int 4]) (rest := []) ⟨hx, hb, hml, hown, hg⟩ (c_X11_fails l dC dI G _ h0 st N B rp tp T cu lt od th be ln S ma M ah bh ik la lg ce 4 vrs vrb vhs vca vxs vxb vfa vbr vba (nI nsp) (nI nhe) vtk vva vto (by have t_c1 := eqI c1; have t_c13 := eqI c13; have t_c14 := eqI c14; have t_b18 := b18; have t_c19 := eqI c19; have t_c21 := eqI c21; have : (0 : Int32).toInt = 0 := (by decide); have : (1 : Int32).toInt = 1 := (by decide); have : (2 : Int32).toInt = 2 := (by decide); have t_n0 : (nI N).toInt = (N : Int) := nI_toInt (by omega); have t_n1 : (nI B).toInt = (B : Int) := nI_toInt (by omega); have t_n2 : (nI T).toInt = (T : Int) := nI_toInt (by omega); have t_n3 : (nI nsp).toInt = (nsp : Int) := nI_toInt (by omega); have t_n4 : (nI nhe).toInt = (nhe : Int) := nI_toInt (by omega); have t_n5 : (nI S).toInt = (S : Int) := nI_toInt (by omega); have t_n6 : (nI M).toInt = (M : Int) := nI_toInt (by omega); have : (4 : Int32).toInt = 4 := (by decide); omega) (by have t_c1 := eqI c1; have t_c13 := eqI c13; have t_c14 := eqI c14; have t_b18 := b18; have t_c19 := eqI c19; have t_c21 := eqI c21; have : (0 : Int32).toInt = 0 := (by decide); have : (1 : Int32).toInt = 1 := (by decide); have : (2 : Int32).toInt = 2 := (by decide); have t_n0 : (nI N).toInt = (N : Int) := nI_toInt (by omega); have t_n1 : (nI B).toInt = (B : Int) := nI_toInt (by omega); have t_n2 : (nI T).toInt = (T : Int) := nI_toInt (by omega); have t_n3 : (nI nsp).toInt = (nsp : Int) := nI_toInt (by omega); have t_n4 : (nI nhe).toInt = (nhe : Int) := nI_toInt (by omega); have t_n5 : (nI S).toInt = (S : Int) := nI_toInt (by omega); have t_n6 : (nI M).toInt = (M : Int) := nI_toInt (by omega); have : (4 : Int32).toInt = 4 := (by decide); omega) (by have t_c1 := eqI c1; have t_c13 := eqI c13; have t_c14 := eqI c14; have t_b18 := b18; have t_c19 := eqI c19; have t_c21 := eqI c21; have : (0 : Int32).toInt = 0 := (by decide); have : (1 : Int32).toInt = 1 := (by decide); have : (2 : Int32).toInt = 2 := (by decide); have t_n0 : (nI N).toInt = (N : Int) := nI_toInt (by omega); have t_n1 : (nI B).toInt = (B : Int) := nI_toInt (by omega); have t_n2 : (nI T).toInt = (T : Int) := nI_toInt (by omega); have t_n3 : (nI nsp).toInt = (nsp : Int) := nI_toInt (by omega); have t_n4 : (nI nhe).toInt = (nhe : Int) := nI_toInt (by omega); have t_n5 : (nI S).toInt = (S : Int) := nI_toInt (by omega); have t_n6 : (nI M).toInt = (M : Int) := nI_toInt (by omega); have : (4 : Int32).toInt = 4 := (by decide); omega) (by have t_c1 := eqI c1; have t_c13 := eqI c13; have t_c14 := eqI c14; have t_b18 := b18; have t_c19 := eqI c19; have t_c21 := eqI c21; have : (0 : Int32).toInt = 0 := (by decide); have : (1 : Int32).toInt = 1 := (by decide); have : (2 : Int32).toInt = 2 := (by decide); have t_n0 : (nI N).toInt = (N : Int) := nI_toInt (by omega); have t_n1 : (nI B).toInt = (B : Int) := nI_toInt (by omega); have t_n2 : (nI T).toInt = (T : Int) := nI_toInt (by omega); have t_n3 : (nI nsp).toInt = (nsp : Int) := nI_toInt (by omega); have t_n4 : (nI nhe).toInt = (nhe : Int) := nI_toInt (by omega); have t_n5 : (nI S).toInt = (S : Int) := nI_toInt (by omega); have t_n6 : (nI M).toInt = (M : Int) := nI_toInt (by omega); have : (4 : Int32).toInt = 4 := (by decide); omega) (by have t_c1 := eqI c1; have t_c13 := eqI c13; have t_c14 := eqI c14; have t_b18 := b18; have t_c19 := eqI c19; have t_c21 := eqI c21; have : (0 : Int32).toInt = 0 := (by decide); have : (1 : Int32).toInt = 1 := (by decide); have : (2 : Int32).toInt = 2 := (by decide); have t_n0 : (nI N).toInt = (N : Int) := nI_toInt (by omega); have t_n1 : (nI B).toInt = (B : Int) := nI_toInt (by omega); have t_n2 : (nI T).toInt = (T : Int) := nI_toInt (by omega); have t_n3 : (nI nsp).toInt = (nsp : Int) := nI_toInt (by omega); have t_n4 : (nI nhe).toInt = (nhe : Int) := nI_toInt (by omega); have t_n5 : (nI S).toInt = (S : Int) := nI_toInt (by omega); have t_n6 : (nI M).toInt = (M : Int) := nI_toInt (by omega); have : (4 : Int32).toInt = 4 := (by decide); omega) (by have t_c1 := eqI c1; have t_c13 := eqI c13; have t_c14 := eqI c14; have t_b18 := b18; have t_c19 := eqI c19; have t_c21 := eqI c21; have : (0 : Int32).toInt = 0 := (by decide); have : (1 : Int32).toInt = 1 := (by decide); have : (2 : Int32).toInt = 2 := (by decide); have t_n0 : (nI N).toInt = (N : Int) := nI_toInt (by omega); have t_n1 : (nI B).toInt = (B : Int) := nI_toInt (by omega); have t_n2 : (nI T).toInt = (T : Int) := nI_toInt (by omega); have t_n3 : (nI nsp).toInt = (nsp : Int) := nI_toInt (by omega); have t_n4 : (nI nhe).toInt = (nhe : Int) := nI_toInt (by omega); have t_n5 : (nI S).toInt = (S : Int) := nI_toInt (by omega); have t_n6 : (nI M).toInt = (M : Int) := nI_toInt (by omega); have : (4 : Int32).toInt = 4 := (by decide); omega) (by have t_c1 := eqI c1; have t_c13 := eqI c13; have t_c14 := eqI c14; have t_b18 := b18; have t_c19 := eqI c19; have t_c21 := eqI c21; have : (0 : Int32).toInt = 0 := (by decide); have : (1 : Int32).toInt = 1 := (by decide); have : (2 : Int32).toInt = 2 := (by decide); have t_n0 : (nI N).toInt = (N : Int) := nI_toInt (by omega); have t_n1 : (nI B).toInt = (B : Int) := nI_toInt (by omega); have t_n2 : (nI T).toInt = (T : Int) := nI_toInt (by omega); have t_n3 : (nI nsp).toInt = (nsp : Int) := nI_toInt (by omega); have t_n4 : (nI nhe).toInt = (nhe : Int) := nI_toInt (by omega); have t_n5 : (nI S).toInt = (S : Int) := nI_toInt (by omega); have t_n6 : (nI M).toInt = (M : Int) := nI_toInt (by omega); have : (4 : Int32).toInt = 4 := (by decide); omega)) (kwV hg mfX11_fails wt_1011 ⟨Nat.le_of_ble_eq_true rfl, Nat.le_of_ble_eq_true rfl⟩) (preVW hK hPc hDc (ci := 11) rfl rfl) rfl rfl hl.1 rfl (lv_room (Nat.le_of_ble_eq_true rfl)) dX11_other_68 ⟨Nat.le_of_ble_eq_true rfl, Nat.le_of_ble_eq_true rfl⟩) hS (fun q _ h => hFc q h) hFc (fun ur31 t H1 locs ht hvm w32 hB hz1 hk1 hS => ?_)
              obtain ⟨u33, u34⟩ := ur31
              obtain ⟨hP1, hD1⟩ := hB
              rw [ht] at hP1
              obtain ⟨hP, hD⟩ := va_join (wr := [(tp, .inl (G 0, 320, .inl ftp))]) (w1 := [(h0, .inr (11, [.ref st, .int (nI N), .int (nI B), .ref rp, .int vrs, .int vrb, .int vhs, .int vca, .int vxs, .int vxb, .ref tp, .int (nI T), .int vfa, .int u33, .int u34, .int (nI nsp), .int (nI nhe), .int vtk, .int vva, .ref cu, .ref lt, .ref od, .ref th, .ref be, .ref ln, .int (nI S), .ref ma, .int (nI M), .ref ah, .ref bh, .ref ik, .ref la, .ref lg, .ref ce, .int vto]))]) hP hD [0] [1] rfl rfl (by decide) (by decide) hk1 hFc hP1 hD1
              have w32 : 0 < u33.toInt := w32
              generalize H1 = H at hP hS ⊢
              have hP : va_P (dC, dI) vwCl [(tp, .inl (G 0, 320, .inl ftp)), (h0, .inr (11, [.ref st, .int (nI N), .int (nI B), .ref rp, .int vrs, .int vrb, .int vhs, .int vca, .int vxs, .int vxb, .ref tp, .int (nI T), .int vfa, .int u33, .int u34, .int (nI nsp), .int (nI nhe), .int vtk, .int vva, .ref cu, .ref lt, .ref od, .ref th, .ref be, .ref ln, .int (nI S), .ref ma, .int (nI M), .ref ah, .ref bh, .ref ik, .ref la, .ref lg, .ref ce, .int vto]))] H := hP
              have hD : va_D A [(tp, .inl (G 0, 320, .inl ftp)), (h0, .inr (11, [.ref st, .int (nI N), .int (nI B), .ref rp, .int vrs, .int vrb, .int vhs, .int vca, .int vxs, .int vxb, .ref tp, .int (nI T), .int vfa, .int u33, .int u34, .int (nI nsp), .int (nI nhe), .int vtk, .int vva, .ref cu, .ref lt, .ref od, .ref th, .ref be, .ref ln, .int (nI S), .ref ma, .int (nI M), .ref ah, .ref bh, .ref ik, .ref la, .ref lg, .ref ce, .int vto]))] := hD
              refine lv_aload_n hx hb dX11_other_71 rfl (lv_at hl 0 rfl) ?_
              refine va_get (D := (dC, dI)) (ci := 11) (v := .int u33) (C := RX11) (T := TX11) (N := 35) hx hb hg inG11 hown hK.1 hP 1 rfl rfl 13 (by decide) (hg _ wt_891) (fun _ h9 => h9) rfl dX11_other_72 ?_
              refine lv_if_ne (tgt := 85) hx hb dX11_other_75 (by decide) (fun c35 => ?_) (fun c35 => ?_)
              · skip
                refine lv_iload_n hx hb dX11_other_85 rfl (lv_at hl 1 rfl) ?_
                refine lv_istore (lv' := [(4, .int lo), (0, .ref h0), (1, .int lo), (2, .int xh), (3, .int sm)]) hx hb dX11_other_86 hl (by decide) rfl (fun ls hl => ?_)
                refine lv_aload_n hx hb dX11_other_88 rfl (lv_at hl 1 rfl) ?_
                have hPc := hP.sub (ws' := [(h0, .inr (11, [.ref st, .int (nI N), .int (nI B), .ref rp, .int vrs, .int vrb, .int vhs, .int vca, .int vxs, .int vxb, .ref tp, .int (nI T), .int vfa, .int u33, .int u34, .int (nI nsp), .int (nI nhe), .int vtk, .int vva, .ref cu, .ref lt, .ref od, .ref th, .ref be, .ref ln, .int (nI S), .ref ma, .int (nI M), .ref ah, .ref bh, .ref ik, .ref la, .ref lg, .ref ce, .int vto])), (tp, .inl (G 0, 320, .inl ftp))]) [1, 0] rfl
                have hDc := hD.sub (ws' := [(h0, .inr (11, [.ref st, .int (nI N), .int (nI B), .ref rp, .int vrs, .int vrb, .int vhs, .int vca, .int vxs, .int vxb, .ref tp, .int (nI T), .int vfa, .int u33, .int u34, .int (nI nsp), .int (nI nhe), .int vtk, .int vva, .ref cu, .ref lt, .ref od, .ref th, .ref be, .ref ln, .int (nI S), .ref ma, .int (nI M), .ref ah, .ref bh, .ref ik, .ref la, .ref lg, .ref ce, .int vto])), (tp, .inl (G 0, 320, .inl ftp))]) [1, 0] (by decide) rfl
                have hFc := va_free (wc := [(h0, .inr (11, [.ref st, .int (nI N), .int (nI B), .ref rp, .int vrs, .int vrb, .int vhs, .int vca, .int vxs, .int vxb, .ref tp, .int (nI T), .int vfa, .int u33, .int u34, .int (nI nsp), .int (nI nhe), .int vtk, .int vva, .ref cu, .ref lt, .ref od, .ref th, .ref be, .ref ln, .int (nI S), .ref ma, .int (nI M), .ref ah, .ref bh, .ref ik, .ref la, .ref lg, .ref ce, .int vto])), (tp, .inl (G 0, 320, .inl ftp))]) hD hS hA [1, 0] rfl
                refine va_callv (va_runV (As := []) (rest := []) ⟨hx, hb, hml, hown, hg⟩ (c_X11_goesOn l dC dI G _ h0 st N B rp tp T nsp nhe cu lt od th be ln S ma M ah bh ik la lg ce vrs vrb vhs vca vxs vxb vfa u33 u34 vtk vva vto ftp (by have t_c1 := eqI c1; have t_c13 := eqI c13; have t_c14 := eqI c14; have t_b18 := b18; have t_c19 := eqI c19; have t_c21 := eqI c21; have t_w32 := w32; have t_c35 := neI c35; have : (0 : Int32).toInt = 0 := (by decide); have : (1 : Int32).toInt = 1 := (by decide); have : (2 : Int32).toInt = 2 := (by decide); have t_n0 : (nI N).toInt = (N : Int) := nI_toInt (by omega); have t_n1 : (nI B).toInt = (B : Int) := nI_toInt (by omega); have t_n2 : (nI T).toInt = (T : Int) := nI_toInt (by omega); have t_n3 : (nI nsp).toInt = (nsp : Int) := nI_toInt (by omega); have t_n4 : (nI nhe).toInt = (nhe : Int) := nI_toInt (by omega); have t_n5 : (nI S).toInt = (S : Int) := nI_toInt (by omega); have t_n6 : (nI M).toInt = (M : Int) := nI_toInt (by omega); omega) (by have t_c1 := eqI c1; have t_c13 := eqI c13; have t_c14 := eqI c14; have t_b18 := b18; have t_c19 := eqI c19; have t_c21 := eqI c21; have t_w32 := w32; have t_c35 := neI c35; have : (0 : Int32).toInt = 0 := (by decide); have : (1 : Int32).toInt = 1 := (by decide); have : (2 : Int32).toInt = 2 := (by decide); have t_n0 : (nI N).toInt = (N : Int) := nI_toInt (by omega); have t_n1 : (nI B).toInt = (B : Int) := nI_toInt (by omega); have t_n2 : (nI T).toInt = (T : Int) := nI_toInt (by omega); have t_n3 : (nI nsp).toInt = (nsp : Int) := nI_toInt (by omega); have t_n4 : (nI nhe).toInt = (nhe : Int) := nI_toInt (by omega); have t_n5 : (nI S).toInt = (S : Int) := nI_toInt (by omega); have t_n6 : (nI M).toInt = (M : Int) := nI_toInt (by omega); omega) (by have t_c1 := eqI c1; have t_c13 := eqI c13; have t_c14 := eqI c14; have t_b18 := b18; have t_c19 := eqI c19; have t_c21 := eqI c21; have t_w32 := w32; have t_c35 := neI c35; have : (0 : Int32).toInt = 0 := (by decide); have : (1 : Int32).toInt = 1 := (by decide); have : (2 : Int32).toInt = 2 := (by decide); have t_n0 : (nI N).toInt = (N : Int) := nI_toInt (by omega); have t_n1 : (nI B).toInt = (B : Int) := nI_toInt (by omega); have t_n2 : (nI T).toInt = (T : Int) := nI_toInt (by omega); have t_n3 : (nI nsp).toInt = (nsp : Int) := nI_toInt (by omega); have t_n4 : (nI nhe).toInt = (nhe : Int) := nI_toInt (by omega); have t_n5 : (nI S).toInt = (S : Int) := nI_toInt (by omega); have t_n6 : (nI M).toInt = (M : Int) := nI_toInt (by omega); omega) (by have t_c1 := eqI c1; have t_c13 := eqI c13; have t_c14 := eqI c14; have t_b18 := b18; have t_c19 := eqI c19; have t_c21 := eqI c21; have t_w32 := w32; have t_c35 := neI c35; have : (0 : Int32).toInt = 0 := (by decide); have : (1 : Int32).toInt = 1 := (by decide); have : (2 : Int32).toInt = 2 := (by decide); have t_n0 : (nI N).toInt = (N : Int) := nI_toInt (by omega); have t_n1 : (nI B).toInt = (B : Int) := nI_toInt (by omega); have t_n2 : (nI T).toInt = (T : Int) := nI_toInt (by omega); have t_n3 : (nI nsp).toInt = (nsp : Int) := nI_toInt (by omega); have t_n4 : (nI nhe).toInt = (nhe : Int) := nI_toInt (by omega); have t_n5 : (nI S).toInt = (S : Int) := nI_toInt (by omega); have t_n6 : (nI M).toInt = (M : Int) := nI_toInt (by omega); omega) (by have t_c1 := eqI c1; have t_c13 := eqI c13; have t_c14 := eqI c14; have t_b18 := b18; have t_c19 := eqI c19; have t_c21 := eqI c21; have t_w32 := w32; have t_c35 := neI c35; have : (0 : Int32).toInt = 0 := (by decide); have : (1 : Int32).toInt = 1 := (by decide); have : (2 : Int32).toInt = 2 := (by decide); have t_n0 : (nI N).toInt = (N : Int) := nI_toInt (by omega); have t_n1 : (nI B).toInt = (B : Int) := nI_toInt (by omega); have t_n2 : (nI T).toInt = (T : Int) := nI_toInt (by omega); have t_n3 : (nI nsp).toInt = (nsp : Int) := nI_toInt (by omega); have t_n4 : (nI nhe).toInt = (nhe : Int) := nI_toInt (by omega); have t_n5 : (nI S).toInt = (S : Int) := nI_toInt (by omega); have t_n6 : (nI M).toInt = (M : Int) := nI_toInt (by omega); omega) (by have t_c1 := eqI c1; have t_c13 := eqI c13; have t_c14 := eqI c14; have t_b18 := b18; have t_c19 := eqI c19; have t_c21 := eqI c21; have t_w32 := w32; have t_c35 := neI c35; have : (0 : Int32).toInt = 0 := (by decide); have : (1 : Int32).toInt = 1 := (by decide); have : (2 : Int32).toInt = 2 := (by decide); have t_n0 : (nI N).toInt = (N : Int) := nI_toInt (by omega); have t_n1 : (nI B).toInt = (B : Int) := nI_toInt (by omega); have t_n2 : (nI T).toInt = (T : Int) := nI_toInt (by omega); have t_n3 : (nI nsp).toInt = (nsp : Int) := nI_toInt (by omega); have t_n4 : (nI nhe).toInt = (nhe : Int) := nI_toInt (by omega); have t_n5 : (nI S).toInt = (S : Int) := nI_toInt (by omega); have t_n6 : (nI M).toInt = (M : Int) := nI_toInt (by omega); omega) (by have t_c1 := eqI c1; have t_c13 := eqI c13; have t_c14 := eqI c14; have t_b18 := b18; have t_c19 := eqI c19; have t_c21 := eqI c21; have t_w32 := w32; have t_c35 := neI c35; have : (0 : Int32).toInt = 0 := (by decide); have : (1 : Int32).toInt = 1 := (by decide); have : (2 : Int32).toInt = 2 := (by decide); have t_n0 : (nI N).toInt = (N : Int) := nI_toInt (by omega); have t_n1 : (nI B).toInt = (B : Int) := nI_toInt (by omega); have t_n2 : (nI T).toInt = (T : Int) := nI_toInt (by omega); have t_n3 : (nI nsp).toInt = (nsp : Int) := nI_toInt (by omega); have t_n4 : (nI nhe).toInt = (nhe : Int) := nI_toInt (by omega); have t_n5 : (nI S).toInt = (S : Int) := nI_toInt (by omega); have t_n6 : (nI M).toInt = (M : Int) := nI_toInt (by omega); omega) (by have t_c1 := eqI c1; have t_c13 := eqI c13; have t_c14 := eqI c14; have t_b18 := b18; have t_c19 := eqI c19; have t_c21 := eqI c21; have t_w32 := w32; have t_c35 := neI c35; have : (0 : Int32).toInt = 0 := (by decide); have : (1 : Int32).toInt = 1 := (by decide); have : (2 : Int32).toInt = 2 := (by decide); have t_n0 : (nI N).toInt = (N : Int) := nI_toInt (by omega); have t_n1 : (nI B).toInt = (B : Int) := nI_toInt (by omega); have t_n2 : (nI T).toInt = (T : Int) := nI_toInt (by omega); have t_n3 : (nI nsp).toInt = (nsp : Int) := nI_toInt (by omega); have t_n4 : (nI nhe).toInt = (nhe : Int) := nI_toInt (by omega); have t_n5 : (nI S).toInt = (S : Int) := nI_toInt (by omega); have t_n6 : (nI M).toInt = (M : Int) := nI_toInt (by omega); omega)) (kwV hg mfX11_goesOn wt_999 ⟨Nat.le_of_ble_eq_true rfl, Nat.le_of_ble_eq_true rfl⟩) (preVW hK hPc hDc (ci := 11) rfl rfl) rfl rfl hl.1 rfl (lv_room (Nat.le_of_ble_eq_true rfl)) dX11_other_89 ⟨Nat.le_of_ble_eq_true rfl, Nat.le_of_ble_eq_true rfl⟩) hS (fun q _ h => hFc q h) hFc (fun ur36 t H1 locs ht hvm w37 hB hz1 hk1 hS => ?_)
                obtain ⟨u38, u39, u40, u41, u42, u43⟩ := ur36
                obtain ⟨hP1, hD1⟩ := hB
                rw [ht] at hP1
                obtain ⟨hP, hD⟩ := va_join (wr := []) (w1 := [(h0, .inr (11, [.ref st, .int (nI N), .int (nI B), .ref rp, .int vrs, .int vrb, .int vhs, .int vca, .int vxs, .int vxb, .ref tp, .int (nI T), .int vfa, .int u38, .int u39, .int (nI u40), .int (nI u41), .int u42, .int u43, .ref cu, .ref lt, .ref od, .ref th, .ref be, .ref ln, .int (nI S), .ref ma, .int (nI M), .ref ah, .ref bh, .ref ik, .ref la, .ref lg, .ref ce, .int vto])), (tp, .inl (G 0, 320, .inl ftp))]) hP hD [1, 0] [] rfl rfl (by decide) (by decide) hk1 hFc hP1 hD1
                have w37 : 0 ≤ u38.toInt ∧ (u33.toInt = 0 ∨ u38.toInt = u33.toInt) ∧ nsp ≤ u40 ∧ u40 ≤ T ∧ u41 ≤ u40 ∧ (0 < u33.toInt ∨ u42.toInt = 0 ∨ nsp < u40) := w37
                generalize H1 = H at hP hS ⊢
                have hP : va_P (dC, dI) vwCl [(h0, .inr (11, [.ref st, .int (nI N), .int (nI B), .ref rp, .int vrs, .int vrb, .int vhs, .int vca, .int vxs, .int vxb, .ref tp, .int (nI T), .int vfa, .int u38, .int u39, .int (nI u40), .int (nI u41), .int u42, .int u43, .ref cu, .ref lt, .ref od, .ref th, .ref be, .ref ln, .int (nI S), .ref ma, .int (nI M), .ref ah, .ref bh, .ref ik, .ref la, .ref lg, .ref ce, .int vto])), (tp, .inl (G 0, 320, .inl ftp))] H := hP
                have hD : va_D A [(h0, .inr (11, [.ref st, .int (nI N), .int (nI B), .ref rp, .int vrs, .int vrb, .int vhs, .int vca, .int vxs, .int vxb, .ref tp, .int (nI T), .int vfa, .int u38, .int u39, .int (nI u40), .int (nI u41), .int u42, .int u43, .ref cu, .ref lt, .ref od, .ref th, .ref be, .ref ln, .int (nI S), .ref ma, .int (nI M), .ref ah, .ref bh, .ref ik, .ref la, .ref lg, .ref ce, .int vto])), (tp, .inl (G 0, 320, .inl ftp))] := hD
                refine lv_iload hx hb dX11_other_92 (lv_at hl 0 rfl) ?_
                have hpost : lo.toInt ≤ (lo : Int32).toInt ∧ (lo : Int32).toInt ≤ xh.toInt := by
                  have t_c1 := eqI c1
                  have t_c13 := eqI c13
                  have t_c14 := eqI c14
                  have t_b18 := b18
                  have t_c19 := eqI c19
                  have t_c21 := eqI c21
                  have t_w32 := w32
                  have t_c35 := neI c35
                  have : (0 : Int32).toInt = 0 := (by decide)
                  have : (1 : Int32).toInt = 1 := (by decide)
                  have : (2 : Int32).toInt = 2 := (by decide)
                  have t_n0 : (nI N).toInt = (N : Int) := nI_toInt (by omega)
                  have t_n1 : (nI B).toInt = (B : Int) := nI_toInt (by omega)
                  have t_n2 : (nI T).toInt = (T : Int) := nI_toInt (by omega)
                  have t_n3 : (nI nsp).toInt = (nsp : Int) := nI_toInt (by omega)
                  have t_n4 : (nI nhe).toInt = (nhe : Int) := nI_toInt (by omega)
                  have t_n5 : (nI S).toInt = (S : Int) := nI_toInt (by omega)
                  have t_n6 : (nI M).toInt = (M : Int) := nI_toInt (by omega)
                  omega
                have hP9 := hP.sub (ws' := [(h0, .inr (11, [.ref st, .int (nI N), .int (nI B), .ref rp, .int vrs, .int vrb, .int vhs, .int vca, .int vxs, .int vxb, .ref tp, .int (nI T), .int vfa, .int u38, .int u39, .int (nI u40), .int (nI u41), .int u42, .int u43, .ref cu, .ref lt, .ref od, .ref th, .ref be, .ref ln, .int (nI S), .ref ma, .int (nI M), .ref ah, .ref bh, .ref ik, .ref la, .ref lg, .ref ce, .int vto])), (tp, .inl (G 0, 320, .inl ftp))]) [0, 1] rfl
                have hD9 := hD.sub (ws' := [(h0, .inr (11, [.ref st, .int (nI N), .int (nI B), .ref rp, .int vrs, .int vrb, .int vhs, .int vca, .int vxs, .int vxb, .ref tp, .int (nI T), .int vfa, .int u38, .int u39, .int (nI u40), .int (nI u41), .int u42, .int u43, .ref cu, .ref lt, .ref od, .ref th, .ref be, .ref ln, .int (nI S), .ref ma, .int (nI M), .ref ah, .ref bh, .ref ik, .ref la, .ref lg, .ref ce, .int vto])), (tp, .inl (G 0, 320, .inl ftp))]) [0, 1] (by decide) rfl
                refine W.widen (k := 0) (n := 0) (by omega) (by omega) ?_
                exact W.iret (v := lo) hx hb hr (fun t ht hW => ⟨⟨lo, (u38, u39, u40, u41, u42, u43), rfl, ⟨hpost, (by have t_c1 := eqI c1; have t_c13 := eqI c13; have t_c14 := eqI c14; have t_b18 := b18; have t_c19 := eqI c19; have t_c21 := eqI c21; have t_w32 := w32; have t_c35 := neI c35; have : (0 : Int32).toInt = 0 := (by decide); have : (1 : Int32).toInt = 1 := (by decide); have : (2 : Int32).toInt = 2 := (by decide); have t_n0 : (nI N).toInt = (N : Int) := nI_toInt (by omega); have t_n1 : (nI B).toInt = (B : Int) := nI_toInt (by omega); have t_n2 : (nI T).toInt = (T : Int) := nI_toInt (by omega); have t_n3 : (nI nsp).toInt = (nsp : Int) := nI_toInt (by omega); have t_n4 : (nI nhe).toInt = (nhe : Int) := nI_toInt (by omega); have t_n5 : (nI S).toInt = (S : Int) := nI_toInt (by omega); have t_n6 : (nI M).toInt = (M : Int) := nI_toInt (by omega); have z0 : (0 : Int32).toInt = 0 := (by decide); have z1 : (1 : Int32).toInt = 1 := (by decide); have z2 : (2 : Int32).toInt = 2 := (by decide); have z3 : (3 : Int32).toInt = 3 := (by decide); have z5 : (5 : Int32).toInt = 5 := (by decide); have z9 : (9 : Int32).toInt = 9 := (by decide); omega)⟩, ⟨by rw [ht]; exact hP9, hD9⟩⟩, hS.F ht⟩) hS.2.2 dX11_other_94
              · skip
                have t_c1 := eqI c1
                have t_c13 := eqI c13
                have t_c14 := eqI c14
                have t_b18 := b18
                have t_c19 := eqI c19
                have t_c21 := eqI c21
                have t_w32 := w32
                have t_c35 := eqI c35
                have : (0 : Int32).toInt = 0 := (by decide)
                have : (1 : Int32).toInt = 1 := (by decide)
                have : (2 : Int32).toInt = 2 := (by decide)
                have t_n0 : (nI N).toInt = (N : Int) := nI_toInt (by omega)
                have t_n1 : (nI B).toInt = (B : Int) := nI_toInt (by omega)
                have t_n2 : (nI T).toInt = (T : Int) := nI_toInt (by omega)
                have t_n3 : (nI nsp).toInt = (nsp : Int) := nI_toInt (by omega)
                have t_n4 : (nI nhe).toInt = (nhe : Int) := nI_toInt (by omega)
                have t_n5 : (nI S).toInt = (S : Int) := nI_toInt (by omega)
                have t_n6 : (nI M).toInt = (M : Int) := nI_toInt (by omega)
                exfalso; omega
        · skip
          have b44 := if10_n c17
          refine lv_aload_n hx hb dX11_other_42 rfl (lv_at hl 0 rfl) ?_
          refine lv_iconst (v := 3) hx hb dX11_other_43 (by decide) ?_
          have hPc := hP.sub (ws' := [(h0, .inr (11, [.ref st, .int (nI N), .int (nI B), .ref rp, .int vrs, .int vrb, .int vhs, .int vca, .int vxs, .int vxb, .ref tp, .int (nI T), .int vfa, .int vbr, .int vba, .int (nI nsp), .int (nI nhe), .int vtk, .int vva, .ref cu, .ref lt, .ref od, .ref th, .ref be, .ref ln, .int (nI S), .ref ma, .int (nI M), .ref ah, .ref bh, .ref ik, .ref la, .ref lg, .ref ce, .int vto]))]) [0] rfl
          have hDc := hD.sub (ws' := [(h0, .inr (11, [.ref st, .int (nI N), .int (nI B), .ref rp, .int vrs, .int vrb, .int vhs, .int vca, .int vxs, .int vxb, .ref tp, .int (nI T), .int vfa, .int vbr, .int vba, .int (nI nsp), .int (nI nhe), .int vtk, .int vva, .ref cu, .ref lt, .ref od, .ref th, .ref be, .ref ln, .int (nI S), .ref ma, .int (nI M), .ref ah, .ref bh, .ref ik, .ref la, .ref lg, .ref ce, .int vto]))]) [0] (by decide) rfl
          have hFc := va_free (wc := [(h0, .inr (11, [.ref st, .int (nI N), .int (nI B), .ref rp, .int vrs, .int vrb, .int vhs, .int vca, .int vxs, .int vxb, .ref tp, .int (nI T), .int vfa, .int vbr, .int vba, .int (nI nsp), .int (nI nhe), .int vtk, .int vva, .ref cu, .ref lt, .ref od, .ref th, .ref be, .ref ln, .int (nI S), .ref ma, .int (nI M), .ref ah, .ref bh, .ref ik, .ref la, .ref lg, .ref ce, .int vto]))]) hD hS hA [0] rfl
          refine va_callv (va_runV (As := [.int 3]) (rest := []) ⟨hx, hb, hml, hown, hg⟩ (c_X11_fails l dC dI G _ h0 st N B rp tp T cu lt od th be ln S ma M ah bh ik la lg ce 3 vrs vrb vhs vca vxs vxb vfa vbr vba (nI nsp) (nI nhe) vtk vva vto (by have t_c1 := eqI c1; have t_c13 := eqI c13; have t_c14 := eqI c14; have t_b44 := b44; have : (0 : Int32).toInt = 0 := (by decide); have : (2 : Int32).toInt = 2 := (by decide); have t_n0 : (nI N).toInt = (N : Int) := nI_toInt (by omega); have t_n1 : (nI B).toInt = (B : Int) := nI_toInt (by omega); have t_n2 : (nI T).toInt = (T : Int) := nI_toInt (by omega); have t_n3 : (nI nsp).toInt = (nsp : Int) := nI_toInt (by omega); have t_n4 : (nI nhe).toInt = (nhe : Int) := nI_toInt (by omega); have t_n5 : (nI S).toInt = (S : Int) := nI_toInt (by omega); have t_n6 : (nI M).toInt = (M : Int) := nI_toInt (by omega); have : (3 : Int32).toInt = 3 := (by decide); omega) (by have t_c1 := eqI c1; have t_c13 := eqI c13; have t_c14 := eqI c14; have t_b44 := b44; have : (0 : Int32).toInt = 0 := (by decide); have : (2 : Int32).toInt = 2 := (by decide); have t_n0 : (nI N).toInt = (N : Int) := nI_toInt (by omega); have t_n1 : (nI B).toInt = (B : Int) := nI_toInt (by omega); have t_n2 : (nI T).toInt = (T : Int) := nI_toInt (by omega); have t_n3 : (nI nsp).toInt = (nsp : Int) := nI_toInt (by omega); have t_n4 : (nI nhe).toInt = (nhe : Int) := nI_toInt (by omega); have t_n5 : (nI S).toInt = (S : Int) := nI_toInt (by omega); have t_n6 : (nI M).toInt = (M : Int) := nI_toInt (by omega); have : (3 : Int32).toInt = 3 := (by decide); omega) (by have t_c1 := eqI c1; have t_c13 := eqI c13; have t_c14 := eqI c14; have t_b44 := b44; have : (0 : Int32).toInt = 0 := (by decide); have : (2 : Int32).toInt = 2 := (by decide); have t_n0 : (nI N).toInt = (N : Int) := nI_toInt (by omega); have t_n1 : (nI B).toInt = (B : Int) := nI_toInt (by omega); have t_n2 : (nI T).toInt = (T : Int) := nI_toInt (by omega); have t_n3 : (nI nsp).toInt = (nsp : Int) := nI_toInt (by omega); have t_n4 : (nI nhe).toInt = (nhe : Int) := nI_toInt (by omega); have t_n5 : (nI S).toInt = (S : Int) := nI_toInt (by omega); have t_n6 : (nI M).toInt = (M : Int) := nI_toInt (by omega); have : (3 : Int32).toInt = 3 := (by decide); omega) (by have t_c1 := eqI c1; have t_c13 := eqI c13; have t_c14 := eqI c14; have t_b44 := b44; have : (0 : Int32).toInt = 0 := (by decide); have : (2 : Int32).toInt = 2 := (by decide); have t_n0 : (nI N).toInt = (N : Int) := nI_toInt (by omega); have t_n1 : (nI B).toInt = (B : Int) := nI_toInt (by omega); have t_n2 : (nI T).toInt = (T : Int) := nI_toInt (by omega); have t_n3 : (nI nsp).toInt = (nsp : Int) := nI_toInt (by omega); have t_n4 : (nI nhe).toInt = (nhe : Int) := nI_toInt (by omega); have t_n5 : (nI S).toInt = (S : Int) := nI_toInt (by omega); have t_n6 : (nI M).toInt = (M : Int) := nI_toInt (by omega); have : (3 : Int32).toInt = 3 := (by decide); omega) (by have t_c1 := eqI c1; have t_c13 := eqI c13; have t_c14 := eqI c14; have t_b44 := b44; have : (0 : Int32).toInt = 0 := (by decide); have : (2 : Int32).toInt = 2 := (by decide); have t_n0 : (nI N).toInt = (N : Int) := nI_toInt (by omega); have t_n1 : (nI B).toInt = (B : Int) := nI_toInt (by omega); have t_n2 : (nI T).toInt = (T : Int) := nI_toInt (by omega); have t_n3 : (nI nsp).toInt = (nsp : Int) := nI_toInt (by omega); have t_n4 : (nI nhe).toInt = (nhe : Int) := nI_toInt (by omega); have t_n5 : (nI S).toInt = (S : Int) := nI_toInt (by omega); have t_n6 : (nI M).toInt = (M : Int) := nI_toInt (by omega); have : (3 : Int32).toInt = 3 := (by decide); omega) (by have t_c1 := eqI c1; have t_c13 := eqI c13; have t_c14 := eqI c14; have t_b44 := b44; have : (0 : Int32).toInt = 0 := (by decide); have : (2 : Int32).toInt = 2 := (by decide); have t_n0 : (nI N).toInt = (N : Int) := nI_toInt (by omega); have t_n1 : (nI B).toInt = (B : Int) := nI_toInt (by omega); have t_n2 : (nI T).toInt = (T : Int) := nI_toInt (by omega); have t_n3 : (nI nsp).toInt = (nsp : Int) := nI_toInt (by omega); have t_n4 : (nI nhe).toInt = (nhe : Int) := nI_toInt (by omega); have t_n5 : (nI S).toInt = (S : Int) := nI_toInt (by omega); have t_n6 : (nI M).toInt = (M : Int) := nI_toInt (by omega); have : (3 : Int32).toInt = 3 := (by decide); omega) (by have t_c1 := eqI c1; have t_c13 := eqI c13; have t_c14 := eqI c14; have t_b44 := b44; have : (0 : Int32).toInt = 0 := (by decide); have : (2 : Int32).toInt = 2 := (by decide); have t_n0 : (nI N).toInt = (N : Int) := nI_toInt (by omega); have t_n1 : (nI B).toInt = (B : Int) := nI_toInt (by omega); have t_n2 : (nI T).toInt = (T : Int) := nI_toInt (by omega); have t_n3 : (nI nsp).toInt = (nsp : Int) := nI_toInt (by omega); have t_n4 : (nI nhe).toInt = (nhe : Int) := nI_toInt (by omega); have t_n5 : (nI S).toInt = (S : Int) := nI_toInt (by omega); have t_n6 : (nI M).toInt = (M : Int) := nI_toInt (by omega); have : (3 : Int32).toInt = 3 := (by decide); omega)) (kwV hg mfX11_fails wt_1011 ⟨Nat.le_of_ble_eq_true rfl, Nat.le_of_ble_eq_true rfl⟩) (preVW hK hPc hDc (ci := 11) rfl rfl) rfl rfl hl.1 rfl (lv_room (Nat.le_of_ble_eq_true rfl)) dX11_other_44 ⟨Nat.le_of_ble_eq_true rfl, Nat.le_of_ble_eq_true rfl⟩) hS (fun q _ h => hFc q h) hFc (fun ur45 t H1 locs ht hvm w46 hB hz1 hk1 hS => ?_)
          obtain ⟨u47, u48⟩ := ur45
          obtain ⟨hP1, hD1⟩ := hB
          rw [ht] at hP1
          obtain ⟨hP, hD⟩ := va_join (wr := [(tp, .inl (G 0, 320, .inl ftp))]) (w1 := [(h0, .inr (11, [.ref st, .int (nI N), .int (nI B), .ref rp, .int vrs, .int vrb, .int vhs, .int vca, .int vxs, .int vxb, .ref tp, .int (nI T), .int vfa, .int u47, .int u48, .int (nI nsp), .int (nI nhe), .int vtk, .int vva, .ref cu, .ref lt, .ref od, .ref th, .ref be, .ref ln, .int (nI S), .ref ma, .int (nI M), .ref ah, .ref bh, .ref ik, .ref la, .ref lg, .ref ce, .int vto]))]) hP hD [0] [1] rfl rfl (by decide) (by decide) hk1 hFc hP1 hD1
          have w46 : 0 < u47.toInt := w46
          generalize H1 = H at hP hS ⊢
          have hP : va_P (dC, dI) vwCl [(tp, .inl (G 0, 320, .inl ftp)), (h0, .inr (11, [.ref st, .int (nI N), .int (nI B), .ref rp, .int vrs, .int vrb, .int vhs, .int vca, .int vxs, .int vxb, .ref tp, .int (nI T), .int vfa, .int u47, .int u48, .int (nI nsp), .int (nI nhe), .int vtk, .int vva, .ref cu, .ref lt, .ref od, .ref th, .ref be, .ref ln, .int (nI S), .ref ma, .int (nI M), .ref ah, .ref bh, .ref ik, .ref la, .ref lg, .ref ce, .int vto]))] H := hP
          have hD : va_D A [(tp, .inl (G 0, 320, .inl ftp)), (h0, .inr (11, [.ref st, .int (nI N), .int (nI B), .ref rp, .int vrs, .int vrb, .int vhs, .int vca, .int vxs, .int vxb, .ref tp, .int (nI T), .int vfa, .int u47, .int u48, .int (nI nsp), .int (nI nhe), .int vtk, .int vva, .ref cu, .ref lt, .ref od, .ref th, .ref be, .ref ln, .int (nI S), .ref ma, .int (nI M), .ref ah, .ref bh, .ref ik, .ref la, .ref lg, .ref ce, .int vto]))] := hD
          refine lv_aload_n hx hb dX11_other_47 rfl (lv_at hl 0 rfl) ?_
          refine va_get (D := (dC, dI)) (ci := 11) (v := .int u47) (C := RX11) (T := TX11) (N := 35) hx hb hg inG11 hown hK.1 hP 1 rfl rfl 13 (by decide) (hg _ wt_891) (fun _ h9 => h9) rfl dX11_other_48 ?_
          refine lv_if_ne (tgt := 71) hx hb dX11_other_51 (by decide) (fun c49 => ?_) (fun c49 => ?_)
          · skip
            refine lv_aload_n hx hb dX11_other_71 rfl (lv_at hl 0 rfl) ?_
            refine va_get (D := (dC, dI)) (ci := 11) (v := .int u47) (C := RX11) (T := TX11) (N := 35) hx hb hg inG11 hown hK.1 hP 1 rfl rfl 13 (by decide) (hg _ wt_891) (fun _ h9 => h9) rfl dX11_other_72 ?_
            refine lv_if_ne (tgt := 85) hx hb dX11_other_75 (by decide) (fun c50 => ?_) (fun c50 => ?_)
            · skip
              refine lv_iload_n hx hb dX11_other_85 rfl (lv_at hl 1 rfl) ?_
              refine lv_istore (lv' := [(4, .int lo), (0, .ref h0), (1, .int lo), (2, .int xh), (3, .int sm)]) hx hb dX11_other_86 hl (by decide) rfl (fun ls hl => ?_)
              refine lv_aload_n hx hb dX11_other_88 rfl (lv_at hl 1 rfl) ?_
              have hPc := hP.sub (ws' := [(h0, .inr (11, [.ref st, .int (nI N), .int (nI B), .ref rp, .int vrs, .int vrb, .int vhs, .int vca, .int vxs, .int vxb, .ref tp, .int (nI T), .int vfa, .int u47, .int u48, .int (nI nsp), .int (nI nhe), .int vtk, .int vva, .ref cu, .ref lt, .ref od, .ref th, .ref be, .ref ln, .int (nI S), .ref ma, .int (nI M), .ref ah, .ref bh, .ref ik, .ref la, .ref lg, .ref ce, .int vto])), (tp, .inl (G 0, 320, .inl ftp))]) [1, 0] rfl
              have hDc := hD.sub (ws' := [(h0, .inr (11, [.ref st, .int (nI N), .int (nI B), .ref rp, .int vrs, .int vrb, .int vhs, .int vca, .int vxs, .int vxb, .ref tp, .int (nI T), .int vfa, .int u47, .int u48, .int (nI nsp), .int (nI nhe), .int vtk, .int vva, .ref cu, .ref lt, .ref od, .ref th, .ref be, .ref ln, .int (nI S), .ref ma, .int (nI M), .ref ah, .ref bh, .ref ik, .ref la, .ref lg, .ref ce, .int vto])), (tp, .inl (G 0, 320, .inl ftp))]) [1, 0] (by decide) rfl
              have hFc := va_free (wc := [(h0, .inr (11, [.ref st, .int (nI N), .int (nI B), .ref rp, .int vrs, .int vrb, .int vhs, .int vca, .int vxs, .int vxb, .ref tp, .int (nI T), .int vfa, .int u47, .int u48, .int (nI nsp), .int (nI nhe), .int vtk, .int vva, .ref cu, .ref lt, .ref od, .ref th, .ref be, .ref ln, .int (nI S), .ref ma, .int (nI M), .ref ah, .ref bh, .ref ik, .ref la, .ref lg, .ref ce, .int vto])), (tp, .inl (G 0, 320, .inl ftp))]) hD hS hA [1, 0] rfl
              refine va_callv (va_runV (As := []) (rest := []) ⟨hx, hb, hml, hown, hg⟩ (c_X11_goesOn l dC dI G _ h0 st N B rp tp T nsp nhe cu lt od th be ln S ma M ah bh ik la lg ce vrs vrb vhs vca vxs vxb vfa u47 u48 vtk vva vto ftp (by have t_c1 := eqI c1; have t_c13 := eqI c13; have t_c14 := eqI c14; have t_b44 := b44; have t_w46 := w46; have t_c49 := neI c49; have t_c50 := neI c50; have : (0 : Int32).toInt = 0 := (by decide); have : (2 : Int32).toInt = 2 := (by decide); have t_n0 : (nI N).toInt = (N : Int) := nI_toInt (by omega); have t_n1 : (nI B).toInt = (B : Int) := nI_toInt (by omega); have t_n2 : (nI T).toInt = (T : Int) := nI_toInt (by omega); have t_n3 : (nI nsp).toInt = (nsp : Int) := nI_toInt (by omega); have t_n4 : (nI nhe).toInt = (nhe : Int) := nI_toInt (by omega); have t_n5 : (nI S).toInt = (S : Int) := nI_toInt (by omega); have t_n6 : (nI M).toInt = (M : Int) := nI_toInt (by omega); omega) (by have t_c1 := eqI c1; have t_c13 := eqI c13; have t_c14 := eqI c14; have t_b44 := b44; have t_w46 := w46; have t_c49 := neI c49; have t_c50 := neI c50; have : (0 : Int32).toInt = 0 := (by decide); have : (2 : Int32).toInt = 2 := (by decide); have t_n0 : (nI N).toInt = (N : Int) := nI_toInt (by omega); have t_n1 : (nI B).toInt = (B : Int) := nI_toInt (by omega); have t_n2 : (nI T).toInt = (T : Int) := nI_toInt (by omega); have t_n3 : (nI nsp).toInt = (nsp : Int) := nI_toInt (by omega); have t_n4 : (nI nhe).toInt = (nhe : Int) := nI_toInt (by omega); have t_n5 : (nI S).toInt = (S : Int) := nI_toInt (by omega); have t_n6 : (nI M).toInt = (M : Int) := nI_toInt (by omega); omega) (by have t_c1 := eqI c1; have t_c13 := eqI c13; have t_c14 := eqI c14; have t_b44 := b44; have t_w46 := w46; have t_c49 := neI c49; have t_c50 := neI c50; have : (0 : Int32).toInt = 0 := (by decide); have : (2 : Int32).toInt = 2 := (by decide); have t_n0 : (nI N).toInt = (N : Int) := nI_toInt (by omega); have t_n1 : (nI B).toInt = (B : Int) := nI_toInt (by omega); have t_n2 : (nI T).toInt = (T : Int) := nI_toInt (by omega); have t_n3 : (nI nsp).toInt = (nsp : Int) := nI_toInt (by omega); have t_n4 : (nI nhe).toInt = (nhe : Int) := nI_toInt (by omega); have t_n5 : (nI S).toInt = (S : Int) := nI_toInt (by omega); have t_n6 : (nI M).toInt = (M : Int) := nI_toInt (by omega); omega) (by have t_c1 := eqI c1; have t_c13 := eqI c13; have t_c14 := eqI c14; have t_b44 := b44; have t_w46 := w46; have t_c49 := neI c49; have t_c50 := neI c50; have : (0 : Int32).toInt = 0 := (by decide); have : (2 : Int32).toInt = 2 := (by decide); have t_n0 : (nI N).toInt = (N : Int) := nI_toInt (by omega); have t_n1 : (nI B).toInt = (B : Int) := nI_toInt (by omega); have t_n2 : (nI T).toInt = (T : Int) := nI_toInt (by omega); have t_n3 : (nI nsp).toInt = (nsp : Int) := nI_toInt (by omega); have t_n4 : (nI nhe).toInt = (nhe : Int) := nI_toInt (by omega); have t_n5 : (nI S).toInt = (S : Int) := nI_toInt (by omega); have t_n6 : (nI M).toInt = (M : Int) := nI_toInt (by omega); omega) (by have t_c1 := eqI c1; have t_c13 := eqI c13; have t_c14 := eqI c14; have t_b44 := b44; have t_w46 := w46; have t_c49 := neI c49; have t_c50 := neI c50; have : (0 : Int32).toInt = 0 := (by decide); have : (2 : Int32).toInt = 2 := (by decide); have t_n0 : (nI N).toInt = (N : Int) := nI_toInt (by omega); have t_n1 : (nI B).toInt = (B : Int) := nI_toInt (by omega); have t_n2 : (nI T).toInt = (T : Int) := nI_toInt (by omega); have t_n3 : (nI nsp).toInt = (nsp : Int) := nI_toInt (by omega); have t_n4 : (nI nhe).toInt = (nhe : Int) := nI_toInt (by omega); have t_n5 : (nI S).toInt = (S : Int) := nI_toInt (by omega); have t_n6 : (nI M).toInt = (M : Int) := nI_toInt (by omega); omega) (by have t_c1 := eqI c1; have t_c13 := eqI c13; have t_c14 := eqI c14; have t_b44 := b44; have t_w46 := w46; have t_c49 := neI c49; have t_c50 := neI c50; have : (0 : Int32).toInt = 0 := (by decide); have : (2 : Int32).toInt = 2 := (by decide); have t_n0 : (nI N).toInt = (N : Int) := nI_toInt (by omega); have t_n1 : (nI B).toInt = (B : Int) := nI_toInt (by omega); have t_n2 : (nI T).toInt = (T : Int) := nI_toInt (by omega); have t_n3 : (nI nsp).toInt = (nsp : Int) := nI_toInt (by omega); have t_n4 : (nI nhe).toInt = (nhe : Int) := nI_toInt (by omega); have t_n5 : (nI S).toInt = (S : Int) := nI_toInt (by omega); have t_n6 : (nI M).toInt = (M : Int) := nI_toInt (by omega); omega) (by have t_c1 := eqI c1; have t_c13 := eqI c13; have t_c14 := eqI c14; have t_b44 := b44; have t_w46 := w46; have t_c49 := neI c49; have t_c50 := neI c50; have : (0 : Int32).toInt = 0 := (by decide); have : (2 : Int32).toInt = 2 := (by decide); have t_n0 : (nI N).toInt = (N : Int) := nI_toInt (by omega); have t_n1 : (nI B).toInt = (B : Int) := nI_toInt (by omega); have t_n2 : (nI T).toInt = (T : Int) := nI_toInt (by omega); have t_n3 : (nI nsp).toInt = (nsp : Int) := nI_toInt (by omega); have t_n4 : (nI nhe).toInt = (nhe : Int) := nI_toInt (by omega); have t_n5 : (nI S).toInt = (S : Int) := nI_toInt (by omega); have t_n6 : (nI M).toInt = (M : Int) := nI_toInt (by omega); omega) (by have t_c1 := eqI c1; have t_c13 := eqI c13; have t_c14 := eqI c14; have t_b44 := b44; have t_w46 := w46; have t_c49 := neI c49; have t_c50 := neI c50; have : (0 : Int32).toInt = 0 := (by decide); have : (2 : Int32).toInt = 2 := (by decide); have t_n0 : (nI N).toInt = (N : Int) := nI_toInt (by omega); have t_n1 : (nI B).toInt = (B : Int) := nI_toInt (by omega); have t_n2 : (nI T).toInt = (T : Int) := nI_toInt (by omega); have t_n3 : (nI nsp).toInt = (nsp : Int) := nI_toInt (by omega); have t_n4 : (nI nhe).toInt = (nhe : Int) := nI_toInt (by omega); have t_n5 : (nI S).toInt = (S : Int) := nI_toInt (by omega); have t_n6 : (nI M).toInt = (M : Int) := nI_toInt (by omega); omega)) (kwV hg mfX11_goesOn wt_999 ⟨Nat.le_of_ble_eq_true rfl, Nat.le_of_ble_eq_true rfl⟩) (preVW hK hPc hDc (ci := 11) rfl rfl) rfl rfl hl.1 rfl (lv_room (Nat.le_of_ble_eq_true rfl)) dX11_other_89 ⟨Nat.le_of_ble_eq_true rfl, Nat.le_of_ble_eq_true rfl⟩) hS (fun q _ h => hFc q h) hFc (fun ur51 t H1 locs ht hvm w52 hB hz1 hk1 hS => ?_)
              obtain ⟨u53, u54, u55, u56, u57, u58⟩ := ur51
              obtain ⟨hP1, hD1⟩ := hB
              rw [ht] at hP1
              obtain ⟨hP, hD⟩ := va_join (wr := []) (w1 := [(h0, .inr (11, [.ref st, .int (nI N), .int (nI B), .ref rp, .int vrs, .int vrb, .int vhs, .int vca, .int vxs, .int vxb, .ref tp, .int (nI T), .int vfa, .int u53, .int u54, .int (nI u55), .int (nI u56), .int u57, .int u58, .ref cu, .ref lt, .ref od, .ref th, .ref be, .ref ln, .int (nI S), .ref ma, .int (nI M), .ref ah, .ref bh, .ref ik, .ref la, .ref lg, .ref ce, .int vto])), (tp, .inl (G 0, 320, .inl ftp))]) hP hD [1, 0] [] rfl rfl (by decide) (by decide) hk1 hFc hP1 hD1
              have w52 : 0 ≤ u53.toInt ∧ (u47.toInt = 0 ∨ u53.toInt = u47.toInt) ∧ nsp ≤ u55 ∧ u55 ≤ T ∧ u56 ≤ u55 ∧ (0 < u47.toInt ∨ u57.toInt = 0 ∨ nsp < u55) := w52
              generalize H1 = H at hP hS ⊢
              have hP : va_P (dC, dI) vwCl [(h0, .inr (11, [.ref st, .int (nI N), .int (nI B), .ref rp, .int vrs, .int vrb, .int vhs, .int vca, .int vxs, .int vxb, .ref tp, .int (nI T), .int vfa, .int u53, .int u54, .int (nI u55), .int (nI u56), .int u57, .int u58, .ref cu, .ref lt, .ref od, .ref th, .ref be, .ref ln, .int (nI S), .ref ma, .int (nI M), .ref ah, .ref bh, .ref ik, .ref la, .ref lg, .ref ce, .int vto])), (tp, .inl (G 0, 320, .inl ftp))] H := hP
              have hD : va_D A [(h0, .inr (11, [.ref st, .int (nI N), .int (nI B), .ref rp, .int vrs, .int vrb, .int vhs, .int vca, .int vxs, .int vxb, .ref tp, .int (nI T), .int vfa, .int u53, .int u54, .int (nI u55), .int (nI u56), .int u57, .int u58, .ref cu, .ref lt, .ref od, .ref th, .ref be, .ref ln, .int (nI S), .ref ma, .int (nI M), .ref ah, .ref bh, .ref ik, .ref la, .ref lg, .ref ce, .int vto])), (tp, .inl (G 0, 320, .inl ftp))] := hD
              refine lv_iload hx hb dX11_other_92 (lv_at hl 0 rfl) ?_
              have hpost : lo.toInt ≤ (lo : Int32).toInt ∧ (lo : Int32).toInt ≤ xh.toInt := by
                have t_c1 := eqI c1
                have t_c13 := eqI c13
                have t_c14 := eqI c14
                have t_b44 := b44
                have t_w46 := w46
                have t_c49 := neI c49
                have t_c50 := neI c50
                have : (0 : Int32).toInt = 0 := (by decide)
                have : (2 : Int32).toInt = 2 := (by decide)
                have t_n0 : (nI N).toInt = (N : Int) := nI_toInt (by omega)
                have t_n1 : (nI B).toInt = (B : Int) := nI_toInt (by omega)
                have t_n2 : (nI T).toInt = (T : Int) := nI_toInt (by omega)
                have t_n3 : (nI nsp).toInt = (nsp : Int) := nI_toInt (by omega)
                have t_n4 : (nI nhe).toInt = (nhe : Int) := nI_toInt (by omega)
                have t_n5 : (nI S).toInt = (S : Int) := nI_toInt (by omega)
                have t_n6 : (nI M).toInt = (M : Int) := nI_toInt (by omega)
                omega
              have hP9 := hP.sub (ws' := [(h0, .inr (11, [.ref st, .int (nI N), .int (nI B), .ref rp, .int vrs, .int vrb, .int vhs, .int vca, .int vxs, .int vxb, .ref tp, .int (nI T), .int vfa, .int u53, .int u54, .int (nI u55), .int (nI u56), .int u57, .int u58, .ref cu, .ref lt, .ref od, .ref th, .ref be, .ref ln, .int (nI S), .ref ma, .int (nI M), .ref ah, .ref bh, .ref ik, .ref la, .ref lg, .ref ce, .int vto])), (tp, .inl (G 0, 320, .inl ftp))]) [0, 1] rfl
              have hD9 := hD.sub (ws' := [(h0, .inr (11, [.ref st, .int (nI N), .int (nI B), .ref rp, .int vrs, .int vrb, .int vhs, .int vca, .int vxs, .int vxb, .ref tp, .int (nI T), .int vfa, .int u53, .int u54, .int (nI u55), .int (nI u56), .int u57, .int u58, .ref cu, .ref lt, .ref od, .ref th, .ref be, .ref ln, .int (nI S), .ref ma, .int (nI M), .ref ah, .ref bh, .ref ik, .ref la, .ref lg, .ref ce, .int vto])), (tp, .inl (G 0, 320, .inl ftp))]) [0, 1] (by decide) rfl
              refine W.widen (k := 0) (n := 0) (by omega) (by omega) ?_
              exact W.iret (v := lo) hx hb hr (fun t ht hW => ⟨⟨lo, (u53, u54, u55, u56, u57, u58), rfl, ⟨hpost, (by have t_c1 := eqI c1; have t_c13 := eqI c13; have t_c14 := eqI c14; have t_b44 := b44; have t_w46 := w46; have t_c49 := neI c49; have t_c50 := neI c50; have : (0 : Int32).toInt = 0 := (by decide); have : (2 : Int32).toInt = 2 := (by decide); have t_n0 : (nI N).toInt = (N : Int) := nI_toInt (by omega); have t_n1 : (nI B).toInt = (B : Int) := nI_toInt (by omega); have t_n2 : (nI T).toInt = (T : Int) := nI_toInt (by omega); have t_n3 : (nI nsp).toInt = (nsp : Int) := nI_toInt (by omega); have t_n4 : (nI nhe).toInt = (nhe : Int) := nI_toInt (by omega); have t_n5 : (nI S).toInt = (S : Int) := nI_toInt (by omega); have t_n6 : (nI M).toInt = (M : Int) := nI_toInt (by omega); have z0 : (0 : Int32).toInt = 0 := (by decide); have z1 : (1 : Int32).toInt = 1 := (by decide); have z2 : (2 : Int32).toInt = 2 := (by decide); have z3 : (3 : Int32).toInt = 3 := (by decide); have z5 : (5 : Int32).toInt = 5 := (by decide); have z9 : (9 : Int32).toInt = 9 := (by decide); omega)⟩, ⟨by rw [ht]; exact hP9, hD9⟩⟩, hS.F ht⟩) hS.2.2 dX11_other_94
            · skip
              have t_c1 := eqI c1
              have t_c13 := eqI c13
              have t_c14 := eqI c14
              have t_b44 := b44
              have t_w46 := w46
              have t_c49 := neI c49
              have t_c50 := eqI c50
              have : (0 : Int32).toInt = 0 := (by decide)
              have : (2 : Int32).toInt = 2 := (by decide)
              have t_n0 : (nI N).toInt = (N : Int) := nI_toInt (by omega)
              have t_n1 : (nI B).toInt = (B : Int) := nI_toInt (by omega)
              have t_n2 : (nI T).toInt = (T : Int) := nI_toInt (by omega)
              have t_n3 : (nI nsp).toInt = (nsp : Int) := nI_toInt (by omega)
              have t_n4 : (nI nhe).toInt = (nhe : Int) := nI_toInt (by omega)
              have t_n5 : (nI S).toInt = (S : Int) := nI_toInt (by omega)
              have t_n6 : (nI M).toInt = (M : Int) := nI_toInt (by omega)
              exfalso; omega
          · skip
            have t_c1 := eqI c1
            have t_c13 := eqI c13
            have t_c14 := eqI c14
            have t_b44 := b44
            have t_w46 := w46
            have t_c49 := eqI c49
            have : (0 : Int32).toInt = 0 := (by decide)
            have : (2 : Int32).toInt = 2 := (by decide)
            have t_n0 : (nI N).toInt = (N : Int) := nI_toInt (by omega)
            have t_n1 : (nI B).toInt = (B : Int) := nI_toInt (by omega)
            have t_n2 : (nI T).toInt = (T : Int) := nI_toInt (by omega)
            have t_n3 : (nI nsp).toInt = (nsp : Int) := nI_toInt (by omega)
            have t_n4 : (nI nhe).toInt = (nhe : Int) := nI_toInt (by omega)
            have t_n5 : (nI S).toInt = (S : Int) := nI_toInt (by omega)
            have t_n6 : (nI M).toInt = (M : Int) := nI_toInt (by omega)
            exfalso; omega
    · skip
      refine lv_aload_n hx hb dX11_other_15 rfl (lv_at hl 0 rfl) ?_
      refine lv_iconst (v := 2) hx hb dX11_other_16 (by decide) ?_
      have hPc := hP.sub (ws' := [(h0, .inr (11, [.ref st, .int (nI N), .int (nI B), .ref rp, .int vrs, .int vrb, .int vhs, .int vca, .int vxs, .int vxb, .ref tp, .int (nI T), .int vfa, .int vbr, .int vba, .int (nI nsp), .int (nI nhe), .int vtk, .int vva, .ref cu, .ref lt, .ref od, .ref th, .ref be, .ref ln, .int (nI S), .ref ma, .int (nI M), .ref ah, .ref bh, .ref ik, .ref la, .ref lg, .ref ce, .int vto]))]) [0] rfl
      have hDc := hD.sub (ws' := [(h0, .inr (11, [.ref st, .int (nI N), .int (nI B), .ref rp, .int vrs, .int vrb, .int vhs, .int vca, .int vxs, .int vxb, .ref tp, .int (nI T), .int vfa, .int vbr, .int vba, .int (nI nsp), .int (nI nhe), .int vtk, .int vva, .ref cu, .ref lt, .ref od, .ref th, .ref be, .ref ln, .int (nI S), .ref ma, .int (nI M), .ref ah, .ref bh, .ref ik, .ref la, .ref lg, .ref ce, .int vto]))]) [0] (by decide) rfl
      have hFc := va_free (wc := [(h0, .inr (11, [.ref st, .int (nI N), .int (nI B), .ref rp, .int vrs, .int vrb, .int vhs, .int vca, .int vxs, .int vxb, .ref tp, .int (nI T), .int vfa, .int vbr, .int vba, .int (nI nsp), .int (nI nhe), .int vtk, .int vva, .ref cu, .ref lt, .ref od, .ref th, .ref be, .ref ln, .int (nI S), .ref ma, .int (nI M), .ref ah, .ref bh, .ref ik, .ref la, .ref lg, .ref ce, .int vto]))]) hD hS hA [0] rfl
      refine va_callv (va_runV (As := [.int 2]) (rest := []) ⟨hx, hb, hml, hown, hg⟩ (c_X11_fails l dC dI G _ h0 st N B rp tp T cu lt od th be ln S ma M ah bh ik la lg ce 2 vrs vrb vhs vca vxs vxb vfa vbr vba (nI nsp) (nI nhe) vtk vva vto (by have t_c1 := eqI c1; have t_c13 := neI c13; have : (0 : Int32).toInt = 0 := (by decide); have : (2 : Int32).toInt = 2 := (by decide); have t_n0 : (nI N).toInt = (N : Int) := nI_toInt (by omega); have t_n1 : (nI B).toInt = (B : Int) := nI_toInt (by omega); have t_n2 : (nI T).toInt = (T : Int) := nI_toInt (by omega); have t_n3 : (nI nsp).toInt = (nsp : Int) := nI_toInt (by omega); have t_n4 : (nI nhe).toInt = (nhe : Int) := nI_toInt (by omega); have t_n5 : (nI S).toInt = (S : Int) := nI_toInt (by omega); have t_n6 : (nI M).toInt = (M : Int) := nI_toInt (by omega); have : (2 : Int32).toInt = 2 := (by decide); omega) (by have t_c1 := eqI c1; have t_c13 := neI c13; have : (0 : Int32).toInt = 0 := (by decide); have : (2 : Int32).toInt = 2 := (by decide); have t_n0 : (nI N).toInt = (N : Int) := nI_toInt (by omega); have t_n1 : (nI B).toInt = (B : Int) := nI_toInt (by omega); have t_n2 : (nI T).toInt = (T : Int) := nI_toInt (by omega); have t_n3 : (nI nsp).toInt = (nsp : Int) := nI_toInt (by omega); have t_n4 : (nI nhe).toInt = (nhe : Int) := nI_toInt (by omega); have t_n5 : (nI S).toInt = (S : Int) := nI_toInt (by omega); have t_n6 : (nI M).toInt = (M : Int) := nI_toInt (by omega); have : (2 : Int32).toInt = 2 := (by decide); omega) (by have t_c1 := eqI c1; have t_c13 := neI c13; have : (0 : Int32).toInt = 0 := (by decide); have : (2 : Int32).toInt = 2 := (by decide); have t_n0 : (nI N).toInt = (N : Int) := nI_toInt (by omega); have t_n1 : (nI B).toInt = (B : Int) := nI_toInt (by omega); have t_n2 : (nI T).toInt = (T : Int) := nI_toInt (by omega); have t_n3 : (nI nsp).toInt = (nsp : Int) := nI_toInt (by omega); have t_n4 : (nI nhe).toInt = (nhe : Int) := nI_toInt (by omega); have t_n5 : (nI S).toInt = (S : Int) := nI_toInt (by omega); have t_n6 : (nI M).toInt = (M : Int) := nI_toInt (by omega); have : (2 : Int32).toInt = 2 := (by decide); omega) (by have t_c1 := eqI c1; have t_c13 := neI c13; have : (0 : Int32).toInt = 0 := (by decide); have : (2 : Int32).toInt = 2 := (by decide); have t_n0 : (nI N).toInt = (N : Int) := nI_toInt (by omega); have t_n1 : (nI B).toInt = (B : Int) := nI_toInt (by omega); have t_n2 : (nI T).toInt = (T : Int) := nI_toInt (by omega); have t_n3 : (nI nsp).toInt = (nsp : Int) := nI_toInt (by omega); have t_n4 : (nI nhe).toInt = (nhe : Int) := nI_toInt (by omega); have t_n5 : (nI S).toInt = (S : Int) := nI_toInt (by omega); have t_n6 : (nI M).toInt = (M : Int) := nI_toInt (by omega); have : (2 : Int32).toInt = 2 := (by decide); omega) (by have t_c1 := eqI c1; have t_c13 := neI c13; have : (0 : Int32).toInt = 0 := (by decide); have : (2 : Int32).toInt = 2 := (by decide); have t_n0 : (nI N).toInt = (N : Int) := nI_toInt (by omega); have t_n1 : (nI B).toInt = (B : Int) := nI_toInt (by omega); have t_n2 : (nI T).toInt = (T : Int) := nI_toInt (by omega); have t_n3 : (nI nsp).toInt = (nsp : Int) := nI_toInt (by omega); have t_n4 : (nI nhe).toInt = (nhe : Int) := nI_toInt (by omega); have t_n5 : (nI S).toInt = (S : Int) := nI_toInt (by omega); have t_n6 : (nI M).toInt = (M : Int) := nI_toInt (by omega); have : (2 : Int32).toInt = 2 := (by decide); omega) (by have t_c1 := eqI c1; have t_c13 := neI c13; have : (0 : Int32).toInt = 0 := (by decide); have : (2 : Int32).toInt = 2 := (by decide); have t_n0 : (nI N).toInt = (N : Int) := nI_toInt (by omega); have t_n1 : (nI B).toInt = (B : Int) := nI_toInt (by omega); have t_n2 : (nI T).toInt = (T : Int) := nI_toInt (by omega); have t_n3 : (nI nsp).toInt = (nsp : Int) := nI_toInt (by omega); have t_n4 : (nI nhe).toInt = (nhe : Int) := nI_toInt (by omega); have t_n5 : (nI S).toInt = (S : Int) := nI_toInt (by omega); have t_n6 : (nI M).toInt = (M : Int) := nI_toInt (by omega); have : (2 : Int32).toInt = 2 := (by decide); omega) (by have t_c1 := eqI c1; have t_c13 := neI c13; have : (0 : Int32).toInt = 0 := (by decide); have : (2 : Int32).toInt = 2 := (by decide); have t_n0 : (nI N).toInt = (N : Int) := nI_toInt (by omega); have t_n1 : (nI B).toInt = (B : Int) := nI_toInt (by omega); have t_n2 : (nI T).toInt = (T : Int) := nI_toInt (by omega); have t_n3 : (nI nsp).toInt = (nsp : Int) := nI_toInt (by omega); have t_n4 : (nI nhe).toInt = (nhe : Int) := nI_toInt (by omega); have t_n5 : (nI S).toInt = (S : Int) := nI_toInt (by omega); have t_n6 : (nI M).toInt = (M : Int) := nI_toInt (by omega); have : (2 : Int32).toInt = 2 := (by decide); omega)) (kwV hg mfX11_fails wt_1011 ⟨Nat.le_of_ble_eq_true rfl, Nat.le_of_ble_eq_true rfl⟩) (preVW hK hPc hDc (ci := 11) rfl rfl) rfl rfl hl.1 rfl (lv_room (Nat.le_of_ble_eq_true rfl)) dX11_other_17 ⟨Nat.le_of_ble_eq_true rfl, Nat.le_of_ble_eq_true rfl⟩) hS (fun q _ h => hFc q h) hFc (fun ur59 t H1 locs ht hvm w60 hB hz1 hk1 hS => ?_)
      obtain ⟨u61, u62⟩ := ur59
      obtain ⟨hP1, hD1⟩ := hB
      rw [ht] at hP1
      obtain ⟨hP, hD⟩ := va_join (wr := [(tp, .inl (G 0, 320, .inl ftp))]) (w1 := [(h0, .inr (11, [.ref st, .int (nI N), .int (nI B), .ref rp, .int vrs, .int vrb, .int vhs, .int vca, .int vxs, .int vxb, .ref tp, .int (nI T), .int vfa, .int u61, .int u62, .int (nI nsp), .int (nI nhe), .int vtk, .int vva, .ref cu, .ref lt, .ref od, .ref th, .ref be, .ref ln, .int (nI S), .ref ma, .int (nI M), .ref ah, .ref bh, .ref ik, .ref la, .ref lg, .ref ce, .int vto]))]) hP hD [0] [1] rfl rfl (by decide) (by decide) hk1 hFc hP1 hD1
      have w60 : 0 < u61.toInt := w60
      generalize H1 = H at hP hS ⊢
      have hP : va_P (dC, dI) vwCl [(tp, .inl (G 0, 320, .inl ftp)), (h0, .inr (11, [.ref st, .int (nI N), .int (nI B), .ref rp, .int vrs, .int vrb, .int vhs, .int vca, .int vxs, .int vxb, .ref tp, .int (nI T), .int vfa, .int u61, .int u62, .int (nI nsp), .int (nI nhe), .int vtk, .int vva, .ref cu, .ref lt, .ref od, .ref th, .ref be, .ref ln, .int (nI S), .ref ma, .int (nI M), .ref ah, .ref bh, .ref ik, .ref la, .ref lg, .ref ce, .int vto]))] H := hP
      have hD : va_D A [(tp, .inl (G 0, 320, .inl ftp)), (h0, .inr (11, [.ref st, .int (nI N), .int (nI B), .ref rp, .int vrs, .int vrb, .int vhs, .int vca, .int vxs, .int vxb, .ref tp, .int (nI T), .int vfa, .int u61, .int u62, .int (nI nsp), .int (nI nhe), .int vtk, .int vva, .ref cu, .ref lt, .ref od, .ref th, .ref be, .ref ln, .int (nI S), .ref ma, .int (nI M), .ref ah, .ref bh, .ref ik, .ref la, .ref lg, .ref ce, .int vto]))] := hD
      refine lv_aload_n hx hb dX11_other_20 rfl (lv_at hl 0 rfl) ?_
      refine va_get (D := (dC, dI)) (ci := 11) (v := .int u61) (C := RX11) (T := TX11) (N := 35) hx hb hg inG11 hown hK.1 hP 1 rfl rfl 13 (by decide) (hg _ wt_891) (fun _ h9 => h9) rfl dX11_other_21 ?_
      refine lv_if_ne (tgt := 47) hx hb dX11_other_24 (by decide) (fun c63 => ?_) (fun c63 => ?_)
      · skip
        refine lv_aload_n hx hb dX11_other_47 rfl (lv_at hl 0 rfl) ?_
        refine va_get (D := (dC, dI)) (ci := 11) (v := .int u61) (C := RX11) (T := TX11) (N := 35) hx hb hg inG11 hown hK.1 hP 1 rfl rfl 13 (by decide) (hg _ wt_891) (fun _ h9 => h9) rfl dX11_other_48 ?_
        refine lv_if_ne (tgt := 71) hx hb dX11_other_51 (by decide) (fun c64 => ?_) (fun c64 => ?_)
        · skip
          refine lv_aload_n hx hb dX11_other_71 rfl (lv_at hl 0 rfl) ?_
          refine va_get (D := (dC, dI)) (ci := 11) (v := .int u61) (C := RX11) (T := TX11) (N := 35) hx hb hg inG11 hown hK.1 hP 1 rfl rfl 13 (by decide) (hg _ wt_891) (fun _ h9 => h9) rfl dX11_other_72 ?_
          refine lv_if_ne (tgt := 85) hx hb dX11_other_75 (by decide) (fun c65 => ?_) (fun c65 => ?_)
          · skip
            refine lv_iload_n hx hb dX11_other_85 rfl (lv_at hl 1 rfl) ?_
            refine lv_istore (lv' := [(4, .int lo), (0, .ref h0), (1, .int lo), (2, .int xh), (3, .int sm)]) hx hb dX11_other_86 hl (by decide) rfl (fun ls hl => ?_)
            refine lv_aload_n hx hb dX11_other_88 rfl (lv_at hl 1 rfl) ?_
            have hPc := hP.sub (ws' := [(h0, .inr (11, [.ref st, .int (nI N), .int (nI B), .ref rp, .int vrs, .int vrb, .int vhs, .int vca, .int vxs, .int vxb, .ref tp, .int (nI T), .int vfa, .int u61, .int u62, .int (nI nsp), .int (nI nhe), .int vtk, .int vva, .ref cu, .ref lt, .ref od, .ref th, .ref be, .ref ln, .int (nI S), .ref ma, .int (nI M), .ref ah, .ref bh, .ref ik, .ref la, .ref lg, .ref ce, .int vto])), (tp, .inl (G 0, 320, .inl ftp))]) [1, 0] rfl
            have hDc := hD.sub (ws' := [(h0, .inr (11, [.ref st, .int (nI N), .int (nI B), .ref rp, .int vrs, .int vrb, .int vhs, .int vca, .int vxs, .int vxb, .ref tp, .int (nI T), .int vfa, .int u61, .int u62, .int (nI nsp), .int (nI nhe), .int vtk, .int vva, .ref cu, .ref lt, .ref od, .ref th, .ref be, .ref ln, .int (nI S), .ref ma, .int (nI M), .ref ah, .ref bh, .ref ik, .ref la, .ref lg, .ref ce, .int vto])), (tp, .inl (G 0, 320, .inl ftp))]) [1, 0] (by decide) rfl
            have hFc := va_free (wc := [(h0, .inr (11, [.ref st, .int (nI N), .int (nI B), .ref rp, .int vrs, .int vrb, .int vhs, .int vca, .int vxs, .int vxb, .ref tp, .int (nI T), .int vfa, .int u61, .int u62, .int (nI nsp), .int (nI nhe), .int vtk, .int vva, .ref cu, .ref lt, .ref od, .ref th, .ref be, .ref ln, .int (nI S), .ref ma, .int (nI M), .ref ah, .ref bh, .ref ik, .ref la, .ref lg, .ref ce, .int vto])), (tp, .inl (G 0, 320, .inl ftp))]) hD hS hA [1, 0] rfl
            refine va_callv (va_runV (As := []) (rest := []) ⟨hx, hb, hml, hown, hg⟩ (c_X11_goesOn l dC dI G _ h0 st N B rp tp T nsp nhe cu lt od th be ln S ma M ah bh ik la lg ce vrs vrb vhs vca vxs vxb vfa u61 u62 vtk vva vto ftp (by have t_c1 := eqI c1; have t_c13 := neI c13; have t_w60 := w60; have t_c63 := neI c63; have t_c64 := neI c64; have t_c65 := neI c65; have : (0 : Int32).toInt = 0 := (by decide); have : (2 : Int32).toInt = 2 := (by decide); have t_n0 : (nI N).toInt = (N : Int) := nI_toInt (by omega); have t_n1 : (nI B).toInt = (B : Int) := nI_toInt (by omega); have t_n2 : (nI T).toInt = (T : Int) := nI_toInt (by omega); have t_n3 : (nI nsp).toInt = (nsp : Int) := nI_toInt (by omega); have t_n4 : (nI nhe).toInt = (nhe : Int) := nI_toInt (by omega); have t_n5 : (nI S).toInt = (S : Int) := nI_toInt (by omega); have t_n6 : (nI M).toInt = (M : Int) := nI_toInt (by omega); omega) (by have t_c1 := eqI c1; have t_c13 := neI c13; have t_w60 := w60; have t_c63 := neI c63; have t_c64 := neI c64; have t_c65 := neI c65; have : (0 : Int32).toInt = 0 := (by decide); have : (2 : Int32).toInt = 2 := (by decide); have t_n0 : (nI N).toInt = (N : Int) := nI_toInt (by omega); have t_n1 : (nI B).toInt = (B : Int) := nI_toInt (by omega); have t_n2 : (nI T).toInt = (T : Int) := nI_toInt (by omega); have t_n3 : (nI nsp).toInt = (nsp : Int) := nI_toInt (by omega); have t_n4 : (nI nhe).toInt = (nhe : Int) := nI_toInt (by omega); have t_n5 : (nI S).toInt = (S : Int) := nI_toInt (by omega); have t_n6 : (nI M).toInt = (M : Int) := nI_toInt (by omega); omega) (by have t_c1 := eqI c1; have t_c13 := neI c13; have t_w60 := w60; have t_c63 := neI c63; have t_c64 := neI c64; have t_c65 := neI c65; have : (0 : Int32).toInt = 0 := (by decide); have : (2 : Int32).toInt = 2 := (by decide); have t_n0 : (nI N).toInt = (N : Int) := nI_toInt (by omega); have t_n1 : (nI B).toInt = (B : Int) := nI_toInt (by omega); have t_n2 : (nI T).toInt = (T : Int) := nI_toInt (by omega); have t_n3 : (nI nsp).toInt = (nsp : Int) := nI_toInt (by omega); have t_n4 : (nI nhe).toInt = (nhe : Int) := nI_toInt (by omega); have t_n5 : (nI S).toInt = (S : Int) := nI_toInt (by omega); have t_n6 : (nI M).toInt = (M : Int) := nI_toInt (by omega); omega) (by have t_c1 := eqI c1; have t_c13 := neI c13; have t_w60 := w60; have t_c63 := neI c63; have t_c64 := neI c64; have t_c65 := neI c65; have : (0 : Int32).toInt = 0 := (by decide); have : (2 : Int32).toInt = 2 := (by decide); have t_n0 : (nI N).toInt = (N : Int) := nI_toInt (by omega); have t_n1 : (nI B).toInt = (B : Int) := nI_toInt (by omega); have t_n2 : (nI T).toInt = (T : Int) := nI_toInt (by omega); have t_n3 : (nI nsp).toInt = (nsp : Int) := nI_toInt (by omega); have t_n4 : (nI nhe).toInt = (nhe : Int) := nI_toInt (by omega); have t_n5 : (nI S).toInt = (S : Int) := nI_toInt (by omega); have t_n6 : (nI M).toInt = (M : Int) := nI_toInt (by omega); omega) (by have t_c1 := eqI c1; have t_c13 := neI c13; have t_w60 := w60; have t_c63 := neI c63; have t_c64 := neI c64; have t_c65 := neI c65; have : (0 : Int32).toInt = 0 := (by decide); have : (2 : Int32).toInt = 2 := (by decide); have t_n0 : (nI N).toInt = (N : Int) := nI_toInt (by omega); have t_n1 : (nI B).toInt = (B : Int) := nI_toInt (by omega); have t_n2 : (nI T).toInt = (T : Int) := nI_toInt (by omega); have t_n3 : (nI nsp).toInt = (nsp : Int) := nI_toInt (by omega); have t_n4 : (nI nhe).toInt = (nhe : Int) := nI_toInt (by omega); have t_n5 : (nI S).toInt = (S : Int) := nI_toInt (by omega); have t_n6 : (nI M).toInt = (M : Int) := nI_toInt (by omega); omega) (by have t_c1 := eqI c1; have t_c13 := neI c13; have t_w60 := w60; have t_c63 := neI c63; have t_c64 := neI c64; have t_c65 := neI c65; have : (0 : Int32).toInt = 0 := (by decide); have : (2 : Int32).toInt = 2 := (by decide); have t_n0 : (nI N).toInt = (N : Int) := nI_toInt (by omega); have t_n1 : (nI B).toInt = (B : Int) := nI_toInt (by omega); have t_n2 : (nI T).toInt = (T : Int) := nI_toInt (by omega); have t_n3 : (nI nsp).toInt = (nsp : Int) := nI_toInt (by omega); have t_n4 : (nI nhe).toInt = (nhe : Int) := nI_toInt (by omega); have t_n5 : (nI S).toInt = (S : Int) := nI_toInt (by omega); have t_n6 : (nI M).toInt = (M : Int) := nI_toInt (by omega); omega) (by have t_c1 := eqI c1; have t_c13 := neI c13; have t_w60 := w60; have t_c63 := neI c63; have t_c64 := neI c64; have t_c65 := neI c65; have : (0 : Int32).toInt = 0 := (by decide); have : (2 : Int32).toInt = 2 := (by decide); have t_n0 : (nI N).toInt = (N : Int) := nI_toInt (by omega); have t_n1 : (nI B).toInt = (B : Int) := nI_toInt (by omega); have t_n2 : (nI T).toInt = (T : Int) := nI_toInt (by omega); have t_n3 : (nI nsp).toInt = (nsp : Int) := nI_toInt (by omega); have t_n4 : (nI nhe).toInt = (nhe : Int) := nI_toInt (by omega); have t_n5 : (nI S).toInt = (S : Int) := nI_toInt (by omega); have t_n6 : (nI M).toInt = (M : Int) := nI_toInt (by omega); omega) (by have t_c1 := eqI c1; have t_c13 := neI c13; have t_w60 := w60; have t_c63 := neI c63; have t_c64 := neI c64; have t_c65 := neI c65; have : (0 : Int32).toInt = 0 := (by decide); have : (2 : Int32).toInt = 2 := (by decide); have t_n0 : (nI N).toInt = (N : Int) := nI_toInt (by omega); have t_n1 : (nI B).toInt = (B : Int) := nI_toInt (by omega); have t_n2 : (nI T).toInt = (T : Int) := nI_toInt (by omega); have t_n3 : (nI nsp).toInt = (nsp : Int) := nI_toInt (by omega); have t_n4 : (nI nhe).toInt = (nhe : Int) := nI_toInt (by omega); have t_n5 : (nI S).toInt = (S : Int) := nI_toInt (by omega); have t_n6 : (nI M).toInt = (M : Int) := nI_toInt (by omega); omega)) (kwV hg mfX11_goesOn wt_999 ⟨Nat.le_of_ble_eq_true rfl, Nat.le_of_ble_eq_true rfl⟩) (preVW hK hPc hDc (ci := 11) rfl rfl) rfl rfl hl.1 rfl (lv_room (Nat.le_of_ble_eq_true rfl)) dX11_other_89 ⟨Nat.le_of_ble_eq_true rfl, Nat.le_of_ble_eq_true rfl⟩) hS (fun q _ h => hFc q h) hFc (fun ur66 t H1 locs ht hvm w67 hB hz1 hk1 hS => ?_)
            obtain ⟨u68, u69, u70, u71, u72, u73⟩ := ur66
            obtain ⟨hP1, hD1⟩ := hB
            rw [ht] at hP1
            obtain ⟨hP, hD⟩ := va_join (wr := []) (w1 := [(h0, .inr (11, [.ref st, .int (nI N), .int (nI B), .ref rp, .int vrs, .int vrb, .int vhs, .int vca, .int vxs, .int vxb, .ref tp, .int (nI T), .int vfa, .int u68, .int u69, .int (nI u70), .int (nI u71), .int u72, .int u73, .ref cu, .ref lt, .ref od, .ref th, .ref be, .ref ln, .int (nI S), .ref ma, .int (nI M), .ref ah, .ref bh, .ref ik, .ref la, .ref lg, .ref ce, .int vto])), (tp, .inl (G 0, 320, .inl ftp))]) hP hD [1, 0] [] rfl rfl (by decide) (by decide) hk1 hFc hP1 hD1
            have w67 : 0 ≤ u68.toInt ∧ (u61.toInt = 0 ∨ u68.toInt = u61.toInt) ∧ nsp ≤ u70 ∧ u70 ≤ T ∧ u71 ≤ u70 ∧ (0 < u61.toInt ∨ u72.toInt = 0 ∨ nsp < u70) := w67
            generalize H1 = H at hP hS ⊢
            have hP : va_P (dC, dI) vwCl [(h0, .inr (11, [.ref st, .int (nI N), .int (nI B), .ref rp, .int vrs, .int vrb, .int vhs, .int vca, .int vxs, .int vxb, .ref tp, .int (nI T), .int vfa, .int u68, .int u69, .int (nI u70), .int (nI u71), .int u72, .int u73, .ref cu, .ref lt, .ref od, .ref th, .ref be, .ref ln, .int (nI S), .ref ma, .int (nI M), .ref ah, .ref bh, .ref ik, .ref la, .ref lg, .ref ce, .int vto])), (tp, .inl (G 0, 320, .inl ftp))] H := hP
            have hD : va_D A [(h0, .inr (11, [.ref st, .int (nI N), .int (nI B), .ref rp, .int vrs, .int vrb, .int vhs, .int vca, .int vxs, .int vxb, .ref tp, .int (nI T), .int vfa, .int u68, .int u69, .int (nI u70), .int (nI u71), .int u72, .int u73, .ref cu, .ref lt, .ref od, .ref th, .ref be, .ref ln, .int (nI S), .ref ma, .int (nI M), .ref ah, .ref bh, .ref ik, .ref la, .ref lg, .ref ce, .int vto])), (tp, .inl (G 0, 320, .inl ftp))] := hD
            refine lv_iload hx hb dX11_other_92 (lv_at hl 0 rfl) ?_
            have hpost : lo.toInt ≤ (lo : Int32).toInt ∧ (lo : Int32).toInt ≤ xh.toInt := by
              have t_c1 := eqI c1
              have t_c13 := neI c13
              have t_w60 := w60
              have t_c63 := neI c63
              have t_c64 := neI c64
              have t_c65 := neI c65
              have : (0 : Int32).toInt = 0 := (by decide)
              have : (2 : Int32).toInt = 2 := (by decide)
              have t_n0 : (nI N).toInt = (N : Int) := nI_toInt (by omega)
              have t_n1 : (nI B).toInt = (B : Int) := nI_toInt (by omega)
              have t_n2 : (nI T).toInt = (T : Int) := nI_toInt (by omega)
              have t_n3 : (nI nsp).toInt = (nsp : Int) := nI_toInt (by omega)
              have t_n4 : (nI nhe).toInt = (nhe : Int) := nI_toInt (by omega)
              have t_n5 : (nI S).toInt = (S : Int) := nI_toInt (by omega)
              have t_n6 : (nI M).toInt = (M : Int) := nI_toInt (by omega)
              omega
            have hP9 := hP.sub (ws' := [(h0, .inr (11, [.ref st, .int (nI N), .int (nI B), .ref rp, .int vrs, .int vrb, .int vhs, .int vca, .int vxs, .int vxb, .ref tp, .int (nI T), .int vfa, .int u68, .int u69, .int (nI u70), .int (nI u71), .int u72, .int u73, .ref cu, .ref lt, .ref od, .ref th, .ref be, .ref ln, .int (nI S), .ref ma, .int (nI M), .ref ah, .ref bh, .ref ik, .ref la, .ref lg, .ref ce, .int vto])), (tp, .inl (G 0, 320, .inl ftp))]) [0, 1] rfl
            have hD9 := hD.sub (ws' := [(h0, .inr (11, [.ref st, .int (nI N), .int (nI B), .ref rp, .int vrs, .int vrb, .int vhs, .int vca, .int vxs, .int vxb, .ref tp, .int (nI T), .int vfa, .int u68, .int u69, .int (nI u70), .int (nI u71), .int u72, .int u73, .ref cu, .ref lt, .ref od, .ref th, .ref be, .ref ln, .int (nI S), .ref ma, .int (nI M), .ref ah, .ref bh, .ref ik, .ref la, .ref lg, .ref ce, .int vto])), (tp, .inl (G 0, 320, .inl ftp))]) [0, 1] (by decide) rfl
            refine W.widen (k := 0) (n := 0) (by omega) (by omega) ?_
            exact W.iret (v := lo) hx hb hr (fun t ht hW => ⟨⟨lo, (u68, u69, u70, u71, u72, u73), rfl, ⟨hpost, (by have t_c1 := eqI c1; have t_c13 := neI c13; have t_w60 := w60; have t_c63 := neI c63; have t_c64 := neI c64; have t_c65 := neI c65; have : (0 : Int32).toInt = 0 := (by decide); have : (2 : Int32).toInt = 2 := (by decide); have t_n0 : (nI N).toInt = (N : Int) := nI_toInt (by omega); have t_n1 : (nI B).toInt = (B : Int) := nI_toInt (by omega); have t_n2 : (nI T).toInt = (T : Int) := nI_toInt (by omega); have t_n3 : (nI nsp).toInt = (nsp : Int) := nI_toInt (by omega); have t_n4 : (nI nhe).toInt = (nhe : Int) := nI_toInt (by omega); have t_n5 : (nI S).toInt = (S : Int) := nI_toInt (by omega); have t_n6 : (nI M).toInt = (M : Int) := nI_toInt (by omega); have z0 : (0 : Int32).toInt = 0 := (by decide); have z1 : (1 : Int32).toInt = 1 := (by decide); have z2 : (2 : Int32).toInt = 2 := (by decide); have z3 : (3 : Int32).toInt = 3 := (by decide); have z5 : (5 : Int32).toInt = 5 := (by decide); have z9 : (9 : Int32).toInt = 9 := (by decide); omega)⟩, ⟨by rw [ht]; exact hP9, hD9⟩⟩, hS.F ht⟩) hS.2.2 dX11_other_94
          · skip
            have t_c1 := eqI c1
            have t_c13 := neI c13
            have t_w60 := w60
            have t_c63 := neI c63
            have t_c64 := neI c64
            have t_c65 := eqI c65
            have : (0 : Int32).toInt = 0 := (by decide)
            have : (2 : Int32).toInt = 2 := (by decide)
            have t_n0 : (nI N).toInt = (N : Int) := nI_toInt (by omega)
            have t_n1 : (nI B).toInt = (B : Int) := nI_toInt (by omega)
            have t_n2 : (nI T).toInt = (T : Int) := nI_toInt (by omega)
            have t_n3 : (nI nsp).toInt = (nsp : Int) := nI_toInt (by omega)
            have t_n4 : (nI nhe).toInt = (nhe : Int) := nI_toInt (by omega)
            have t_n5 : (nI S).toInt = (S : Int) := nI_toInt (by omega)
            have t_n6 : (nI M).toInt = (M : Int) := nI_toInt (by omega)
            exfalso; omega
        · skip
          have t_c1 := eqI c1
          have t_c13 := neI c13
          have t_w60 := w60
          have t_c63 := neI c63
          have t_c64 := eqI c64
          have : (0 : Int32).toInt = 0 := (by decide)
          have : (2 : Int32).toInt = 2 := (by decide)
          have t_n0 : (nI N).toInt = (N : Int) := nI_toInt (by omega)
          have t_n1 : (nI B).toInt = (B : Int) := nI_toInt (by omega)
          have t_n2 : (nI T).toInt = (T : Int) := nI_toInt (by omega)
          have t_n3 : (nI nsp).toInt = (nsp : Int) := nI_toInt (by omega)
          have t_n4 : (nI nhe).toInt = (nhe : Int) := nI_toInt (by omega)
          have t_n5 : (nI S).toInt = (S : Int) := nI_toInt (by omega)
          have t_n6 : (nI M).toInt = (M : Int) := nI_toInt (by omega)
          exfalso; omega
      · skip
        have t_c1 := eqI c1
        have t_c13 := neI c13
        have t_w60 := w60
        have t_c63 := eqI c63
        have : (0 : Int32).toInt = 0 := (by decide)
        have : (2 : Int32).toInt = 2 := (by decide)
        have t_n0 : (nI N).toInt = (N : Int) := nI_toInt (by omega)
        have t_n1 : (nI B).toInt = (B : Int) := nI_toInt (by omega)
        have t_n2 : (nI T).toInt = (T : Int) := nI_toInt (by omega)
        have t_n3 : (nI nsp).toInt = (nsp : Int) := nI_toInt (by omega)
        have t_n4 : (nI nhe).toInt = (nhe : Int) := nI_toInt (by omega)
        have t_n5 : (nI S).toInt = (S : Int) := nI_toInt (by omega)
        have t_n6 : (nI M).toInt = (M : Int) := nI_toInt (by omega)
        exfalso; omega
