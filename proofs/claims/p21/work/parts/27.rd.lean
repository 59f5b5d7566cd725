set_option maxHeartbeats 1000000 in
set_option maxRecDepth 100000 in
theorem c_X11_isMarked (l : Launch) (dC : Nat → ClassId) (dI : Nat → Nat → Nat) (G : Nat → ClassId) (sz : Nat) (h0 st N B rp tp T cu lt od th be ln S ma M ah bh ik la lg ce : Nat) (x1 x2 vrs vrb vhs vca vxs vxb vfa vbr vba vsp vhe vtk vva vto : Int32) (fma : Nat → Int32) (hN : N ≤ 10) (hB : B ≤ 6) (hT : T ≤ 320) (hS0 : S ≤ 8) (hM : M ≤ 6) : Met l yX11_isMarked (Cond.code yX11_isMarked cX11_isMarked 5 (some .boolean) :: GT) ({ frames := 0, cells := 0, slots := 0, locals := 0 } : Room) (PcR [.ref h0, .int x1, .int x2] dC dI G [(h0, .inr (11, [.ref st, .int (nI N), .int (nI B), .ref rp, .int vrs, .int vrb, .int vhs, .int vca, .int vxs, .int vxb, .ref tp, .int (nI T), .int vfa, .int vbr, .int vba, .int vsp, .int vhe, .int vtk, .int vva, .ref cu, .ref lt, .ref od, .ref th, .ref be, .ref ln, .int (nI S), .ref ma, .int (nI M), .ref ah, .ref bh, .ref ik, .ref la, .ref lg, .ref ce, .int vto])), (ma, .inl (G 0, 12, .inl fma))] sz) (va_Qi (fun (r : Int32) (u : Unit) => match u with | _ => (r = 0 ∨ r = 1) ∧ True) (fun _ _ => True) (fun q : Nat => sz ≤ q)) 0 0 (fun q : Nat => sz ≤ q) := by
  have tn845_ : nIT N := fun _ => nI_toInt (by omega)
  have tn846_ : nIT B := fun _ => nI_toInt (by omega)
  have tn847_ : nIT T := fun _ => nI_toInt (by omega)
  have tn848_ : nIT S := fun _ => nI_toInt (by omega)
  have tn849_ : nIT M := fun _ => nI_toInt (by omega)
  refine Met.ofW (cc := cX11_isMarked) (maxL := 5) (ret := (some .boolean)) (by decide) rfl ?_
  intro p e s m args below meth c s₁ Bd hml hv
  obtain ⟨rfl, hsz, hP, hK⟩ := hv
  have hx := Bd.exec
  have hb := Bd.bytes
  have hr := Bd.returns
  have hg : ∀ w ∈ GT, w.before ([.ref h0, .int x1, .int x2] : List Value).toArray s = true := fun w h => atoms_spec (ws := Cond.code yX11_isMarked cX11_isMarked 5 (some .boolean) :: GT) Bd.pre w (List.mem_cons_of_mem _ h)
  have hown : s.vm.findClass RX11 = some m.cls := findClass_of_methodNamed Bd.named
  have hlocks := Bd.notSynchronized
  subst hsz
  have hA : ∀ q : Nat, s.heap.size ≤ q → (fun q : Nat => s.heap.size ≤ q) q := fun _ h => h
  have hS : va_S (fun q : Nat => s.heap.size ≤ q) s.heap s.heap [] := va_S.rf
  have hl := lv_entry ([.ref h0, .int x1, .int x2]) (n := 5) (Nat.le_of_ble_eq_true rfl)
  rw [lg_entry_eq]
  generalize (lg_sl ([.ref h0, .int x1, .int x2]) ++ List.replicate (5 - (lg_sl ([.ref h0, .int x1, .int x2])).length) Slot.unset).toArray = ls at hl ⊢
  have hl : lv_has ls 5 [(0, .ref h0), (1, .int x1), (2, .int x2)] := hl
  refine lv_iconst (v := 1) hx hb dX11_isMarked_0 rfl ?_
  refine lv_istore_n (lv' := [(3, .int 1), (0, .ref h0), (1, .int x1), (2, .int x2)]) hx hb dX11_isMarked_1 rfl hl (by decide) rfl (fun ls hl => ?_)
  refine lv_iconst (v := 0) hx hb dX11_isMarked_2 rfl ?_
  refine lv_istore (lv' := [(4, .int 0), (3, .int 1), (0, .ref h0), (1, .int x1), (2, .int x2)]) hx hb dX11_isMarked_3 hl (by decide) rfl (fun ls hl => ?_)
  have loop5_4 : ∀ (nf j1 : Nat), M + 1 ≤ j1 + nf → j1 ≤ M → ∀ (k3 : Nat) (H : Heap) (locs : List Loc), k3 ≤ 1 → va_P (dC, dI) vwCl [(h0, .inr (11, [.ref st, .int (nI N), .int (nI B), .ref rp, .int vrs, .int vrb, .int vhs, .int vca, .int vxs, .int vxb, .ref tp, .int (nI T), .int vfa, .int vbr, .int vba, .int vsp, .int vhe, .int vtk, .int vva, .ref cu, .ref lt, .ref od, .ref th, .ref be, .ref ln, .int (nI S), .ref ma, .int (nI M), .ref ah, .ref bh, .ref ik, .ref la, .ref lg, .ref ce, .int vto])), (ma, .inl (G 0, 12, .inl fma))] H → va_S (fun q : Nat => s.heap.size ≤ q) s.heap H locs → ∀ (ls : Array Slot), lv_has ls 5 [(4, .int (nI j1)), (3, .int (nI k3)), (0, .ref h0), (1, .int x1), (2, .int x2)] → W p l e (headSpec (Cond.code yX11_isMarked cX11_isMarked 5 (some .boolean) :: GT) ({ frames := 0, cells := 0, slots := 0, locals := 0 } : Room)).room s m ([.ref h0, .int x1, .int x2] : List Value).toArray below meth c H locs 0 0 (MQ below (va_Qi (fun (r : Int32) (u : Unit) => match u with | _ => (r = 0 ∨ r = 1) ∧ True) (fun _ _ => True) (fun q : Nat => s.heap.size ≤ q)) ([.ref h0, .int x1, .int x2] : List Value).toArray s 0 0 (fun q : Nat => s.heap.size ≤ q)) (F0 m 5 ls []) := by
    intro nf
    induction nf with
    | zero => intro j1 h1 h2; exact absurd h1 (by omega)
    | succ nf ih5_4 =>
      intro j1 hn5 hj6 k3 H locs hinv hP hS ls hl
      refine lv_iload hx hb dX11_isMarked_5 (lv_at hl 0 rfl) ?_
      refine lv_aload_n hx hb dX11_isMarked_7 rfl (lv_at hl 2 rfl) ?_
      refine va_get (D := (dC, dI)) (ci := 11) (v := .int (nI M)) (C := RX11) (T := TX11) (N := 35) hx hb hg inG11 hown hK.1 hP 0 rfl rfl 27 (Nat.le_of_ble_eq_true rfl) (hg _ wt_905) (fun _ h9 => h9) rfl dX11_isMarked_8 ?_
      refine lv_icmp_ge (tgt := 58) hx hb dX11_isMarked_11 rfl (fun c7 => ?_) (fun c7 => ?_)
      · skip
        have tn850_ : nIT j1 := fun _ => nI_toInt (by first | omega | (have t := leI c7; omega))
        have n8 : M ≤ j1 := by have t := leI c7; rw [show (nI (j1)).toInt = ((j1 : Nat) : Int) from tn850_ ()] at t; rw [show (nI (M)).toInt = ((M : Nat) : Int) from tn849_ ()] at t; omega
        refine lv_iload_n hx hb dX11_isMarked_58 rfl (lv_at hl 1 rfl) ?_
        have hpost : (nI k3 : Int32) = 0 ∨ (nI k3 : Int32) = 1 := by
          exact nI01 hinv
        refine W.widen (k := 0) (n := 0) (Nat.le_of_ble_eq_true rfl) (Nat.le_of_ble_eq_true rfl) ?_
        exact W.zret (v := nI k3) hx hb hr (by first | rfl | decide | exact zn01 (nI01 hinv)) (fun t ht hW => ⟨⟨nI k3, (), rfl, ⟨hpost, trivial⟩, trivial⟩, hS.F ht⟩) hS.2.2 dX11_isMarked_59
      · skip
        have tn851_ : nIT j1 := fun _ => nI_toInt (by first | omega | (have t := nleI c7; omega))
        have n9 : j1 < M := by have t := nleI c7; rw [show (nI (j1)).toInt = ((j1 : Nat) : Int) from tn851_ ()] at t; rw [show (nI (M)).toInt = ((M : Nat) : Int) from tn849_ ()] at t; omega
        refine lv_iload_n hx hb dX11_isMarked_14 rfl (lv_at hl 1 rfl) ?_
        have cut51_12 : ∀ (k11 : Nat) (H : Heap) (locs : List Loc), k11 ≤ 1 → va_P (dC, dI) vwCl [(h0, .inr (11, [.ref st, .int (nI N), .int (nI B), .ref rp, .int vrs, .int vrb, .int vhs, .int vca, .int vxs, .int vxb, .ref tp, .int (nI T), .int vfa, .int vbr, .int vba, .int vsp, .int vhe, .int vtk, .int vva, .ref cu, .ref lt, .ref od, .ref th, .ref be, .ref ln, .int (nI S), .ref ma, .int (nI M), .ref ah, .ref bh, .ref ik, .ref la, .ref lg, .ref ce, .int vto])), (ma, .inl (G 0, 12, .inl fma))] H → va_S (fun q : Nat => s.heap.size ≤ q) s.heap H locs → ∀ (ls : Array Slot), lv_has ls 5 [(4, .int (nI j1)), (3, .int (nI k3)), (0, .ref h0), (1, .int x1), (2, .int x2)] → W p l e (headSpec (Cond.code yX11_isMarked cX11_isMarked 5 (some .boolean) :: GT) ({ frames := 0, cells := 0, slots := 0, locals := 0 } : Room)).room s m ([.ref h0, .int x1, .int x2] : List Value).toArray below meth c H locs 0 0 (MQ below (va_Qi (fun (r : Int32) (u : Unit) => match u with | _ => (r = 0 ∨ r = 1) ∧ True) (fun _ _ => True) (fun q : Nat => s.heap.size ≤ q)) ([.ref h0, .int x1, .int x2] : List Value).toArray s 0 0 (fun q : Nat => s.heap.size ≤ q)) (F0 m 51 ls [.int (nI k11)]) := by
          intro k11 H locs hb_k11 hP hS ls hl
          refine lv_istore_n (lv' := [(3, .int (nI k11)), (4, .int (nI j1)), (0, .ref h0), (1, .int x1), (2, .int x2)]) hx hb dX11_isMarked_51 rfl hl (by decide) rfl (fun ls hl => ?_)
          refine lv_iinc (v := nI (j1 + 1)) (lv' := [(4, .int (nI (j1 + 1))), (3, .int (nI k11)), (0, .ref h0), (1, .int x1), (2, .int x2)]) hx hb dX11_isMarked_52 hl (k := 1) rfl (by rw [show Int32.ofInt 1 = nI 1 from by decide]; exact nI_add _ _) (by decide) rfl (fun ls hl => ?_)
          refine lv_goto (tgt := 5) hx hb dX11_isMarked_55 rfl ?_
          have tn852_ : nIT k3 := fun _ => nI_toInt (by first | omega | (have t_hj6 := hj6; have t_hinv := hinv; have t_n9 := n9; have t_hb_k11 := hb_k11; omega))
          have tn853_ : nIT k11 := fun _ => nI_toInt (by first | omega | (have t_hj6 := hj6; have t_hinv := hinv; have t_n9 := n9; have t_hb_k11 := hb_k11; omega))
          exact ih5_4 (j1 + 1) (by omega) (by omega) k11 _ _ (by have t_hj6 := hj6; have t_hinv := hinv; have t_n9 := n9; have t_hb_k11 := hb_k11; have tnb_ := nib8 tn845_ tn846_ tn847_ tn848_ tn849_ tn851_ tn852_ tn853_; omega) hP hS ls (lv_sub hl [0, 1, 2, 3, 4] rfl)
        refine lv_if_eq (tgt := 50) hx hb dX11_isMarked_15 rfl (fun c13 => ?_) (fun c13 => ?_)
        · skip
          have tn854_ : nIT k3 := fun _ => nI_toInt (by first | omega | (have t := eqI c13; omega))
          have n14 : k3 = 0 := by have t := eqI c13; rw [show (nI (k3)).toInt = ((k3 : Nat) : Int) from tn854_ ()] at t; have : (0 : Int32).toInt = 0 := qI_0; omega
          refine lv_iconst (v := 0) hx hb dX11_isMarked_50 rfl ?_
          exact cut51_12 0 _ _ (by omega) hP hS ls (lv_sub hl [0, 1, 2, 3, 4] rfl)
        · skip
          have tn855_ : nIT k3 := fun _ => nI_toInt (by first | omega | (have t := neI c13; omega))
          have n15 : k3 ≠ 0 := by have t := neI c13; rw [show (nI (k3)).toInt = ((k3 : Nat) : Int) from tn855_ ()] at t; have : (0 : Int32).toInt = 0 := qI_0; omega
          refine lv_aload_n hx hb dX11_isMarked_18 rfl (lv_at hl 2 rfl) ?_
          refine va_get (D := (dC, dI)) (ci := 11) (v := .ref ma) (C := RX11) (T := TX11) (N := 35) hx hb hg inG11 hown hK.1 hP 0 rfl rfl 26 (Nat.le_of_ble_eq_true rfl) (hg _ wt_904) (fun _ h9 => h9) rfl dX11_isMarked_19 ?_
          refine lv_iconst (v := 2) hx hb dX11_isMarked_22 rfl ?_
          refine lv_iload hx hb dX11_isMarked_23 (lv_at hl 0 rfl) ?_
          refine lv_imul hx hb dX11_isMarked_25 ?_
          refine lv_cg (y := nI (2 * j1)) (by rw [show (2 : Int32) = nI 2 from rfl]; exact pk_mul _ _) ?_
          refine va_iald hx hb hK.1 hP 1 0 rfl rfl (vp_in_nI (by first | omega | (have t_hj6 := hj6; have t_hinv := hinv; have t_n9 := n9; have t_n15 := n15; have tnb_ := nib7 tn845_ tn846_ tn847_ tn848_ tn849_ tn851_ tn855_; omega)) (by decide)) dX11_isMarked_26 ?_
          refine lv_cg (y := fma (2 * j1)) (by rw [nI_clamp (by omega)]) ?_
          refine lv_iload_n hx hb dX11_isMarked_27 rfl (lv_at hl 3 rfl) ?_
          have cut46_16 : ∀ (H : Heap) (locs : List Loc), va_P (dC, dI) vwCl [(h0, .inr (11, [.ref st, .int (nI N), .int (nI B), .ref rp, .int vrs, .int vrb, .int vhs, .int vca, .int vxs, .int vxb, .ref tp, .int (nI T), .int vfa, .int vbr, .int vba, .int vsp, .int vhe, .int vtk, .int vva, .ref cu, .ref lt, .ref od, .ref th, .ref be, .ref ln, .int (nI S), .ref ma, .int (nI M), .ref ah, .ref bh, .ref ik, .ref la, .ref lg, .ref ce, .int vto])), (ma, .inl (G 0, 12, .inl fma))] H → va_S (fun q : Nat => s.heap.size ≤ q) s.heap H locs → ∀ (ls : Array Slot), lv_has ls 5 [(4, .int (nI j1)), (3, .int (nI k3)), (0, .ref h0), (1, .int x1), (2, .int x2)] → W p l e (headSpec (Cond.code yX11_isMarked cX11_isMarked 5 (some .boolean) :: GT) ({ frames := 0, cells := 0, slots := 0, locals := 0 } : Room)).room s m ([.ref h0, .int x1, .int x2] : List Value).toArray below meth c H locs 0 0 (MQ below (va_Qi (fun (r : Int32) (u : Unit) => match u with | _ => (r = 0 ∨ r = 1) ∧ True) (fun _ _ => True) (fun q : Nat => s.heap.size ≤ q)) ([.ref h0, .int x1, .int x2] : List Value).toArray s 0 0 (fun q : Nat => s.heap.size ≤ q)) (F0 m 46 ls []) := by
            intro  H locs hP hS ls hl
            refine lv_iconst (v := 1) hx hb dX11_isMarked_46 rfl ?_
            refine lv_goto (tgt := 51) hx hb dX11_isMarked_47 rfl ?_
            exact cut51_12 1 _ _ (by omega) hP hS ls (lv_sub hl [0, 1, 2, 3, 4] rfl)
          refine lv_icmp_ne (tgt := 46) hx hb dX11_isMarked_28 rfl (fun c17 => ?_) (fun c17 => ?_)
          · skip
            exact cut46_16  _ _ hP hS ls (lv_sub hl [0, 1, 2, 3, 4] rfl)
          · skip
            refine lv_aload_n hx hb dX11_isMarked_31 rfl (lv_at hl 2 rfl) ?_
            refine va_get (D := (dC, dI)) (ci := 11) (v := .ref ma) (C := RX11) (T := TX11) (N := 35) hx hb hg inG11 hown hK.1 hP 0 rfl rfl 26 (Nat.le_of_ble_eq_true rfl) (hg _ wt_904) (fun _ h9 => h9) rfl dX11_isMarked_32 ?_
            refine lv_iconst (v := 2) hx hb dX11_isMarked_35 rfl ?_
            refine lv_iload hx hb dX11_isMarked_36 (lv_at hl 0 rfl) ?_
            refine lv_imul hx hb dX11_isMarked_38 ?_
            refine lv_cg (y := nI (2 * j1)) (by rw [show (2 : Int32) = nI 2 from rfl]; exact pk_mul _ _) ?_
            refine lv_iconst (v := 1) hx hb dX11_isMarked_39 rfl ?_
            refine lv_iadd hx hb dX11_isMarked_40 ?_
            refine lv_cg (y := nI ((2 * j1) + 1)) (by rw [show (1 : Int32) = nI 1 from rfl]; exact nI_add _ _) ?_
            refine va_iald hx hb hK.1 hP 1 0 rfl rfl (vp_in_nI (by first | omega | (have t_hj6 := hj6; have t_hinv := hinv; have t_n9 := n9; have t_n15 := n15; have t_c17 := eqI c17; have tnb_ := nib7 tn845_ tn846_ tn847_ tn848_ tn849_ tn851_ tn855_; omega)) (by decide)) dX11_isMarked_41 ?_
            refine lv_cg (y := fma ((2 * j1) + 1)) (by rw [nI_clamp (by omega)]) ?_
            refine lv_iload_n hx hb dX11_isMarked_42 rfl (lv_at hl 4 rfl) ?_
            refine lv_icmp_ne (tgt := 50) hx hb dX11_isMarked_43 rfl (fun c18 => ?_) (fun c18 => ?_)
            · skip
              refine lv_iconst (v := 0) hx hb dX11_isMarked_50 rfl ?_
              exact cut51_12 0 _ _ (by omega) hP hS ls (lv_sub hl [0, 1, 2, 3, 4] rfl)
            · skip
              exact cut46_16  _ _ hP hS ls (lv_sub hl [0, 1, 2, 3, 4] rfl)
  exact loop5_4 (M + 1) 0 (by omega) (by omega) 1 _ _ (by have tnb_ := nib5 tn845_ tn846_ tn847_ tn848_ tn849_; omega) hP hS ls (lv_sub hl [0, 1, 2, 3, 4] rfl)

set_option maxHeartbeats 1000000 in
set_option maxRecDepth 100000 in
theorem c_X11_depthThen (l : Launch) (dC : Nat → ClassId) (dI : Nat → Nat → Nat) (G : Nat → ClassId) (sz : Nat) (h0 i d st N B rp tp T cu lt od th be ln S ma M ah bh ik la lg ce : Nat) (x2 vrs vrb vhs vca vxs vxb vfa vbr vba vsp vhe vtk vva vto : Int32) (fst : Nat → Int32) (fma : Nat → Int32) (hN : N ≤ 10) (hB : B ≤ 6) (hT : T ≤ 320) (hS0 : S ≤ 8) (hM : M ≤ 6) (hst : OKS fst) (hi : i < 10) (hd9 : d ≤ 9) : Met l yX11_depthThen (Cond.code yX11_depthThen cX11_depthThen 6 (some .int) :: GT) ({ frames := 3, cells := 0, slots := 0, locals := 72 } : Room) (PcR [.ref h0, .int (nI i), .int (nI d), .int x2] dC dI G [(h0, .inr (11, [.ref st, .int (nI N), .int (nI B), .ref rp, .int vrs, .int vrb, .int vhs, .int vca, .int vxs, .int vxb, .ref tp, .int (nI T), .int vfa, .int vbr, .int vba, .int vsp, .int vhe, .int vtk, .int vva, .ref cu, .ref lt, .ref od, .ref th, .ref be, .ref ln, .int (nI S), .ref ma, .int (nI M), .ref ah, .ref bh, .ref ik, .ref la, .ref lg, .ref ce, .int vto])), (st, .inl (G 0, 196, .inl fst)), (ma, .inl (G 0, 12, .inl fma))] sz) (va_Qi (fun (r : Int32) (u : Unit) => match u with | _ => (r = -4 ∨ ∃ k : Nat, r = nI k ∧ k ≤ 9) ∧ True) (fun _ _ => True) (fun q : Nat => sz ≤ q)) 0 0 (fun q : Nat => sz ≤ q) := by
  have hB_ := hB
  have hM_ := hM
  have hT_ := hT
  have tn856_ : nIT N := fun _ => nI_toInt (by omega)
  have tn857_ : nIT B := fun _ => nI_toInt (by omega)
  have tn858_ : nIT T := fun _ => nI_toInt (by omega)
  have tn859_ : nIT S := fun _ => nI_toInt (by omega)
  have tn860_ : nIT M := fun _ => nI_toInt (by omega)
  refine Met.ofW (cc := cX11_depthThen) (maxL := 6) (ret := (some .int)) (by decide) rfl ?_
  intro p e s m args below meth c s₁ Bd hml hv
  obtain ⟨rfl, hsz, hP, hK⟩ := hv
  have hx := Bd.exec
  have hb := Bd.bytes
  have hr := Bd.returns
  have hg : ∀ w ∈ GT, w.before ([.ref h0, .int (nI i), .int (nI d), .int x2] : List Value).toArray s = true := fun w h => atoms_spec (ws := Cond.code yX11_depthThen cX11_depthThen 6 (some .int) :: GT) Bd.pre w (List.mem_cons_of_mem _ h)
  have hown : s.vm.findClass RX11 = some m.cls := findClass_of_methodNamed Bd.named
  have hlocks := Bd.notSynchronized
  subst hsz
  have hA : ∀ q : Nat, s.heap.size ≤ q → (fun q : Nat => s.heap.size ≤ q) q := fun _ h => h
  have hS : va_S (fun q : Nat => s.heap.size ≤ q) s.heap s.heap [] := va_S.rf
  have hl := lv_entry ([.ref h0, .int (nI i), .int (nI d), .int x2]) (n := 6) (Nat.le_of_ble_eq_true rfl)
  rw [lg_entry_eq]
  generalize (lg_sl ([.ref h0, .int (nI i), .int (nI d), .int x2]) ++ List.replicate (6 - (lg_sl ([.ref h0, .int (nI i), .int (nI d), .int x2])).length) Slot.unset).toArray = ls at hl ⊢
  have hl : lv_has ls 6 [(0, .ref h0), (1, .int (nI i)), (2, .int (nI d)), (3, .int x2)] := hl
  refine lv_aload_n hx hb dX11_depthThen_0 rfl (lv_at hl 0 rfl) ?_
  refine lv_iload_n hx hb dX11_depthThen_1 rfl (lv_at hl 1 rfl) ?_
  refine lv_iconst (v := 0) hx hb dX11_depthThen_2 rfl ?_
  have hPc := hP.sub (ws' := [(h0, .inr (11, [.ref st, .int (nI N), .int (nI B), .ref rp, .int vrs, .int vrb, .int vhs, .int vca, .int vxs, .int vxb, .ref tp, .int (nI T), .int vfa, .int vbr, .int vba, .int vsp, .int vhe, .int vtk, .int vva, .ref cu, .ref lt, .ref od, .ref th, .ref be, .ref ln, .int (nI S), .ref ma, .int (nI M), .ref ah, .ref bh, .ref ik, .ref la, .ref lg, .ref ce, .int vto])), (st, .inl (G 0, 196, .inl fst))]) [0, 1] rfl
  have tn861_ : nIT i := fun _ => nI_toInt (by omega)
  have tn862_ : nIT d := fun _ => nI_toInt (by omega)
  refine va_calli (va_runV (As := [.int (nI i), .int 0]) (rest := []) ⟨hx, hb, hml, hown, hg⟩ (c_X11_orderedHarm l dC dI G _ h0 i st N B rp tp T cu lt od th be ln S ma M ah bh ik la lg ce 0 vrs vrb vhs vca vxs vxb vfa vbr vba vsp vhe vtk vva vto fst hN hB_ hT_ hS0 hM_ hi hst) (kwV hg mfX11_orderedHarm wt_1123 ⟨Nat.le_of_ble_eq_true rfl, Nat.le_of_ble_eq_true rfl⟩) (preVR hK hPc (ci := 11) (r := (RX11, TX11, 35)) rfl rfl) rfl rfl hl.1 rfl (lv_room (Nat.le_of_ble_eq_true rfl)) dX11_depthThen_3 ⟨Nat.le_of_ble_eq_true rfl, Nat.le_of_ble_eq_true rfl⟩) hS (fun q h1 h2 => absurd h2 (Nat.not_le.mpr h1)) (fun q h => hA q (Nat.le_trans hS.1 h)) (fun r1 ur1 t H1 locs ht hvm w2 hB hz1 hk1 hS => ?_)
  have hP := keepR hP hk1
  obtain ⟨w2, w2x⟩ := w2
  refine lv_istore (lv' := [(4, .int r1), (0, .ref h0), (1, .int (nI i)), (2, .int (nI d)), (3, .int x2)]) hx hb dX11_depthThen_6 hl (by decide) rfl (fun ls hl => ?_)
  refine lv_iload_n hx hb dX11_depthThen_8 rfl (lv_at hl 3 rfl) ?_
  refine lv_if_eq (tgt := 31) hx hb dX11_depthThen_9 rfl (fun c3 => ?_) (fun c3 => ?_)
  · skip
    have n4 : d = 0 := by have t := eqI c3; rw [show (nI (d)).toInt = ((d : Nat) : Int) from tn862_ ()] at t; have : (0 : Int32).toInt = 0 := qI_0; omega
    refine lv_bipush (v := (-4)) hx hb dX11_depthThen_31 rfl ?_
    have hpost : ((-4) : Int32) = -4 ∨ ∃ k : Nat, ((-4) : Int32) = nI k ∧ k ≤ 9 := by
      exact Or.inl rfl
    refine W.widen (k := 0) (n := 0) (Nat.le_of_ble_eq_true rfl) (Nat.le_of_ble_eq_true rfl) ?_
    exact W.iret (v := (-4)) hx hb hr (fun t ht hW => ⟨⟨(-4), (), rfl, ⟨hpost, trivial⟩, trivial⟩, hS.F ht⟩) hS.2.2 dX11_depthThen_33
  · skip
    have n5 : d ≠ 0 := by have t := neI c3; rw [show (nI (d)).toInt = ((d : Nat) : Int) from tn862_ ()] at t; have : (0 : Int32).toInt = 0 := qI_0; omega
    refine lv_iload_n hx hb dX11_depthThen_12 rfl (lv_at hl 4 rfl) ?_
    refine lv_if_eq (tgt := 24) hx hb dX11_depthThen_13 rfl (fun c6 => ?_) (fun c6 => ?_)
    · skip
      refine lv_iload hx hb dX11_depthThen_24 (lv_at hl 0 rfl) ?_
      refine lv_bipush (v := 20) hx hb dX11_depthThen_26 rfl ?_
      refine lv_icmp_ne (tgt := 34) hx hb dX11_depthThen_28 rfl (fun c7 => ?_) (fun c7 => ?_)
      · skip
        refine lv_iload_n hx hb dX11_depthThen_34 rfl (lv_at hl 4 rfl) ?_
        refine lv_if_eq (tgt := 44) hx hb dX11_depthThen_35 rfl (fun c8 => ?_) (fun c8 => ?_)
        · skip
          refine lv_iload_n hx hb dX11_depthThen_44 rfl (lv_at hl 3 rfl) ?_
          refine lv_iconst (v := 1) hx hb dX11_depthThen_45 rfl ?_
          have hPc := hP.sub (ws' := []) [] rfl
          refine va_calli (va_runS (As := [.int (nI d), .int 1]) (rest := []) ⟨hx, hb, hml, hown, hg⟩ (c_X11_deeper l dC dI G _ d 1 hd9 (by first | omega | (have t_n5 := n5; have t_c6 := eqI c6; have t_c7 := neI c7; have t_c8 := eqI c8; have tqz_ := qz12_; have tnb_ := nib7 tn861_ tn862_ tn856_ tn857_ tn858_ tn859_ tn860_; have : (1 : Int32).toInt = 1 := qI_1; omega))) (kwS hg mfX11_deeper wt_1128 ⟨Nat.le_of_ble_eq_true rfl, Nat.le_of_ble_eq_true rfl⟩) (preSR hK hPc) rfl rfl hl.1 rfl (lv_room (Nat.le_of_ble_eq_true rfl)) dX11_depthThen_46 ⟨Nat.le_of_ble_eq_true rfl, Nat.le_of_ble_eq_true rfl⟩) hS (fun q h1 h2 => absurd h2 (Nat.not_le.mpr h1)) (fun q h => hA q (Nat.le_trans hS.1 h)) (fun r9 ur9 t H1 locs ht hvm w10 hB hz1 hk1 hS => ?_)
          have hP := keepR hP hk1
          obtain ⟨w10, w10x⟩ := w10
          have hs11 : d ≤ (min 9 (d + 1)) ∧ (min 9 (d + 1)) ≤ 9 := (by omega)
          subst w10
          refine lv_istore (lv' := [(5, .int (nI (min 9 (d + 1)))), (4, .int r1), (0, .ref h0), (1, .int (nI i)), (2, .int (nI d)), (3, .int x2)]) hx hb dX11_depthThen_49 hl (by decide) rfl (fun ls hl => ?_)
          refine lv_aload_n hx hb dX11_depthThen_51 rfl (lv_at hl 2 rfl) ?_
          refine lv_iload_n hx hb dX11_depthThen_52 rfl (lv_at hl 3 rfl) ?_
          refine lv_iload hx hb dX11_depthThen_53 (lv_at hl 0 rfl) ?_
          have hPc := hP.sub (ws' := [(h0, .inr (11, [.ref st, .int (nI N), .int (nI B), .ref rp, .int vrs, .int vrb, .int vhs, .int vca, .int vxs, .int vxb, .ref tp, .int (nI T), .int vfa, .int vbr, .int vba, .int vsp, .int vhe, .int vtk, .int vva, .ref cu, .ref lt, .ref od, .ref th, .ref be, .ref ln, .int (nI S), .ref ma, .int (nI M), .ref ah, .ref bh, .ref ik, .ref la, .ref lg, .ref ce, .int vto])), (ma, .inl (G 0, 12, .inl fma))]) [0, 2] rfl
          refine va_calli (va_runV (As := [.int (nI i), .int (nI (min 9 (d + 1)))]) (rest := []) ⟨hx, hb, hml, hown, hg⟩ (c_X11_isMarked l dC dI G _ h0 st N B rp tp T cu lt od th be ln S ma M ah bh ik la lg ce (nI i) (nI (min 9 (d + 1))) vrs vrb vhs vca vxs vxb vfa vbr vba vsp vhe vtk vva vto fma hN hB_ hT_ hS0 hM_) (kwV hg mfX11_isMarked wt_1228 ⟨Nat.le_of_ble_eq_true rfl, Nat.le_of_ble_eq_true rfl⟩) (preVR hK hPc (ci := 11) (r := (RX11, TX11, 35)) rfl rfl) rfl rfl hl.1 rfl (lv_room (Nat.le_of_ble_eq_true rfl)) dX11_depthThen_55 ⟨Nat.le_of_ble_eq_true rfl, Nat.le_of_ble_eq_true rfl⟩) hS (fun q h1 h2 => absurd h2 (Nat.not_le.mpr h1)) (fun q h => hA q (Nat.le_trans hS.1 h)) (fun r12 ur12 t H1 locs ht hvm w13 hB hz1 hk1 hS => ?_)
          have hP := keepR hP hk1
          obtain ⟨w13, w13x⟩ := w13
          refine lv_if_eq (tgt := 66) hx hb dX11_depthThen_58 rfl (fun c14 => ?_) (fun c14 => ?_)
          · skip
            refine lv_bipush (v := (-4)) hx hb dX11_depthThen_66 rfl ?_
            have hpost : ((-4) : Int32) = -4 ∨ ∃ k : Nat, ((-4) : Int32) = nI k ∧ k ≤ 9 := by
              exact Or.inl rfl
            refine W.widen (k := 0) (n := 0) (Nat.le_of_ble_eq_true rfl) (Nat.le_of_ble_eq_true rfl) ?_
            exact W.iret (v := (-4)) hx hb hr (fun t ht hW => ⟨⟨(-4), (), rfl, ⟨hpost, trivial⟩, trivial⟩, hS.F ht⟩) hS.2.2 dX11_depthThen_68
          · skip
            refine lv_iload hx hb dX11_depthThen_61 (lv_at hl 0 rfl) ?_
            refine lv_goto (tgt := 68) hx hb dX11_depthThen_63 rfl ?_
            have hpost : (nI (min 9 (d + 1)) : Int32) = -4 ∨ ∃ k : Nat, (nI (min 9 (d + 1)) : Int32) = nI k ∧ k ≤ 9 := by
              have t_n5 := n5
              have t_c6 := eqI c6
              have t_c7 := neI c7
              have t_c8 := eqI c8
              have t_hs11 := hs11
              have t_c14 := neI c14
              have : (0 : Int32).toInt = 0 := qI_0
              have : (20 : Int32).toInt = 20 := qI_20
              have t_n0 : (nI i).toInt = (i : Int) := tn861_ ()
              have t_n1 : (nI d).toInt = (d : Int) := tn862_ ()
              have t_n2 : (nI N).toInt = (N : Int) := tn856_ ()
              have t_n3 : (nI B).toInt = (B : Int) := tn857_ ()
              have t_n4 : (nI T).toInt = (T : Int) := tn858_ ()
              have t_n5 : (nI S).toInt = (S : Int) := tn859_ ()
              have t_n6 : (nI M).toInt = (M : Int) := tn860_ ()
              exact Or.inr ⟨(min 9 (d + 1)), rfl, by omega⟩
            refine W.widen (k := 0) (n := 0) (Nat.le_of_ble_eq_true rfl) (Nat.le_of_ble_eq_true rfl) ?_
            exact W.iret (v := nI (min 9 (d + 1))) hx hb hr (fun t ht hW => ⟨⟨nI (min 9 (d + 1)), (), rfl, ⟨hpost, trivial⟩, trivial⟩, hS.F ht⟩) hS.2.2 dX11_depthThen_68
        · skip
          have t_n5 := n5
          have t_c6 := eqI c6
          have t_c7 := neI c7
          have t_c8 := neI c8
          have : (0 : Int32).toInt = 0 := qI_0
          have : (20 : Int32).toInt = 20 := qI_20
          have t_n0 : (nI i).toInt = (i : Int) := tn861_ ()
          have t_n1 : (nI d).toInt = (d : Int) := tn862_ ()
          have t_n2 : (nI N).toInt = (N : Int) := tn856_ ()
          have t_n3 : (nI B).toInt = (B : Int) := tn857_ ()
          have t_n4 : (nI T).toInt = (T : Int) := tn858_ ()
          have t_n5 : (nI S).toInt = (S : Int) := tn859_ ()
          have t_n6 : (nI M).toInt = (M : Int) := tn860_ ()
          exfalso; omega
      · skip
        refine lv_bipush (v := (-4)) hx hb dX11_depthThen_31 rfl ?_
        have hpost : ((-4) : Int32) = -4 ∨ ∃ k : Nat, ((-4) : Int32) = nI k ∧ k ≤ 9 := by
          exact Or.inl rfl
        refine W.widen (k := 0) (n := 0) (Nat.le_of_ble_eq_true rfl) (Nat.le_of_ble_eq_true rfl) ?_
        exact W.iret (v := (-4)) hx hb hr (fun t ht hW => ⟨⟨(-4), (), rfl, ⟨hpost, trivial⟩, trivial⟩, hS.F ht⟩) hS.2.2 dX11_depthThen_33
    · skip
      refine lv_iload hx hb dX11_depthThen_16 (lv_at hl 0 rfl) ?_
      refine lv_if_ne (tgt := 34) hx hb dX11_depthThen_18 rfl (fun c15 => ?_) (fun c15 => ?_)
      · skip
        refine lv_iload_n hx hb dX11_depthThen_34 rfl (lv_at hl 4 rfl) ?_
        refine lv_if_eq (tgt := 44) hx hb dX11_depthThen_35 rfl (fun c16 => ?_) (fun c16 => ?_)
        · skip
          have t_n5 := n5
          have t_c6 := neI c6
          have t_c15 := neI c15
          have t_c16 := eqI c16
          have : (0 : Int32).toInt = 0 := qI_0
          have t_n0 : (nI i).toInt = (i : Int) := tn861_ ()
          have t_n1 : (nI d).toInt = (d : Int) := tn862_ ()
          have t_n2 : (nI N).toInt = (N : Int) := tn856_ ()
          have t_n3 : (nI B).toInt = (B : Int) := tn857_ ()
          have t_n4 : (nI T).toInt = (T : Int) := tn858_ ()
          have t_n5 : (nI S).toInt = (S : Int) := tn859_ ()
          have t_n6 : (nI M).toInt = (M : Int) := tn860_ ()
          exfalso; omega
        · skip
          refine lv_iload_n hx hb dX11_depthThen_38 rfl (lv_at hl 3 rfl) ?_
          refine lv_iconst (v := 1) hx hb dX11_depthThen_39 rfl ?_
          refine lv_isub hx hb dX11_depthThen_40 ?_
          refine lv_cg (y := nI (d - 1)) (by rw [show (1 : Int32) = nI 1 from rfl]; exact pk_sub (by have t_n5 := n5; have t_c6 := neI c6; have t_c15 := neI c15; have t_c16 := neI c16; have : (0 : Int32).toInt = 0 := qI_0; have tnb_ := nib7 tn861_ tn862_ tn856_ tn857_ tn858_ tn859_ tn860_; omega)) ?_
          refine lv_goto (tgt := 49) hx hb dX11_depthThen_41 rfl ?_
          refine lv_istore (lv' := [(5, .int (nI (d - 1))), (4, .int r1), (0, .ref h0), (1, .int (nI i)), (2, .int (nI d)), (3, .int x2)]) hx hb dX11_depthThen_49 hl (by decide) rfl (fun ls hl => ?_)
          refine lv_aload_n hx hb dX11_depthThen_51 rfl (lv_at hl 2 rfl) ?_
          refine lv_iload_n hx hb dX11_depthThen_52 rfl (lv_at hl 3 rfl) ?_
          refine lv_iload hx hb dX11_depthThen_53 (lv_at hl 0 rfl) ?_
          have hPc := hP.sub (ws' := [(h0, .inr (11, [.ref st, .int (nI N), .int (nI B), .ref rp, .int vrs, .int vrb, .int vhs, .int vca, .int vxs, .int vxb, .ref tp, .int (nI T), .int vfa, .int vbr, .int vba, .int vsp, .int vhe, .int vtk, .int vva, .ref cu, .ref lt, .ref od, .ref th, .ref be, .ref ln, .int (nI S), .ref ma, .int (nI M), .ref ah, .ref bh, .ref ik, .ref la, .ref lg, .ref ce, .int vto])), (ma, .inl (G 0, 12, .inl fma))]) [0, 2] rfl
          refine va_calli (va_runV (As := [.int (nI i), .int (nI (d - 1))]) (rest := []) ⟨hx, hb, hml, hown, hg⟩ (c_X11_isMarked l dC dI G _ h0 st N B rp tp T cu lt od th be ln S ma M ah bh ik la lg ce (nI i) (nI (d - 1)) vrs vrb vhs vca vxs vxb vfa vbr vba vsp vhe vtk vva vto fma hN hB_ hT_ hS0 hM_) (kwV hg mfX11_isMarked wt_1228 ⟨Nat.le_of_ble_eq_true rfl, Nat.le_of_ble_eq_true rfl⟩) (preVR hK hPc (ci := 11) (r := (RX11, TX11, 35)) rfl rfl) rfl rfl hl.1 rfl (lv_room (Nat.le_of_ble_eq_true rfl)) dX11_depthThen_55 ⟨Nat.le_of_ble_eq_true rfl, Nat.le_of_ble_eq_true rfl⟩) hS (fun q h1 h2 => absurd h2 (Nat.not_le.mpr h1)) (fun q h => hA q (Nat.le_trans hS.1 h)) (fun r17 ur17 t H1 locs ht hvm w18 hB hz1 hk1 hS => ?_)
          have hP := keepR hP hk1
          obtain ⟨w18, w18x⟩ := w18
          refine lv_if_eq (tgt := 66) hx hb dX11_depthThen_58 rfl (fun c19 => ?_) (fun c19 => ?_)
          · skip
            refine lv_bipush (v := (-4)) hx hb dX11_depthThen_66 rfl ?_
            have hpost : ((-4) : Int32) = -4 ∨ ∃ k : Nat, ((-4) : Int32) = nI k ∧ k ≤ 9 := by
              exact Or.inl rfl
            refine W.widen (k := 0) (n := 0) (Nat.le_of_ble_eq_true rfl) (Nat.le_of_ble_eq_true rfl) ?_
            exact W.iret (v := (-4)) hx hb hr (fun t ht hW => ⟨⟨(-4), (), rfl, ⟨hpost, trivial⟩, trivial⟩, hS.F ht⟩) hS.2.2 dX11_depthThen_68
          · skip
            refine lv_iload hx hb dX11_depthThen_61 (lv_at hl 0 rfl) ?_
            refine lv_goto (tgt := 68) hx hb dX11_depthThen_63 rfl ?_
            have hpost : (nI (d - 1) : Int32) = -4 ∨ ∃ k : Nat, (nI (d - 1) : Int32) = nI k ∧ k ≤ 9 := by
              have t_n5 := n5
              have t_c6 := neI c6
              have t_c15 := neI c15
              have t_c16 := neI c16
              have t_c19 := neI c19
              have : (0 : Int32).toInt = 0 := qI_0
              have t_n0 : (nI i).toInt = (i : Int) := tn861_ ()
              have t_n1 : (nI d).toInt = (d : Int) := tn862_ ()
              have t_n2 : (nI N).toInt = (N : Int) := tn856_ ()
              have t_n3 : (nI B).toInt = (B : Int) := tn857_ ()
              have t_n4 : (nI T).toInt = (T : Int) := tn858_ ()
              have t_n5 : (nI S).toInt = (S : Int) := tn859_ ()
              have t_n6 : (nI M).toInt = (M : Int) := tn860_ ()
              exact Or.inr ⟨(d - 1), rfl, by omega⟩
            refine W.widen (k := 0) (n := 0) (Nat.le_of_ble_eq_true rfl) (Nat.le_of_ble_eq_true rfl) ?_
            exact W.iret (v := nI (d - 1)) hx hb hr (fun t ht hW => ⟨⟨nI (d - 1), (), rfl, ⟨hpost, trivial⟩, trivial⟩, hS.F ht⟩) hS.2.2 dX11_depthThen_68
      · skip
        refine lv_goto (tgt := 31) hx hb dX11_depthThen_21 rfl ?_
        refine lv_bipush (v := (-4)) hx hb dX11_depthThen_31 rfl ?_
        have hpost : ((-4) : Int32) = -4 ∨ ∃ k : Nat, ((-4) : Int32) = nI k ∧ k ≤ 9 := by
          exact Or.inl rfl
        refine W.widen (k := 0) (n := 0) (Nat.le_of_ble_eq_true rfl) (Nat.le_of_ble_eq_true rfl) ?_
        exact W.iret (v := (-4)) hx hb hr (fun t ht hW => ⟨⟨(-4), (), rfl, ⟨hpost, trivial⟩, trivial⟩, hS.F ht⟩) hS.2.2 dX11_depthThen_33

set_option maxHeartbeats 1000000 in
set_option maxRecDepth 100000 in
theorem c_X11_onward (l : Launch) (dC : Nat → ClassId) (dI : Nat → Nat → Nat) (G : Nat → ClassId) (sz : Nat) (h0 i d st N B rp tp T cu lt od th be ln S ma M ah bh ik la lg ce : Nat) (x2 vrs vrb vhs vca vxs vxb vfa vbr vba vsp vhe vtk vva vto : Int32) (fst : Nat → Int32) (fma : Nat → Int32) (fbh : Nat → Int32) (hN : N ≤ 10) (hB : B ≤ 6) (hT : T ≤ 320) (hS0 : S ≤ 8) (hM : M ≤ 6) (hst : OKS fst) (hi : i < 10) (hd9 : d ≤ 9) : Met l yX11_onward (Cond.code yX11_onward cX11_onward 5 (some .int) :: GT) ({ frames := 4, cells := 0, slots := 0, locals := 97 } : Room) (PcR [.ref h0, .int (nI i), .int (nI d), .int x2] dC dI G [(h0, .inr (11, [.ref st, .int (nI N), .int (nI B), .ref rp, .int vrs, .int vrb, .int vhs, .int vca, .int vxs, .int vxb, .ref tp, .int (nI T), .int vfa, .int vbr, .int vba, .int vsp, .int vhe, .int vtk, .int vva, .ref cu, .ref lt, .ref od, .ref th, .ref be, .ref ln, .int (nI S), .ref ma, .int (nI M), .ref ah, .ref bh, .ref ik, .ref la, .ref lg, .ref ce, .int vto])), (st, .inl (G 0, 196, .inl fst)), (ma, .inl (G 0, 12, .inl fma)), (bh, .inl (G 0, 110, .inl fbh))] sz) (va_Qi (fun (r : Int32) (u : Unit) => match u with | _ => (True) ∧ True) (fun _ _ => True) (fun q : Nat => sz ≤ q)) 0 0 (fun q : Nat => sz ≤ q) := by
  have hB_ := hB
  have hM_ := hM
  have hT_ := hT
  have tn863_ : nIT N := fun _ => nI_toInt (by omega)
  have tn864_ : nIT B := fun _ => nI_toInt (by omega)
  have tn865_ : nIT T := fun _ => nI_toInt (by omega)
  have tn866_ : nIT S := fun _ => nI_toInt (by omega)
  have tn867_ : nIT M := fun _ => nI_toInt (by omega)
  refine Met.ofW (cc := cX11_onward) (maxL := 5) (ret := (some .int)) (by decide) rfl ?_
  intro p e s m args below meth c s₁ Bd hml hv
  obtain ⟨rfl, hsz, hP, hK⟩ := hv
  have hx := Bd.exec
  have hb := Bd.bytes
  have hr := Bd.returns
  have hg : ∀ w ∈ GT, w.before ([.ref h0, .int (nI i), .int (nI d), .int x2] : List Value).toArray s = true := fun w h => atoms_spec (ws := Cond.code yX11_onward cX11_onward 5 (some .int) :: GT) Bd.pre w (List.mem_cons_of_mem _ h)
  have hown : s.vm.findClass RX11 = some m.cls := findClass_of_methodNamed Bd.named
  have hlocks := Bd.notSynchronized
  subst hsz
  have hA : ∀ q : Nat, s.heap.size ≤ q → (fun q : Nat => s.heap.size ≤ q) q := fun _ h => h
  have hS : va_S (fun q : Nat => s.heap.size ≤ q) s.heap s.heap [] := va_S.rf
  have hl := lv_entry ([.ref h0, .int (nI i), .int (nI d), .int x2]) (n := 5) (Nat.le_of_ble_eq_true rfl)
  rw [lg_entry_eq]
  generalize (lg_sl ([.ref h0, .int (nI i), .int (nI d), .int x2]) ++ List.replicate (5 - (lg_sl ([.ref h0, .int (nI i), .int (nI d), .int x2])).length) Slot.unset).toArray = ls at hl ⊢
  have hl : lv_has ls 5 [(0, .ref h0), (1, .int (nI i)), (2, .int (nI d)), (3, .int x2)] := hl
  refine lv_aload_n hx hb dX11_onward_0 rfl (lv_at hl 0 rfl) ?_
  refine lv_iload_n hx hb dX11_onward_1 rfl (lv_at hl 1 rfl) ?_
  refine lv_iload_n hx hb dX11_onward_2 rfl (lv_at hl 2 rfl) ?_
  refine lv_iload_n hx hb dX11_onward_3 rfl (lv_at hl 3 rfl) ?_
  have hPc := hP.sub (ws' := [(h0, .inr (11, [.ref st, .int (nI N), .int (nI B), .ref rp, .int vrs, .int vrb, .int vhs, .int vca, .int vxs, .int vxb, .ref tp, .int (nI T), .int vfa, .int vbr, .int vba, .int vsp, .int vhe, .int vtk, .int vva, .ref cu, .ref lt, .ref od, .ref th, .ref be, .ref ln, .int (nI S), .ref ma, .int (nI M), .ref ah, .ref bh, .ref ik, .ref la, .ref lg, .ref ce, .int vto])), (st, .inl (G 0, 196, .inl fst)), (ma, .inl (G 0, 12, .inl fma))]) [0, 1, 2] rfl
  have tn868_ : nIT i := fun _ => nI_toInt (by omega)
  have tn869_ : nIT d := fun _ => nI_toInt (by omega)
  refine va_calli (va_runV (As := [.int (nI i), .int (nI d), .int x2]) (rest := []) ⟨hx, hb, hml, hown, hg⟩ (c_X11_depthThen l dC dI G _ h0 i d st N B rp tp T cu lt od th be ln S ma M ah bh ik la lg ce x2 vrs vrb vhs vca vxs vxb vfa vbr vba vsp vhe vtk vva vto fst fma hN hB_ hT_ hS0 hM_ hst hi hd9) (kwV hg mfX11_depthThen wt_1224 ⟨Nat.le_of_ble_eq_true rfl, Nat.le_of_ble_eq_true rfl⟩) (preVR hK hPc (ci := 11) (r := (RX11, TX11, 35)) rfl rfl) rfl rfl hl.1 rfl (lv_room (Nat.le_of_ble_eq_true rfl)) dX11_onward_4 ⟨Nat.le_of_ble_eq_true rfl, Nat.le_of_ble_eq_true rfl⟩) hS (fun q h1 h2 => absurd h2 (Nat.not_le.mpr h1)) (fun q h => hA q (Nat.le_trans hS.1 h)) (fun r1 ur1 t H1 locs ht hvm w2 hB hz1 hk1 hS => ?_)
  have hP := keepR hP hk1
  obtain ⟨w2, w2x⟩ := w2
  rcases w2 with w21 | ⟨w20, w21, w22⟩
  · skip
    refine lv_cg (y := (-4)) w21 ?_
    refine lv_istore (lv' := [(4, .int (-4)), (0, .ref h0), (1, .int (nI i)), (2, .int (nI d)), (3, .int x2)]) hx hb dX11_onward_7 hl (by decide) rfl (fun ls hl => ?_)
    refine lv_iload hx hb dX11_onward_9 (lv_at hl 0 rfl) ?_
    refine lv_bipush (v := (-4)) hx hb dX11_onward_11 rfl ?_
    refine lv_icmp_ne (tgt := 20) hx hb dX11_onward_13 rfl (fun c3 => ?_) (fun c3 => ?_)
    · skip
      exact absurd c3 (by decide)
    · skip
      refine lv_iconst (v := 0) hx hb dX11_onward_16 rfl ?_
      refine lv_goto (tgt := 35) hx hb dX11_onward_17 rfl ?_
      have hpost : True := by
        trivial
      refine W.widen (k := 0) (n := 0) (Nat.le_of_ble_eq_true rfl) (Nat.le_of_ble_eq_true rfl) ?_
      exact W.iret (v := 0) hx hb hr (fun t ht hW => ⟨⟨0, (), rfl, ⟨hpost, trivial⟩, trivial⟩, hS.F ht⟩) hS.2.2 dX11_onward_35
  · skip
    refine lv_cg (y := nI w20) w21 ?_
    refine lv_istore (lv' := [(4, .int (nI w20)), (0, .ref h0), (1, .int (nI i)), (2, .int (nI d)), (3, .int x2)]) hx hb dX11_onward_7 hl (by decide) rfl (fun ls hl => ?_)
    refine lv_iload hx hb dX11_onward_9 (lv_at hl 0 rfl) ?_
    refine lv_bipush (v := (-4)) hx hb dX11_onward_11 rfl ?_
    refine lv_icmp_ne (tgt := 20) hx hb dX11_onward_13 rfl (fun c4 => ?_) (fun c4 => ?_)
    · skip
      refine lv_aload_n hx hb dX11_onward_20 rfl (lv_at hl 1 rfl) ?_
      refine va_get (D := (dC, dI)) (ci := 11) (v := .ref bh) (C := RX11) (T := TX11) (N := 35) hx hb hg inG11 hown hK.1 hP 0 rfl rfl 29 (Nat.le_of_ble_eq_true rfl) (hg _ wt_907) (fun _ h9 => h9) rfl dX11_onward_21 ?_
      refine lv_bipush (v := 10) hx hb dX11_onward_24 rfl ?_
      refine lv_iload_n hx hb dX11_onward_26 rfl (lv_at hl 2 rfl) ?_
      refine lv_imul hx hb dX11_onward_27 ?_
      refine lv_cg (y := nI (10 * i)) (by rw [show (10 : Int32) = nI 10 from rfl]; exact pk_mul _ _) ?_
      refine lv_bipush (v := 10) hx hb dX11_onward_28 rfl ?_
      refine lv_iadd hx hb dX11_onward_30 ?_
      refine lv_cg (y := nI ((10 * i) + 10)) (by rw [show (10 : Int32) = nI 10 from rfl]; exact nI_add _ _) ?_
      refine lv_iload hx hb dX11_onward_31 (lv_at hl 0 rfl) ?_
      refine lv_iadd hx hb dX11_onward_33 ?_
      refine lv_cg (y := nI (((10 * i) + 10) + w20)) (by exact nI_add _ _) ?_
      have tn870_ : nIT w20 := fun _ => nI_toInt (by first | omega | (have t_w22 := w22; have t_c4 := neI c4; have : ((-4) : Int32).toInt = -4 := qI_m4; omega))
      refine va_iald hx hb hK.1 hP 3 0 rfl rfl (vp_in_nI (by first | omega | (have t_w22 := w22; have t_c4 := neI c4; have : ((-4) : Int32).toInt = -4 := qI_m4; have tnb_ := nib8 tn868_ tn869_ tn863_ tn864_ tn865_ tn866_ tn867_ tn870_; omega)) (by decide)) dX11_onward_34 ?_
      refine lv_cg (y := fbh (((10 * i) + 10) + w20)) (by rw [nI_clamp (by omega)]) ?_
      have hpost : True := by
        trivial
      refine W.widen (k := 0) (n := 0) (Nat.le_of_ble_eq_true rfl) (Nat.le_of_ble_eq_true rfl) ?_
      exact W.iret (v := fbh (((10 * i) + 10) + w20)) hx hb hr (fun t ht hW => ⟨⟨fbh (((10 * i) + 10) + w20), (), rfl, ⟨hpost, trivial⟩, trivial⟩, hS.F ht⟩) hS.2.2 dX11_onward_35
    · skip
      have t_w22 := w22
      have t_c4 := eqI c4
      have : ((-4) : Int32).toInt = -4 := qI_m4
      have t_n0 : (nI i).toInt = (i : Int) := tn868_ ()
      have t_n1 : (nI d).toInt = (d : Int) := tn869_ ()
      have t_n2 : (nI N).toInt = (N : Int) := tn863_ ()
      have t_n3 : (nI B).toInt = (B : Int) := tn864_ ()
      have t_n4 : (nI T).toInt = (T : Int) := tn865_ ()
      have t_n5 : (nI S).toInt = (S : Int) := tn866_ ()
      have t_n6 : (nI M).toInt = (M : Int) := tn867_ ()
      have tn871_ : nIT w20 := fun _ => nI_toInt (by omega)
      have t_n7 : (nI w20).toInt = (w20 : Int) := tn871_ ()
      exfalso; omega

set_option maxHeartbeats 1000000 in
set_option maxRecDepth 100000 in
theorem c_X11_layPaths (l : Launch) (dC : Nat → ClassId) (dI : Nat → Nat → Nat) (G : Nat → ClassId) (sz : Nat) (h0 st N B rp tp T cu lt od th be ln S ma M ah bh ik la lg ce : Nat) (vrs vrb vhs vca vxs vxb vfa vbr vba vsp vhe vtk vva vto : Int32) (fst : Nat → Int32) (fma : Nat → Int32) (fah : Nat → Int32) (fbh : Nat → Int32) (hN : N ≤ 10) (hB : B ≤ 6) (hT : T ≤ 320) (hS0 : S ≤ 8) (hM : M ≤ 6) (hst : OKS fst) : Met l yX11_layPaths (Cond.code yX11_layPaths cX11_layPaths 6 none :: GT) ({ frames := 5, cells := 0, slots := 0, locals := 121 } : Room) (PcW [.ref h0] dC dI G [(h0, .inr (11, [.ref st, .int (nI N), .int (nI B), .ref rp, .int vrs, .int vrb, .int vhs, .int vca, .int vxs, .int vxb, .ref tp, .int (nI T), .int vfa, .int vbr, .int vba, .int vsp, .int vhe, .int vtk, .int vva, .ref cu, .ref lt, .ref od, .ref th, .ref be, .ref ln, .int (nI S), .ref ma, .int (nI M), .ref ah, .ref bh, .ref ik, .ref la, .ref lg, .ref ce, .int vto])), (st, .inl (G 0, 196, .inl fst)), (ma, .inl (G 0, 12, .inl fma)), (ah, .inl (G 0, 110, .inl fah)), (bh, .inl (G 0, 110, .inl fbh))] sz) (va_Qv (fun (u : (Nat → Int32) × (Nat → Int32)) => match u with | (oah, obh) => True) (fun (u : (Nat → Int32) × (Nat → Int32)) (t : State) => match u with | (oah, obh) => va_P (dC, dI) vwCl [(h0, .inr (11, [.ref st, .int (nI N), .int (nI B), .ref rp, .int vrs, .int vrb, .int vhs, .int vca, .int vxs, .int vxb, .ref tp, .int (nI T), .int vfa, .int vbr, .int vba, .int vsp, .int vhe, .int vtk, .int vva, .ref cu, .ref lt, .ref od, .ref th, .ref be, .ref ln, .int (nI S), .ref ma, .int (nI M), .ref ah, .ref bh, .ref ik, .ref la, .ref lg, .ref ce, .int vto])), (st, .inl (G 0, 196, .inl fst)), (ma, .inl (G 0, 12, .inl fma)), (ah, .inl (G 0, 110, .inl oah)), (bh, .inl (G 0, 110, .inl obh))] t.heap ∧ va_D (va_A [(h0, .inr (11, [.ref st, .int (nI N), .int (nI B), .ref rp, .int vrs, .int vrb, .int vhs, .int vca, .int vxs, .int vxb, .ref tp, .int (nI T), .int vfa, .int vbr, .int vba, .int vsp, .int vhe, .int vtk, .int vva, .ref cu, .ref lt, .ref od, .ref th, .ref be, .ref ln, .int (nI S), .ref ma, .int (nI M), .ref ah, .ref bh, .ref ik, .ref la, .ref lg, .ref ce, .int vto])), (st, .inl (G 0, 196, .inl fst)), (ma, .inl (G 0, 12, .inl fma)), (ah, .inl (G 0, 110, .inl fah)), (bh, .inl (G 0, 110, .inl fbh))] sz) [(h0, .inr (11, [.ref st, .int (nI N), .int (nI B), .ref rp, .int vrs, .int vrb, .int vhs, .int vca, .int vxs, .int vxb, .ref tp, .int (nI T), .int vfa, .int vbr, .int vba, .int vsp, .int vhe, .int vtk, .int vva, .ref cu, .ref lt, .ref od, .ref th, .ref be, .ref ln, .int (nI S), .ref ma, .int (nI M), .ref ah, .ref bh, .ref ik, .ref la, .ref lg, .ref ce, .int vto])), (st, .inl (G 0, 196, .inl fst)), (ma, .inl (G 0, 12, .inl fma)), (ah, .inl (G 0, 110, .inl oah)), (bh, .inl (G 0, 110, .inl obh))]) (va_A [(h0, .inr (11, [.ref st, .int (nI N), .int (nI B), .ref rp, .int vrs, .int vrb, .int vhs, .int vca, .int vxs, .int vxb, .ref tp, .int (nI T), .int vfa, .int vbr, .int vba, .int vsp, .int vhe, .int vtk, .int vva, .ref cu, .ref lt, .ref od, .ref th, .ref be, .ref ln, .int (nI S), .ref ma, .int (nI M), .ref ah, .ref bh, .ref ik, .ref la, .ref lg, .ref ce, .int vto])), (st, .inl (G 0, 196, .inl fst)), (ma, .inl (G 0, 12, .inl fma)), (ah, .inl (G 0, 110, .inl fah)), (bh, .inl (G 0, 110, .inl fbh))] sz)) 0 0 (va_A [(h0, .inr (11, [.ref st, .int (nI N), .int (nI B), .ref rp, .int vrs, .int vrb, .int vhs, .int vca, .int vxs, .int vxb, .ref tp, .int (nI T), .int vfa, .int vbr, .int vba, .int vsp, .int vhe, .int vtk, .int vva, .ref cu, .ref lt, .ref od, .ref th, .ref be, .ref ln, .int (nI S), .ref ma, .int (nI M), .ref ah, .ref bh, .ref ik, .ref la, .ref lg, .ref ce, .int vto])), (st, .inl (G 0, 196, .inl fst)), (ma, .inl (G 0, 12, .inl fma)), (ah, .inl (G 0, 110, .inl fah)), (bh, .inl (G 0, 110, .inl fbh))] sz) := by
  have hB_ := hB
  have hM_ := hM
  have hT_ := hT
  have tn872_ : nIT N := fun _ => nI_toInt (by omega)
  have tn873_ : nIT B := fun _ => nI_toInt (by omega)
  have tn874_ : nIT T := fun _ => nI_toInt (by omega)
  have tn875_ : nIT S := fun _ => nI_toInt (by omega)
  have tn876_ : nIT M := fun _ => nI_toInt (by omega)
  refine Met.ofW (cc := cX11_layPaths) (maxL := 6) (ret := none) (by decide) rfl ?_
  intro p e s m args below meth c s₁ Bd hml hv
  obtain ⟨rfl, hsz, hP, hK, hD0⟩ := hv
  have hx := Bd.exec
  have hb := Bd.bytes
  have hr := Bd.returns
  have hg : ∀ w ∈ GT, w.before ([.ref h0] : List Value).toArray s = true := fun w h => atoms_spec (ws := Cond.code yX11_layPaths cX11_layPaths 6 none :: GT) Bd.pre w (List.mem_cons_of_mem _ h)
  have hown : s.vm.findClass RX11 = some m.cls := findClass_of_methodNamed Bd.named
  have hlocks := Bd.notSynchronized
  subst hsz
  have hD := hD0.self (sz := s.heap.size)
  generalize hAe : va_A [(h0, .inr (11, [.ref st, .int (nI N), .int (nI B), .ref rp, .int vrs, .int vrb, .int vhs, .int vca, .int vxs, .int vxb, .ref tp, .int (nI T), .int vfa, .int vbr, .int vba, .int vsp, .int vhe, .int vtk, .int vva, .ref cu, .ref lt, .ref od, .ref th, .ref be, .ref ln, .int (nI S), .ref ma, .int (nI M), .ref ah, .ref bh, .ref ik, .ref la, .ref lg, .ref ce, .int vto])), (st, .inl (G 0, 196, .inl fst)), (ma, .inl (G 0, 12, .inl fma)), (ah, .inl (G 0, 110, .inl fah)), (bh, .inl (G 0, 110, .inl fbh))] s.heap.size = A at hD ⊢
  have hA : ∀ q : Nat, s.heap.size ≤ q → A q := fun q h => by rw [← hAe]; exact Or.inr h
  have hS : va_S A s.heap s.heap [] := va_S.rf
  have hl := lv_entry ([.ref h0]) (n := 6) (Nat.le_of_ble_eq_true rfl)
  rw [lg_entry_eq]
  generalize (lg_sl ([.ref h0]) ++ List.replicate (6 - (lg_sl ([.ref h0])).length) Slot.unset).toArray = ls at hl ⊢
  have hl : lv_has ls 6 [(0, .ref h0)] := hl
  refine lv_iconst (v := 0) hx hb dX11_layPaths_0 rfl ?_
  refine lv_istore_n (lv' := [(1, .int 0), (0, .ref h0)]) hx hb dX11_layPaths_1 rfl hl (by decide) rfl (fun ls hl => ?_)
  have loop2_4 : ∀ (nf j1 : Nat), 110 + 1 ≤ j1 + nf → j1 ≤ 110 → ∀ (g2 : Nat → Int32) (g3 : Nat → Int32) (H : Heap) (locs : List Loc), va_P (dC, dI) vwCl [(h0, .inr (11, [.ref st, .int (nI N), .int (nI B), .ref rp, .int vrs, .int vrb, .int vhs, .int vca, .int vxs, .int vxb, .ref tp, .int (nI T), .int vfa, .int vbr, .int vba, .int vsp, .int vhe, .int vtk, .int vva, .ref cu, .ref lt, .ref od, .ref th, .ref be, .ref ln, .int (nI S), .ref ma, .int (nI M), .ref ah, .ref bh, .ref ik, .ref la, .ref lg, .ref ce, .int vto])), (st, .inl (G 0, 196, .inl fst)), (ma, .inl (G 0, 12, .inl fma)), (ah, .inl (G 0, 110, .inl g2)), (bh, .inl (G 0, 110, .inl g3))] H → va_D A [(h0, .inr (11, [.ref st, .int (nI N), .int (nI B), .ref rp, .int vrs, .int vrb, .int vhs, .int vca, .int vxs, .int vxb, .ref tp, .int (nI T), .int vfa, .int vbr, .int vba, .int vsp, .int vhe, .int vtk, .int vva, .ref cu, .ref lt, .ref od, .ref th, .ref be, .ref ln, .int (nI S), .ref ma, .int (nI M), .ref ah, .ref bh, .ref ik, .ref la, .ref lg, .ref ce, .int vto])), (st, .inl (G 0, 196, .inl fst)), (ma, .inl (G 0, 12, .inl fma)), (ah, .inl (G 0, 110, .inl g2)), (bh, .inl (G 0, 110, .inl g3))] → va_S A s.heap H locs → ∀ (ls : Array Slot), lv_has ls 6 [(1, .int (nI j1)), (0, .ref h0)] → W p l e (headSpec (Cond.code yX11_layPaths cX11_layPaths 6 none :: GT) ({ frames := 5, cells := 0, slots := 0, locals := 121 } : Room)).room s m ([.ref h0] : List Value).toArray below meth c H locs 0 0 (MQ below (va_Qv (fun (u : (Nat → Int32) × (Nat → Int32)) => match u with | (oah, obh) => True) (fun (u : (Nat → Int32) × (Nat → Int32)) (t : State) => match u with | (oah, obh) => va_P (dC, dI) vwCl [(h0, .inr (11, [.ref st, .int (nI N), .int (nI B), .ref rp, .int vrs, .int vrb, .int vhs, .int vca, .int vxs, .int vxb, .ref tp, .int (nI T), .int vfa, .int vbr, .int vba, .int vsp, .int vhe, .int vtk, .int vva, .ref cu, .ref lt, .ref od, .ref th, .ref be, .ref ln, .int (nI S), .ref ma, .int (nI M), .ref ah, .ref bh, .ref ik, .ref la, .ref lg, .ref ce, .int vto])), (st, .inl (G 0, 196, .inl fst)), (ma, .inl (G 0, 12, .inl fma)), (ah, .inl (G 0, 110, .inl oah)), (bh, .inl (G 0, 110, .inl obh))] t.heap ∧ va_D A [(h0, .inr (11, [.ref st, .int (nI N), .int (nI B), .ref rp, .int vrs, .int vrb, .int vhs, .int vca, .int vxs, .int vxb, .ref tp, .int (nI T), .int vfa, .int vbr, .int vba, .int vsp, .int vhe, .int vtk, .int vva, .ref cu, .ref lt, .ref od, .ref th, .ref be, .ref ln, .int (nI S), .ref ma, .int (nI M), .ref ah, .ref bh, .ref ik, .ref la, .ref lg, .ref ce, .int vto])), (st, .inl (G 0, 196, .inl fst)), (ma, .inl (G 0, 12, .inl fma)), (ah, .inl (G 0, 110, .inl oah)), (bh, .inl (G 0, 110, .inl obh))]) A) ([.ref h0] : List Value).toArray s 0 0 A) (F0 m 2 ls []) := by
    intro nf
    induction nf with
    | zero => intro j1 h1 h2; exact absurd h1 (by omega)
    | succ nf ih2_4 =>
      intro j1 hn5 hj6 g2 g3 H locs hP hD hS ls hl
      refine lv_iload_n hx hb dX11_layPaths_2 rfl (lv_at hl 0 rfl) ?_
      refine lv_bipush (v := 110) hx hb dX11_layPaths_3 rfl ?_
      refine lv_icmp_ge (tgt := 55) hx hb dX11_layPaths_5 rfl (fun c7 => ?_) (fun c7 => ?_)
      · skip
        have tn877_ : nIT j1 := fun _ => nI_toInt (by first | omega | (have t := leI c7; omega))
        have n8 : 110 ≤ j1 := by have t := leI c7; rw [show (nI (j1)).toInt = ((j1 : Nat) : Int) from tn877_ ()] at t; have : (110 : Int32).toInt = 110 := qI_110; omega
        refine lv_iconst (v := 0) hx hb dX11_layPaths_55 rfl ?_
        refine lv_istore_n (lv' := [(1, .int 0), (0, .ref h0)]) hx hb dX11_layPaths_56 rfl hl (by decide) rfl (fun ls hl => ?_)
        have loop57_11 : ∀ (nf j9 : Nat), N + 1 ≤ j9 + nf → j9 ≤ N → ∀ (g10 : Nat → Int32) (H : Heap) (locs : List Loc), va_P (dC, dI) vwCl [(h0, .inr (11, [.ref st, .int (nI N), .int (nI B), .ref rp, .int vrs, .int vrb, .int vhs, .int vca, .int vxs, .int vxb, .ref tp, .int (nI T), .int vfa, .int vbr, .int vba, .int vsp, .int vhe, .int vtk, .int vva, .ref cu, .ref lt, .ref od, .ref th, .ref be, .ref ln, .int (nI S), .ref ma, .int (nI M), .ref ah, .ref bh, .ref ik, .ref la, .ref lg, .ref ce, .int vto])), (st, .inl (G 0, 196, .inl fst)), (ma, .inl (G 0, 12, .inl fma)), (ah, .inl (G 0, 110, .inl g10)), (bh, .inl (G 0, 110, .inl g3))] H → va_D A [(h0, .inr (11, [.ref st, .int (nI N), .int (nI B), .ref rp, .int vrs, .int vrb, .int vhs, .int vca, .int vxs, .int vxb, .ref tp, .int (nI T), .int vfa, .int vbr, .int vba, .int vsp, .int vhe, .int vtk, .int vva, .ref cu, .ref lt, .ref od, .ref th, .ref be, .ref ln, .int (nI S), .ref ma, .int (nI M), .ref ah, .ref bh, .ref ik, .ref la, .ref lg, .ref ce, .int vto])), (st, .inl (G 0, 196, .inl fst)), (ma, .inl (G 0, 12, .inl fma)), (ah, .inl (G 0, 110, .inl g10)), (bh, .inl (G 0, 110, .inl g3))] → va_S A s.heap H locs → ∀ (ls : Array Slot), lv_has ls 6 [(1, .int (nI j9)), (0, .ref h0)] → W p l e (headSpec (Cond.code yX11_layPaths cX11_layPaths 6 none :: GT) ({ frames := 5, cells := 0, slots := 0, locals := 121 } : Room)).room s m ([.ref h0] : List Value).toArray below meth c H locs 0 0 (MQ below (va_Qv (fun (u : (Nat → Int32) × (Nat → Int32)) => match u with | (oah, obh) => True) (fun (u : (Nat → Int32) × (Nat → Int32)) (t : State) => match u with | (oah, obh) => va_P (dC, dI) vwCl [(h0, .inr (11, [.ref st, .int (nI N), .int (nI B), .ref rp, .int vrs, .int vrb, .int vhs, .int vca, .int vxs, .int vxb, .ref tp, .int (nI T), .int vfa, .int vbr, .int vba, .int vsp, .int vhe, .int vtk, .int vva, .ref cu, .ref lt, .ref od, .ref th, .ref be, .ref ln, .int (nI S), .ref ma, .int (nI M), .ref ah, .ref bh, .ref ik, .ref la, .ref lg, .ref ce, .int vto])), (st, .inl (G 0, 196, .inl fst)), (ma, .inl (G 0, 12, .inl fma)), (ah, .inl (G 0, 110, .inl oah)), (bh, .inl (G 0, 110, .inl obh))] t.heap ∧ va_D A [(h0, .inr (11, [.ref st, .int (nI N), .int (nI B), .ref rp, .int vrs, .int vrb, .int vhs, .int vca, .int vxs, .int vxb, .ref tp, .int (nI T), .int vfa, .int vbr, .int vba, .int vsp, .int vhe, .int vtk, .int vva, .ref cu, .ref lt, .ref od, .ref th, .ref be, .ref ln, .int (nI S), .ref ma, .int (nI M), .ref ah, .ref bh, .ref ik, .ref la, .ref lg, .ref ce, .int vto])), (st, .inl (G 0, 196, .inl fst)), (ma, .inl (G 0, 12, .inl fma)), (ah, .inl (G 0, 110, .inl oah)), (bh, .inl (G 0, 110, .inl obh))]) A) ([.ref h0] : List Value).toArray s 0 0 A) (F0 m 57 ls []) := by
          intro nf
          induction nf with
          | zero => intro j9 h1 h2; exact absurd h1 (by omega)
          | succ nf ih57_11 =>
            intro j9 hn12 hj13 g10 H locs hP hD hS ls hl
            refine lv_iload_n hx hb dX11_layPaths_57 rfl (lv_at hl 0 rfl) ?_
            refine lv_aload_n hx hb dX11_layPaths_58 rfl (lv_at hl 1 rfl) ?_
            refine va_get (D := (dC, dI)) (ci := 11) (v := .int (nI N)) (C := RX11) (T := TX11) (N := 35) hx hb hg inG11 hown hK.1 hP 0 rfl rfl 1 (Nat.le_of_ble_eq_true rfl) (hg _ wt_879) (fun _ h9 => h9) rfl dX11_layPaths_59 ?_
            refine lv_icmp_ge (tgt := 196) hx hb dX11_layPaths_62 rfl (fun c14 => ?_) (fun c14 => ?_)
            · skip
              have tn878_ : nIT j9 := fun _ => nI_toInt (by first | omega | (have t := leI c14; omega))
              have n15 : N ≤ j9 := by have t := leI c14; rw [show (nI (j9)).toInt = ((j9 : Nat) : Int) from tn878_ ()] at t; rw [show (nI (N)).toInt = ((N : Nat) : Int) from tn872_ ()] at t; omega
              refine lv_aload_n hx hb dX11_layPaths_196 rfl (lv_at hl 1 rfl) ?_
              refine va_get (D := (dC, dI)) (ci := 11) (v := .int (nI N)) (C := RX11) (T := TX11) (N := 35) hx hb hg inG11 hown hK.1 hP 0 rfl rfl 1 (Nat.le_of_ble_eq_true rfl) (hg _ wt_879) (fun _ h9 => h9) rfl dX11_layPaths_197 ?_
              refine lv_iconst (v := 1) hx hb dX11_layPaths_200 rfl ?_
              refine lv_isub hx hb dX11_layPaths_201 ?_
              refine lv_istore_n (lv' := [(1, .int ((nI N) - 1)), (0, .ref h0)]) hx hb dX11_layPaths_202 rfl hl (by decide) rfl (fun ls hl => ?_)
              rw [dn_sub] at hl
              have loop203_18 : ∀ (j16 : Nat), j16 ≤ N → ∀ (g17 : Nat → Int32) (H : Heap) (locs : List Loc), va_P (dC, dI) vwCl [(h0, .inr (11, [.ref st, .int (nI N), .int (nI B), .ref rp, .int vrs, .int vrb, .int vhs, .int vca, .int vxs, .int vxb, .ref tp, .int (nI T), .int vfa, .int vbr, .int vba, .int vsp, .int vhe, .int vtk, .int vva, .ref cu, .ref lt, .ref od, .ref th, .ref be, .ref ln, .int (nI S), .ref ma, .int (nI M), .ref ah, .ref bh, .ref ik, .ref la, .ref lg, .ref ce, .int vto])), (st, .inl (G 0, 196, .inl fst)), (ma, .inl (G 0, 12, .inl fma)), (ah, .inl (G 0, 110, .inl g10)), (bh, .inl (G 0, 110, .inl g17))] H → va_D A [(h0, .inr (11, [.ref st, .int (nI N), .int (nI B), .ref rp, .int vrs, .int vrb, .int vhs, .int vca, .int vxs, .int vxb, .ref tp, .int (nI T), .int vfa, .int vbr, .int vba, .int vsp, .int vhe, .int vtk, .int vva, .ref cu, .ref lt, .ref od, .ref th, .ref be, .ref ln, .int (nI S), .ref ma, .int (nI M), .ref ah, .ref bh, .ref ik, .ref la, .ref lg, .ref ce, .int vto])), (st, .inl (G 0, 196, .inl fst)), (ma, .inl (G 0, 12, .inl fma)), (ah, .inl (G 0, 110, .inl g10)), (bh, .inl (G 0, 110, .inl g17))] → va_S A s.heap H locs → ∀ (ls : Array Slot), lv_has ls 6 [(1, .int (dn j16)), (0, .ref h0)] → W p l e (headSpec (Cond.code yX11_layPaths cX11_layPaths 6 none :: GT) ({ frames := 5, cells := 0, slots := 0, locals := 121 } : Room)).room s m ([.ref h0] : List Value).toArray below meth c H locs 0 0 (MQ below (va_Qv (fun (u : (Nat → Int32) × (Nat → Int32)) => match u with | (oah, obh) => True) (fun (u : (Nat → Int32) × (Nat → Int32)) (t : State) => match u with | (oah, obh) => va_P (dC, dI) vwCl [(h0, .inr (11, [.ref st, .int (nI N), .int (nI B), .ref rp, .int vrs, .int vrb, .int vhs, .int vca, .int vxs, .int vxb, .ref tp, .int (nI T), .int vfa, .int vbr, .int vba, .int vsp, .int vhe, .int vtk, .int vva, .ref cu, .ref lt, .ref od, .ref th, .ref be, .ref ln, .int (nI S), .ref ma, .int (nI M), .ref ah, .ref bh, .ref ik, .ref la, .ref lg, .ref ce, .int vto])), (st, .inl (G 0, 196, .inl fst)), (ma, .inl (G 0, 12, .inl fma)), (ah, .inl (G 0, 110, .inl oah)), (bh, .inl (G 0, 110, .inl obh))] t.heap ∧ va_D A [(h0, .inr (11, [.ref st, .int (nI N), .int (nI B), .ref rp, .int vrs, .int vrb, .int vhs, .int vca, .int vxs, .int vxb, .ref tp, .int (nI T), .int vfa, .int vbr, .int vba, .int vsp, .int vhe, .int vtk, .int vva, .ref cu, .ref lt, .ref od, .ref th, .ref be, .ref ln, .int (nI S), .ref ma, .int (nI M), .ref ah, .ref bh, .ref ik, .ref la, .ref lg, .ref ce, .int vto])), (st, .inl (G 0, 196, .inl fst)), (ma, .inl (G 0, 12, .inl fma)), (ah, .inl (G 0, 110, .inl oah)), (bh, .inl (G 0, 110, .inl obh))]) A) ([.ref h0] : List Value).toArray s 0 0 A) (F0 m 203 ls []) := by
                intro j16
                induction j16 with
                | zero =>
                  intro hj19 g17 H locs hP hD hS ls hl
                  have hl : lv_has ls 6 [(1, .int (-1)), (0, .ref h0)] := hl
                  refine lv_iload_n hx hb dX11_layPaths_203 rfl (lv_at hl 0 rfl) ?_
                  refine lv_if_lt (tgt := 281) hx hb dX11_layPaths_204 rfl (fun c20 => ?_) (fun c20 => ?_)
                  · skip
                    obtain ⟨hP9, hD9⟩ := va_sub2 (ws' := [(h0, .inr (11, [.ref st, .int (nI N), .int (nI B), .ref rp, .int vrs, .int vrb, .int vhs, .int vca, .int vxs, .int vxb, .ref tp, .int (nI T), .int vfa, .int vbr, .int vba, .int vsp, .int vhe, .int vtk, .int vva, .ref cu, .ref lt, .ref od, .ref th, .ref be, .ref ln, .int (nI S), .ref ma, .int (nI M), .ref ah, .ref bh, .ref ik, .ref la, .ref lg, .ref ce, .int vto])), (st, .inl (G 0, 196, .inl fst)), (ma, .inl (G 0, 12, .inl fma)), (ah, .inl (G 0, 110, .inl g10)), (bh, .inl (G 0, 110, .inl g17))]) hP hD [0, 1, 2, 3, 4] (by decide +kernel) rfl
                    refine W.widen (k := 0) (n := 0) (Nat.le_of_ble_eq_true rfl) (Nat.le_of_ble_eq_true rfl) ?_
                    exact W.vret hx hb hr (fun t ht hW => ⟨⟨(g10, g17), rfl, trivial, ⟨by rw [ht]; exact hP9, hD9⟩⟩, hS.F ht⟩) hS.2.2 dX11_layPaths_281
                  · skip
                    exact absurd c20 (by decide)
                | succ j16 ih203_18 =>
                  intro hj19 g17 H locs hP hD hS ls hl
                  have hl : lv_has ls 6 [(1, .int (nI j16)), (0, .ref h0)] := hl
                  refine lv_iload_n hx hb dX11_layPaths_203 rfl (lv_at hl 0 rfl) ?_
                  refine lv_if_lt (tgt := 281) hx hb dX11_layPaths_204 rfl (fun c21 => ?_) (fun c21 => ?_)
                  · skip
                    have t_hj6 := hj6
                    have t_n8 := n8
                    have t_hj13 := hj13
                    have t_n15 := n15
                    have t_hj19 := hj19
                    have t_c21 := ltI c21
                    have : (0 : Int32).toInt = 0 := qI_0
                    have t_n0 : (nI N).toInt = (N : Int) := tn872_ ()
                    have t_n1 : (nI B).toInt = (B : Int) := tn873_ ()
                    have t_n2 : (nI T).toInt = (T : Int) := tn874_ ()
                    have t_n3 : (nI S).toInt = (S : Int) := tn875_ ()
                    have t_n4 : (nI M).toInt = (M : Int) := tn876_ ()
                    have t_n5 : (nI j1).toInt = (j1 : Int) := tn877_ ()
                    have t_n6 : (nI j9).toInt = (j9 : Int) := tn878_ ()
                    have tn879_ : nIT j16 := fun _ => nI_toInt (by omega)
                    have t_n7 : (nI j16).toInt = (j16 : Int) := tn879_ ()
                    exfalso; omega
                  · skip
                    have tn880_ : nIT j16 := fun _ => nI_toInt (by first | omega | (have t := nltI c21; omega))
                    have n22 : 0 ≤ j16 := by have t := nltI c21; rw [show (nI (j16)).toInt = ((j16 : Nat) : Int) from tn880_ ()] at t; have : (0 : Int32).toInt = 0 := qI_0; omega
                    refine lv_iconst (v := 0) hx hb dX11_layPaths_207 rfl ?_
                    refine lv_istore_n (lv' := [(2, .int 0), (1, .int (nI j16)), (0, .ref h0)]) hx hb dX11_layPaths_208 rfl hl (by decide) rfl (fun ls hl => ?_)
                    have loop209_25 : ∀ (nf j23 : Nat), 10 + 1 ≤ j23 + nf → j23 ≤ 10 → ∀ (g24 : Nat → Int32) (H : Heap) (locs : List Loc), va_P (dC, dI) vwCl [(h0, .inr (11, [.ref st, .int (nI N), .int (nI B), .ref rp, .int vrs, .int vrb, .int vhs, .int vca, .int vxs, .int vxb, .ref tp, .int (nI T), .int vfa, .int vbr, .int vba, .int vsp, .int vhe, .int vtk, .int vva, .ref cu, .ref lt, .ref od, .ref th, .ref be, .ref ln, .int (nI S), .ref ma, .int (nI M), .ref ah, .ref bh, .ref ik, .ref la, .ref lg, .ref ce, .int vto])), (st, .inl (G 0, 196, .inl fst)), (ma, .inl (G 0, 12, .inl fma)), (ah, .inl (G 0, 110, .inl g10)), (bh, .inl (G 0, 110, .inl g24))] H → va_D A [(h0, .inr (11, [.ref st, .int (nI N), .int (nI B), .ref rp, .int vrs, .int vrb, .int vhs, .int vca, .int vxs, .int vxb, .ref tp, .int (nI T), .int vfa, .int vbr, .int vba, .int vsp, .int vhe, .int vtk, .int vva, .ref cu, .ref lt, .ref od, .ref th, .ref be, .ref ln, .int (nI S), .ref ma, .int (nI M), .ref ah, .ref bh, .ref ik, .ref la, .ref lg, .ref ce, .int vto])), (st, .inl (G 0, 196, .inl fst)), (ma, .inl (G 0, 12, .inl fma)), (ah, .inl (G 0, 110, .inl g10)), (bh, .inl (G 0, 110, .inl g24))] → va_S A s.heap H locs → ∀ (ls : Array Slot), lv_has ls 6 [(2, .int (nI j23)), (1, .int (nI j16)), (0, .ref h0)] → W p l e (headSpec (Cond.code yX11_layPaths cX11_layPaths 6 none :: GT) ({ frames := 5, cells := 0, slots := 0, locals := 121 } : Room)).room s m ([.ref h0] : List Value).toArray below meth c H locs 0 0 (MQ below (va_Qv (fun (u : (Nat → Int32) × (Nat → Int32)) => match u with | (oah, obh) => True) (fun (u : (Nat → Int32) × (Nat → Int32)) (t : State) => match u with | (oah, obh) => va_P (dC, dI) vwCl [(h0, .inr (11, [.ref st, .int (nI N), .int (nI B), .ref rp, .int vrs, .int vrb, .int vhs, .int vca, .int vxs, .int vxb, .ref tp, .int (nI T), .int vfa, .int vbr, .int vba, .int vsp, .int vhe, .int vtk, .int vva, .ref cu, .ref lt, .ref od, .ref th, .ref be, .ref ln, .int (nI S), .ref ma, .int (nI M), .ref ah, .ref bh, .ref ik, .ref la, .ref lg, .ref ce, .int vto])), (st, .inl (G 0, 196, .inl fst)), (ma, .inl (G 0, 12, .inl fma)), (ah, .inl (G 0, 110, .inl oah)), (bh, .inl (G 0, 110, .inl obh))] t.heap ∧ va_D A [(h0, .inr (11, [.ref st, .int (nI N), .int (nI B), .ref rp, .int vrs, .int vrb, .int vhs, .int vca, .int vxs, .int vxb, .ref tp, .int (nI T), .int vfa, .int vbr, .int vba, .int vsp, .int vhe, .int vtk, .int vva, .ref cu, .ref lt, .ref od, .ref th, .ref be, .ref ln, .int (nI S), .ref ma, .int (nI M), .ref ah, .ref bh, .ref ik, .ref la, .ref lg, .ref ce, .int vto])), (st, .inl (G 0, 196, .inl fst)), (ma, .inl (G 0, 12, .inl fma)), (ah, .inl (G 0, 110, .inl oah)), (bh, .inl (G 0, 110, .inl obh))]) A) ([.ref h0] : List Value).toArray s 0 0 A) (F0 m 209 ls []) := by
                      intro nf
                      induction nf with
                      | zero => intro j23 h1 h2; exact absurd h1 (by omega)
                      | succ nf ih209_25 =>
                        intro j23 hn26 hj27 g24 H locs hP hD hS ls hl
                        refine lv_iload_n hx hb dX11_layPaths_209 rfl (lv_at hl 0 rfl) ?_
                        refine lv_bipush (v := 10) hx hb dX11_layPaths_210 rfl ?_
                        refine lv_icmp_ge (tgt := 275) hx hb dX11_layPaths_212 rfl (fun c28 => ?_) (fun c28 => ?_)
                        · skip
                          have tn881_ : nIT j23 := fun _ => nI_toInt (by first | omega | (have t := leI c28; omega))
                          have n29 : 10 ≤ j23 := by have t := leI c28; rw [show (nI (j23)).toInt = ((j23 : Nat) : Int) from tn881_ ()] at t; have : (10 : Int32).toInt = 10 := qI_10; omega
                          refine lv_iinc (v := dn j16) (lv' := [(1, .int (dn j16)), (2, .int (nI j23)), (0, .ref h0)]) hx hb dX11_layPaths_275 hl (k := 1) rfl (by exact dn_pred _) (by decide) rfl (fun ls hl => ?_)
                          refine lv_goto (tgt := 203) hx hb dX11_layPaths_278 rfl ?_
                          exact ih203_18 (by omega) g24 _ _ hP hD hS ls (lv_sub hl [0, 2] rfl)
                        · skip
                          have tn882_ : nIT j23 := fun _ => nI_toInt (by first | omega | (have t := nleI c28; omega))
                          have n30 : j23 < 10 := by have t := nleI c28; rw [show (nI (j23)).toInt = ((j23 : Nat) : Int) from tn882_ ()] at t; have : (10 : Int32).toInt = 10 := qI_10; omega
                          refine lv_aload_n hx hb dX11_layPaths_215 rfl (lv_at hl 2 rfl) ?_
                          refine va_get (D := (dC, dI)) (ci := 11) (v := .ref bh) (C := RX11) (T := TX11) (N := 35) hx hb hg inG11 hown hK.1 hP 0 rfl rfl 29 (Nat.le_of_ble_eq_true rfl) (hg _ wt_907) (fun _ h9 => h9) rfl dX11_layPaths_216 ?_
                          refine lv_bipush (v := 10) hx hb dX11_layPaths_219 rfl ?_
                          refine lv_iload_n hx hb dX11_layPaths_221 rfl (lv_at hl 1 rfl) ?_
                          refine lv_imul hx hb dX11_layPaths_222 ?_
                          refine lv_cg (y := nI (10 * j16)) (by rw [show (10 : Int32) = nI 10 from rfl]; exact pk_mul _ _) ?_
                          refine lv_iload_n hx hb dX11_layPaths_223 rfl (lv_at hl 0 rfl) ?_
                          refine lv_iadd hx hb dX11_layPaths_224 ?_
                          refine lv_cg (y := nI ((10 * j16) + j23)) (by exact nI_add _ _) ?_
                          refine lv_iload_n hx hb dX11_layPaths_225 rfl (lv_at hl 0 rfl) ?_
                          have cut268_32 : ∀ (y31 : Int32) (H : Heap) (locs : List Loc), va_P (dC, dI) vwCl [(h0, .inr (11, [.ref st, .int (nI N), .int (nI B), .ref rp, .int vrs, .int vrb, .int vhs, .int vca, .int vxs, .int vxb, .ref tp, .int (nI T), .int vfa, .int vbr, .int vba, .int vsp, .int vhe, .int vtk, .int vva, .ref cu, .ref lt, .ref od, .ref th, .ref be, .ref ln, .int (nI S), .ref ma, .int (nI M), .ref ah, .ref bh, .ref ik, .ref la, .ref lg, .ref ce, .int vto])), (st, .inl (G 0, 196, .inl fst)), (ma, .inl (G 0, 12, .inl fma)), (ah, .inl (G 0, 110, .inl g10)), (bh, .inl (G 0, 110, .inl g24))] H → va_D A [(h0, .inr (11, [.ref st, .int (nI N), .int (nI B), .ref rp, .int vrs, .int vrb, .int vhs, .int vca, .int vxs, .int vxb, .ref tp, .int (nI T), .int vfa, .int vbr, .int vba, .int vsp, .int vhe, .int vtk, .int vva, .ref cu, .ref lt, .ref od, .ref th, .ref be, .ref ln, .int (nI S), .ref ma, .int (nI M), .ref ah, .ref bh, .ref ik, .ref la, .ref lg, .ref ce, .int vto])), (st, .inl (G 0, 196, .inl fst)), (ma, .inl (G 0, 12, .inl fma)), (ah, .inl (G 0, 110, .inl g10)), (bh, .inl (G 0, 110, .inl g24))] → va_S A s.heap H locs → ∀ (ls : Array Slot), lv_has ls 6 [(2, .int (nI j23)), (1, .int (nI j16)), (0, .ref h0)] → W p l e (headSpec (Cond.code yX11_layPaths cX11_layPaths 6 none :: GT) ({ frames := 5, cells := 0, slots := 0, locals := 121 } : Room)).room s m ([.ref h0] : List Value).toArray below meth c H locs 0 0 (MQ below (va_Qv (fun (u : (Nat → Int32) × (Nat → Int32)) => match u with | (oah, obh) => True) (fun (u : (Nat → Int32) × (Nat → Int32)) (t : State) => match u with | (oah, obh) => va_P (dC, dI) vwCl [(h0, .inr (11, [.ref st, .int (nI N), .int (nI B), .ref rp, .int vrs, .int vrb, .int vhs, .int vca, .int vxs, .int vxb, .ref tp, .int (nI T), .int vfa, .int vbr, .int vba, .int vsp, .int vhe, .int vtk, .int vva, .ref cu, .ref lt, .ref od, .ref th, .ref be, .ref ln, .int (nI S), .ref ma, .int (nI M), .ref ah, .ref bh, .ref ik, .ref la, .ref lg, .ref ce, .int vto])), (st, .inl (G 0, 196, .inl fst)), (ma, .inl (G 0, 12, .inl fma)), (ah, .inl (G 0, 110, .inl oah)), (bh, .inl (G 0, 110, .inl obh))] t.heap ∧ va_D A [(h0, .inr (11, [.ref st, .int (nI N), .int (nI B), .ref rp, .int vrs, .int vrb, .int vhs, .int vca, .int vxs, .int vxb, .ref tp, .int (nI T), .int vfa, .int vbr, .int vba, .int vsp, .int vhe, .int vtk, .int vva, .ref cu, .ref lt, .ref od, .ref th, .ref be, .ref ln, .int (nI S), .ref ma, .int (nI M), .ref ah, .ref bh, .ref ik, .ref la, .ref lg, .ref ce, .int vto])), (st, .inl (G 0, 196, .inl fst)), (ma, .inl (G 0, 12, .inl fma)), (ah, .inl (G 0, 110, .inl oah)), (bh, .inl (G 0, 110, .inl obh))]) A) ([.ref h0] : List Value).toArray s 0 0 A) (F0 m 268 ls [.int y31, .int (nI ((10 * j16) + j23)), .ref bh]) := by
                            intro y31 H locs hP hD hS ls hl
                            refine va_iast hx hb hK.1 hP hD hS 4 0 rfl rfl (vp_in_nI (by first | omega | (have t_hj6 := hj6; have t_n8 := n8; have t_hj13 := hj13; have t_n15 := n15; have t_hj19 := hj19; have t_n22 := n22; have t_hj27 := hj27; have t_n30 := n30; have tnb_ := nib9 tn872_ tn873_ tn874_ tn875_ tn876_ tn877_ tn878_ tn880_ tn882_; omega)) (by decide)) dX11_layPaths_268 (fun H locs hP hD hS => ?_)
                            rw [nI_clamp (by omega)] at hP hD
                            refine lv_iinc (v := nI (j23 + 1)) (lv' := [(2, .int (nI (j23 + 1))), (1, .int (nI j16)), (0, .ref h0)]) hx hb dX11_layPaths_269 hl (k := 0) rfl (by rw [show Int32.ofInt 1 = nI 1 from by decide]; exact nI_add _ _) (by decide) rfl (fun ls hl => ?_)
                            refine lv_goto (tgt := 209) hx hb dX11_layPaths_272 rfl ?_
                            exact ih209_25 (j23 + 1) (by omega) (by omega) (upd g24 ((10 * j16) + j23) y31) _ _ hP hD hS ls (lv_sub hl [0, 1, 2] rfl)
                          have cut253_33 : ∀ (H : Heap) (locs : List Loc), va_P (dC, dI) vwCl [(h0, .inr (11, [.ref st, .int (nI N), .int (nI B), .ref rp, .int vrs, .int vrb, .int vhs, .int vca, .int vxs, .int vxb, .ref tp, .int (nI T), .int vfa, .int vbr, .int vba, .int vsp, .int vhe, .int vtk, .int vva, .ref cu, .ref lt, .ref od, .ref th, .ref be, .ref ln, .int (nI S), .ref ma, .int (nI M), .ref ah, .ref bh, .ref ik, .ref la, .ref lg, .ref ce, .int vto])), (st, .inl (G 0, 196, .inl fst)), (ma, .inl (G 0, 12, .inl fma)), (ah, .inl (G 0, 110, .inl g10)), (bh, .inl (G 0, 110, .inl g24))] H → va_D A [(h0, .inr (11, [.ref st, .int (nI N), .int (nI B), .ref rp, .int vrs, .int vrb, .int vhs, .int vca, .int vxs, .int vxb, .ref tp, .int (nI T), .int vfa, .int vbr, .int vba, .int vsp, .int vhe, .int vtk, .int vva, .ref cu, .ref lt, .ref od, .ref th, .ref be, .ref ln, .int (nI S), .ref ma, .int (nI M), .ref ah, .ref bh, .ref ik, .ref la, .ref lg, .ref ce, .int vto])), (st, .inl (G 0, 196, .inl fst)), (ma, .inl (G 0, 12, .inl fma)), (ah, .inl (G 0, 110, .inl g10)), (bh, .inl (G 0, 110, .inl g24))] → va_S A s.heap H locs → ∀ (ls : Array Slot), lv_has ls 6 [(2, .int (nI j23)), (1, .int (nI j16)), (0, .ref h0)] → W p l e (headSpec (Cond.code yX11_layPaths cX11_layPaths 6 none :: GT) ({ frames := 5, cells := 0, slots := 0, locals := 121 } : Room)).room s m ([.ref h0] : List Value).toArray below meth c H locs 0 0 (MQ below (va_Qv (fun (u : (Nat → Int32) × (Nat → Int32)) => match u with | (oah, obh) => True) (fun (u : (Nat → Int32) × (Nat → Int32)) (t : State) => match u with | (oah, obh) => va_P (dC, dI) vwCl [(h0, .inr (11, [.ref st, .int (nI N), .int (nI B), .ref rp, .int vrs, .int vrb, .int vhs, .int vca, .int vxs, .int vxb, .ref tp, .int (nI T), .int vfa, .int vbr, .int vba, .int vsp, .int vhe, .int vtk, .int vva, .ref cu, .ref lt, .ref od, .ref th, .ref be, .ref ln, .int (nI S), .ref ma, .int (nI M), .ref ah, .ref bh, .ref ik, .ref la, .ref lg, .ref ce, .int vto])), (st, .inl (G 0, 196, .inl fst)), (ma, .inl (G 0, 12, .inl fma)), (ah, .inl (G 0, 110, .inl oah)), (bh, .inl (G 0, 110, .inl obh))] t.heap ∧ va_D A [(h0, .inr (11, [.ref st, .int (nI N), .int (nI B), .ref rp, .int vrs, .int vrb, .int vhs, .int vca, .int vxs, .int vxb, .ref tp, .int (nI T), .int vfa, .int vbr, .int vba, .int vsp, .int vhe, .int vtk, .int vva, .ref cu, .ref lt, .ref od, .ref th, .ref be, .ref ln, .int (nI S), .ref ma, .int (nI M), .ref ah, .ref bh, .ref ik, .ref la, .ref lg, .ref ce, .int vto])), (st, .inl (G 0, 196, .inl fst)), (ma, .inl (G 0, 12, .inl fma)), (ah, .inl (G 0, 110, .inl oah)), (bh, .inl (G 0, 110, .inl obh))]) A) ([.ref h0] : List Value).toArray s 0 0 A) (F0 m 253 ls [.int (nI ((10 * j16) + j23)), .ref bh]) := by
                            intro  H locs hP hD hS ls hl
                            refine lv_aload_n hx hb dX11_layPaths_253 rfl (lv_at hl 2 rfl) ?_
                            refine lv_iload_n hx hb dX11_layPaths_254 rfl (lv_at hl 1 rfl) ?_
                            refine lv_iload_n hx hb dX11_layPaths_255 rfl (lv_at hl 0 rfl) ?_
                            refine lv_iconst (v := 1) hx hb dX11_layPaths_256 rfl ?_
                            have hPc := hP.sub (ws' := [(h0, .inr (11, [.ref st, .int (nI N), .int (nI B), .ref rp, .int vrs, .int vrb, .int vhs, .int vca, .int vxs, .int vxb, .ref tp, .int (nI T), .int vfa, .int vbr, .int vba, .int vsp, .int vhe, .int vtk, .int vva, .ref cu, .ref lt, .ref od, .ref th, .ref be, .ref ln, .int (nI S), .ref ma, .int (nI M), .ref ah, .ref bh, .ref ik, .ref la, .ref lg, .ref ce, .int vto])), (st, .inl (G 0, 196, .inl fst)), (ma, .inl (G 0, 12, .inl fma)), (bh, .inl (G 0, 110, .inl g24))]) [0, 1, 2, 4] rfl
                            refine va_calli (va_runV (As := [.int (nI j16), .int (nI j23), .int 1]) (rest := [.int (nI ((10 * j16) + j23)), .ref bh]) ⟨hx, hb, hml, hown, hg⟩ (c_X11_onward l dC dI G _ h0 j16 j23 st N B rp tp T cu lt od th be ln S ma M ah bh ik la lg ce 1 vrs vrb vhs vca vxs vxb vfa vbr vba vsp vhe vtk vva vto fst fma g24 hN hB_ hT_ hS0 hM_ hst (by first | omega | (have t_hj6 := hj6; have t_n8 := n8; have t_hj13 := hj13; have t_n15 := n15; have t_hj19 := hj19; have t_n22 := n22; have t_hj27 := hj27; have t_n30 := n30; have tnb_ := nib9 tn872_ tn873_ tn874_ tn875_ tn876_ tn877_ tn878_ tn880_ tn882_; omega)) (by first | omega | (have t_hj6 := hj6; have t_n8 := n8; have t_hj13 := hj13; have t_n15 := n15; have t_hj19 := hj19; have t_n22 := n22; have t_hj27 := hj27; have t_n30 := n30; have tnb_ := nib9 tn872_ tn873_ tn874_ tn875_ tn876_ tn877_ tn878_ tn880_ tn882_; omega))) (kwV hg mfX11_onward wt_1232 ⟨Nat.le_of_ble_eq_true rfl, Nat.le_of_ble_eq_true rfl⟩) (preVR hK hPc (ci := 11) (r := (RX11, TX11, 35)) rfl rfl) rfl rfl hl.1 rfl (lv_room (Nat.le_of_ble_eq_true rfl)) dX11_layPaths_257 ⟨Nat.le_of_ble_eq_true rfl, Nat.le_of_ble_eq_true rfl⟩) hS (fun q h1 h2 => absurd h2 (Nat.not_le.mpr h1)) (fun q h => hA q (Nat.le_trans hS.1 h)) (fun r34 ur34 t H1 locs ht hvm w35 hB hz1 hk1 hS => ?_)
                            have hP := keepR hP hk1
                            obtain ⟨w35, w35x⟩ := w35
                            refine lv_aload_n hx hb dX11_layPaths_260 rfl (lv_at hl 2 rfl) ?_
                            refine lv_iload_n hx hb dX11_layPaths_261 rfl (lv_at hl 1 rfl) ?_
                            refine lv_iload_n hx hb dX11_layPaths_262 rfl (lv_at hl 0 rfl) ?_
                            refine lv_iconst (v := 0) hx hb dX11_layPaths_263 rfl ?_
                            have hPc := hP.sub (ws' := [(h0, .inr (11, [.ref st, .int (nI N), .int (nI B), .ref rp, .int vrs, .int vrb, .int vhs, .int vca, .int vxs, .int vxb, .ref tp, .int (nI T), .int vfa, .int vbr, .int vba, .int vsp, .int vhe, .int vtk, .int vva, .ref cu, .ref lt, .ref od, .ref th, .ref be, .ref ln, .int (nI S), .ref ma, .int (nI M), .ref ah, .ref bh, .ref ik, .ref la, .ref lg, .ref ce, .int vto])), (st, .inl (G 0, 196, .inl fst)), (ma, .inl (G 0, 12, .inl fma)), (bh, .inl (G 0, 110, .inl g24))]) [0, 1, 2, 4] rfl
                            refine va_calli (va_runV (As := [.int (nI j16), .int (nI j23), .int 0]) (rest := [.int r34, .int (nI ((10 * j16) + j23)), .ref bh]) ⟨hx, hb, hml, hown, hg⟩ (c_X11_onward l dC dI G _ h0 j16 j23 st N B rp tp T cu lt od th be ln S ma M ah bh ik la lg ce 0 vrs vrb vhs vca vxs vxb vfa vbr vba vsp vhe vtk vva vto fst fma g24 hN hB_ hT_ hS0 hM_ hst (by first | omega | (have t_hj6 := hj6; have t_n8 := n8; have t_hj13 := hj13; have t_n15 := n15; have t_hj19 := hj19; have t_n22 := n22; have t_hj27 := hj27; have t_n30 := n30; have tnb_ := nib9 tn872_ tn873_ tn874_ tn875_ tn876_ tn877_ tn878_ tn880_ tn882_; omega)) (by first | omega | (have t_hj6 := hj6; have t_n8 := n8; have t_hj13 := hj13; have t_n15 := n15; have t_hj19 := hj19; have t_n22 := n22; have t_hj27 := hj27; have t_n30 := n30; have tnb_ := nib9 tn872_ tn873_ tn874_ tn875_ tn876_ tn877_ tn878_ tn880_ tn882_; omega))) (kwV hg mfX11_onward wt_1232 ⟨Nat.le_of_ble_eq_true rfl, Nat.le_of_ble_eq_true rfl⟩) (preVR hK hPc (ci := 11) (r := (RX11, TX11, 35)) rfl rfl) rfl rfl hl.1 rfl (lv_room (Nat.le_of_ble_eq_true rfl)) dX11_layPaths_264 ⟨Nat.le_of_ble_eq_true rfl, Nat.le_of_ble_eq_true rfl⟩) hS (fun q h1 h2 => absurd h2 (Nat.not_le.mpr h1)) (fun q h => hA q (Nat.le_trans hS.1 h)) (fun r36 ur36 t H1 locs ht hvm w37 hB hz1 hk1 hS => ?_)
                            have hP := keepR hP hk1
                            obtain ⟨w37, w37x⟩ := w37
                            refine lv_iadd hx hb dX11_layPaths_267 ?_
                            exact cut268_32 (r34 + r36) _ _ hP hD hS ls (lv_sub hl [0, 1, 2] rfl)
                          refine lv_if_ne (tgt := 253) hx hb dX11_layPaths_226 rfl (fun c38 => ?_) (fun c38 => ?_)
                          · skip
                            have n39 : j23 ≠ 0 := by have t := neI c38; rw [show (nI (j23)).toInt = ((j23 : Nat) : Int) from tn882_ ()] at t; have : (0 : Int32).toInt = 0 := qI_0; omega
                            exact cut253_33  _ _ hP hD hS ls (lv_sub hl [0, 1, 2] rfl)
                          · skip
                            have n40 : j23 = 0 := by have t := eqI c38; rw [show (nI (j23)).toInt = ((j23 : Nat) : Int) from tn882_ ()] at t; have : (0 : Int32).toInt = 0 := qI_0; omega
                            refine lv_aload_n hx hb dX11_layPaths_229 rfl (lv_at hl 2 rfl) ?_
                            refine lv_iload_n hx hb dX11_layPaths_230 rfl (lv_at hl 1 rfl) ?_
                            refine lv_iconst (v := 0) hx hb dX11_layPaths_231 rfl ?_
                            have hPc := hP.sub (ws' := [(h0, .inr (11, [.ref st, .int (nI N), .int (nI B), .ref rp, .int vrs, .int vrb, .int vhs, .int vca, .int vxs, .int vxb, .ref tp, .int (nI T), .int vfa, .int vbr, .int vba, .int vsp, .int vhe, .int vtk, .int vva, .ref cu, .ref lt, .ref od, .ref th, .ref be, .ref ln, .int (nI S), .ref ma, .int (nI M), .ref ah, .ref bh, .ref ik, .ref la, .ref lg, .ref ce, .int vto])), (ma, .inl (G 0, 12, .inl fma))]) [0, 2] rfl
                            refine va_calli (va_runV (As := [.int (nI j16), .int 0]) (rest := [.int (nI ((10 * j16) + j23)), .ref bh]) ⟨hx, hb, hml, hown, hg⟩ (c_X11_isMarked l dC dI G _ h0 st N B rp tp T cu lt od th be ln S ma M ah bh ik la lg ce (nI j16) 0 vrs vrb vhs vca vxs vxb vfa vbr vba vsp vhe vtk vva vto fma hN hB_ hT_ hS0 hM_) (kwV hg mfX11_isMarked wt_1228 ⟨Nat.le_of_ble_eq_true rfl, Nat.le_of_ble_eq_true rfl⟩) (preVR hK hPc (ci := 11) (r := (RX11, TX11, 35)) rfl rfl) rfl rfl hl.1 rfl (lv_room (Nat.le_of_ble_eq_true rfl)) dX11_layPaths_232 ⟨Nat.le_of_ble_eq_true rfl, Nat.le_of_ble_eq_true rfl⟩) hS (fun q h1 h2 => absurd h2 (Nat.not_le.mpr h1)) (fun q h => hA q (Nat.le_trans hS.1 h)) (fun r41 ur41 t H1 locs ht hvm w42 hB hz1 hk1 hS => ?_)
                            have hP := keepR hP hk1
                            obtain ⟨w42, w42x⟩ := w42
                            refine lv_if_eq (tgt := 253) hx hb dX11_layPaths_235 rfl (fun c43 => ?_) (fun c43 => ?_)
                            · skip
                              exact cut253_33  _ _ hP hD hS ls (lv_sub hl [0, 1, 2] rfl)
                            · skip
                              refine lv_aload_n hx hb dX11_layPaths_238 rfl (lv_at hl 2 rfl) ?_
                              refine va_get (D := (dC, dI)) (ci := 11) (v := .ref bh) (C := RX11) (T := TX11) (N := 35) hx hb hg inG11 hown hK.1 hP 0 rfl rfl 29 (Nat.le_of_ble_eq_true rfl) (hg _ wt_907) (fun _ h9 => h9) rfl dX11_layPaths_239 ?_
                              refine lv_bipush (v := 10) hx hb dX11_layPaths_242 rfl ?_
                              refine lv_iload_n hx hb dX11_layPaths_244 rfl (lv_at hl 1 rfl) ?_
                              refine lv_imul hx hb dX11_layPaths_245 ?_
                              refine lv_cg (y := nI (10 * j16)) (by rw [show (10 : Int32) = nI 10 from rfl]; exact pk_mul _ _) ?_
                              refine lv_bipush (v := 10) hx hb dX11_layPaths_246 rfl ?_
                              refine lv_iadd hx hb dX11_layPaths_248 ?_
                              refine lv_cg (y := nI ((10 * j16) + 10)) (by rw [show (10 : Int32) = nI 10 from rfl]; exact nI_add _ _) ?_
                              refine va_iald hx hb hK.1 hP 4 0 rfl rfl (vp_in_nI (by first | omega | (have t_hj6 := hj6; have t_n8 := n8; have t_hj13 := hj13; have t_n15 := n15; have t_hj19 := hj19; have t_n22 := n22; have t_hj27 := hj27; have t_n30 := n30; have t_n40 := n40; have t_c43 := neI c43; have : (0 : Int32).toInt = 0 := qI_0; have tnb_ := nib9 tn872_ tn873_ tn874_ tn875_ tn876_ tn877_ tn878_ tn880_ tn882_; omega)) (by decide)) dX11_layPaths_249 ?_
                              refine lv_cg (y := g24 ((10 * j16) + 10)) (by rw [nI_clamp (by omega)]) ?_
                              refine lv_goto (tgt := 268) hx hb dX11_layPaths_250 rfl ?_
                              exact cut268_32 (g24 ((10 * j16) + 10)) _ _ hP hD hS ls (lv_sub hl [0, 1, 2] rfl)
                    exact loop209_25 (10 + 1) 0 (by omega) (by omega) g17 _ _ hP hD hS ls (lv_sub hl [0, 1, 2] rfl)
              exact loop203_18 N (Nat.le_refl _) g3 _ _ hP hD hS ls (lv_sub hl [0, 1] rfl)
            · skip
              have tn883_ : nIT j9 := fun _ => nI_toInt (by first | omega | (have t := nleI c14; omega))
              have n44 : j9 < N := by have t := nleI c14; rw [show (nI (j9)).toInt = ((j9 : Nat) : Int) from tn883_ ()] at t; rw [show (nI (N)).toInt = ((N : Nat) : Int) from tn872_ ()] at t; omega
              refine lv_iconst (v := 0) hx hb dX11_layPaths_65 rfl ?_
              refine lv_istore_n (lv' := [(2, .int 0), (1, .int (nI j9)), (0, .ref h0)]) hx hb dX11_layPaths_66 rfl hl (by decide) rfl (fun ls hl => ?_)
              have loop67_47 : ∀ (nf j45 : Nat), 10 + 1 ≤ j45 + nf → j45 ≤ 10 → ∀ (g46 : Nat → Int32) (H : Heap) (locs : List Loc), va_P (dC, dI) vwCl [(h0, .inr (11, [.ref st, .int (nI N), .int (nI B), .ref rp, .int vrs, .int vrb, .int vhs, .int vca, .int vxs, .int vxb, .ref tp, .int (nI T), .int vfa, .int vbr, .int vba, .int vsp, .int vhe, .int vtk, .int vva, .ref cu, .ref lt, .ref od, .ref th, .ref be, .ref ln, .int (nI S), .ref ma, .int (nI M), .ref ah, .ref bh, .ref ik, .ref la, .ref lg, .ref ce, .int vto])), (st, .inl (G 0, 196, .inl fst)), (ma, .inl (G 0, 12, .inl fma)), (ah, .inl (G 0, 110, .inl g46)), (bh, .inl (G 0, 110, .inl g3))] H → va_D A [(h0, .inr (11, [.ref st, .int (nI N), .int (nI B), .ref rp, .int vrs, .int vrb, .int vhs, .int vca, .int vxs, .int vxb, .ref tp, .int (nI T), .int vfa, .int vbr, .int vba, .int vsp, .int vhe, .int vtk, .int vva, .ref cu, .ref lt, .ref od, .ref th, .ref be, .ref ln, .int (nI S), .ref ma, .int (nI M), .ref ah, .ref bh, .ref ik, .ref la, .ref lg, .ref ce, .int vto])), (st, .inl (G 0, 196, .inl fst)), (ma, .inl (G 0, 12, .inl fma)), (ah, .inl (G 0, 110, .inl g46)), (bh, .inl (G 0, 110, .inl g3))] → va_S A s.heap H locs → ∀ (ls : Array Slot), lv_has ls 6 [(2, .int (nI j45)), (1, .int (nI j9)), (0, .ref h0)] → W p l e (headSpec (Cond.code yX11_layPaths cX11_layPaths 6 none :: GT) ({ frames := 5, cells := 0, slots := 0, locals := 121 } : Room)).room s m ([.ref h0] : List Value).toArray below meth c H locs 0 0 (MQ below (va_Qv (fun (u : (Nat → Int32) × (Nat → Int32)) => match u with | (oah, obh) => True) (fun (u : (Nat → Int32) × (Nat → Int32)) (t : State) => match u with | (oah, obh) => va_P (dC, dI) vwCl [(h0, .inr (11, [.ref st, .int (nI N), .int (nI B), .ref rp, .int vrs, .int vrb, .int vhs, .int vca, .int vxs, .int vxb, .ref tp, .int (nI T), .int vfa, .int vbr, .int vba, .int vsp, .int vhe, .int vtk, .int vva, .ref cu, .ref lt, .ref od, .ref th, .ref be, .ref ln, .int (nI S), .ref ma, .int (nI M), .ref ah, .ref bh, .ref ik, .ref la, .ref lg, .ref ce, .int vto])), (st, .inl (G 0, 196, .inl fst)), (ma, .inl (G 0, 12, .inl fma)), (ah, .inl (G 0, 110, .inl oah)), (bh, .inl (G 0, 110, .inl obh))] t.heap ∧ va_D A [(h0, .inr (11, [.ref st, .int (nI N), .int (nI B), .ref rp, .int vrs, .int vrb, .int vhs, .int vca, .int vxs, .int vxb, .ref tp, .int (nI T), .int vfa, .int vbr, .int vba, .int vsp, .int vhe, .int vtk, .int vva, .ref cu, .ref lt, .ref od, .ref th, .ref be, .ref ln, .int (nI S), .ref ma, .int (nI M), .ref ah, .ref bh, .ref ik, .ref la, .ref lg, .ref ce, .int vto])), (st, .inl (G 0, 196, .inl fst)), (ma, .inl (G 0, 12, .inl fma)), (ah, .inl (G 0, 110, .inl oah)), (bh, .inl (G 0, 110, .inl obh))]) A) ([.ref h0] : List Value).toArray s 0 0 A) (F0 m 67 ls []) := by
                intro nf
                induction nf with
                | zero => intro j45 h1 h2; exact absurd h1 (by omega)
                | succ nf ih67_47 =>
                  intro j45 hn48 hj49 g46 H locs hP hD hS ls hl
                  refine lv_iload_n hx hb dX11_layPaths_67 rfl (lv_at hl 0 rfl) ?_
                  refine lv_bipush (v := 10) hx hb dX11_layPaths_68 rfl ?_
                  refine lv_icmp_ge (tgt := 190) hx hb dX11_layPaths_70 rfl (fun c50 => ?_) (fun c50 => ?_)
                  · skip
                    have tn884_ : nIT j45 := fun _ => nI_toInt (by first | omega | (have t := leI c50; omega))
                    have n51 : 10 ≤ j45 := by have t := leI c50; rw [show (nI (j45)).toInt = ((j45 : Nat) : Int) from tn884_ ()] at t; have : (10 : Int32).toInt = 10 := qI_10; omega
                    refine lv_iinc (v := nI (j9 + 1)) (lv' := [(1, .int (nI (j9 + 1))), (2, .int (nI j45)), (0, .ref h0)]) hx hb dX11_layPaths_190 hl (k := 1) rfl (by rw [show Int32.ofInt 1 = nI 1 from by decide]; exact nI_add _ _) (by decide) rfl (fun ls hl => ?_)
                    refine lv_goto (tgt := 57) hx hb dX11_layPaths_193 rfl ?_
                    exact ih57_11 (j9 + 1) (by omega) (by omega) g46 _ _ hP hD hS ls (lv_sub hl [0, 2] rfl)
                  · skip
                    have tn885_ : nIT j45 := fun _ => nI_toInt (by first | omega | (have t := nleI c50; omega))
                    have n52 : j45 < 10 := by have t := nleI c50; rw [show (nI (j45)).toInt = ((j45 : Nat) : Int) from tn885_ ()] at t; have : (10 : Int32).toInt = 10 := qI_10; omega
                    refine lv_aload_n hx hb dX11_layPaths_73 rfl (lv_at hl 2 rfl) ?_
                    refine va_get (D := (dC, dI)) (ci := 11) (v := .ref ah) (C := RX11) (T := TX11) (N := 35) hx hb hg inG11 hown hK.1 hP 0 rfl rfl 28 (Nat.le_of_ble_eq_true rfl) (hg _ wt_906) (fun _ h9 => h9) rfl dX11_layPaths_74 ?_
                    refine lv_bipush (v := 10) hx hb dX11_layPaths_77 rfl ?_
                    refine lv_iload_n hx hb dX11_layPaths_79 rfl (lv_at hl 1 rfl) ?_
                    refine lv_imul hx hb dX11_layPaths_80 ?_
                    refine lv_cg (y := nI (10 * j9)) (by rw [show (10 : Int32) = nI 10 from rfl]; exact pk_mul _ _) ?_
                    refine lv_iload_n hx hb dX11_layPaths_81 rfl (lv_at hl 0 rfl) ?_
                    refine lv_iadd hx hb dX11_layPaths_82 ?_
                    refine lv_cg (y := nI ((10 * j9) + j45)) (by exact nI_add _ _) ?_
                    refine va_iald hx hb hK.1 hP 3 0 rfl rfl (vp_in_nI (by first | omega | (have t_hj6 := hj6; have t_n8 := n8; have t_hj13 := hj13; have t_n44 := n44; have t_hj49 := hj49; have t_n52 := n52; have tnb_ := nib8 tn872_ tn873_ tn874_ tn875_ tn876_ tn877_ tn883_ tn885_; omega)) (by decide)) dX11_layPaths_83 ?_
                    refine lv_cg (y := g46 ((10 * j9) + j45)) (by rw [nI_clamp (by omega)]) ?_
                    refine lv_istore_n (lv' := [(3, .int (g46 ((10 * j9) + j45))), (2, .int (nI j45)), (1, .int (nI j9)), (0, .ref h0)]) hx hb dX11_layPaths_84 rfl hl (by decide) rfl (fun ls hl => ?_)
                    refine lv_aload_n hx hb dX11_layPaths_85 rfl (lv_at hl 3 rfl) ?_
                    refine lv_iload_n hx hb dX11_layPaths_86 rfl (lv_at hl 2 rfl) ?_
                    refine lv_iload_n hx hb dX11_layPaths_87 rfl (lv_at hl 1 rfl) ?_
                    refine lv_iconst (v := 1) hx hb dX11_layPaths_88 rfl ?_
                    have hPc := hP.sub (ws' := [(h0, .inr (11, [.ref st, .int (nI N), .int (nI B), .ref rp, .int vrs, .int vrb, .int vhs, .int vca, .int vxs, .int vxb, .ref tp, .int (nI T), .int vfa, .int vbr, .int vba, .int vsp, .int vhe, .int vtk, .int vva, .ref cu, .ref lt, .ref od, .ref th, .ref be, .ref ln, .int (nI S), .ref ma, .int (nI M), .ref ah, .ref bh, .ref ik, .ref la, .ref lg, .ref ce, .int vto])), (st, .inl (G 0, 196, .inl fst)), (ma, .inl (G 0, 12, .inl fma))]) [0, 1, 2] rfl
                    refine va_calli (va_runV (As := [.int (nI j9), .int (nI j45), .int 1]) (rest := []) ⟨hx, hb, hml, hown, hg⟩ (c_X11_depthThen l dC dI G _ h0 j9 j45 st N B rp tp T cu lt od th be ln S ma M ah bh ik la lg ce 1 vrs vrb vhs vca vxs vxb vfa vbr vba vsp vhe vtk vva vto fst fma hN hB_ hT_ hS0 hM_ hst (by first | omega | (have t_hj6 := hj6; have t_n8 := n8; have t_hj13 := hj13; have t_n44 := n44; have t_hj49 := hj49; have t_n52 := n52; have tnb_ := nib8 tn872_ tn873_ tn874_ tn875_ tn876_ tn877_ tn883_ tn885_; omega)) (by first | omega | (have t_hj6 := hj6; have t_n8 := n8; have t_hj13 := hj13; have t_n44 := n44; have t_hj49 := hj49; have t_n52 := n52; have tnb_ := nib8 tn872_ tn873_ tn874_ tn875_ tn876_ tn877_ tn883_ tn885_; omega))) (kwV hg mfX11_depthThen wt_1224 ⟨Nat.le_of_ble_eq_true rfl, Nat.le_of_ble_eq_true rfl⟩) (preVR hK hPc (ci := 11) (r := (RX11, TX11, 35)) rfl rfl) rfl rfl hl.1 rfl (lv_room (Nat.le_of_ble_eq_true rfl)) dX11_layPaths_89 ⟨Nat.le_of_ble_eq_true rfl, Nat.le_of_ble_eq_true rfl⟩) hS (fun q h1 h2 => absurd h2 (Nat.not_le.mpr h1)) (fun q h => hA q (Nat.le_trans hS.1 h)) (fun r53 ur53 t H1 locs ht hvm w54 hB hz1 hk1 hS => ?_)
                    have hP := keepR hP hk1
                    obtain ⟨w54, w54x⟩ := w54
                    rcases w54 with w541 | ⟨w540, w541, w542⟩
                    · skip
                      refine lv_cg (y := (-4)) w541 ?_
                      refine lv_istore (lv' := [(4, .int (-4)), (3, .int (g46 ((10 * j9) + j45))), (2, .int (nI j45)), (1, .int (nI j9)), (0, .ref h0)]) hx hb dX11_layPaths_92 hl (by decide) rfl (fun ls hl => ?_)
                      refine lv_aload_n hx hb dX11_layPaths_94 rfl (lv_at hl 4 rfl) ?_
                      refine lv_iload_n hx hb dX11_layPaths_95 rfl (lv_at hl 3 rfl) ?_
                      refine lv_iload_n hx hb dX11_layPaths_96 rfl (lv_at hl 2 rfl) ?_
                      refine lv_iconst (v := 0) hx hb dX11_layPaths_97 rfl ?_
                      have hPc := hP.sub (ws' := [(h0, .inr (11, [.ref st, .int (nI N), .int (nI B), .ref rp, .int vrs, .int vrb, .int vhs, .int vca, .int vxs, .int vxb, .ref tp, .int (nI T), .int vfa, .int vbr, .int vba, .int vsp, .int vhe, .int vtk, .int vva, .ref cu, .ref lt, .ref od, .ref th, .ref be, .ref ln, .int (nI S), .ref ma, .int (nI M), .ref ah, .ref bh, .ref ik, .ref la, .ref lg, .ref ce, .int vto])), (st, .inl (G 0, 196, .inl fst)), (ma, .inl (G 0, 12, .inl fma))]) [0, 1, 2] rfl
                      refine va_calli (va_runV (As := [.int (nI j9), .int (nI j45), .int 0]) (rest := []) ⟨hx, hb, hml, hown, hg⟩ (c_X11_depthThen l dC dI G _ h0 j9 j45 st N B rp tp T cu lt od th be ln S ma M ah bh ik la lg ce 0 vrs vrb vhs vca vxs vxb vfa vbr vba vsp vhe vtk vva vto fst fma hN hB_ hT_ hS0 hM_ hst (by first | omega | (have t_hj6 := hj6; have t_n8 := n8; have t_hj13 := hj13; have t_n44 := n44; have t_hj49 := hj49; have t_n52 := n52; have tnb_ := nib8 tn872_ tn873_ tn874_ tn875_ tn876_ tn877_ tn883_ tn885_; omega)) (by first | omega | (have t_hj6 := hj6; have t_n8 := n8; have t_hj13 := hj13; have t_n44 := n44; have t_hj49 := hj49; have t_n52 := n52; have tnb_ := nib8 tn872_ tn873_ tn874_ tn875_ tn876_ tn877_ tn883_ tn885_; omega))) (kwV hg mfX11_depthThen wt_1224 ⟨Nat.le_of_ble_eq_true rfl, Nat.le_of_ble_eq_true rfl⟩) (preVR hK hPc (ci := 11) (r := (RX11, TX11, 35)) rfl rfl) rfl rfl hl.1 rfl (lv_room (Nat.le_of_ble_eq_true rfl)) dX11_layPaths_98 ⟨Nat.le_of_ble_eq_true rfl, Nat.le_of_ble_eq_true rfl⟩) hS (fun q h1 h2 => absurd h2 (Nat.not_le.mpr h1)) (fun q h => hA q (Nat.le_trans hS.1 h)) (fun r55 ur55 t H1 locs ht hvm w56 hB hz1 hk1 hS => ?_)
                      have hP := keepR hP hk1
                      obtain ⟨w56, w56x⟩ := w56
                      rcases w56 with w561 | ⟨w560, w561, w562⟩
                      · skip
                        refine lv_cg (y := (-4)) w561 ?_
                        refine lv_istore (lv' := [(5, .int (-4)), (4, .int (-4)), (3, .int (g46 ((10 * j9) + j45))), (2, .int (nI j45)), (1, .int (nI j9)), (0, .ref h0)]) hx hb dX11_layPaths_101 hl (by decide) rfl (fun ls hl => ?_)
                        refine lv_iload_n hx hb dX11_layPaths_103 rfl (lv_at hl 3 rfl) ?_
                        refine lv_if_ne (tgt := 132) hx hb dX11_layPaths_104 rfl (fun c57 => ?_) (fun c57 => ?_)
                        · skip
                          have n58 : j45 ≠ 0 := by have t := neI c57; rw [show (nI (j45)).toInt = ((j45 : Nat) : Int) from tn885_ ()] at t; have : (0 : Int32).toInt = 0 := qI_0; omega
                          refine lv_iload hx hb dX11_layPaths_132 (lv_at hl 1 rfl) ?_
                          refine lv_bipush (v := (-4)) hx hb dX11_layPaths_134 rfl ?_
                          refine lv_icmp_eq (tgt := 158) hx hb dX11_layPaths_136 rfl (fun c59 => ?_) (fun c59 => ?_)
                          · skip
                            refine lv_iload hx hb dX11_layPaths_158 (lv_at hl 0 rfl) ?_
                            refine lv_bipush (v := (-4)) hx hb dX11_layPaths_160 rfl ?_
                            refine lv_icmp_eq (tgt := 184) hx hb dX11_layPaths_162 rfl (fun c60 => ?_) (fun c60 => ?_)
                            · skip
                              refine lv_iinc (v := nI (j45 + 1)) (lv' := [(2, .int (nI (j45 + 1))), (5, .int (-4)), (4, .int (-4)), (3, .int (g46 ((10 * j9) + j45))), (1, .int (nI j9)), (0, .ref h0)]) hx hb dX11_layPaths_184 hl (k := 3) rfl (by rw [show Int32.ofInt 1 = nI 1 from by decide]; exact nI_add _ _) (by decide) rfl (fun ls hl => ?_)
                              refine lv_goto (tgt := 67) hx hb dX11_layPaths_187 rfl ?_
                              exact ih67_47 (j45 + 1) (by omega) (by omega) g46 _ _ hP hD hS ls (lv_sub hl [0, 4, 5] rfl)
                            · skip
                              exact absurd c60 (by decide)
                          · skip
                            exact absurd c59 (by decide)
                        · skip
                          have n61 : j45 = 0 := by have t := eqI c57; rw [show (nI (j45)).toInt = ((j45 : Nat) : Int) from tn885_ ()] at t; have : (0 : Int32).toInt = 0 := qI_0; omega
                          refine lv_aload_n hx hb dX11_layPaths_107 rfl (lv_at hl 5 rfl) ?_
                          refine lv_iload_n hx hb dX11_layPaths_108 rfl (lv_at hl 4 rfl) ?_
                          refine lv_iconst (v := 0) hx hb dX11_layPaths_109 rfl ?_
                          have hPc := hP.sub (ws' := [(h0, .inr (11, [.ref st, .int (nI N), .int (nI B), .ref rp, .int vrs, .int vrb, .int vhs, .int vca, .int vxs, .int vxb, .ref tp, .int (nI T), .int vfa, .int vbr, .int vba, .int vsp, .int vhe, .int vtk, .int vva, .ref cu, .ref lt, .ref od, .ref th, .ref be, .ref ln, .int (nI S), .ref ma, .int (nI M), .ref ah, .ref bh, .ref ik, .ref la, .ref lg, .ref ce, .int vto])), (ma, .inl (G 0, 12, .inl fma))]) [0, 2] rfl
                          refine va_calli (va_runV (As := [.int (nI j9), .int 0]) (rest := []) ⟨hx, hb, hml, hown, hg⟩ (c_X11_isMarked l dC dI G _ h0 st N B rp tp T cu lt od th be ln S ma M ah bh ik la lg ce (nI j9) 0 vrs vrb vhs vca vxs vxb vfa vbr vba vsp vhe vtk vva vto fma hN hB_ hT_ hS0 hM_) (kwV hg mfX11_isMarked wt_1228 ⟨Nat.le_of_ble_eq_true rfl, Nat.le_of_ble_eq_true rfl⟩) (preVR hK hPc (ci := 11) (r := (RX11, TX11, 35)) rfl rfl) rfl rfl hl.1 rfl (lv_room (Nat.le_of_ble_eq_true rfl)) dX11_layPaths_110 ⟨Nat.le_of_ble_eq_true rfl, Nat.le_of_ble_eq_true rfl⟩) hS (fun q h1 h2 => absurd h2 (Nat.not_le.mpr h1)) (fun q h => hA q (Nat.le_trans hS.1 h)) (fun r62 ur62 t H1 locs ht hvm w63 hB hz1 hk1 hS => ?_)
                          have hP := keepR hP hk1
                          obtain ⟨w63, w63x⟩ := w63
                          refine lv_if_eq (tgt := 132) hx hb dX11_layPaths_113 rfl (fun c64 => ?_) (fun c64 => ?_)
                          · skip
                            refine lv_iload hx hb dX11_layPaths_132 (lv_at hl 1 rfl) ?_
                            refine lv_bipush (v := (-4)) hx hb dX11_layPaths_134 rfl ?_
                            refine lv_icmp_eq (tgt := 158) hx hb dX11_layPaths_136 rfl (fun c65 => ?_) (fun c65 => ?_)
                            · skip
                              refine lv_iload hx hb dX11_layPaths_158 (lv_at hl 0 rfl) ?_
                              refine lv_bipush (v := (-4)) hx hb dX11_layPaths_160 rfl ?_
                              refine lv_icmp_eq (tgt := 184) hx hb dX11_layPaths_162 rfl (fun c66 => ?_) (fun c66 => ?_)
                              · skip
                                refine lv_iinc (v := nI (j45 + 1)) (lv' := [(2, .int (nI (j45 + 1))), (5, .int (-4)), (4, .int (-4)), (3, .int (g46 ((10 * j9) + j45))), (1, .int (nI j9)), (0, .ref h0)]) hx hb dX11_layPaths_184 hl (k := 3) rfl (by rw [show Int32.ofInt 1 = nI 1 from by decide]; exact nI_add _ _) (by decide) rfl (fun ls hl => ?_)
                                refine lv_goto (tgt := 67) hx hb dX11_layPaths_187 rfl ?_
                                exact ih67_47 (j45 + 1) (by omega) (by omega) g46 _ _ hP hD hS ls (lv_sub hl [0, 4, 5] rfl)
                              · skip
                                exact absurd c66 (by decide)
                            · skip
                              exact absurd c65 (by decide)
                          · skip
                            refine lv_aload_n hx hb dX11_layPaths_116 rfl (lv_at hl 5 rfl) ?_
                            refine va_get (D := (dC, dI)) (ci := 11) (v := .ref ah) (C := RX11) (T := TX11) (N := 35) hx hb hg inG11 hown hK.1 hP 0 rfl rfl 28 (Nat.le_of_ble_eq_true rfl) (hg _ wt_906) (fun _ h9 => h9) rfl dX11_layPaths_117 ?_
                            refine lv_bipush (v := 10) hx hb dX11_layPaths_120 rfl ?_
                            refine lv_iload_n hx hb dX11_layPaths_122 rfl (lv_at hl 4 rfl) ?_
                            refine lv_imul hx hb dX11_layPaths_123 ?_
                            refine lv_cg (y := nI (10 * j9)) (by rw [show (10 : Int32) = nI 10 from rfl]; exact pk_mul _ _) ?_
                            refine lv_bipush (v := 10) hx hb dX11_layPaths_124 rfl ?_
                            refine lv_iadd hx hb dX11_layPaths_126 ?_
                            refine lv_cg (y := nI ((10 * j9) + 10)) (by rw [show (10 : Int32) = nI 10 from rfl]; exact nI_add _ _) ?_
                            refine lv_dup2_11 hx hb dX11_layPaths_127 rfl rfl ?_
                            refine va_iald hx hb hK.1 hP 3 0 rfl rfl (vp_in_nI (by first | omega | (have t_hj6 := hj6; have t_n8 := n8; have t_hj13 := hj13; have t_n44 := n44; have t_hj49 := hj49; have t_n52 := n52; have t_n61 := n61; have t_c64 := neI c64; have : (0 : Int32).toInt = 0 := qI_0; have tnb_ := nib8 tn872_ tn873_ tn874_ tn875_ tn876_ tn877_ tn883_ tn885_; omega)) (by decide)) dX11_layPaths_128 ?_
                            refine lv_cg (y := g46 ((10 * j9) + 10)) (by rw [nI_clamp (by omega)]) ?_
                            refine lv_iload_n hx hb dX11_layPaths_129 rfl (lv_at hl 2 rfl) ?_
                            refine lv_iadd hx hb dX11_layPaths_130 ?_
                            refine lv_topi (fun v67 ev67 => ?_)
                            refine va_iast hx hb hK.1 hP hD hS 3 0 rfl rfl (vp_in_nI (by first | omega | (have t_hj6 := hj6; have t_n8 := n8; have t_hj13 := hj13; have t_n44 := n44; have t_hj49 := hj49; have t_n52 := n52; have t_n61 := n61; have t_c64 := neI c64; have : (0 : Int32).toInt = 0 := qI_0; have tnb_ := nib8 tn872_ tn873_ tn874_ tn875_ tn876_ tn877_ tn883_ tn885_; omega)) (by decide)) dX11_layPaths_131 (fun H locs hP hD hS => ?_)
                            rw [nI_clamp (by omega)] at hP hD
                            refine lv_iload hx hb dX11_layPaths_132 (lv_at hl 1 rfl) ?_
                            refine lv_bipush (v := (-4)) hx hb dX11_layPaths_134 rfl ?_
                            refine lv_icmp_eq (tgt := 158) hx hb dX11_layPaths_136 rfl (fun c68 => ?_) (fun c68 => ?_)
                            · skip
                              refine lv_iload hx hb dX11_layPaths_158 (lv_at hl 0 rfl) ?_
                              refine lv_bipush (v := (-4)) hx hb dX11_layPaths_160 rfl ?_
                              refine lv_icmp_eq (tgt := 184) hx hb dX11_layPaths_162 rfl (fun c69 => ?_) (fun c69 => ?_)
                              · skip
                                refine lv_iinc (v := nI (j45 + 1)) (lv' := [(2, .int (nI (j45 + 1))), (5, .int (-4)), (4, .int (-4)), (3, .int (g46 ((10 * j9) + j45))), (1, .int (nI j9)), (0, .ref h0)]) hx hb dX11_layPaths_184 hl (k := 3) rfl (by rw [show Int32.ofInt 1 = nI 1 from by decide]; exact nI_add _ _) (by decide) rfl (fun ls hl => ?_)
                                refine lv_goto (tgt := 67) hx hb dX11_layPaths_187 rfl ?_
                                exact ih67_47 (j45 + 1) (by omega) (by omega) (upd g46 ((10 * j9) + 10) v67) _ _ hP hD hS ls (lv_sub hl [0, 4, 5] rfl)
                              · skip
                                exact absurd c69 (by decide)
                            · skip
                              exact absurd c68 (by decide)
                      · skip
                        refine lv_cg (y := nI w560) w561 ?_
                        refine lv_istore (lv' := [(5, .int (nI w560)), (4, .int (-4)), (3, .int (g46 ((10 * j9) + j45))), (2, .int (nI j45)), (1, .int (nI j9)), (0, .ref h0)]) hx hb dX11_layPaths_101 hl (by decide) rfl (fun ls hl => ?_)
                        refine lv_iload_n hx hb dX11_layPaths_103 rfl (lv_at hl 3 rfl) ?_
                        refine lv_if_ne (tgt := 132) hx hb dX11_layPaths_104 rfl (fun c70 => ?_) (fun c70 => ?_)
                        · skip
                          have n71 : j45 ≠ 0 := by have t := neI c70; rw [show (nI (j45)).toInt = ((j45 : Nat) : Int) from tn885_ ()] at t; have : (0 : Int32).toInt = 0 := qI_0; omega
                          refine lv_iload hx hb dX11_layPaths_132 (lv_at hl 1 rfl) ?_
                          refine lv_bipush (v := (-4)) hx hb dX11_layPaths_134 rfl ?_
                          refine lv_icmp_eq (tgt := 158) hx hb dX11_layPaths_136 rfl (fun c72 => ?_) (fun c72 => ?_)
                          · skip
                            refine lv_iload hx hb dX11_layPaths_158 (lv_at hl 0 rfl) ?_
                            refine lv_bipush (v := (-4)) hx hb dX11_layPaths_160 rfl ?_
                            refine lv_icmp_eq (tgt := 184) hx hb dX11_layPaths_162 rfl (fun c73 => ?_) (fun c73 => ?_)
                            · skip
                              have t_hj6 := hj6
                              have t_n8 := n8
                              have t_hj13 := hj13
                              have t_n44 := n44
                              have t_hj49 := hj49
                              have t_n52 := n52
                              have t_w562 := w562
                              have t_n71 := n71
                              have t_c72 := eqI c72
                              have t_c73 := eqI c73
                              have : ((-4) : Int32).toInt = -4 := qI_m4
                              have t_n0 : (nI N).toInt = (N : Int) := tn872_ ()
                              have t_n1 : (nI B).toInt = (B : Int) := tn873_ ()
                              have t_n2 : (nI T).toInt = (T : Int) := tn874_ ()
                              have t_n3 : (nI S).toInt = (S : Int) := tn875_ ()
                              have t_n4 : (nI M).toInt = (M : Int) := tn876_ ()
                              have t_n5 : (nI j1).toInt = (j1 : Int) := tn877_ ()
                              have t_n6 : (nI j9).toInt = (j9 : Int) := tn883_ ()
                              have t_n7 : (nI j45).toInt = (j45 : Int) := tn885_ ()
                              have tn886_ : nIT w560 := fun _ => nI_toInt (by omega)
                              have t_n8 : (nI w560).toInt = (w560 : Int) := tn886_ ()
                              exfalso; omega
                            · skip
                              refine lv_aload_n hx hb dX11_layPaths_165 rfl (lv_at hl 5 rfl) ?_
                              refine va_get (D := (dC, dI)) (ci := 11) (v := .ref ah) (C := RX11) (T := TX11) (N := 35) hx hb hg inG11 hown hK.1 hP 0 rfl rfl 28 (Nat.le_of_ble_eq_true rfl) (hg _ wt_906) (fun _ h9 => h9) rfl dX11_layPaths_166 ?_
                              refine lv_bipush (v := 10) hx hb dX11_layPaths_169 rfl ?_
                              refine lv_iload_n hx hb dX11_layPaths_171 rfl (lv_at hl 4 rfl) ?_
                              refine lv_imul hx hb dX11_layPaths_172 ?_
                              refine lv_cg (y := nI (10 * j9)) (by rw [show (10 : Int32) = nI 10 from rfl]; exact pk_mul _ _) ?_
                              refine lv_bipush (v := 10) hx hb dX11_layPaths_173 rfl ?_
                              refine lv_iadd hx hb dX11_layPaths_175 ?_
                              refine lv_cg (y := nI ((10 * j9) + 10)) (by rw [show (10 : Int32) = nI 10 from rfl]; exact nI_add _ _) ?_
                              refine lv_iload hx hb dX11_layPaths_176 (lv_at hl 0 rfl) ?_
                              refine lv_iadd hx hb dX11_layPaths_178 ?_
                              refine lv_cg (y := nI (((10 * j9) + 10) + w560)) (by exact nI_add _ _) ?_
                              refine lv_dup2_11 hx hb dX11_layPaths_179 rfl rfl ?_
                              have tn887_ : nIT w560 := fun _ => nI_toInt (by first | omega | (have t_hj6 := hj6; have t_n8 := n8; have t_hj13 := hj13; have t_n44 := n44; have t_hj49 := hj49; have t_n52 := n52; have t_w562 := w562; have t_n71 := n71; have t_c72 := eqI c72; have t_c73 := neI c73; have : ((-4) : Int32).toInt = -4 := qI_m4; omega))
                              refine va_iald hx hb hK.1 hP 3 0 rfl rfl (vp_in_nI (by first | omega | (have t_hj6 := hj6; have t_n8 := n8; have t_hj13 := hj13; have t_n44 := n44; have t_hj49 := hj49; have t_n52 := n52; have t_w562 := w562; have t_n71 := n71; have t_c72 := eqI c72; have t_c73 := neI c73; have : ((-4) : Int32).toInt = -4 := qI_m4; have tnb_ := nib9 tn872_ tn873_ tn874_ tn875_ tn876_ tn877_ tn883_ tn885_ tn887_; omega)) (by decide)) dX11_layPaths_180 ?_
                              refine lv_cg (y := g46 (((10 * j9) + 10) + w560)) (by rw [nI_clamp (by omega)]) ?_
                              refine lv_iload_n hx hb dX11_layPaths_181 rfl (lv_at hl 2 rfl) ?_
                              refine lv_iadd hx hb dX11_layPaths_182 ?_
                              refine lv_topi (fun v74 ev74 => ?_)
                              refine va_iast hx hb hK.1 hP hD hS 3 0 rfl rfl (vp_in_nI (by first | omega | (have t_hj6 := hj6; have t_n8 := n8; have t_hj13 := hj13; have t_n44 := n44; have t_hj49 := hj49; have t_n52 := n52; have t_w562 := w562; have t_n71 := n71; have t_c72 := eqI c72; have t_c73 := neI c73; have : ((-4) : Int32).toInt = -4 := qI_m4; have tnb_ := nib9 tn872_ tn873_ tn874_ tn875_ tn876_ tn877_ tn883_ tn885_ tn887_; omega)) (by decide)) dX11_layPaths_183 (fun H locs hP hD hS => ?_)
                              rw [nI_clamp (by omega)] at hP hD
                              refine lv_iinc (v := nI (j45 + 1)) (lv' := [(2, .int (nI (j45 + 1))), (5, .int (nI w560)), (4, .int (-4)), (3, .int (g46 ((10 * j9) + j45))), (1, .int (nI j9)), (0, .ref h0)]) hx hb dX11_layPaths_184 hl (k := 3) rfl (by rw [show Int32.ofInt 1 = nI 1 from by decide]; exact nI_add _ _) (by decide) rfl (fun ls hl => ?_)
                              refine lv_goto (tgt := 67) hx hb dX11_layPaths_187 rfl ?_
                              exact ih67_47 (j45 + 1) (by omega) (by omega) (upd g46 (((10 * j9) + 10) + w560) v74) _ _ hP hD hS ls (lv_sub hl [0, 4, 5] rfl)
                          · skip
                            exact absurd c72 (by decide)
                        · skip
                          have n75 : j45 = 0 := by have t := eqI c70; rw [show (nI (j45)).toInt = ((j45 : Nat) : Int) from tn885_ ()] at t; have : (0 : Int32).toInt = 0 := qI_0; omega
                          refine lv_aload_n hx hb dX11_layPaths_107 rfl (lv_at hl 5 rfl) ?_
                          refine lv_iload_n hx hb dX11_layPaths_108 rfl (lv_at hl 4 rfl) ?_
                          refine lv_iconst (v := 0) hx hb dX11_layPaths_109 rfl ?_
                          have hPc := hP.sub (ws' := [(h0, .inr (11, [.ref st, .int (nI N), .int (nI B), .ref rp, .int vrs, .int vrb, .int vhs, .int vca, .int vxs, .int vxb, .ref tp, .int (nI T), .int vfa, .int vbr, .int vba, .int vsp, .int vhe, .int vtk, .int vva, .ref cu, .ref lt, .ref od, .ref th, .ref be, .ref ln, .int (nI S), .ref ma, .int (nI M), .ref ah, .ref bh, .ref ik, .ref la, .ref lg, .ref ce, .int vto])), (ma, .inl (G 0, 12, .inl fma))]) [0, 2] rfl
                          have tn888_ : nIT w560 := fun _ => nI_toInt (by first | omega | (have t_hj6 := hj6; have t_n8 := n8; have t_hj13 := hj13; have t_n44 := n44; have t_hj49 := hj49; have t_n52 := n52; have t_w562 := w562; have t_n75 := n75; omega))
                          refine va_calli (va_runV (As := [.int (nI j9), .int 0]) (rest := []) ⟨hx, hb, hml, hown, hg⟩ (c_X11_isMarked l dC dI G _ h0 st N B rp tp T cu lt od th be ln S ma M ah bh ik la lg ce (nI j9) 0 vrs vrb vhs vca vxs vxb vfa vbr vba vsp vhe vtk vva vto fma hN hB_ hT_ hS0 hM_) (kwV hg mfX11_isMarked wt_1228 ⟨Nat.le_of_ble_eq_true rfl, Nat.le_of_ble_eq_true rfl⟩) (preVR hK hPc (ci := 11) (r := (RX11, TX11, 35)) rfl rfl) rfl rfl hl.1 rfl (lv_room (Nat.le_of_ble_eq_true rfl)) dX11_layPaths_110 ⟨Nat.le_of_ble_eq_true rfl, Nat.le_of_ble_eq_true rfl⟩) hS (fun q h1 h2 => absurd h2 (Nat.not_le.mpr h1)) (fun q h => hA q (Nat.le_trans hS.1 h)) (fun r76 ur76 t H1 locs ht hvm w77 hB hz1 hk1 hS => ?_)
                          have hP := keepR hP hk1
                          obtain ⟨w77, w77x⟩ := w77
                          refine lv_if_eq (tgt := 132) hx hb dX11_layPaths_113 rfl (fun c78 => ?_) (fun c78 => ?_)
                          · skip
                            refine lv_iload hx hb dX11_layPaths_132 (lv_at hl 1 rfl) ?_
                            refine lv_bipush (v := (-4)) hx hb dX11_layPaths_134 rfl ?_
                            refine lv_icmp_eq (tgt := 158) hx hb dX11_layPaths_136 rfl (fun c79 => ?_) (fun c79 => ?_)
                            · skip
                              refine lv_iload hx hb dX11_layPaths_158 (lv_at hl 0 rfl) ?_
                              refine lv_bipush (v := (-4)) hx hb dX11_layPaths_160 rfl ?_
                              refine lv_icmp_eq (tgt := 184) hx hb dX11_layPaths_162 rfl (fun c80 => ?_) (fun c80 => ?_)
                              · skip
                                have t_hj6 := hj6
                                have t_n8 := n8
                                have t_hj13 := hj13
                                have t_n44 := n44
                                have t_hj49 := hj49
                                have t_n52 := n52
                                have t_w562 := w562
                                have t_n75 := n75
                                have t_c78 := eqI c78
                                have t_c79 := eqI c79
                                have t_c80 := eqI c80
                                have : ((-4) : Int32).toInt = -4 := qI_m4
                                have : (0 : Int32).toInt = 0 := qI_0
                                have t_n0 : (nI N).toInt = (N : Int) := tn872_ ()
                                have t_n1 : (nI B).toInt = (B : Int) := tn873_ ()
                                have t_n2 : (nI T).toInt = (T : Int) := tn874_ ()
                                have t_n3 : (nI S).toInt = (S : Int) := tn875_ ()
                                have t_n4 : (nI M).toInt = (M : Int) := tn876_ ()
                                have t_n5 : (nI j1).toInt = (j1 : Int) := tn877_ ()
                                have t_n6 : (nI j9).toInt = (j9 : Int) := tn883_ ()
                                have t_n7 : (nI j45).toInt = (j45 : Int) := tn885_ ()
                                have t_n8 : (nI w560).toInt = (w560 : Int) := tn888_ ()
                                exfalso; omega
                              · skip
                                refine lv_aload_n hx hb dX11_layPaths_165 rfl (lv_at hl 5 rfl) ?_
                                refine va_get (D := (dC, dI)) (ci := 11) (v := .ref ah) (C := RX11) (T := TX11) (N := 35) hx hb hg inG11 hown hK.1 hP 0 rfl rfl 28 (Nat.le_of_ble_eq_true rfl) (hg _ wt_906) (fun _ h9 => h9) rfl dX11_layPaths_166 ?_
                                refine lv_bipush (v := 10) hx hb dX11_layPaths_169 rfl ?_
                                refine lv_iload_n hx hb dX11_layPaths_171 rfl (lv_at hl 4 rfl) ?_
                                refine lv_imul hx hb dX11_layPaths_172 ?_
                                refine lv_cg (y := nI (10 * j9)) (by rw [show (10 : Int32) = nI 10 from rfl]; exact pk_mul _ _) ?_
                                refine lv_bipush (v := 10) hx hb dX11_layPaths_173 rfl ?_
                                refine lv_iadd hx hb dX11_layPaths_175 ?_
                                refine lv_cg (y := nI ((10 * j9) + 10)) (by rw [show (10 : Int32) = nI 10 from rfl]; exact nI_add _ _) ?_
                                refine lv_iload hx hb dX11_layPaths_176 (lv_at hl 0 rfl) ?_
                                refine lv_iadd hx hb dX11_layPaths_178 ?_
                                refine lv_cg (y := nI (((10 * j9) + 10) + w560)) (by exact nI_add _ _) ?_
                                refine lv_dup2_11 hx hb dX11_layPaths_179 rfl rfl ?_
                                refine va_iald hx hb hK.1 hP 3 0 rfl rfl (vp_in_nI (by first | omega | (have t_hj6 := hj6; have t_n8 := n8; have t_hj13 := hj13; have t_n44 := n44; have t_hj49 := hj49; have t_n52 := n52; have t_w562 := w562; have t_n75 := n75; have t_c78 := eqI c78; have t_c79 := eqI c79; have t_c80 := neI c80; have tqz_ := qz8_; have tnb_ := nib9 tn872_ tn873_ tn874_ tn875_ tn876_ tn877_ tn883_ tn885_ tn888_; omega)) (by decide)) dX11_layPaths_180 ?_
                                refine lv_cg (y := g46 (((10 * j9) + 10) + w560)) (by rw [nI_clamp (by omega)]) ?_
                                refine lv_iload_n hx hb dX11_layPaths_181 rfl (lv_at hl 2 rfl) ?_
                                refine lv_iadd hx hb dX11_layPaths_182 ?_
                                refine lv_topi (fun v81 ev81 => ?_)
                                refine va_iast hx hb hK.1 hP hD hS 3 0 rfl rfl (vp_in_nI (by first | omega | (have t_hj6 := hj6; have t_n8 := n8; have t_hj13 := hj13; have t_n44 := n44; have t_hj49 := hj49; have t_n52 := n52; have t_w562 := w562; have t_n75 := n75; have t_c78 := eqI c78; have t_c79 := eqI c79; have t_c80 := neI c80; have tqz_ := qz8_; have tnb_ := nib9 tn872_ tn873_ tn874_ tn875_ tn876_ tn877_ tn883_ tn885_ tn888_; omega)) (by decide)) dX11_layPaths_183 (fun H locs hP hD hS => ?_)
                                rw [nI_clamp (by omega)] at hP hD
                                refine lv_iinc (v := nI (j45 + 1)) (lv' := [(2, .int (nI (j45 + 1))), (5, .int (nI w560)), (4, .int (-4)), (3, .int (g46 ((10 * j9) + j45))), (1, .int (nI j9)), (0, .ref h0)]) hx hb dX11_layPaths_184 hl (k := 3) rfl (by rw [show Int32.ofInt 1 = nI 1 from by decide]; exact nI_add _ _) (by decide) rfl (fun ls hl => ?_)
                                refine lv_goto (tgt := 67) hx hb dX11_layPaths_187 rfl ?_
                                exact ih67_47 (j45 + 1) (by omega) (by omega) (upd g46 (((10 * j9) + 10) + w560) v81) _ _ hP hD hS ls (lv_sub hl [0, 4, 5] rfl)
                            · skip
                              exact absurd c79 (by decide)
                          · skip
                            refine lv_aload_n hx hb dX11_layPaths_116 rfl (lv_at hl 5 rfl) ?_
                            refine va_get (D := (dC, dI)) (ci := 11) (v := .ref ah) (C := RX11) (T := TX11) (N := 35) hx hb hg inG11 hown hK.1 hP 0 rfl rfl 28 (Nat.le_of_ble_eq_true rfl) (hg _ wt_906) (fun _ h9 => h9) rfl dX11_layPaths_117 ?_
                            refine lv_bipush (v := 10) hx hb dX11_layPaths_120 rfl ?_
                            refine lv_iload_n hx hb dX11_layPaths_122 rfl (lv_at hl 4 rfl) ?_
                            refine lv_imul hx hb dX11_layPaths_123 ?_
                            refine lv_cg (y := nI (10 * j9)) (by rw [show (10 : Int32) = nI 10 from rfl]; exact pk_mul _ _) ?_
                            refine lv_bipush (v := 10) hx hb dX11_layPaths_124 rfl ?_
                            refine lv_iadd hx hb dX11_layPaths_126 ?_
                            refine lv_cg (y := nI ((10 * j9) + 10)) (by rw [show (10 : Int32) = nI 10 from rfl]; exact nI_add _ _) ?_
                            refine lv_dup2_11 hx hb dX11_layPaths_127 rfl rfl ?_
                            refine va_iald hx hb hK.1 hP 3 0 rfl rfl (vp_in_nI (by first | omega | (have t_hj6 := hj6; have t_n8 := n8; have t_hj13 := hj13; have t_n44 := n44; have t_hj49 := hj49; have t_n52 := n52; have t_w562 := w562; have t_n75 := n75; have t_c78 := neI c78; have : (0 : Int32).toInt = 0 := qI_0; have tnb_ := nib9 tn872_ tn873_ tn874_ tn875_ tn876_ tn877_ tn883_ tn885_ tn888_; omega)) (by decide)) dX11_layPaths_128 ?_
                            refine lv_cg (y := g46 ((10 * j9) + 10)) (by rw [nI_clamp (by omega)]) ?_
                            refine lv_iload_n hx hb dX11_layPaths_129 rfl (lv_at hl 2 rfl) ?_
                            refine lv_iadd hx hb dX11_layPaths_130 ?_
                            refine lv_topi (fun v82 ev82 => ?_)
                            refine va_iast hx hb hK.1 hP hD hS 3 0 rfl rfl (vp_in_nI (by first | omega | (have t_hj6 := hj6; have t_n8 := n8; have t_hj13 := hj13; have t_n44 := n44; have t_hj49 := hj49; have t_n52 := n52; have t_w562 := w562; have t_n75 := n75; have t_c78 := neI c78; have : (0 : Int32).toInt = 0 := qI_0; have tnb_ := nib9 tn872_ tn873_ tn874_ tn875_ tn876_ tn877_ tn883_ tn885_ tn888_; omega)) (by decide)) dX11_layPaths_131 (fun H locs hP hD hS => ?_)
                            rw [nI_clamp (by omega)] at hP hD
                            refine lv_iload hx hb dX11_layPaths_132 (lv_at hl 1 rfl) ?_
                            refine lv_bipush (v := (-4)) hx hb dX11_layPaths_134 rfl ?_
                            refine lv_icmp_eq (tgt := 158) hx hb dX11_layPaths_136 rfl (fun c83 => ?_) (fun c83 => ?_)
                            · skip
                              refine lv_iload hx hb dX11_layPaths_158 (lv_at hl 0 rfl) ?_
                              refine lv_bipush (v := (-4)) hx hb dX11_layPaths_160 rfl ?_
                              refine lv_icmp_eq (tgt := 184) hx hb dX11_layPaths_162 rfl (fun c84 => ?_) (fun c84 => ?_)
                              · skip
                                have t_hj6 := hj6
                                have t_n8 := n8
                                have t_hj13 := hj13
                                have t_n44 := n44
                                have t_hj49 := hj49
                                have t_n52 := n52
                                have t_w562 := w562
                                have t_n75 := n75
                                have t_c78 := neI c78
                                have t_c83 := eqI c83
                                have t_c84 := eqI c84
                                have : ((-4) : Int32).toInt = -4 := qI_m4
                                have : (0 : Int32).toInt = 0 := qI_0
                                have t_n0 : (nI N).toInt = (N : Int) := tn872_ ()
                                have t_n1 : (nI B).toInt = (B : Int) := tn873_ ()
                                have t_n2 : (nI T).toInt = (T : Int) := tn874_ ()
                                have t_n3 : (nI S).toInt = (S : Int) := tn875_ ()
                                have t_n4 : (nI M).toInt = (M : Int) := tn876_ ()
                                have t_n5 : (nI j1).toInt = (j1 : Int) := tn877_ ()
                                have t_n6 : (nI j9).toInt = (j9 : Int) := tn883_ ()
                                have t_n7 : (nI j45).toInt = (j45 : Int) := tn885_ ()
                                have t_n8 : (nI w560).toInt = (w560 : Int) := tn888_ ()
                                exfalso; omega
                              · skip
                                refine lv_aload_n hx hb dX11_layPaths_165 rfl (lv_at hl 5 rfl) ?_
                                refine va_get (D := (dC, dI)) (ci := 11) (v := .ref ah) (C := RX11) (T := TX11) (N := 35) hx hb hg inG11 hown hK.1 hP 0 rfl rfl 28 (Nat.le_of_ble_eq_true rfl) (hg _ wt_906) (fun _ h9 => h9) rfl dX11_layPaths_166 ?_
                                refine lv_bipush (v := 10) hx hb dX11_layPaths_169 rfl ?_
                                refine lv_iload_n hx hb dX11_layPaths_171 rfl (lv_at hl 4 rfl) ?_
                                refine lv_imul hx hb dX11_layPaths_172 ?_
                                refine lv_cg (y := nI (10 * j9)) (by rw [show (10 : Int32) = nI 10 from rfl]; exact pk_mul _ _) ?_
                                refine lv_bipush (v := 10) hx hb dX11_layPaths_173 rfl ?_
                                refine lv_iadd hx hb dX11_layPaths_175 ?_
                                refine lv_cg (y := nI ((10 * j9) + 10)) (by rw [show (10 : Int32) = nI 10 from rfl]; exact nI_add _ _) ?_
                                refine lv_iload hx hb dX11_layPaths_176 (lv_at hl 0 rfl) ?_
                                refine lv_iadd hx hb dX11_layPaths_178 ?_
                                refine lv_cg (y := nI (((10 * j9) + 10) + w560)) (by exact nI_add _ _) ?_
                                refine lv_dup2_11 hx hb dX11_layPaths_179 rfl rfl ?_
                                refine va_iald hx hb hK.1 hP 3 0 rfl rfl (vp_in_nI (by first | omega | (have t_hj6 := hj6; have t_n8 := n8; have t_hj13 := hj13; have t_n44 := n44; have t_hj49 := hj49; have t_n52 := n52; have t_w562 := w562; have t_n75 := n75; have t_c78 := neI c78; have t_c83 := eqI c83; have t_c84 := neI c84; have tqz_ := qz8_; have tnb_ := nib9 tn872_ tn873_ tn874_ tn875_ tn876_ tn877_ tn883_ tn885_ tn888_; omega)) (by decide)) dX11_layPaths_180 ?_
                                refine lv_cg (y := (upd g46 ((10 * j9) + 10) v82) (((10 * j9) + 10) + w560)) (by rw [nI_clamp (by omega)]) ?_
                                refine lv_iload_n hx hb dX11_layPaths_181 rfl (lv_at hl 2 rfl) ?_
                                refine lv_iadd hx hb dX11_layPaths_182 ?_
                                refine lv_topi (fun v85 ev85 => ?_)
                                refine va_iast hx hb hK.1 hP hD hS 3 0 rfl rfl (vp_in_nI (by first | omega | (have t_hj6 := hj6; have t_n8 := n8; have t_hj13 := hj13; have t_n44 := n44; have t_hj49 := hj49; have t_n52 := n52; have t_w562 := w562; have t_n75 := n75; have t_c78 := neI c78; have t_c83 := eqI c83; have t_c84 := neI c84; have tqz_ := qz8_; have tnb_ := nib9 tn872_ tn873_ tn874_ tn875_ tn876_ tn877_ tn883_ tn885_ tn888_; omega)) (by decide)) dX11_layPaths_183 (fun H locs hP hD hS => ?_)
                                rw [nI_clamp (by omega)] at hP hD
                                refine lv_iinc (v := nI (j45 + 1)) (lv' := [(2, .int (nI (j45 + 1))), (5, .int (nI w560)), (4, .int (-4)), (3, .int (g46 ((10 * j9) + j45))), (1, .int (nI j9)), (0, .ref h0)]) hx hb dX11_layPaths_184 hl (k := 3) rfl (by rw [show Int32.ofInt 1 = nI 1 from by decide]; exact nI_add _ _) (by decide) rfl (fun ls hl => ?_)
                                refine lv_goto (tgt := 67) hx hb dX11_layPaths_187 rfl ?_
                                exact ih67_47 (j45 + 1) (by omega) (by omega) (upd (upd g46 ((10 * j9) + 10) v82) (((10 * j9) + 10) + w560) v85) _ _ hP hD hS ls (lv_sub hl [0, 4, 5] rfl)
                            · skip
                              exact absurd c83 (by decide)
                    · skip
                      refine lv_cg (y := nI w540) w541 ?_
                      refine lv_istore (lv' := [(4, .int (nI w540)), (3, .int (g46 ((10 * j9) + j45))), (2, .int (nI j45)), (1, .int (nI j9)), (0, .ref h0)]) hx hb dX11_layPaths_92 hl (by decide) rfl (fun ls hl => ?_)
                      refine lv_aload_n hx hb dX11_layPaths_94 rfl (lv_at hl 4 rfl) ?_
                      refine lv_iload_n hx hb dX11_layPaths_95 rfl (lv_at hl 3 rfl) ?_
                      refine lv_iload_n hx hb dX11_layPaths_96 rfl (lv_at hl 2 rfl) ?_
                      refine lv_iconst (v := 0) hx hb dX11_layPaths_97 rfl ?_
                      have hPc := hP.sub (ws' := [(h0, .inr (11, [.ref st, .int (nI N), .int (nI B), .ref rp, .int vrs, .int vrb, .int vhs, .int vca, .int vxs, .int vxb, .ref tp, .int (nI T), .int vfa, .int vbr, .int vba, .int vsp, .int vhe, .int vtk, .int vva, .ref cu, .ref lt, .ref od, .ref th, .ref be, .ref ln, .int (nI S), .ref ma, .int (nI M), .ref ah, .ref bh, .ref ik, .ref la, .ref lg, .ref ce, .int vto])), (st, .inl (G 0, 196, .inl fst)), (ma, .inl (G 0, 12, .inl fma))]) [0, 1, 2] rfl
                      have tn889_ : nIT w540 := fun _ => nI_toInt (by first | omega | (have t_hj6 := hj6; have t_n8 := n8; have t_hj13 := hj13; have t_n44 := n44; have t_hj49 := hj49; have t_n52 := n52; have t_w542 := w542; omega))
                      refine va_calli (va_runV (As := [.int (nI j9), .int (nI j45), .int 0]) (rest := []) ⟨hx, hb, hml, hown, hg⟩ (c_X11_depthThen l dC dI G _ h0 j9 j45 st N B rp tp T cu lt od th be ln S ma M ah bh ik la lg ce 0 vrs vrb vhs vca vxs vxb vfa vbr vba vsp vhe vtk vva vto fst fma hN hB_ hT_ hS0 hM_ hst (by first | omega | (have t_hj6 := hj6; have t_n8 := n8; have t_hj13 := hj13; have t_n44 := n44; have t_hj49 := hj49; have t_n52 := n52; have t_w542 := w542; have tnb_ := nib9 tn872_ tn873_ tn874_ tn875_ tn876_ tn877_ tn883_ tn885_ tn889_; omega)) (by first | omega | (have t_hj6 := hj6; have t_n8 := n8; have t_hj13 := hj13; have t_n44 := n44; have t_hj49 := hj49; have t_n52 := n52; have t_w542 := w542; have tnb_ := nib9 tn872_ tn873_ tn874_ tn875_ tn876_ tn877_ tn883_ tn885_ tn889_; omega))) (kwV hg mfX11_depthThen wt_1224 ⟨Nat.le_of_ble_eq_true rfl, Nat.le_of_ble_eq_true rfl⟩) (preVR hK hPc (ci := 11) (r := (RX11, TX11, 35)) rfl rfl) rfl rfl hl.1 rfl (lv_room (Nat.le_of_ble_eq_true rfl)) dX11_layPaths_98 ⟨Nat.le_of_ble_eq_true rfl, Nat.le_of_ble_eq_true rfl⟩) hS (fun q h1 h2 => absurd h2 (Nat.not_le.mpr h1)) (fun q h => hA q (Nat.le_trans hS.1 h)) (fun r86 ur86 t H1 locs ht hvm w87 hB hz1 hk1 hS => ?_)
                      have hP := keepR hP hk1
                      obtain ⟨w87, w87x⟩ := w87
                      rcases w87 with w871 | ⟨w870, w871, w872⟩
                      · skip
                        refine lv_cg (y := (-4)) w871 ?_
                        refine lv_istore (lv' := [(5, .int (-4)), (4, .int (nI w540)), (3, .int (g46 ((10 * j9) + j45))), (2, .int (nI j45)), (1, .int (nI j9)), (0, .ref h0)]) hx hb dX11_layPaths_101 hl (by decide) rfl (fun ls hl => ?_)
                        refine lv_iload_n hx hb dX11_layPaths_103 rfl (lv_at hl 3 rfl) ?_
                        refine lv_if_ne (tgt := 132) hx hb dX11_layPaths_104 rfl (fun c88 => ?_) (fun c88 => ?_)
                        · skip
                          have n89 : j45 ≠ 0 := by have t := neI c88; rw [show (nI (j45)).toInt = ((j45 : Nat) : Int) from tn885_ ()] at t; have : (0 : Int32).toInt = 0 := qI_0; omega
                          refine lv_iload hx hb dX11_layPaths_132 (lv_at hl 1 rfl) ?_
                          refine lv_bipush (v := (-4)) hx hb dX11_layPaths_134 rfl ?_
                          refine lv_icmp_eq (tgt := 158) hx hb dX11_layPaths_136 rfl (fun c90 => ?_) (fun c90 => ?_)
                          · skip
                            have t_hj6 := hj6
                            have t_n8 := n8
                            have t_hj13 := hj13
                            have t_n44 := n44
                            have t_hj49 := hj49
                            have t_n52 := n52
                            have t_w542 := w542
                            have t_n89 := n89
                            have t_c90 := eqI c90
                            have : ((-4) : Int32).toInt = -4 := qI_m4
                            have t_n0 : (nI N).toInt = (N : Int) := tn872_ ()
                            have t_n1 : (nI B).toInt = (B : Int) := tn873_ ()
                            have t_n2 : (nI T).toInt = (T : Int) := tn874_ ()
                            have t_n3 : (nI S).toInt = (S : Int) := tn875_ ()
                            have t_n4 : (nI M).toInt = (M : Int) := tn876_ ()
                            have t_n5 : (nI j1).toInt = (j1 : Int) := tn877_ ()
                            have t_n6 : (nI j9).toInt = (j9 : Int) := tn883_ ()
                            have t_n7 : (nI j45).toInt = (j45 : Int) := tn885_ ()
                            have t_n8 : (nI w540).toInt = (w540 : Int) := tn889_ ()
                            exfalso; omega
                          · skip
                            refine lv_aload_n hx hb dX11_layPaths_139 rfl (lv_at hl 5 rfl) ?_
                            refine va_get (D := (dC, dI)) (ci := 11) (v := .ref ah) (C := RX11) (T := TX11) (N := 35) hx hb hg inG11 hown hK.1 hP 0 rfl rfl 28 (Nat.le_of_ble_eq_true rfl) (hg _ wt_906) (fun _ h9 => h9) rfl dX11_layPaths_140 ?_
                            refine lv_bipush (v := 10) hx hb dX11_layPaths_143 rfl ?_
                            refine lv_iload_n hx hb dX11_layPaths_145 rfl (lv_at hl 4 rfl) ?_
                            refine lv_imul hx hb dX11_layPaths_146 ?_
                            refine lv_cg (y := nI (10 * j9)) (by rw [show (10 : Int32) = nI 10 from rfl]; exact pk_mul _ _) ?_
                            refine lv_bipush (v := 10) hx hb dX11_layPaths_147 rfl ?_
                            refine lv_iadd hx hb dX11_layPaths_149 ?_
                            refine lv_cg (y := nI ((10 * j9) + 10)) (by rw [show (10 : Int32) = nI 10 from rfl]; exact nI_add _ _) ?_
                            refine lv_iload hx hb dX11_layPaths_150 (lv_at hl 1 rfl) ?_
                            refine lv_iadd hx hb dX11_layPaths_152 ?_
                            refine lv_cg (y := nI (((10 * j9) + 10) + w540)) (by exact nI_add _ _) ?_
                            refine lv_dup2_11 hx hb dX11_layPaths_153 rfl rfl ?_
                            refine va_iald hx hb hK.1 hP 3 0 rfl rfl (vp_in_nI (by first | omega | (have t_hj6 := hj6; have t_n8 := n8; have t_hj13 := hj13; have t_n44 := n44; have t_hj49 := hj49; have t_n52 := n52; have t_w542 := w542; have t_n89 := n89; have t_c90 := neI c90; have : ((-4) : Int32).toInt = -4 := qI_m4; have tnb_ := nib9 tn872_ tn873_ tn874_ tn875_ tn876_ tn877_ tn883_ tn885_ tn889_; omega)) (by decide)) dX11_layPaths_154 ?_
                            refine lv_cg (y := g46 (((10 * j9) + 10) + w540)) (by rw [nI_clamp (by omega)]) ?_
                            refine lv_iload_n hx hb dX11_layPaths_155 rfl (lv_at hl 2 rfl) ?_
                            refine lv_iadd hx hb dX11_layPaths_156 ?_
                            refine lv_topi (fun v91 ev91 => ?_)
                            refine va_iast hx hb hK.1 hP hD hS 3 0 rfl rfl (vp_in_nI (by first | omega | (have t_hj6 := hj6; have t_n8 := n8; have t_hj13 := hj13; have t_n44 := n44; have t_hj49 := hj49; have t_n52 := n52; have t_w542 := w542; have t_n89 := n89; have t_c90 := neI c90; have : ((-4) : Int32).toInt = -4 := qI_m4; have tnb_ := nib9 tn872_ tn873_ tn874_ tn875_ tn876_ tn877_ tn883_ tn885_ tn889_; omega)) (by decide)) dX11_layPaths_157 (fun H locs hP hD hS => ?_)
                            rw [nI_clamp (by omega)] at hP hD
                            refine lv_iload hx hb dX11_layPaths_158 (lv_at hl 0 rfl) ?_
                            refine lv_bipush (v := (-4)) hx hb dX11_layPaths_160 rfl ?_
                            refine lv_icmp_eq (tgt := 184) hx hb dX11_layPaths_162 rfl (fun c92 => ?_) (fun c92 => ?_)
                            · skip
                              refine lv_iinc (v := nI (j45 + 1)) (lv' := [(2, .int (nI (j45 + 1))), (5, .int (-4)), (4, .int (nI w540)), (3, .int (g46 ((10 * j9) + j45))), (1, .int (nI j9)), (0, .ref h0)]) hx hb dX11_layPaths_184 hl (k := 3) rfl (by rw [show Int32.ofInt 1 = nI 1 from by decide]; exact nI_add _ _) (by decide) rfl (fun ls hl => ?_)
                              refine lv_goto (tgt := 67) hx hb dX11_layPaths_187 rfl ?_
                              exact ih67_47 (j45 + 1) (by omega) (by omega) (upd g46 (((10 * j9) + 10) + w540) v91) _ _ hP hD hS ls (lv_sub hl [0, 4, 5] rfl)
                            · skip
                              exact absurd c92 (by decide)
                        · skip
                          have n93 : j45 = 0 := by have t := eqI c88; rw [show (nI (j45)).toInt = ((j45 : Nat) : Int) from tn885_ ()] at t; have : (0 : Int32).toInt = 0 := qI_0; omega
                          refine lv_aload_n hx hb dX11_layPaths_107 rfl (lv_at hl 5 rfl) ?_
                          refine lv_iload_n hx hb dX11_layPaths_108 rfl (lv_at hl 4 rfl) ?_
                          refine lv_iconst (v := 0) hx hb dX11_layPaths_109 rfl ?_
                          have hPc := hP.sub (ws' := [(h0, .inr (11, [.ref st, .int (nI N), .int (nI B), .ref rp, .int vrs, .int vrb, .int vhs, .int vca, .int vxs, .int vxb, .ref tp, .int (nI T), .int vfa, .int vbr, .int vba, .int vsp, .int vhe, .int vtk, .int vva, .ref cu, .ref lt, .ref od, .ref th, .ref be, .ref ln, .int (nI S), .ref ma, .int (nI M), .ref ah, .ref bh, .ref ik, .ref la, .ref lg, .ref ce, .int vto])), (ma, .inl (G 0, 12, .inl fma))]) [0, 2] rfl
                          refine va_calli (va_runV (As := [.int (nI j9), .int 0]) (rest := []) ⟨hx, hb, hml, hown, hg⟩ (c_X11_isMarked l dC dI G _ h0 st N B rp tp T cu lt od th be ln S ma M ah bh ik la lg ce (nI j9) 0 vrs vrb vhs vca vxs vxb vfa vbr vba vsp vhe vtk vva vto fma hN hB_ hT_ hS0 hM_) (kwV hg mfX11_isMarked wt_1228 ⟨Nat.le_of_ble_eq_true rfl, Nat.le_of_ble_eq_true rfl⟩) (preVR hK hPc (ci := 11) (r := (RX11, TX11, 35)) rfl rfl) rfl rfl hl.1 rfl (lv_room (Nat.le_of_ble_eq_true rfl)) dX11_layPaths_110 ⟨Nat.le_of_ble_eq_true rfl, Nat.le_of_ble_eq_true rfl⟩) hS (fun q h1 h2 => absurd h2 (Nat.not_le.mpr h1)) (fun q h => hA q (Nat.le_trans hS.1 h)) (fun r94 ur94 t H1 locs ht hvm w95 hB hz1 hk1 hS => ?_)
                          have hP := keepR hP hk1
                          obtain ⟨w95, w95x⟩ := w95
                          refine lv_if_eq (tgt := 132) hx hb dX11_layPaths_113 rfl (fun c96 => ?_) (fun c96 => ?_)
                          · skip
                            refine lv_iload hx hb dX11_layPaths_132 (lv_at hl 1 rfl) ?_
                            refine lv_bipush (v := (-4)) hx hb dX11_layPaths_134 rfl ?_
                            refine lv_icmp_eq (tgt := 158) hx hb dX11_layPaths_136 rfl (fun c97 => ?_) (fun c97 => ?_)
                            · skip
                              have t_hj6 := hj6
                              have t_n8 := n8
                              have t_hj13 := hj13
                              have t_n44 := n44
                              have t_hj49 := hj49
                              have t_n52 := n52
                              have t_w542 := w542
                              have t_n93 := n93
                              have t_c96 := eqI c96
                              have t_c97 := eqI c97
                              have : ((-4) : Int32).toInt = -4 := qI_m4
                              have : (0 : Int32).toInt = 0 := qI_0
                              have t_n0 : (nI N).toInt = (N : Int) := tn872_ ()
                              have t_n1 : (nI B).toInt = (B : Int) := tn873_ ()
                              have t_n2 : (nI T).toInt = (T : Int) := tn874_ ()
                              have t_n3 : (nI S).toInt = (S : Int) := tn875_ ()
                              have t_n4 : (nI M).toInt = (M : Int) := tn876_ ()
                              have t_n5 : (nI j1).toInt = (j1 : Int) := tn877_ ()
                              have t_n6 : (nI j9).toInt = (j9 : Int) := tn883_ ()
                              have t_n7 : (nI j45).toInt = (j45 : Int) := tn885_ ()
                              have t_n8 : (nI w540).toInt = (w540 : Int) := tn889_ ()
                              exfalso; omega
                            · skip
                              refine lv_aload_n hx hb dX11_layPaths_139 rfl (lv_at hl 5 rfl) ?_
                              refine va_get (D := (dC, dI)) (ci := 11) (v := .ref ah) (C := RX11) (T := TX11) (N := 35) hx hb hg inG11 hown hK.1 hP 0 rfl rfl 28 (Nat.le_of_ble_eq_true rfl) (hg _ wt_906) (fun _ h9 => h9) rfl dX11_layPaths_140 ?_
                              refine lv_bipush (v := 10) hx hb dX11_layPaths_143 rfl ?_
                              refine lv_iload_n hx hb dX11_layPaths_145 rfl (lv_at hl 4 rfl) ?_
                              refine lv_imul hx hb dX11_layPaths_146 ?_
                              refine lv_cg (y := nI (10 * j9)) (by rw [show (10 : Int32) = nI 10 from rfl]; exact pk_mul _ _) ?_
                              refine lv_bipush (v := 10) hx hb dX11_layPaths_147 rfl ?_
                              refine lv_iadd hx hb dX11_layPaths_149 ?_
                              refine lv_cg (y := nI ((10 * j9) + 10)) (by rw [show (10 : Int32) = nI 10 from rfl]; exact nI_add _ _) ?_
                              refine lv_iload hx hb dX11_layPaths_150 (lv_at hl 1 rfl) ?_
                              refine lv_iadd hx hb dX11_layPaths_152 ?_
                              refine lv_cg (y := nI (((10 * j9) + 10) + w540)) (by exact nI_add _ _) ?_
                              refine lv_dup2_11 hx hb dX11_layPaths_153 rfl rfl ?_
                              refine va_iald hx hb hK.1 hP 3 0 rfl rfl (vp_in_nI (by first | omega | (have t_hj6 := hj6; have t_n8 := n8; have t_hj13 := hj13; have t_n44 := n44; have t_hj49 := hj49; have t_n52 := n52; have t_w542 := w542; have t_n93 := n93; have t_c96 := eqI c96; have t_c97 := neI c97; have tqz_ := qz8_; have tnb_ := nib9 tn872_ tn873_ tn874_ tn875_ tn876_ tn877_ tn883_ tn885_ tn889_; omega)) (by decide)) dX11_layPaths_154 ?_
                              refine lv_cg (y := g46 (((10 * j9) + 10) + w540)) (by rw [nI_clamp (by omega)]) ?_
                              refine lv_iload_n hx hb dX11_layPaths_155 rfl (lv_at hl 2 rfl) ?_
                              refine lv_iadd hx hb dX11_layPaths_156 ?_
                              refine lv_topi (fun v98 ev98 => ?_)
                              refine va_iast hx hb hK.1 hP hD hS 3 0 rfl rfl (vp_in_nI (by first | omega | (have t_hj6 := hj6; have t_n8 := n8; have t_hj13 := hj13; have t_n44 := n44; have t_hj49 := hj49; have t_n52 := n52; have t_w542 := w542; have t_n93 := n93; have t_c96 := eqI c96; have t_c97 := neI c97; have tqz_ := qz8_; have tnb_ := nib9 tn872_ tn873_ tn874_ tn875_ tn876_ tn877_ tn883_ tn885_ tn889_; omega)) (by decide)) dX11_layPaths_157 (fun H locs hP hD hS => ?_)
                              rw [nI_clamp (by omega)] at hP hD
                              refine lv_iload hx hb dX11_layPaths_158 (lv_at hl 0 rfl) ?_
                              refine lv_bipush (v := (-4)) hx hb dX11_layPaths_160 rfl ?_
                              refine lv_icmp_eq (tgt := 184) hx hb dX11_layPaths_162 rfl (fun c99 => ?_) (fun c99 => ?_)
                              · skip
                                refine lv_iinc (v := nI (j45 + 1)) (lv' := [(2, .int (nI (j45 + 1))), (5, .int (-4)), (4, .int (nI w540)), (3, .int (g46 ((10 * j9) + j45))), (1, .int (nI j9)), (0, .ref h0)]) hx hb dX11_layPaths_184 hl (k := 3) rfl (by rw [show Int32.ofInt 1 = nI 1 from by decide]; exact nI_add _ _) (by decide) rfl (fun ls hl => ?_)
                                refine lv_goto (tgt := 67) hx hb dX11_layPaths_187 rfl ?_
                                exact ih67_47 (j45 + 1) (by omega) (by omega) (upd g46 (((10 * j9) + 10) + w540) v98) _ _ hP hD hS ls (lv_sub hl [0, 4, 5] rfl)
                              · skip
                                exact absurd c99 (by decide)
                          · skip
                            refine lv_aload_n hx hb dX11_layPaths_116 rfl (lv_at hl 5 rfl) ?_
                            refine va_get (D := (dC, dI)) (ci := 11) (v := .ref ah) (C := RX11) (T := TX11) (N := 35) hx hb hg inG11 hown hK.1 hP 0 rfl rfl 28 (Nat.le_of_ble_eq_true rfl) (hg _ wt_906) (fun _ h9 => h9) rfl dX11_layPaths_117 ?_
                            refine lv_bipush (v := 10) hx hb dX11_layPaths_120 rfl ?_
                            refine lv_iload_n hx hb dX11_layPaths_122 rfl (lv_at hl 4 rfl) ?_
                            refine lv_imul hx hb dX11_layPaths_123 ?_
                            refine lv_cg (y := nI (10 * j9)) (by rw [show (10 : Int32) = nI 10 from rfl]; exact pk_mul _ _) ?_
                            refine lv_bipush (v := 10) hx hb dX11_layPaths_124 rfl ?_
                            refine lv_iadd hx hb dX11_layPaths_126 ?_
                            refine lv_cg (y := nI ((10 * j9) + 10)) (by rw [show (10 : Int32) = nI 10 from rfl]; exact nI_add _ _) ?_
                            refine lv_dup2_11 hx hb dX11_layPaths_127 rfl rfl ?_
                            refine va_iald hx hb hK.1 hP 3 0 rfl rfl (vp_in_nI (by first | omega | (have t_hj6 := hj6; have t_n8 := n8; have t_hj13 := hj13; have t_n44 := n44; have t_hj49 := hj49; have t_n52 := n52; have t_w542 := w542; have t_n93 := n93; have t_c96 := neI c96; have : (0 : Int32).toInt = 0 := qI_0; have tnb_ := nib9 tn872_ tn873_ tn874_ tn875_ tn876_ tn877_ tn883_ tn885_ tn889_; omega)) (by decide)) dX11_layPaths_128 ?_
                            refine lv_cg (y := g46 ((10 * j9) + 10)) (by rw [nI_clamp (by omega)]) ?_
                            refine lv_iload_n hx hb dX11_layPaths_129 rfl (lv_at hl 2 rfl) ?_
                            refine lv_iadd hx hb dX11_layPaths_130 ?_
                            refine lv_topi (fun v100 ev100 => ?_)
                            refine va_iast hx hb hK.1 hP hD hS 3 0 rfl rfl (vp_in_nI (by first | omega | (have t_hj6 := hj6; have t_n8 := n8; have t_hj13 := hj13; have t_n44 := n44; have t_hj49 := hj49; have t_n52 := n52; have t_w542 := w542; have t_n93 := n93; have t_c96 := neI c96; have : (0 : Int32).toInt = 0 := qI_0; have tnb_ := nib9 tn872_ tn873_ tn874_ tn875_ tn876_ tn877_ tn883_ tn885_ tn889_; omega)) (by decide)) dX11_layPaths_131 (fun H locs hP hD hS => ?_)
                            rw [nI_clamp (by omega)] at hP hD
                            refine lv_iload hx hb dX11_layPaths_132 (lv_at hl 1 rfl) ?_
                            refine lv_bipush (v := (-4)) hx hb dX11_layPaths_134 rfl ?_
                            refine lv_icmp_eq (tgt := 158) hx hb dX11_layPaths_136 rfl (fun c101 => ?_) (fun c101 => ?_)
                            · skip
                              have t_hj6 := hj6
                              have t_n8 := n8
                              have t_hj13 := hj13
                              have t_n44 := n44
                              have t_hj49 := hj49
                              have t_n52 := n52
                              have t_w542 := w542
                              have t_n93 := n93
                              have t_c96 := neI c96
                              have t_c101 := eqI c101
                              have : ((-4) : Int32).toInt = -4 := qI_m4
                              have : (0 : Int32).toInt = 0 := qI_0
                              have t_n0 : (nI N).toInt = (N : Int) := tn872_ ()
                              have t_n1 : (nI B).toInt = (B : Int) := tn873_ ()
                              have t_n2 : (nI T).toInt = (T : Int) := tn874_ ()
                              have t_n3 : (nI S).toInt = (S : Int) := tn875_ ()
                              have t_n4 : (nI M).toInt = (M : Int) := tn876_ ()
                              have t_n5 : (nI j1).toInt = (j1 : Int) := tn877_ ()
                              have t_n6 : (nI j9).toInt = (j9 : Int) := tn883_ ()
                              have t_n7 : (nI j45).toInt = (j45 : Int) := tn885_ ()
                              have t_n8 : (nI w540).toInt = (w540 : Int) := tn889_ ()
                              exfalso; omega
                            · skip
                              refine lv_aload_n hx hb dX11_layPaths_139 rfl (lv_at hl 5 rfl) ?_
                              refine va_get (D := (dC, dI)) (ci := 11) (v := .ref ah) (C := RX11) (T := TX11) (N := 35) hx hb hg inG11 hown hK.1 hP 0 rfl rfl 28 (Nat.le_of_ble_eq_true rfl) (hg _ wt_906) (fun _ h9 => h9) rfl dX11_layPaths_140 ?_
                              refine lv_bipush (v := 10) hx hb dX11_layPaths_143 rfl ?_
                              refine lv_iload_n hx hb dX11_layPaths_145 rfl (lv_at hl 4 rfl) ?_
                              refine lv_imul hx hb dX11_layPaths_146 ?_
                              refine lv_cg (y := nI (10 * j9)) (by rw [show (10 : Int32) = nI 10 from rfl]; exact pk_mul _ _) ?_
                              refine lv_bipush (v := 10) hx hb dX11_layPaths_147 rfl ?_
                              refine lv_iadd hx hb dX11_layPaths_149 ?_
                              refine lv_cg (y := nI ((10 * j9) + 10)) (by rw [show (10 : Int32) = nI 10 from rfl]; exact nI_add _ _) ?_
                              refine lv_iload hx hb dX11_layPaths_150 (lv_at hl 1 rfl) ?_
                              refine lv_iadd hx hb dX11_layPaths_152 ?_
                              refine lv_cg (y := nI (((10 * j9) + 10) + w540)) (by exact nI_add _ _) ?_
                              refine lv_dup2_11 hx hb dX11_layPaths_153 rfl rfl ?_
                              refine va_iald hx hb hK.1 hP 3 0 rfl rfl (vp_in_nI (by first | omega | (have t_hj6 := hj6; have t_n8 := n8; have t_hj13 := hj13; have t_n44 := n44; have t_hj49 := hj49; have t_n52 := n52; have t_w542 := w542; have t_n93 := n93; have t_c96 := neI c96; have t_c101 := neI c101; have tqz_ := qz8_; have tnb_ := nib9 tn872_ tn873_ tn874_ tn875_ tn876_ tn877_ tn883_ tn885_ tn889_; omega)) (by decide)) dX11_layPaths_154 ?_
                              refine lv_cg (y := (upd g46 ((10 * j9) + 10) v100) (((10 * j9) + 10) + w540)) (by rw [nI_clamp (by omega)]) ?_
                              refine lv_iload_n hx hb dX11_layPaths_155 rfl (lv_at hl 2 rfl) ?_
                              refine lv_iadd hx hb dX11_layPaths_156 ?_
                              refine lv_topi (fun v102 ev102 => ?_)
                              refine va_iast hx hb hK.1 hP hD hS 3 0 rfl rfl (vp_in_nI (by first | omega | (have t_hj6 := hj6; have t_n8 := n8; have t_hj13 := hj13; have t_n44 := n44; have t_hj49 := hj49; have t_n52 := n52; have t_w542 := w542; have t_n93 := n93; have t_c96 := neI c96; have t_c101 := neI c101; have tqz_ := qz8_; have tnb_ := nib9 tn872_ tn873_ tn874_ tn875_ tn876_ tn877_ tn883_ tn885_ tn889_; omega)) (by decide)) dX11_layPaths_157 (fun H locs hP hD hS => ?_)
                              rw [nI_clamp (by omega)] at hP hD
                              refine lv_iload hx hb dX11_layPaths_158 (lv_at hl 0 rfl) ?_
                              refine lv_bipush (v := (-4)) hx hb dX11_layPaths_160 rfl ?_
                              refine lv_icmp_eq (tgt := 184) hx hb dX11_layPaths_162 rfl (fun c103 => ?_) (fun c103 => ?_)
                              · skip
                                refine lv_iinc (v := nI (j45 + 1)) (lv' := [(2, .int (nI (j45 + 1))), (5, .int (-4)), (4, .int (nI w540)), (3, .int (g46 ((10 * j9) + j45))), (1, .int (nI j9)), (0, .ref h0)]) hx hb dX11_layPaths_184 hl (k := 3) rfl (by rw [show Int32.ofInt 1 = nI 1 from by decide]; exact nI_add _ _) (by decide) rfl (fun ls hl => ?_)
                                refine lv_goto (tgt := 67) hx hb dX11_layPaths_187 rfl ?_
                                exact ih67_47 (j45 + 1) (by omega) (by omega) (upd (upd g46 ((10 * j9) + 10) v100) (((10 * j9) + 10) + w540) v102) _ _ hP hD hS ls (lv_sub hl [0, 4, 5] rfl)
                              · skip
                                exact absurd c103 (by decide)
                      · skip
                        refine lv_cg (y := nI w870) w871 ?_
                        refine lv_istore (lv' := [(5, .int (nI w870)), (4, .int (nI w540)), (3, .int (g46 ((10 * j9) + j45))), (2, .int (nI j45)), (1, .int (nI j9)), (0, .ref h0)]) hx hb dX11_layPaths_101 hl (by decide) rfl (fun ls hl => ?_)
                        refine lv_iload_n hx hb dX11_layPaths_103 rfl (lv_at hl 3 rfl) ?_
                        refine lv_if_ne (tgt := 132) hx hb dX11_layPaths_104 rfl (fun c104 => ?_) (fun c104 => ?_)
                        · skip
                          have n105 : j45 ≠ 0 := by have t := neI c104; rw [show (nI (j45)).toInt = ((j45 : Nat) : Int) from tn885_ ()] at t; have : (0 : Int32).toInt = 0 := qI_0; omega
                          refine lv_iload hx hb dX11_layPaths_132 (lv_at hl 1 rfl) ?_
                          refine lv_bipush (v := (-4)) hx hb dX11_layPaths_134 rfl ?_
                          refine lv_icmp_eq (tgt := 158) hx hb dX11_layPaths_136 rfl (fun c106 => ?_) (fun c106 => ?_)
                          · skip
                            have t_hj6 := hj6
                            have t_n8 := n8
                            have t_hj13 := hj13
                            have t_n44 := n44
                            have t_hj49 := hj49
                            have t_n52 := n52
                            have t_w542 := w542
                            have t_w872 := w872
                            have t_n105 := n105
                            have t_c106 := eqI c106
                            have : ((-4) : Int32).toInt = -4 := qI_m4
                            have t_n0 : (nI N).toInt = (N : Int) := tn872_ ()
                            have t_n1 : (nI B).toInt = (B : Int) := tn873_ ()
                            have t_n2 : (nI T).toInt = (T : Int) := tn874_ ()
                            have t_n3 : (nI S).toInt = (S : Int) := tn875_ ()
                            have t_n4 : (nI M).toInt = (M : Int) := tn876_ ()
                            have t_n5 : (nI j1).toInt = (j1 : Int) := tn877_ ()
                            have t_n6 : (nI j9).toInt = (j9 : Int) := tn883_ ()
                            have t_n7 : (nI j45).toInt = (j45 : Int) := tn885_ ()
                            have t_n8 : (nI w540).toInt = (w540 : Int) := tn889_ ()
                            have tn890_ : nIT w870 := fun _ => nI_toInt (by omega)
                            have t_n9 : (nI w870).toInt = (w870 : Int) := tn890_ ()
                            exfalso; omega
                          · skip
                            refine lv_aload_n hx hb dX11_layPaths_139 rfl (lv_at hl 5 rfl) ?_
                            refine va_get (D := (dC, dI)) (ci := 11) (v := .ref ah) (C := RX11) (T := TX11) (N := 35) hx hb hg inG11 hown hK.1 hP 0 rfl rfl 28 (Nat.le_of_ble_eq_true rfl) (hg _ wt_906) (fun _ h9 => h9) rfl dX11_layPaths_140 ?_
                            refine lv_bipush (v := 10) hx hb dX11_layPaths_143 rfl ?_
                            refine lv_iload_n hx hb dX11_layPaths_145 rfl (lv_at hl 4 rfl) ?_
                            refine lv_imul hx hb dX11_layPaths_146 ?_
                            refine lv_cg (y := nI (10 * j9)) (by rw [show (10 : Int32) = nI 10 from rfl]; exact pk_mul _ _) ?_
                            refine lv_bipush (v := 10) hx hb dX11_layPaths_147 rfl ?_
                            refine lv_iadd hx hb dX11_layPaths_149 ?_
                            refine lv_cg (y := nI ((10 * j9) + 10)) (by rw [show (10 : Int32) = nI 10 from rfl]; exact nI_add _ _) ?_
                            refine lv_iload hx hb dX11_layPaths_150 (lv_at hl 1 rfl) ?_
                            refine lv_iadd hx hb dX11_layPaths_152 ?_
                            refine lv_cg (y := nI (((10 * j9) + 10) + w540)) (by exact nI_add _ _) ?_
                            refine lv_dup2_11 hx hb dX11_layPaths_153 rfl rfl ?_
                            have tn891_ : nIT w870 := fun _ => nI_toInt (by first | omega | (have t_hj6 := hj6; have t_n8 := n8; have t_hj13 := hj13; have t_n44 := n44; have t_hj49 := hj49; have t_n52 := n52; have t_w542 := w542; have t_w872 := w872; have t_n105 := n105; have t_c106 := neI c106; have : ((-4) : Int32).toInt = -4 := qI_m4; omega))
                            refine va_iald hx hb hK.1 hP 3 0 rfl rfl (vp_in_nI (by first | omega | (have t_hj6 := hj6; have t_n8 := n8; have t_hj13 := hj13; have t_n44 := n44; have t_hj49 := hj49; have t_n52 := n52; have t_w542 := w542; have t_w872 := w872; have t_n105 := n105; have t_c106 := neI c106; have : ((-4) : Int32).toInt = -4 := qI_m4; have tnb_ := nib10 tn872_ tn873_ tn874_ tn875_ tn876_ tn877_ tn883_ tn885_ tn889_ tn891_; omega)) (by decide)) dX11_layPaths_154 ?_
                            refine lv_cg (y := g46 (((10 * j9) + 10) + w540)) (by rw [nI_clamp (by omega)]) ?_
                            refine lv_iload_n hx hb dX11_layPaths_155 rfl (lv_at hl 2 rfl) ?_
                            refine lv_iadd hx hb dX11_layPaths_156 ?_
                            refine lv_topi (fun v107 ev107 => ?_)
                            refine va_iast hx hb hK.1 hP hD hS 3 0 rfl rfl (vp_in_nI (by first | omega | (have t_hj6 := hj6; have t_n8 := n8; have t_hj13 := hj13; have t_n44 := n44; have t_hj49 := hj49; have t_n52 := n52; have t_w542 := w542; have t_w872 := w872; have t_n105 := n105; have t_c106 := neI c106; have : ((-4) : Int32).toInt = -4 := qI_m4; have tnb_ := nib10 tn872_ tn873_ tn874_ tn875_ tn876_ tn877_ tn883_ tn885_ tn889_ tn891_; omega)) (by decide)) dX11_layPaths_157 (fun H locs hP hD hS => ?_)
                            rw [nI_clamp (by omega)] at hP hD
                            refine lv_iload hx hb dX11_layPaths_158 (lv_at hl 0 rfl) ?_
                            refine lv_bipush (v := (-4)) hx hb dX11_layPaths_160 rfl ?_
                            refine lv_icmp_eq (tgt := 184) hx hb dX11_layPaths_162 rfl (fun c108 => ?_) (fun c108 => ?_)
                            · skip
                              have t_hj6 := hj6
                              have t_n8 := n8
                              have t_hj13 := hj13
                              have t_n44 := n44
                              have t_hj49 := hj49
                              have t_n52 := n52
                              have t_w542 := w542
                              have t_w872 := w872
                              have t_n105 := n105
                              have t_c106 := neI c106
                              have t_c108 := eqI c108
                              have : ((-4) : Int32).toInt = -4 := qI_m4
                              have t_n0 : (nI N).toInt = (N : Int) := tn872_ ()
                              have t_n1 : (nI B).toInt = (B : Int) := tn873_ ()
                              have t_n2 : (nI T).toInt = (T : Int) := tn874_ ()
                              have t_n3 : (nI S).toInt = (S : Int) := tn875_ ()
                              have t_n4 : (nI M).toInt = (M : Int) := tn876_ ()
                              have t_n5 : (nI j1).toInt = (j1 : Int) := tn877_ ()
                              have t_n6 : (nI j9).toInt = (j9 : Int) := tn883_ ()
                              have t_n7 : (nI j45).toInt = (j45 : Int) := tn885_ ()
                              have t_n8 : (nI w540).toInt = (w540 : Int) := tn889_ ()
                              have t_n9 : (nI w870).toInt = (w870 : Int) := tn891_ ()
                              exfalso; omega
                            · skip
                              refine lv_aload_n hx hb dX11_layPaths_165 rfl (lv_at hl 5 rfl) ?_
                              refine va_get (D := (dC, dI)) (ci := 11) (v := .ref ah) (C := RX11) (T := TX11) (N := 35) hx hb hg inG11 hown hK.1 hP 0 rfl rfl 28 (Nat.le_of_ble_eq_true rfl) (hg _ wt_906) (fun _ h9 => h9) rfl dX11_layPaths_166 ?_
                              refine lv_bipush (v := 10) hx hb dX11_layPaths_169 rfl ?_
                              refine lv_iload_n hx hb dX11_layPaths_171 rfl (lv_at hl 4 rfl) ?_
                              refine lv_imul hx hb dX11_layPaths_172 ?_
                              refine lv_cg (y := nI (10 * j9)) (by rw [show (10 : Int32) = nI 10 from rfl]; exact pk_mul _ _) ?_
                              refine lv_bipush (v := 10) hx hb dX11_layPaths_173 rfl ?_
                              refine lv_iadd hx hb dX11_layPaths_175 ?_
                              refine lv_cg (y := nI ((10 * j9) + 10)) (by rw [show (10 : Int32) = nI 10 from rfl]; exact nI_add _ _) ?_
                              refine lv_iload hx hb dX11_layPaths_176 (lv_at hl 0 rfl) ?_
                              refine lv_iadd hx hb dX11_layPaths_178 ?_
                              refine lv_cg (y := nI (((10 * j9) + 10) + w870)) (by exact nI_add _ _) ?_
                              refine lv_dup2_11 hx hb dX11_layPaths_179 rfl rfl ?_
                              refine va_iald hx hb hK.1 hP 3 0 rfl rfl (vp_in_nI (by first | omega | (have t_hj6 := hj6; have t_n8 := n8; have t_hj13 := hj13; have t_n44 := n44; have t_hj49 := hj49; have t_n52 := n52; have t_w542 := w542; have t_w872 := w872; have t_n105 := n105; have t_c106 := neI c106; have t_c108 := neI c108; have : ((-4) : Int32).toInt = -4 := qI_m4; have tnb_ := nib10 tn872_ tn873_ tn874_ tn875_ tn876_ tn877_ tn883_ tn885_ tn889_ tn891_; omega)) (by decide)) dX11_layPaths_180 ?_
                              refine lv_cg (y := (upd g46 (((10 * j9) + 10) + w540) v107) (((10 * j9) + 10) + w870)) (by rw [nI_clamp (by omega)]) ?_
                              refine lv_iload_n hx hb dX11_layPaths_181 rfl (lv_at hl 2 rfl) ?_
                              refine lv_iadd hx hb dX11_layPaths_182 ?_
                              refine lv_topi (fun v109 ev109 => ?_)
                              refine va_iast hx hb hK.1 hP hD hS 3 0 rfl rfl (vp_in_nI (by first | omega | (have t_hj6 := hj6; have t_n8 := n8; have t_hj13 := hj13; have t_n44 := n44; have t_hj49 := hj49; have t_n52 := n52; have t_w542 := w542; have t_w872 := w872; have t_n105 := n105; have t_c106 := neI c106; have t_c108 := neI c108; have : ((-4) : Int32).toInt = -4 := qI_m4; have tnb_ := nib10 tn872_ tn873_ tn874_ tn875_ tn876_ tn877_ tn883_ tn885_ tn889_ tn891_; omega)) (by decide)) dX11_layPaths_183 (fun H locs hP hD hS => ?_)
                              rw [nI_clamp (by omega)] at hP hD
                              refine lv_iinc (v := nI (j45 + 1)) (lv' := [(2, .int (nI (j45 + 1))), (5, .int (nI w870)), (4, .int (nI w540)), (3, .int (g46 ((10 * j9) + j45))), (1, .int (nI j9)), (0, .ref h0)]) hx hb dX11_layPaths_184 hl (k := 3) rfl (by rw [show Int32.ofInt 1 = nI 1 from by decide]; exact nI_add _ _) (by decide) rfl (fun ls hl => ?_)
                              refine lv_goto (tgt := 67) hx hb dX11_layPaths_187 rfl ?_
                              exact ih67_47 (j45 + 1) (by omega) (by omega) (upd (upd g46 (((10 * j9) + 10) + w540) v107) (((10 * j9) + 10) + w870) v109) _ _ hP hD hS ls (lv_sub hl [0, 4, 5] rfl)
                        · skip
                          have n110 : j45 = 0 := by have t := eqI c104; rw [show (nI (j45)).toInt = ((j45 : Nat) : Int) from tn885_ ()] at t; have : (0 : Int32).toInt = 0 := qI_0; omega
                          refine lv_aload_n hx hb dX11_layPaths_107 rfl (lv_at hl 5 rfl) ?_
                          refine lv_iload_n hx hb dX11_layPaths_108 rfl (lv_at hl 4 rfl) ?_
                          refine lv_iconst (v := 0) hx hb dX11_layPaths_109 rfl ?_
                          have hPc := hP.sub (ws' := [(h0, .inr (11, [.ref st, .int (nI N), .int (nI B), .ref rp, .int vrs, .int vrb, .int vhs, .int vca, .int vxs, .int vxb, .ref tp, .int (nI T), .int vfa, .int vbr, .int vba, .int vsp, .int vhe, .int vtk, .int vva, .ref cu, .ref lt, .ref od, .ref th, .ref be, .ref ln, .int (nI S), .ref ma, .int (nI M), .ref ah, .ref bh, .ref ik, .ref la, .ref lg, .ref ce, .int vto])), (ma, .inl (G 0, 12, .inl fma))]) [0, 2] rfl
                          have tn892_ : nIT w870 := fun _ => nI_toInt (by first | omega | (have t_hj6 := hj6; have t_n8 := n8; have t_hj13 := hj13; have t_n44 := n44; have t_hj49 := hj49; have t_n52 := n52; have t_w542 := w542; have t_w872 := w872; have t_n110 := n110; omega))
                          refine va_calli (va_runV (As := [.int (nI j9), .int 0]) (rest := []) ⟨hx, hb, hml, hown, hg⟩ (c_X11_isMarked l dC dI G _ h0 st N B rp tp T cu lt od th be ln S ma M ah bh ik la lg ce (nI j9) 0 vrs vrb vhs vca vxs vxb vfa vbr vba vsp vhe vtk vva vto fma hN hB_ hT_ hS0 hM_) (kwV hg mfX11_isMarked wt_1228 ⟨Nat.le_of_ble_eq_true rfl, Nat.le_of_ble_eq_true rfl⟩) (preVR hK hPc (ci := 11) (r := (RX11, TX11, 35)) rfl rfl) rfl rfl hl.1 rfl (lv_room (Nat.le_of_ble_eq_true rfl)) dX11_layPaths_110 ⟨Nat.le_of_ble_eq_true rfl, Nat.le_of_ble_eq_true rfl⟩) hS (fun q h1 h2 => absurd h2 (Nat.not_le.mpr h1)) (fun q h => hA q (Nat.le_trans hS.1 h)) (fun r111 ur111 t H1 locs ht hvm w112 hB hz1 hk1 hS => ?_)
                          have hP := keepR hP hk1
                          obtain ⟨w112, w112x⟩ := w112
                          refine lv_if_eq (tgt := 132) hx hb dX11_layPaths_113 rfl (fun c113 => ?_) (fun c113 => ?_)
                          · skip
                            refine lv_iload hx hb dX11_layPaths_132 (lv_at hl 1 rfl) ?_
                            refine lv_bipush (v := (-4)) hx hb dX11_layPaths_134 rfl ?_
                            refine lv_icmp_eq (tgt := 158) hx hb dX11_layPaths_136 rfl (fun c114 => ?_) (fun c114 => ?_)
                            · skip
                              have t_hj6 := hj6
                              have t_n8 := n8
                              have t_hj13 := hj13
                              have t_n44 := n44
                              have t_hj49 := hj49
                              have t_n52 := n52
                              have t_w542 := w542
                              have t_w872 := w872
                              have t_n110 := n110
                              have t_c113 := eqI c113
                              have t_c114 := eqI c114
                              have : ((-4) : Int32).toInt = -4 := qI_m4
                              have : (0 : Int32).toInt = 0 := qI_0
                              have t_n0 : (nI N).toInt = (N : Int) := tn872_ ()
                              have t_n1 : (nI B).toInt = (B : Int) := tn873_ ()
                              have t_n2 : (nI T).toInt = (T : Int) := tn874_ ()
                              have t_n3 : (nI S).toInt = (S : Int) := tn875_ ()
                              have t_n4 : (nI M).toInt = (M : Int) := tn876_ ()
                              have t_n5 : (nI j1).toInt = (j1 : Int) := tn877_ ()
                              have t_n6 : (nI j9).toInt = (j9 : Int) := tn883_ ()
                              have t_n7 : (nI j45).toInt = (j45 : Int) := tn885_ ()
                              have t_n8 : (nI w540).toInt = (w540 : Int) := tn889_ ()
                              have t_n9 : (nI w870).toInt = (w870 : Int) := tn892_ ()
                              exfalso; omega
                            · skip
                              refine lv_aload_n hx hb dX11_layPaths_139 rfl (lv_at hl 5 rfl) ?_
                              refine va_get (D := (dC, dI)) (ci := 11) (v := .ref ah) (C := RX11) (T := TX11) (N := 35) hx hb hg inG11 hown hK.1 hP 0 rfl rfl 28 (Nat.le_of_ble_eq_true rfl) (hg _ wt_906) (fun _ h9 => h9) rfl dX11_layPaths_140 ?_
                              refine lv_bipush (v := 10) hx hb dX11_layPaths_143 rfl ?_
                              refine lv_iload_n hx hb dX11_layPaths_145 rfl (lv_at hl 4 rfl) ?_
                              refine lv_imul hx hb dX11_layPaths_146 ?_
                              refine lv_cg (y := nI (10 * j9)) (by rw [show (10 : Int32) = nI 10 from rfl]; exact pk_mul _ _) ?_
                              refine lv_bipush (v := 10) hx hb dX11_layPaths_147 rfl ?_
                              refine lv_iadd hx hb dX11_layPaths_149 ?_
                              refine lv_cg (y := nI ((10 * j9) + 10)) (by rw [show (10 : Int32) = nI 10 from rfl]; exact nI_add _ _) ?_
                              refine lv_iload hx hb dX11_layPaths_150 (lv_at hl 1 rfl) ?_
                              refine lv_iadd hx hb dX11_layPaths_152 ?_
                              refine lv_cg (y := nI (((10 * j9) + 10) + w540)) (by exact nI_add _ _) ?_
                              refine lv_dup2_11 hx hb dX11_layPaths_153 rfl rfl ?_
                              refine va_iald hx hb hK.1 hP 3 0 rfl rfl (vp_in_nI (by first | omega | (have t_hj6 := hj6; have t_n8 := n8; have t_hj13 := hj13; have t_n44 := n44; have t_hj49 := hj49; have t_n52 := n52; have t_w542 := w542; have t_w872 := w872; have t_n110 := n110; have t_c113 := eqI c113; have t_c114 := neI c114; have tqz_ := qz8_; have tnb_ := nib10 tn872_ tn873_ tn874_ tn875_ tn876_ tn877_ tn883_ tn885_ tn889_ tn892_; omega)) (by decide)) dX11_layPaths_154 ?_
                              refine lv_cg (y := g46 (((10 * j9) + 10) + w540)) (by rw [nI_clamp (by omega)]) ?_
                              refine lv_iload_n hx hb dX11_layPaths_155 rfl (lv_at hl 2 rfl) ?_
                              refine lv_iadd hx hb dX11_layPaths_156 ?_
                              refine lv_topi (fun v115 ev115 => ?_)
                              refine va_iast hx hb hK.1 hP hD hS 3 0 rfl rfl (vp_in_nI (by first | omega | (have t_hj6 := hj6; have t_n8 := n8; have t_hj13 := hj13; have t_n44 := n44; have t_hj49 := hj49; have t_n52 := n52; have t_w542 := w542; have t_w872 := w872; have t_n110 := n110; have t_c113 := eqI c113; have t_c114 := neI c114; have tqz_ := qz8_; have tnb_ := nib10 tn872_ tn873_ tn874_ tn875_ tn876_ tn877_ tn883_ tn885_ tn889_ tn892_; omega)) (by decide)) dX11_layPaths_157 (fun H locs hP hD hS => ?_)
                              rw [nI_clamp (by omega)] at hP hD
                              refine lv_iload hx hb dX11_layPaths_158 (lv_at hl 0 rfl) ?_
                              refine lv_bipush (v := (-4)) hx hb dX11_layPaths_160 rfl ?_
                              refine lv_icmp_eq (tgt := 184) hx hb dX11_layPaths_162 rfl (fun c116 => ?_) (fun c116 => ?_)
                              · skip
                                have t_hj6 := hj6
                                have t_n8 := n8
                                have t_hj13 := hj13
                                have t_n44 := n44
                                have t_hj49 := hj49
                                have t_n52 := n52
                                have t_w542 := w542
                                have t_w872 := w872
                                have t_n110 := n110
                                have t_c113 := eqI c113
                                have t_c114 := neI c114
                                have t_c116 := eqI c116
                                have : ((-4) : Int32).toInt = -4 := qI_m4
                                have : (0 : Int32).toInt = 0 := qI_0
                                have t_n0 : (nI N).toInt = (N : Int) := tn872_ ()
                                have t_n1 : (nI B).toInt = (B : Int) := tn873_ ()
                                have t_n2 : (nI T).toInt = (T : Int) := tn874_ ()
                                have t_n3 : (nI S).toInt = (S : Int) := tn875_ ()
                                have t_n4 : (nI M).toInt = (M : Int) := tn876_ ()
                                have t_n5 : (nI j1).toInt = (j1 : Int) := tn877_ ()
                                have t_n6 : (nI j9).toInt = (j9 : Int) := tn883_ ()
                                have t_n7 : (nI j45).toInt = (j45 : Int) := tn885_ ()
                                have t_n8 : (nI w540).toInt = (w540 : Int) := tn889_ ()
                                have t_n9 : (nI w870).toInt = (w870 : Int) := tn892_ ()
                                exfalso; omega
                              · skip
                                refine lv_aload_n hx hb dX11_layPaths_165 rfl (lv_at hl 5 rfl) ?_
                                refine va_get (D := (dC, dI)) (ci := 11) (v := .ref ah) (C := RX11) (T := TX11) (N := 35) hx hb hg inG11 hown hK.1 hP 0 rfl rfl 28 (Nat.le_of_ble_eq_true rfl) (hg _ wt_906) (fun _ h9 => h9) rfl dX11_layPaths_166 ?_
                                refine lv_bipush (v := 10) hx hb dX11_layPaths_169 rfl ?_
                                refine lv_iload_n hx hb dX11_layPaths_171 rfl (lv_at hl 4 rfl) ?_
                                refine lv_imul hx hb dX11_layPaths_172 ?_
                                refine lv_cg (y := nI (10 * j9)) (by rw [show (10 : Int32) = nI 10 from rfl]; exact pk_mul _ _) ?_
                                refine lv_bipush (v := 10) hx hb dX11_layPaths_173 rfl ?_
                                refine lv_iadd hx hb dX11_layPaths_175 ?_
                                refine lv_cg (y := nI ((10 * j9) + 10)) (by rw [show (10 : Int32) = nI 10 from rfl]; exact nI_add _ _) ?_
                                refine lv_iload hx hb dX11_layPaths_176 (lv_at hl 0 rfl) ?_
                                refine lv_iadd hx hb dX11_layPaths_178 ?_
                                refine lv_cg (y := nI (((10 * j9) + 10) + w870)) (by exact nI_add _ _) ?_
                                refine lv_dup2_11 hx hb dX11_layPaths_179 rfl rfl ?_
                                refine va_iald hx hb hK.1 hP 3 0 rfl rfl (vp_in_nI (by first | omega | (have t_hj6 := hj6; have t_n8 := n8; have t_hj13 := hj13; have t_n44 := n44; have t_hj49 := hj49; have t_n52 := n52; have t_w542 := w542; have t_w872 := w872; have t_n110 := n110; have t_c113 := eqI c113; have t_c114 := neI c114; have t_c116 := neI c116; have tqz_ := qz8_; have tnb_ := nib10 tn872_ tn873_ tn874_ tn875_ tn876_ tn877_ tn883_ tn885_ tn889_ tn892_; omega)) (by decide)) dX11_layPaths_180 ?_
                                refine lv_cg (y := (upd g46 (((10 * j9) + 10) + w540) v115) (((10 * j9) + 10) + w870)) (by rw [nI_clamp (by omega)]) ?_
                                refine lv_iload_n hx hb dX11_layPaths_181 rfl (lv_at hl 2 rfl) ?_
                                refine lv_iadd hx hb dX11_layPaths_182 ?_
                                refine lv_topi (fun v117 ev117 => ?_)
                                refine va_iast hx hb hK.1 hP hD hS 3 0 rfl rfl (vp_in_nI (by first | omega | (have t_hj6 := hj6; have t_n8 := n8; have t_hj13 := hj13; have t_n44 := n44; have t_hj49 := hj49; have t_n52 := n52; have t_w542 := w542; have t_w872 := w872; have t_n110 := n110; have t_c113 := eqI c113; have t_c114 := neI c114; have t_c116 := neI c116; have tqz_ := qz8_; have tnb_ := nib10 tn872_ tn873_ tn874_ tn875_ tn876_ tn877_ tn883_ tn885_ tn889_ tn892_; omega)) (by decide)) dX11_layPaths_183 (fun H locs hP hD hS => ?_)
                                rw [nI_clamp (by omega)] at hP hD
                                refine lv_iinc (v := nI (j45 + 1)) (lv' := [(2, .int (nI (j45 + 1))), (5, .int (nI w870)), (4, .int (nI w540)), (3, .int (g46 ((10 * j9) + j45))), (1, .int (nI j9)), (0, .ref h0)]) hx hb dX11_layPaths_184 hl (k := 3) rfl (by rw [show Int32.ofInt 1 = nI 1 from by decide]; exact nI_add _ _) (by decide) rfl (fun ls hl => ?_)
                                refine lv_goto (tgt := 67) hx hb dX11_layPaths_187 rfl ?_
                                exact ih67_47 (j45 + 1) (by omega) (by omega) (upd (upd g46 (((10 * j9) + 10) + w540) v115) (((10 * j9) + 10) + w870) v117) _ _ hP hD hS ls (lv_sub hl [0, 4, 5] rfl)
                          · skip
                            refine lv_aload_n hx hb dX11_layPaths_116 rfl (lv_at hl 5 rfl) ?_
                            refine va_get (D := (dC, dI)) (ci := 11) (v := .ref ah) (C := RX11) (T := TX11) (N := 35) hx hb hg inG11 hown hK.1 hP 0 rfl rfl 28 (Nat.le_of_ble_eq_true rfl) (hg _ wt_906) (fun _ h9 => h9) rfl dX11_layPaths_117 ?_
                            refine lv_bipush (v := 10) hx hb dX11_layPaths_120 rfl ?_
                            refine lv_iload_n hx hb dX11_layPaths_122 rfl (lv_at hl 4 rfl) ?_
                            refine lv_imul hx hb dX11_layPaths_123 ?_
                            refine lv_cg (y := nI (10 * j9)) (by rw [show (10 : Int32) = nI 10 from rfl]; exact pk_mul _ _) ?_
                            refine lv_bipush (v := 10) hx hb dX11_layPaths_124 rfl ?_
                            refine lv_iadd hx hb dX11_layPaths_126 ?_
                            refine lv_cg (y := nI ((10 * j9) + 10)) (by rw [show (10 : Int32) = nI 10 from rfl]; exact nI_add _ _) ?_
                            refine lv_dup2_11 hx hb dX11_layPaths_127 rfl rfl ?_
                            refine va_iald hx hb hK.1 hP 3 0 rfl rfl (vp_in_nI (by first | omega | (have t_hj6 := hj6; have t_n8 := n8; have t_hj13 := hj13; have t_n44 := n44; have t_hj49 := hj49; have t_n52 := n52; have t_w542 := w542; have t_w872 := w872; have t_n110 := n110; have t_c113 := neI c113; have : (0 : Int32).toInt = 0 := qI_0; have tnb_ := nib10 tn872_ tn873_ tn874_ tn875_ tn876_ tn877_ tn883_ tn885_ tn889_ tn892_; omega)) (by decide)) dX11_layPaths_128 ?_
                            refine lv_cg (y := g46 ((10 * j9) + 10)) (by rw [nI_clamp (by omega)]) ?_
                            refine lv_iload_n hx hb dX11_layPaths_129 rfl (lv_at hl 2 rfl) ?_
                            refine lv_iadd hx hb dX11_layPaths_130 ?_
                            refine lv_topi (fun v118 ev118 => ?_)
                            refine va_iast hx hb hK.1 hP hD hS 3 0 rfl rfl (vp_in_nI (by first | omega | (have t_hj6 := hj6; have t_n8 := n8; have t_hj13 := hj13; have t_n44 := n44; have t_hj49 := hj49; have t_n52 := n52; have t_w542 := w542; have t_w872 := w872; have t_n110 := n110; have t_c113 := neI c113; have : (0 : Int32).toInt = 0 := qI_0; have tnb_ := nib10 tn872_ tn873_ tn874_ tn875_ tn876_ tn877_ tn883_ tn885_ tn889_ tn892_; omega)) (by decide)) dX11_layPaths_131 (fun H locs hP hD hS => ?_)
                            rw [nI_clamp (by omega)] at hP hD
                            refine lv_iload hx hb dX11_layPaths_132 (lv_at hl 1 rfl) ?_
                            refine lv_bipush (v := (-4)) hx hb dX11_layPaths_134 rfl ?_
                            refine lv_icmp_eq (tgt := 158) hx hb dX11_layPaths_136 rfl (fun c119 => ?_) (fun c119 => ?_)
                            · skip
                              have t_hj6 := hj6
                              have t_n8 := n8
                              have t_hj13 := hj13
                              have t_n44 := n44
                              have t_hj49 := hj49
                              have t_n52 := n52
                              have t_w542 := w542
                              have t_w872 := w872
                              have t_n110 := n110
                              have t_c113 := neI c113
                              have t_c119 := eqI c119
                              have : ((-4) : Int32).toInt = -4 := qI_m4
                              have : (0 : Int32).toInt = 0 := qI_0
                              have t_n0 : (nI N).toInt = (N : Int) := tn872_ ()
                              have t_n1 : (nI B).toInt = (B : Int) := tn873_ ()
                              have t_n2 : (nI T).toInt = (T : Int) := tn874_ ()
                              have t_n3 : (nI S).toInt = (S : Int) := tn875_ ()
                              have t_n4 : (nI M).toInt = (M : Int) := tn876_ ()
                              have t_n5 : (nI j1).toInt = (j1 : Int) := tn877_ ()
                              have t_n6 : (nI j9).toInt = (j9 : Int) := tn883_ ()
                              have t_n7 : (nI j45).toInt = (j45 : Int) := tn885_ ()
                              have t_n8 : (nI w540).toInt = (w540 : Int) := tn889_ ()
                              have t_n9 : (nI w870).toInt = (w870 : Int) := tn892_ ()
                              exfalso; omega
                            · skip
                              refine lv_aload_n hx hb dX11_layPaths_139 rfl (lv_at hl 5 rfl) ?_
                              refine va_get (D := (dC, dI)) (ci := 11) (v := .ref ah) (C := RX11) (T := TX11) (N := 35) hx hb hg inG11 hown hK.1 hP 0 rfl rfl 28 (Nat.le_of_ble_eq_true rfl) (hg _ wt_906) (fun _ h9 => h9) rfl dX11_layPaths_140 ?_
                              refine lv_bipush (v := 10) hx hb dX11_layPaths_143 rfl ?_
                              refine lv_iload_n hx hb dX11_layPaths_145 rfl (lv_at hl 4 rfl) ?_
                              refine lv_imul hx hb dX11_layPaths_146 ?_
                              refine lv_cg (y := nI (10 * j9)) (by rw [show (10 : Int32) = nI 10 from rfl]; exact pk_mul _ _) ?_
                              refine lv_bipush (v := 10) hx hb dX11_layPaths_147 rfl ?_
                              refine lv_iadd hx hb dX11_layPaths_149 ?_
                              refine lv_cg (y := nI ((10 * j9) + 10)) (by rw [show (10 : Int32) = nI 10 from rfl]; exact nI_add _ _) ?_
                              refine lv_iload hx hb dX11_layPaths_150 (lv_at hl 1 rfl) ?_
                              refine lv_iadd hx hb dX11_layPaths_152 ?_
                              refine lv_cg (y := nI (((10 * j9) + 10) + w540)) (by exact nI_add _ _) ?_
                              refine lv_dup2_11 hx hb dX11_layPaths_153 rfl rfl ?_
                              refine va_iald hx hb hK.1 hP 3 0 rfl rfl (vp_in_nI (by first | omega | (have t_hj6 := hj6; have t_n8 := n8; have t_hj13 := hj13; have t_n44 := n44; have t_hj49 := hj49; have t_n52 := n52; have t_w542 := w542; have t_w872 := w872; have t_n110 := n110; have t_c113 := neI c113; have t_c119 := neI c119; have tqz_ := qz8_; have tnb_ := nib10 tn872_ tn873_ tn874_ tn875_ tn876_ tn877_ tn883_ tn885_ tn889_ tn892_; omega)) (by decide)) dX11_layPaths_154 ?_
                              refine lv_cg (y := (upd g46 ((10 * j9) + 10) v118) (((10 * j9) + 10) + w540)) (by rw [nI_clamp (by omega)]) ?_
                              refine lv_iload_n hx hb dX11_layPaths_155 rfl (lv_at hl 2 rfl) ?_
                              refine lv_iadd hx hb dX11_layPaths_156 ?_
                              refine lv_topi (fun v120 ev120 => ?_)
                              refine va_iast hx hb hK.1 hP hD hS 3 0 rfl rfl (vp_in_nI (by first | omega | (have t_hj6 := hj6; have t_n8 := n8; have t_hj13 := hj13; have t_n44 := n44; have t_hj49 := hj49; have t_n52 := n52; have t_w542 := w542; have t_w872 := w872; have t_n110 := n110; have t_c113 := neI c113; have t_c119 := neI c119; have tqz_ := qz8_; have tnb_ := nib10 tn872_ tn873_ tn874_ tn875_ tn876_ tn877_ tn883_ tn885_ tn889_ tn892_; omega)) (by decide)) dX11_layPaths_157 (fun H locs hP hD hS => ?_)
                              rw [nI_clamp (by omega)] at hP hD
                              refine lv_iload hx hb dX11_layPaths_158 (lv_at hl 0 rfl) ?_
                              refine lv_bipush (v := (-4)) hx hb dX11_layPaths_160 rfl ?_
                              refine lv_icmp_eq (tgt := 184) hx hb dX11_layPaths_162 rfl (fun c121 => ?_) (fun c121 => ?_)
                              · skip
                                have t_hj6 := hj6
                                have t_n8 := n8
                                have t_hj13 := hj13
                                have t_n44 := n44
                                have t_hj49 := hj49
                                have t_n52 := n52
                                have t_w542 := w542
                                have t_w872 := w872
                                have t_n110 := n110
                                have t_c113 := neI c113
                                have t_c119 := neI c119
                                have t_c121 := eqI c121
                                have : ((-4) : Int32).toInt = -4 := qI_m4
                                have : (0 : Int32).toInt = 0 := qI_0
                                have t_n0 : (nI N).toInt = (N : Int) := tn872_ ()
                                have t_n1 : (nI B).toInt = (B : Int) := tn873_ ()
                                have t_n2 : (nI T).toInt = (T : Int) := tn874_ ()
                                have t_n3 : (nI S).toInt = (S : Int) := tn875_ ()
                                have t_n4 : (nI M).toInt = (M : Int) := tn876_ ()
                                have t_n5 : (nI j1).toInt = (j1 : Int) := tn877_ ()
                                have t_n6 : (nI j9).toInt = (j9 : Int) := tn883_ ()
                                have t_n7 : (nI j45).toInt = (j45 : Int) := tn885_ ()
                                have t_n8 : (nI w540).toInt = (w540 : Int) := tn889_ ()
                                have t_n9 : (nI w870).toInt = (w870 : Int) := tn892_ ()
                                exfalso; omega
                              · skip
                                refine lv_aload_n hx hb dX11_layPaths_165 rfl (lv_at hl 5 rfl) ?_
                                refine va_get (D := (dC, dI)) (ci := 11) (v := .ref ah) (C := RX11) (T := TX11) (N := 35) hx hb hg inG11 hown hK.1 hP 0 rfl rfl 28 (Nat.le_of_ble_eq_true rfl) (hg _ wt_906) (fun _ h9 => h9) rfl dX11_layPaths_166 ?_
                                refine lv_bipush (v := 10) hx hb dX11_layPaths_169 rfl ?_
                                refine lv_iload_n hx hb dX11_layPaths_171 rfl (lv_at hl 4 rfl) ?_
                                refine lv_imul hx hb dX11_layPaths_172 ?_
                                refine lv_cg (y := nI (10 * j9)) (by rw [show (10 : Int32) = nI 10 from rfl]; exact pk_mul _ _) ?_
                                refine lv_bipush (v := 10) hx hb dX11_layPaths_173 rfl ?_
                                refine lv_iadd hx hb dX11_layPaths_175 ?_
                                refine lv_cg (y := nI ((10 * j9) + 10)) (by rw [show (10 : Int32) = nI 10 from rfl]; exact nI_add _ _) ?_
                                refine lv_iload hx hb dX11_layPaths_176 (lv_at hl 0 rfl) ?_
                                refine lv_iadd hx hb dX11_layPaths_178 ?_
                                refine lv_cg (y := nI (((10 * j9) + 10) + w870)) (by exact nI_add _ _) ?_
                                refine lv_dup2_11 hx hb dX11_layPaths_179 rfl rfl ?_
                                refine va_iald hx hb hK.1 hP 3 0 rfl rfl (vp_in_nI (by first | omega | (have t_hj6 := hj6; have t_n8 := n8; have t_hj13 := hj13; have t_n44 := n44; have t_hj49 := hj49; have t_n52 := n52; have t_w542 := w542; have t_w872 := w872; have t_n110 := n110; have t_c113 := neI c113; have t_c119 := neI c119; have t_c121 := neI c121; have tqz_ := qz8_; have tnb_ := nib10 tn872_ tn873_ tn874_ tn875_ tn876_ tn877_ tn883_ tn885_ tn889_ tn892_; omega)) (by decide)) dX11_layPaths_180 ?_
                                refine lv_cg (y := (upd (upd g46 ((10 * j9) + 10) v118) (((10 * j9) + 10) + w540) v120) (((10 * j9) + 10) + w870)) (by rw [nI_clamp (by omega)]) ?_
                                refine lv_iload_n hx hb dX11_layPaths_181 rfl (lv_at hl 2 rfl) ?_
                                refine lv_iadd hx hb dX11_layPaths_182 ?_
                                refine lv_topi (fun v122 ev122 => ?_)
                                refine va_iast hx hb hK.1 hP hD hS 3 0 rfl rfl (vp_in_nI (by first | omega | (have t_hj6 := hj6; have t_n8 := n8; have t_hj13 := hj13; have t_n44 := n44; have t_hj49 := hj49; have t_n52 := n52; have t_w542 := w542; have t_w872 := w872; have t_n110 := n110; have t_c113 := neI c113; have t_c119 := neI c119; have t_c121 := neI c121; have tqz_ := qz8_; have tnb_ := nib10 tn872_ tn873_ tn874_ tn875_ tn876_ tn877_ tn883_ tn885_ tn889_ tn892_; omega)) (by decide)) dX11_layPaths_183 (fun H locs hP hD hS => ?_)
                                rw [nI_clamp (by omega)] at hP hD
                                refine lv_iinc (v := nI (j45 + 1)) (lv' := [(2, .int (nI (j45 + 1))), (5, .int (nI w870)), (4, .int (nI w540)), (3, .int (g46 ((10 * j9) + j45))), (1, .int (nI j9)), (0, .ref h0)]) hx hb dX11_layPaths_184 hl (k := 3) rfl (by rw [show Int32.ofInt 1 = nI 1 from by decide]; exact nI_add _ _) (by decide) rfl (fun ls hl => ?_)
                                refine lv_goto (tgt := 67) hx hb dX11_layPaths_187 rfl ?_
                                exact ih67_47 (j45 + 1) (by omega) (by omega) (upd (upd (upd g46 ((10 * j9) + 10) v118) (((10 * j9) + 10) + w540) v120) (((10 * j9) + 10) + w870) v122) _ _ hP hD hS ls (lv_sub hl [0, 4, 5] rfl)
              exact loop67_47 (10 + 1) 0 (by omega) (by omega) g10 _ _ hP hD hS ls (lv_sub hl [0, 1, 2] rfl)
        exact loop57_11 (N + 1) 0 (by omega) (by omega) g2 _ _ hP hD hS ls (lv_sub hl [0, 1] rfl)
      · skip
        have tn893_ : nIT j1 := fun _ => nI_toInt (by first | omega | (have t := nleI c7; omega))
        have n123 : j1 < 110 := by have t := nleI c7; rw [show (nI (j1)).toInt = ((j1 : Nat) : Int) from tn893_ ()] at t; have : (110 : Int32).toInt = 110 := qI_110; omega
        refine lv_aload_n hx hb dX11_layPaths_8 rfl (lv_at hl 1 rfl) ?_
        refine va_get (D := (dC, dI)) (ci := 11) (v := .ref ah) (C := RX11) (T := TX11) (N := 35) hx hb hg inG11 hown hK.1 hP 0 rfl rfl 28 (Nat.le_of_ble_eq_true rfl) (hg _ wt_906) (fun _ h9 => h9) rfl dX11_layPaths_9 ?_
        refine lv_iload_n hx hb dX11_layPaths_12 rfl (lv_at hl 0 rfl) ?_
        refine lv_iload_n hx hb dX11_layPaths_13 rfl (lv_at hl 0 rfl) ?_
        refine lv_aload_n hx hb dX11_layPaths_14 rfl (lv_at hl 1 rfl) ?_
        have hPc := hP.sub (ws' := [(h0, .inr (11, [.ref st, .int (nI N), .int (nI B), .ref rp, .int vrs, .int vrb, .int vhs, .int vca, .int vxs, .int vxb, .ref tp, .int (nI T), .int vfa, .int vbr, .int vba, .int vsp, .int vhe, .int vtk, .int vva, .ref cu, .ref lt, .ref od, .ref th, .ref be, .ref ln, .int (nI S), .ref ma, .int (nI M), .ref ah, .ref bh, .ref ik, .ref la, .ref lg, .ref ce, .int vto])), (st, .inl (G 0, 196, .inl fst))]) [0, 1] rfl
        refine va_calli (va_runV (As := []) (rest := [.int (nI j1), .int (nI j1), .ref ah]) ⟨hx, hb, hml, hown, hg⟩ (c_X11_startNow l dC dI G _ h0 st N B rp tp T cu lt od th be ln S ma M ah bh ik la lg ce vrs vrb vhs vca vxs vxb vfa vbr vba vsp vhe vtk vva vto fst hN hB_ hT_ hS0 hM_ hst) (kwV hg mfX11_startNow wt_1044 ⟨Nat.le_of_ble_eq_true rfl, Nat.le_of_ble_eq_true rfl⟩) (preVR hK hPc (ci := 11) (r := (RX11, TX11, 35)) rfl rfl) rfl rfl hl.1 rfl (lv_room (Nat.le_of_ble_eq_true rfl)) dX11_layPaths_15 ⟨Nat.le_of_ble_eq_true rfl, Nat.le_of_ble_eq_true rfl⟩) hS (fun q h1 h2 => absurd h2 (Nat.not_le.mpr h1)) (fun q h => hA q (Nat.le_trans hS.1 h)) (fun r124 ur124 t H1 locs ht hvm w125 hB hz1 hk1 hS => ?_)
        have hP := keepR hP hk1
        obtain ⟨w125, w125x⟩ := w125
        obtain ⟨k126, w125, w125a, w125b⟩ := w125
        subst w125
        have cut26_128 : ∀ (y127 : Int32) (H : Heap) (locs : List Loc), va_P (dC, dI) vwCl [(h0, .inr (11, [.ref st, .int (nI N), .int (nI B), .ref rp, .int vrs, .int vrb, .int vhs, .int vca, .int vxs, .int vxb, .ref tp, .int (nI T), .int vfa, .int vbr, .int vba, .int vsp, .int vhe, .int vtk, .int vva, .ref cu, .ref lt, .ref od, .ref th, .ref be, .ref ln, .int (nI S), .ref ma, .int (nI M), .ref ah, .ref bh, .ref ik, .ref la, .ref lg, .ref ce, .int vto])), (st, .inl (G 0, 196, .inl fst)), (ma, .inl (G 0, 12, .inl fma)), (ah, .inl (G 0, 110, .inl g2)), (bh, .inl (G 0, 110, .inl g3))] H → va_D A [(h0, .inr (11, [.ref st, .int (nI N), .int (nI B), .ref rp, .int vrs, .int vrb, .int vhs, .int vca, .int vxs, .int vxb, .ref tp, .int (nI T), .int vfa, .int vbr, .int vba, .int vsp, .int vhe, .int vtk, .int vva, .ref cu, .ref lt, .ref od, .ref th, .ref be, .ref ln, .int (nI S), .ref ma, .int (nI M), .ref ah, .ref bh, .ref ik, .ref la, .ref lg, .ref ce, .int vto])), (st, .inl (G 0, 196, .inl fst)), (ma, .inl (G 0, 12, .inl fma)), (ah, .inl (G 0, 110, .inl g2)), (bh, .inl (G 0, 110, .inl g3))] → va_S A s.heap H locs → ∀ (ls : Array Slot), lv_has ls 6 [(1, .int (nI j1)), (0, .ref h0)] → W p l e (headSpec (Cond.code yX11_layPaths cX11_layPaths 6 none :: GT) ({ frames := 5, cells := 0, slots := 0, locals := 121 } : Room)).room s m ([.ref h0] : List Value).toArray below meth c H locs 0 0 (MQ below (va_Qv (fun (u : (Nat → Int32) × (Nat → Int32)) => match u with | (oah, obh) => True) (fun (u : (Nat → Int32) × (Nat → Int32)) (t : State) => match u with | (oah, obh) => va_P (dC, dI) vwCl [(h0, .inr (11, [.ref st, .int (nI N), .int (nI B), .ref rp, .int vrs, .int vrb, .int vhs, .int vca, .int vxs, .int vxb, .ref tp, .int (nI T), .int vfa, .int vbr, .int vba, .int vsp, .int vhe, .int vtk, .int vva, .ref cu, .ref lt, .ref od, .ref th, .ref be, .ref ln, .int (nI S), .ref ma, .int (nI M), .ref ah, .ref bh, .ref ik, .ref la, .ref lg, .ref ce, .int vto])), (st, .inl (G 0, 196, .inl fst)), (ma, .inl (G 0, 12, .inl fma)), (ah, .inl (G 0, 110, .inl oah)), (bh, .inl (G 0, 110, .inl obh))] t.heap ∧ va_D A [(h0, .inr (11, [.ref st, .int (nI N), .int (nI B), .ref rp, .int vrs, .int vrb, .int vhs, .int vca, .int vxs, .int vxb, .ref tp, .int (nI T), .int vfa, .int vbr, .int vba, .int vsp, .int vhe, .int vtk, .int vva, .ref cu, .ref lt, .ref od, .ref th, .ref be, .ref ln, .int (nI S), .ref ma, .int (nI M), .ref ah, .ref bh, .ref ik, .ref la, .ref lg, .ref ce, .int vto])), (st, .inl (G 0, 196, .inl fst)), (ma, .inl (G 0, 12, .inl fma)), (ah, .inl (G 0, 110, .inl oah)), (bh, .inl (G 0, 110, .inl obh))]) A) ([.ref h0] : List Value).toArray s 0 0 A) (F0 m 26 ls [.int y127, .int (nI j1), .ref ah]) := by
          intro y127 H locs hP hD hS ls hl
          have tn894_ : nIT k126 := fun _ => nI_toInt (by first | omega | (have t_hj6 := hj6; have t_n123 := n123; have t_w125a := w125a; have t_w125b := w125b; omega))
          refine va_iast hx hb hK.1 hP hD hS 3 0 rfl rfl (vp_in_nI (by first | omega | (have t_hj6 := hj6; have t_n123 := n123; have t_w125a := w125a; have t_w125b := w125b; have tnb_ := nib7 tn872_ tn873_ tn874_ tn875_ tn876_ tn893_ tn894_; omega)) (by decide)) dX11_layPaths_26 (fun H locs hP hD hS => ?_)
          rw [nI_clamp (by omega)] at hP hD
          refine lv_aload_n hx hb dX11_layPaths_27 rfl (lv_at hl 1 rfl) ?_
          refine va_get (D := (dC, dI)) (ci := 11) (v := .ref bh) (C := RX11) (T := TX11) (N := 35) hx hb hg inG11 hown hK.1 hP 0 rfl rfl 29 (Nat.le_of_ble_eq_true rfl) (hg _ wt_907) (fun _ h9 => h9) rfl dX11_layPaths_28 ?_
          refine lv_iload_n hx hb dX11_layPaths_31 rfl (lv_at hl 0 rfl) ?_
          refine lv_iload_n hx hb dX11_layPaths_32 rfl (lv_at hl 0 rfl) ?_
          refine lv_bipush (v := 10) hx hb dX11_layPaths_33 rfl ?_
          refine lv_idiv hx hb dX11_layPaths_35 (by decide) ?_
          refine lv_cg (y := nI (j1 / 10)) (by rw [show (10 : Int32) = nI 10 from rfl]; exact pk_div (by omega) (by omega) (by omega)) ?_
          refine lv_aload_n hx hb dX11_layPaths_36 rfl (lv_at hl 1 rfl) ?_
          refine va_get (D := (dC, dI)) (ci := 11) (v := .int (nI N)) (C := RX11) (T := TX11) (N := 35) hx hb hg inG11 hown hK.1 hP 0 rfl rfl 1 (Nat.le_of_ble_eq_true rfl) (hg _ wt_879) (fun _ h9 => h9) rfl dX11_layPaths_37 ?_
          have cut48_130 : ∀ (y129 : Int32) (H : Heap) (locs : List Loc), va_P (dC, dI) vwCl [(h0, .inr (11, [.ref st, .int (nI N), .int (nI B), .ref rp, .int vrs, .int vrb, .int vhs, .int vca, .int vxs, .int vxb, .ref tp, .int (nI T), .int vfa, .int vbr, .int vba, .int vsp, .int vhe, .int vtk, .int vva, .ref cu, .ref lt, .ref od, .ref th, .ref be, .ref ln, .int (nI S), .ref ma, .int (nI M), .ref ah, .ref bh, .ref ik, .ref la, .ref lg, .ref ce, .int vto])), (st, .inl (G 0, 196, .inl fst)), (ma, .inl (G 0, 12, .inl fma)), (ah, .inl (G 0, 110, .inl (upd g2 j1 y127))), (bh, .inl (G 0, 110, .inl g3))] H → va_D A [(h0, .inr (11, [.ref st, .int (nI N), .int (nI B), .ref rp, .int vrs, .int vrb, .int vhs, .int vca, .int vxs, .int vxb, .ref tp, .int (nI T), .int vfa, .int vbr, .int vba, .int vsp, .int vhe, .int vtk, .int vva, .ref cu, .ref lt, .ref od, .ref th, .ref be, .ref ln, .int (nI S), .ref ma, .int (nI M), .ref ah, .ref bh, .ref ik, .ref la, .ref lg, .ref ce, .int vto])), (st, .inl (G 0, 196, .inl fst)), (ma, .inl (G 0, 12, .inl fma)), (ah, .inl (G 0, 110, .inl (upd g2 j1 y127))), (bh, .inl (G 0, 110, .inl g3))] → va_S A s.heap H locs → ∀ (ls : Array Slot), lv_has ls 6 [(1, .int (nI j1)), (0, .ref h0)] → W p l e (headSpec (Cond.code yX11_layPaths cX11_layPaths 6 none :: GT) ({ frames := 5, cells := 0, slots := 0, locals := 121 } : Room)).room s m ([.ref h0] : List Value).toArray below meth c H locs 0 0 (MQ below (va_Qv (fun (u : (Nat → Int32) × (Nat → Int32)) => match u with | (oah, obh) => True) (fun (u : (Nat → Int32) × (Nat → Int32)) (t : State) => match u with | (oah, obh) => va_P (dC, dI) vwCl [(h0, .inr (11, [.ref st, .int (nI N), .int (nI B), .ref rp, .int vrs, .int vrb, .int vhs, .int vca, .int vxs, .int vxb, .ref tp, .int (nI T), .int vfa, .int vbr, .int vba, .int vsp, .int vhe, .int vtk, .int vva, .ref cu, .ref lt, .ref od, .ref th, .ref be, .ref ln, .int (nI S), .ref ma, .int (nI M), .ref ah, .ref bh, .ref ik, .ref la, .ref lg, .ref ce, .int vto])), (st, .inl (G 0, 196, .inl fst)), (ma, .inl (G 0, 12, .inl fma)), (ah, .inl (G 0, 110, .inl oah)), (bh, .inl (G 0, 110, .inl obh))] t.heap ∧ va_D A [(h0, .inr (11, [.ref st, .int (nI N), .int (nI B), .ref rp, .int vrs, .int vrb, .int vhs, .int vca, .int vxs, .int vxb, .ref tp, .int (nI T), .int vfa, .int vbr, .int vba, .int vsp, .int vhe, .int vtk, .int vva, .ref cu, .ref lt, .ref od, .ref th, .ref be, .ref ln, .int (nI S), .ref ma, .int (nI M), .ref ah, .ref bh, .ref ik, .ref la, .ref lg, .ref ce, .int vto])), (st, .inl (G 0, 196, .inl fst)), (ma, .inl (G 0, 12, .inl fma)), (ah, .inl (G 0, 110, .inl oah)), (bh, .inl (G 0, 110, .inl obh))]) A) ([.ref h0] : List Value).toArray s 0 0 A) (F0 m 48 ls [.int y129, .int (nI j1), .ref bh]) := by
            intro y129 H locs hP hD hS ls hl
            refine va_iast hx hb hK.1 hP hD hS 4 0 rfl rfl (vp_in_nI (by first | omega | (have t_hj6 := hj6; have t_n123 := n123; have t_w125a := w125a; have t_w125b := w125b; have tnb_ := nib7 tn872_ tn873_ tn874_ tn875_ tn876_ tn893_ tn894_; omega)) (by decide)) dX11_layPaths_48 (fun H locs hP hD hS => ?_)
            rw [nI_clamp (by omega)] at hP hD
            refine lv_iinc (v := nI (j1 + 1)) (lv' := [(1, .int (nI (j1 + 1))), (0, .ref h0)]) hx hb dX11_layPaths_49 hl (k := 0) rfl (by rw [show Int32.ofInt 1 = nI 1 from by decide]; exact nI_add _ _) (by decide) rfl (fun ls hl => ?_)
            refine lv_goto (tgt := 2) hx hb dX11_layPaths_52 rfl ?_
            exact ih2_4 (j1 + 1) (by omega) (by omega) (upd g2 j1 y127) (upd g3 j1 y129) _ _ hP hD hS ls (lv_sub hl [0, 1] rfl)
          refine lv_icmp_ne (tgt := 47) hx hb dX11_layPaths_40 rfl (fun c131 => ?_) (fun c131 => ?_)
          · skip
            have tn895_ : nIT (j1 / 10) := fun _ => nI_toInt (by first | omega | (have t := neI c131; omega))
            have n132 : (j1 / 10) ≠ N := by have t := neI c131; rw [show (nI (j1 / 10)).toInt = ((j1 / 10 : Nat) : Int) from tn895_ ()] at t; rw [show (nI (N)).toInt = ((N : Nat) : Int) from tn872_ ()] at t; omega
            refine lv_iconst (v := 0) hx hb dX11_layPaths_47 rfl ?_
            exact cut48_130 0 _ _ hP hD hS ls (lv_sub hl [0, 1] rfl)
          · skip
            have tn896_ : nIT (j1 / 10) := fun _ => nI_toInt (by first | omega | (have t := eqI c131; omega))
            have n133 : (j1 / 10) = N := by have t := eqI c131; rw [show (nI (j1 / 10)).toInt = ((j1 / 10 : Nat) : Int) from tn896_ ()] at t; rw [show (nI (N)).toInt = ((N : Nat) : Int) from tn872_ ()] at t; omega
            refine lv_iconst (v := 1) hx hb dX11_layPaths_43 rfl ?_
            refine lv_goto (tgt := 48) hx hb dX11_layPaths_44 rfl ?_
            exact cut48_130 1 _ _ hP hD hS ls (lv_sub hl [0, 1] rfl)
        refine lv_icmp_ne (tgt := 25) hx hb dX11_layPaths_18 rfl (fun c134 => ?_) (fun c134 => ?_)
        · skip
          have tn897_ : nIT k126 := fun _ => nI_toInt (by omega)
          have n135 : j1 ≠ k126 := by have t := neI c134; rw [show (nI (j1)).toInt = ((j1 : Nat) : Int) from tn893_ ()] at t; rw [show (nI (k126)).toInt = ((k126 : Nat) : Int) from tn897_ ()] at t; omega
          refine lv_iconst (v := 0) hx hb dX11_layPaths_25 rfl ?_
          exact cut26_128 0 _ _ hP hD hS ls (lv_sub hl [0, 1] rfl)
        · skip
          have tn898_ : nIT k126 := fun _ => nI_toInt (by omega)
          have n136 : j1 = k126 := by have t := eqI c134; rw [show (nI (j1)).toInt = ((j1 : Nat) : Int) from tn893_ ()] at t; rw [show (nI (k126)).toInt = ((k126 : Nat) : Int) from tn898_ ()] at t; omega
          refine lv_iconst (v := 1) hx hb dX11_layPaths_21 rfl ?_
          refine lv_goto (tgt := 26) hx hb dX11_layPaths_22 rfl ?_
          exact cut26_128 1 _ _ hP hD hS ls (lv_sub hl [0, 1] rfl)
  exact loop2_4 (110 + 1) 0 (by omega) (by omega) fah fbh _ _ hP hD hS ls (lv_sub hl [0, 1] rfl)

set_option maxHeartbeats 1000000 in
set_option maxRecDepth 100000 in
theorem c_X11_paths (l : Launch) (dC : Nat → ClassId) (dI : Nat → Nat → Nat) (G : Nat → ClassId) (sz : Nat) (h0 st N B rp tp T cu lt od th be ln S ma M ah bh ik la lg ce : Nat) (vrs vrb vhs vca vxs vxb vfa vbr vba vsp vhe vtk vva vto : Int32) (fst : Nat → Int32) (fma : Nat → Int32) (fah : Nat → Int32) (fbh : Nat → Int32) (hN : N ≤ 10) (hB : B ≤ 6) (hT : T ≤ 320) (hS0 : S ≤ 8) (hM : M ≤ 6) (hst : OKS fst) : Met l yX11_paths (Cond.code yX11_paths cX11_paths 1 (some .int) :: GT) ({ frames := 6, cells := 0, slots := 0, locals := 146 } : Room) (PcW [.ref h0] dC dI G [(h0, .inr (11, [.ref st, .int (nI N), .int (nI B), .ref rp, .int vrs, .int vrb, .int vhs, .int vca, .int vxs, .int vxb, .ref tp, .int (nI T), .int vfa, .int vbr, .int vba, .int vsp, .int vhe, .int vtk, .int vva, .ref cu, .ref lt, .ref od, .ref th, .ref be, .ref ln, .int (nI S), .ref ma, .int (nI M), .ref ah, .ref bh, .ref ik, .ref la, .ref lg, .ref ce, .int vto])), (st, .inl (G 0, 196, .inl fst)), (ma, .inl (G 0, 12, .inl fma)), (ah, .inl (G 0, 110, .inl fah)), (bh, .inl (G 0, 110, .inl fbh))] sz) (va_Qi (fun (r : Int32) (u : (Nat → Int32) × (Nat → Int32)) => match u with | (oah, obh) => (True) ∧ True) (fun (u : (Nat → Int32) × (Nat → Int32)) (t : State) => match u with | (oah, obh) => va_P (dC, dI) vwCl [(h0, .inr (11, [.ref st, .int (nI N), .int (nI B), .ref rp, .int vrs, .int vrb, .int vhs, .int vca, .int vxs, .int vxb, .ref tp, .int (nI T), .int vfa, .int vbr, .int vba, .int vsp, .int vhe, .int vtk, .int vva, .ref cu, .ref lt, .ref od, .ref th, .ref be, .ref ln, .int (nI S), .ref ma, .int (nI M), .ref ah, .ref bh, .ref ik, .ref la, .ref lg, .ref ce, .int vto])), (st, .inl (G 0, 196, .inl fst)), (ma, .inl (G 0, 12, .inl fma)), (ah, .inl (G 0, 110, .inl oah)), (bh, .inl (G 0, 110, .inl obh))] t.heap ∧ va_D (va_A [(h0, .inr (11, [.ref st, .int (nI N), .int (nI B), .ref rp, .int vrs, .int vrb, .int vhs, .int vca, .int vxs, .int vxb, .ref tp, .int (nI T), .int vfa, .int vbr, .int vba, .int vsp, .int vhe, .int vtk, .int vva, .ref cu, .ref lt, .ref od, .ref th, .ref be, .ref ln, .int (nI S), .ref ma, .int (nI M), .ref ah, .ref bh, .ref ik, .ref la, .ref lg, .ref ce, .int vto])), (st, .inl (G 0, 196, .inl fst)), (ma, .inl (G 0, 12, .inl fma)), (ah, .inl (G 0, 110, .inl fah)), (bh, .inl (G 0, 110, .inl fbh))] sz) [(h0, .inr (11, [.ref st, .int (nI N), .int (nI B), .ref rp, .int vrs, .int vrb, .int vhs, .int vca, .int vxs, .int vxb, .ref tp, .int (nI T), .int vfa, .int vbr, .int vba, .int vsp, .int vhe, .int vtk, .int vva, .ref cu, .ref lt, .ref od, .ref th, .ref be, .ref ln, .int (nI S), .ref ma, .int (nI M), .ref ah, .ref bh, .ref ik, .ref la, .ref lg, .ref ce, .int vto])), (st, .inl (G 0, 196, .inl fst)), (ma, .inl (G 0, 12, .inl fma)), (ah, .inl (G 0, 110, .inl oah)), (bh, .inl (G 0, 110, .inl obh))]) (va_A [(h0, .inr (11, [.ref st, .int (nI N), .int (nI B), .ref rp, .int vrs, .int vrb, .int vhs, .int vca, .int vxs, .int vxb, .ref tp, .int (nI T), .int vfa, .int vbr, .int vba, .int vsp, .int vhe, .int vtk, .int vva, .ref cu, .ref lt, .ref od, .ref th, .ref be, .ref ln, .int (nI S), .ref ma, .int (nI M), .ref ah, .ref bh, .ref ik, .ref la, .ref lg, .ref ce, .int vto])), (st, .inl (G 0, 196, .inl fst)), (ma, .inl (G 0, 12, .inl fma)), (ah, .inl (G 0, 110, .inl fah)), (bh, .inl (G 0, 110, .inl fbh))] sz)) 0 0 (va_A [(h0, .inr (11, [.ref st, .int (nI N), .int (nI B), .ref rp, .int vrs, .int vrb, .int vhs, .int vca, .int vxs, .int vxb, .ref tp, .int (nI T), .int vfa, .int vbr, .int vba, .int vsp, .int vhe, .int vtk, .int vva, .ref cu, .ref lt, .ref od, .ref th, .ref be, .ref ln, .int (nI S), .ref ma, .int (nI M), .ref ah, .ref bh, .ref ik, .ref la, .ref lg, .ref ce, .int vto])), (st, .inl (G 0, 196, .inl fst)), (ma, .inl (G 0, 12, .inl fma)), (ah, .inl (G 0, 110, .inl fah)), (bh, .inl (G 0, 110, .inl fbh))] sz) := by
  have hB_ := hB
  have hM_ := hM
  have hT_ := hT
  have tn899_ : nIT N := fun _ => nI_toInt (by omega)
  have tn900_ : nIT B := fun _ => nI_toInt (by omega)
  have tn901_ : nIT T := fun _ => nI_toInt (by omega)
  have tn902_ : nIT S := fun _ => nI_toInt (by omega)
  have tn903_ : nIT M := fun _ => nI_toInt (by omega)
  refine Met.ofW (cc := cX11_paths) (maxL := 1) (ret := (some .int)) (by decide) rfl ?_
  intro p e s m args below meth c s₁ Bd hml hv
  obtain ⟨rfl, hsz, hP, hK, hD0⟩ := hv
  have hx := Bd.exec
  have hb := Bd.bytes
  have hr := Bd.returns
  have hg : ∀ w ∈ GT, w.before ([.ref h0] : List Value).toArray s = true := fun w h => atoms_spec (ws := Cond.code yX11_paths cX11_paths 1 (some .int) :: GT) Bd.pre w (List.mem_cons_of_mem _ h)
  have hown : s.vm.findClass RX11 = some m.cls := findClass_of_methodNamed Bd.named
  have hlocks := Bd.notSynchronized
  subst hsz
  have hD := hD0.self (sz := s.heap.size)
  generalize hAe : va_A [(h0, .inr (11, [.ref st, .int (nI N), .int (nI B), .ref rp, .int vrs, .int vrb, .int vhs, .int vca, .int vxs, .int vxb, .ref tp, .int (nI T), .int vfa, .int vbr, .int vba, .int vsp, .int vhe, .int vtk, .int vva, .ref cu, .ref lt, .ref od, .ref th, .ref be, .ref ln, .int (nI S), .ref ma, .int (nI M), .ref ah, .ref bh, .ref ik, .ref la, .ref lg, .ref ce, .int vto])), (st, .inl (G 0, 196, .inl fst)), (ma, .inl (G 0, 12, .inl fma)), (ah, .inl (G 0, 110, .inl fah)), (bh, .inl (G 0, 110, .inl fbh))] s.heap.size = A at hD ⊢
  have hA : ∀ q : Nat, s.heap.size ≤ q → A q := fun q h => by rw [← hAe]; exact Or.inr h
  have hS : va_S A s.heap s.heap [] := va_S.rf
  have hl := lv_entry ([.ref h0]) (n := 1) (Nat.le_of_ble_eq_true rfl)
  rw [lg_entry_eq]
  generalize (lg_sl ([.ref h0]) ++ List.replicate (1 - (lg_sl ([.ref h0])).length) Slot.unset).toArray = ls at hl ⊢
  have hl : lv_has ls 1 [(0, .ref h0)] := hl
  refine lv_aload_n hx hb dX11_paths_0 rfl (lv_at hl 0 rfl) ?_
  obtain ⟨hPc, hDc, hFc⟩ := va_sub3 (ws' := [(h0, .inr (11, [.ref st, .int (nI N), .int (nI B), .ref rp, .int vrs, .int vrb, .int vhs, .int vca, .int vxs, .int vxb, .ref tp, .int (nI T), .int vfa, .int vbr, .int vba, .int vsp, .int vhe, .int vtk, .int vva, .ref cu, .ref lt, .ref od, .ref th, .ref be, .ref ln, .int (nI S), .ref ma, .int (nI M), .ref ah, .ref bh, .ref ik, .ref la, .ref lg, .ref ce, .int vto])), (st, .inl (G 0, 196, .inl fst)), (ma, .inl (G 0, 12, .inl fma)), (ah, .inl (G 0, 110, .inl fah)), (bh, .inl (G 0, 110, .inl fbh))]) hP hD hS hA [0, 1, 2, 3, 4] (by decide +kernel) rfl
  refine va_callv (va_runV (As := []) (rest := []) ⟨hx, hb, hml, hown, hg⟩ (c_X11_layPaths l dC dI G _ h0 st N B rp tp T cu lt od th be ln S ma M ah bh ik la lg ce vrs vrb vhs vca vxs vxb vfa vbr vba vsp vhe vtk vva vto fst fma fah fbh hN hB_ hT_ hS0 hM_ hst) (kwV hg mfX11_layPaths wt_1220 ⟨Nat.le_of_ble_eq_true rfl, Nat.le_of_ble_eq_true rfl⟩) (preVW hK hPc hDc (ci := 11) (r := (RX11, TX11, 35)) rfl rfl) rfl rfl hl.1 rfl (lv_room (Nat.le_of_ble_eq_true rfl)) dX11_paths_1 ⟨Nat.le_of_ble_eq_true rfl, Nat.le_of_ble_eq_true rfl⟩) hS (fun q _ h => hFc q h) hFc (fun ur1 t H1 locs ht hvm w2 hB hz1 hk1 hS => ?_)
  obtain ⟨u3, u4⟩ := ur1
  obtain ⟨hP1, hD1⟩ := hB
  rw [ht] at hP1
  obtain ⟨hP, hD⟩ := va_join (wr := []) (w1 := [(h0, .inr (11, [.ref st, .int (nI N), .int (nI B), .ref rp, .int vrs, .int vrb, .int vhs, .int vca, .int vxs, .int vxb, .ref tp, .int (nI T), .int vfa, .int vbr, .int vba, .int vsp, .int vhe, .int vtk, .int vva, .ref cu, .ref lt, .ref od, .ref th, .ref be, .ref ln, .int (nI S), .ref ma, .int (nI M), .ref ah, .ref bh, .ref ik, .ref la, .ref lg, .ref ce, .int vto])), (st, .inl (G 0, 196, .inl fst)), (ma, .inl (G 0, 12, .inl fma)), (ah, .inl (G 0, 110, .inl u3)), (bh, .inl (G 0, 110, .inl u4))]) hP hD [0, 1, 2, 3, 4] [] rfl rfl (by decide +kernel) (by decide +kernel) hk1 hFc hP1 hD1
  generalize H1 = H at hP hS ⊢
  refine lv_aload_n hx hb dX11_paths_4 rfl (lv_at hl 0 rfl) ?_
  refine va_get (D := (dC, dI)) (ci := 11) (v := .ref bh) (C := RX11) (T := TX11) (N := 35) hx hb hg inG11 hown hK.1 hP 0 rfl rfl 29 (Nat.le_of_ble_eq_true rfl) (hg _ wt_907) (fun _ h9 => h9) rfl dX11_paths_5 ?_
  refine lv_aload_n hx hb dX11_paths_8 rfl (lv_at hl 0 rfl) ?_
  have hPc := hP.sub (ws' := [(h0, .inr (11, [.ref st, .int (nI N), .int (nI B), .ref rp, .int vrs, .int vrb, .int vhs, .int vca, .int vxs, .int vxb, .ref tp, .int (nI T), .int vfa, .int vbr, .int vba, .int vsp, .int vhe, .int vtk, .int vva, .ref cu, .ref lt, .ref od, .ref th, .ref be, .ref ln, .int (nI S), .ref ma, .int (nI M), .ref ah, .ref bh, .ref ik, .ref la, .ref lg, .ref ce, .int vto])), (st, .inl (G 0, 196, .inl fst))]) [0, 1] rfl
  refine va_calli (va_runV (As := []) (rest := [.ref bh]) ⟨hx, hb, hml, hown, hg⟩ (c_X11_startNow l dC dI G _ h0 st N B rp tp T cu lt od th be ln S ma M ah bh ik la lg ce vrs vrb vhs vca vxs vxb vfa vbr vba vsp vhe vtk vva vto fst hN hB_ hT_ hS0 hM_ hst) (kwV hg mfX11_startNow wt_1044 ⟨Nat.le_of_ble_eq_true rfl, Nat.le_of_ble_eq_true rfl⟩) (preVR hK hPc (ci := 11) (r := (RX11, TX11, 35)) rfl rfl) rfl rfl hl.1 rfl (lv_room (Nat.le_of_ble_eq_true rfl)) dX11_paths_9 ⟨Nat.le_of_ble_eq_true rfl, Nat.le_of_ble_eq_true rfl⟩) hS (fun q h1 h2 => absurd h2 (Nat.not_le.mpr h1)) (fun q h => hA q (Nat.le_trans hS.1 h)) (fun r5 ur5 t H1 locs ht hvm w6 hB hz1 hk1 hS => ?_)
  have hP := keepR hP hk1
  obtain ⟨w6, w6x⟩ := w6
  obtain ⟨k7, w6, w6a, w6b⟩ := w6
  subst w6
  have tn904_ : nIT k7 := fun _ => nI_toInt (by first | omega | (have t_w6a := w6a; have t_w6b := w6b; omega))
  refine va_iald hx hb hK.1 hP 4 0 rfl rfl (vp_in_nI (by first | omega | (have t_w6a := w6a; have t_w6b := w6b; have tnb_ := nib6 tn899_ tn900_ tn901_ tn902_ tn903_ tn904_; omega)) (by decide)) dX11_paths_12 ?_
  refine lv_cg (y := u4 k7) (by rw [nI_clamp (by omega)]) ?_
  have hpost : True := by
    trivial
  obtain ⟨hP9, hD9⟩ := va_sub2 (ws' := [(h0, .inr (11, [.ref st, .int (nI N), .int (nI B), .ref rp, .int vrs, .int vrb, .int vhs, .int vca, .int vxs, .int vxb, .ref tp, .int (nI T), .int vfa, .int vbr, .int vba, .int vsp, .int vhe, .int vtk, .int vva, .ref cu, .ref lt, .ref od, .ref th, .ref be, .ref ln, .int (nI S), .ref ma, .int (nI M), .ref ah, .ref bh, .ref ik, .ref la, .ref lg, .ref ce, .int vto])), (st, .inl (G 0, 196, .inl fst)), (ma, .inl (G 0, 12, .inl fma)), (ah, .inl (G 0, 110, .inl u3)), (bh, .inl (G 0, 110, .inl u4))]) hP hD [0, 1, 2, 3, 4] (by decide +kernel) rfl
  refine W.widen (k := 0) (n := 0) (Nat.le_of_ble_eq_true rfl) (Nat.le_of_ble_eq_true rfl) ?_
  exact W.iret (v := u4 k7) hx hb hr (fun t ht hW => ⟨⟨u4 k7, (u3, u4), rfl, ⟨hpost, trivial⟩, ⟨by rw [ht]; exact hP9, hD9⟩⟩, hS.F ht⟩) hS.2.2 dX11_paths_13

set_option maxHeartbeats 1000000 in
set_option maxRecDepth 100000 in
theorem c_X11_eye (l : Launch) (dC : Nat → ClassId) (dI : Nat → Nat → Nat) (G : Nat → ClassId) (sz : Nat) (h0 st N B rp tp T cu lt od th be ln S ma M ah bh ik la lg ce : Nat) (d vrs vrb vhs vca vxs vxb vfa vbr vba vsp vhe vtk vva vto : Int32) (fst : Nat → Int32) (fma : Nat → Int32) (fah : Nat → Int32) (fbh : Nat → Int32) (hN : N ≤ 10) (hB : B ≤ 6) (hT : T ≤ 320) (hS0 : S ≤ 8) (hM : M ≤ 6) (hst : OKS fst) : Met l yX11_eye (Cond.code yX11_eye cX11_eye 4 (some .int) :: GT) ({ frames := 6, cells := 0, slots := 0, locals := 146 } : Room) (PcW [.ref h0, .int d] dC dI G [(h0, .inr (11, [.ref st, .int (nI N), .int (nI B), .ref rp, .int vrs, .int vrb, .int vhs, .int vca, .int vxs, .int vxb, .ref tp, .int (nI T), .int vfa, .int vbr, .int vba, .int vsp, .int vhe, .int vtk, .int vva, .ref cu, .ref lt, .ref od, .ref th, .ref be, .ref ln, .int (nI S), .ref ma, .int (nI M), .ref ah, .ref bh, .ref ik, .ref la, .ref lg, .ref ce, .int vto])), (st, .inl (G 0, 196, .inl fst)), (ma, .inl (G 0, 12, .inl fma)), (ah, .inl (G 0, 110, .inl fah)), (bh, .inl (G 0, 110, .inl fbh))] sz) (va_Qi (fun (r : Int32) (u : (Nat → Int32) × (Nat → Int32)) => match u with | (oah, obh) => (True) ∧ True) (fun (u : (Nat → Int32) × (Nat → Int32)) (t : State) => match u with | (oah, obh) => va_P (dC, dI) vwCl [(h0, .inr (11, [.ref st, .int (nI N), .int (nI B), .ref rp, .int vrs, .int vrb, .int vhs, .int vca, .int vxs, .int vxb, .ref tp, .int (nI T), .int vfa, .int vbr, .int vba, .int vsp, .int vhe, .int vtk, .int vva, .ref cu, .ref lt, .ref od, .ref th, .ref be, .ref ln, .int (nI S), .ref ma, .int (nI M), .ref ah, .ref bh, .ref ik, .ref la, .ref lg, .ref ce, .int vto])), (st, .inl (G 0, 196, .inl fst)), (ma, .inl (G 0, 12, .inl fma)), (ah, .inl (G 0, 110, .inl oah)), (bh, .inl (G 0, 110, .inl obh))] t.heap ∧ va_D (va_A [(h0, .inr (11, [.ref st, .int (nI N), .int (nI B), .ref rp, .int vrs, .int vrb, .int vhs, .int vca, .int vxs, .int vxb, .ref tp, .int (nI T), .int vfa, .int vbr, .int vba, .int vsp, .int vhe, .int vtk, .int vva, .ref cu, .ref lt, .ref od, .ref th, .ref be, .ref ln, .int (nI S), .ref ma, .int (nI M), .ref ah, .ref bh, .ref ik, .ref la, .ref lg, .ref ce, .int vto])), (st, .inl (G 0, 196, .inl fst)), (ma, .inl (G 0, 12, .inl fma)), (ah, .inl (G 0, 110, .inl fah)), (bh, .inl (G 0, 110, .inl fbh))] sz) [(h0, .inr (11, [.ref st, .int (nI N), .int (nI B), .ref rp, .int vrs, .int vrb, .int vhs, .int vca, .int vxs, .int vxb, .ref tp, .int (nI T), .int vfa, .int vbr, .int vba, .int vsp, .int vhe, .int vtk, .int vva, .ref cu, .ref lt, .ref od, .ref th, .ref be, .ref ln, .int (nI S), .ref ma, .int (nI M), .ref ah, .ref bh, .ref ik, .ref la, .ref lg, .ref ce, .int vto])), (st, .inl (G 0, 196, .inl fst)), (ma, .inl (G 0, 12, .inl fma)), (ah, .inl (G 0, 110, .inl oah)), (bh, .inl (G 0, 110, .inl obh))]) (va_A [(h0, .inr (11, [.ref st, .int (nI N), .int (nI B), .ref rp, .int vrs, .int vrb, .int vhs, .int vca, .int vxs, .int vxb, .ref tp, .int (nI T), .int vfa, .int vbr, .int vba, .int vsp, .int vhe, .int vtk, .int vva, .ref cu, .ref lt, .ref od, .ref th, .ref be, .ref ln, .int (nI S), .ref ma, .int (nI M), .ref ah, .ref bh, .ref ik, .ref la, .ref lg, .ref ce, .int vto])), (st, .inl (G 0, 196, .inl fst)), (ma, .inl (G 0, 12, .inl fma)), (ah, .inl (G 0, 110, .inl fah)), (bh, .inl (G 0, 110, .inl fbh))] sz)) 0 0 (va_A [(h0, .inr (11, [.ref st, .int (nI N), .int (nI B), .ref rp, .int vrs, .int vrb, .int vhs, .int vca, .int vxs, .int vxb, .ref tp, .int (nI T), .int vfa, .int vbr, .int vba, .int vsp, .int vhe, .int vtk, .int vva, .ref cu, .ref lt, .ref od, .ref th, .ref be, .ref ln, .int (nI S), .ref ma, .int (nI M), .ref ah, .ref bh, .ref ik, .ref la, .ref lg, .ref ce, .int vto])), (st, .inl (G 0, 196, .inl fst)), (ma, .inl (G 0, 12, .inl fma)), (ah, .inl (G 0, 110, .inl fah)), (bh, .inl (G 0, 110, .inl fbh))] sz) := by
  have hB_ := hB
  have hM_ := hM
  have hT_ := hT
  have tn905_ : nIT N := fun _ => nI_toInt (by omega)
  have tn906_ : nIT B := fun _ => nI_toInt (by omega)
  have tn907_ : nIT T := fun _ => nI_toInt (by omega)
  have tn908_ : nIT S := fun _ => nI_toInt (by omega)
  have tn909_ : nIT M := fun _ => nI_toInt (by omega)
  refine Met.ofW (cc := cX11_eye) (maxL := 4) (ret := (some .int)) (by decide) rfl ?_
  intro p e s m args below meth c s₁ Bd hml hv
  obtain ⟨rfl, hsz, hP, hK, hD0⟩ := hv
  have hx := Bd.exec
  have hb := Bd.bytes
  have hr := Bd.returns
  have hg : ∀ w ∈ GT, w.before ([.ref h0, .int d] : List Value).toArray s = true := fun w h => atoms_spec (ws := Cond.code yX11_eye cX11_eye 4 (some .int) :: GT) Bd.pre w (List.mem_cons_of_mem _ h)
  have hown : s.vm.findClass RX11 = some m.cls := findClass_of_methodNamed Bd.named
  have hlocks := Bd.notSynchronized
  subst hsz
  have hD := hD0.self (sz := s.heap.size)
  generalize hAe : va_A [(h0, .inr (11, [.ref st, .int (nI N), .int (nI B), .ref rp, .int vrs, .int vrb, .int vhs, .int vca, .int vxs, .int vxb, .ref tp, .int (nI T), .int vfa, .int vbr, .int vba, .int vsp, .int vhe, .int vtk, .int vva, .ref cu, .ref lt, .ref od, .ref th, .ref be, .ref ln, .int (nI S), .ref ma, .int (nI M), .ref ah, .ref bh, .ref ik, .ref la, .ref lg, .ref ce, .int vto])), (st, .inl (G 0, 196, .inl fst)), (ma, .inl (G 0, 12, .inl fma)), (ah, .inl (G 0, 110, .inl fah)), (bh, .inl (G 0, 110, .inl fbh))] s.heap.size = A at hD ⊢
  have hA : ∀ q : Nat, s.heap.size ≤ q → A q := fun q h => by rw [← hAe]; exact Or.inr h
  have hS : va_S A s.heap s.heap [] := va_S.rf
  have hl := lv_entry ([.ref h0, .int d]) (n := 4) (Nat.le_of_ble_eq_true rfl)
  rw [lg_entry_eq]
  generalize (lg_sl ([.ref h0, .int d]) ++ List.replicate (4 - (lg_sl ([.ref h0, .int d])).length) Slot.unset).toArray = ls at hl ⊢
  have hl : lv_has ls 4 [(0, .ref h0), (1, .int d)] := hl
  refine lv_iload_n hx hb dX11_eye_0 rfl (lv_at hl 1 rfl) ?_
  refine lv_i2l (v := d.toInt64) hx hb dX11_eye_1 rfl ?_
  refine lv_lconst (v := 0) hx hb dX11_eye_2 (by decide) ?_
  refine lv_ldc2 (v := 9) hx hb hown (hg _ wt_1069) dX11_eye_3 ?_
  have hPc := hP.sub (ws' := []) [] rfl
  refine va_calli (va_runS (As := [.long d.toInt64, .long 0, .long 9]) (rest := []) ⟨hx, hb, hml, hown, hg⟩ (c_X11_in l dC dI G _ d.toInt64 0 9) (kwS hg mfX11_in wt_992 ⟨Nat.le_of_ble_eq_true rfl, Nat.le_of_ble_eq_true rfl⟩) (preSR hK hPc) rfl rfl hl.1 rfl (lv_room (Nat.le_of_ble_eq_true rfl)) dX11_eye_6 ⟨Nat.le_of_ble_eq_true rfl, Nat.le_of_ble_eq_true rfl⟩) hS (fun q h1 h2 => absurd h2 (Nat.not_le.mpr h1)) (fun q h => hA q (Nat.le_trans hS.1 h)) (fun r1 ur1 t H1 locs ht hvm w2 hB hz1 hk1 hS => ?_)
  have hP := keepR hP hk1
  obtain ⟨w2, w2x⟩ := w2
  try simp only [l_ii, show (0 : Int64).toInt = 0 from by decide, show (9 : Int64).toInt = 9 from by decide] at w2
  subst w2
  refine lv_if_ne (tgt := 14) hx hb dX11_eye_9 rfl (fun c3 => ?_) (fun c3 => ?_)
  · skip
    have b4 := if10_p c3
    obtain ⟨dd, hdd, rfl⟩ : ∃ j : Nat, j < 10 ∧ d = nI j := by
      have t_b4 := b4
      have t_n0 : (nI N).toInt = (N : Int) := tn905_ ()
      have t_n1 : (nI B).toInt = (B : Int) := tn906_ ()
      have t_n2 : (nI T).toInt = (T : Int) := tn907_ ()
      have t_n3 : (nI S).toInt = (S : Int) := tn908_ ()
      have t_n4 : (nI M).toInt = (M : Int) := tn909_ ()
      exact i32_nat (by omega) (by omega)
    refine lv_aload_n hx hb dX11_eye_14 rfl (lv_at hl 0 rfl) ?_
    obtain ⟨hPc, hDc, hFc⟩ := va_sub3 (ws' := [(h0, .inr (11, [.ref st, .int (nI N), .int (nI B), .ref rp, .int vrs, .int vrb, .int vhs, .int vca, .int vxs, .int vxb, .ref tp, .int (nI T), .int vfa, .int vbr, .int vba, .int vsp, .int vhe, .int vtk, .int vva, .ref cu, .ref lt, .ref od, .ref th, .ref be, .ref ln, .int (nI S), .ref ma, .int (nI M), .ref ah, .ref bh, .ref ik, .ref la, .ref lg, .ref ce, .int vto])), (st, .inl (G 0, 196, .inl fst)), (ma, .inl (G 0, 12, .inl fma)), (ah, .inl (G 0, 110, .inl fah)), (bh, .inl (G 0, 110, .inl fbh))]) hP hD hS hA [0, 1, 2, 3, 4] (by decide +kernel) rfl
    have tn910_ : nIT dd := fun _ => nI_toInt (by first | omega | (have t_b4 := b4; have t_hdd := hdd; omega))
    refine va_callv (va_runV (As := []) (rest := []) ⟨hx, hb, hml, hown, hg⟩ (c_X11_layPaths l dC dI G _ h0 st N B rp tp T cu lt od th be ln S ma M ah bh ik la lg ce vrs vrb vhs vca vxs vxb vfa vbr vba vsp vhe vtk vva vto fst fma fah fbh hN hB_ hT_ hS0 hM_ hst) (kwV hg mfX11_layPaths wt_1220 ⟨Nat.le_of_ble_eq_true rfl, Nat.le_of_ble_eq_true rfl⟩) (preVW hK hPc hDc (ci := 11) (r := (RX11, TX11, 35)) rfl rfl) rfl rfl hl.1 rfl (lv_room (Nat.le_of_ble_eq_true rfl)) dX11_eye_15 ⟨Nat.le_of_ble_eq_true rfl, Nat.le_of_ble_eq_true rfl⟩) hS (fun q _ h => hFc q h) hFc (fun ur5 t H1 locs ht hvm w6 hB hz1 hk1 hS => ?_)
    obtain ⟨u7, u8⟩ := ur5
    obtain ⟨hP1, hD1⟩ := hB
    rw [ht] at hP1
    obtain ⟨hP, hD⟩ := va_join (wr := []) (w1 := [(h0, .inr (11, [.ref st, .int (nI N), .int (nI B), .ref rp, .int vrs, .int vrb, .int vhs, .int vca, .int vxs, .int vxb, .ref tp, .int (nI T), .int vfa, .int vbr, .int vba, .int vsp, .int vhe, .int vtk, .int vva, .ref cu, .ref lt, .ref od, .ref th, .ref be, .ref ln, .int (nI S), .ref ma, .int (nI M), .ref ah, .ref bh, .ref ik, .ref la, .ref lg, .ref ce, .int vto])), (st, .inl (G 0, 196, .inl fst)), (ma, .inl (G 0, 12, .inl fma)), (ah, .inl (G 0, 110, .inl u7)), (bh, .inl (G 0, 110, .inl u8))]) hP hD [0, 1, 2, 3, 4] [] rfl rfl (by decide +kernel) (by decide +kernel) hk1 hFc hP1 hD1
    generalize H1 = H at hP hS ⊢
    refine lv_iconst (v := 0) hx hb dX11_eye_18 rfl ?_
    refine lv_istore_n (lv' := [(2, .int 0), (0, .ref h0), (1, .int (nI dd))]) hx hb dX11_eye_19 rfl hl (by decide) rfl (fun ls hl => ?_)
    refine lv_iconst (v := 0) hx hb dX11_eye_20 rfl ?_
    refine lv_istore_n (lv' := [(3, .int 0), (2, .int 0), (0, .ref h0), (1, .int (nI dd))]) hx hb dX11_eye_21 rfl hl (by decide) rfl (fun ls hl => ?_)
    have loop22_11 : ∀ (nf j9 : Nat), N + 1 ≤ j9 + nf → j9 ≤ N → ∀ (y10 : Int32) (H : Heap) (locs : List Loc), va_P (dC, dI) vwCl [(h0, .inr (11, [.ref st, .int (nI N), .int (nI B), .ref rp, .int vrs, .int vrb, .int vhs, .int vca, .int vxs, .int vxb, .ref tp, .int (nI T), .int vfa, .int vbr, .int vba, .int vsp, .int vhe, .int vtk, .int vva, .ref cu, .ref lt, .ref od, .ref th, .ref be, .ref ln, .int (nI S), .ref ma, .int (nI M), .ref ah, .ref bh, .ref ik, .ref la, .ref lg, .ref ce, .int vto])), (st, .inl (G 0, 196, .inl fst)), (ma, .inl (G 0, 12, .inl fma)), (ah, .inl (G 0, 110, .inl u7)), (bh, .inl (G 0, 110, .inl u8))] H → va_D A [(h0, .inr (11, [.ref st, .int (nI N), .int (nI B), .ref rp, .int vrs, .int vrb, .int vhs, .int vca, .int vxs, .int vxb, .ref tp, .int (nI T), .int vfa, .int vbr, .int vba, .int vsp, .int vhe, .int vtk, .int vva, .ref cu, .ref lt, .ref od, .ref th, .ref be, .ref ln, .int (nI S), .ref ma, .int (nI M), .ref ah, .ref bh, .ref ik, .ref la, .ref lg, .ref ce, .int vto])), (st, .inl (G 0, 196, .inl fst)), (ma, .inl (G 0, 12, .inl fma)), (ah, .inl (G 0, 110, .inl u7)), (bh, .inl (G 0, 110, .inl u8))] → va_S A s.heap H locs → ∀ (ls : Array Slot), lv_has ls 4 [(3, .int (nI j9)), (2, .int y10), (0, .ref h0), (1, .int (nI dd))] → W p l e (headSpec (Cond.code yX11_eye cX11_eye 4 (some .int) :: GT) ({ frames := 6, cells := 0, slots := 0, locals := 146 } : Room)).room s m ([.ref h0, .int (nI dd)] : List Value).toArray below meth c H locs 0 0 (MQ below (va_Qi (fun (r : Int32) (u : (Nat → Int32) × (Nat → Int32)) => match u with | (oah, obh) => (True) ∧ True) (fun (u : (Nat → Int32) × (Nat → Int32)) (t : State) => match u with | (oah, obh) => va_P (dC, dI) vwCl [(h0, .inr (11, [.ref st, .int (nI N), .int (nI B), .ref rp, .int vrs, .int vrb, .int vhs, .int vca, .int vxs, .int vxb, .ref tp, .int (nI T), .int vfa, .int vbr, .int vba, .int vsp, .int vhe, .int vtk, .int vva, .ref cu, .ref lt, .ref od, .ref th, .ref be, .ref ln, .int (nI S), .ref ma, .int (nI M), .ref ah, .ref bh, .ref ik, .ref la, .ref lg, .ref ce, .int vto])), (st, .inl (G 0, 196, .inl fst)), (ma, .inl (G 0, 12, .inl fma)), (ah, .inl (G 0, 110, .inl oah)), (bh, .inl (G 0, 110, .inl obh))] t.heap ∧ va_D A [(h0, .inr (11, [.ref st, .int (nI N), .int (nI B), .ref rp, .int vrs, .int vrb, .int vhs, .int vca, .int vxs, .int vxb, .ref tp, .int (nI T), .int vfa, .int vbr, .int vba, .int vsp, .int vhe, .int vtk, .int vva, .ref cu, .ref lt, .ref od, .ref th, .ref be, .ref ln, .int (nI S), .ref ma, .int (nI M), .ref ah, .ref bh, .ref ik, .ref la, .ref lg, .ref ce, .int vto])), (st, .inl (G 0, 196, .inl fst)), (ma, .inl (G 0, 12, .inl fma)), (ah, .inl (G 0, 110, .inl oah)), (bh, .inl (G 0, 110, .inl obh))]) A) ([.ref h0, .int (nI dd)] : List Value).toArray s 0 0 A) (F0 m 22 ls []) := by
      intro nf
      induction nf with
      | zero => intro j9 h1 h2; exact absurd h1 (by omega)
      | succ nf ih22_11 =>
        intro j9 hn12 hj13 y10 H locs hP hD hS ls hl
        refine lv_iload_n hx hb dX11_eye_22 rfl (lv_at hl 0 rfl) ?_
        refine lv_aload_n hx hb dX11_eye_23 rfl (lv_at hl 2 rfl) ?_
        refine va_get (D := (dC, dI)) (ci := 11) (v := .int (nI N)) (C := RX11) (T := TX11) (N := 35) hx hb hg inG11 hown hK.1 hP 0 rfl rfl 1 (Nat.le_of_ble_eq_true rfl) (hg _ wt_879) (fun _ h9 => h9) rfl dX11_eye_24 ?_
        refine lv_icmp_ge (tgt := 80) hx hb dX11_eye_27 rfl (fun c14 => ?_) (fun c14 => ?_)
        · skip
          have tn911_ : nIT j9 := fun _ => nI_toInt (by first | omega | (have t := leI c14; omega))
          have n15 : N ≤ j9 := by have t := leI c14; rw [show (nI (j9)).toInt = ((j9 : Nat) : Int) from tn911_ ()] at t; rw [show (nI (N)).toInt = ((N : Nat) : Int) from tn905_ ()] at t; omega
          refine lv_iload_n hx hb dX11_eye_80 rfl (lv_at hl 1 rfl) ?_
          have hpost : True := by
            trivial
          obtain ⟨hP9, hD9⟩ := va_sub2 (ws' := [(h0, .inr (11, [.ref st, .int (nI N), .int (nI B), .ref rp, .int vrs, .int vrb, .int vhs, .int vca, .int vxs, .int vxb, .ref tp, .int (nI T), .int vfa, .int vbr, .int vba, .int vsp, .int vhe, .int vtk, .int vva, .ref cu, .ref lt, .ref od, .ref th, .ref be, .ref ln, .int (nI S), .ref ma, .int (nI M), .ref ah, .ref bh, .ref ik, .ref la, .ref lg, .ref ce, .int vto])), (st, .inl (G 0, 196, .inl fst)), (ma, .inl (G 0, 12, .inl fma)), (ah, .inl (G 0, 110, .inl u7)), (bh, .inl (G 0, 110, .inl u8))]) hP hD [0, 1, 2, 3, 4] (by decide +kernel) rfl
          refine W.widen (k := 0) (n := 0) (Nat.le_of_ble_eq_true rfl) (Nat.le_of_ble_eq_true rfl) ?_
          exact W.iret (v := y10) hx hb hr (fun t ht hW => ⟨⟨y10, (u7, u8), rfl, ⟨hpost, trivial⟩, ⟨by rw [ht]; exact hP9, hD9⟩⟩, hS.F ht⟩) hS.2.2 dX11_eye_81
        · skip
          have tn912_ : nIT j9 := fun _ => nI_toInt (by first | omega | (have t := nleI c14; omega))
          have n16 : j9 < N := by have t := nleI c14; rw [show (nI (j9)).toInt = ((j9 : Nat) : Int) from tn912_ ()] at t; rw [show (nI (N)).toInt = ((N : Nat) : Int) from tn905_ ()] at t; omega
          refine lv_iload_n hx hb dX11_eye_30 rfl (lv_at hl 1 rfl) ?_
          refine lv_aload_n hx hb dX11_eye_31 rfl (lv_at hl 2 rfl) ?_
          refine va_get (D := (dC, dI)) (ci := 11) (v := .ref ah) (C := RX11) (T := TX11) (N := 35) hx hb hg inG11 hown hK.1 hP 0 rfl rfl 28 (Nat.le_of_ble_eq_true rfl) (hg _ wt_906) (fun _ h9 => h9) rfl dX11_eye_32 ?_
          refine lv_bipush (v := 10) hx hb dX11_eye_35 rfl ?_
          refine lv_iload_n hx hb dX11_eye_37 rfl (lv_at hl 0 rfl) ?_
          refine lv_imul hx hb dX11_eye_38 ?_
          refine lv_cg (y := nI (10 * j9)) (by rw [show (10 : Int32) = nI 10 from rfl]; exact pk_mul _ _) ?_
          refine lv_bipush (v := 10) hx hb dX11_eye_39 rfl ?_
          refine lv_iadd hx hb dX11_eye_41 ?_
          refine lv_cg (y := nI ((10 * j9) + 10)) (by rw [show (10 : Int32) = nI 10 from rfl]; exact nI_add _ _) ?_
          refine lv_iload_n hx hb dX11_eye_42 rfl (lv_at hl 3 rfl) ?_
          refine lv_iadd hx hb dX11_eye_43 ?_
          refine lv_cg (y := nI (((10 * j9) + 10) + dd)) (by exact nI_add _ _) ?_
          refine va_iald hx hb hK.1 hP 3 0 rfl rfl (vp_in_nI (by first | omega | (have t_b4 := b4; have t_hdd := hdd; have t_hj13 := hj13; have t_n16 := n16; have tnb_ := nib7 tn905_ tn906_ tn907_ tn908_ tn909_ tn910_ tn912_; omega)) (by decide)) dX11_eye_44 ?_
          refine lv_cg (y := u7 (((10 * j9) + 10) + dd)) (by rw [nI_clamp (by omega)]) ?_
          have cut72_18 : ∀ (y17 : Int32) (H : Heap) (locs : List Loc), va_P (dC, dI) vwCl [(h0, .inr (11, [.ref st, .int (nI N), .int (nI B), .ref rp, .int vrs, .int vrb, .int vhs, .int vca, .int vxs, .int vxb, .ref tp, .int (nI T), .int vfa, .int vbr, .int vba, .int vsp, .int vhe, .int vtk, .int vva, .ref cu, .ref lt, .ref od, .ref th, .ref be, .ref ln, .int (nI S), .ref ma, .int (nI M), .ref ah, .ref bh, .ref ik, .ref la, .ref lg, .ref ce, .int vto])), (st, .inl (G 0, 196, .inl fst)), (ma, .inl (G 0, 12, .inl fma)), (ah, .inl (G 0, 110, .inl u7)), (bh, .inl (G 0, 110, .inl u8))] H → va_D A [(h0, .inr (11, [.ref st, .int (nI N), .int (nI B), .ref rp, .int vrs, .int vrb, .int vhs, .int vca, .int vxs, .int vxb, .ref tp, .int (nI T), .int vfa, .int vbr, .int vba, .int vsp, .int vhe, .int vtk, .int vva, .ref cu, .ref lt, .ref od, .ref th, .ref be, .ref ln, .int (nI S), .ref ma, .int (nI M), .ref ah, .ref bh, .ref ik, .ref la, .ref lg, .ref ce, .int vto])), (st, .inl (G 0, 196, .inl fst)), (ma, .inl (G 0, 12, .inl fma)), (ah, .inl (G 0, 110, .inl u7)), (bh, .inl (G 0, 110, .inl u8))] → va_S A s.heap H locs → ∀ (ls : Array Slot), lv_has ls 4 [(3, .int (nI j9)), (2, .int y10), (0, .ref h0), (1, .int (nI dd))] → W p l e (headSpec (Cond.code yX11_eye cX11_eye 4 (some .int) :: GT) ({ frames := 6, cells := 0, slots := 0, locals := 146 } : Room)).room s m ([.ref h0, .int (nI dd)] : List Value).toArray below meth c H locs 0 0 (MQ below (va_Qi (fun (r : Int32) (u : (Nat → Int32) × (Nat → Int32)) => match u with | (oah, obh) => (True) ∧ True) (fun (u : (Nat → Int32) × (Nat → Int32)) (t : State) => match u with | (oah, obh) => va_P (dC, dI) vwCl [(h0, .inr (11, [.ref st, .int (nI N), .int (nI B), .ref rp, .int vrs, .int vrb, .int vhs, .int vca, .int vxs, .int vxb, .ref tp, .int (nI T), .int vfa, .int vbr, .int vba, .int vsp, .int vhe, .int vtk, .int vva, .ref cu, .ref lt, .ref od, .ref th, .ref be, .ref ln, .int (nI S), .ref ma, .int (nI M), .ref ah, .ref bh, .ref ik, .ref la, .ref lg, .ref ce, .int vto])), (st, .inl (G 0, 196, .inl fst)), (ma, .inl (G 0, 12, .inl fma)), (ah, .inl (G 0, 110, .inl oah)), (bh, .inl (G 0, 110, .inl obh))] t.heap ∧ va_D A [(h0, .inr (11, [.ref st, .int (nI N), .int (nI B), .ref rp, .int vrs, .int vrb, .int vhs, .int vca, .int vxs, .int vxb, .ref tp, .int (nI T), .int vfa, .int vbr, .int vba, .int vsp, .int vhe, .int vtk, .int vva, .ref cu, .ref lt, .ref od, .ref th, .ref be, .ref ln, .int (nI S), .ref ma, .int (nI M), .ref ah, .ref bh, .ref ik, .ref la, .ref lg, .ref ce, .int vto])), (st, .inl (G 0, 196, .inl fst)), (ma, .inl (G 0, 12, .inl fma)), (ah, .inl (G 0, 110, .inl oah)), (bh, .inl (G 0, 110, .inl obh))]) A) ([.ref h0, .int (nI dd)] : List Value).toArray s 0 0 A) (F0 m 72 ls [.int y17, .int y10]) := by
            intro y17 H locs hP hD hS ls hl
            refine lv_ior hx hb dX11_eye_72 ?_
            refine lv_istore_n (lv' := [(2, .int (y10 ||| y17)), (3, .int (nI j9)), (0, .ref h0), (1, .int (nI dd))]) hx hb dX11_eye_73 rfl hl (by decide) rfl (fun ls hl => ?_)
            refine lv_iinc (v := nI (j9 + 1)) (lv' := [(3, .int (nI (j9 + 1))), (2, .int (y10 ||| y17)), (0, .ref h0), (1, .int (nI dd))]) hx hb dX11_eye_74 hl (k := 1) rfl (by rw [show Int32.ofInt 1 = nI 1 from by decide]; exact nI_add _ _) (by decide) rfl (fun ls hl => ?_)
            refine lv_goto (tgt := 22) hx hb dX11_eye_77 rfl ?_
            exact ih22_11 (j9 + 1) (by omega) (by omega) (y10 ||| y17) _ _ hP hD hS ls (lv_sub hl [0, 1, 2, 3] rfl)
          have cut71_19 : ∀ (H : Heap) (locs : List Loc), va_P (dC, dI) vwCl [(h0, .inr (11, [.ref st, .int (nI N), .int (nI B), .ref rp, .int vrs, .int vrb, .int vhs, .int vca, .int vxs, .int vxb, .ref tp, .int (nI T), .int vfa, .int vbr, .int vba, .int vsp, .int vhe, .int vtk, .int vva, .ref cu, .ref lt, .ref od, .ref th, .ref be, .ref ln, .int (nI S), .ref ma, .int (nI M), .ref ah, .ref bh, .ref ik, .ref la, .ref lg, .ref ce, .int vto])), (st, .inl (G 0, 196, .inl fst)), (ma, .inl (G 0, 12, .inl fma)), (ah, .inl (G 0, 110, .inl u7)), (bh, .inl (G 0, 110, .inl u8))] H → va_D A [(h0, .inr (11, [.ref st, .int (nI N), .int (nI B), .ref rp, .int vrs, .int vrb, .int vhs, .int vca, .int vxs, .int vxb, .ref tp, .int (nI T), .int vfa, .int vbr, .int vba, .int vsp, .int vhe, .int vtk, .int vva, .ref cu, .ref lt, .ref od, .ref th, .ref be, .ref ln, .int (nI S), .ref ma, .int (nI M), .ref ah, .ref bh, .ref ik, .ref la, .ref lg, .ref ce, .int vto])), (st, .inl (G 0, 196, .inl fst)), (ma, .inl (G 0, 12, .inl fma)), (ah, .inl (G 0, 110, .inl u7)), (bh, .inl (G 0, 110, .inl u8))] → va_S A s.heap H locs → ∀ (ls : Array Slot), lv_has ls 4 [(3, .int (nI j9)), (2, .int y10), (0, .ref h0), (1, .int (nI dd))] → W p l e (headSpec (Cond.code yX11_eye cX11_eye 4 (some .int) :: GT) ({ frames := 6, cells := 0, slots := 0, locals := 146 } : Room)).room s m ([.ref h0, .int (nI dd)] : List Value).toArray below meth c H locs 0 0 (MQ below (va_Qi (fun (r : Int32) (u : (Nat → Int32) × (Nat → Int32)) => match u with | (oah, obh) => (True) ∧ True) (fun (u : (Nat → Int32) × (Nat → Int32)) (t : State) => match u with | (oah, obh) => va_P (dC, dI) vwCl [(h0, .inr (11, [.ref st, .int (nI N), .int (nI B), .ref rp, .int vrs, .int vrb, .int vhs, .int vca, .int vxs, .int vxb, .ref tp, .int (nI T), .int vfa, .int vbr, .int vba, .int vsp, .int vhe, .int vtk, .int vva, .ref cu, .ref lt, .ref od, .ref th, .ref be, .ref ln, .int (nI S), .ref ma, .int (nI M), .ref ah, .ref bh, .ref ik, .ref la, .ref lg, .ref ce, .int vto])), (st, .inl (G 0, 196, .inl fst)), (ma, .inl (G 0, 12, .inl fma)), (ah, .inl (G 0, 110, .inl oah)), (bh, .inl (G 0, 110, .inl obh))] t.heap ∧ va_D A [(h0, .inr (11, [.ref st, .int (nI N), .int (nI B), .ref rp, .int vrs, .int vrb, .int vhs, .int vca, .int vxs, .int vxb, .ref tp, .int (nI T), .int vfa, .int vbr, .int vba, .int vsp, .int vhe, .int vtk, .int vva, .ref cu, .ref lt, .ref od, .ref th, .ref be, .ref ln, .int (nI S), .ref ma, .int (nI M), .ref ah, .ref bh, .ref ik, .ref la, .ref lg, .ref ce, .int vto])), (st, .inl (G 0, 196, .inl fst)), (ma, .inl (G 0, 12, .inl fma)), (ah, .inl (G 0, 110, .inl oah)), (bh, .inl (G 0, 110, .inl obh))]) A) ([.ref h0, .int (nI dd)] : List Value).toArray s 0 0 A) (F0 m 71 ls [.int y10]) := by
            intro  H locs hP hD hS ls hl
            refine lv_iconst (v := 0) hx hb dX11_eye_71 rfl ?_
            exact cut72_18 0 _ _ hP hD hS ls (lv_sub hl [0, 1, 2, 3] rfl)
          refine lv_if_le (tgt := 71) hx hb dX11_eye_45 rfl (fun c20 => ?_) (fun c20 => ?_)
          · skip
            exact cut71_19  _ _ hP hD hS ls (lv_sub hl [0, 1, 2, 3] rfl)
          · skip
            refine lv_aload_n hx hb dX11_eye_48 rfl (lv_at hl 2 rfl) ?_
            refine va_get (D := (dC, dI)) (ci := 11) (v := .ref bh) (C := RX11) (T := TX11) (N := 35) hx hb hg inG11 hown hK.1 hP 0 rfl rfl 29 (Nat.le_of_ble_eq_true rfl) (hg _ wt_907) (fun _ h9 => h9) rfl dX11_eye_49 ?_
            refine lv_bipush (v := 10) hx hb dX11_eye_52 rfl ?_
            refine lv_iload_n hx hb dX11_eye_54 rfl (lv_at hl 0 rfl) ?_
            refine lv_imul hx hb dX11_eye_55 ?_
            refine lv_cg (y := nI (10 * j9)) (by rw [show (10 : Int32) = nI 10 from rfl]; exact pk_mul _ _) ?_
            refine lv_bipush (v := 10) hx hb dX11_eye_56 rfl ?_
            refine lv_iadd hx hb dX11_eye_58 ?_
            refine lv_cg (y := nI ((10 * j9) + 10)) (by rw [show (10 : Int32) = nI 10 from rfl]; exact nI_add _ _) ?_
            refine lv_iload_n hx hb dX11_eye_59 rfl (lv_at hl 3 rfl) ?_
            refine lv_iadd hx hb dX11_eye_60 ?_
            refine lv_cg (y := nI (((10 * j9) + 10) + dd)) (by exact nI_add _ _) ?_
            refine va_iald hx hb hK.1 hP 4 0 rfl rfl (vp_in_nI (by first | omega | (have t_b4 := b4; have t_hdd := hdd; have t_hj13 := hj13; have t_n16 := n16; have t_c20 := nleI c20; have : (0 : Int32).toInt = 0 := qI_0; have tnb_ := nib7 tn905_ tn906_ tn907_ tn908_ tn909_ tn910_ tn912_; omega)) (by decide)) dX11_eye_61 ?_
            refine lv_cg (y := u8 (((10 * j9) + 10) + dd)) (by rw [nI_clamp (by omega)]) ?_
            refine lv_if_le (tgt := 71) hx hb dX11_eye_62 rfl (fun c21 => ?_) (fun c21 => ?_)
            · skip
              exact cut71_19  _ _ hP hD hS ls (lv_sub hl [0, 1, 2, 3] rfl)
            · skip
              refine lv_iconst (v := 1) hx hb dX11_eye_65 rfl ?_
              refine lv_iload_n hx hb dX11_eye_66 rfl (lv_at hl 0 rfl) ?_
              refine lv_ishl hx hb dX11_eye_67 ?_
              refine lv_goto (tgt := 72) hx hb dX11_eye_68 rfl ?_
              exact cut72_18 (1 <<< ((nI j9) &&& 31)) _ _ hP hD hS ls (lv_sub hl [0, 1, 2, 3] rfl)
    exact loop22_11 (N + 1) 0 (by omega) (by omega) 0 _ _ hP hD hS ls (lv_sub hl [0, 1, 2, 3] rfl)
  · skip
    have b22 := if10_n c3
    refine lv_iconst (v := (-1)) hx hb dX11_eye_12 rfl ?_
    have hpost : True := by
      trivial
    obtain ⟨hP9, hD9⟩ := va_sub2 (ws' := [(h0, .inr (11, [.ref st, .int (nI N), .int (nI B), .ref rp, .int vrs, .int vrb, .int vhs, .int vca, .int vxs, .int vxb, .ref tp, .int (nI T), .int vfa, .int vbr, .int vba, .int vsp, .int vhe, .int vtk, .int vva, .ref cu, .ref lt, .ref od, .ref th, .ref be, .ref ln, .int (nI S), .ref ma, .int (nI M), .ref ah, .ref bh, .ref ik, .ref la, .ref lg, .ref ce, .int vto])), (st, .inl (G 0, 196, .inl fst)), (ma, .inl (G 0, 12, .inl fma)), (ah, .inl (G 0, 110, .inl fah)), (bh, .inl (G 0, 110, .inl fbh))]) hP hD [0, 1, 2, 3, 4] (by decide +kernel) rfl
    refine W.widen (k := 0) (n := 0) (Nat.le_of_ble_eq_true rfl) (Nat.le_of_ble_eq_true rfl) ?_
    exact W.iret (v := (-1)) hx hb hr (fun t ht hW => ⟨⟨(-1), (fah, fbh), rfl, ⟨hpost, trivial⟩, ⟨by rw [ht]; exact hP9, hD9⟩⟩, hS.F ht⟩) hS.2.2 dX11_eye_13

set_option maxHeartbeats 1000000 in
set_option maxRecDepth 100000 in
theorem c_X11_sure (l : Launch) (dC : Nat → ClassId) (dI : Nat → Nat → Nat) (G : Nat → ClassId) (sz : Nat) (h0 st N B rp tp T cu lt od th be ln S ma M ah bh ik la lg ce : Nat) (what vrs vrb vhs vca vxs vxb vfa vbr vba vsp vhe vtk vva vto : Int32) (fst : Nat → Int32) (fma : Nat → Int32) (fah : Nat → Int32) (fbh : Nat → Int32) (hN : N ≤ 10) (hB : B ≤ 6) (hT : T ≤ 320) (hS0 : S ≤ 8) (hM : M ≤ 6) (hst : OKS fst) : Met l yX11_sure (Cond.code yX11_sure cX11_sure 7 (some .int) :: GT) ({ frames := 6, cells := 0, slots := 0, locals := 146 } : Room) (PcW [.ref h0, .int what] dC dI G [(h0, .inr (11, [.ref st, .int (nI N), .int (nI B), .ref rp, .int vrs, .int vrb, .int vhs, .int vca, .int vxs, .int vxb, .ref tp, .int (nI T), .int vfa, .int vbr, .int vba, .int vsp, .int vhe, .int vtk, .int vva, .ref cu, .ref lt, .ref od, .ref th, .ref be, .ref ln, .int (nI S), .ref ma, .int (nI M), .ref ah, .ref bh, .ref ik, .ref la, .ref lg, .ref ce, .int vto])), (st, .inl (G 0, 196, .inl fst)), (ma, .inl (G 0, 12, .inl fma)), (ah, .inl (G 0, 110, .inl fah)), (bh, .inl (G 0, 110, .inl fbh))] sz) (va_Qi (fun (r : Int32) (u : (Nat → Int32) × (Nat → Int32)) => match u with | (oah, obh) => (True) ∧ True) (fun (u : (Nat → Int32) × (Nat → Int32)) (t : State) => match u with | (oah, obh) => va_P (dC, dI) vwCl [(h0, .inr (11, [.ref st, .int (nI N), .int (nI B), .ref rp, .int vrs, .int vrb, .int vhs, .int vca, .int vxs, .int vxb, .ref tp, .int (nI T), .int vfa, .int vbr, .int vba, .int vsp, .int vhe, .int vtk, .int vva, .ref cu, .ref lt, .ref od, .ref th, .ref be, .ref ln, .int (nI S), .ref ma, .int (nI M), .ref ah, .ref bh, .ref ik, .ref la, .ref lg, .ref ce, .int vto])), (st, .inl (G 0, 196, .inl fst)), (ma, .inl (G 0, 12, .inl fma)), (ah, .inl (G 0, 110, .inl oah)), (bh, .inl (G 0, 110, .inl obh))] t.heap ∧ va_D (va_A [(h0, .inr (11, [.ref st, .int (nI N), .int (nI B), .ref rp, .int vrs, .int vrb, .int vhs, .int vca, .int vxs, .int vxb, .ref tp, .int (nI T), .int vfa, .int vbr, .int vba, .int vsp, .int vhe, .int vtk, .int vva, .ref cu, .ref lt, .ref od, .ref th, .ref be, .ref ln, .int (nI S), .ref ma, .int (nI M), .ref ah, .ref bh, .ref ik, .ref la, .ref lg, .ref ce, .int vto])), (st, .inl (G 0, 196, .inl fst)), (ma, .inl (G 0, 12, .inl fma)), (ah, .inl (G 0, 110, .inl fah)), (bh, .inl (G 0, 110, .inl fbh))] sz) [(h0, .inr (11, [.ref st, .int (nI N), .int (nI B), .ref rp, .int vrs, .int vrb, .int vhs, .int vca, .int vxs, .int vxb, .ref tp, .int (nI T), .int vfa, .int vbr, .int vba, .int vsp, .int vhe, .int vtk, .int vva, .ref cu, .ref lt, .ref od, .ref th, .ref be, .ref ln, .int (nI S), .ref ma, .int (nI M), .ref ah, .ref bh, .ref ik, .ref la, .ref lg, .ref ce, .int vto])), (st, .inl (G 0, 196, .inl fst)), (ma, .inl (G 0, 12, .inl fma)), (ah, .inl (G 0, 110, .inl oah)), (bh, .inl (G 0, 110, .inl obh))]) (va_A [(h0, .inr (11, [.ref st, .int (nI N), .int (nI B), .ref rp, .int vrs, .int vrb, .int vhs, .int vca, .int vxs, .int vxb, .ref tp, .int (nI T), .int vfa, .int vbr, .int vba, .int vsp, .int vhe, .int vtk, .int vva, .ref cu, .ref lt, .ref od, .ref th, .ref be, .ref ln, .int (nI S), .ref ma, .int (nI M), .ref ah, .ref bh, .ref ik, .ref la, .ref lg, .ref ce, .int vto])), (st, .inl (G 0, 196, .inl fst)), (ma, .inl (G 0, 12, .inl fma)), (ah, .inl (G 0, 110, .inl fah)), (bh, .inl (G 0, 110, .inl fbh))] sz)) 0 0 (va_A [(h0, .inr (11, [.ref st, .int (nI N), .int (nI B), .ref rp, .int vrs, .int vrb, .int vhs, .int vca, .int vxs, .int vxb, .ref tp, .int (nI T), .int vfa, .int vbr, .int vba, .int vsp, .int vhe, .int vtk, .int vva, .ref cu, .ref lt, .ref od, .ref th, .ref be, .ref ln, .int (nI S), .ref ma, .int (nI M), .ref ah, .ref bh, .ref ik, .ref la, .ref lg, .ref ce, .int vto])), (st, .inl (G 0, 196, .inl fst)), (ma, .inl (G 0, 12, .inl fma)), (ah, .inl (G 0, 110, .inl fah)), (bh, .inl (G 0, 110, .inl fbh))] sz) := by
  have hB_ := hB
  have hM_ := hM
  have hT_ := hT
  have tn913_ : nIT N := fun _ => nI_toInt (by omega)
  have tn914_ : nIT B := fun _ => nI_toInt (by omega)
  have tn915_ : nIT T := fun _ => nI_toInt (by omega)
  have tn916_ : nIT S := fun _ => nI_toInt (by omega)
  have tn917_ : nIT M := fun _ => nI_toInt (by omega)
  refine Met.ofW (cc := cX11_sure) (maxL := 7) (ret := (some .int)) (by decide) rfl ?_
  intro p e s m args below meth c s₁ Bd hml hv
  obtain ⟨rfl, hsz, hP, hK, hD0⟩ := hv
  have hx := Bd.exec
  have hb := Bd.bytes
  have hr := Bd.returns
  have hg : ∀ w ∈ GT, w.before ([.ref h0, .int what] : List Value).toArray s = true := fun w h => atoms_spec (ws := Cond.code yX11_sure cX11_sure 7 (some .int) :: GT) Bd.pre w (List.mem_cons_of_mem _ h)
  have hown : s.vm.findClass RX11 = some m.cls := findClass_of_methodNamed Bd.named
  have hlocks := Bd.notSynchronized
  subst hsz
  have hD := hD0.self (sz := s.heap.size)
  generalize hAe : va_A [(h0, .inr (11, [.ref st, .int (nI N), .int (nI B), .ref rp, .int vrs, .int vrb, .int vhs, .int vca, .int vxs, .int vxb, .ref tp, .int (nI T), .int vfa, .int vbr, .int vba, .int vsp, .int vhe, .int vtk, .int vva, .ref cu, .ref lt, .ref od, .ref th, .ref be, .ref ln, .int (nI S), .ref ma, .int (nI M), .ref ah, .ref bh, .ref ik, .ref la, .ref lg, .ref ce, .int vto])), (st, .inl (G 0, 196, .inl fst)), (ma, .inl (G 0, 12, .inl fma)), (ah, .inl (G 0, 110, .inl fah)), (bh, .inl (G 0, 110, .inl fbh))] s.heap.size = A at hD ⊢
  have hA : ∀ q : Nat, s.heap.size ≤ q → A q := fun q h => by rw [← hAe]; exact Or.inr h
  have hS : va_S A s.heap s.heap [] := va_S.rf
  have hl := lv_entry ([.ref h0, .int what]) (n := 7) (Nat.le_of_ble_eq_true rfl)
  rw [lg_entry_eq]
  generalize (lg_sl ([.ref h0, .int what]) ++ List.replicate (7 - (lg_sl ([.ref h0, .int what])).length) Slot.unset).toArray = ls at hl ⊢
  have hl : lv_has ls 7 [(0, .ref h0), (1, .int what)] := hl
  refine lv_iload_n hx hb dX11_sure_0 rfl (lv_at hl 1 rfl) ?_
  refine lv_i2l (v := what.toInt64) hx hb dX11_sure_1 rfl ?_
  refine lv_lconst (v := 0) hx hb dX11_sure_2 (by decide) ?_
  refine lv_lconst (v := 1) hx hb dX11_sure_3 (by decide) ?_
  have hPc := hP.sub (ws' := []) [] rfl
  refine va_calli (va_runS (As := [.long what.toInt64, .long 0, .long 1]) (rest := []) ⟨hx, hb, hml, hown, hg⟩ (c_X11_in l dC dI G _ what.toInt64 0 1) (kwS hg mfX11_in wt_992 ⟨Nat.le_of_ble_eq_true rfl, Nat.le_of_ble_eq_true rfl⟩) (preSR hK hPc) rfl rfl hl.1 rfl (lv_room (Nat.le_of_ble_eq_true rfl)) dX11_sure_4 ⟨Nat.le_of_ble_eq_true rfl, Nat.le_of_ble_eq_true rfl⟩) hS (fun q h1 h2 => absurd h2 (Nat.not_le.mpr h1)) (fun q h => hA q (Nat.le_trans hS.1 h)) (fun r1 ur1 t H1 locs ht hvm w2 hB hz1 hk1 hS => ?_)
  have hP := keepR hP hk1
  obtain ⟨w2, w2x⟩ := w2
  try simp only [l_ii, show (0 : Int64).toInt = 0 from by decide, show (1 : Int64).toInt = 1 from by decide] at w2
  subst w2
  refine lv_if_ne (tgt := 12) hx hb dX11_sure_7 rfl (fun c3 => ?_) (fun c3 => ?_)
  · skip
    have b4 := if10_p c3
    refine lv_aload_n hx hb dX11_sure_12 rfl (lv_at hl 0 rfl) ?_
    obtain ⟨hPc, hDc, hFc⟩ := va_sub3 (ws' := [(h0, .inr (11, [.ref st, .int (nI N), .int (nI B), .ref rp, .int vrs, .int vrb, .int vhs, .int vca, .int vxs, .int vxb, .ref tp, .int (nI T), .int vfa, .int vbr, .int vba, .int vsp, .int vhe, .int vtk, .int vva, .ref cu, .ref lt, .ref od, .ref th, .ref be, .ref ln, .int (nI S), .ref ma, .int (nI M), .ref ah, .ref bh, .ref ik, .ref la, .ref lg, .ref ce, .int vto])), (st, .inl (G 0, 196, .inl fst)), (ma, .inl (G 0, 12, .inl fma)), (ah, .inl (G 0, 110, .inl fah)), (bh, .inl (G 0, 110, .inl fbh))]) hP hD hS hA [0, 1, 2, 3, 4] (by decide +kernel) rfl
    refine va_callv (va_runV (As := []) (rest := []) ⟨hx, hb, hml, hown, hg⟩ (c_X11_layPaths l dC dI G _ h0 st N B rp tp T cu lt od th be ln S ma M ah bh ik la lg ce vrs vrb vhs vca vxs vxb vfa vbr vba vsp vhe vtk vva vto fst fma fah fbh hN hB_ hT_ hS0 hM_ hst) (kwV hg mfX11_layPaths wt_1220 ⟨Nat.le_of_ble_eq_true rfl, Nat.le_of_ble_eq_true rfl⟩) (preVW hK hPc hDc (ci := 11) (r := (RX11, TX11, 35)) rfl rfl) rfl rfl hl.1 rfl (lv_room (Nat.le_of_ble_eq_true rfl)) dX11_sure_13 ⟨Nat.le_of_ble_eq_true rfl, Nat.le_of_ble_eq_true rfl⟩) hS (fun q _ h => hFc q h) hFc (fun ur5 t H1 locs ht hvm w6 hB hz1 hk1 hS => ?_)
    obtain ⟨u7, u8⟩ := ur5
    obtain ⟨hP1, hD1⟩ := hB
    rw [ht] at hP1
    obtain ⟨hP, hD⟩ := va_join (wr := []) (w1 := [(h0, .inr (11, [.ref st, .int (nI N), .int (nI B), .ref rp, .int vrs, .int vrb, .int vhs, .int vca, .int vxs, .int vxb, .ref tp, .int (nI T), .int vfa, .int vbr, .int vba, .int vsp, .int vhe, .int vtk, .int vva, .ref cu, .ref lt, .ref od, .ref th, .ref be, .ref ln, .int (nI S), .ref ma, .int (nI M), .ref ah, .ref bh, .ref ik, .ref la, .ref lg, .ref ce, .int vto])), (st, .inl (G 0, 196, .inl fst)), (ma, .inl (G 0, 12, .inl fma)), (ah, .inl (G 0, 110, .inl u7)), (bh, .inl (G 0, 110, .inl u8))]) hP hD [0, 1, 2, 3, 4] [] rfl rfl (by decide +kernel) (by decide +kernel) hk1 hFc hP1 hD1
    generalize H1 = H at hP hS ⊢
    refine lv_aload_n hx hb dX11_sure_16 rfl (lv_at hl 0 rfl) ?_
    refine va_get (D := (dC, dI)) (ci := 11) (v := .ref bh) (C := RX11) (T := TX11) (N := 35) hx hb hg inG11 hown hK.1 hP 0 rfl rfl 29 (Nat.le_of_ble_eq_true rfl) (hg _ wt_907) (fun _ h9 => h9) rfl dX11_sure_17 ?_
    refine lv_aload_n hx hb dX11_sure_20 rfl (lv_at hl 0 rfl) ?_
    have hPc := hP.sub (ws' := [(h0, .inr (11, [.ref st, .int (nI N), .int (nI B), .ref rp, .int vrs, .int vrb, .int vhs, .int vca, .int vxs, .int vxb, .ref tp, .int (nI T), .int vfa, .int vbr, .int vba, .int vsp, .int vhe, .int vtk, .int vva, .ref cu, .ref lt, .ref od, .ref th, .ref be, .ref ln, .int (nI S), .ref ma, .int (nI M), .ref ah, .ref bh, .ref ik, .ref la, .ref lg, .ref ce, .int vto])), (st, .inl (G 0, 196, .inl fst))]) [0, 1] rfl
    refine va_calli (va_runV (As := []) (rest := [.ref bh]) ⟨hx, hb, hml, hown, hg⟩ (c_X11_startNow l dC dI G _ h0 st N B rp tp T cu lt od th be ln S ma M ah bh ik la lg ce vrs vrb vhs vca vxs vxb vfa vbr vba vsp vhe vtk vva vto fst hN hB_ hT_ hS0 hM_ hst) (kwV hg mfX11_startNow wt_1044 ⟨Nat.le_of_ble_eq_true rfl, Nat.le_of_ble_eq_true rfl⟩) (preVR hK hPc (ci := 11) (r := (RX11, TX11, 35)) rfl rfl) rfl rfl hl.1 rfl (lv_room (Nat.le_of_ble_eq_true rfl)) dX11_sure_21 ⟨Nat.le_of_ble_eq_true rfl, Nat.le_of_ble_eq_true rfl⟩) hS (fun q h1 h2 => absurd h2 (Nat.not_le.mpr h1)) (fun q h => hA q (Nat.le_trans hS.1 h)) (fun r9 ur9 t H1 locs ht hvm w10 hB hz1 hk1 hS => ?_)
    have hP := keepR hP hk1
    obtain ⟨w10, w10x⟩ := w10
    obtain ⟨k11, w10, w10a, w10b⟩ := w10
    subst w10
    have tn918_ : nIT k11 := fun _ => nI_toInt (by first | omega | (have t_b4 := b4; have t_w10a := w10a; have t_w10b := w10b; omega))
    refine va_iald hx hb hK.1 hP 4 0 rfl rfl (vp_in_nI (by first | omega | (have t_b4 := b4; have t_w10a := w10a; have t_w10b := w10b; have tnb_ := nib6 tn913_ tn914_ tn915_ tn916_ tn917_ tn918_; omega)) (by decide)) dX11_sure_24 ?_
    refine lv_cg (y := u8 k11) (by rw [nI_clamp (by omega)]) ?_
    refine lv_istore_n (lv' := [(2, .int (u8 k11)), (0, .ref h0), (1, .int what)]) hx hb dX11_sure_25 rfl hl (by decide) rfl (fun ls hl => ?_)
    refine lv_iload_n hx hb dX11_sure_26 rfl (lv_at hl 0 rfl) ?_
    refine lv_if_ne (tgt := 33) hx hb dX11_sure_27 rfl (fun c12 => ?_) (fun c12 => ?_)
    · skip
      refine lv_iconst (v := 0) hx hb dX11_sure_33 rfl ?_
      refine lv_istore_n (lv' := [(3, .int 0), (2, .int (u8 k11)), (0, .ref h0), (1, .int what)]) hx hb dX11_sure_34 rfl hl (by decide) rfl (fun ls hl => ?_)
      refine lv_iconst (v := 0) hx hb dX11_sure_35 rfl ?_
      refine lv_istore (lv' := [(4, .int 0), (3, .int 0), (2, .int (u8 k11)), (0, .ref h0), (1, .int what)]) hx hb dX11_sure_36 hl (by decide) rfl (fun ls hl => ?_)
      have loop38_15 : ∀ (nf j13 : Nat), N + 1 ≤ j13 + nf → j13 ≤ N → ∀ (y14 : Int32) (H : Heap) (locs : List Loc), va_P (dC, dI) vwCl [(h0, .inr (11, [.ref st, .int (nI N), .int (nI B), .ref rp, .int vrs, .int vrb, .int vhs, .int vca, .int vxs, .int vxb, .ref tp, .int (nI T), .int vfa, .int vbr, .int vba, .int vsp, .int vhe, .int vtk, .int vva, .ref cu, .ref lt, .ref od, .ref th, .ref be, .ref ln, .int (nI S), .ref ma, .int (nI M), .ref ah, .ref bh, .ref ik, .ref la, .ref lg, .ref ce, .int vto])), (st, .inl (G 0, 196, .inl fst)), (ma, .inl (G 0, 12, .inl fma)), (ah, .inl (G 0, 110, .inl u7)), (bh, .inl (G 0, 110, .inl u8))] H → va_D A [(h0, .inr (11, [.ref st, .int (nI N), .int (nI B), .ref rp, .int vrs, .int vrb, .int vhs, .int vca, .int vxs, .int vxb, .ref tp, .int (nI T), .int vfa, .int vbr, .int vba, .int vsp, .int vhe, .int vtk, .int vva, .ref cu, .ref lt, .ref od, .ref th, .ref be, .ref ln, .int (nI S), .ref ma, .int (nI M), .ref ah, .ref bh, .ref ik, .ref la, .ref lg, .ref ce, .int vto])), (st, .inl (G 0, 196, .inl fst)), (ma, .inl (G 0, 12, .inl fma)), (ah, .inl (G 0, 110, .inl u7)), (bh, .inl (G 0, 110, .inl u8))] → va_S A s.heap H locs → ∀ (ls : Array Slot), lv_has ls 7 [(4, .int (nI j13)), (3, .int y14), (2, .int (u8 k11)), (0, .ref h0), (1, .int what)] → W p l e (headSpec (Cond.code yX11_sure cX11_sure 7 (some .int) :: GT) ({ frames := 6, cells := 0, slots := 0, locals := 146 } : Room)).room s m ([.ref h0, .int what] : List Value).toArray below meth c H locs 0 0 (MQ below (va_Qi (fun (r : Int32) (u : (Nat → Int32) × (Nat → Int32)) => match u with | (oah, obh) => (True) ∧ True) (fun (u : (Nat → Int32) × (Nat → Int32)) (t : State) => match u with | (oah, obh) => va_P (dC, dI) vwCl [(h0, .inr (11, [.ref st, .int (nI N), .int (nI B), .ref rp, .int vrs, .int vrb, .int vhs, .int vca, .int vxs, .int vxb, .ref tp, .int (nI T), .int vfa, .int vbr, .int vba, .int vsp, .int vhe, .int vtk, .int vva, .ref cu, .ref lt, .ref od, .ref th, .ref be, .ref ln, .int (nI S), .ref ma, .int (nI M), .ref ah, .ref bh, .ref ik, .ref la, .ref lg, .ref ce, .int vto])), (st, .inl (G 0, 196, .inl fst)), (ma, .inl (G 0, 12, .inl fma)), (ah, .inl (G 0, 110, .inl oah)), (bh, .inl (G 0, 110, .inl obh))] t.heap ∧ va_D A [(h0, .inr (11, [.ref st, .int (nI N), .int (nI B), .ref rp, .int vrs, .int vrb, .int vhs, .int vca, .int vxs, .int vxb, .ref tp, .int (nI T), .int vfa, .int vbr, .int vba, .int vsp, .int vhe, .int vtk, .int vva, .ref cu, .ref lt, .ref od, .ref th, .ref be, .ref ln, .int (nI S), .ref ma, .int (nI M), .ref ah, .ref bh, .ref ik, .ref la, .ref lg, .ref ce, .int vto])), (st, .inl (G 0, 196, .inl fst)), (ma, .inl (G 0, 12, .inl fma)), (ah, .inl (G 0, 110, .inl oah)), (bh, .inl (G 0, 110, .inl obh))]) A) ([.ref h0, .int what] : List Value).toArray s 0 0 A) (F0 m 38 ls []) := by
        intro nf
        induction nf with
        | zero => intro j13 h1 h2; exact absurd h1 (by omega)
        | succ nf ih38_15 =>
          intro j13 hn16 hj17 y14 H locs hP hD hS ls hl
          refine lv_iload hx hb dX11_sure_38 (lv_at hl 0 rfl) ?_
          refine lv_aload_n hx hb dX11_sure_40 rfl (lv_at hl 3 rfl) ?_
          refine va_get (D := (dC, dI)) (ci := 11) (v := .int (nI N)) (C := RX11) (T := TX11) (N := 35) hx hb hg inG11 hown hK.1 hP 0 rfl rfl 1 (Nat.le_of_ble_eq_true rfl) (hg _ wt_879) (fun _ h9 => h9) rfl dX11_sure_41 ?_
          refine lv_icmp_ge (tgt := 125) hx hb dX11_sure_44 rfl (fun c18 => ?_) (fun c18 => ?_)
          · skip
            have tn919_ : nIT j13 := fun _ => nI_toInt (by first | omega | (have t := leI c18; omega))
            have n19 : N ≤ j13 := by have t := leI c18; rw [show (nI (j13)).toInt = ((j13 : Nat) : Int) from tn919_ ()] at t; rw [show (nI (N)).toInt = ((N : Nat) : Int) from tn913_ ()] at t; omega
            refine lv_iload_n hx hb dX11_sure_125 rfl (lv_at hl 1 rfl) ?_
            have hpost : True := by
              trivial
            obtain ⟨hP9, hD9⟩ := va_sub2 (ws' := [(h0, .inr (11, [.ref st, .int (nI N), .int (nI B), .ref rp, .int vrs, .int vrb, .int vhs, .int vca, .int vxs, .int vxb, .ref tp, .int (nI T), .int vfa, .int vbr, .int vba, .int vsp, .int vhe, .int vtk, .int vva, .ref cu, .ref lt, .ref od, .ref th, .ref be, .ref ln, .int (nI S), .ref ma, .int (nI M), .ref ah, .ref bh, .ref ik, .ref la, .ref lg, .ref ce, .int vto])), (st, .inl (G 0, 196, .inl fst)), (ma, .inl (G 0, 12, .inl fma)), (ah, .inl (G 0, 110, .inl u7)), (bh, .inl (G 0, 110, .inl u8))]) hP hD [0, 1, 2, 3, 4] (by decide +kernel) rfl
            refine W.widen (k := 0) (n := 0) (Nat.le_of_ble_eq_true rfl) (Nat.le_of_ble_eq_true rfl) ?_
            exact W.iret (v := y14) hx hb hr (fun t ht hW => ⟨⟨y14, (u7, u8), rfl, ⟨hpost, trivial⟩, ⟨by rw [ht]; exact hP9, hD9⟩⟩, hS.F ht⟩) hS.2.2 dX11_sure_126
          · skip
            have tn920_ : nIT j13 := fun _ => nI_toInt (by first | omega | (have t := nleI c18; omega))
            have n20 : j13 < N := by have t := nleI c18; rw [show (nI (j13)).toInt = ((j13 : Nat) : Int) from tn920_ ()] at t; rw [show (nI (N)).toInt = ((N : Nat) : Int) from tn913_ ()] at t; omega
            refine lv_iconst (v := 0) hx hb dX11_sure_47 rfl ?_
            refine lv_istore (lv' := [(5, .int 0), (4, .int (nI j13)), (3, .int y14), (2, .int (u8 k11)), (0, .ref h0), (1, .int what)]) hx hb dX11_sure_48 hl (by decide) rfl (fun ls hl => ?_)
            refine lv_iconst (v := 0) hx hb dX11_sure_50 rfl ?_
            refine lv_istore (lv' := [(6, .int 0), (5, .int 0), (4, .int (nI j13)), (3, .int y14), (2, .int (u8 k11)), (0, .ref h0), (1, .int what)]) hx hb dX11_sure_51 hl (by decide) rfl (fun ls hl => ?_)
            have loop53_23 : ∀ (nf j21 : Nat), 10 + 1 ≤ j21 + nf → j21 ≤ 10 → ∀ (y22 : Int32) (H : Heap) (locs : List Loc), va_P (dC, dI) vwCl [(h0, .inr (11, [.ref st, .int (nI N), .int (nI B), .ref rp, .int vrs, .int vrb, .int vhs, .int vca, .int vxs, .int vxb, .ref tp, .int (nI T), .int vfa, .int vbr, .int vba, .int vsp, .int vhe, .int vtk, .int vva, .ref cu, .ref lt, .ref od, .ref th, .ref be, .ref ln, .int (nI S), .ref ma, .int (nI M), .ref ah, .ref bh, .ref ik, .ref la, .ref lg, .ref ce, .int vto])), (st, .inl (G 0, 196, .inl fst)), (ma, .inl (G 0, 12, .inl fma)), (ah, .inl (G 0, 110, .inl u7)), (bh, .inl (G 0, 110, .inl u8))] H → va_D A [(h0, .inr (11, [.ref st, .int (nI N), .int (nI B), .ref rp, .int vrs, .int vrb, .int vhs, .int vca, .int vxs, .int vxb, .ref tp, .int (nI T), .int vfa, .int vbr, .int vba, .int vsp, .int vhe, .int vtk, .int vva, .ref cu, .ref lt, .ref od, .ref th, .ref be, .ref ln, .int (nI S), .ref ma, .int (nI M), .ref ah, .ref bh, .ref ik, .ref la, .ref lg, .ref ce, .int vto])), (st, .inl (G 0, 196, .inl fst)), (ma, .inl (G 0, 12, .inl fma)), (ah, .inl (G 0, 110, .inl u7)), (bh, .inl (G 0, 110, .inl u8))] → va_S A s.heap H locs → ∀ (ls : Array Slot), lv_has ls 7 [(6, .int (nI j21)), (5, .int y22), (4, .int (nI j13)), (3, .int y14), (2, .int (u8 k11)), (0, .ref h0), (1, .int what)] → W p l e (headSpec (Cond.code yX11_sure cX11_sure 7 (some .int) :: GT) ({ frames := 6, cells := 0, slots := 0, locals := 146 } : Room)).room s m ([.ref h0, .int what] : List Value).toArray below meth c H locs 0 0 (MQ below (va_Qi (fun (r : Int32) (u : (Nat → Int32) × (Nat → Int32)) => match u with | (oah, obh) => (True) ∧ True) (fun (u : (Nat → Int32) × (Nat → Int32)) (t : State) => match u with | (oah, obh) => va_P (dC, dI) vwCl [(h0, .inr (11, [.ref st, .int (nI N), .int (nI B), .ref rp, .int vrs, .int vrb, .int vhs, .int vca, .int vxs, .int vxb, .ref tp, .int (nI T), .int vfa, .int vbr, .int vba, .int vsp, .int vhe, .int vtk, .int vva, .ref cu, .ref lt, .ref od, .ref th, .ref be, .ref ln, .int (nI S), .ref ma, .int (nI M), .ref ah, .ref bh, .ref ik, .ref la, .ref lg, .ref ce, .int vto])), (st, .inl (G 0, 196, .inl fst)), (ma, .inl (G 0, 12, .inl fma)), (ah, .inl (G 0, 110, .inl oah)), (bh, .inl (G 0, 110, .inl obh))] t.heap ∧ va_D A [(h0, .inr (11, [.ref st, .int (nI N), .int (nI B), .ref rp, .int vrs, .int vrb, .int vhs, .int vca, .int vxs, .int vxb, .ref tp, .int (nI T), .int vfa, .int vbr, .int vba, .int vsp, .int vhe, .int vtk, .int vva, .ref cu, .ref lt, .ref od, .ref th, .ref be, .ref ln, .int (nI S), .ref ma, .int (nI M), .ref ah, .ref bh, .ref ik, .ref la, .ref lg, .ref ce, .int vto])), (st, .inl (G 0, 196, .inl fst)), (ma, .inl (G 0, 12, .inl fma)), (ah, .inl (G 0, 110, .inl oah)), (bh, .inl (G 0, 110, .inl obh))]) A) ([.ref h0, .int what] : List Value).toArray s 0 0 A) (F0 m 53 ls []) := by
              intro nf
              induction nf with
              | zero => intro j21 h1 h2; exact absurd h1 (by omega)
              | succ nf ih53_23 =>
                intro j21 hn24 hj25 y22 H locs hP hD hS ls hl
                refine lv_iload hx hb dX11_sure_53 (lv_at hl 0 rfl) ?_
                refine lv_bipush (v := 10) hx hb dX11_sure_55 rfl ?_
                refine lv_icmp_ge (tgt := 102) hx hb dX11_sure_57 rfl (fun c26 => ?_) (fun c26 => ?_)
                · skip
                  have tn921_ : nIT j21 := fun _ => nI_toInt (by first | omega | (have t := leI c26; omega))
                  have n27 : 10 ≤ j21 := by have t := leI c26; rw [show (nI (j21)).toInt = ((j21 : Nat) : Int) from tn921_ ()] at t; have : (10 : Int32).toInt = 10 := qI_10; omega
                  refine lv_iload_n hx hb dX11_sure_102 rfl (lv_at hl 3 rfl) ?_
                  refine lv_iload hx hb dX11_sure_103 (lv_at hl 1 rfl) ?_
                  refine lv_iload_n hx hb dX11_sure_105 rfl (lv_at hl 4 rfl) ?_
                  have cut117_29 : ∀ (y28 : Int32) (H : Heap) (locs : List Loc), va_P (dC, dI) vwCl [(h0, .inr (11, [.ref st, .int (nI N), .int (nI B), .ref rp, .int vrs, .int vrb, .int vhs, .int vca, .int vxs, .int vxb, .ref tp, .int (nI T), .int vfa, .int vbr, .int vba, .int vsp, .int vhe, .int vtk, .int vva, .ref cu, .ref lt, .ref od, .ref th, .ref be, .ref ln, .int (nI S), .ref ma, .int (nI M), .ref ah, .ref bh, .ref ik, .ref la, .ref lg, .ref ce, .int vto])), (st, .inl (G 0, 196, .inl fst)), (ma, .inl (G 0, 12, .inl fma)), (ah, .inl (G 0, 110, .inl u7)), (bh, .inl (G 0, 110, .inl u8))] H → va_D A [(h0, .inr (11, [.ref st, .int (nI N), .int (nI B), .ref rp, .int vrs, .int vrb, .int vhs, .int vca, .int vxs, .int vxb, .ref tp, .int (nI T), .int vfa, .int vbr, .int vba, .int vsp, .int vhe, .int vtk, .int vva, .ref cu, .ref lt, .ref od, .ref th, .ref be, .ref ln, .int (nI S), .ref ma, .int (nI M), .ref ah, .ref bh, .ref ik, .ref la, .ref lg, .ref ce, .int vto])), (st, .inl (G 0, 196, .inl fst)), (ma, .inl (G 0, 12, .inl fma)), (ah, .inl (G 0, 110, .inl u7)), (bh, .inl (G 0, 110, .inl u8))] → va_S A s.heap H locs → ∀ (ls : Array Slot), lv_has ls 7 [(6, .int (nI j21)), (5, .int y22), (4, .int (nI j13)), (3, .int y14), (2, .int (u8 k11)), (0, .ref h0), (1, .int what)] → W p l e (headSpec (Cond.code yX11_sure cX11_sure 7 (some .int) :: GT) ({ frames := 6, cells := 0, slots := 0, locals := 146 } : Room)).room s m ([.ref h0, .int what] : List Value).toArray below meth c H locs 0 0 (MQ below (va_Qi (fun (r : Int32) (u : (Nat → Int32) × (Nat → Int32)) => match u with | (oah, obh) => (True) ∧ True) (fun (u : (Nat → Int32) × (Nat → Int32)) (t : State) => match u with | (oah, obh) => va_P (dC, dI) vwCl [(h0, .inr (11, [.ref st, .int (nI N), .int (nI B), .ref rp, .int vrs, .int vrb, .int vhs, .int vca, .int vxs, .int vxb, .ref tp, .int (nI T), .int vfa, .int vbr, .int vba, .int vsp, .int vhe, .int vtk, .int vva, .ref cu, .ref lt, .ref od, .ref th, .ref be, .ref ln, .int (nI S), .ref ma, .int (nI M), .ref ah, .ref bh, .ref ik, .ref la, .ref lg, .ref ce, .int vto])), (st, .inl (G 0, 196, .inl fst)), (ma, .inl (G 0, 12, .inl fma)), (ah, .inl (G 0, 110, .inl oah)), (bh, .inl (G 0, 110, .inl obh))] t.heap ∧ va_D A [(h0, .inr (11, [.ref st, .int (nI N), .int (nI B), .ref rp, .int vrs, .int vrb, .int vhs, .int vca, .int vxs, .int vxb, .ref tp, .int (nI T), .int vfa, .int vbr, .int vba, .int vsp, .int vhe, .int vtk, .int vva, .ref cu, .ref lt, .ref od, .ref th, .ref be, .ref ln, .int (nI S), .ref ma, .int (nI M), .ref ah, .ref bh, .ref ik, .ref la, .ref lg, .ref ce, .int vto])), (st, .inl (G 0, 196, .inl fst)), (ma, .inl (G 0, 12, .inl fma)), (ah, .inl (G 0, 110, .inl oah)), (bh, .inl (G 0, 110, .inl obh))]) A) ([.ref h0, .int what] : List Value).toArray s 0 0 A) (F0 m 117 ls [.int y28, .int y14]) := by
                    intro y28 H locs hP hD hS ls hl
                    refine lv_ior hx hb dX11_sure_117 ?_
                    refine lv_istore_n (lv' := [(3, .int (y14 ||| y28)), (6, .int (nI j21)), (5, .int y22), (4, .int (nI j13)), (2, .int (u8 k11)), (0, .ref h0), (1, .int what)]) hx hb dX11_sure_118 rfl hl (by decide) rfl (fun ls hl => ?_)
                    refine lv_iinc (v := nI (j13 + 1)) (lv' := [(4, .int (nI (j13 + 1))), (3, .int (y14 ||| y28)), (6, .int (nI j21)), (5, .int y22), (2, .int (u8 k11)), (0, .ref h0), (1, .int what)]) hx hb dX11_sure_119 hl (k := 3) rfl (by rw [show Int32.ofInt 1 = nI 1 from by decide]; exact nI_add _ _) (by decide) rfl (fun ls hl => ?_)
                    refine lv_goto (tgt := 38) hx hb dX11_sure_122 rfl ?_
                    exact ih38_15 (j13 + 1) (by omega) (by omega) (y14 ||| y28) _ _ hP hD hS ls (lv_sub hl [0, 1, 4, 5, 6] rfl)
                  refine lv_icmp_ne (tgt := 116) hx hb dX11_sure_106 rfl (fun c30 => ?_) (fun c30 => ?_)
                  · skip
                    refine lv_iconst (v := 0) hx hb dX11_sure_116 rfl ?_
                    exact cut117_29 0 _ _ hP hD hS ls (lv_sub hl [0, 1, 2, 3, 4, 5, 6] rfl)
                  · skip
                    refine lv_iconst (v := 1) hx hb dX11_sure_109 rfl ?_
                    refine lv_iload hx hb dX11_sure_110 (lv_at hl 2 rfl) ?_
                    refine lv_ishl hx hb dX11_sure_112 ?_
                    refine lv_goto (tgt := 117) hx hb dX11_sure_113 rfl ?_
                    exact cut117_29 (1 <<< ((nI j13) &&& 31)) _ _ hP hD hS ls (lv_sub hl [0, 1, 2, 3, 4, 5, 6] rfl)
                · skip
                  have tn922_ : nIT j21 := fun _ => nI_toInt (by first | omega | (have t := nleI c26; omega))
                  have n31 : j21 < 10 := by have t := nleI c26; rw [show (nI (j21)).toInt = ((j21 : Nat) : Int) from tn922_ ()] at t; have : (10 : Int32).toInt = 10 := qI_10; omega
                  refine lv_iload hx hb dX11_sure_60 (lv_at hl 1 rfl) ?_
                  refine lv_aload_n hx hb dX11_sure_62 rfl (lv_at hl 5 rfl) ?_
                  refine va_get (D := (dC, dI)) (ci := 11) (v := .ref ah) (C := RX11) (T := TX11) (N := 35) hx hb hg inG11 hown hK.1 hP 0 rfl rfl 28 (Nat.le_of_ble_eq_true rfl) (hg _ wt_906) (fun _ h9 => h9) rfl dX11_sure_63 ?_
                  refine lv_bipush (v := 10) hx hb dX11_sure_66 rfl ?_
                  refine lv_iload hx hb dX11_sure_68 (lv_at hl 2 rfl) ?_
                  refine lv_imul hx hb dX11_sure_70 ?_
                  refine lv_cg (y := nI (10 * j13)) (by rw [show (10 : Int32) = nI 10 from rfl]; exact pk_mul _ _) ?_
                  refine lv_iload hx hb dX11_sure_71 (lv_at hl 0 rfl) ?_
                  refine lv_iadd hx hb dX11_sure_73 ?_
                  refine lv_cg (y := nI ((10 * j13) + j21)) (by exact nI_add _ _) ?_
                  refine va_iald hx hb hK.1 hP 3 0 rfl rfl (vp_in_nI (by first | omega | (have t_b4 := b4; have t_w10a := w10a; have t_w10b := w10b; have t_c12 := neI c12; have t_hj17 := hj17; have t_n20 := n20; have t_hj25 := hj25; have t_n31 := n31; have : (0 : Int32).toInt = 0 := qI_0; have tnb_ := nib8 tn913_ tn914_ tn915_ tn916_ tn917_ tn918_ tn920_ tn922_; omega)) (by decide)) dX11_sure_74 ?_
                  refine lv_cg (y := u7 ((10 * j13) + j21)) (by rw [nI_clamp (by omega)]) ?_
                  refine lv_aload_n hx hb dX11_sure_75 rfl (lv_at hl 5 rfl) ?_
                  refine lv_iload hx hb dX11_sure_76 (lv_at hl 2 rfl) ?_
                  refine lv_iload hx hb dX11_sure_78 (lv_at hl 0 rfl) ?_
                  refine lv_iload_n hx hb dX11_sure_80 rfl (lv_at hl 6 rfl) ?_
                  have cut89_33 : ∀ (y32 : Int32) (H : Heap) (locs : List Loc), va_P (dC, dI) vwCl [(h0, .inr (11, [.ref st, .int (nI N), .int (nI B), .ref rp, .int vrs, .int vrb, .int vhs, .int vca, .int vxs, .int vxb, .ref tp, .int (nI T), .int vfa, .int vbr, .int vba, .int vsp, .int vhe, .int vtk, .int vva, .ref cu, .ref lt, .ref od, .ref th, .ref be, .ref ln, .int (nI S), .ref ma, .int (nI M), .ref ah, .ref bh, .ref ik, .ref la, .ref lg, .ref ce, .int vto])), (st, .inl (G 0, 196, .inl fst)), (ma, .inl (G 0, 12, .inl fma)), (ah, .inl (G 0, 110, .inl u7)), (bh, .inl (G 0, 110, .inl u8))] H → va_D A [(h0, .inr (11, [.ref st, .int (nI N), .int (nI B), .ref rp, .int vrs, .int vrb, .int vhs, .int vca, .int vxs, .int vxb, .ref tp, .int (nI T), .int vfa, .int vbr, .int vba, .int vsp, .int vhe, .int vtk, .int vva, .ref cu, .ref lt, .ref od, .ref th, .ref be, .ref ln, .int (nI S), .ref ma, .int (nI M), .ref ah, .ref bh, .ref ik, .ref la, .ref lg, .ref ce, .int vto])), (st, .inl (G 0, 196, .inl fst)), (ma, .inl (G 0, 12, .inl fma)), (ah, .inl (G 0, 110, .inl u7)), (bh, .inl (G 0, 110, .inl u8))] → va_S A s.heap H locs → ∀ (ls : Array Slot), lv_has ls 7 [(6, .int (nI j21)), (5, .int y22), (4, .int (nI j13)), (3, .int y14), (2, .int (u8 k11)), (0, .ref h0), (1, .int what)] → W p l e (headSpec (Cond.code yX11_sure cX11_sure 7 (some .int) :: GT) ({ frames := 6, cells := 0, slots := 0, locals := 146 } : Room)).room s m ([.ref h0, .int what] : List Value).toArray below meth c H locs 0 0 (MQ below (va_Qi (fun (r : Int32) (u : (Nat → Int32) × (Nat → Int32)) => match u with | (oah, obh) => (True) ∧ True) (fun (u : (Nat → Int32) × (Nat → Int32)) (t : State) => match u with | (oah, obh) => va_P (dC, dI) vwCl [(h0, .inr (11, [.ref st, .int (nI N), .int (nI B), .ref rp, .int vrs, .int vrb, .int vhs, .int vca, .int vxs, .int vxb, .ref tp, .int (nI T), .int vfa, .int vbr, .int vba, .int vsp, .int vhe, .int vtk, .int vva, .ref cu, .ref lt, .ref od, .ref th, .ref be, .ref ln, .int (nI S), .ref ma, .int (nI M), .ref ah, .ref bh, .ref ik, .ref la, .ref lg, .ref ce, .int vto])), (st, .inl (G 0, 196, .inl fst)), (ma, .inl (G 0, 12, .inl fma)), (ah, .inl (G 0, 110, .inl oah)), (bh, .inl (G 0, 110, .inl obh))] t.heap ∧ va_D A [(h0, .inr (11, [.ref st, .int (nI N), .int (nI B), .ref rp, .int vrs, .int vrb, .int vhs, .int vca, .int vxs, .int vxb, .ref tp, .int (nI T), .int vfa, .int vbr, .int vba, .int vsp, .int vhe, .int vtk, .int vva, .ref cu, .ref lt, .ref od, .ref th, .ref be, .ref ln, .int (nI S), .ref ma, .int (nI M), .ref ah, .ref bh, .ref ik, .ref la, .ref lg, .ref ce, .int vto])), (st, .inl (G 0, 196, .inl fst)), (ma, .inl (G 0, 12, .inl fma)), (ah, .inl (G 0, 110, .inl oah)), (bh, .inl (G 0, 110, .inl obh))]) A) ([.ref h0, .int what] : List Value).toArray s 0 0 A) (F0 m 89 ls [.int y32, .int (nI j21), .int (nI j13), .ref h0, .int (u7 ((10 * j13) + j21)), .int y22]) := by
                    intro y32 H locs hP hD hS ls hl
                    have hPc := hP.sub (ws' := [(h0, .inr (11, [.ref st, .int (nI N), .int (nI B), .ref rp, .int vrs, .int vrb, .int vhs, .int vca, .int vxs, .int vxb, .ref tp, .int (nI T), .int vfa, .int vbr, .int vba, .int vsp, .int vhe, .int vtk, .int vva, .ref cu, .ref lt, .ref od, .ref th, .ref be, .ref ln, .int (nI S), .ref ma, .int (nI M), .ref ah, .ref bh, .ref ik, .ref la, .ref lg, .ref ce, .int vto])), (st, .inl (G 0, 196, .inl fst)), (ma, .inl (G 0, 12, .inl fma)), (bh, .inl (G 0, 110, .inl u8))]) [0, 1, 2, 4] rfl
                    refine va_calli (va_runV (As := [.int (nI j13), .int (nI j21), .int y32]) (rest := [.int (u7 ((10 * j13) + j21)), .int y22]) ⟨hx, hb, hml, hown, hg⟩ (c_X11_onward l dC dI G _ h0 j13 j21 st N B rp tp T cu lt od th be ln S ma M ah bh ik la lg ce y32 vrs vrb vhs vca vxs vxb vfa vbr vba vsp vhe vtk vva vto fst fma u8 hN hB_ hT_ hS0 hM_ hst (by first | omega | (have t_b4 := b4; have t_w10a := w10a; have t_w10b := w10b; have t_c12 := neI c12; have t_hj17 := hj17; have t_n20 := n20; have t_hj25 := hj25; have t_n31 := n31; have : (0 : Int32).toInt = 0 := qI_0; have tnb_ := nib8 tn913_ tn914_ tn915_ tn916_ tn917_ tn918_ tn920_ tn922_; omega)) (by first | omega | (have t_b4 := b4; have t_w10a := w10a; have t_w10b := w10b; have t_c12 := neI c12; have t_hj17 := hj17; have t_n20 := n20; have t_hj25 := hj25; have t_n31 := n31; have : (0 : Int32).toInt = 0 := qI_0; have tnb_ := nib8 tn913_ tn914_ tn915_ tn916_ tn917_ tn918_ tn920_ tn922_; omega))) (kwV hg mfX11_onward wt_1232 ⟨Nat.le_of_ble_eq_true rfl, Nat.le_of_ble_eq_true rfl⟩) (preVR hK hPc (ci := 11) (r := (RX11, TX11, 35)) rfl rfl) rfl rfl hl.1 rfl (lv_room (Nat.le_of_ble_eq_true rfl)) dX11_sure_89 ⟨Nat.le_of_ble_eq_true rfl, Nat.le_of_ble_eq_true rfl⟩) hS (fun q h1 h2 => absurd h2 (Nat.not_le.mpr h1)) (fun q h => hA q (Nat.le_trans hS.1 h)) (fun r34 ur34 t H1 locs ht hvm w35 hB hz1 hk1 hS => ?_)
                    have hP := keepR hP hk1
                    obtain ⟨w35, w35x⟩ := w35
                    refine lv_imul hx hb dX11_sure_92 ?_
                    refine lv_topi (fun v36 ev36 => ?_)
                    refine lv_iadd hx hb dX11_sure_93 ?_
                    refine lv_istore (lv' := [(5, .int (y22 + v36)), (6, .int (nI j21)), (4, .int (nI j13)), (3, .int y14), (2, .int (u8 k11)), (0, .ref h0), (1, .int what)]) hx hb dX11_sure_94 hl (by decide) rfl (fun ls hl => ?_)
                    refine lv_iinc (v := nI (j21 + 1)) (lv' := [(6, .int (nI (j21 + 1))), (5, .int (y22 + v36)), (4, .int (nI j13)), (3, .int y14), (2, .int (u8 k11)), (0, .ref h0), (1, .int what)]) hx hb dX11_sure_96 hl (k := 1) rfl (by rw [show Int32.ofInt 1 = nI 1 from by decide]; exact nI_add _ _) (by decide) rfl (fun ls hl => ?_)
                    refine lv_goto (tgt := 53) hx hb dX11_sure_99 rfl ?_
                    exact ih53_23 (j21 + 1) (by omega) (by omega) (y22 + v36) _ _ hP hD hS ls (lv_sub hl [0, 1, 2, 3, 4, 5, 6] rfl)
                  refine lv_if_ne (tgt := 88) hx hb dX11_sure_81 rfl (fun c37 => ?_) (fun c37 => ?_)
                  · skip
                    refine lv_iconst (v := 0) hx hb dX11_sure_88 rfl ?_
                    exact cut89_33 0 _ _ hP hD hS ls (lv_sub hl [0, 1, 2, 3, 4, 5, 6] rfl)
                  · skip
                    refine lv_iconst (v := 1) hx hb dX11_sure_84 rfl ?_
                    refine lv_goto (tgt := 89) hx hb dX11_sure_85 rfl ?_
                    exact cut89_33 1 _ _ hP hD hS ls (lv_sub hl [0, 1, 2, 3, 4, 5, 6] rfl)
            exact loop53_23 (10 + 1) 0 (by omega) (by omega) 0 _ _ hP hD hS ls (lv_sub hl [0, 1, 2, 3, 4, 5, 6] rfl)
      exact loop38_15 (N + 1) 0 (by omega) (by omega) 0 _ _ hP hD hS ls (lv_sub hl [0, 1, 2, 3, 4] rfl)
    · skip
      refine lv_bipush (v := (-4)) hx hb dX11_sure_30 rfl ?_
      have hpost : True := by
        trivial
      obtain ⟨hP9, hD9⟩ := va_sub2 (ws' := [(h0, .inr (11, [.ref st, .int (nI N), .int (nI B), .ref rp, .int vrs, .int vrb, .int vhs, .int vca, .int vxs, .int vxb, .ref tp, .int (nI T), .int vfa, .int vbr, .int vba, .int vsp, .int vhe, .int vtk, .int vva, .ref cu, .ref lt, .ref od, .ref th, .ref be, .ref ln, .int (nI S), .ref ma, .int (nI M), .ref ah, .ref bh, .ref ik, .ref la, .ref lg, .ref ce, .int vto])), (st, .inl (G 0, 196, .inl fst)), (ma, .inl (G 0, 12, .inl fma)), (ah, .inl (G 0, 110, .inl u7)), (bh, .inl (G 0, 110, .inl u8))]) hP hD [0, 1, 2, 3, 4] (by decide +kernel) rfl
      refine W.widen (k := 0) (n := 0) (Nat.le_of_ble_eq_true rfl) (Nat.le_of_ble_eq_true rfl) ?_
      exact W.iret (v := (-4)) hx hb hr (fun t ht hW => ⟨⟨(-4), (u7, u8), rfl, ⟨hpost, trivial⟩, ⟨by rw [ht]; exact hP9, hD9⟩⟩, hS.F ht⟩) hS.2.2 dX11_sure_32
  · skip
    have b38 := if10_n c3
    refine lv_iconst (v := (-1)) hx hb dX11_sure_10 rfl ?_
    have hpost : True := by
      trivial
    obtain ⟨hP9, hD9⟩ := va_sub2 (ws' := [(h0, .inr (11, [.ref st, .int (nI N), .int (nI B), .ref rp, .int vrs, .int vrb, .int vhs, .int vca, .int vxs, .int vxb, .ref tp, .int (nI T), .int vfa, .int vbr, .int vba, .int vsp, .int vhe, .int vtk, .int vva, .ref cu, .ref lt, .ref od, .ref th, .ref be, .ref ln, .int (nI S), .ref ma, .int (nI M), .ref ah, .ref bh, .ref ik, .ref la, .ref lg, .ref ce, .int vto])), (st, .inl (G 0, 196, .inl fst)), (ma, .inl (G 0, 12, .inl fma)), (ah, .inl (G 0, 110, .inl fah)), (bh, .inl (G 0, 110, .inl fbh))]) hP hD [0, 1, 2, 3, 4] (by decide +kernel) rfl
    refine W.widen (k := 0) (n := 0) (Nat.le_of_ble_eq_true rfl) (Nat.le_of_ble_eq_true rfl) ?_
    exact W.iret (v := (-1)) hx hb hr (fun t ht hW => ⟨⟨(-1), (fah, fbh), rfl, ⟨hpost, trivial⟩, ⟨by rw [ht]; exact hP9, hD9⟩⟩, hS.F ht⟩) hS.2.2 dX11_sure_11

set_option maxHeartbeats 1000000 in
set_option maxRecDepth 100000 in
theorem c_X11_sheet (l : Launch) (dC : Nat → ClassId) (dI : Nat → Nat → Nat) (G : Nat → ClassId) (sz : Nat) (h0 st N B rp tp T cu lt od th be ln S ma M ah bh ik la lg ce : Nat) (k lane n vrs vrb vhs vca vxs vxb vfa vbr vba vsp vhe vtk vva vto : Int32) (fla : Nat → Int32) (flg : Nat → Int32) (fce : Nat → Int32) (hN : N ≤ 10) (hB : B ≤ 6) (hT : T ≤ 320) (hS0 : S ≤ 8) (hM : M ≤ 6) (hz : ∀ q : Nat, q < 4 → 0 ≤ (flg q).toInt ∧ (flg q).toInt ≤ 40) : Met l yX11_sheet (Cond.code yX11_sheet cX11_sheet 5 (some .int) :: GT) ({ frames := 1, cells := 0, slots := 0, locals := 25 } : Room) (PcW [.ref h0, .int k, .int lane, .int n] dC dI G [(h0, .inr (11, [.ref st, .int (nI N), .int (nI B), .ref rp, .int vrs, .int vrb, .int vhs, .int vca, .int vxs, .int vxb, .ref tp, .int (nI T), .int vfa, .int vbr, .int vba, .int vsp, .int vhe, .int vtk, .int vva, .ref cu, .ref lt, .ref od, .ref th, .ref be, .ref ln, .int (nI S), .ref ma, .int (nI M), .ref ah, .ref bh, .ref ik, .ref la, .ref lg, .ref ce, .int vto])), (la, .inl (G 0, 4, .inl fla)), (lg, .inl (G 0, 4, .inl flg)), (ce, .inl (G 0, 160, .inl fce))] sz) (va_Qi (fun (r : Int32) (u : (Nat → Int32) × (Nat → Int32) × (Nat → Int32)) => match u with | (ola, olg, oce) => (r = if (0 ≤ k.toInt ∧ k.toInt < 4) ∧ (0 ≤ lane.toInt ∧ lane.toInt ≤ 2) ∧ n.toInt ≤ 40 then (if n.toInt < 0 then -14 else 1) else -1) ∧ (ola = (if ((0 ≤ k.toInt ∧ k.toInt < 4) ∧ (0 ≤ lane.toInt ∧ lane.toInt ≤ 2) ∧ n.toInt ≤ 40 ∧ 0 ≤ n.toInt) then upd fla k.toNatClampNeg lane else fla) ∧ olg = (if ((0 ≤ k.toInt ∧ k.toInt < 4) ∧ (0 ≤ lane.toInt ∧ lane.toInt ≤ 2) ∧ n.toInt ≤ 40 ∧ 0 ≤ n.toInt) then upd flg k.toNatClampNeg n else flg)) ∧ ∀ q : Nat, q < 4 → 0 ≤ (olg q).toInt ∧ (olg q).toInt ≤ 40) (fun (u : (Nat → Int32) × (Nat → Int32) × (Nat → Int32)) (t : State) => match u with | (ola, olg, oce) => va_P (dC, dI) vwCl [(h0, .inr (11, [.ref st, .int (nI N), .int (nI B), .ref rp, .int vrs, .int vrb, .int vhs, .int vca, .int vxs, .int vxb, .ref tp, .int (nI T), .int vfa, .int vbr, .int vba, .int vsp, .int vhe, .int vtk, .int vva, .ref cu, .ref lt, .ref od, .ref th, .ref be, .ref ln, .int (nI S), .ref ma, .int (nI M), .ref ah, .ref bh, .ref ik, .ref la, .ref lg, .ref ce, .int vto])), (la, .inl (G 0, 4, .inl ola)), (lg, .inl (G 0, 4, .inl olg)), (ce, .inl (G 0, 160, .inl oce))] t.heap ∧ va_D (va_A [(h0, .inr (11, [.ref st, .int (nI N), .int (nI B), .ref rp, .int vrs, .int vrb, .int vhs, .int vca, .int vxs, .int vxb, .ref tp, .int (nI T), .int vfa, .int vbr, .int vba, .int vsp, .int vhe, .int vtk, .int vva, .ref cu, .ref lt, .ref od, .ref th, .ref be, .ref ln, .int (nI S), .ref ma, .int (nI M), .ref ah, .ref bh, .ref ik, .ref la, .ref lg, .ref ce, .int vto])), (la, .inl (G 0, 4, .inl fla)), (lg, .inl (G 0, 4, .inl flg)), (ce, .inl (G 0, 160, .inl fce))] sz) [(h0, .inr (11, [.ref st, .int (nI N), .int (nI B), .ref rp, .int vrs, .int vrb, .int vhs, .int vca, .int vxs, .int vxb, .ref tp, .int (nI T), .int vfa, .int vbr, .int vba, .int vsp, .int vhe, .int vtk, .int vva, .ref cu, .ref lt, .ref od, .ref th, .ref be, .ref ln, .int (nI S), .ref ma, .int (nI M), .ref ah, .ref bh, .ref ik, .ref la, .ref lg, .ref ce, .int vto])), (la, .inl (G 0, 4, .inl ola)), (lg, .inl (G 0, 4, .inl olg)), (ce, .inl (G 0, 160, .inl oce))]) (va_A [(h0, .inr (11, [.ref st, .int (nI N), .int (nI B), .ref rp, .int vrs, .int vrb, .int vhs, .int vca, .int vxs, .int vxb, .ref tp, .int (nI T), .int vfa, .int vbr, .int vba, .int vsp, .int vhe, .int vtk, .int vva, .ref cu, .ref lt, .ref od, .ref th, .ref be, .ref ln, .int (nI S), .ref ma, .int (nI M), .ref ah, .ref bh, .ref ik, .ref la, .ref lg, .ref ce, .int vto])), (la, .inl (G 0, 4, .inl fla)), (lg, .inl (G 0, 4, .inl flg)), (ce, .inl (G 0, 160, .inl fce))] sz)) 0 0 (va_A [(h0, .inr (11, [.ref st, .int (nI N), .int (nI B), .ref rp, .int vrs, .int vrb, .int vhs, .int vca, .int vxs, .int vxb, .ref tp, .int (nI T), .int vfa, .int vbr, .int vba, .int vsp, .int vhe, .int vtk, .int vva, .ref cu, .ref lt, .ref od, .ref th, .ref be, .ref ln, .int (nI S), .ref ma, .int (nI M), .ref ah, .ref bh, .ref ik, .ref la, .ref lg, .ref ce, .int vto])), (la, .inl (G 0, 4, .inl fla)), (lg, .inl (G 0, 4, .inl flg)), (ce, .inl (G 0, 160, .inl fce))] sz) := by
  have tn944_ : nIT N := fun _ => nI_toInt (by omega)
  have tn945_ : nIT B := fun _ => nI_toInt (by omega)
  have tn946_ : nIT T := fun _ => nI_toInt (by omega)
  have tn947_ : nIT S := fun _ => nI_toInt (by omega)
  have tn948_ : nIT M := fun _ => nI_toInt (by omega)
  refine Met.ofW (cc := cX11_sheet) (maxL := 5) (ret := (some .int)) (by decide) rfl ?_
  intro p e s m args below meth c s₁ Bd hml hv
  obtain ⟨rfl, hsz, hP, hK, hD0⟩ := hv
  have hx := Bd.exec
  have hb := Bd.bytes
  have hr := Bd.returns
  have hg : ∀ w ∈ GT, w.before ([.ref h0, .int k, .int lane, .int n] : List Value).toArray s = true := fun w h => atoms_spec (ws := Cond.code yX11_sheet cX11_sheet 5 (some .int) :: GT) Bd.pre w (List.mem_cons_of_mem _ h)
  have hown : s.vm.findClass RX11 = some m.cls := findClass_of_methodNamed Bd.named
  have hlocks := Bd.notSynchronized
  subst hsz
  have hD := hD0.self (sz := s.heap.size)
  generalize hAe : va_A [(h0, .inr (11, [.ref st, .int (nI N), .int (nI B), .ref rp, .int vrs, .int vrb, .int vhs, .int vca, .int vxs, .int vxb, .ref tp, .int (nI T), .int vfa, .int vbr, .int vba, .int vsp, .int vhe, .int vtk, .int vva, .ref cu, .ref lt, .ref od, .ref th, .ref be, .ref ln, .int (nI S), .ref ma, .int (nI M), .ref ah, .ref bh, .ref ik, .ref la, .ref lg, .ref ce, .int vto])), (la, .inl (G 0, 4, .inl fla)), (lg, .inl (G 0, 4, .inl flg)), (ce, .inl (G 0, 160, .inl fce))] s.heap.size = A at hD ⊢
  have hA : ∀ q : Nat, s.heap.size ≤ q → A q := fun q h => by rw [← hAe]; exact Or.inr h
  have hS : va_S A s.heap s.heap [] := va_S.rf
  have hl := lv_entry ([.ref h0, .int k, .int lane, .int n]) (n := 5) (Nat.le_of_ble_eq_true rfl)
  rw [lg_entry_eq]
  generalize (lg_sl ([.ref h0, .int k, .int lane, .int n]) ++ List.replicate (5 - (lg_sl ([.ref h0, .int k, .int lane, .int n])).length) Slot.unset).toArray = ls at hl ⊢
  have hl : lv_has ls 5 [(0, .ref h0), (1, .int k), (2, .int lane), (3, .int n)] := hl
  refine lv_iload_n hx hb dX11_sheet_0 rfl (lv_at hl 1 rfl) ?_
  refine lv_i2l (v := k.toInt64) hx hb dX11_sheet_1 rfl ?_
  refine lv_lconst (v := 0) hx hb dX11_sheet_2 (by decide) ?_
  refine lv_ldc2 (v := 3) hx hb hown (hg _ wt_1023) dX11_sheet_3 ?_
  have hPc := hP.sub (ws' := []) [] rfl
  refine va_calli (va_runS (As := [.long k.toInt64, .long 0, .long 3]) (rest := []) ⟨hx, hb, hml, hown, hg⟩ (c_X11_in l dC dI G _ k.toInt64 0 3) (kwS hg mfX11_in wt_992 ⟨Nat.le_of_ble_eq_true rfl, Nat.le_of_ble_eq_true rfl⟩) (preSR hK hPc) rfl rfl hl.1 rfl (lv_room (Nat.le_of_ble_eq_true rfl)) dX11_sheet_6 ⟨Nat.le_of_ble_eq_true rfl, Nat.le_of_ble_eq_true rfl⟩) hS (fun q h1 h2 => absurd h2 (Nat.not_le.mpr h1)) (fun q h => hA q (Nat.le_trans hS.1 h)) (fun r1 ur1 t H1 locs ht hvm w2 hB hz1 hk1 hS => ?_)
  have hP := keepR hP hk1
  obtain ⟨w2, w2x⟩ := w2
  try simp only [l_ii, show (0 : Int64).toInt = 0 from by decide, show (3 : Int64).toInt = 3 from by decide] at w2
  subst w2
  refine lv_if_eq (tgt := 30) hx hb dX11_sheet_9 rfl (fun c3 => ?_) (fun c3 => ?_)
  · skip
    have b4 := if10_n c3
    refine lv_iconst (v := (-1)) hx hb dX11_sheet_30 rfl ?_
    have hpost : ((-1) : Int32) = if (0 ≤ k.toInt ∧ k.toInt < 4) ∧ (0 ≤ lane.toInt ∧ lane.toInt ≤ 2) ∧ n.toInt ≤ 40 then (if n.toInt < 0 then -14 else 1) else -1 := by
      have t_b4 := b4
      have t_n0 : (nI N).toInt = (N : Int) := tn944_ ()
      have t_n1 : (nI B).toInt = (B : Int) := tn945_ ()
      have t_n2 : (nI T).toInt = (T : Int) := tn946_ ()
      have t_n3 : (nI S).toInt = (S : Int) := tn947_ ()
      have t_n4 : (nI M).toInt = (M : Int) := tn948_ ()
      first | rfl | ((repeat' split) <;> first | rfl | omega)
    obtain ⟨hP9, hD9⟩ := va_sub2 (ws' := [(h0, .inr (11, [.ref st, .int (nI N), .int (nI B), .ref rp, .int vrs, .int vrb, .int vhs, .int vca, .int vxs, .int vxb, .ref tp, .int (nI T), .int vfa, .int vbr, .int vba, .int vsp, .int vhe, .int vtk, .int vva, .ref cu, .ref lt, .ref od, .ref th, .ref be, .ref ln, .int (nI S), .ref ma, .int (nI M), .ref ah, .ref bh, .ref ik, .ref la, .ref lg, .ref ce, .int vto])), (la, .inl (G 0, 4, .inl fla)), (lg, .inl (G 0, 4, .inl flg)), (ce, .inl (G 0, 160, .inl fce))]) hP hD [0, 1, 2, 3] (by decide +kernel) rfl
    refine W.widen (k := 0) (n := 0) (Nat.le_of_ble_eq_true rfl) (Nat.le_of_ble_eq_true rfl) ?_
    exact W.iret (v := (-1)) hx hb hr (fun t ht hW => ⟨⟨(-1), (fla, flg, fce), rfl, ⟨hpost, (by have t_b4 := b4; have tnb_ := nib5 tn944_ tn945_ tn946_ tn947_ tn948_; refine ⟨⟨?_, ?_⟩, hz⟩ <;> rw [if_neg (by omega)])⟩, ⟨by rw [ht]; exact hP9, hD9⟩⟩, hS.F ht⟩) hS.2.2 dX11_sheet_31
  · skip
    have b5 := if10_p c3
    refine lv_iload_n hx hb dX11_sheet_12 rfl (lv_at hl 2 rfl) ?_
    refine lv_i2l (v := lane.toInt64) hx hb dX11_sheet_13 rfl ?_
    refine lv_lconst (v := 0) hx hb dX11_sheet_14 (by decide) ?_
    refine lv_ldc2 (v := 2) hx hb hown (hg _ wt_1056) dX11_sheet_15 ?_
    have hPc := hP.sub (ws' := []) [] rfl
    refine va_calli (va_runS (As := [.long lane.toInt64, .long 0, .long 2]) (rest := []) ⟨hx, hb, hml, hown, hg⟩ (c_X11_in l dC dI G _ lane.toInt64 0 2) (kwS hg mfX11_in wt_992 ⟨Nat.le_of_ble_eq_true rfl, Nat.le_of_ble_eq_true rfl⟩) (preSR hK hPc) rfl rfl hl.1 rfl (lv_room (Nat.le_of_ble_eq_true rfl)) dX11_sheet_18 ⟨Nat.le_of_ble_eq_true rfl, Nat.le_of_ble_eq_true rfl⟩) hS (fun q h1 h2 => absurd h2 (Nat.not_le.mpr h1)) (fun q h => hA q (Nat.le_trans hS.1 h)) (fun r6 ur6 t H1 locs ht hvm w7 hB hz1 hk1 hS => ?_)
    have hP := keepR hP hk1
    obtain ⟨w7, w7x⟩ := w7
    try simp only [l_ii, show (0 : Int64).toInt = 0 from by decide, show (2 : Int64).toInt = 2 from by decide] at w7
    subst w7
    refine lv_if_eq (tgt := 30) hx hb dX11_sheet_21 rfl (fun c8 => ?_) (fun c8 => ?_)
    · skip
      have b9 := if10_n c8
      refine lv_iconst (v := (-1)) hx hb dX11_sheet_30 rfl ?_
      have hpost : ((-1) : Int32) = if (0 ≤ k.toInt ∧ k.toInt < 4) ∧ (0 ≤ lane.toInt ∧ lane.toInt ≤ 2) ∧ n.toInt ≤ 40 then (if n.toInt < 0 then -14 else 1) else -1 := by
        have t_b5 := b5
        have t_b9 := b9
        have t_n0 : (nI N).toInt = (N : Int) := tn944_ ()
        have t_n1 : (nI B).toInt = (B : Int) := tn945_ ()
        have t_n2 : (nI T).toInt = (T : Int) := tn946_ ()
        have t_n3 : (nI S).toInt = (S : Int) := tn947_ ()
        have t_n4 : (nI M).toInt = (M : Int) := tn948_ ()
        first | rfl | ((repeat' split) <;> first | rfl | omega)
      obtain ⟨hP9, hD9⟩ := va_sub2 (ws' := [(h0, .inr (11, [.ref st, .int (nI N), .int (nI B), .ref rp, .int vrs, .int vrb, .int vhs, .int vca, .int vxs, .int vxb, .ref tp, .int (nI T), .int vfa, .int vbr, .int vba, .int vsp, .int vhe, .int vtk, .int vva, .ref cu, .ref lt, .ref od, .ref th, .ref be, .ref ln, .int (nI S), .ref ma, .int (nI M), .ref ah, .ref bh, .ref ik, .ref la, .ref lg, .ref ce, .int vto])), (la, .inl (G 0, 4, .inl fla)), (lg, .inl (G 0, 4, .inl flg)), (ce, .inl (G 0, 160, .inl fce))]) hP hD [0, 1, 2, 3] (by decide +kernel) rfl
      refine W.widen (k := 0) (n := 0) (Nat.le_of_ble_eq_true rfl) (Nat.le_of_ble_eq_true rfl) ?_
      exact W.iret (v := (-1)) hx hb hr (fun t ht hW => ⟨⟨(-1), (fla, flg, fce), rfl, ⟨hpost, (by have t_b5 := b5; have t_b9 := b9; have tnb_ := nib5 tn944_ tn945_ tn946_ tn947_ tn948_; refine ⟨⟨?_, ?_⟩, hz⟩ <;> rw [if_neg (by omega)])⟩, ⟨by rw [ht]; exact hP9, hD9⟩⟩, hS.F ht⟩) hS.2.2 dX11_sheet_31
    · skip
      have b10 := if10_p c8
      refine lv_iload_n hx hb dX11_sheet_24 rfl (lv_at hl 3 rfl) ?_
      refine lv_bipush (v := 40) hx hb dX11_sheet_25 rfl ?_
      refine lv_icmp_le (tgt := 32) hx hb dX11_sheet_27 rfl (fun c11 => ?_) (fun c11 => ?_)
      · skip
        refine lv_iload_n hx hb dX11_sheet_32 rfl (lv_at hl 3 rfl) ?_
        refine lv_if_ge (tgt := 39) hx hb dX11_sheet_33 rfl (fun c12 => ?_) (fun c12 => ?_)
        · skip
          obtain ⟨kk, hkk, rfl⟩ : ∃ j : Nat, j < 4 ∧ k = nI j := by
            have t_b5 := b5
            have t_b10 := b10
            have t_c11 := leI c11
            have t_c12 := leI c12
            have : (0 : Int32).toInt = 0 := qI_0
            have : (40 : Int32).toInt = 40 := qI_40
            have t_n0 : (nI N).toInt = (N : Int) := tn944_ ()
            have t_n1 : (nI B).toInt = (B : Int) := tn945_ ()
            have t_n2 : (nI T).toInt = (T : Int) := tn946_ ()
            have t_n3 : (nI S).toInt = (S : Int) := tn947_ ()
            have t_n4 : (nI M).toInt = (M : Int) := tn948_ ()
            exact i32_nat (by omega) (by omega)
          obtain ⟨nn, hnn, rfl⟩ : ∃ j : Nat, j < 41 ∧ n = nI j := by
            have t_b5 := b5
            have t_b10 := b10
            have t_c11 := leI c11
            have t_c12 := leI c12
            have t_hkk := hkk
            have : (0 : Int32).toInt = 0 := qI_0
            have : (40 : Int32).toInt = 40 := qI_40
            have t_n0 : (nI N).toInt = (N : Int) := tn944_ ()
            have t_n1 : (nI B).toInt = (B : Int) := tn945_ ()
            have t_n2 : (nI T).toInt = (T : Int) := tn946_ ()
            have t_n3 : (nI S).toInt = (S : Int) := tn947_ ()
            have t_n4 : (nI M).toInt = (M : Int) := tn948_ ()
            have tn949_ : nIT kk := fun _ => nI_toInt (by omega)
            have t_n5 : (nI kk).toInt = (kk : Int) := tn949_ ()
            exact i32_nat (by omega) (by omega)
          refine lv_aload_n hx hb dX11_sheet_39 rfl (lv_at hl 0 rfl) ?_
          refine va_get (D := (dC, dI)) (ci := 11) (v := .ref la) (C := RX11) (T := TX11) (N := 35) hx hb hg inG11 hown hK.1 hP 0 rfl rfl 31 (Nat.le_of_ble_eq_true rfl) (hg _ wt_909) (fun _ h9 => h9) rfl dX11_sheet_40 ?_
          refine lv_iload_n hx hb dX11_sheet_43 rfl (lv_at hl 1 rfl) ?_
          refine lv_iload_n hx hb dX11_sheet_44 rfl (lv_at hl 2 rfl) ?_
          have tn950_ : nIT kk := fun _ => nI_toInt (by first | omega | (have t_b5 := b5; have t_b10 := b10; have t_c11 := leI c11; have t_c12 := leI c12; have t_hkk := hkk; have t_hnn := hnn; have tqz_ := qz11_; omega))
          have tn951_ : nIT nn := fun _ => nI_toInt (by first | omega | (have t_b5 := b5; have t_b10 := b10; have t_c11 := leI c11; have t_c12 := leI c12; have t_hkk := hkk; have t_hnn := hnn; have tqz_ := qz11_; omega))
          refine va_iast hx hb hK.1 hP hD hS 1 0 rfl rfl (vp_in_nI (by first | omega | (have t_b5 := b5; have t_b10 := b10; have t_c11 := leI c11; have t_c12 := leI c12; have t_hkk := hkk; have t_hnn := hnn; have tqz_ := qz11_; have tnb_ := nib7 tn944_ tn945_ tn946_ tn947_ tn948_ tn950_ tn951_; omega)) (by decide)) dX11_sheet_45 (fun H locs hP hD hS => ?_)
          rw [nI_clamp (by omega)] at hP hD
          refine lv_aload_n hx hb dX11_sheet_46 rfl (lv_at hl 0 rfl) ?_
          refine va_get (D := (dC, dI)) (ci := 11) (v := .ref lg) (C := RX11) (T := TX11) (N := 35) hx hb hg inG11 hown hK.1 hP 0 rfl rfl 32 (Nat.le_of_ble_eq_true rfl) (hg _ wt_910) (fun _ h9 => h9) rfl dX11_sheet_47 ?_
          refine lv_iload_n hx hb dX11_sheet_50 rfl (lv_at hl 1 rfl) ?_
          refine lv_iload_n hx hb dX11_sheet_51 rfl (lv_at hl 3 rfl) ?_
          refine va_iast hx hb hK.1 hP hD hS 2 0 rfl rfl (vp_in_nI (by first | omega | (have t_b5 := b5; have t_b10 := b10; have t_c11 := leI c11; have t_c12 := leI c12; have t_hkk := hkk; have t_hnn := hnn; have tqz_ := qz11_; have tnb_ := nib7 tn944_ tn945_ tn946_ tn947_ tn948_ tn950_ tn951_; omega)) (by decide)) dX11_sheet_52 (fun H locs hP hD hS => ?_)
          rw [nI_clamp (by omega)] at hP hD
          refine lv_iconst (v := 0) hx hb dX11_sheet_53 rfl ?_
          refine lv_istore (lv' := [(4, .int 0), (0, .ref h0), (1, .int (nI kk)), (2, .int lane), (3, .int (nI nn))]) hx hb dX11_sheet_54 hl (by decide) rfl (fun ls hl => ?_)
          have loop56_15 : ∀ (nf j13 : Nat), 40 + 1 ≤ j13 + nf → j13 ≤ 40 → ∀ (g14 : Nat → Int32) (H : Heap) (locs : List Loc), va_P (dC, dI) vwCl [(h0, .inr (11, [.ref st, .int (nI N), .int (nI B), .ref rp, .int vrs, .int vrb, .int vhs, .int vca, .int vxs, .int vxb, .ref tp, .int (nI T), .int vfa, .int vbr, .int vba, .int vsp, .int vhe, .int vtk, .int vva, .ref cu, .ref lt, .ref od, .ref th, .ref be, .ref ln, .int (nI S), .ref ma, .int (nI M), .ref ah, .ref bh, .ref ik, .ref la, .ref lg, .ref ce, .int vto])), (la, .inl (G 0, 4, .inl (upd fla kk lane))), (lg, .inl (G 0, 4, .inl (upd flg kk (nI nn)))), (ce, .inl (G 0, 160, .inl g14))] H → va_D A [(h0, .inr (11, [.ref st, .int (nI N), .int (nI B), .ref rp, .int vrs, .int vrb, .int vhs, .int vca, .int vxs, .int vxb, .ref tp, .int (nI T), .int vfa, .int vbr, .int vba, .int vsp, .int vhe, .int vtk, .int vva, .ref cu, .ref lt, .ref od, .ref th, .ref be, .ref ln, .int (nI S), .ref ma, .int (nI M), .ref ah, .ref bh, .ref ik, .ref la, .ref lg, .ref ce, .int vto])), (la, .inl (G 0, 4, .inl (upd fla kk lane))), (lg, .inl (G 0, 4, .inl (upd flg kk (nI nn)))), (ce, .inl (G 0, 160, .inl g14))] → va_S A s.heap H locs → ∀ (ls : Array Slot), lv_has ls 5 [(4, .int (nI j13)), (0, .ref h0), (1, .int (nI kk)), (2, .int lane), (3, .int (nI nn))] → W p l e (headSpec (Cond.code yX11_sheet cX11_sheet 5 (some .int) :: GT) ({ frames := 1, cells := 0, slots := 0, locals := 25 } : Room)).room s m ([.ref h0, .int (nI kk), .int lane, .int (nI nn)] : List Value).toArray below meth c H locs 0 0 (MQ below (va_Qi (fun (r : Int32) (u : (Nat → Int32) × (Nat → Int32) × (Nat → Int32)) => match u with | (ola, olg, oce) => (r = if (0 ≤ (nI kk).toInt ∧ (nI kk).toInt < 4) ∧ (0 ≤ lane.toInt ∧ lane.toInt ≤ 2) ∧ (nI nn).toInt ≤ 40 then (if (nI nn).toInt < 0 then -14 else 1) else -1) ∧ (ola = (if ((0 ≤ (nI kk).toInt ∧ (nI kk).toInt < 4) ∧ (0 ≤ lane.toInt ∧ lane.toInt ≤ 2) ∧ (nI nn).toInt ≤ 40 ∧ 0 ≤ (nI nn).toInt) then upd fla (nI kk).toNatClampNeg lane else fla) ∧ olg = (if ((0 ≤ (nI kk).toInt ∧ (nI kk).toInt < 4) ∧ (0 ≤ lane.toInt ∧ lane.toInt ≤ 2) ∧ (nI nn).toInt ≤ 40 ∧ 0 ≤ (nI nn).toInt) then upd flg (nI kk).toNatClampNeg (nI nn) else flg)) ∧ ∀ q : Nat, q < 4 → 0 ≤ (olg q).toInt ∧ (olg q).toInt ≤ 40) (fun (u : (Nat → Int32) × (Nat → Int32) × (Nat → Int32)) (t : State) => match u with | (ola, olg, oce) => va_P (dC, dI) vwCl [(h0, .inr (11, [.ref st, .int (nI N), .int (nI B), .ref rp, .int vrs, .int vrb, .int vhs, .int vca, .int vxs, .int vxb, .ref tp, .int (nI T), .int vfa, .int vbr, .int vba, .int vsp, .int vhe, .int vtk, .int vva, .ref cu, .ref lt, .ref od, .ref th, .ref be, .ref ln, .int (nI S), .ref ma, .int (nI M), .ref ah, .ref bh, .ref ik, .ref la, .ref lg, .ref ce, .int vto])), (la, .inl (G 0, 4, .inl ola)), (lg, .inl (G 0, 4, .inl olg)), (ce, .inl (G 0, 160, .inl oce))] t.heap ∧ va_D A [(h0, .inr (11, [.ref st, .int (nI N), .int (nI B), .ref rp, .int vrs, .int vrb, .int vhs, .int vca, .int vxs, .int vxb, .ref tp, .int (nI T), .int vfa, .int vbr, .int vba, .int vsp, .int vhe, .int vtk, .int vva, .ref cu, .ref lt, .ref od, .ref th, .ref be, .ref ln, .int (nI S), .ref ma, .int (nI M), .ref ah, .ref bh, .ref ik, .ref la, .ref lg, .ref ce, .int vto])), (la, .inl (G 0, 4, .inl ola)), (lg, .inl (G 0, 4, .inl olg)), (ce, .inl (G 0, 160, .inl oce))]) A) ([.ref h0, .int (nI kk), .int lane, .int (nI nn)] : List Value).toArray s 0 0 A) (F0 m 56 ls []) := by
            intro nf
            induction nf with
            | zero => intro j13 h1 h2; exact absurd h1 (by omega)
            | succ nf ih56_15 =>
              intro j13 hn16 hj17 g14 H locs hP hD hS ls hl
              refine lv_iload hx hb dX11_sheet_56 (lv_at hl 0 rfl) ?_
              refine lv_bipush (v := 40) hx hb dX11_sheet_58 rfl ?_
              refine lv_icmp_ge (tgt := 82) hx hb dX11_sheet_60 rfl (fun c18 => ?_) (fun c18 => ?_)
              · skip
                have tn952_ : nIT j13 := fun _ => nI_toInt (by first | omega | (have t := leI c18; omega))
                have n19 : 40 ≤ j13 := by have t := leI c18; rw [show (nI (j13)).toInt = ((j13 : Nat) : Int) from tn952_ ()] at t; have : (40 : Int32).toInt = 40 := qI_40; omega
                refine lv_iconst (v := 1) hx hb dX11_sheet_82 rfl ?_
                have hpost : (1 : Int32) = if (0 ≤ (nI kk).toInt ∧ (nI kk).toInt < 4) ∧ (0 ≤ lane.toInt ∧ lane.toInt ≤ 2) ∧ (nI nn).toInt ≤ 40 then (if (nI nn).toInt < 0 then -14 else 1) else -1 := by
                  have t_b5 := b5
                  have t_b10 := b10
                  have t_c11 := leI c11
                  have t_c12 := leI c12
                  have t_hkk := hkk
                  have t_hnn := hnn
                  have t_hj17 := hj17
                  have t_n19 := n19
                  have : (0 : Int32).toInt = 0 := qI_0
                  have : (40 : Int32).toInt = 40 := qI_40
                  have t_n0 : (nI N).toInt = (N : Int) := tn944_ ()
                  have t_n1 : (nI B).toInt = (B : Int) := tn945_ ()
                  have t_n2 : (nI T).toInt = (T : Int) := tn946_ ()
                  have t_n3 : (nI S).toInt = (S : Int) := tn947_ ()
                  have t_n4 : (nI M).toInt = (M : Int) := tn948_ ()
                  have t_n5 : (nI kk).toInt = (kk : Int) := tn950_ ()
                  have t_n6 : (nI nn).toInt = (nn : Int) := tn951_ ()
                  have t_n7 : (nI j13).toInt = (j13 : Int) := tn952_ ()
                  first | rfl | ((repeat' split) <;> first | rfl | omega)
                obtain ⟨hP9, hD9⟩ := va_sub2 (ws' := [(h0, .inr (11, [.ref st, .int (nI N), .int (nI B), .ref rp, .int vrs, .int vrb, .int vhs, .int vca, .int vxs, .int vxb, .ref tp, .int (nI T), .int vfa, .int vbr, .int vba, .int vsp, .int vhe, .int vtk, .int vva, .ref cu, .ref lt, .ref od, .ref th, .ref be, .ref ln, .int (nI S), .ref ma, .int (nI M), .ref ah, .ref bh, .ref ik, .ref la, .ref lg, .ref ce, .int vto])), (la, .inl (G 0, 4, .inl (upd fla kk lane))), (lg, .inl (G 0, 4, .inl (upd flg kk (nI nn)))), (ce, .inl (G 0, 160, .inl g14))]) hP hD [0, 1, 2, 3] (by decide +kernel) rfl
                refine W.widen (k := 0) (n := 0) (Nat.le_of_ble_eq_true rfl) (Nat.le_of_ble_eq_true rfl) ?_
                exact W.iret (v := 1) hx hb hr (fun t ht hW => ⟨⟨1, ((upd fla kk lane), (upd flg kk (nI nn)), g14), rfl, ⟨hpost, (by have t_b5 := b5; have t_b10 := b10; have t_c11 := leI c11; have t_c12 := leI c12; have t_hkk := hkk; have t_hnn := hnn; have t_hj17 := hj17; have t_n19 := n19; have tqz_ := qz11_; have tnb_ := nib8 tn944_ tn945_ tn946_ tn947_ tn948_ tn950_ tn951_ tn952_; refine ⟨⟨?_, ?_⟩, hz_upd hz (by omega)⟩ <;> rw [if_pos (by omega), nI_clamp (by omega)])⟩, ⟨by rw [ht]; exact hP9, hD9⟩⟩, hS.F ht⟩) hS.2.2 dX11_sheet_83
              · skip
                have tn953_ : nIT j13 := fun _ => nI_toInt (by first | omega | (have t := nleI c18; omega))
                have n20 : j13 < 40 := by have t := nleI c18; rw [show (nI (j13)).toInt = ((j13 : Nat) : Int) from tn953_ ()] at t; have : (40 : Int32).toInt = 40 := qI_40; omega
                refine lv_aload_n hx hb dX11_sheet_63 rfl (lv_at hl 1 rfl) ?_
                refine va_get (D := (dC, dI)) (ci := 11) (v := .ref ce) (C := RX11) (T := TX11) (N := 35) hx hb hg inG11 hown hK.1 hP 0 rfl rfl 33 (Nat.le_of_ble_eq_true rfl) (hg _ wt_911) (fun _ h9 => h9) rfl dX11_sheet_64 ?_
                refine lv_bipush (v := 40) hx hb dX11_sheet_67 rfl ?_
                refine lv_iload_n hx hb dX11_sheet_69 rfl (lv_at hl 2 rfl) ?_
                refine lv_imul hx hb dX11_sheet_70 ?_
                refine lv_cg (y := nI (40 * kk)) (by rw [show (40 : Int32) = nI 40 from rfl]; exact pk_mul _ _) ?_
                refine lv_iload hx hb dX11_sheet_71 (lv_at hl 0 rfl) ?_
                refine lv_iadd hx hb dX11_sheet_73 ?_
                refine lv_cg (y := nI ((40 * kk) + j13)) (by exact nI_add _ _) ?_
                refine lv_iconst (v := 0) hx hb dX11_sheet_74 rfl ?_
                refine va_iast hx hb hK.1 hP hD hS 3 0 rfl rfl (vp_in_nI (by first | omega | (have t_b5 := b5; have t_b10 := b10; have t_c11 := leI c11; have t_c12 := leI c12; have t_hkk := hkk; have t_hnn := hnn; have t_hj17 := hj17; have t_n20 := n20; have tqz_ := qz11_; have tnb_ := nib8 tn944_ tn945_ tn946_ tn947_ tn948_ tn950_ tn951_ tn953_; omega)) (by decide)) dX11_sheet_75 (fun H locs hP hD hS => ?_)
                rw [nI_clamp (by omega)] at hP hD
                refine lv_iinc (v := nI (j13 + 1)) (lv' := [(4, .int (nI (j13 + 1))), (0, .ref h0), (1, .int (nI kk)), (2, .int lane), (3, .int (nI nn))]) hx hb dX11_sheet_76 hl (k := 0) rfl (by rw [show Int32.ofInt 1 = nI 1 from by decide]; exact nI_add _ _) (by decide) rfl (fun ls hl => ?_)
                refine lv_goto (tgt := 56) hx hb dX11_sheet_79 rfl ?_
                exact ih56_15 (j13 + 1) (by omega) (by omega) (upd g14 ((40 * kk) + j13) 0) _ _ hP hD hS ls (lv_sub hl [0, 1, 2, 3, 4] rfl)
          exact loop56_15 (40 + 1) 0 (by omega) (by omega) fce _ _ hP hD hS ls (lv_sub hl [0, 1, 2, 3, 4] rfl)
        · skip
          refine lv_bipush (v := (-14)) hx hb dX11_sheet_36 rfl ?_
          have hpost : ((-14) : Int32) = if (0 ≤ k.toInt ∧ k.toInt < 4) ∧ (0 ≤ lane.toInt ∧ lane.toInt ≤ 2) ∧ n.toInt ≤ 40 then (if n.toInt < 0 then -14 else 1) else -1 := by
            have t_b5 := b5
            have t_b10 := b10
            have t_c11 := leI c11
            have t_c12 := nleI c12
            have : (0 : Int32).toInt = 0 := qI_0
            have : (40 : Int32).toInt = 40 := qI_40
            have t_n0 : (nI N).toInt = (N : Int) := tn944_ ()
            have t_n1 : (nI B).toInt = (B : Int) := tn945_ ()
            have t_n2 : (nI T).toInt = (T : Int) := tn946_ ()
            have t_n3 : (nI S).toInt = (S : Int) := tn947_ ()
            have t_n4 : (nI M).toInt = (M : Int) := tn948_ ()
            first | rfl | ((repeat' split) <;> first | rfl | omega)
          obtain ⟨hP9, hD9⟩ := va_sub2 (ws' := [(h0, .inr (11, [.ref st, .int (nI N), .int (nI B), .ref rp, .int vrs, .int vrb, .int vhs, .int vca, .int vxs, .int vxb, .ref tp, .int (nI T), .int vfa, .int vbr, .int vba, .int vsp, .int vhe, .int vtk, .int vva, .ref cu, .ref lt, .ref od, .ref th, .ref be, .ref ln, .int (nI S), .ref ma, .int (nI M), .ref ah, .ref bh, .ref ik, .ref la, .ref lg, .ref ce, .int vto])), (la, .inl (G 0, 4, .inl fla)), (lg, .inl (G 0, 4, .inl flg)), (ce, .inl (G 0, 160, .inl fce))]) hP hD [0, 1, 2, 3] (by decide +kernel) rfl
          refine W.widen (k := 0) (n := 0) (Nat.le_of_ble_eq_true rfl) (Nat.le_of_ble_eq_true rfl) ?_
          exact W.iret (v := (-14)) hx hb hr (fun t ht hW => ⟨⟨(-14), (fla, flg, fce), rfl, ⟨hpost, (by have t_b5 := b5; have t_b10 := b10; have t_c11 := leI c11; have t_c12 := nleI c12; have tqz_ := qz11_; have tnb_ := nib5 tn944_ tn945_ tn946_ tn947_ tn948_; refine ⟨⟨?_, ?_⟩, hz⟩ <;> rw [if_neg (by omega)])⟩, ⟨by rw [ht]; exact hP9, hD9⟩⟩, hS.F ht⟩) hS.2.2 dX11_sheet_38
      · skip
        refine lv_iconst (v := (-1)) hx hb dX11_sheet_30 rfl ?_
        have hpost : ((-1) : Int32) = if (0 ≤ k.toInt ∧ k.toInt < 4) ∧ (0 ≤ lane.toInt ∧ lane.toInt ≤ 2) ∧ n.toInt ≤ 40 then (if n.toInt < 0 then -14 else 1) else -1 := by
          have t_b5 := b5
          have t_b10 := b10
          have t_c11 := nleI c11
          have : (40 : Int32).toInt = 40 := qI_40
          have t_n0 : (nI N).toInt = (N : Int) := tn944_ ()
          have t_n1 : (nI B).toInt = (B : Int) := tn945_ ()
          have t_n2 : (nI T).toInt = (T : Int) := tn946_ ()
          have t_n3 : (nI S).toInt = (S : Int) := tn947_ ()
          have t_n4 : (nI M).toInt = (M : Int) := tn948_ ()
          first | rfl | ((repeat' split) <;> first | rfl | omega)
        obtain ⟨hP9, hD9⟩ := va_sub2 (ws' := [(h0, .inr (11, [.ref st, .int (nI N), .int (nI B), .ref rp, .int vrs, .int vrb, .int vhs, .int vca, .int vxs, .int vxb, .ref tp, .int (nI T), .int vfa, .int vbr, .int vba, .int vsp, .int vhe, .int vtk, .int vva, .ref cu, .ref lt, .ref od, .ref th, .ref be, .ref ln, .int (nI S), .ref ma, .int (nI M), .ref ah, .ref bh, .ref ik, .ref la, .ref lg, .ref ce, .int vto])), (la, .inl (G 0, 4, .inl fla)), (lg, .inl (G 0, 4, .inl flg)), (ce, .inl (G 0, 160, .inl fce))]) hP hD [0, 1, 2, 3] (by decide +kernel) rfl
        refine W.widen (k := 0) (n := 0) (Nat.le_of_ble_eq_true rfl) (Nat.le_of_ble_eq_true rfl) ?_
        exact W.iret (v := (-1)) hx hb hr (fun t ht hW => ⟨⟨(-1), (fla, flg, fce), rfl, ⟨hpost, (by have t_b5 := b5; have t_b10 := b10; have t_c11 := nleI c11; have : (40 : Int32).toInt = 40 := qI_40; have tnb_ := nib5 tn944_ tn945_ tn946_ tn947_ tn948_; refine ⟨⟨?_, ?_⟩, hz⟩ <;> rw [if_neg (by omega)])⟩, ⟨by rw [ht]; exact hP9, hD9⟩⟩, hS.F ht⟩) hS.2.2 dX11_sheet_31

set_option maxHeartbeats 1000000 in
set_option maxRecDepth 100000 in
theorem c_X11_lay (l : Launch) (dC : Nat → ClassId) (dI : Nat → Nat → Nat) (G : Nat → ClassId) (sz : Nat) (h0 st N B rp tp T cu lt od th be ln S ma M ah bh ik la lg ce : Nat) (k i v vrs vrb vhs vca vxs vxb vfa vbr vba vsp vhe vtk vva vto : Int32) (fla : Nat → Int32) (flg : Nat → Int32) (fce : Nat → Int32) (hN : N ≤ 10) (hB : B ≤ 6) (hT : T ≤ 320) (hS0 : S ≤ 8) (hM : M ≤ 6) (hz : ∀ q : Nat, q < 4 → 0 ≤ (flg q).toInt ∧ (flg q).toInt ≤ 40) : Met l yX11_lay (Cond.code yX11_lay cX11_lay 4 (some .int) :: GT) ({ frames := 1, cells := 0, slots := 0, locals := 25 } : Room) (PcW [.ref h0, .int k, .int i, .int v] dC dI G [(h0, .inr (11, [.ref st, .int (nI N), .int (nI B), .ref rp, .int vrs, .int vrb, .int vhs, .int vca, .int vxs, .int vxb, .ref tp, .int (nI T), .int vfa, .int vbr, .int vba, .int vsp, .int vhe, .int vtk, .int vva, .ref cu, .ref lt, .ref od, .ref th, .ref be, .ref ln, .int (nI S), .ref ma, .int (nI M), .ref ah, .ref bh, .ref ik, .ref la, .ref lg, .ref ce, .int vto])), (la, .inl (G 0, 4, .inl fla)), (lg, .inl (G 0, 4, .inl flg)), (ce, .inl (G 0, 160, .inl fce))] sz) (va_Qi (fun (r : Int32) (u : (Nat → Int32)) => match u with | oce => (r = if 0 ≤ k.toInt ∧ k.toInt < 4 then (if fla k.toNatClampNeg = -4 then -11 else if 0 ≤ i.toInt ∧ i.toInt < (flg k.toNatClampNeg).toInt then 1 else -12) else -1) ∧ True) (fun (u : (Nat → Int32)) (t : State) => match u with | oce => va_P (dC, dI) vwCl [(h0, .inr (11, [.ref st, .int (nI N), .int (nI B), .ref rp, .int vrs, .int vrb, .int vhs, .int vca, .int vxs, .int vxb, .ref tp, .int (nI T), .int vfa, .int vbr, .int vba, .int vsp, .int vhe, .int vtk, .int vva, .ref cu, .ref lt, .ref od, .ref th, .ref be, .ref ln, .int (nI S), .ref ma, .int (nI M), .ref ah, .ref bh, .ref ik, .ref la, .ref lg, .ref ce, .int vto])), (la, .inl (G 0, 4, .inl fla)), (lg, .inl (G 0, 4, .inl flg)), (ce, .inl (G 0, 160, .inl oce))] t.heap ∧ va_D (va_A [(h0, .inr (11, [.ref st, .int (nI N), .int (nI B), .ref rp, .int vrs, .int vrb, .int vhs, .int vca, .int vxs, .int vxb, .ref tp, .int (nI T), .int vfa, .int vbr, .int vba, .int vsp, .int vhe, .int vtk, .int vva, .ref cu, .ref lt, .ref od, .ref th, .ref be, .ref ln, .int (nI S), .ref ma, .int (nI M), .ref ah, .ref bh, .ref ik, .ref la, .ref lg, .ref ce, .int vto])), (la, .inl (G 0, 4, .inl fla)), (lg, .inl (G 0, 4, .inl flg)), (ce, .inl (G 0, 160, .inl fce))] sz) [(h0, .inr (11, [.ref st, .int (nI N), .int (nI B), .ref rp, .int vrs, .int vrb, .int vhs, .int vca, .int vxs, .int vxb, .ref tp, .int (nI T), .int vfa, .int vbr, .int vba, .int vsp, .int vhe, .int vtk, .int vva, .ref cu, .ref lt, .ref od, .ref th, .ref be, .ref ln, .int (nI S), .ref ma, .int (nI M), .ref ah, .ref bh, .ref ik, .ref la, .ref lg, .ref ce, .int vto])), (la, .inl (G 0, 4, .inl fla)), (lg, .inl (G 0, 4, .inl flg)), (ce, .inl (G 0, 160, .inl oce))]) (va_A [(h0, .inr (11, [.ref st, .int (nI N), .int (nI B), .ref rp, .int vrs, .int vrb, .int vhs, .int vca, .int vxs, .int vxb, .ref tp, .int (nI T), .int vfa, .int vbr, .int vba, .int vsp, .int vhe, .int vtk, .int vva, .ref cu, .ref lt, .ref od, .ref th, .ref be, .ref ln, .int (nI S), .ref ma, .int (nI M), .ref ah, .ref bh, .ref ik, .ref la, .ref lg, .ref ce, .int vto])), (la, .inl (G 0, 4, .inl fla)), (lg, .inl (G 0, 4, .inl flg)), (ce, .inl (G 0, 160, .inl fce))] sz)) 0 0 (va_A [(h0, .inr (11, [.ref st, .int (nI N), .int (nI B), .ref rp, .int vrs, .int vrb, .int vhs, .int vca, .int vxs, .int vxb, .ref tp, .int (nI T), .int vfa, .int vbr, .int vba, .int vsp, .int vhe, .int vtk, .int vva, .ref cu, .ref lt, .ref od, .ref th, .ref be, .ref ln, .int (nI S), .ref ma, .int (nI M), .ref ah, .ref bh, .ref ik, .ref la, .ref lg, .ref ce, .int vto])), (la, .inl (G 0, 4, .inl fla)), (lg, .inl (G 0, 4, .inl flg)), (ce, .inl (G 0, 160, .inl fce))] sz) := by
  have tn954_ : nIT N := fun _ => nI_toInt (by omega)
  have tn955_ : nIT B := fun _ => nI_toInt (by omega)
  have tn956_ : nIT T := fun _ => nI_toInt (by omega)
  have tn957_ : nIT S := fun _ => nI_toInt (by omega)
  have tn958_ : nIT M := fun _ => nI_toInt (by omega)
  refine Met.ofW (cc := cX11_lay) (maxL := 4) (ret := (some .int)) (by decide) rfl ?_
  intro p e s m args below meth c s₁ Bd hml hv
  obtain ⟨rfl, hsz, hP, hK, hD0⟩ := hv
  have hx := Bd.exec
  have hb := Bd.bytes
  have hr := Bd.returns
  have hg : ∀ w ∈ GT, w.before ([.ref h0, .int k, .int i, .int v] : List Value).toArray s = true := fun w h => atoms_spec (ws := Cond.code yX11_lay cX11_lay 4 (some .int) :: GT) Bd.pre w (List.mem_cons_of_mem _ h)
  have hown : s.vm.findClass RX11 = some m.cls := findClass_of_methodNamed Bd.named
  have hlocks := Bd.notSynchronized
  subst hsz
  have hD := hD0.self (sz := s.heap.size)
  generalize hAe : va_A [(h0, .inr (11, [.ref st, .int (nI N), .int (nI B), .ref rp, .int vrs, .int vrb, .int vhs, .int vca, .int vxs, .int vxb, .ref tp, .int (nI T), .int vfa, .int vbr, .int vba, .int vsp, .int vhe, .int vtk, .int vva, .ref cu, .ref lt, .ref od, .ref th, .ref be, .ref ln, .int (nI S), .ref ma, .int (nI M), .ref ah, .ref bh, .ref ik, .ref la, .ref lg, .ref ce, .int vto])), (la, .inl (G 0, 4, .inl fla)), (lg, .inl (G 0, 4, .inl flg)), (ce, .inl (G 0, 160, .inl fce))] s.heap.size = A at hD ⊢
  have hA : ∀ q : Nat, s.heap.size ≤ q → A q := fun q h => by rw [← hAe]; exact Or.inr h
  have hS : va_S A s.heap s.heap [] := va_S.rf
  have hl := lv_entry ([.ref h0, .int k, .int i, .int v]) (n := 4) (Nat.le_of_ble_eq_true rfl)
  rw [lg_entry_eq]
  generalize (lg_sl ([.ref h0, .int k, .int i, .int v]) ++ List.replicate (4 - (lg_sl ([.ref h0, .int k, .int i, .int v])).length) Slot.unset).toArray = ls at hl ⊢
  have hl : lv_has ls 4 [(0, .ref h0), (1, .int k), (2, .int i), (3, .int v)] := hl
  refine lv_iload_n hx hb dX11_lay_0 rfl (lv_at hl 1 rfl) ?_
  refine lv_i2l (v := k.toInt64) hx hb dX11_lay_1 rfl ?_
  refine lv_lconst (v := 0) hx hb dX11_lay_2 (by decide) ?_
  refine lv_ldc2 (v := 3) hx hb hown (hg _ wt_1023) dX11_lay_3 ?_
  have hPc := hP.sub (ws' := []) [] rfl
  refine va_calli (va_runS (As := [.long k.toInt64, .long 0, .long 3]) (rest := []) ⟨hx, hb, hml, hown, hg⟩ (c_X11_in l dC dI G _ k.toInt64 0 3) (kwS hg mfX11_in wt_992 ⟨Nat.le_of_ble_eq_true rfl, Nat.le_of_ble_eq_true rfl⟩) (preSR hK hPc) rfl rfl hl.1 rfl (lv_room (Nat.le_of_ble_eq_true rfl)) dX11_lay_6 ⟨Nat.le_of_ble_eq_true rfl, Nat.le_of_ble_eq_true rfl⟩) hS (fun q h1 h2 => absurd h2 (Nat.not_le.mpr h1)) (fun q h => hA q (Nat.le_trans hS.1 h)) (fun r1 ur1 t H1 locs ht hvm w2 hB hz1 hk1 hS => ?_)
  have hP := keepR hP hk1
  obtain ⟨w2, w2x⟩ := w2
  try simp only [l_ii, show (0 : Int64).toInt = 0 from by decide, show (3 : Int64).toInt = 3 from by decide] at w2
  subst w2
  refine lv_if_ne (tgt := 14) hx hb dX11_lay_9 rfl (fun c3 => ?_) (fun c3 => ?_)
  · skip
    have b4 := if10_p c3
    obtain ⟨kk, hkk, rfl⟩ : ∃ j : Nat, j < 4 ∧ k = nI j := by
      have t_b4 := b4
      have t_n0 : (nI N).toInt = (N : Int) := tn954_ ()
      have t_n1 : (nI B).toInt = (B : Int) := tn955_ ()
      have t_n2 : (nI T).toInt = (T : Int) := tn956_ ()
      have t_n3 : (nI S).toInt = (S : Int) := tn957_ ()
      have t_n4 : (nI M).toInt = (M : Int) := tn958_ ()
      exact i32_nat (by omega) (by omega)
    refine lv_aload_n hx hb dX11_lay_14 rfl (lv_at hl 0 rfl) ?_
    refine va_get (D := (dC, dI)) (ci := 11) (v := .ref la) (C := RX11) (T := TX11) (N := 35) hx hb hg inG11 hown hK.1 hP 0 rfl rfl 31 (Nat.le_of_ble_eq_true rfl) (hg _ wt_909) (fun _ h9 => h9) rfl dX11_lay_15 ?_
    refine lv_iload_n hx hb dX11_lay_18 rfl (lv_at hl 1 rfl) ?_
    have tn959_ : nIT kk := fun _ => nI_toInt (by first | omega | (have t_b4 := b4; have t_hkk := hkk; omega))
    refine va_iald hx hb hK.1 hP 1 0 rfl rfl (vp_in_nI (by first | omega | (have t_b4 := b4; have t_hkk := hkk; have tnb_ := nib6 tn954_ tn955_ tn956_ tn957_ tn958_ tn959_; omega)) (by decide)) dX11_lay_19 ?_
    refine lv_cg (y := fla kk) (by rw [nI_clamp (by omega)]) ?_
    refine lv_bipush (v := (-4)) hx hb dX11_lay_20 rfl ?_
    refine lv_icmp_ne (tgt := 28) hx hb dX11_lay_22 rfl (fun c5 => ?_) (fun c5 => ?_)
    · skip
      refine lv_iload_n hx hb dX11_lay_28 rfl (lv_at hl 2 rfl) ?_
      refine lv_i2l (v := i.toInt64) hx hb dX11_lay_29 rfl ?_
      refine lv_lconst (v := 0) hx hb dX11_lay_30 (by decide) ?_
      refine lv_aload_n hx hb dX11_lay_31 rfl (lv_at hl 0 rfl) ?_
      refine va_get (D := (dC, dI)) (ci := 11) (v := .ref lg) (C := RX11) (T := TX11) (N := 35) hx hb hg inG11 hown hK.1 hP 0 rfl rfl 32 (Nat.le_of_ble_eq_true rfl) (hg _ wt_910) (fun _ h9 => h9) rfl dX11_lay_32 ?_
      refine lv_iload_n hx hb dX11_lay_35 rfl (lv_at hl 1 rfl) ?_
      refine va_iald hx hb hK.1 hP 2 0 rfl rfl (vp_in_nI (by first | omega | (have t_b4 := b4; have t_hkk := hkk; have t_c5 := neI c5; have : ((-4) : Int32).toInt = -4 := qI_m4; have tnb_ := nib6 tn954_ tn955_ tn956_ tn957_ tn958_ tn959_; omega)) (by decide)) dX11_lay_36 ?_
      refine lv_cg (y := flg kk) (by rw [nI_clamp (by omega)]) ?_
      refine lv_iconst (v := 1) hx hb dX11_lay_37 rfl ?_
      refine lv_isub hx hb dX11_lay_38 ?_
      refine lv_i2l (v := ((flg kk) - 1).toInt64) hx hb dX11_lay_39 rfl ?_
      have hPc := hP.sub (ws' := []) [] rfl
      refine va_calli (va_runS (As := [.long i.toInt64, .long 0, .long (((flg kk) - 1).toInt64)]) (rest := []) ⟨hx, hb, hml, hown, hg⟩ (c_X11_in l dC dI G _ i.toInt64 0 (((flg kk) - 1).toInt64)) (kwS hg mfX11_in wt_992 ⟨Nat.le_of_ble_eq_true rfl, Nat.le_of_ble_eq_true rfl⟩) (preSR hK hPc) rfl rfl hl.1 rfl (lv_room (Nat.le_of_ble_eq_true rfl)) dX11_lay_40 ⟨Nat.le_of_ble_eq_true rfl, Nat.le_of_ble_eq_true rfl⟩) hS (fun q h1 h2 => absurd h2 (Nat.not_le.mpr h1)) (fun q h => hA q (Nat.le_trans hS.1 h)) (fun r6 ur6 t H1 locs ht hvm w7 hB hz1 hk1 hS => ?_)
      have hP := keepR hP hk1
      obtain ⟨w7, w7x⟩ := w7
      try simp only [l_ii, show (0 : Int64).toInt = 0 from by decide] at w7
      subst w7
      refine lv_if_ne (tgt := 49) hx hb dX11_lay_43 rfl (fun c8 => ?_) (fun c8 => ?_)
      · skip
        have b9 := if10_p c8
        have hzk := hz kk (by omega)
        have e9 := im1 (x := flg kk) hzk.1 hzk.2
        obtain ⟨ii, hii, rfl⟩ : ∃ j : Nat, j < 40 ∧ i = nI j := by
          have t_b4 := b4
          have t_hkk := hkk
          have t_c5 := neI c5
          have t_b9 := b9
          have : ((-4) : Int32).toInt = -4 := qI_m4
          have t_n0 : (nI N).toInt = (N : Int) := tn954_ ()
          have t_n1 : (nI B).toInt = (B : Int) := tn955_ ()
          have t_n2 : (nI T).toInt = (T : Int) := tn956_ ()
          have t_n3 : (nI S).toInt = (S : Int) := tn957_ ()
          have t_n4 : (nI M).toInt = (M : Int) := tn958_ ()
          have t_n5 : (nI kk).toInt = (kk : Int) := tn959_ ()
          exact i32_nat (by omega) (by omega)
        refine lv_aload_n hx hb dX11_lay_49 rfl (lv_at hl 0 rfl) ?_
        refine va_get (D := (dC, dI)) (ci := 11) (v := .ref ce) (C := RX11) (T := TX11) (N := 35) hx hb hg inG11 hown hK.1 hP 0 rfl rfl 33 (Nat.le_of_ble_eq_true rfl) (hg _ wt_911) (fun _ h9 => h9) rfl dX11_lay_50 ?_
        refine lv_bipush (v := 40) hx hb dX11_lay_53 rfl ?_
        refine lv_iload_n hx hb dX11_lay_55 rfl (lv_at hl 1 rfl) ?_
        refine lv_imul hx hb dX11_lay_56 ?_
        refine lv_cg (y := nI (40 * kk)) (by rw [show (40 : Int32) = nI 40 from rfl]; exact pk_mul _ _) ?_
        refine lv_iload_n hx hb dX11_lay_57 rfl (lv_at hl 2 rfl) ?_
        refine lv_iadd hx hb dX11_lay_58 ?_
        refine lv_cg (y := nI ((40 * kk) + ii)) (by exact nI_add _ _) ?_
        refine lv_aload_n hx hb dX11_lay_59 rfl (lv_at hl 0 rfl) ?_
        refine va_get (D := (dC, dI)) (ci := 11) (v := .ref la) (C := RX11) (T := TX11) (N := 35) hx hb hg inG11 hown hK.1 hP 0 rfl rfl 31 (Nat.le_of_ble_eq_true rfl) (hg _ wt_909) (fun _ h9 => h9) rfl dX11_lay_60 ?_
        refine lv_iload_n hx hb dX11_lay_63 rfl (lv_at hl 1 rfl) ?_
        have tn960_ : nIT ii := fun _ => nI_toInt (by first | omega | (have t_b4 := b4; have t_hkk := hkk; have t_c5 := neI c5; have t_b9 := b9; have t_hii := hii; have : ((-4) : Int32).toInt = -4 := qI_m4; omega))
        refine va_iald hx hb hK.1 hP 1 0 rfl rfl (vp_in_nI (by first | omega | (have t_b4 := b4; have t_hkk := hkk; have t_c5 := neI c5; have t_b9 := b9; have t_hii := hii; have : ((-4) : Int32).toInt = -4 := qI_m4; have tnb_ := nib7 tn954_ tn955_ tn956_ tn957_ tn958_ tn959_ tn960_; omega)) (by decide)) dX11_lay_64 ?_
        refine lv_cg (y := fla kk) (by rw [nI_clamp (by omega)]) ?_
        refine lv_if_ne (tgt := 78) hx hb dX11_lay_65 rfl (fun c10 => ?_) (fun c10 => ?_)
        · skip
          refine lv_aload_n hx hb dX11_lay_78 rfl (lv_at hl 0 rfl) ?_
          refine va_get (D := (dC, dI)) (ci := 11) (v := .ref la) (C := RX11) (T := TX11) (N := 35) hx hb hg inG11 hown hK.1 hP 0 rfl rfl 31 (Nat.le_of_ble_eq_true rfl) (hg _ wt_909) (fun _ h9 => h9) rfl dX11_lay_79 ?_
          refine lv_iload_n hx hb dX11_lay_82 rfl (lv_at hl 1 rfl) ?_
          refine va_iald hx hb hK.1 hP 1 0 rfl rfl (vp_in_nI (by first | omega | (have t_b4 := b4; have t_hkk := hkk; have t_c5 := neI c5; have t_b9 := b9; have t_hii := hii; have t_c10 := neI c10; have tqz_ := qz8_; have tnb_ := nib7 tn954_ tn955_ tn956_ tn957_ tn958_ tn959_ tn960_; omega)) (by decide)) dX11_lay_83 ?_
          refine lv_cg (y := fla kk) (by rw [nI_clamp (by omega)]) ?_
          refine lv_iconst (v := 1) hx hb dX11_lay_84 rfl ?_
          refine lv_icmp_ne (tgt := 98) hx hb dX11_lay_85 rfl (fun c11 => ?_) (fun c11 => ?_)
          · skip
            refine lv_iload_n hx hb dX11_lay_98 rfl (lv_at hl 3 rfl) ?_
            refine va_iast hx hb hK.1 hP hD hS 3 0 rfl rfl (vp_in_nI (by first | omega | (have t_b4 := b4; have t_hkk := hkk; have t_c5 := neI c5; have t_b9 := b9; have t_hii := hii; have t_c10 := neI c10; have t_c11 := neI c11; have tqz_ := qz40_; have tnb_ := nib7 tn954_ tn955_ tn956_ tn957_ tn958_ tn959_ tn960_; omega)) (by decide)) dX11_lay_99 (fun H locs hP hD hS => ?_)
            rw [nI_clamp (by omega)] at hP hD
            refine lv_iconst (v := 1) hx hb dX11_lay_100 rfl ?_
            have hpost : (1 : Int32) = if 0 ≤ (nI kk).toInt ∧ (nI kk).toInt < 4 then (if fla (nI kk).toNatClampNeg = -4 then -11 else if 0 ≤ (nI ii).toInt ∧ (nI ii).toInt < (flg (nI kk).toNatClampNeg).toInt then 1 else -12) else -1 := by
              rw [nI_clamp (by (have t_b4 := b4; have t_hkk := hkk; have t_c5 := neI c5; have t_b9 := b9; have t_hii := hii; have t_c10 := neI c10; have t_c11 := neI c11; have tqz_ := qz40_; have tnb_ := nib7 tn954_ tn955_ tn956_ tn957_ tn958_ tn959_ tn960_; omega)), if_pos (by (have t_b4 := b4; have t_hkk := hkk; have t_c5 := neI c5; have t_b9 := b9; have t_hii := hii; have t_c10 := neI c10; have t_c11 := neI c11; have tqz_ := qz40_; have tnb_ := nib7 tn954_ tn955_ tn956_ tn957_ tn958_ tn959_ tn960_; omega)), if_neg (by first | with_reducible assumption | assumption), if_pos (by (have t_b4 := b4; have t_hkk := hkk; have t_c5 := neI c5; have t_b9 := b9; have t_hii := hii; have t_c10 := neI c10; have t_c11 := neI c11; have tqz_ := qz40_; have tnb_ := nib7 tn954_ tn955_ tn956_ tn957_ tn958_ tn959_ tn960_; omega))]
            obtain ⟨hP9, hD9⟩ := va_sub2 (ws' := [(h0, .inr (11, [.ref st, .int (nI N), .int (nI B), .ref rp, .int vrs, .int vrb, .int vhs, .int vca, .int vxs, .int vxb, .ref tp, .int (nI T), .int vfa, .int vbr, .int vba, .int vsp, .int vhe, .int vtk, .int vva, .ref cu, .ref lt, .ref od, .ref th, .ref be, .ref ln, .int (nI S), .ref ma, .int (nI M), .ref ah, .ref bh, .ref ik, .ref la, .ref lg, .ref ce, .int vto])), (la, .inl (G 0, 4, .inl fla)), (lg, .inl (G 0, 4, .inl flg)), (ce, .inl (G 0, 160, .inl (upd fce ((40 * kk) + ii) v)))]) hP hD [0, 1, 2, 3] (by decide +kernel) rfl
            refine W.widen (k := 0) (n := 0) (Nat.le_of_ble_eq_true rfl) (Nat.le_of_ble_eq_true rfl) ?_
            exact W.iret (v := 1) hx hb hr (fun t ht hW => ⟨⟨1, (upd fce ((40 * kk) + ii) v), rfl, ⟨hpost, trivial⟩, ⟨by rw [ht]; exact hP9, hD9⟩⟩, hS.F ht⟩) hS.2.2 dX11_lay_101
          · skip
            refine lv_iload_n hx hb dX11_lay_88 rfl (lv_at hl 3 rfl) ?_
            refine lv_bipush (v := 16) hx hb dX11_lay_89 rfl ?_
            refine lv_ishl hx hb dX11_lay_91 ?_
            refine lv_bipush (v := 16) hx hb dX11_lay_92 rfl ?_
            refine lv_ishr hx hb dX11_lay_94 ?_
            refine lv_goto (tgt := 99) hx hb dX11_lay_95 rfl ?_
            refine va_iast hx hb hK.1 hP hD hS 3 0 rfl rfl (vp_in_nI (by first | omega | (have t_b4 := b4; have t_hkk := hkk; have t_c5 := neI c5; have t_b9 := b9; have t_hii := hii; have t_c10 := neI c10; have t_c11 := eqI c11; have tqz_ := qz40_; have tnb_ := nib7 tn954_ tn955_ tn956_ tn957_ tn958_ tn959_ tn960_; omega)) (by decide)) dX11_lay_99 (fun H locs hP hD hS => ?_)
            rw [nI_clamp (by omega)] at hP hD
            refine lv_iconst (v := 1) hx hb dX11_lay_100 rfl ?_
            have hpost : (1 : Int32) = if 0 ≤ (nI kk).toInt ∧ (nI kk).toInt < 4 then (if fla (nI kk).toNatClampNeg = -4 then -11 else if 0 ≤ (nI ii).toInt ∧ (nI ii).toInt < (flg (nI kk).toNatClampNeg).toInt then 1 else -12) else -1 := by
              rw [nI_clamp (by (have t_b4 := b4; have t_hkk := hkk; have t_c5 := neI c5; have t_b9 := b9; have t_hii := hii; have t_c10 := neI c10; have t_c11 := eqI c11; have tqz_ := qz40_; have tnb_ := nib7 tn954_ tn955_ tn956_ tn957_ tn958_ tn959_ tn960_; omega)), if_pos (by (have t_b4 := b4; have t_hkk := hkk; have t_c5 := neI c5; have t_b9 := b9; have t_hii := hii; have t_c10 := neI c10; have t_c11 := eqI c11; have tqz_ := qz40_; have tnb_ := nib7 tn954_ tn955_ tn956_ tn957_ tn958_ tn959_ tn960_; omega)), if_neg (by first | with_reducible assumption | assumption), if_pos (by (have t_b4 := b4; have t_hkk := hkk; have t_c5 := neI c5; have t_b9 := b9; have t_hii := hii; have t_c10 := neI c10; have t_c11 := eqI c11; have tqz_ := qz40_; have tnb_ := nib7 tn954_ tn955_ tn956_ tn957_ tn958_ tn959_ tn960_; omega))]
            obtain ⟨hP9, hD9⟩ := va_sub2 (ws' := [(h0, .inr (11, [.ref st, .int (nI N), .int (nI B), .ref rp, .int vrs, .int vrb, .int vhs, .int vca, .int vxs, .int vxb, .ref tp, .int (nI T), .int vfa, .int vbr, .int vba, .int vsp, .int vhe, .int vtk, .int vva, .ref cu, .ref lt, .ref od, .ref th, .ref be, .ref ln, .int (nI S), .ref ma, .int (nI M), .ref ah, .ref bh, .ref ik, .ref la, .ref lg, .ref ce, .int vto])), (la, .inl (G 0, 4, .inl fla)), (lg, .inl (G 0, 4, .inl flg)), (ce, .inl (G 0, 160, .inl (upd fce ((40 * kk) + ii) ((v <<< ((16 : Int32) &&& 31)) >>> ((16 : Int32) &&& 31)))))]) hP hD [0, 1, 2, 3] (by decide +kernel) rfl
            refine W.widen (k := 0) (n := 0) (Nat.le_of_ble_eq_true rfl) (Nat.le_of_ble_eq_true rfl) ?_
            exact W.iret (v := 1) hx hb hr (fun t ht hW => ⟨⟨1, (upd fce ((40 * kk) + ii) ((v <<< ((16 : Int32) &&& 31)) >>> ((16 : Int32) &&& 31))), rfl, ⟨hpost, trivial⟩, ⟨by rw [ht]; exact hP9, hD9⟩⟩, hS.F ht⟩) hS.2.2 dX11_lay_101
        · skip
          refine lv_iload_n hx hb dX11_lay_68 rfl (lv_at hl 3 rfl) ?_
          refine lv_bipush (v := 24) hx hb dX11_lay_69 rfl ?_
          refine lv_ishl hx hb dX11_lay_71 ?_
          refine lv_bipush (v := 24) hx hb dX11_lay_72 rfl ?_
          refine lv_ishr hx hb dX11_lay_74 ?_
          refine lv_goto (tgt := 99) hx hb dX11_lay_75 rfl ?_
          refine va_iast hx hb hK.1 hP hD hS 3 0 rfl rfl (vp_in_nI (by first | omega | (have t_b4 := b4; have t_hkk := hkk; have t_c5 := neI c5; have t_b9 := b9; have t_hii := hii; have t_c10 := eqI c10; have tqz_ := qz8_; have tnb_ := nib7 tn954_ tn955_ tn956_ tn957_ tn958_ tn959_ tn960_; omega)) (by decide)) dX11_lay_99 (fun H locs hP hD hS => ?_)
          rw [nI_clamp (by omega)] at hP hD
          refine lv_iconst (v := 1) hx hb dX11_lay_100 rfl ?_
          have hpost : (1 : Int32) = if 0 ≤ (nI kk).toInt ∧ (nI kk).toInt < 4 then (if fla (nI kk).toNatClampNeg = -4 then -11 else if 0 ≤ (nI ii).toInt ∧ (nI ii).toInt < (flg (nI kk).toNatClampNeg).toInt then 1 else -12) else -1 := by
            rw [nI_clamp (by (have t_b4 := b4; have t_hkk := hkk; have t_c5 := neI c5; have t_b9 := b9; have t_hii := hii; have t_c10 := eqI c10; have tqz_ := qz8_; have tnb_ := nib7 tn954_ tn955_ tn956_ tn957_ tn958_ tn959_ tn960_; omega)), if_pos (by (have t_b4 := b4; have t_hkk := hkk; have t_c5 := neI c5; have t_b9 := b9; have t_hii := hii; have t_c10 := eqI c10; have tqz_ := qz8_; have tnb_ := nib7 tn954_ tn955_ tn956_ tn957_ tn958_ tn959_ tn960_; omega)), if_neg (by first | with_reducible assumption | assumption), if_pos (by (have t_b4 := b4; have t_hkk := hkk; have t_c5 := neI c5; have t_b9 := b9; have t_hii := hii; have t_c10 := eqI c10; have tqz_ := qz8_; have tnb_ := nib7 tn954_ tn955_ tn956_ tn957_ tn958_ tn959_ tn960_; omega))]
          obtain ⟨hP9, hD9⟩ := va_sub2 (ws' := [(h0, .inr (11, [.ref st, .int (nI N), .int (nI B), .ref rp, .int vrs, .int vrb, .int vhs, .int vca, .int vxs, .int vxb, .ref tp, .int (nI T), .int vfa, .int vbr, .int vba, .int vsp, .int vhe, .int vtk, .int vva, .ref cu, .ref lt, .ref od, .ref th, .ref be, .ref ln, .int (nI S), .ref ma, .int (nI M), .ref ah, .ref bh, .ref ik, .ref la, .ref lg, .ref ce, .int vto])), (la, .inl (G 0, 4, .inl fla)), (lg, .inl (G 0, 4, .inl flg)), (ce, .inl (G 0, 160, .inl (upd fce ((40 * kk) + ii) ((v <<< ((24 : Int32) &&& 31)) >>> ((24 : Int32) &&& 31)))))]) hP hD [0, 1, 2, 3] (by decide +kernel) rfl
          refine W.widen (k := 0) (n := 0) (Nat.le_of_ble_eq_true rfl) (Nat.le_of_ble_eq_true rfl) ?_
          exact W.iret (v := 1) hx hb hr (fun t ht hW => ⟨⟨1, (upd fce ((40 * kk) + ii) ((v <<< ((24 : Int32) &&& 31)) >>> ((24 : Int32) &&& 31))), rfl, ⟨hpost, trivial⟩, ⟨by rw [ht]; exact hP9, hD9⟩⟩, hS.F ht⟩) hS.2.2 dX11_lay_101
      · skip
        have b12 := if10_n c8
        refine lv_bipush (v := (-12)) hx hb dX11_lay_46 rfl ?_
        have hpost : ((-12) : Int32) = if 0 ≤ (nI kk).toInt ∧ (nI kk).toInt < 4 then (if fla (nI kk).toNatClampNeg = -4 then -11 else if 0 ≤ i.toInt ∧ i.toInt < (flg (nI kk).toNatClampNeg).toInt then 1 else -12) else -1 := by
          have hzk := hz kk (by (have t_b4 := b4; have t_hkk := hkk; have t_c5 := neI c5; have t_b12 := b12; have : ((-4) : Int32).toInt = -4 := qI_m4; have tnb_ := nib6 tn954_ tn955_ tn956_ tn957_ tn958_ tn959_; omega))
          have e9 := im1 (x := flg kk) hzk.1 hzk.2
          rw [nI_clamp (by (have t_b4 := b4; have t_hkk := hkk; have t_c5 := neI c5; have t_b12 := b12; have : ((-4) : Int32).toInt = -4 := qI_m4; have tnb_ := nib6 tn954_ tn955_ tn956_ tn957_ tn958_ tn959_; omega)), if_pos (by (have t_b4 := b4; have t_hkk := hkk; have t_c5 := neI c5; have t_b12 := b12; have : ((-4) : Int32).toInt = -4 := qI_m4; have tnb_ := nib6 tn954_ tn955_ tn956_ tn957_ tn958_ tn959_; omega)), if_neg (by first | with_reducible assumption | assumption), if_neg (by (have t_b4 := b4; have t_hkk := hkk; have t_c5 := neI c5; have t_b12 := b12; have : ((-4) : Int32).toInt = -4 := qI_m4; have tnb_ := nib6 tn954_ tn955_ tn956_ tn957_ tn958_ tn959_; omega))]
        obtain ⟨hP9, hD9⟩ := va_sub2 (ws' := [(h0, .inr (11, [.ref st, .int (nI N), .int (nI B), .ref rp, .int vrs, .int vrb, .int vhs, .int vca, .int vxs, .int vxb, .ref tp, .int (nI T), .int vfa, .int vbr, .int vba, .int vsp, .int vhe, .int vtk, .int vva, .ref cu, .ref lt, .ref od, .ref th, .ref be, .ref ln, .int (nI S), .ref ma, .int (nI M), .ref ah, .ref bh, .ref ik, .ref la, .ref lg, .ref ce, .int vto])), (la, .inl (G 0, 4, .inl fla)), (lg, .inl (G 0, 4, .inl flg)), (ce, .inl (G 0, 160, .inl fce))]) hP hD [0, 1, 2, 3] (by decide +kernel) rfl
        refine W.widen (k := 0) (n := 0) (Nat.le_of_ble_eq_true rfl) (Nat.le_of_ble_eq_true rfl) ?_
        exact W.iret (v := (-12)) hx hb hr (fun t ht hW => ⟨⟨(-12), fce, rfl, ⟨hpost, trivial⟩, ⟨by rw [ht]; exact hP9, hD9⟩⟩, hS.F ht⟩) hS.2.2 dX11_lay_48
    · skip
      refine lv_bipush (v := (-11)) hx hb dX11_lay_25 rfl ?_
      have hpost : ((-11) : Int32) = if 0 ≤ (nI kk).toInt ∧ (nI kk).toInt < 4 then (if fla (nI kk).toNatClampNeg = -4 then -11 else if 0 ≤ i.toInt ∧ i.toInt < (flg (nI kk).toNatClampNeg).toInt then 1 else -12) else -1 := by
        rw [nI_clamp (by (have t_b4 := b4; have t_hkk := hkk; have t_c5 := eqI c5; have : ((-4) : Int32).toInt = -4 := qI_m4; have tnb_ := nib6 tn954_ tn955_ tn956_ tn957_ tn958_ tn959_; omega)), if_pos (by (have t_b4 := b4; have t_hkk := hkk; have t_c5 := eqI c5; have : ((-4) : Int32).toInt = -4 := qI_m4; have tnb_ := nib6 tn954_ tn955_ tn956_ tn957_ tn958_ tn959_; omega)), if_pos (by first | with_reducible assumption | assumption)]
      obtain ⟨hP9, hD9⟩ := va_sub2 (ws' := [(h0, .inr (11, [.ref st, .int (nI N), .int (nI B), .ref rp, .int vrs, .int vrb, .int vhs, .int vca, .int vxs, .int vxb, .ref tp, .int (nI T), .int vfa, .int vbr, .int vba, .int vsp, .int vhe, .int vtk, .int vva, .ref cu, .ref lt, .ref od, .ref th, .ref be, .ref ln, .int (nI S), .ref ma, .int (nI M), .ref ah, .ref bh, .ref ik, .ref la, .ref lg, .ref ce, .int vto])), (la, .inl (G 0, 4, .inl fla)), (lg, .inl (G 0, 4, .inl flg)), (ce, .inl (G 0, 160, .inl fce))]) hP hD [0, 1, 2, 3] (by decide +kernel) rfl
      refine W.widen (k := 0) (n := 0) (Nat.le_of_ble_eq_true rfl) (Nat.le_of_ble_eq_true rfl) ?_
      exact W.iret (v := (-11)) hx hb hr (fun t ht hW => ⟨⟨(-11), fce, rfl, ⟨hpost, trivial⟩, ⟨by rw [ht]; exact hP9, hD9⟩⟩, hS.F ht⟩) hS.2.2 dX11_lay_27
  · skip
    have b13 := if10_n c3
    refine lv_iconst (v := (-1)) hx hb dX11_lay_12 rfl ?_
    have hpost : ((-1) : Int32) = if 0 ≤ k.toInt ∧ k.toInt < 4 then (if fla k.toNatClampNeg = -4 then -11 else if 0 ≤ i.toInt ∧ i.toInt < (flg k.toNatClampNeg).toInt then 1 else -12) else -1 := by
      have t_b13 := b13
      have t_n0 : (nI N).toInt = (N : Int) := tn954_ ()
      have t_n1 : (nI B).toInt = (B : Int) := tn955_ ()
      have t_n2 : (nI T).toInt = (T : Int) := tn956_ ()
      have t_n3 : (nI S).toInt = (S : Int) := tn957_ ()
      have t_n4 : (nI M).toInt = (M : Int) := tn958_ ()
      rw [if_neg (by omega)]
    obtain ⟨hP9, hD9⟩ := va_sub2 (ws' := [(h0, .inr (11, [.ref st, .int (nI N), .int (nI B), .ref rp, .int vrs, .int vrb, .int vhs, .int vca, .int vxs, .int vxb, .ref tp, .int (nI T), .int vfa, .int vbr, .int vba, .int vsp, .int vhe, .int vtk, .int vva, .ref cu, .ref lt, .ref od, .ref th, .ref be, .ref ln, .int (nI S), .ref ma, .int (nI M), .ref ah, .ref bh, .ref ik, .ref la, .ref lg, .ref ce, .int vto])), (la, .inl (G 0, 4, .inl fla)), (lg, .inl (G 0, 4, .inl flg)), (ce, .inl (G 0, 160, .inl fce))]) hP hD [0, 1, 2, 3] (by decide +kernel) rfl
    refine W.widen (k := 0) (n := 0) (Nat.le_of_ble_eq_true rfl) (Nat.le_of_ble_eq_true rfl) ?_
    exact W.iret (v := (-1)) hx hb hr (fun t ht hW => ⟨⟨(-1), fce, rfl, ⟨hpost, trivial⟩, ⟨by rw [ht]; exact hP9, hD9⟩⟩, hS.F ht⟩) hS.2.2 dX11_lay_13

set_option maxHeartbeats 1000000 in
set_option maxRecDepth 100000 in
theorem c_X11_count (l : Launch) (dC : Nat → ClassId) (dI : Nat → Nat → Nat) (G : Nat → ClassId) (sz : Nat) (h0 st N B rp tp T cu lt od th be ln S ma M ah bh ik la lg ce : Nat) (what vrs vrb vhs vca vxs vxb vfa vbr vba vsp vhe vtk vva vto : Int32) (fst : Nat → Int32) (fik : Nat → Int32) (fla : Nat → Int32) (flg : Nat → Int32) (hN : N ≤ 10) (hB : B ≤ 6) (hT : T ≤ 320) (hS0 : S ≤ 8) (hM : M ≤ 6) : Met l yX11_count (Cond.code yX11_count cX11_count 4 (some .int) :: GT) ({ frames := 0, cells := 0, slots := 0, locals := 0 } : Room) (PcR [.ref h0, .int what] dC dI G [(h0, .inr (11, [.ref st, .int (nI N), .int (nI B), .ref rp, .int vrs, .int vrb, .int vhs, .int vca, .int vxs, .int vxb, .ref tp, .int (nI T), .int vfa, .int vbr, .int vba, .int vsp, .int vhe, .int vtk, .int vva, .ref cu, .ref lt, .ref od, .ref th, .ref be, .ref ln, .int (nI S), .ref ma, .int (nI M), .ref ah, .ref bh, .ref ik, .ref la, .ref lg, .ref ce, .int vto])), (st, .inl (G 0, 196, .inl fst)), (ik, .inl (G 2, 2, .inl fik)), (la, .inl (G 0, 4, .inl fla)), (lg, .inl (G 0, 4, .inl flg))] sz) (va_Qi (fun (r : Int32) (u : Unit) => match u with | _ => (True) ∧ True) (fun _ _ => True) (fun q : Nat => sz ≤ q)) 0 0 (fun q : Nat => sz ≤ q) := by
  have tn976_ : nIT N := fun _ => nI_toInt (by omega)
  have tn977_ : nIT B := fun _ => nI_toInt (by omega)
  have tn978_ : nIT T := fun _ => nI_toInt (by omega)
  have tn979_ : nIT S := fun _ => nI_toInt (by omega)
  have tn980_ : nIT M := fun _ => nI_toInt (by omega)
  refine Met.ofW (cc := cX11_count) (maxL := 4) (ret := (some .int)) (by decide) rfl ?_
  intro p e s m args below meth c s₁ Bd hml hv
  obtain ⟨rfl, hsz, hP, hK⟩ := hv
  have hx := Bd.exec
  have hb := Bd.bytes
  have hr := Bd.returns
  have hg : ∀ w ∈ GT, w.before ([.ref h0, .int what] : List Value).toArray s = true := fun w h => atoms_spec (ws := Cond.code yX11_count cX11_count 4 (some .int) :: GT) Bd.pre w (List.mem_cons_of_mem _ h)
  have hown : s.vm.findClass RX11 = some m.cls := findClass_of_methodNamed Bd.named
  have hlocks := Bd.notSynchronized
  subst hsz
  have hA : ∀ q : Nat, s.heap.size ≤ q → (fun q : Nat => s.heap.size ≤ q) q := fun _ h => h
  have hS : va_S (fun q : Nat => s.heap.size ≤ q) s.heap s.heap [] := va_S.rf
  have hl := lv_entry ([.ref h0, .int what]) (n := 4) (Nat.le_of_ble_eq_true rfl)
  rw [lg_entry_eq]
  generalize (lg_sl ([.ref h0, .int what]) ++ List.replicate (4 - (lg_sl ([.ref h0, .int what])).length) Slot.unset).toArray = ls at hl ⊢
  have hl : lv_has ls 4 [(0, .ref h0), (1, .int what)] := hl
  refine lv_iconst (v := 0) hx hb dX11_count_0 rfl ?_
  refine lv_istore_n (lv' := [(2, .int 0), (0, .ref h0), (1, .int what)]) hx hb dX11_count_1 rfl hl (by decide) rfl (fun ls hl => ?_)
  refine lv_iconst (v := 1) hx hb dX11_count_2 rfl ?_
  refine lv_istore_n (lv' := [(3, .int 1), (2, .int 0), (0, .ref h0), (1, .int what)]) hx hb dX11_count_3 rfl hl (by decide) rfl (fun ls hl => ?_)
  have loop4_3 : ∀ (nf j1 : Nat), 10 + 1 ≤ j1 + nf → j1 ≤ 10 → 1 ≤ j1 → ∀ (y2 : Int32) (H : Heap) (locs : List Loc), va_P (dC, dI) vwCl [(h0, .inr (11, [.ref st, .int (nI N), .int (nI B), .ref rp, .int vrs, .int vrb, .int vhs, .int vca, .int vxs, .int vxb, .ref tp, .int (nI T), .int vfa, .int vbr, .int vba, .int vsp, .int vhe, .int vtk, .int vva, .ref cu, .ref lt, .ref od, .ref th, .ref be, .ref ln, .int (nI S), .ref ma, .int (nI M), .ref ah, .ref bh, .ref ik, .ref la, .ref lg, .ref ce, .int vto])), (st, .inl (G 0, 196, .inl fst)), (ik, .inl (G 2, 2, .inl fik)), (la, .inl (G 0, 4, .inl fla)), (lg, .inl (G 0, 4, .inl flg))] H → va_S (fun q : Nat => s.heap.size ≤ q) s.heap H locs → ∀ (ls : Array Slot), lv_has ls 4 [(3, .int (nI j1)), (2, .int y2), (0, .ref h0), (1, .int what)] → W p l e (headSpec (Cond.code yX11_count cX11_count 4 (some .int) :: GT) ({ frames := 0, cells := 0, slots := 0, locals := 0 } : Room)).room s m ([.ref h0, .int what] : List Value).toArray below meth c H locs 0 0 (MQ below (va_Qi (fun (r : Int32) (u : Unit) => match u with | _ => (True) ∧ True) (fun _ _ => True) (fun q : Nat => s.heap.size ≤ q)) ([.ref h0, .int what] : List Value).toArray s 0 0 (fun q : Nat => s.heap.size ≤ q)) (F0 m 4 ls []) := by
    intro nf
    induction nf with
    | zero => intro j1 h1 h2; exact absurd h1 (by omega)
    | succ nf ih4_3 =>
      intro j1 hn4 hj5 hlo_j1 y2 H locs hP hS ls hl
      refine lv_iload_n hx hb dX11_count_4 rfl (lv_at hl 0 rfl) ?_
      refine lv_aload_n hx hb dX11_count_5 rfl (lv_at hl 2 rfl) ?_
      refine va_get (D := (dC, dI)) (ci := 11) (v := .int (nI N)) (C := RX11) (T := TX11) (N := 35) hx hb hg inG11 hown hK.1 hP 0 rfl rfl 1 (Nat.le_of_ble_eq_true rfl) (hg _ wt_879) (fun _ h9 => h9) rfl dX11_count_6 ?_
      refine lv_icmp_ge (tgt := 49) hx hb dX11_count_9 rfl (fun c6 => ?_) (fun c6 => ?_)
      · skip
        have tn981_ : nIT j1 := fun _ => nI_toInt (by first | omega | (have t := leI c6; omega))
        have n7 : N ≤ j1 := by have t := leI c6; rw [show (nI (j1)).toInt = ((j1 : Nat) : Int) from tn981_ ()] at t; rw [show (nI (N)).toInt = ((N : Nat) : Int) from tn976_ ()] at t; omega
        refine lv_iload_n hx hb dX11_count_49 rfl (lv_at hl 3 rfl) ?_
        by_cases c8 : what = 0
        · skip
          refine lv_cg c8 ?_
          refine lv_tableIn (tgt := 88) hx hb dX11_count_50 (by decide) (by decide) rfl (by decide) ?_
          refine lv_aload_n hx hb dX11_count_88 rfl (lv_at hl 2 rfl) ?_
          refine va_get (D := (dC, dI)) (ci := 11) (v := .int (nI S)) (C := RX11) (T := TX11) (N := 35) hx hb hg inG11 hown hK.1 hP 0 rfl rfl 25 (Nat.le_of_ble_eq_true rfl) (hg _ wt_903) (fun _ h9 => h9) rfl dX11_count_89 ?_
          have hpost : True := by
            trivial
          refine W.widen (k := 0) (n := 0) (Nat.le_of_ble_eq_true rfl) (Nat.le_of_ble_eq_true rfl) ?_
          exact W.iret (v := nI S) hx hb hr (fun t ht hW => ⟨⟨nI S, (), rfl, ⟨hpost, trivial⟩, trivial⟩, hS.F ht⟩) hS.2.2 dX11_count_92
        · skip
          by_cases c9 : what = 1
          · skip
            refine lv_cg c9 ?_
            refine lv_tableIn (tgt := 93) hx hb dX11_count_50 (by decide) (by decide) rfl (by decide) ?_
            refine lv_aload_n hx hb dX11_count_93 rfl (lv_at hl 2 rfl) ?_
            refine va_get (D := (dC, dI)) (ci := 11) (v := .int (nI M)) (C := RX11) (T := TX11) (N := 35) hx hb hg inG11 hown hK.1 hP 0 rfl rfl 27 (Nat.le_of_ble_eq_true rfl) (hg _ wt_905) (fun _ h9 => h9) rfl dX11_count_94 ?_
            have hpost : True := by
              trivial
            refine W.widen (k := 0) (n := 0) (Nat.le_of_ble_eq_true rfl) (Nat.le_of_ble_eq_true rfl) ?_
            exact W.iret (v := nI M) hx hb hr (fun t ht hW => ⟨⟨nI M, (), rfl, ⟨hpost, trivial⟩, trivial⟩, hS.F ht⟩) hS.2.2 dX11_count_97
          · skip
            by_cases c10 : what = 2
            · skip
              refine lv_cg c10 ?_
              refine lv_tableIn (tgt := 98) hx hb dX11_count_50 (by decide) (by decide) rfl (by decide) ?_
              refine lv_aload_n hx hb dX11_count_98 rfl (lv_at hl 2 rfl) ?_
              refine va_get (D := (dC, dI)) (ci := 11) (v := .ref ik) (C := RX11) (T := TX11) (N := 35) hx hb hg inG11 hown hK.1 hP 0 rfl rfl 30 (Nat.le_of_ble_eq_true rfl) (hg _ wt_908) (fun _ h9 => h9) rfl dX11_count_99 ?_
              refine lv_iconst (v := 0) hx hb dX11_count_102 rfl ?_
              refine va_zald hx hb hK.1 hP 2 2 rfl rfl (vp_in_iff.mpr ⟨by decide, by decide⟩) dX11_count_103 ?_
              refine lv_cg (y := fik 0) (by rfl) ?_
              have cut112_13 : ∀ (k12 : Nat) (H : Heap) (locs : List Loc), k12 ≤ 1 → va_P (dC, dI) vwCl [(h0, .inr (11, [.ref st, .int (nI N), .int (nI B), .ref rp, .int vrs, .int vrb, .int vhs, .int vca, .int vxs, .int vxb, .ref tp, .int (nI T), .int vfa, .int vbr, .int vba, .int vsp, .int vhe, .int vtk, .int vva, .ref cu, .ref lt, .ref od, .ref th, .ref be, .ref ln, .int (nI S), .ref ma, .int (nI M), .ref ah, .ref bh, .ref ik, .ref la, .ref lg, .ref ce, .int vto])), (st, .inl (G 0, 196, .inl fst)), (ik, .inl (G 2, 2, .inl fik)), (la, .inl (G 0, 4, .inl fla)), (lg, .inl (G 0, 4, .inl flg))] H → va_S (fun q : Nat => s.heap.size ≤ q) s.heap H locs → ∀ (ls : Array Slot), lv_has ls 4 [(3, .int (nI j1)), (2, .int y2), (0, .ref h0), (1, .int what)] → W p l e (headSpec (Cond.code yX11_count cX11_count 4 (some .int) :: GT) ({ frames := 0, cells := 0, slots := 0, locals := 0 } : Room)).room s m ([.ref h0, .int what] : List Value).toArray below meth c H locs 0 0 (MQ below (va_Qi (fun (r : Int32) (u : Unit) => match u with | _ => (True) ∧ True) (fun _ _ => True) (fun q : Nat => s.heap.size ≤ q)) ([.ref h0, .int what] : List Value).toArray s 0 0 (fun q : Nat => s.heap.size ≤ q)) (F0 m 112 ls [.int (nI k12)]) := by
                intro k12 H locs hb_k12 hP hS ls hl
                refine lv_aload_n hx hb dX11_count_112 rfl (lv_at hl 2 rfl) ?_
                refine va_get (D := (dC, dI)) (ci := 11) (v := .ref ik) (C := RX11) (T := TX11) (N := 35) hx hb hg inG11 hown hK.1 hP 0 rfl rfl 30 (Nat.le_of_ble_eq_true rfl) (hg _ wt_908) (fun _ h9 => h9) rfl dX11_count_113 ?_
                refine lv_iconst (v := 1) hx hb dX11_count_116 rfl ?_
                refine va_zald hx hb hK.1 hP 2 2 rfl rfl (vp_in_iff.mpr ⟨by decide, by decide⟩) dX11_count_117 ?_
                refine lv_cg (y := fik 1) (by rfl) ?_
                have cut126_16 : ∀ (k15 : Nat) (H : Heap) (locs : List Loc), k15 ≤ 1 → va_P (dC, dI) vwCl [(h0, .inr (11, [.ref st, .int (nI N), .int (nI B), .ref rp, .int vrs, .int vrb, .int vhs, .int vca, .int vxs, .int vxb, .ref tp, .int (nI T), .int vfa, .int vbr, .int vba, .int vsp, .int vhe, .int vtk, .int vva, .ref cu, .ref lt, .ref od, .ref th, .ref be, .ref ln, .int (nI S), .ref ma, .int (nI M), .ref ah, .ref bh, .ref ik, .ref la, .ref lg, .ref ce, .int vto])), (st, .inl (G 0, 196, .inl fst)), (ik, .inl (G 2, 2, .inl fik)), (la, .inl (G 0, 4, .inl fla)), (lg, .inl (G 0, 4, .inl flg))] H → va_S (fun q : Nat => s.heap.size ≤ q) s.heap H locs → ∀ (ls : Array Slot), lv_has ls 4 [(3, .int (nI j1)), (2, .int y2), (0, .ref h0), (1, .int what)] → W p l e (headSpec (Cond.code yX11_count cX11_count 4 (some .int) :: GT) ({ frames := 0, cells := 0, slots := 0, locals := 0 } : Room)).room s m ([.ref h0, .int what] : List Value).toArray below meth c H locs 0 0 (MQ below (va_Qi (fun (r : Int32) (u : Unit) => match u with | _ => (True) ∧ True) (fun _ _ => True) (fun q : Nat => s.heap.size ≤ q)) ([.ref h0, .int what] : List Value).toArray s 0 0 (fun q : Nat => s.heap.size ≤ q)) (F0 m 126 ls [.int (nI k15), .int (nI k12)]) := by
                  intro k15 H locs hb_k15 hP hS ls hl
                  refine lv_iadd hx hb dX11_count_126 ?_
                  refine lv_cg (y := nI (k12 + k15)) (by exact nI_add _ _) ?_
                  have hpost : True := by
                    trivial
                  refine W.widen (k := 0) (n := 0) (Nat.le_of_ble_eq_true rfl) (Nat.le_of_ble_eq_true rfl) ?_
                  exact W.iret (v := nI (k12 + k15)) hx hb hr (fun t ht hW => ⟨⟨nI (k12 + k15), (), rfl, ⟨hpost, trivial⟩, trivial⟩, hS.F ht⟩) hS.2.2 dX11_count_127
                refine lv_if_eq (tgt := 125) hx hb dX11_count_118 rfl (fun c17 => ?_) (fun c17 => ?_)
                · skip
                  refine lv_iconst (v := 0) hx hb dX11_count_125 rfl ?_
                  exact cut126_16 0 _ _ (by omega) hP hS ls (lv_sub hl [0, 1, 2, 3] rfl)
                · skip
                  refine lv_iconst (v := 1) hx hb dX11_count_121 rfl ?_
                  refine lv_goto (tgt := 126) hx hb dX11_count_122 rfl ?_
                  exact cut126_16 1 _ _ (by omega) hP hS ls (lv_sub hl [0, 1, 2, 3] rfl)
              refine lv_if_eq (tgt := 111) hx hb dX11_count_104 rfl (fun c18 => ?_) (fun c18 => ?_)
              · skip
                refine lv_iconst (v := 0) hx hb dX11_count_111 rfl ?_
                exact cut112_13 0 _ _ (by omega) hP hS ls (lv_sub hl [0, 1, 2, 3] rfl)
              · skip
                refine lv_iconst (v := 1) hx hb dX11_count_107 rfl ?_
                refine lv_goto (tgt := 112) hx hb dX11_count_108 rfl ?_
                exact cut112_13 1 _ _ (by omega) hP hS ls (lv_sub hl [0, 1, 2, 3] rfl)
            · skip
              by_cases c19 : what = 3
              · skip
                refine lv_cg c19 ?_
                refine lv_tableIn (tgt := 128) hx hb dX11_count_50 (by decide) (by decide) rfl (by decide) ?_
                refine lv_aload_n hx hb dX11_count_128 rfl (lv_at hl 2 rfl) ?_
                refine va_get (D := (dC, dI)) (ci := 11) (v := .int (nI T)) (C := RX11) (T := TX11) (N := 35) hx hb hg inG11 hown hK.1 hP 0 rfl rfl 11 (Nat.le_of_ble_eq_true rfl) (hg _ wt_889) (fun _ h9 => h9) rfl dX11_count_129 ?_
                have hpost : True := by
                  trivial
                refine W.widen (k := 0) (n := 0) (Nat.le_of_ble_eq_true rfl) (Nat.le_of_ble_eq_true rfl) ?_
                exact W.iret (v := nI T) hx hb hr (fun t ht hW => ⟨⟨nI T, (), rfl, ⟨hpost, trivial⟩, trivial⟩, hS.F ht⟩) hS.2.2 dX11_count_132
              · skip
                by_cases c20 : what = 4
                · skip
                  refine lv_cg c20 ?_
                  refine lv_tableIn (tgt := 133) hx hb dX11_count_50 (by decide) (by decide) rfl (by decide) ?_
                  refine lv_aload_n hx hb dX11_count_133 rfl (lv_at hl 2 rfl) ?_
                  refine va_get (D := (dC, dI)) (ci := 11) (v := .ref la) (C := RX11) (T := TX11) (N := 35) hx hb hg inG11 hown hK.1 hP 0 rfl rfl 31 (Nat.le_of_ble_eq_true rfl) (hg _ wt_909) (fun _ h9 => h9) rfl dX11_count_134 ?_
                  refine lv_iconst (v := 0) hx hb dX11_count_137 rfl ?_
                  refine va_iald hx hb hK.1 hP 3 0 rfl rfl (vp_in_iff.mpr ⟨by decide, by decide⟩) dX11_count_138 ?_
                  refine lv_cg (y := fla 0) (by rfl) ?_
                  refine lv_bipush (v := (-4)) hx hb dX11_count_139 rfl ?_
                  have cut155_22 : ∀ (y21 : Int32) (H : Heap) (locs : List Loc), va_P (dC, dI) vwCl [(h0, .inr (11, [.ref st, .int (nI N), .int (nI B), .ref rp, .int vrs, .int vrb, .int vhs, .int vca, .int vxs, .int vxb, .ref tp, .int (nI T), .int vfa, .int vbr, .int vba, .int vsp, .int vhe, .int vtk, .int vva, .ref cu, .ref lt, .ref od, .ref th, .ref be, .ref ln, .int (nI S), .ref ma, .int (nI M), .ref ah, .ref bh, .ref ik, .ref la, .ref lg, .ref ce, .int vto])), (st, .inl (G 0, 196, .inl fst)), (ik, .inl (G 2, 2, .inl fik)), (la, .inl (G 0, 4, .inl fla)), (lg, .inl (G 0, 4, .inl flg))] H → va_S (fun q : Nat => s.heap.size ≤ q) s.heap H locs → ∀ (ls : Array Slot), lv_has ls 4 [(3, .int (nI j1)), (2, .int y2), (0, .ref h0), (1, .int what)] → W p l e (headSpec (Cond.code yX11_count cX11_count 4 (some .int) :: GT) ({ frames := 0, cells := 0, slots := 0, locals := 0 } : Room)).room s m ([.ref h0, .int what] : List Value).toArray below meth c H locs 0 0 (MQ below (va_Qi (fun (r : Int32) (u : Unit) => match u with | _ => (True) ∧ True) (fun _ _ => True) (fun q : Nat => s.heap.size ≤ q)) ([.ref h0, .int what] : List Value).toArray s 0 0 (fun q : Nat => s.heap.size ≤ q)) (F0 m 155 ls [.int y21]) := by
                    intro y21 H locs hP hS ls hl
                    have hpost : True := by
                      trivial
                    refine W.widen (k := 0) (n := 0) (Nat.le_of_ble_eq_true rfl) (Nat.le_of_ble_eq_true rfl) ?_
                    exact W.iret (v := y21) hx hb hr (fun t ht hW => ⟨⟨y21, (), rfl, ⟨hpost, trivial⟩, trivial⟩, hS.F ht⟩) hS.2.2 dX11_count_155
                  refine lv_icmp_ne (tgt := 149) hx hb dX11_count_141 rfl (fun c23 => ?_) (fun c23 => ?_)
                  · skip
                    refine lv_aload_n hx hb dX11_count_149 rfl (lv_at hl 2 rfl) ?_
                    refine va_get (D := (dC, dI)) (ci := 11) (v := .ref lg) (C := RX11) (T := TX11) (N := 35) hx hb hg inG11 hown hK.1 hP 0 rfl rfl 32 (Nat.le_of_ble_eq_true rfl) (hg _ wt_910) (fun _ h9 => h9) rfl dX11_count_150 ?_
                    refine lv_iconst (v := 0) hx hb dX11_count_153 rfl ?_
                    refine va_iald hx hb hK.1 hP 4 0 rfl rfl (vp_in_iff.mpr ⟨by decide, by decide⟩) dX11_count_154 ?_
                    refine lv_cg (y := flg 0) (by rfl) ?_
                    exact cut155_22 (flg 0) _ _ hP hS ls (lv_sub hl [0, 1, 2, 3] rfl)
                  · skip
                    refine lv_bipush (v := (-4)) hx hb dX11_count_144 rfl ?_
                    refine lv_goto (tgt := 155) hx hb dX11_count_146 rfl ?_
                    exact cut155_22 (-4) _ _ hP hS ls (lv_sub hl [0, 1, 2, 3] rfl)
                · skip
                  by_cases c24 : what = 5
                  · skip
                    refine lv_cg c24 ?_
                    refine lv_tableIn (tgt := 156) hx hb dX11_count_50 (by decide) (by decide) rfl (by decide) ?_
                    refine lv_iload_n hx hb dX11_count_156 rfl (lv_at hl 1 rfl) ?_
                    have hpost : True := by
                      trivial
                    refine W.widen (k := 0) (n := 0) (Nat.le_of_ble_eq_true rfl) (Nat.le_of_ble_eq_true rfl) ?_
                    exact W.iret (v := y2) hx hb hr (fun t ht hW => ⟨⟨y2, (), rfl, ⟨hpost, trivial⟩, trivial⟩, hS.F ht⟩) hS.2.2 dX11_count_157
                  · skip
                    refine lv_tableOut (tgt := 158) hx hb dX11_count_50 (by have t_hj5 := hj5; have t_hlo_j1 := hlo_j1; have t_n7 := n7; have t_c8 := neI c8; have t_c9 := neI c9; have t_c10 := neI c10; have t_c19 := neI c19; have t_c20 := neI c20; have t_c24 := neI c24; have tqz_ := qz14_; have tnb_ := nib6 tn976_ tn977_ tn978_ tn979_ tn980_ tn981_; omega) (by decide) ?_
                    refine lv_iconst (v := (-1)) hx hb dX11_count_158 rfl ?_
                    have hpost : True := by
                      trivial
                    refine W.widen (k := 0) (n := 0) (Nat.le_of_ble_eq_true rfl) (Nat.le_of_ble_eq_true rfl) ?_
                    exact W.iret (v := (-1)) hx hb hr (fun t ht hW => ⟨⟨(-1), (), rfl, ⟨hpost, trivial⟩, trivial⟩, hS.F ht⟩) hS.2.2 dX11_count_159
      · skip
        have tn982_ : nIT j1 := fun _ => nI_toInt (by first | omega | (have t := nleI c6; omega))
        have n25 : j1 < N := by have t := nleI c6; rw [show (nI (j1)).toInt = ((j1 : Nat) : Int) from tn982_ ()] at t; rw [show (nI (N)).toInt = ((N : Nat) : Int) from tn976_ ()] at t; omega
        refine lv_iload_n hx hb dX11_count_12 rfl (lv_at hl 1 rfl) ?_
        refine lv_aload_n hx hb dX11_count_13 rfl (lv_at hl 2 rfl) ?_
        refine va_get (D := (dC, dI)) (ci := 11) (v := .ref st) (C := RX11) (T := TX11) (N := 35) hx hb hg inG11 hown hK.1 hP 0 rfl rfl 0 (Nat.le_of_ble_eq_true rfl) (hg _ wt_878) (fun _ h9 => h9) rfl dX11_count_14 ?_
        refine lv_bipush (v := 38) hx hb dX11_count_17 rfl ?_
        refine lv_iload_n hx hb dX11_count_19 rfl (lv_at hl 0 rfl) ?_
        refine lv_iadd hx hb dX11_count_20 ?_
        refine lv_cg (y := nI (38 + j1)) (by rw [show (38 : Int32) = nI 38 from rfl]; exact nI_add _ _) ?_
        refine va_iald hx hb hK.1 hP 1 0 rfl rfl (vp_in_nI (by first | omega | (have t_hj5 := hj5; have t_hlo_j1 := hlo_j1; have t_n25 := n25; have tnb_ := nib6 tn976_ tn977_ tn978_ tn979_ tn980_ tn982_; omega)) (by decide)) dX11_count_21 ?_
        refine lv_cg (y := fst (38 + j1)) (by rw [nI_clamp (by omega)]) ?_
        refine lv_aload_n hx hb dX11_count_22 rfl (lv_at hl 2 rfl) ?_
        refine va_get (D := (dC, dI)) (ci := 11) (v := .ref st) (C := RX11) (T := TX11) (N := 35) hx hb hg inG11 hown hK.1 hP 0 rfl rfl 0 (Nat.le_of_ble_eq_true rfl) (hg _ wt_878) (fun _ h9 => h9) rfl dX11_count_23 ?_
        refine lv_bipush (v := 38) hx hb dX11_count_26 rfl ?_
        refine lv_iload_n hx hb dX11_count_28 rfl (lv_at hl 0 rfl) ?_
        refine lv_iadd hx hb dX11_count_29 ?_
        refine lv_cg (y := nI (38 + j1)) (by rw [show (38 : Int32) = nI 38 from rfl]; exact nI_add _ _) ?_
        refine lv_iconst (v := 1) hx hb dX11_count_30 rfl ?_
        refine lv_isub hx hb dX11_count_31 ?_
        refine lv_cg (y := nI ((38 + j1) - 1)) (by rw [show (1 : Int32) = nI 1 from rfl]; exact pk_sub (by have t_hj5 := hj5; have t_hlo_j1 := hlo_j1; have t_n25 := n25; have tnb_ := nib6 tn976_ tn977_ tn978_ tn979_ tn980_ tn982_; omega)) ?_
        refine va_iald hx hb hK.1 hP 1 0 rfl rfl (vp_in_nI (by first | omega | (have t_hj5 := hj5; have t_hlo_j1 := hlo_j1; have t_n25 := n25; have tnb_ := nib6 tn976_ tn977_ tn978_ tn979_ tn980_ tn982_; omega)) (by decide)) dX11_count_32 ?_
        refine lv_cg (y := fst ((38 + j1) - 1)) (by rw [nI_clamp (by omega)]) ?_
        have cut41_28 : ∀ (k27 : Nat) (H : Heap) (locs : List Loc), k27 ≤ 1 → va_P (dC, dI) vwCl [(h0, .inr (11, [.ref st, .int (nI N), .int (nI B), .ref rp, .int vrs, .int vrb, .int vhs, .int vca, .int vxs, .int vxb, .ref tp, .int (nI T), .int vfa, .int vbr, .int vba, .int vsp, .int vhe, .int vtk, .int vva, .ref cu, .ref lt, .ref od, .ref th, .ref be, .ref ln, .int (nI S), .ref ma, .int (nI M), .ref ah, .ref bh, .ref ik, .ref la, .ref lg, .ref ce, .int vto])), (st, .inl (G 0, 196, .inl fst)), (ik, .inl (G 2, 2, .inl fik)), (la, .inl (G 0, 4, .inl fla)), (lg, .inl (G 0, 4, .inl flg))] H → va_S (fun q : Nat => s.heap.size ≤ q) s.heap H locs → ∀ (ls : Array Slot), lv_has ls 4 [(3, .int (nI j1)), (2, .int y2), (0, .ref h0), (1, .int what)] → W p l e (headSpec (Cond.code yX11_count cX11_count 4 (some .int) :: GT) ({ frames := 0, cells := 0, slots := 0, locals := 0 } : Room)).room s m ([.ref h0, .int what] : List Value).toArray below meth c H locs 0 0 (MQ below (va_Qi (fun (r : Int32) (u : Unit) => match u with | _ => (True) ∧ True) (fun _ _ => True) (fun q : Nat => s.heap.size ≤ q)) ([.ref h0, .int what] : List Value).toArray s 0 0 (fun q : Nat => s.heap.size ≤ q)) (F0 m 41 ls [.int (nI k27), .int y2]) := by
          intro k27 H locs hb_k27 hP hS ls hl
          refine lv_iadd hx hb dX11_count_41 ?_
          refine lv_istore_n (lv' := [(2, .int (y2 + (nI k27))), (3, .int (nI j1)), (0, .ref h0), (1, .int what)]) hx hb dX11_count_42 rfl hl (by decide) rfl (fun ls hl => ?_)
          refine lv_iinc (v := nI (j1 + 1)) (lv' := [(3, .int (nI (j1 + 1))), (2, .int (y2 + (nI k27))), (0, .ref h0), (1, .int what)]) hx hb dX11_count_43 hl (k := 1) rfl (by rw [show Int32.ofInt 1 = nI 1 from by decide]; exact nI_add _ _) (by decide) rfl (fun ls hl => ?_)
          refine lv_goto (tgt := 4) hx hb dX11_count_46 rfl ?_
          exact ih4_3 (j1 + 1) (by omega) (by omega) (by omega) (y2 + (nI k27)) _ _ hP hS ls (lv_sub hl [0, 1, 2, 3] rfl)
        refine lv_icmp_eq (tgt := 40) hx hb dX11_count_33 rfl (fun c29 => ?_) (fun c29 => ?_)
        · skip
          refine lv_iconst (v := 0) hx hb dX11_count_40 rfl ?_
          exact cut41_28 0 _ _ (by omega) hP hS ls (lv_sub hl [0, 1, 2, 3] rfl)
        · skip
          refine lv_iconst (v := 1) hx hb dX11_count_36 rfl ?_
          refine lv_goto (tgt := 41) hx hb dX11_count_37 rfl ?_
          exact cut41_28 1 _ _ (by omega) hP hS ls (lv_sub hl [0, 1, 2, 3] rfl)
  exact loop4_3 (10 + 1) 1 (by omega) (by omega) (by omega) 0 _ _ hP hS ls (lv_sub hl [0, 1, 2, 3] rfl)

def cutL : List Nat := [0, 5, 12, 18, 23, 28, 34, 42, 46, 50, 54]
theorem cut_mono {n : Nat} (h : n < 10) : cutL.getD n 0 ≤ cutL.getD (n + 1) 0 ∧ cutL.getD (n + 1) 0 ≤ 54 := by
  rcases (show n = 0 ∨ n = 1 ∨ n = 2 ∨ n = 3 ∨ n = 4 ∨ n = 5 ∨ n = 6 ∨ n = 7 ∨ n = 8 ∨ n = 9 by omega) with q|q|q|q|q|q|q|q|q|q <;> subst q <;> decide
theorem nIm4 {n : Nat} (h : n ≤ 9) : (nI n - 4).toInt = (n : Int) - 4 := by
  rcases (show n = 0 ∨ n = 1 ∨ n = 2 ∨ n = 3 ∨ n = 4 ∨ n = 5 ∨ n = 6 ∨ n = 7 ∨ n = 8 ∨ n = 9 by omega) with q|q|q|q|q|q|q|q|q|q <;> subst q <;> decide
theorem OKP.zero {f : Nat → Int32} (h : ∀ q : Nat, q < 49 → f q = 0) : OKP f := by
  intro q hq
  rw [h q hq]
  have e : (0 : Int32).toInt = 0 := by decide
  exact ⟨fun _ => by omega, fun _ _ => by omega, fun _ => by omega⟩

theorem addI {x y : Int32} (h : -2147483648 ≤ x.toInt + y.toInt) (h' : x.toInt + y.toInt < 2147483648) : (x + y).toInt = x.toInt + y.toInt := by
  have e0 : (x + y).toInt = (x.toInt + y.toInt).bmod (2 ^ 32) := Int32.toInt_add x y
  rw [Int.bmod_eq_of_le (by omega) (by omega)] at e0
  exact e0
theorem subI {x y : Int32} (h : -2147483648 ≤ x.toInt - y.toInt) (h' : x.toInt - y.toInt < 2147483648) : (x - y).toInt = x.toInt - y.toInt := by
  have e0 : (x - y).toInt = (x.toInt - y.toInt).bmod (2 ^ 32) := Int32.toInt_sub x y
  rw [Int.bmod_eq_of_le (by omega) (by omega)] at e0
  exact e0
theorem hKb (x : Int32) : 0 ≤ (hK' x).toInt ∧ (hK' x).toInt ≤ 2 := by
  unfold hK'
  split
  · decide
  · split <;> decide
theorem hTrb (x y : Int32) : 0 ≤ (hTr x y).toInt ∧ (hTr x y).toInt ≤ 1 := by
  unfold hTr
  split <;> decide
theorem hPosb (x : Int32) : 0 ≤ (hPos x).toInt ∧ ((hPos x).toInt = 0 ∨ (hPos x).toInt = x.toInt) := by
  have z0 : (0 : Int32).toInt = 0 := by decide
  unfold hPos
  split
  · rw [z0]; exact ⟨by omega, Or.inl rfl⟩
  · rename_i h
    have t := nleI h
    exact ⟨by omega, Or.inr rfl⟩
theorem hTopb {x : Int32} (h : 0 ≤ x.toInt) : 0 ≤ (hTop x).toInt ∧ (hTop x).toInt ≤ 20 := by
  have z0 : (20 : Int32).toInt = 20 := by decide
  unfold hTop
  split
  · rename_i h1
    have t := leI h1
    exact ⟨h, by omega⟩
  · rw [z0]; exact ⟨by omega, by omega⟩
theorem hAbsb {x : Int32} (h : -9 ≤ x.toInt) (h' : x.toInt ≤ 9) : 0 ≤ (hAbs x).toInt ∧ (hAbs x).toInt ≤ 9 := by
  have z0 : (0 : Int32).toInt = 0 := by decide
  unfold hAbs
  split
  · rename_i h1
    have t := leI h1
    exact ⟨by omega, h'⟩
  · rename_i h1
    have t := nleI h1
    have e0 : (-x).toInt = (-x.toInt).bmod (2 ^ 32) := Int32.toInt_neg x
    rw [Int.bmod_eq_of_le (by omega) (by omega)] at e0
    exact ⟨by omega, by omega⟩
theorem hJob {q x : Int32} (h : 0 ≤ x.toInt) (h' : x.toInt ≤ 9) : 0 ≤ (hJo q x).toInt ∧ (hJo q x).toInt ≤ 9 := by
  unfold hJo
  split
  · obtain ⟨j, hj, rfl⟩ := i32_nat (x := x) (n := 10) h (by omega)
    rcases (show j = 0 ∨ j = 1 ∨ j = 2 ∨ j = 3 ∨ j = 4 ∨ j = 5 ∨ j = 6 ∨ j = 7 ∨ j = 8 ∨ j = 9 by omega) with q|q|q|q|q|q|q|q|q|q <;> subst q <;> decide
  · exact ⟨h, h'⟩
theorem rhSb {fs : Nat → Int32} (h : OKS fs) {i b : Nat} (hi : i < 10) (hb : b < 6) : 0 ≤ (rhS fs i b 0).toInt ∧ (rhS fs i b 0).toInt ≤ 19 := by
  have a1 := (h (2 * i) (by omega)).1 (by rw [Nat.mod_eq_of_lt (by omega)]; omega)
  have a2 := (h (2 * i + 1) (by omega)).1 (by rw [Nat.mod_eq_of_lt (by omega)]; omega)
  have a3 := (h (20 + 3 * b + 2) (by omega)).1 (by rw [Nat.mod_eq_of_lt (by omega)]; omega)
  have e0 : hQt fs i 0 = fs (2 * i) := if_pos rfl
  have k := hKb (fs (20 + 3 * b))
  have t := hTrb (fs (20 + 3 * b)) (fs (2 * i + 1))
  have s1 := subI (x := fs (2 * i)) (y := hK' (fs (20 + 3 * b))) (by omega) (by omega)
  have s2 := subI (x := fs (2 * i + 1)) (y := fs (20 + 3 * b + 2)) (by omega) (by omega)
  have p1 := hPosb (fs (2 * i) - hK' (fs (20 + 3 * b)))
  have p2 := hPosb (fs (2 * i + 1) - fs (20 + 3 * b + 2))
  unfold rhS
  rw [e0]
  generalize hPos (fs (2 * i) - hK' (fs (20 + 3 * b))) = A at p1 ⊢
  generalize hPos (fs (2 * i + 1) - fs (20 + 3 * b + 2)) = B at p2 ⊢
  generalize hTr (fs (20 + 3 * b)) (fs (2 * i + 1)) = C at t ⊢
  have u1 := addI (x := A) (y := B) (by omega) (by omega)
  have u2 := addI (x := A + B) (y := C) (by omega) (by omega)
  rw [u2, u1]
  exact ⟨by omega, by omega⟩
theorem rhNb {fs : Nat → Int32} (h : OKS fs) {i b : Nat} (hi : i < 10) (hb : b < 6) : 0 ≤ (rhN fs i b 0).toInt ∧ (rhN fs i b 0).toInt ≤ 20 := hTopb (rhSb h hi hb).1
theorem rhBb {fs : Nat → Int32} (h : OKS fs) {i a b : Nat} (hi : i < 10) (ha : a < 6) (hb : b < 6) : 0 ≤ (rhB fs i a b 0).toInt ∧ (rhB fs i a b 0).toInt ≤ 20 := by
  have k := rhSb h hi hb
  have a1 := (h (20 + 3 * a + 1) (by omega)).1 (by rw [Nat.mod_eq_of_lt (by omega)]; omega)
  have a2 := (h (20 + 3 * b + 1) (by omega)).1 (by rw [Nat.mod_eq_of_lt (by omega)]; omega)
  have s1 := subI (x := fs (20 + 3 * a + 1)) (y := fs (20 + 3 * b + 1)) (by omega) (by omega)
  have p1 := hAbsb (x := fs (20 + 3 * a + 1) - fs (20 + 3 * b + 1)) (by omega) (by omega)
  have p2 := hJob (q := fs (20 + 3 * b)) p1.1 p1.2
  unfold rhB
  refine hTopb ?_
  split
  · exact k.1
  · generalize hJo (fs (20 + 3 * b)) (hAbs (fs (20 + 3 * a + 1) - fs (20 + 3 * b + 1))) = J at p2 ⊢
    have u1 := addI (x := rhS fs i b 0) (y := J) (by omega) (by omega)
    omega
def pwI : Nat → Int
  | 0 => 1
  | n + 1 => pwI n * 20
theorem pwI_b {n : Nat} (h : n ≤ 9) : 1 ≤ pwI n ∧ pwI n ≤ 512000000000 := by
  rcases (show n = 0 ∨ n = 1 ∨ n = 2 ∨ n = 3 ∨ n = 4 ∨ n = 5 ∨ n = 6 ∨ n = 7 ∨ n = 8 ∨ n = 9 by omega) with h|h|h|h|h|h|h|h|h|h <;> subst h <;> decide
theorem pwI_t {n : Nat} (h : n ≤ 10) : (powF n).toInt = pwI n := by
  rcases (show n = 0 ∨ n = 1 ∨ n = 2 ∨ n = 3 ∨ n = 4 ∨ n = 5 ∨ n = 6 ∨ n = 7 ∨ n = 8 ∨ n = 9 ∨ n = 10 by omega) with h|h|h|h|h|h|h|h|h|h|h <;> subst h <;> decide
theorem mulL {x y : Int64} (h : 0 ≤ x.toInt * y.toInt) (h' : x.toInt * y.toInt < 9000000000000000000) : (x * y).toInt = x.toInt * y.toInt := by
  have e0 : (x * y).toInt = (x.toInt * y.toInt).bmod (2 ^ 64) := Int64.toInt_mul x y
  rw [Int.bmod_eq_of_le (by omega) (by omega)] at e0
  exact e0
theorem addL {x y : Int64} (h : 0 ≤ x.toInt + y.toInt) (h' : x.toInt + y.toInt < 9000000000000000000) : (x + y).toInt = x.toInt + y.toInt := by
  have e0 : (x + y).toInt = (x.toInt + y.toInt).bmod (2 ^ 64) := Int64.toInt_add x y
  rw [Int.bmod_eq_of_le (by omega) (by omega)] at e0
  exact e0
theorem mixB {a : Int32} {x y : Int64} {M : Int} (h0 : 0 ≤ a.toInt) (h1 : a.toInt ≤ 20) (hM : M ≤ 512000000000) (hx0 : 0 ≤ x.toInt) (hx : x.toInt ≤ M) (hy0 : 0 ≤ y.toInt) (hy : y.toInt ≤ M) : 0 ≤ (a.toInt64 * x + (20 - a).toInt64 * y).toInt ∧ (a.toInt64 * x + (20 - a).toInt64 * y).toInt ≤ M * 20 := by
  have z : (20 : Int32).toInt = 20 := by decide
  have s1 := subI (x := 20) (y := a) (by omega) (by omega)
  have e1 : a.toInt64.toInt = a.toInt := l_ii a
  have e2 : (20 - a).toInt64.toInt = 20 - a.toInt := by rw [l_ii, s1, z]
  have p1 : 0 ≤ a.toInt * x.toInt := Int.mul_nonneg h0 hx0
  have p2 : a.toInt * x.toInt ≤ a.toInt * M := Int.mul_le_mul_of_nonneg_left hx h0
  have q1 : 0 ≤ (20 - a.toInt) * y.toInt := Int.mul_nonneg (by omega) hy0
  have q2 : (20 - a.toInt) * y.toInt ≤ (20 - a.toInt) * M := Int.mul_le_mul_of_nonneg_left hy (by omega)
  have r1 : 0 ≤ a.toInt * M := Int.mul_nonneg h0 (by omega)
  have r2 : 0 ≤ (20 - a.toInt) * M := Int.mul_nonneg (by omega) (by omega)
  have s : a.toInt * M + (20 - a.toInt) * M = M * 20 := by
    rw [← Int.add_mul, show a.toInt + (20 - a.toInt) = 20 by omega, Int.mul_comm]
  have m1 := mulL (x := a.toInt64) (y := x) (by rw [e1]; exact p1) (by rw [e1]; omega)
  have m2 := mulL (x := (20 - a).toInt64) (y := y) (by rw [e2]; exact q1) (by rw [e2]; omega)
  rw [e1] at m1
  rw [e2] at m2
  have t := addL (x := a.toInt64 * x) (y := (20 - a).toInt64 * y) (by rw [m1, m2]; omega) (by rw [m1, m2]; omega)
  rw [t, m1, m2]
  exact ⟨by omega, by omega⟩
def b1N (fs : Nat → Int32) (f : Nat → Int64) (i d b : Nat) : Int64 := (rhN fs i b 0).toInt64 * f (70 * (i + 1) + 10 * (b + 1) + (d - 1)) + (20 - rhN fs i b 0).toInt64 * f (70 * (i + 1) + 10 * (b + 1) + min 9 (d + 1))
def b1B (fs : Nat → Int32) (f : Nat → Int64) (i a d b : Nat) : Int64 := (rhB fs i a b 0).toInt64 * f (70 * (i + 1) + 10 * (b + 1) + (d - 1)) + (20 - rhB fs i a b 0).toInt64 * f (70 * (i + 1) + 10 * (b + 1) + min 9 (d + 1))
def b1 (fs : Nat → Int32) (f : Nat → Int64) (i k b : Nat) : Int64 := if k < 10 then b1N fs f i (k % 10) b else b1B fs f i (k / 10 - 1) (k % 10) b
theorem b1_cg {fs : Nat → Int32} {f g : Nat → Int64} {i k b : Nat} (h : ∀ q : Nat, 70 * (i + 1) ≤ q → f q = g q) : b1 fs f i k b = b1 fs g i k b := by
  unfold b1 b1N b1B
  rw [h (70 * (i + 1) + 10 * (b + 1) + (k % 10 - 1)) (by omega), h (70 * (i + 1) + 10 * (b + 1) + min 9 (k % 10 + 1)) (by omega)]
def okv (N i : Nat) (x : Int64) : Prop := 0 ≤ x.toInt ∧ x.toInt ≤ pwI (N - i)
def sOK (fs : Nat → Int32) (N B : Nat) (f : Nat → Int64) (i k : Nat) : Prop := (k % 10 = 0 ∨ k < 10 ∨ k / 10 ≤ B) → okv N i (f (70 * i + k)) ∧ (i < N → k % 10 ≠ 0 → ∃ b : Nat, b < B ∧ f (70 * i + k) = b1 fs f i k b)
def RI (fs : Nat → Int32) (N B j : Nat) (f : Nat → Int64) : Prop := ∀ i k : Nat, j ≤ i → i ≤ N → k < 70 → sOK fs N B f i k
def KI (fs : Nat → Int32) (N B i k : Nat) (f : Nat → Int64) : Prop := RI fs N B (i + 1) f ∧ ∀ k' : Nat, k' < k → sOK fs N B f i k'
def BI (fs : Nat → Int32) (N B i k b : Nat) (f : Nat → Int64) : Prop := KI fs N B i k f ∧ ((k % 10 = 0 ∧ f (70 * i + k) = powF (N - i)) ∨ (k % 10 ≠ 0 ∧ ((b = 0 ∧ f (70 * i + k) = 4000000000000000000) ∨ (okv N i (f (70 * i + k)) ∧ ∃ b' : Nat, b' < b ∧ f (70 * i + k) = b1 fs f i k b'))))
def FI (N j : Nat) (f : Nat → Int64) : Prop := ∀ k : Nat, k < j → 0 ≤ (f (70 * N + k)).toInt ∧ (f (70 * N + k)).toInt ≤ 1
theorem upL_ne {f : Nat → Int64} {k q : Nat} {v : Int64} (h : q ≠ k) : vp_updL f k v q = f q := if_neg h
theorem upL_eq {f : Nat → Int64} {k : Nat} {v : Int64} : vp_updL f k v k = v := if_pos rfl
theorem sOK_cg {fs : Nat → Int32} {N B : Nat} {f g : Nat → Int64} {i k : Nat} (h1 : ∀ q : Nat, 70 * (i + 1) ≤ q → f q = g q) (h2 : f (70 * i + k) = g (70 * i + k)) (h : sOK fs N B f i k) : sOK fs N B g i k := by
  intro hk
  obtain ⟨p, q⟩ := h hk
  refine ⟨by rw [← h2]; exact p, fun a c => ?_⟩
  obtain ⟨b, hb, e⟩ := q a c
  exact ⟨b, hb, by rw [← h2, ← b1_cg h1]; exact e⟩
theorem KI.put {fs : Nat → Int32} {N B i k : Nat} {f : Nat → Int64} {v : Int64} (hk : k < 70) (h : KI fs N B i k f) : KI fs N B i k (vp_updL f (70 * i + k) v) :=
  ⟨fun i' k' h1 h2 h3 => sOK_cg (fun q hq => (upL_ne (by omega)).symm) (upL_ne (by omega)).symm (h.1 i' k' h1 h2 h3), fun k' hk' => sOK_cg (fun q hq => (upL_ne (by omega)).symm) (upL_ne (by omega)).symm (h.2 k' hk')⟩
theorem BI.ini {fs : Nat → Int32} {N B i k : Nat} {f : Nat → Int64} {y : Int64} (h : KI fs N B i k f) (hk : k < 70) (hc : (k % 10 = 0 ∧ y = powF (N - i)) ∨ (k % 10 ≠ 0 ∧ y = 4000000000000000000)) : BI fs N B i k 0 (vp_updL f (70 * i + k) y) := by
  refine ⟨h.put hk, ?_⟩
  rw [upL_eq]
  rcases hc with hc | hc
  · exact Or.inl hc
  · exact Or.inr ⟨hc.1, Or.inl ⟨rfl, hc.2⟩⟩
theorem b1_ok {fs : Nat → Int32} {N B i k b : Nat} {f : Nat → Int64} (ho : OKS fs) (h : RI fs N B (i + 1) f) (hN : N ≤ 10) (hB : B ≤ 6) (hi : i < N) (hb : b < B) (hk : k < 70) : okv N i (b1 fs f i k b) := by
  have row : ∀ d : Nat, d ≤ 9 → okv N (i + 1) (f (70 * (i + 1) + 10 * (b + 1) + d)) := fun d hd => by
    have t := (h (i + 1) (10 * (b + 1) + d) (Nat.le_refl _) (by omega) (by omega) (Or.inr (Or.inr (by omega)))).1
    rw [show 70 * (i + 1) + 10 * (b + 1) + d = 70 * (i + 1) + (10 * (b + 1) + d) by omega]
    exact t
  have r1 := row (k % 10 - 1) (by omega)
  have r2 := row (min 9 (k % 10 + 1)) (by omega)
  have hp := pwI_b (n := N - (i + 1)) (by omega)
  have e : pwI (N - i) = pwI (N - (i + 1)) * 20 := by
    rw [show N - i = (N - (i + 1)) + 1 by omega]
    rfl
  unfold okv
  rw [e]
  unfold b1
  split
  · have hh := rhNb ho (i := i) (b := b) (by omega) (by omega)
    exact mixB hh.1 hh.2 hp.2 r1.1 r1.2 r2.1 r2.2
  · have hh := rhBb ho (i := i) (a := k / 10 - 1) (b := b) (by omega) (by omega) (by omega)
    exact mixB hh.1 hh.2 hp.2 r1.1 r1.2 r2.1 r2.2
theorem BI.lt {fs : Nat → Int32} {N B i k b : Nat} {f : Nat → Int64} {v : Int64} (ho : OKS fs) (hN : N ≤ 10) (hB : B ≤ 6) (hi : i < N) (hb : b < B) (hk : k < 70) (hk0 : k % 10 ≠ 0) (hv : v = b1 fs f i k b) (h : BI fs N B i k b f) : BI fs N B i k (b + 1) (vp_updL f (70 * i + k) v) := by
  refine ⟨h.1.put hk, Or.inr ⟨hk0, Or.inr ?_⟩⟩
  rw [upL_eq]
  refine ⟨by rw [hv]; exact b1_ok ho h.1.1 hN hB hi hb hk, b, by omega, ?_⟩
  rw [hv]
  exact b1_cg (fun q hq => (upL_ne (by omega)).symm)
theorem BI.ge {fs : Nat → Int32} {N B i k b : Nat} {f : Nat → Int64} {v : Int64} (ho : OKS fs) (hN : N ≤ 10) (hB : B ≤ 6) (hi : i < N) (hb : b < B) (hk : k < 70) (hk0 : k % 10 ≠ 0) (hv : v = b1 fs f i k b) (hc : (f (70 * i + k)).toInt ≤ v.toInt) (h : BI fs N B i k b f) : BI fs N B i k (b + 1) (vp_updL f (70 * i + k) (f (70 * i + k))) := by
  refine ⟨h.1.put hk, Or.inr ⟨hk0, Or.inr ?_⟩⟩
  rw [upL_eq]
  have o := b1_ok ho h.1.1 hN hB hi hb hk
  rw [← hv] at o
  have hp := pwI_b (n := N - (i + 1)) (by omega)
  have e : pwI (N - i) = pwI (N - (i + 1)) * 20 := by
    rw [show N - i = (N - (i + 1)) + 1 by omega]
    rfl
  have z : (4000000000000000000 : Int64).toInt = 4000000000000000000 := by decide
  have o2 := o.2
  rcases h.2 with c | ⟨-, c | c⟩
  · exact absurd c.1 hk0
  · rw [c.2] at hc
    exfalso
    omega
  · obtain ⟨b', h1, h2⟩ := c.2
    exact ⟨c.1, b', by omega, by rw [h2]; exact (b1_cg (fun q hq => (upL_ne (by omega)).symm))⟩
theorem BI.out {fs : Nat → Int32} {N B i k b : Nat} {f : Nat → Int64} (hN : N ≤ 10) (hi : i < N) (hB : 0 < B) (hc : b = B ∨ k % 10 = 0 ∨ (10 ≤ k ∧ B < k / 10)) (h : BI fs N B i k b f) : KI fs N B i (k + 1) f := by
  refine ⟨h.1.1, fun k' hk' => ?_⟩
  by_cases e : k' < k
  · exact h.1.2 k' e
  · have e2 : k' = k := by omega
    subst e2
    intro hv
    rcases h.2 with c | ⟨c0, c | c⟩
    · have t := pwI_t (n := N - i) (by omega)
      have hp : 0 ≤ pwI (N - i) := by
        rw [show N - i = (N - (i + 1)) + 1 by omega]
        have := pwI_b (n := N - (i + 1)) (by omega)
        show 0 ≤ pwI (N - (i + 1)) * 20
        omega
      refine ⟨⟨by rw [c.2, t]; exact hp, by rw [c.2, t]; exact Int.le_refl _⟩, fun _ h2 => absurd c.1 h2⟩
    · exfalso
      omega
    · obtain ⟨b', h1, h2⟩ := c.2
      exact ⟨c.1, fun _ _ => ⟨b', by omega, h2⟩⟩
theorem KI.out {fs : Nat → Int32} {N B i k : Nat} {f : Nat → Int64} (hk : 70 ≤ k) (h : KI fs N B i k f) : RI fs N B i f := fun i' k' h1 h2 h3 => by
  by_cases e : i' = i
  · subst e; exact h.2 k' (by omega)
  · exact h.1 i' k' (by omega) h2 h3
theorem RI.k0 {fs : Nat → Int32} {N B i : Nat} {f : Nat → Int64} (h : RI fs N B (i + 1) f) : KI fs N B i 0 f := ⟨h, fun k' hk' => absurd hk' (Nat.not_lt_zero _)⟩
theorem FI.put {N j : Nat} {f : Nat → Int64} {y : Int64} (h : FI N j f) (hy : 0 ≤ y.toInt ∧ y.toInt ≤ 1) : FI N (j + 1) (vp_updL f (70 * N + j) y) := fun k hk => by
  by_cases e : k = j
  · subst e; rw [upL_eq]; exact hy
  · rw [upL_ne (by omega)]; exact h k (by omega)
theorem FI.out {fs : Nat → Int32} {N B j : Nat} {f : Nat → Int64} (hj : 70 ≤ j) (h : FI N j f) : RI fs N B N f := fun i k h1 h2 h3 hk => by
  have e : i = N := by omega
  subst e
  have t := h k (by omega)
  refine ⟨⟨t.1, ?_⟩, fun h4 => absurd h4 (Nat.lt_irrefl _)⟩
  rw [Nat.sub_self]
  exact t.2
theorem RI.getN {fs : Nat → Int32} {N B i d : Nat} {f : Nat → Int64} (h : RI fs N B 0 f) (hi : i < N) (h1 : 1 ≤ d) (h2 : d ≤ 9) : ∃ b9 : Nat, 0 ≤ b9 ∧ b9 < B ∧ b1N fs f i d b9 = f (70 * i + d) := by
  obtain ⟨b, hb, e⟩ := (h i d (by omega) (by omega) (by omega) (Or.inr (Or.inl (by omega)))).2 hi (by omega)
  refine ⟨b, Nat.zero_le _, hb, ?_⟩
  unfold b1 at e
  rw [if_pos (by omega), Nat.mod_eq_of_lt (by omega)] at e
  exact e.symm
theorem RI.getB {fs : Nat → Int32} {N B i a d : Nat} {f : Nat → Int64} (h : RI fs N B 0 f) (hi : i < N) (ha : a < B) (hB : B ≤ 6) (h1 : 1 ≤ d) (h2 : d ≤ 9) : ∃ b9 : Nat, 0 ≤ b9 ∧ b9 < B ∧ b1B fs f i a d b9 = f (70 * i + 10 * (a + 1) + d) := by
  obtain ⟨b, hb, e⟩ := (h i (10 * (a + 1) + d) (by omega) (by omega) (by omega) (Or.inr (Or.inr (by omega)))).2 hi (by omega)
  refine ⟨b, Nat.zero_le _, hb, ?_⟩
  unfold b1 at e
  rw [if_neg (by omega), show (10 * (a + 1) + d) % 10 = d by omega, show (10 * (a + 1) + d) / 10 - 1 = a by omega] at e
  rw [show 70 * i + 10 * (a + 1) + d = 70 * i + (10 * (a + 1) + d) by omega]
  exact e.symm
theorem nx_lt {P : Nat → Prop} {j B : Nat} (h : ∃ b9 : Nat, j ≤ b9 ∧ b9 < B ∧ P b9) : j < B := by
  obtain ⟨b, h1, h2, -⟩ := h
  omega
theorem nx_step {P : Nat → Int64} {y : Int64} {j B : Nat} (h : ∃ b9 : Nat, j ≤ b9 ∧ b9 < B ∧ P b9 = y) (hn : ¬ (P j).toInt = y.toInt) : ∃ b9 : Nat, j + 1 ≤ b9 ∧ b9 < B ∧ P b9 = y := by
  obtain ⟨b, h1, h2, h3⟩ := h
  refine ⟨b, ?_, h2, h3⟩
  by_cases e : b = j
  · subst e; exact absurd (congrArg Int64.toInt h3) hn
  · omega
set_option maxHeartbeats 1000000 in
set_option maxRecDepth 100000 in
theorem c_X11_bestAtN (l : Launch) (dC : Nat → ClassId) (dI : Nat → Nat → Nat) (G : Nat → ClassId) (sz : Nat) (i d : Nat) (hi10 : i ≤ 10) (hdd : d ≤ 9) : Met l yX11_bestAt (Cond.code yX11_bestAt cX11_bestAt 3 (some .int) :: GT) ({ frames := 0, cells := 0, slots := 0, locals := 0 } : Room) (PcR [.int (nI i), .int (-4), .int (nI d)] dC dI G [] sz) (va_Qi (fun (r : Int32) (u : Unit) => match u with | _ => (r = nI (70 * i + d)) ∧ True) (fun _ _ => True) (fun q : Nat => sz ≤ q)) 0 0 (fun q : Nat => sz ≤ q) := by
  refine Met.ofW (cc := cX11_bestAt) (maxL := 3) (ret := (some .int)) (by decide) rfl ?_
  intro p e s m args below meth c s₁ Bd hml hv
  obtain ⟨rfl, hsz, hP, hK⟩ := hv
  have hx := Bd.exec
  have hb := Bd.bytes
  have hr := Bd.returns
  have hg : ∀ w ∈ GT, w.before ([.int (nI i), .int (-4), .int (nI d)] : List Value).toArray s = true := fun w h => atoms_spec (ws := Cond.code yX11_bestAt cX11_bestAt 3 (some .int) :: GT) Bd.pre w (List.mem_cons_of_mem _ h)
  have hown : s.vm.findClass RX11 = some m.cls := findClass_of_methodNamed Bd.named
  have hlocks := Bd.notSynchronized
  subst hsz
  have hA : ∀ q : Nat, s.heap.size ≤ q → (fun q : Nat => s.heap.size ≤ q) q := fun _ h => h
  have hS : va_S (fun q : Nat => s.heap.size ≤ q) s.heap s.heap [] := va_S.rf
  have hl := lv_entry ([.int (nI i), .int (-4), .int (nI d)]) (n := 3) (Nat.le_of_ble_eq_true rfl)
  rw [lg_entry_eq]
  generalize (lg_sl ([.int (nI i), .int (-4), .int (nI d)]) ++ List.replicate (3 - (lg_sl ([.int (nI i), .int (-4), .int (nI d)])).length) Slot.unset).toArray = ls at hl ⊢
  have hl : lv_has ls 3 [(0, .int (nI i)), (1, .int (-4)), (2, .int (nI d))] := hl
  refine lv_bipush (v := 70) hx hb dX11_bestAt_0 rfl ?_
  refine lv_iload_n hx hb dX11_bestAt_2 rfl (lv_at hl 0 rfl) ?_
  refine lv_imul hx hb dX11_bestAt_3 ?_
  refine lv_cg (y := nI (70 * i)) (by rw [show (70 : Int32) = nI 70 from rfl]; exact pk_mul _ _) ?_
  refine lv_bipush (v := 10) hx hb dX11_bestAt_4 rfl ?_
  refine lv_iload_n hx hb dX11_bestAt_6 rfl (lv_at hl 1 rfl) ?_
  refine lv_bipush (v := (-4)) hx hb dX11_bestAt_7 rfl ?_
  refine lv_icmp_ne (tgt := 16) hx hb dX11_bestAt_9 rfl (fun c1 => ?_) (fun c1 => ?_)
  · skip
    exact absurd c1 (by decide)
  · skip
    refine lv_iconst (v := 0) hx hb dX11_bestAt_12 rfl ?_
    refine lv_goto (tgt := 19) hx hb dX11_bestAt_13 rfl ?_
    refine lv_imul hx hb dX11_bestAt_19 ?_
    refine lv_cg (y := 0) (by decide) ?_
    refine lv_iadd hx hb dX11_bestAt_20 ?_
    refine lv_cg (y := nI (70 * i)) (by rw [show (0 : Int32) = nI 0 from rfl, nI_add, Nat.add_zero]) ?_
    refine lv_iload_n hx hb dX11_bestAt_21 rfl (lv_at hl 2 rfl) ?_
    refine lv_iadd hx hb dX11_bestAt_22 ?_
    refine lv_cg (y := nI ((70 * i) + d)) (by exact nI_add _ _) ?_
    have hpost : (nI ((70 * i) + d) : Int32) = nI (70 * i + d) := by
      have t_c1 := eqI c1
      have : ((-4) : Int32).toInt = -4 := qI_m4
      have tn1143_ : nIT i := fun _ => nI_toInt (by omega)
      have t_n0 : (nI i).toInt = (i : Int) := tn1143_ ()
      have tn1144_ : nIT d := fun _ => nI_toInt (by omega)
      have t_n1 : (nI d).toInt = (d : Int) := tn1144_ ()
      have t_n0 : (nI i).toInt = (i : Int) := tn1143_ ()
      first | rfl | ((repeat' split) <;> first | rfl | omega)
    refine W.widen (k := 0) (n := 0) (Nat.le_of_ble_eq_true rfl) (Nat.le_of_ble_eq_true rfl) ?_
    exact W.iret (v := nI ((70 * i) + d)) hx hb hr (fun t ht hW => ⟨⟨nI ((70 * i) + d), (), rfl, ⟨hpost, trivial⟩, trivial⟩, hS.F ht⟩) hS.2.2 dX11_bestAt_23

set_option maxHeartbeats 1000000 in
set_option maxRecDepth 100000 in
theorem c_X11_bestAtB (l : Launch) (dC : Nat → ClassId) (dI : Nat → Nat → Nat) (G : Nat → ClassId) (sz : Nat) (i a d : Nat) (hi10 : i ≤ 10) (hka : a < 6) (hdd : d ≤ 9) : Met l yX11_bestAt (Cond.code yX11_bestAt cX11_bestAt 3 (some .int) :: GT) ({ frames := 0, cells := 0, slots := 0, locals := 0 } : Room) (PcR [.int (nI i), .int (nI a), .int (nI d)] dC dI G [] sz) (va_Qi (fun (r : Int32) (u : Unit) => match u with | _ => (r = nI (70 * i + 10 * (a + 1) + d)) ∧ True) (fun _ _ => True) (fun q : Nat => sz ≤ q)) 0 0 (fun q : Nat => sz ≤ q) := by
  refine Met.ofW (cc := cX11_bestAt) (maxL := 3) (ret := (some .int)) (by decide) rfl ?_
  intro p e s m args below meth c s₁ Bd hml hv
  obtain ⟨rfl, hsz, hP, hK⟩ := hv
  have hx := Bd.exec
  have hb := Bd.bytes
  have hr := Bd.returns
  have hg : ∀ w ∈ GT, w.before ([.int (nI i), .int (nI a), .int (nI d)] : List Value).toArray s = true := fun w h => atoms_spec (ws := Cond.code yX11_bestAt cX11_bestAt 3 (some .int) :: GT) Bd.pre w (List.mem_cons_of_mem _ h)
  have hown : s.vm.findClass RX11 = some m.cls := findClass_of_methodNamed Bd.named
  have hlocks := Bd.notSynchronized
  subst hsz
  have hA : ∀ q : Nat, s.heap.size ≤ q → (fun q : Nat => s.heap.size ≤ q) q := fun _ h => h
  have hS : va_S (fun q : Nat => s.heap.size ≤ q) s.heap s.heap [] := va_S.rf
  have hl := lv_entry ([.int (nI i), .int (nI a), .int (nI d)]) (n := 3) (Nat.le_of_ble_eq_true rfl)
  rw [lg_entry_eq]
  generalize (lg_sl ([.int (nI i), .int (nI a), .int (nI d)]) ++ List.replicate (3 - (lg_sl ([.int (nI i), .int (nI a), .int (nI d)])).length) Slot.unset).toArray = ls at hl ⊢
  have hl : lv_has ls 3 [(0, .int (nI i)), (1, .int (nI a)), (2, .int (nI d))] := hl
  refine lv_bipush (v := 70) hx hb dX11_bestAt_0 rfl ?_
  refine lv_iload_n hx hb dX11_bestAt_2 rfl (lv_at hl 0 rfl) ?_
  refine lv_imul hx hb dX11_bestAt_3 ?_
  refine lv_cg (y := nI (70 * i)) (by rw [show (70 : Int32) = nI 70 from rfl]; exact pk_mul _ _) ?_
  refine lv_bipush (v := 10) hx hb dX11_bestAt_4 rfl ?_
  refine lv_iload_n hx hb dX11_bestAt_6 rfl (lv_at hl 1 rfl) ?_
  refine lv_bipush (v := (-4)) hx hb dX11_bestAt_7 rfl ?_
  refine lv_icmp_ne (tgt := 16) hx hb dX11_bestAt_9 rfl (fun c1 => ?_) (fun c1 => ?_)
  · skip
    refine lv_iload_n hx hb dX11_bestAt_16 rfl (lv_at hl 1 rfl) ?_
    refine lv_iconst (v := 1) hx hb dX11_bestAt_17 rfl ?_
    refine lv_iadd hx hb dX11_bestAt_18 ?_
    refine lv_cg (y := nI (a + 1)) (by rw [show (1 : Int32) = nI 1 from rfl]; exact nI_add _ _) ?_
    refine lv_imul hx hb dX11_bestAt_19 ?_
    refine lv_cg (y := nI (10 * (a + 1))) (by rw [show (10 : Int32) = nI 10 from rfl]; exact pk_mul _ _) ?_
    refine lv_iadd hx hb dX11_bestAt_20 ?_
    refine lv_cg (y := nI ((70 * i) + (10 * (a + 1)))) (by exact nI_add _ _) ?_
    refine lv_iload_n hx hb dX11_bestAt_21 rfl (lv_at hl 2 rfl) ?_
    refine lv_iadd hx hb dX11_bestAt_22 ?_
    refine lv_cg (y := nI (((70 * i) + (10 * (a + 1))) + d)) (by exact nI_add _ _) ?_
    have hpost : (nI (((70 * i) + (10 * (a + 1))) + d) : Int32) = nI (70 * i + 10 * (a + 1) + d) := by
      have t_c1 := neI c1
      have : ((-4) : Int32).toInt = -4 := qI_m4
      have tn1145_ : nIT i := fun _ => nI_toInt (by omega)
      have t_n0 : (nI i).toInt = (i : Int) := tn1145_ ()
      have tn1146_ : nIT a := fun _ => nI_toInt (by omega)
      have t_n1 : (nI a).toInt = (a : Int) := tn1146_ ()
      have tn1147_ : nIT d := fun _ => nI_toInt (by omega)
      have t_n2 : (nI d).toInt = (d : Int) := tn1147_ ()
      have t_n0 : (nI i).toInt = (i : Int) := tn1145_ ()
      have t_n1 : (nI a).toInt = (a : Int) := tn1146_ ()
      first | rfl | ((repeat' split) <;> first | rfl | omega)
    refine W.widen (k := 0) (n := 0) (Nat.le_of_ble_eq_true rfl) (Nat.le_of_ble_eq_true rfl) ?_
    exact W.iret (v := nI (((70 * i) + (10 * (a + 1))) + d)) hx hb hr (fun t ht hW => ⟨⟨nI (((70 * i) + (10 * (a + 1))) + d), (), rfl, ⟨hpost, trivial⟩, trivial⟩, hS.F ht⟩) hS.2.2 dX11_bestAt_23
  · skip
    have t_c1 := eqI c1
    have : ((-4) : Int32).toInt = -4 := qI_m4
    have tn1148_ : nIT i := fun _ => nI_toInt (by omega)
    have t_n0 : (nI i).toInt = (i : Int) := tn1148_ ()
    have tn1149_ : nIT a := fun _ => nI_toInt (by omega)
    have t_n1 : (nI a).toInt = (a : Int) := tn1149_ ()
    have tn1150_ : nIT d := fun _ => nI_toInt (by omega)
    have t_n2 : (nI d).toInt = (d : Int) := tn1150_ ()
    exfalso; omega

set_option maxHeartbeats 1000000 in
set_option maxRecDepth 100000 in
theorem c_X11_byOneN (l : Launch) (dC : Nat → ClassId) (dI : Nat → Nat → Nat) (G : Nat → ClassId) (sz : Nat) (h0 i d b st N B rp tp T cu lt od th be ln S ma M ah bh ik la lg ce : Nat) (vrs vrb vhs vca vxs vxb vfa vbr vba vsp vhe vtk vva vto : Int32) (fst : Nat → Int32) (fbe : Nat → Int64) (hN : N ≤ 10) (hB : B ≤ 6) (hT : T ≤ 320) (hS0 : S ≤ 8) (hM : M ≤ 6) (hi : i < 10) (hkb : b < 6) (hd1 : 1 ≤ d ∧ d ≤ 9) : Met l yX11_byOne (Cond.code yX11_byOne cX11_byOne 6 (some .long) :: GT) ({ frames := 2, cells := 0, slots := 0, locals := 50 } : Room) (PcR [.ref h0, .int (nI i), .int (-4), .int (nI d), .int (nI b)] dC dI G [(h0, .inr (11, [.ref st, .int (nI N), .int (nI B), .ref rp, .int vrs, .int vrb, .int vhs, .int vca, .int vxs, .int vxb, .ref tp, .int (nI T), .int vfa, .int vbr, .int vba, .int vsp, .int vhe, .int vtk, .int vva, .ref cu, .ref lt, .ref od, .ref th, .ref be, .ref ln, .int (nI S), .ref ma, .int (nI M), .ref ah, .ref bh, .ref ik, .ref la, .ref lg, .ref ce, .int vto])), (st, .inl (G 0, 196, .inl fst)), (be, .inl (G 1, 770, .inr (.inl fbe)))] sz) (va_Ql (fun (r : Int64) (u : Unit) => match u with | _ => (r = b1N fst fbe i d b) ∧ True) (fun _ _ => True) (fun q : Nat => sz ≤ q)) 0 0 (fun q : Nat => sz ≤ q) := by
  have hB_ := hB
  have hM_ := hM
  have hT_ := hT
  have tn1151_ : nIT N := fun _ => nI_toInt (by omega)
  have tn1152_ : nIT B := fun _ => nI_toInt (by omega)
  have tn1153_ : nIT T := fun _ => nI_toInt (by omega)
  have tn1154_ : nIT S := fun _ => nI_toInt (by omega)
  have tn1155_ : nIT M := fun _ => nI_toInt (by omega)
  refine Met.ofW (cc := cX11_byOne) (maxL := 6) (ret := (some .long)) (by decide) rfl ?_
  intro p e s m args below meth c s₁ Bd hml hv
  obtain ⟨rfl, hsz, hP, hK⟩ := hv
  have hx := Bd.exec
  have hb := Bd.bytes
  have hr := Bd.returns
  have hg : ∀ w ∈ GT, w.before ([.ref h0, .int (nI i), .int (-4), .int (nI d), .int (nI b)] : List Value).toArray s = true := fun w h => atoms_spec (ws := Cond.code yX11_byOne cX11_byOne 6 (some .long) :: GT) Bd.pre w (List.mem_cons_of_mem _ h)
  have hown : s.vm.findClass RX11 = some m.cls := findClass_of_methodNamed Bd.named
  have hlocks := Bd.notSynchronized
  subst hsz
  have hA : ∀ q : Nat, s.heap.size ≤ q → (fun q : Nat => s.heap.size ≤ q) q := fun _ h => h
  have hS : va_S (fun q : Nat => s.heap.size ≤ q) s.heap s.heap [] := va_S.rf
  have hl := lv_entry ([.ref h0, .int (nI i), .int (-4), .int (nI d), .int (nI b)]) (n := 6) (Nat.le_of_ble_eq_true rfl)
  rw [lg_entry_eq]
  generalize (lg_sl ([.ref h0, .int (nI i), .int (-4), .int (nI d), .int (nI b)]) ++ List.replicate (6 - (lg_sl ([.ref h0, .int (nI i), .int (-4), .int (nI d), .int (nI b)])).length) Slot.unset).toArray = ls at hl ⊢
  have hl : lv_has ls 6 [(0, .ref h0), (1, .int (nI i)), (2, .int (-4)), (3, .int (nI d)), (4, .int (nI b))] := hl
  refine lv_aload_n hx hb dX11_byOne_0 rfl (lv_at hl 0 rfl) ?_
  refine lv_iload_n hx hb dX11_byOne_1 rfl (lv_at hl 1 rfl) ?_
  refine lv_iload_n hx hb dX11_byOne_2 rfl (lv_at hl 2 rfl) ?_
  refine lv_iload hx hb dX11_byOne_3 (lv_at hl 4 rfl) ?_
  refine lv_iconst (v := 0) hx hb dX11_byOne_5 rfl ?_
  have hPc := hP.sub (ws' := [(h0, .inr (11, [.ref st, .int (nI N), .int (nI B), .ref rp, .int vrs, .int vrb, .int vhs, .int vca, .int vxs, .int vxb, .ref tp, .int (nI T), .int vfa, .int vbr, .int vba, .int vsp, .int vhe, .int vtk, .int vva, .ref cu, .ref lt, .ref od, .ref th, .ref be, .ref ln, .int (nI S), .ref ma, .int (nI M), .ref ah, .ref bh, .ref ik, .ref la, .ref lg, .ref ce, .int vto])), (st, .inl (G 0, 196, .inl fst))]) [0, 1] rfl
  have tn1156_ : nIT i := fun _ => nI_toInt (by omega)
  have tn1157_ : nIT d := fun _ => nI_toInt (by omega)
  have tn1158_ : nIT b := fun _ => nI_toInt (by omega)
  refine va_calli (va_runV (As := [.int (nI i), .int (-4), .int (nI b), .int 0]) (rest := []) ⟨hx, hb, hml, hown, hg⟩ (c_X11_harmOfN l dC dI G _ h0 i b st N B rp tp T cu lt od th be ln S ma M ah bh ik la lg ce 0 vrs vrb vhs vca vxs vxb vfa vbr vba vsp vhe vtk vva vto fst hN hB_ hT_ hS0 hM_ hi hkb) (kwV hg mfX11_harmOf wt_1106 ⟨Nat.le_of_ble_eq_true rfl, Nat.le_of_ble_eq_true rfl⟩) (preVR hK hPc (ci := 11) (r := (RX11, TX11, 35)) rfl rfl) rfl rfl hl.1 rfl (lv_room (Nat.le_of_ble_eq_true rfl)) dX11_byOne_6 ⟨Nat.le_of_ble_eq_true rfl, Nat.le_of_ble_eq_true rfl⟩) hS (fun q h1 h2 => absurd h2 (Nat.not_le.mpr h1)) (fun q h => hA q (Nat.le_trans hS.1 h)) (fun r1 ur1 t H1 locs ht hvm w2 hB hz1 hk1 hS => ?_)
  have hP := keepR hP hk1
  obtain ⟨w2, w2x⟩ := w2
  subst w2
  refine lv_istore (lv' := [(5, .int (rhN fst i b 0)), (0, .ref h0), (1, .int (nI i)), (2, .int (-4)), (3, .int (nI d)), (4, .int (nI b))]) hx hb dX11_byOne_9 hl (by decide) rfl (fun ls hl => ?_)
  refine lv_iload hx hb dX11_byOne_11 (lv_at hl 0 rfl) ?_
  refine lv_i2l (v := (rhN fst i b 0).toInt64) hx hb dX11_byOne_13 rfl ?_
  refine lv_aload_n hx hb dX11_byOne_14 rfl (lv_at hl 1 rfl) ?_
  refine va_get (D := (dC, dI)) (ci := 11) (v := .ref be) (C := RX11) (T := TX11) (N := 35) hx hb hg inG11 hown hK.1 hP 0 rfl rfl 23 (Nat.le_of_ble_eq_true rfl) (hg _ wt_901) (fun _ h9 => h9) rfl dX11_byOne_15 ?_
  refine lv_iload_n hx hb dX11_byOne_18 rfl (lv_at hl 2 rfl) ?_
  refine lv_iconst (v := 1) hx hb dX11_byOne_19 rfl ?_
  refine lv_iadd hx hb dX11_byOne_20 ?_
  refine lv_cg (y := nI (i + 1)) (by rw [show (1 : Int32) = nI 1 from rfl]; exact nI_add _ _) ?_
  refine lv_iload hx hb dX11_byOne_21 (lv_at hl 5 rfl) ?_
  refine lv_iload_n hx hb dX11_byOne_23 rfl (lv_at hl 4 rfl) ?_
  refine lv_iconst (v := 1) hx hb dX11_byOne_24 rfl ?_
  refine lv_isub hx hb dX11_byOne_25 ?_
  refine lv_cg (y := nI (d - 1)) (by rw [show (1 : Int32) = nI 1 from rfl]; exact pk_sub (by have tnb_ := nib8 tn1156_ tn1157_ tn1158_ tn1151_ tn1152_ tn1153_ tn1154_ tn1155_; omega)) ?_
  have hPc := hP.sub (ws' := []) [] rfl
  refine va_calli (va_runS (As := [.int (nI (i + 1)), .int (nI b), .int (nI (d - 1))]) (rest := [.ref be, .long ((rhN fst i b 0).toInt64)]) ⟨hx, hb, hml, hown, hg⟩ (c_X11_bestAtB l dC dI G _ (i + 1) b (d - 1) (by first | omega | (have tnb_ := nib8 tn1156_ tn1157_ tn1158_ tn1151_ tn1152_ tn1153_ tn1154_ tn1155_; omega)) hkb (by first | omega | (have tnb_ := nib8 tn1156_ tn1157_ tn1158_ tn1151_ tn1152_ tn1153_ tn1154_ tn1155_; omega))) (kwS hg mfX11_bestAt wt_1159 ⟨Nat.le_of_ble_eq_true rfl, Nat.le_of_ble_eq_true rfl⟩) (preSR hK hPc) rfl rfl hl.1 rfl (lv_room (Nat.le_of_ble_eq_true rfl)) dX11_byOne_26 ⟨Nat.le_of_ble_eq_true rfl, Nat.le_of_ble_eq_true rfl⟩) hS (fun q h1 h2 => absurd h2 (Nat.not_le.mpr h1)) (fun q h => hA q (Nat.le_trans hS.1 h)) (fun r3 ur3 t H1 locs ht hvm w4 hB hz1 hk1 hS => ?_)
  have hP := keepR hP hk1
  obtain ⟨w4, w4x⟩ := w4
  subst w4
  refine va_lald hx hb hK.1 hP 2 1 rfl rfl (vp_in_nI (by first | omega | (have tnb_ := nib8 tn1156_ tn1157_ tn1158_ tn1151_ tn1152_ tn1153_ tn1154_ tn1155_; omega)) (by decide)) dX11_byOne_29 ?_
  refine lv_cgl (y := fbe (70 * (i + 1) + 10 * (b + 1) + (d - 1))) (by rw [nI_clamp (by omega)]) ?_
  refine lv_lmul hx hb dX11_byOne_30 ?_
  refine lv_bipush (v := 20) hx hb dX11_byOne_31 rfl ?_
  refine lv_iload hx hb dX11_byOne_33 (lv_at hl 0 rfl) ?_
  refine lv_isub hx hb dX11_byOne_35 ?_
  refine lv_i2l (v := (20 - (rhN fst i b 0)).toInt64) hx hb dX11_byOne_36 rfl ?_
  refine lv_aload_n hx hb dX11_byOne_37 rfl (lv_at hl 1 rfl) ?_
  refine va_get (D := (dC, dI)) (ci := 11) (v := .ref be) (C := RX11) (T := TX11) (N := 35) hx hb hg inG11 hown hK.1 hP 0 rfl rfl 23 (Nat.le_of_ble_eq_true rfl) (hg _ wt_901) (fun _ h9 => h9) rfl dX11_byOne_38 ?_
  refine lv_iload_n hx hb dX11_byOne_41 rfl (lv_at hl 2 rfl) ?_
  refine lv_iconst (v := 1) hx hb dX11_byOne_42 rfl ?_
  refine lv_iadd hx hb dX11_byOne_43 ?_
  refine lv_cg (y := nI (i + 1)) (by rw [show (1 : Int32) = nI 1 from rfl]; exact nI_add _ _) ?_
  refine lv_iload hx hb dX11_byOne_44 (lv_at hl 5 rfl) ?_
  refine lv_iload_n hx hb dX11_byOne_46 rfl (lv_at hl 4 rfl) ?_
  refine lv_iconst (v := 1) hx hb dX11_byOne_47 rfl ?_
  have hPc := hP.sub (ws' := []) [] rfl
  refine va_calli (va_runS (As := [.int (nI d), .int 1]) (rest := [.int (nI b), .int (nI (i + 1)), .ref be, .long ((20 - (rhN fst i b 0)).toInt64), .long (((rhN fst i b 0).toInt64) * (fbe (70 * (i + 1) + 10 * (b + 1) + (d - 1))))]) ⟨hx, hb, hml, hown, hg⟩ (c_X11_deeper l dC dI G _ d 1 (by first | omega | (have tnb_ := nib8 tn1156_ tn1157_ tn1158_ tn1151_ tn1152_ tn1153_ tn1154_ tn1155_; have : (1 : Int32).toInt = 1 := qI_1; omega)) (by first | omega | (have tnb_ := nib8 tn1156_ tn1157_ tn1158_ tn1151_ tn1152_ tn1153_ tn1154_ tn1155_; have : (1 : Int32).toInt = 1 := qI_1; omega))) (kwS hg mfX11_deeper wt_1128 ⟨Nat.le_of_ble_eq_true rfl, Nat.le_of_ble_eq_true rfl⟩) (preSR hK hPc) rfl rfl hl.1 rfl (lv_room (Nat.le_of_ble_eq_true rfl)) dX11_byOne_48 ⟨Nat.le_of_ble_eq_true rfl, Nat.le_of_ble_eq_true rfl⟩) hS (fun q h1 h2 => absurd h2 (Nat.not_le.mpr h1)) (fun q h => hA q (Nat.le_trans hS.1 h)) (fun r5 ur5 t H1 locs ht hvm w6 hB hz1 hk1 hS => ?_)
  have hP := keepR hP hk1
  obtain ⟨w6, w6x⟩ := w6
  have hs7 : d ≤ (min 9 (d + 1)) ∧ (min 9 (d + 1)) ≤ 9 := (by omega)
  subst w6
  have hPc := hP.sub (ws' := []) [] rfl
  refine va_calli (va_runS (As := [.int (nI (i + 1)), .int (nI b), .int (nI (min 9 (d + 1)))]) (rest := [.ref be, .long ((20 - (rhN fst i b 0)).toInt64), .long (((rhN fst i b 0).toInt64) * (fbe (70 * (i + 1) + 10 * (b + 1) + (d - 1))))]) ⟨hx, hb, hml, hown, hg⟩ (c_X11_bestAtB l dC dI G _ (i + 1) b (min 9 (d + 1)) (by first | omega | (have t_hs7 := hs7; have tnb_ := nib8 tn1156_ tn1157_ tn1158_ tn1151_ tn1152_ tn1153_ tn1154_ tn1155_; omega)) hkb (by first | omega | (have t_hs7 := hs7; have tnb_ := nib8 tn1156_ tn1157_ tn1158_ tn1151_ tn1152_ tn1153_ tn1154_ tn1155_; omega))) (kwS hg mfX11_bestAt wt_1159 ⟨Nat.le_of_ble_eq_true rfl, Nat.le_of_ble_eq_true rfl⟩) (preSR hK hPc) rfl rfl hl.1 rfl (lv_room (Nat.le_of_ble_eq_true rfl)) dX11_byOne_51 ⟨Nat.le_of_ble_eq_true rfl, Nat.le_of_ble_eq_true rfl⟩) hS (fun q h1 h2 => absurd h2 (Nat.not_le.mpr h1)) (fun q h => hA q (Nat.le_trans hS.1 h)) (fun r8 ur8 t H1 locs ht hvm w9 hB hz1 hk1 hS => ?_)
  have hP := keepR hP hk1
  obtain ⟨w9, w9x⟩ := w9
  subst w9
  refine va_lald hx hb hK.1 hP 2 1 rfl rfl (vp_in_nI (by first | omega | (have t_hs7 := hs7; have tnb_ := nib8 tn1156_ tn1157_ tn1158_ tn1151_ tn1152_ tn1153_ tn1154_ tn1155_; omega)) (by decide)) dX11_byOne_54 ?_
  refine lv_cgl (y := fbe (70 * (i + 1) + 10 * (b + 1) + (min 9 (d + 1)))) (by rw [nI_clamp (by omega)]) ?_
  refine lv_lmul hx hb dX11_byOne_55 ?_
  refine lv_ladd hx hb dX11_byOne_56 ?_
  have hpost : ((((rhN fst i b 0).toInt64) * (fbe (70 * (i + 1) + 10 * (b + 1) + (d - 1)))) + (((20 - (rhN fst i b 0)).toInt64) * (fbe (70 * (i + 1) + 10 * (b + 1) + (min 9 (d + 1))))) : Int64) = b1N fst fbe i d b := by
    rfl
  refine W.widen (k := 0) (n := 0) (Nat.le_of_ble_eq_true rfl) (Nat.le_of_ble_eq_true rfl) ?_
  exact W.lret (v := (((rhN fst i b 0).toInt64) * (fbe (70 * (i + 1) + 10 * (b + 1) + (d - 1)))) + (((20 - (rhN fst i b 0)).toInt64) * (fbe (70 * (i + 1) + 10 * (b + 1) + (min 9 (d + 1)))))) hx hb hr (fun t ht hW => ⟨⟨(((rhN fst i b 0).toInt64) * (fbe (70 * (i + 1) + 10 * (b + 1) + (d - 1)))) + (((20 - (rhN fst i b 0)).toInt64) * (fbe (70 * (i + 1) + 10 * (b + 1) + (min 9 (d + 1))))), (), rfl, ⟨hpost, trivial⟩, trivial⟩, hS.F ht⟩) hS.2.2 dX11_byOne_57

set_option maxHeartbeats 1000000 in
set_option maxRecDepth 100000 in
theorem c_X11_byOneB (l : Launch) (dC : Nat → ClassId) (dI : Nat → Nat → Nat) (G : Nat → ClassId) (sz : Nat) (h0 i a d b st N B rp tp T cu lt od th be ln S ma M ah bh ik la lg ce : Nat) (vrs vrb vhs vca vxs vxb vfa vbr vba vsp vhe vtk vva vto : Int32) (fst : Nat → Int32) (fbe : Nat → Int64) (hN : N ≤ 10) (hB : B ≤ 6) (hT : T ≤ 320) (hS0 : S ≤ 8) (hM : M ≤ 6) (hi : i < 10) (hka : a < 6) (hkb : b < 6) (hd1 : 1 ≤ d ∧ d ≤ 9) : Met l yX11_byOne (Cond.code yX11_byOne cX11_byOne 6 (some .long) :: GT) ({ frames := 2, cells := 0, slots := 0, locals := 50 } : Room) (PcR [.ref h0, .int (nI i), .int (nI a), .int (nI d), .int (nI b)] dC dI G [(h0, .inr (11, [.ref st, .int (nI N), .int (nI B), .ref rp, .int vrs, .int vrb, .int vhs, .int vca, .int vxs, .int vxb, .ref tp, .int (nI T), .int vfa, .int vbr, .int vba, .int vsp, .int vhe, .int vtk, .int vva, .ref cu, .ref lt, .ref od, .ref th, .ref be, .ref ln, .int (nI S), .ref ma, .int (nI M), .ref ah, .ref bh, .ref ik, .ref la, .ref lg, .ref ce, .int vto])), (st, .inl (G 0, 196, .inl fst)), (be, .inl (G 1, 770, .inr (.inl fbe)))] sz) (va_Ql (fun (r : Int64) (u : Unit) => match u with | _ => (r = b1B fst fbe i a d b) ∧ True) (fun _ _ => True) (fun q : Nat => sz ≤ q)) 0 0 (fun q : Nat => sz ≤ q) := by
  have hB_ := hB
  have hM_ := hM
  have hT_ := hT
  have tn1159_ : nIT N := fun _ => nI_toInt (by omega)
  have tn1160_ : nIT B := fun _ => nI_toInt (by omega)
  have tn1161_ : nIT T := fun _ => nI_toInt (by omega)
  have tn1162_ : nIT S := fun _ => nI_toInt (by omega)
  have tn1163_ : nIT M := fun _ => nI_toInt (by omega)
  refine Met.ofW (cc := cX11_byOne) (maxL := 6) (ret := (some .long)) (by decide) rfl ?_
  intro p e s m args below meth c s₁ Bd hml hv
  obtain ⟨rfl, hsz, hP, hK⟩ := hv
  have hx := Bd.exec
  have hb := Bd.bytes
  have hr := Bd.returns
  have hg : ∀ w ∈ GT, w.before ([.ref h0, .int (nI i), .int (nI a), .int (nI d), .int (nI b)] : List Value).toArray s = true := fun w h => atoms_spec (ws := Cond.code yX11_byOne cX11_byOne 6 (some .long) :: GT) Bd.pre w (List.mem_cons_of_mem _ h)
  have hown : s.vm.findClass RX11 = some m.cls := findClass_of_methodNamed Bd.named
  have hlocks := Bd.notSynchronized
  subst hsz
  have hA : ∀ q : Nat, s.heap.size ≤ q → (fun q : Nat => s.heap.size ≤ q) q := fun _ h => h
  have hS : va_S (fun q : Nat => s.heap.size ≤ q) s.heap s.heap [] := va_S.rf
  have hl := lv_entry ([.ref h0, .int (nI i), .int (nI a), .int (nI d), .int (nI b)]) (n := 6) (Nat.le_of_ble_eq_true rfl)
  rw [lg_entry_eq]
  generalize (lg_sl ([.ref h0, .int (nI i), .int (nI a), .int (nI d), .int (nI b)]) ++ List.replicate (6 - (lg_sl ([.ref h0, .int (nI i), .int (nI a), .int (nI d), .int (nI b)])).length) Slot.unset).toArray = ls at hl ⊢
  have hl : lv_has ls 6 [(0, .ref h0), (1, .int (nI i)), (2, .int (nI a)), (3, .int (nI d)), (4, .int (nI b))] := hl
  refine lv_aload_n hx hb dX11_byOne_0 rfl (lv_at hl 0 rfl) ?_
  refine lv_iload_n hx hb dX11_byOne_1 rfl (lv_at hl 1 rfl) ?_
  refine lv_iload_n hx hb dX11_byOne_2 rfl (lv_at hl 2 rfl) ?_
  refine lv_iload hx hb dX11_byOne_3 (lv_at hl 4 rfl) ?_
  refine lv_iconst (v := 0) hx hb dX11_byOne_5 rfl ?_
  have hPc := hP.sub (ws' := [(h0, .inr (11, [.ref st, .int (nI N), .int (nI B), .ref rp, .int vrs, .int vrb, .int vhs, .int vca, .int vxs, .int vxb, .ref tp, .int (nI T), .int vfa, .int vbr, .int vba, .int vsp, .int vhe, .int vtk, .int vva, .ref cu, .ref lt, .ref od, .ref th, .ref be, .ref ln, .int (nI S), .ref ma, .int (nI M), .ref ah, .ref bh, .ref ik, .ref la, .ref lg, .ref ce, .int vto])), (st, .inl (G 0, 196, .inl fst))]) [0, 1] rfl
  have tn1164_ : nIT i := fun _ => nI_toInt (by omega)
  have tn1165_ : nIT a := fun _ => nI_toInt (by omega)
  have tn1166_ : nIT d := fun _ => nI_toInt (by omega)
  have tn1167_ : nIT b := fun _ => nI_toInt (by omega)
  refine va_calli (va_runV (As := [.int (nI i), .int (nI a), .int (nI b), .int 0]) (rest := []) ⟨hx, hb, hml, hown, hg⟩ (c_X11_harmOfB l dC dI G _ h0 i a b st N B rp tp T cu lt od th be ln S ma M ah bh ik la lg ce 0 vrs vrb vhs vca vxs vxb vfa vbr vba vsp vhe vtk vva vto fst hN hB_ hT_ hS0 hM_ hi hkb hka) (kwV hg mfX11_harmOf wt_1106 ⟨Nat.le_of_ble_eq_true rfl, Nat.le_of_ble_eq_true rfl⟩) (preVR hK hPc (ci := 11) (r := (RX11, TX11, 35)) rfl rfl) rfl rfl hl.1 rfl (lv_room (Nat.le_of_ble_eq_true rfl)) dX11_byOne_6 ⟨Nat.le_of_ble_eq_true rfl, Nat.le_of_ble_eq_true rfl⟩) hS (fun q h1 h2 => absurd h2 (Nat.not_le.mpr h1)) (fun q h => hA q (Nat.le_trans hS.1 h)) (fun r1 ur1 t H1 locs ht hvm w2 hB hz1 hk1 hS => ?_)
  have hP := keepR hP hk1
  obtain ⟨w2, w2x⟩ := w2
  subst w2
  refine lv_istore (lv' := [(5, .int (rhB fst i a b 0)), (0, .ref h0), (1, .int (nI i)), (2, .int (nI a)), (3, .int (nI d)), (4, .int (nI b))]) hx hb dX11_byOne_9 hl (by decide) rfl (fun ls hl => ?_)
  refine lv_iload hx hb dX11_byOne_11 (lv_at hl 0 rfl) ?_
  refine lv_i2l (v := (rhB fst i a b 0).toInt64) hx hb dX11_byOne_13 rfl ?_
  refine lv_aload_n hx hb dX11_byOne_14 rfl (lv_at hl 1 rfl) ?_
  refine va_get (D := (dC, dI)) (ci := 11) (v := .ref be) (C := RX11) (T := TX11) (N := 35) hx hb hg inG11 hown hK.1 hP 0 rfl rfl 23 (Nat.le_of_ble_eq_true rfl) (hg _ wt_901) (fun _ h9 => h9) rfl dX11_byOne_15 ?_
  refine lv_iload_n hx hb dX11_byOne_18 rfl (lv_at hl 2 rfl) ?_
  refine lv_iconst (v := 1) hx hb dX11_byOne_19 rfl ?_
  refine lv_iadd hx hb dX11_byOne_20 ?_
  refine lv_cg (y := nI (i + 1)) (by rw [show (1 : Int32) = nI 1 from rfl]; exact nI_add _ _) ?_
  refine lv_iload hx hb dX11_byOne_21 (lv_at hl 5 rfl) ?_
  refine lv_iload_n hx hb dX11_byOne_23 rfl (lv_at hl 4 rfl) ?_
  refine lv_iconst (v := 1) hx hb dX11_byOne_24 rfl ?_
  refine lv_isub hx hb dX11_byOne_25 ?_
  refine lv_cg (y := nI (d - 1)) (by rw [show (1 : Int32) = nI 1 from rfl]; exact pk_sub (by have tnb_ := nib9 tn1164_ tn1165_ tn1166_ tn1167_ tn1159_ tn1160_ tn1161_ tn1162_ tn1163_; omega)) ?_
  have hPc := hP.sub (ws' := []) [] rfl
  refine va_calli (va_runS (As := [.int (nI (i + 1)), .int (nI b), .int (nI (d - 1))]) (rest := [.ref be, .long ((rhB fst i a b 0).toInt64)]) ⟨hx, hb, hml, hown, hg⟩ (c_X11_bestAtB l dC dI G _ (i + 1) b (d - 1) (by first | omega | (have tnb_ := nib9 tn1164_ tn1165_ tn1166_ tn1167_ tn1159_ tn1160_ tn1161_ tn1162_ tn1163_; omega)) hkb (by first | omega | (have tnb_ := nib9 tn1164_ tn1165_ tn1166_ tn1167_ tn1159_ tn1160_ tn1161_ tn1162_ tn1163_; omega))) (kwS hg mfX11_bestAt wt_1159 ⟨Nat.le_of_ble_eq_true rfl, Nat.le_of_ble_eq_true rfl⟩) (preSR hK hPc) rfl rfl hl.1 rfl (lv_room (Nat.le_of_ble_eq_true rfl)) dX11_byOne_26 ⟨Nat.le_of_ble_eq_true rfl, Nat.le_of_ble_eq_true rfl⟩) hS (fun q h1 h2 => absurd h2 (Nat.not_le.mpr h1)) (fun q h => hA q (Nat.le_trans hS.1 h)) (fun r3 ur3 t H1 locs ht hvm w4 hB hz1 hk1 hS => ?_)
  have hP := keepR hP hk1
  obtain ⟨w4, w4x⟩ := w4
  subst w4
  refine va_lald hx hb hK.1 hP 2 1 rfl rfl (vp_in_nI (by first | omega | (have tnb_ := nib9 tn1164_ tn1165_ tn1166_ tn1167_ tn1159_ tn1160_ tn1161_ tn1162_ tn1163_; omega)) (by decide)) dX11_byOne_29 ?_
  refine lv_cgl (y := fbe (70 * (i + 1) + 10 * (b + 1) + (d - 1))) (by rw [nI_clamp (by omega)]) ?_
  refine lv_lmul hx hb dX11_byOne_30 ?_
  refine lv_bipush (v := 20) hx hb dX11_byOne_31 rfl ?_
  refine lv_iload hx hb dX11_byOne_33 (lv_at hl 0 rfl) ?_
  refine lv_isub hx hb dX11_byOne_35 ?_
  refine lv_i2l (v := (20 - (rhB fst i a b 0)).toInt64) hx hb dX11_byOne_36 rfl ?_
  refine lv_aload_n hx hb dX11_byOne_37 rfl (lv_at hl 1 rfl) ?_
  refine va_get (D := (dC, dI)) (ci := 11) (v := .ref be) (C := RX11) (T := TX11) (N := 35) hx hb hg inG11 hown hK.1 hP 0 rfl rfl 23 (Nat.le_of_ble_eq_true rfl) (hg _ wt_901) (fun _ h9 => h9) rfl dX11_byOne_38 ?_
  refine lv_iload_n hx hb dX11_byOne_41 rfl (lv_at hl 2 rfl) ?_
  refine lv_iconst (v := 1) hx hb dX11_byOne_42 rfl ?_
  refine lv_iadd hx hb dX11_byOne_43 ?_
  refine lv_cg (y := nI (i + 1)) (by rw [show (1 : Int32) = nI 1 from rfl]; exact nI_add _ _) ?_
  refine lv_iload hx hb dX11_byOne_44 (lv_at hl 5 rfl) ?_
  refine lv_iload_n hx hb dX11_byOne_46 rfl (lv_at hl 4 rfl) ?_
  refine lv_iconst (v := 1) hx hb dX11_byOne_47 rfl ?_
  have hPc := hP.sub (ws' := []) [] rfl
  refine va_calli (va_runS (As := [.int (nI d), .int 1]) (rest := [.int (nI b), .int (nI (i + 1)), .ref be, .long ((20 - (rhB fst i a b 0)).toInt64), .long (((rhB fst i a b 0).toInt64) * (fbe (70 * (i + 1) + 10 * (b + 1) + (d - 1))))]) ⟨hx, hb, hml, hown, hg⟩ (c_X11_deeper l dC dI G _ d 1 (by first | omega | (have tnb_ := nib9 tn1164_ tn1165_ tn1166_ tn1167_ tn1159_ tn1160_ tn1161_ tn1162_ tn1163_; have : (1 : Int32).toInt = 1 := qI_1; omega)) (by first | omega | (have tnb_ := nib9 tn1164_ tn1165_ tn1166_ tn1167_ tn1159_ tn1160_ tn1161_ tn1162_ tn1163_; have : (1 : Int32).toInt = 1 := qI_1; omega))) (kwS hg mfX11_deeper wt_1128 ⟨Nat.le_of_ble_eq_true rfl, Nat.le_of_ble_eq_true rfl⟩) (preSR hK hPc) rfl rfl hl.1 rfl (lv_room (Nat.le_of_ble_eq_true rfl)) dX11_byOne_48 ⟨Nat.le_of_ble_eq_true rfl, Nat.le_of_ble_eq_true rfl⟩) hS (fun q h1 h2 => absurd h2 (Nat.not_le.mpr h1)) (fun q h => hA q (Nat.le_trans hS.1 h)) (fun r5 ur5 t H1 locs ht hvm w6 hB hz1 hk1 hS => ?_)
  have hP := keepR hP hk1
  obtain ⟨w6, w6x⟩ := w6
  have hs7 : d ≤ (min 9 (d + 1)) ∧ (min 9 (d + 1)) ≤ 9 := (by omega)
  subst w6
  have hPc := hP.sub (ws' := []) [] rfl
  refine va_calli (va_runS (As := [.int (nI (i + 1)), .int (nI b), .int (nI (min 9 (d + 1)))]) (rest := [.ref be, .long ((20 - (rhB fst i a b 0)).toInt64), .long (((rhB fst i a b 0).toInt64) * (fbe (70 * (i + 1) + 10 * (b + 1) + (d - 1))))]) ⟨hx, hb, hml, hown, hg⟩ (c_X11_bestAtB l dC dI G _ (i + 1) b (min 9 (d + 1)) (by first | omega | (have t_hs7 := hs7; have tnb_ := nib9 tn1164_ tn1165_ tn1166_ tn1167_ tn1159_ tn1160_ tn1161_ tn1162_ tn1163_; omega)) hkb (by first | omega | (have t_hs7 := hs7; have tnb_ := nib9 tn1164_ tn1165_ tn1166_ tn1167_ tn1159_ tn1160_ tn1161_ tn1162_ tn1163_; omega))) (kwS hg mfX11_bestAt wt_1159 ⟨Nat.le_of_ble_eq_true rfl, Nat.le_of_ble_eq_true rfl⟩) (preSR hK hPc) rfl rfl hl.1 rfl (lv_room (Nat.le_of_ble_eq_true rfl)) dX11_byOne_51 ⟨Nat.le_of_ble_eq_true rfl, Nat.le_of_ble_eq_true rfl⟩) hS (fun q h1 h2 => absurd h2 (Nat.not_le.mpr h1)) (fun q h => hA q (Nat.le_trans hS.1 h)) (fun r8 ur8 t H1 locs ht hvm w9 hB hz1 hk1 hS => ?_)
  have hP := keepR hP hk1
  obtain ⟨w9, w9x⟩ := w9
  subst w9
  refine va_lald hx hb hK.1 hP 2 1 rfl rfl (vp_in_nI (by first | omega | (have t_hs7 := hs7; have tnb_ := nib9 tn1164_ tn1165_ tn1166_ tn1167_ tn1159_ tn1160_ tn1161_ tn1162_ tn1163_; omega)) (by decide)) dX11_byOne_54 ?_
  refine lv_cgl (y := fbe (70 * (i + 1) + 10 * (b + 1) + (min 9 (d + 1)))) (by rw [nI_clamp (by omega)]) ?_
  refine lv_lmul hx hb dX11_byOne_55 ?_
  refine lv_ladd hx hb dX11_byOne_56 ?_
  have hpost : ((((rhB fst i a b 0).toInt64) * (fbe (70 * (i + 1) + 10 * (b + 1) + (d - 1)))) + (((20 - (rhB fst i a b 0)).toInt64) * (fbe (70 * (i + 1) + 10 * (b + 1) + (min 9 (d + 1))))) : Int64) = b1B fst fbe i a d b := by
    rfl
  refine W.widen (k := 0) (n := 0) (Nat.le_of_ble_eq_true rfl) (Nat.le_of_ble_eq_true rfl) ?_
  exact W.lret (v := (((rhB fst i a b 0).toInt64) * (fbe (70 * (i + 1) + 10 * (b + 1) + (d - 1)))) + (((20 - (rhB fst i a b 0)).toInt64) * (fbe (70 * (i + 1) + 10 * (b + 1) + (min 9 (d + 1)))))) hx hb hr (fun t ht hW => ⟨⟨(((rhB fst i a b 0).toInt64) * (fbe (70 * (i + 1) + 10 * (b + 1) + (d - 1)))) + (((20 - (rhB fst i a b 0)).toInt64) * (fbe (70 * (i + 1) + 10 * (b + 1) + (min 9 (d + 1))))), (), rfl, ⟨hpost, trivial⟩, trivial⟩, hS.F ht⟩) hS.2.2 dX11_byOne_57

set_option maxHeartbeats 1000000 in
set_option maxRecDepth 100000 in
theorem c_X11_layBestN (l : Launch) (dC : Nat → ClassId) (dI : Nat → Nat → Nat) (G : Nat → ClassId) (sz : Nat) (h0 st N B rp tp T cu lt od th be ln S ma M ah bh ik la lg ce : Nat) (vrs vrb vhs vca vxs vxb vfa vbr vba vsp vhe vtk vva vto : Int32) (fst : Nat → Int32) (fbe : Nat → Int64) (hN : N ≤ 10) (hB : B ≤ 6) (hT : T ≤ 320) (hS0 : S ≤ 8) (hM : M ≤ 6) (hst : OKS fst) (hNB : N = 0 ∨ 0 < B) : Met l yX11_layBest (Cond.code yX11_layBest cX11_layBest 8 none :: GT) ({ frames := 3, cells := 0, slots := 0, locals := 75 } : Room) (PcW [.ref h0, .int (-4)] dC dI G [(h0, .inr (11, [.ref st, .int (nI N), .int (nI B), .ref rp, .int vrs, .int vrb, .int vhs, .int vca, .int vxs, .int vxb, .ref tp, .int (nI T), .int vfa, .int vbr, .int vba, .int vsp, .int vhe, .int vtk, .int vva, .ref cu, .ref lt, .ref od, .ref th, .ref be, .ref ln, .int (nI S), .ref ma, .int (nI M), .ref ah, .ref bh, .ref ik, .ref la, .ref lg, .ref ce, .int vto])), (st, .inl (G 0, 196, .inl fst)), (be, .inl (G 1, 770, .inr (.inl fbe)))] sz) (va_Qv (fun (u : (Nat → Int64)) => match u with | obe => RI fst N B 0 obe) (fun (u : (Nat → Int64)) (t : State) => match u with | obe => va_P (dC, dI) vwCl [(h0, .inr (11, [.ref st, .int (nI N), .int (nI B), .ref rp, .int vrs, .int vrb, .int vhs, .int vca, .int vxs, .int vxb, .ref tp, .int (nI T), .int vfa, .int vbr, .int vba, .int vsp, .int vhe, .int vtk, .int vva, .ref cu, .ref lt, .ref od, .ref th, .ref be, .ref ln, .int (nI S), .ref ma, .int (nI M), .ref ah, .ref bh, .ref ik, .ref la, .ref lg, .ref ce, .int vto])), (st, .inl (G 0, 196, .inl fst)), (be, .inl (G 1, 770, .inr (.inl obe)))] t.heap ∧ va_D (va_A [(h0, .inr (11, [.ref st, .int (nI N), .int (nI B), .ref rp, .int vrs, .int vrb, .int vhs, .int vca, .int vxs, .int vxb, .ref tp, .int (nI T), .int vfa, .int vbr, .int vba, .int vsp, .int vhe, .int vtk, .int vva, .ref cu, .ref lt, .ref od, .ref th, .ref be, .ref ln, .int (nI S), .ref ma, .int (nI M), .ref ah, .ref bh, .ref ik, .ref la, .ref lg, .ref ce, .int vto])), (st, .inl (G 0, 196, .inl fst)), (be, .inl (G 1, 770, .inr (.inl fbe)))] sz) [(h0, .inr (11, [.ref st, .int (nI N), .int (nI B), .ref rp, .int vrs, .int vrb, .int vhs, .int vca, .int vxs, .int vxb, .ref tp, .int (nI T), .int vfa, .int vbr, .int vba, .int vsp, .int vhe, .int vtk, .int vva, .ref cu, .ref lt, .ref od, .ref th, .ref be, .ref ln, .int (nI S), .ref ma, .int (nI M), .ref ah, .ref bh, .ref ik, .ref la, .ref lg, .ref ce, .int vto])), (st, .inl (G 0, 196, .inl fst)), (be, .inl (G 1, 770, .inr (.inl obe)))]) (va_A [(h0, .inr (11, [.ref st, .int (nI N), .int (nI B), .ref rp, .int vrs, .int vrb, .int vhs, .int vca, .int vxs, .int vxb, .ref tp, .int (nI T), .int vfa, .int vbr, .int vba, .int vsp, .int vhe, .int vtk, .int vva, .ref cu, .ref lt, .ref od, .ref th, .ref be, .ref ln, .int (nI S), .ref ma, .int (nI M), .ref ah, .ref bh, .ref ik, .ref la, .ref lg, .ref ce, .int vto])), (st, .inl (G 0, 196, .inl fst)), (be, .inl (G 1, 770, .inr (.inl fbe)))] sz)) 0 0 (va_A [(h0, .inr (11, [.ref st, .int (nI N), .int (nI B), .ref rp, .int vrs, .int vrb, .int vhs, .int vca, .int vxs, .int vxb, .ref tp, .int (nI T), .int vfa, .int vbr, .int vba, .int vsp, .int vhe, .int vtk, .int vva, .ref cu, .ref lt, .ref od, .ref th, .ref be, .ref ln, .int (nI S), .ref ma, .int (nI M), .ref ah, .ref bh, .ref ik, .ref la, .ref lg, .ref ce, .int vto])), (st, .inl (G 0, 196, .inl fst)), (be, .inl (G 1, 770, .inr (.inl fbe)))] sz) := by
  have hB_ := hB
  have hM_ := hM
  have hT_ := hT
  have tn1168_ : nIT N := fun _ => nI_toInt (by omega)
  have tn1169_ : nIT B := fun _ => nI_toInt (by omega)
  have tn1170_ : nIT T := fun _ => nI_toInt (by omega)
  have tn1171_ : nIT S := fun _ => nI_toInt (by omega)
  have tn1172_ : nIT M := fun _ => nI_toInt (by omega)
  refine Met.ofW (cc := cX11_layBest) (maxL := 8) (ret := none) (by decide) rfl ?_
  intro p e s m args below meth c s₁ Bd hml hv
  obtain ⟨rfl, hsz, hP, hK, hD0⟩ := hv
  have hx := Bd.exec
  have hb := Bd.bytes
  have hr := Bd.returns
  have hg : ∀ w ∈ GT, w.before ([.ref h0, .int (-4)] : List Value).toArray s = true := fun w h => atoms_spec (ws := Cond.code yX11_layBest cX11_layBest 8 none :: GT) Bd.pre w (List.mem_cons_of_mem _ h)
  have hown : s.vm.findClass RX11 = some m.cls := findClass_of_methodNamed Bd.named
  have hlocks := Bd.notSynchronized
  subst hsz
  have hD := hD0.self (sz := s.heap.size)
  generalize hAe : va_A [(h0, .inr (11, [.ref st, .int (nI N), .int (nI B), .ref rp, .int vrs, .int vrb, .int vhs, .int vca, .int vxs, .int vxb, .ref tp, .int (nI T), .int vfa, .int vbr, .int vba, .int vsp, .int vhe, .int vtk, .int vva, .ref cu, .ref lt, .ref od, .ref th, .ref be, .ref ln, .int (nI S), .ref ma, .int (nI M), .ref ah, .ref bh, .ref ik, .ref la, .ref lg, .ref ce, .int vto])), (st, .inl (G 0, 196, .inl fst)), (be, .inl (G 1, 770, .inr (.inl fbe)))] s.heap.size = A at hD ⊢
  have hA : ∀ q : Nat, s.heap.size ≤ q → A q := fun q h => by rw [← hAe]; exact Or.inr h
  have hS : va_S A s.heap s.heap [] := va_S.rf
  have hl := lv_entry ([.ref h0, .int (-4)]) (n := 8) (Nat.le_of_ble_eq_true rfl)
  rw [lg_entry_eq]
  generalize (lg_sl ([.ref h0, .int (-4)]) ++ List.replicate (8 - (lg_sl ([.ref h0, .int (-4)])).length) Slot.unset).toArray = ls at hl ⊢
  have hl : lv_has ls 8 [(0, .ref h0), (1, .int (-4))] := hl
  refine lv_iconst (v := 0) hx hb dX11_layBest_0 rfl ?_
  refine lv_istore_n (lv' := [(2, .int 0), (0, .ref h0), (1, .int (-4))]) hx hb dX11_layBest_1 rfl hl (by decide) rfl (fun ls hl => ?_)
  have loop2_3 : ∀ (nf j1 : Nat), 70 + 1 ≤ j1 + nf → j1 ≤ 70 → ∀ (g2 : Nat → Int64) (H : Heap) (locs : List Loc), FI N j1 g2 → va_P (dC, dI) vwCl [(h0, .inr (11, [.ref st, .int (nI N), .int (nI B), .ref rp, .int vrs, .int vrb, .int vhs, .int vca, .int vxs, .int vxb, .ref tp, .int (nI T), .int vfa, .int vbr, .int vba, .int vsp, .int vhe, .int vtk, .int vva, .ref cu, .ref lt, .ref od, .ref th, .ref be, .ref ln, .int (nI S), .ref ma, .int (nI M), .ref ah, .ref bh, .ref ik, .ref la, .ref lg, .ref ce, .int vto])), (st, .inl (G 0, 196, .inl fst)), (be, .inl (G 1, 770, .inr (.inl g2)))] H → va_D A [(h0, .inr (11, [.ref st, .int (nI N), .int (nI B), .ref rp, .int vrs, .int vrb, .int vhs, .int vca, .int vxs, .int vxb, .ref tp, .int (nI T), .int vfa, .int vbr, .int vba, .int vsp, .int vhe, .int vtk, .int vva, .ref cu, .ref lt, .ref od, .ref th, .ref be, .ref ln, .int (nI S), .ref ma, .int (nI M), .ref ah, .ref bh, .ref ik, .ref la, .ref lg, .ref ce, .int vto])), (st, .inl (G 0, 196, .inl fst)), (be, .inl (G 1, 770, .inr (.inl g2)))] → va_S A s.heap H locs → ∀ (ls : Array Slot), lv_has ls 8 [(2, .int (nI j1)), (0, .ref h0), (1, .int (-4))] → W p l e (headSpec (Cond.code yX11_layBest cX11_layBest 8 none :: GT) ({ frames := 3, cells := 0, slots := 0, locals := 75 } : Room)).room s m ([.ref h0, .int (-4)] : List Value).toArray below meth c H locs 0 0 (MQ below (va_Qv (fun (u : (Nat → Int64)) => match u with | obe => RI fst N B 0 obe) (fun (u : (Nat → Int64)) (t : State) => match u with | obe => va_P (dC, dI) vwCl [(h0, .inr (11, [.ref st, .int (nI N), .int (nI B), .ref rp, .int vrs, .int vrb, .int vhs, .int vca, .int vxs, .int vxb, .ref tp, .int (nI T), .int vfa, .int vbr, .int vba, .int vsp, .int vhe, .int vtk, .int vva, .ref cu, .ref lt, .ref od, .ref th, .ref be, .ref ln, .int (nI S), .ref ma, .int (nI M), .ref ah, .ref bh, .ref ik, .ref la, .ref lg, .ref ce, .int vto])), (st, .inl (G 0, 196, .inl fst)), (be, .inl (G 1, 770, .inr (.inl obe)))] t.heap ∧ va_D A [(h0, .inr (11, [.ref st, .int (nI N), .int (nI B), .ref rp, .int vrs, .int vrb, .int vhs, .int vca, .int vxs, .int vxb, .ref tp, .int (nI T), .int vfa, .int vbr, .int vba, .int vsp, .int vhe, .int vtk, .int vva, .ref cu, .ref lt, .ref od, .ref th, .ref be, .ref ln, .int (nI S), .ref ma, .int (nI M), .ref ah, .ref bh, .ref ik, .ref la, .ref lg, .ref ce, .int vto])), (st, .inl (G 0, 196, .inl fst)), (be, .inl (G 1, 770, .inr (.inl obe)))]) A) ([.ref h0, .int (-4)] : List Value).toArray s 0 0 A) (F0 m 2 ls []) := by
    intro nf
    induction nf with
    | zero => intro j1 h1 h2; exact absurd h1 (by omega)
    | succ nf ih2_3 =>
      intro j1 hn4 hj5 g2 H locs hinv hP hD hS ls hl
      refine lv_iload_n hx hb dX11_layBest_2 rfl (lv_at hl 0 rfl) ?_
      refine lv_bipush (v := 70) hx hb dX11_layBest_3 rfl ?_
      refine lv_icmp_ge (tgt := 40) hx hb dX11_layBest_5 rfl (fun c6 => ?_) (fun c6 => ?_)
      · skip
        have tn1173_ : nIT j1 := fun _ => nI_toInt (by first | omega | (have t := leI c6; omega))
        have n7 : 70 ≤ j1 := by have t := leI c6; rw [show (nI (j1)).toInt = ((j1 : Nat) : Int) from tn1173_ ()] at t; have : (70 : Int32).toInt = 70 := qI_70; omega
        refine lv_aload_n hx hb dX11_layBest_40 rfl (lv_at hl 1 rfl) ?_
        refine va_get (D := (dC, dI)) (ci := 11) (v := .int (nI N)) (C := RX11) (T := TX11) (N := 35) hx hb hg inG11 hown hK.1 hP 0 rfl rfl 1 (Nat.le_of_ble_eq_true rfl) (hg _ wt_879) (fun _ h9 => h9) rfl dX11_layBest_41 ?_
        refine lv_iconst (v := 1) hx hb dX11_layBest_44 rfl ?_
        refine lv_isub hx hb dX11_layBest_45 ?_
        refine lv_istore_n (lv' := [(2, .int ((nI N) - 1)), (0, .ref h0), (1, .int (-4))]) hx hb dX11_layBest_46 rfl hl (by decide) rfl (fun ls hl => ?_)
        rw [dn_sub] at hl
        have loop47_10 : ∀ (j8 : Nat), j8 ≤ N → ∀ (g9 : Nat → Int64) (H : Heap) (locs : List Loc), RI fst N B j8 g9 → va_P (dC, dI) vwCl [(h0, .inr (11, [.ref st, .int (nI N), .int (nI B), .ref rp, .int vrs, .int vrb, .int vhs, .int vca, .int vxs, .int vxb, .ref tp, .int (nI T), .int vfa, .int vbr, .int vba, .int vsp, .int vhe, .int vtk, .int vva, .ref cu, .ref lt, .ref od, .ref th, .ref be, .ref ln, .int (nI S), .ref ma, .int (nI M), .ref ah, .ref bh, .ref ik, .ref la, .ref lg, .ref ce, .int vto])), (st, .inl (G 0, 196, .inl fst)), (be, .inl (G 1, 770, .inr (.inl g9)))] H → va_D A [(h0, .inr (11, [.ref st, .int (nI N), .int (nI B), .ref rp, .int vrs, .int vrb, .int vhs, .int vca, .int vxs, .int vxb, .ref tp, .int (nI T), .int vfa, .int vbr, .int vba, .int vsp, .int vhe, .int vtk, .int vva, .ref cu, .ref lt, .ref od, .ref th, .ref be, .ref ln, .int (nI S), .ref ma, .int (nI M), .ref ah, .ref bh, .ref ik, .ref la, .ref lg, .ref ce, .int vto])), (st, .inl (G 0, 196, .inl fst)), (be, .inl (G 1, 770, .inr (.inl g9)))] → va_S A s.heap H locs → ∀ (ls : Array Slot), lv_has ls 8 [(2, .int (dn j8)), (0, .ref h0), (1, .int (-4))] → W p l e (headSpec (Cond.code yX11_layBest cX11_layBest 8 none :: GT) ({ frames := 3, cells := 0, slots := 0, locals := 75 } : Room)).room s m ([.ref h0, .int (-4)] : List Value).toArray below meth c H locs 0 0 (MQ below (va_Qv (fun (u : (Nat → Int64)) => match u with | obe => RI fst N B 0 obe) (fun (u : (Nat → Int64)) (t : State) => match u with | obe => va_P (dC, dI) vwCl [(h0, .inr (11, [.ref st, .int (nI N), .int (nI B), .ref rp, .int vrs, .int vrb, .int vhs, .int vca, .int vxs, .int vxb, .ref tp, .int (nI T), .int vfa, .int vbr, .int vba, .int vsp, .int vhe, .int vtk, .int vva, .ref cu, .ref lt, .ref od, .ref th, .ref be, .ref ln, .int (nI S), .ref ma, .int (nI M), .ref ah, .ref bh, .ref ik, .ref la, .ref lg, .ref ce, .int vto])), (st, .inl (G 0, 196, .inl fst)), (be, .inl (G 1, 770, .inr (.inl obe)))] t.heap ∧ va_D A [(h0, .inr (11, [.ref st, .int (nI N), .int (nI B), .ref rp, .int vrs, .int vrb, .int vhs, .int vca, .int vxs, .int vxb, .ref tp, .int (nI T), .int vfa, .int vbr, .int vba, .int vsp, .int vhe, .int vtk, .int vva, .ref cu, .ref lt, .ref od, .ref th, .ref be, .ref ln, .int (nI S), .ref ma, .int (nI M), .ref ah, .ref bh, .ref ik, .ref la, .ref lg, .ref ce, .int vto])), (st, .inl (G 0, 196, .inl fst)), (be, .inl (G 1, 770, .inr (.inl obe)))]) A) ([.ref h0, .int (-4)] : List Value).toArray s 0 0 A) (F0 m 47 ls []) := by
          intro j8
          induction j8 with
          | zero =>
            intro hj11 g9 H locs hinv hP hD hS ls hl
            have hl : lv_has ls 8 [(2, .int (-1)), (0, .ref h0), (1, .int (-4))] := hl
            refine lv_iload_n hx hb dX11_layBest_47 rfl (lv_at hl 0 rfl) ?_
            refine lv_if_lt (tgt := 235) hx hb dX11_layBest_48 rfl (fun c12 => ?_) (fun c12 => ?_)
            · skip
              obtain ⟨hP9, hD9⟩ := va_sub2 (ws' := [(h0, .inr (11, [.ref st, .int (nI N), .int (nI B), .ref rp, .int vrs, .int vrb, .int vhs, .int vca, .int vxs, .int vxb, .ref tp, .int (nI T), .int vfa, .int vbr, .int vba, .int vsp, .int vhe, .int vtk, .int vva, .ref cu, .ref lt, .ref od, .ref th, .ref be, .ref ln, .int (nI S), .ref ma, .int (nI M), .ref ah, .ref bh, .ref ik, .ref la, .ref lg, .ref ce, .int vto])), (st, .inl (G 0, 196, .inl fst)), (be, .inl (G 1, 770, .inr (.inl g9)))]) hP hD [0, 1, 2] (by decide +kernel) rfl
              refine W.widen (k := 0) (n := 0) (Nat.le_of_ble_eq_true rfl) (Nat.le_of_ble_eq_true rfl) ?_
              exact W.vret hx hb hr (fun t ht hW => ⟨⟨g9, rfl, hinv, ⟨by rw [ht]; exact hP9, hD9⟩⟩, hS.F ht⟩) hS.2.2 dX11_layBest_235
            · skip
              exact absurd c12 (by decide)
          | succ j8 ih47_10 =>
            intro hj11 g9 H locs hinv hP hD hS ls hl
            have hl : lv_has ls 8 [(2, .int (nI j8)), (0, .ref h0), (1, .int (-4))] := hl
            refine lv_iload_n hx hb dX11_layBest_47 rfl (lv_at hl 0 rfl) ?_
            refine lv_if_lt (tgt := 235) hx hb dX11_layBest_48 rfl (fun c13 => ?_) (fun c13 => ?_)
            · skip
              have t_hj5 := hj5
              have t_n7 := n7
              have t_hj11 := hj11
              have t_c13 := ltI c13
              have : (0 : Int32).toInt = 0 := qI_0
              have t_n0 : (nI N).toInt = (N : Int) := tn1168_ ()
              have t_n1 : (nI B).toInt = (B : Int) := tn1169_ ()
              have t_n2 : (nI T).toInt = (T : Int) := tn1170_ ()
              have t_n3 : (nI S).toInt = (S : Int) := tn1171_ ()
              have t_n4 : (nI M).toInt = (M : Int) := tn1172_ ()
              have t_n5 : (nI j1).toInt = (j1 : Int) := tn1173_ ()
              have tn1174_ : nIT j8 := fun _ => nI_toInt (by omega)
              have t_n6 : (nI j8).toInt = (j8 : Int) := tn1174_ ()
              exfalso; omega
            · skip
              have tn1175_ : nIT j8 := fun _ => nI_toInt (by first | omega | (have t := nltI c13; omega))
              have n14 : 0 ≤ j8 := by have t := nltI c13; rw [show (nI (j8)).toInt = ((j8 : Nat) : Int) from tn1175_ ()] at t; have : (0 : Int32).toInt = 0 := qI_0; omega
              refine lv_iconst (v := 0) hx hb dX11_layBest_51 rfl ?_
              refine lv_istore_n (lv' := [(3, .int 0), (2, .int (nI j8)), (0, .ref h0), (1, .int (-4))]) hx hb dX11_layBest_52 rfl hl (by decide) rfl (fun ls hl => ?_)
              have loop53_17 : ∀ (nf j15 : Nat), 70 + 1 ≤ j15 + nf → j15 ≤ 70 → ∀ (g16 : Nat → Int64) (H : Heap) (locs : List Loc), KI fst N B j8 j15 g16 → va_P (dC, dI) vwCl [(h0, .inr (11, [.ref st, .int (nI N), .int (nI B), .ref rp, .int vrs, .int vrb, .int vhs, .int vca, .int vxs, .int vxb, .ref tp, .int (nI T), .int vfa, .int vbr, .int vba, .int vsp, .int vhe, .int vtk, .int vva, .ref cu, .ref lt, .ref od, .ref th, .ref be, .ref ln, .int (nI S), .ref ma, .int (nI M), .ref ah, .ref bh, .ref ik, .ref la, .ref lg, .ref ce, .int vto])), (st, .inl (G 0, 196, .inl fst)), (be, .inl (G 1, 770, .inr (.inl g16)))] H → va_D A [(h0, .inr (11, [.ref st, .int (nI N), .int (nI B), .ref rp, .int vrs, .int vrb, .int vhs, .int vca, .int vxs, .int vxb, .ref tp, .int (nI T), .int vfa, .int vbr, .int vba, .int vsp, .int vhe, .int vtk, .int vva, .ref cu, .ref lt, .ref od, .ref th, .ref be, .ref ln, .int (nI S), .ref ma, .int (nI M), .ref ah, .ref bh, .ref ik, .ref la, .ref lg, .ref ce, .int vto])), (st, .inl (G 0, 196, .inl fst)), (be, .inl (G 1, 770, .inr (.inl g16)))] → va_S A s.heap H locs → ∀ (ls : Array Slot), lv_has ls 8 [(3, .int (nI j15)), (2, .int (nI j8)), (0, .ref h0), (1, .int (-4))] → W p l e (headSpec (Cond.code yX11_layBest cX11_layBest 8 none :: GT) ({ frames := 3, cells := 0, slots := 0, locals := 75 } : Room)).room s m ([.ref h0, .int (-4)] : List Value).toArray below meth c H locs 0 0 (MQ below (va_Qv (fun (u : (Nat → Int64)) => match u with | obe => RI fst N B 0 obe) (fun (u : (Nat → Int64)) (t : State) => match u with | obe => va_P (dC, dI) vwCl [(h0, .inr (11, [.ref st, .int (nI N), .int (nI B), .ref rp, .int vrs, .int vrb, .int vhs, .int vca, .int vxs, .int vxb, .ref tp, .int (nI T), .int vfa, .int vbr, .int vba, .int vsp, .int vhe, .int vtk, .int vva, .ref cu, .ref lt, .ref od, .ref th, .ref be, .ref ln, .int (nI S), .ref ma, .int (nI M), .ref ah, .ref bh, .ref ik, .ref la, .ref lg, .ref ce, .int vto])), (st, .inl (G 0, 196, .inl fst)), (be, .inl (G 1, 770, .inr (.inl obe)))] t.heap ∧ va_D A [(h0, .inr (11, [.ref st, .int (nI N), .int (nI B), .ref rp, .int vrs, .int vrb, .int vhs, .int vca, .int vxs, .int vxb, .ref tp, .int (nI T), .int vfa, .int vbr, .int vba, .int vsp, .int vhe, .int vtk, .int vva, .ref cu, .ref lt, .ref od, .ref th, .ref be, .ref ln, .int (nI S), .ref ma, .int (nI M), .ref ah, .ref bh, .ref ik, .ref la, .ref lg, .ref ce, .int vto])), (st, .inl (G 0, 196, .inl fst)), (be, .inl (G 1, 770, .inr (.inl obe)))]) A) ([.ref h0, .int (-4)] : List Value).toArray s 0 0 A) (F0 m 53 ls []) := by
                intro nf
                induction nf with
                | zero => intro j15 h1 h2; exact absurd h1 (by omega)
                | succ nf ih53_17 =>
                  intro j15 hn18 hj19 g16 H locs hinv hP hD hS ls hl
                  refine lv_iload_n hx hb dX11_layBest_53 rfl (lv_at hl 0 rfl) ?_
                  refine lv_bipush (v := 70) hx hb dX11_layBest_54 rfl ?_
                  refine lv_icmp_ge (tgt := 229) hx hb dX11_layBest_56 rfl (fun c20 => ?_) (fun c20 => ?_)
                  · skip
                    have tn1176_ : nIT j15 := fun _ => nI_toInt (by first | omega | (have t := leI c20; omega))
                    have n21 : 70 ≤ j15 := by have t := leI c20; rw [show (nI (j15)).toInt = ((j15 : Nat) : Int) from tn1176_ ()] at t; have : (70 : Int32).toInt = 70 := qI_70; omega
                    refine lv_iinc (v := dn j8) (lv' := [(2, .int (dn j8)), (3, .int (nI j15)), (0, .ref h0), (1, .int (-4))]) hx hb dX11_layBest_229 hl (k := 1) rfl (by exact dn_pred _) (by decide) rfl (fun ls hl => ?_)
                    refine lv_goto (tgt := 47) hx hb dX11_layBest_232 rfl ?_
                    exact ih47_10 (by omega) g16 _ _ (KI.out (by have t_hj5 := hj5; have t_n7 := n7; have t_hj11 := hj11; have t_n14 := n14; have t_hj19 := hj19; have t_n21 := n21; have tnb_ := nib8 tn1168_ tn1169_ tn1170_ tn1171_ tn1172_ tn1173_ tn1175_ tn1176_; omega) hinv) hP hD hS ls (lv_sub hl [0, 2, 3] rfl)
                  · skip
                    have tn1177_ : nIT j15 := fun _ => nI_toInt (by first | omega | (have t := nleI c20; omega))
                    have n22 : j15 < 70 := by have t := nleI c20; rw [show (nI (j15)).toInt = ((j15 : Nat) : Int) from tn1177_ ()] at t; have : (70 : Int32).toInt = 70 := qI_70; omega
                    refine lv_iload_n hx hb dX11_layBest_59 rfl (lv_at hl 0 rfl) ?_
                    refine lv_bipush (v := 10) hx hb dX11_layBest_60 rfl ?_
                    refine lv_icmp_ge (tgt := 70) hx hb dX11_layBest_62 rfl (fun c23 => ?_) (fun c23 => ?_)
                    · skip
                      have n24 : 10 ≤ j15 := by have t := leI c23; rw [show (nI (j15)).toInt = ((j15 : Nat) : Int) from tn1177_ ()] at t; have : (10 : Int32).toInt = 10 := qI_10; omega
                      refine lv_iload_n hx hb dX11_layBest_70 rfl (lv_at hl 0 rfl) ?_
                      refine lv_bipush (v := 10) hx hb dX11_layBest_71 rfl ?_
                      refine lv_idiv hx hb dX11_layBest_73 (by decide) ?_
                      refine lv_cg (y := nI (j15 / 10)) (by rw [show (10 : Int32) = nI 10 from rfl]; exact pk_div (by omega) (by omega) (by omega)) ?_
                      refine lv_iconst (v := 1) hx hb dX11_layBest_74 rfl ?_
                      refine lv_isub hx hb dX11_layBest_75 ?_
                      refine lv_cg (y := nI ((j15 / 10) - 1)) (by rw [show (1 : Int32) = nI 1 from rfl]; exact pk_sub (by omega)) ?_
                      refine lv_istore (lv' := [(4, .int (nI ((j15 / 10) - 1))), (3, .int (nI j15)), (2, .int (nI j8)), (0, .ref h0), (1, .int (-4))]) hx hb dX11_layBest_76 hl (by decide) rfl (fun ls hl => ?_)
                      refine lv_aload_n hx hb dX11_layBest_78 rfl (lv_at hl 3 rfl) ?_
                      refine va_get (D := (dC, dI)) (ci := 11) (v := .ref be) (C := RX11) (T := TX11) (N := 35) hx hb hg inG11 hown hK.1 hP 0 rfl rfl 23 (Nat.le_of_ble_eq_true rfl) (hg _ wt_901) (fun _ h9 => h9) rfl dX11_layBest_79 ?_
                      refine lv_bipush (v := 70) hx hb dX11_layBest_82 rfl ?_
                      refine lv_iload_n hx hb dX11_layBest_84 rfl (lv_at hl 2 rfl) ?_
                      refine lv_imul hx hb dX11_layBest_85 ?_
                      refine lv_cg (y := nI (70 * j8)) (by rw [show (70 : Int32) = nI 70 from rfl]; exact pk_mul _ _) ?_
                      refine lv_iload_n hx hb dX11_layBest_86 rfl (lv_at hl 1 rfl) ?_
                      refine lv_iadd hx hb dX11_layBest_87 ?_
                      refine lv_cg (y := nI ((70 * j8) + j15)) (by exact nI_add _ _) ?_
                      refine lv_iload_n hx hb dX11_layBest_88 rfl (lv_at hl 1 rfl) ?_
                      refine lv_bipush (v := 10) hx hb dX11_layBest_89 rfl ?_
                      refine lv_irem hx hb dX11_layBest_91 (by decide) ?_
                      refine lv_cg (y := nI (j15 % 10)) (by rw [show (10 : Int32) = nI 10 from rfl]; exact pk_rem (by omega) (by omega) (by omega)) ?_
                      have cut110_26 : ∀ (y25 : Int64) (H : Heap) (locs : List Loc), ((j15 % 10 = 0 ∧ y25 = powF (N - j8)) ∨ (j15 % 10 ≠ 0 ∧ y25 = 4000000000000000000)) → va_P (dC, dI) vwCl [(h0, .inr (11, [.ref st, .int (nI N), .int (nI B), .ref rp, .int vrs, .int vrb, .int vhs, .int vca, .int vxs, .int vxb, .ref tp, .int (nI T), .int vfa, .int vbr, .int vba, .int vsp, .int vhe, .int vtk, .int vva, .ref cu, .ref lt, .ref od, .ref th, .ref be, .ref ln, .int (nI S), .ref ma, .int (nI M), .ref ah, .ref bh, .ref ik, .ref la, .ref lg, .ref ce, .int vto])), (st, .inl (G 0, 196, .inl fst)), (be, .inl (G 1, 770, .inr (.inl g16)))] H → va_D A [(h0, .inr (11, [.ref st, .int (nI N), .int (nI B), .ref rp, .int vrs, .int vrb, .int vhs, .int vca, .int vxs, .int vxb, .ref tp, .int (nI T), .int vfa, .int vbr, .int vba, .int vsp, .int vhe, .int vtk, .int vva, .ref cu, .ref lt, .ref od, .ref th, .ref be, .ref ln, .int (nI S), .ref ma, .int (nI M), .ref ah, .ref bh, .ref ik, .ref la, .ref lg, .ref ce, .int vto])), (st, .inl (G 0, 196, .inl fst)), (be, .inl (G 1, 770, .inr (.inl g16)))] → va_S A s.heap H locs → ∀ (ls : Array Slot), lv_has ls 8 [(4, .int (nI ((j15 / 10) - 1))), (3, .int (nI j15)), (2, .int (nI j8)), (0, .ref h0), (1, .int (-4))] → W p l e (headSpec (Cond.code yX11_layBest cX11_layBest 8 none :: GT) ({ frames := 3, cells := 0, slots := 0, locals := 75 } : Room)).room s m ([.ref h0, .int (-4)] : List Value).toArray below meth c H locs 0 0 (MQ below (va_Qv (fun (u : (Nat → Int64)) => match u with | obe => RI fst N B 0 obe) (fun (u : (Nat → Int64)) (t : State) => match u with | obe => va_P (dC, dI) vwCl [(h0, .inr (11, [.ref st, .int (nI N), .int (nI B), .ref rp, .int vrs, .int vrb, .int vhs, .int vca, .int vxs, .int vxb, .ref tp, .int (nI T), .int vfa, .int vbr, .int vba, .int vsp, .int vhe, .int vtk, .int vva, .ref cu, .ref lt, .ref od, .ref th, .ref be, .ref ln, .int (nI S), .ref ma, .int (nI M), .ref ah, .ref bh, .ref ik, .ref la, .ref lg, .ref ce, .int vto])), (st, .inl (G 0, 196, .inl fst)), (be, .inl (G 1, 770, .inr (.inl obe)))] t.heap ∧ va_D A [(h0, .inr (11, [.ref st, .int (nI N), .int (nI B), .ref rp, .int vrs, .int vrb, .int vhs, .int vca, .int vxs, .int vxb, .ref tp, .int (nI T), .int vfa, .int vbr, .int vba, .int vsp, .int vhe, .int vtk, .int vva, .ref cu, .ref lt, .ref od, .ref th, .ref be, .ref ln, .int (nI S), .ref ma, .int (nI M), .ref ah, .ref bh, .ref ik, .ref la, .ref lg, .ref ce, .int vto])), (st, .inl (G 0, 196, .inl fst)), (be, .inl (G 1, 770, .inr (.inl obe)))]) A) ([.ref h0, .int (-4)] : List Value).toArray s 0 0 A) (F0 m 110 ls [.long y25, .int (nI ((70 * j8) + j15)), .ref be]) := by
                        intro y25 H locs hcut hP hD hS ls hl
                        refine va_last hx hb hK.1 hP hD hS 2 1 rfl rfl (vp_in_nI (by first | omega | (have t_hj5 := hj5; have t_n7 := n7; have t_hj11 := hj11; have t_n14 := n14; have t_hj19 := hj19; have t_n22 := n22; have t_n24 := n24; have tnb_ := nib8 tn1168_ tn1169_ tn1170_ tn1171_ tn1172_ tn1173_ tn1175_ tn1177_; have t_n8 : (nI ((j15 / 10) - 1)).toInt = ((((j15 / 10) - 1) : Nat) : Int) := nI_toInt (by omega); omega)) (by decide)) dX11_layBest_110 (fun H locs hP hD hS => ?_)
                        rw [nI_clamp (by omega)] at hP hD
                        refine lv_iconst (v := 0) hx hb dX11_layBest_111 rfl ?_
                        refine lv_istore (lv' := [(5, .int 0), (4, .int (nI ((j15 / 10) - 1))), (3, .int (nI j15)), (2, .int (nI j8)), (0, .ref h0), (1, .int (-4))]) hx hb dX11_layBest_112 hl (by decide) rfl (fun ls hl => ?_)
                        have loop114_29 : ∀ (nf j27 : Nat), B + 1 ≤ j27 + nf → j27 ≤ B → ∀ (g28 : Nat → Int64) (H : Heap) (locs : List Loc), BI fst N B j8 j15 j27 g28 → va_P (dC, dI) vwCl [(h0, .inr (11, [.ref st, .int (nI N), .int (nI B), .ref rp, .int vrs, .int vrb, .int vhs, .int vca, .int vxs, .int vxb, .ref tp, .int (nI T), .int vfa, .int vbr, .int vba, .int vsp, .int vhe, .int vtk, .int vva, .ref cu, .ref lt, .ref od, .ref th, .ref be, .ref ln, .int (nI S), .ref ma, .int (nI M), .ref ah, .ref bh, .ref ik, .ref la, .ref lg, .ref ce, .int vto])), (st, .inl (G 0, 196, .inl fst)), (be, .inl (G 1, 770, .inr (.inl g28)))] H → va_D A [(h0, .inr (11, [.ref st, .int (nI N), .int (nI B), .ref rp, .int vrs, .int vrb, .int vhs, .int vca, .int vxs, .int vxb, .ref tp, .int (nI T), .int vfa, .int vbr, .int vba, .int vsp, .int vhe, .int vtk, .int vva, .ref cu, .ref lt, .ref od, .ref th, .ref be, .ref ln, .int (nI S), .ref ma, .int (nI M), .ref ah, .ref bh, .ref ik, .ref la, .ref lg, .ref ce, .int vto])), (st, .inl (G 0, 196, .inl fst)), (be, .inl (G 1, 770, .inr (.inl g28)))] → va_S A s.heap H locs → ∀ (ls : Array Slot), lv_has ls 8 [(5, .int (nI j27)), (4, .int (nI ((j15 / 10) - 1))), (3, .int (nI j15)), (2, .int (nI j8)), (0, .ref h0), (1, .int (-4))] → W p l e (headSpec (Cond.code yX11_layBest cX11_layBest 8 none :: GT) ({ frames := 3, cells := 0, slots := 0, locals := 75 } : Room)).room s m ([.ref h0, .int (-4)] : List Value).toArray below meth c H locs 0 0 (MQ below (va_Qv (fun (u : (Nat → Int64)) => match u with | obe => RI fst N B 0 obe) (fun (u : (Nat → Int64)) (t : State) => match u with | obe => va_P (dC, dI) vwCl [(h0, .inr (11, [.ref st, .int (nI N), .int (nI B), .ref rp, .int vrs, .int vrb, .int vhs, .int vca, .int vxs, .int vxb, .ref tp, .int (nI T), .int vfa, .int vbr, .int vba, .int vsp, .int vhe, .int vtk, .int vva, .ref cu, .ref lt, .ref od, .ref th, .ref be, .ref ln, .int (nI S), .ref ma, .int (nI M), .ref ah, .ref bh, .ref ik, .ref la, .ref lg, .ref ce, .int vto])), (st, .inl (G 0, 196, .inl fst)), (be, .inl (G 1, 770, .inr (.inl obe)))] t.heap ∧ va_D A [(h0, .inr (11, [.ref st, .int (nI N), .int (nI B), .ref rp, .int vrs, .int vrb, .int vhs, .int vca, .int vxs, .int vxb, .ref tp, .int (nI T), .int vfa, .int vbr, .int vba, .int vsp, .int vhe, .int vtk, .int vva, .ref cu, .ref lt, .ref od, .ref th, .ref be, .ref ln, .int (nI S), .ref ma, .int (nI M), .ref ah, .ref bh, .ref ik, .ref la, .ref lg, .ref ce, .int vto])), (st, .inl (G 0, 196, .inl fst)), (be, .inl (G 1, 770, .inr (.inl obe)))]) A) ([.ref h0, .int (-4)] : List Value).toArray s 0 0 A) (F0 m 114 ls []) := by
                          intro nf
                          induction nf with
                          | zero => intro j27 h1 h2; exact absurd h1 (by omega)
                          | succ nf ih114_29 =>
                            intro j27 hn30 hj31 g28 H locs hinv hP hD hS ls hl
                            refine lv_iload hx hb dX11_layBest_114 (lv_at hl 0 rfl) ?_
                            refine lv_aload_n hx hb dX11_layBest_116 rfl (lv_at hl 4 rfl) ?_
                            refine va_get (D := (dC, dI)) (ci := 11) (v := .int (nI B)) (C := RX11) (T := TX11) (N := 35) hx hb hg inG11 hown hK.1 hP 0 rfl rfl 2 (Nat.le_of_ble_eq_true rfl) (hg _ wt_880) (fun _ h9 => h9) rfl dX11_layBest_117 ?_
                            refine lv_icmp_ge (tgt := 223) hx hb dX11_layBest_120 rfl (fun c32 => ?_) (fun c32 => ?_)
                            · skip
                              have tn1178_ : nIT j27 := fun _ => nI_toInt (by first | omega | (have t := leI c32; omega))
                              have n33 : B ≤ j27 := by have t := leI c32; rw [show (nI (j27)).toInt = ((j27 : Nat) : Int) from tn1178_ ()] at t; rw [show (nI (B)).toInt = ((B : Nat) : Int) from tn1169_ ()] at t; omega
                              refine lv_iinc (v := nI (j15 + 1)) (lv' := [(3, .int (nI (j15 + 1))), (5, .int (nI j27)), (4, .int (nI ((j15 / 10) - 1))), (2, .int (nI j8)), (0, .ref h0), (1, .int (-4))]) hx hb dX11_layBest_223 hl (k := 2) rfl (by rw [show Int32.ofInt 1 = nI 1 from by decide]; exact nI_add _ _) (by decide) rfl (fun ls hl => ?_)
                              refine lv_goto (tgt := 53) hx hb dX11_layBest_226 rfl ?_
                              exact ih53_17 (j15 + 1) (by omega) (by omega) g28 _ _ (BI.out (by have t_hj5 := hj5; have t_n7 := n7; have t_hj11 := hj11; have t_n14 := n14; have t_hj19 := hj19; have t_n22 := n22; have t_n24 := n24; have t_hj31 := hj31; have t_n33 := n33; have tnb_ := nib8 tn1168_ tn1169_ tn1170_ tn1171_ tn1172_ tn1173_ tn1175_ tn1177_; have t_n8 : (nI ((j15 / 10) - 1)).toInt = ((((j15 / 10) - 1) : Nat) : Int) := nI_toInt (by omega); have t_n9 : (nI j27).toInt = (j27 : Int) := tn1178_ (); omega) (by have t_hj5 := hj5; have t_n7 := n7; have t_hj11 := hj11; have t_n14 := n14; have t_hj19 := hj19; have t_n22 := n22; have t_n24 := n24; have t_hj31 := hj31; have t_n33 := n33; have tnb_ := nib8 tn1168_ tn1169_ tn1170_ tn1171_ tn1172_ tn1173_ tn1175_ tn1177_; have t_n8 : (nI ((j15 / 10) - 1)).toInt = ((((j15 / 10) - 1) : Nat) : Int) := nI_toInt (by omega); have t_n9 : (nI j27).toInt = (j27 : Int) := tn1178_ (); omega) (by have t_hj5 := hj5; have t_n7 := n7; have t_hj11 := hj11; have t_n14 := n14; have t_hj19 := hj19; have t_n22 := n22; have t_n24 := n24; have t_hj31 := hj31; have t_n33 := n33; have tnb_ := nib8 tn1168_ tn1169_ tn1170_ tn1171_ tn1172_ tn1173_ tn1175_ tn1177_; have t_n8 : (nI ((j15 / 10) - 1)).toInt = ((((j15 / 10) - 1) : Nat) : Int) := nI_toInt (by omega); have t_n9 : (nI j27).toInt = (j27 : Int) := tn1178_ (); omega) (by have t_hj5 := hj5; have t_n7 := n7; have t_hj11 := hj11; have t_n14 := n14; have t_hj19 := hj19; have t_n22 := n22; have t_n24 := n24; have t_hj31 := hj31; have t_n33 := n33; have tnb_ := nib8 tn1168_ tn1169_ tn1170_ tn1171_ tn1172_ tn1173_ tn1175_ tn1177_; have t_n8 : (nI ((j15 / 10) - 1)).toInt = ((((j15 / 10) - 1) : Nat) : Int) := nI_toInt (by omega); have t_n9 : (nI j27).toInt = (j27 : Int) := tn1178_ (); omega) hinv) hP hD hS ls (lv_sub hl [0, 3, 4, 5] rfl)
                            · skip
                              have tn1179_ : nIT j27 := fun _ => nI_toInt (by first | omega | (have t := nleI c32; omega))
                              have n34 : j27 < B := by have t := nleI c32; rw [show (nI (j27)).toInt = ((j27 : Nat) : Int) from tn1179_ ()] at t; rw [show (nI (B)).toInt = ((B : Nat) : Int) from tn1169_ ()] at t; omega
                              refine lv_iload_n hx hb dX11_layBest_123 rfl (lv_at hl 2 rfl) ?_
                              refine lv_bipush (v := 10) hx hb dX11_layBest_124 rfl ?_
                              refine lv_irem hx hb dX11_layBest_126 (by decide) ?_
                              refine lv_cg (y := nI (j15 % 10)) (by rw [show (10 : Int32) = nI 10 from rfl]; exact pk_rem (by omega) (by omega) (by omega)) ?_
                              refine lv_if_le (tgt := 223) hx hb dX11_layBest_127 rfl (fun c35 => ?_) (fun c35 => ?_)
                              · skip
                                have tn1180_ : nIT (j15 % 10) := fun _ => nI_toInt (by first | omega | (have t := leI c35; omega))
                                have n36 : (j15 % 10) ≤ 0 := by have t := leI c35; rw [show (nI (j15 % 10)).toInt = ((j15 % 10 : Nat) : Int) from tn1180_ ()] at t; have : (0 : Int32).toInt = 0 := qI_0; omega
                                refine lv_iinc (v := nI (j15 + 1)) (lv' := [(3, .int (nI (j15 + 1))), (5, .int (nI j27)), (4, .int (nI ((j15 / 10) - 1))), (2, .int (nI j8)), (0, .ref h0), (1, .int (-4))]) hx hb dX11_layBest_223 hl (k := 2) rfl (by rw [show Int32.ofInt 1 = nI 1 from by decide]; exact nI_add _ _) (by decide) rfl (fun ls hl => ?_)
                                refine lv_goto (tgt := 53) hx hb dX11_layBest_226 rfl ?_
                                exact ih53_17 (j15 + 1) (by omega) (by omega) g28 _ _ (BI.out (by have t_hj5 := hj5; have t_n7 := n7; have t_hj11 := hj11; have t_n14 := n14; have t_hj19 := hj19; have t_n22 := n22; have t_n24 := n24; have t_hj31 := hj31; have t_n34 := n34; have t_n36 := n36; have tnb_ := nib8 tn1168_ tn1169_ tn1170_ tn1171_ tn1172_ tn1173_ tn1175_ tn1177_; have t_n8 : (nI ((j15 / 10) - 1)).toInt = ((((j15 / 10) - 1) : Nat) : Int) := nI_toInt (by omega); have t_n9 : (nI j27).toInt = (j27 : Int) := tn1179_ (); omega) (by have t_hj5 := hj5; have t_n7 := n7; have t_hj11 := hj11; have t_n14 := n14; have t_hj19 := hj19; have t_n22 := n22; have t_n24 := n24; have t_hj31 := hj31; have t_n34 := n34; have t_n36 := n36; have tnb_ := nib8 tn1168_ tn1169_ tn1170_ tn1171_ tn1172_ tn1173_ tn1175_ tn1177_; have t_n8 : (nI ((j15 / 10) - 1)).toInt = ((((j15 / 10) - 1) : Nat) : Int) := nI_toInt (by omega); have t_n9 : (nI j27).toInt = (j27 : Int) := tn1179_ (); omega) (by have t_hj5 := hj5; have t_n7 := n7; have t_hj11 := hj11; have t_n14 := n14; have t_hj19 := hj19; have t_n22 := n22; have t_n24 := n24; have t_hj31 := hj31; have t_n34 := n34; have t_n36 := n36; have tnb_ := nib8 tn1168_ tn1169_ tn1170_ tn1171_ tn1172_ tn1173_ tn1175_ tn1177_; have t_n8 : (nI ((j15 / 10) - 1)).toInt = ((((j15 / 10) - 1) : Nat) : Int) := nI_toInt (by omega); have t_n9 : (nI j27).toInt = (j27 : Int) := tn1179_ (); omega) (by have t_hj5 := hj5; have t_n7 := n7; have t_hj11 := hj11; have t_n14 := n14; have t_hj19 := hj19; have t_n22 := n22; have t_n24 := n24; have t_hj31 := hj31; have t_n34 := n34; have t_n36 := n36; have tnb_ := nib8 tn1168_ tn1169_ tn1170_ tn1171_ tn1172_ tn1173_ tn1175_ tn1177_; have t_n8 : (nI ((j15 / 10) - 1)).toInt = ((((j15 / 10) - 1) : Nat) : Int) := nI_toInt (by omega); have t_n9 : (nI j27).toInt = (j27 : Int) := tn1179_ (); omega) hinv) hP hD hS ls (lv_sub hl [0, 3, 4, 5] rfl)
                              · skip
                                have tn1181_ : nIT (j15 % 10) := fun _ => nI_toInt (by first | omega | (have t := nleI c35; omega))
                                have n37 : 0 < (j15 % 10) := by have t := nleI c35; rw [show (nI (j15 % 10)).toInt = ((j15 % 10 : Nat) : Int) from tn1181_ ()] at t; have : (0 : Int32).toInt = 0 := qI_0; omega
                                refine lv_iload hx hb dX11_layBest_130 (lv_at hl 1 rfl) ?_
                                refine lv_bipush (v := (-4)) hx hb dX11_layBest_132 rfl ?_
                                refine lv_icmp_eq (tgt := 146) hx hb dX11_layBest_134 rfl (fun c38 => ?_) (fun c38 => ?_)
                                · skip
                                  have t_hj5 := hj5
                                  have t_n7 := n7
                                  have t_hj11 := hj11
                                  have t_n14 := n14
                                  have t_hj19 := hj19
                                  have t_n22 := n22
                                  have t_n24 := n24
                                  have t_hj31 := hj31
                                  have t_n34 := n34
                                  have t_n37 := n37
                                  have t_c38 := eqI c38
                                  have : ((-4) : Int32).toInt = -4 := qI_m4
                                  have t_n0 : (nI N).toInt = (N : Int) := tn1168_ ()
                                  have t_n1 : (nI B).toInt = (B : Int) := tn1169_ ()
                                  have t_n2 : (nI T).toInt = (T : Int) := tn1170_ ()
                                  have t_n3 : (nI S).toInt = (S : Int) := tn1171_ ()
                                  have t_n4 : (nI M).toInt = (M : Int) := tn1172_ ()
                                  have t_n5 : (nI j1).toInt = (j1 : Int) := tn1173_ ()
                                  have t_n6 : (nI j8).toInt = (j8 : Int) := tn1175_ ()
                                  have t_n7 : (nI j15).toInt = (j15 : Int) := tn1177_ ()
                                  have t_n8 : (nI ((j15 / 10) - 1)).toInt = ((((j15 / 10) - 1) : Nat) : Int) := nI_toInt (by omega)
                                  have t_n9 : (nI j27).toInt = (j27 : Int) := tn1179_ ()
                                  exfalso; omega
                                · skip
                                  refine lv_aload_n hx hb dX11_layBest_137 rfl (lv_at hl 4 rfl) ?_
                                  refine lv_iload hx hb dX11_layBest_138 (lv_at hl 1 rfl) ?_
                                  have hPc := hP.sub (ws' := [(h0, .inr (11, [.ref st, .int (nI N), .int (nI B), .ref rp, .int vrs, .int vrb, .int vhs, .int vca, .int vxs, .int vxb, .ref tp, .int (nI T), .int vfa, .int vbr, .int vba, .int vsp, .int vhe, .int vtk, .int vva, .ref cu, .ref lt, .ref od, .ref th, .ref be, .ref ln, .int (nI S), .ref ma, .int (nI M), .ref ah, .ref bh, .ref ik, .ref la, .ref lg, .ref ce, .int vto]))]) [0] rfl
                                  refine va_calli (va_runV (As := [.int (nI ((j15 / 10) - 1))]) (rest := []) ⟨hx, hb, hml, hown, hg⟩ (c_X11_isBearer l dC dI G _ h0 st N B rp tp T cu lt od th be ln S ma M ah bh ik la lg ce (nI ((j15 / 10) - 1)) vrs vrb vhs vca vxs vxb vfa vbr vba vsp vhe vtk vva vto hN hB_ hT_ hS0 hM_) (kwV hg mfX11_isBearer wt_1061 ⟨Nat.le_of_ble_eq_true rfl, Nat.le_of_ble_eq_true rfl⟩) (preVR hK hPc (ci := 11) (r := (RX11, TX11, 35)) rfl rfl) rfl rfl hl.1 rfl (lv_room (Nat.le_of_ble_eq_true rfl)) dX11_layBest_140 ⟨Nat.le_of_ble_eq_true rfl, Nat.le_of_ble_eq_true rfl⟩) hS (fun q h1 h2 => absurd h2 (Nat.not_le.mpr h1)) (fun q h => hA q (Nat.le_trans hS.1 h)) (fun r39 ur39 t H1 locs ht hvm w40 hB hz1 hk1 hS => ?_)
                                  have hP := keepR hP hk1
                                  obtain ⟨w40, w40x⟩ := w40
                                  try simp only [l_ii, show (0 : Int32).toInt = 0 from by decide] at w40
                                  have tn1182_ : nIT ((j15 / 10) - 1) := fun _ => nI_toInt (by omega)
                                  try rw [show (nI ((j15 / 10) - 1)).toInt = (((j15 / 10) - 1 : Nat) : Int) from tn1182_ ()] at w40
                                  try rw [show (nI (B)).toInt = ((B : Nat) : Int) from tn1169_ ()] at w40
                                  subst w40
                                  refine lv_if_eq (tgt := 223) hx hb dX11_layBest_143 rfl (fun c41 => ?_) (fun c41 => ?_)
                                  · skip
                                    have b42 := if10_n c41
                                    refine lv_iinc (v := nI (j15 + 1)) (lv' := [(3, .int (nI (j15 + 1))), (5, .int (nI j27)), (4, .int (nI ((j15 / 10) - 1))), (2, .int (nI j8)), (0, .ref h0), (1, .int (-4))]) hx hb dX11_layBest_223 hl (k := 2) rfl (by rw [show Int32.ofInt 1 = nI 1 from by decide]; exact nI_add _ _) (by decide) rfl (fun ls hl => ?_)
                                    refine lv_goto (tgt := 53) hx hb dX11_layBest_226 rfl ?_
                                    exact ih53_17 (j15 + 1) (by omega) (by omega) g28 _ _ (BI.out (by have t_hj5 := hj5; have t_n7 := n7; have t_hj11 := hj11; have t_n14 := n14; have t_hj19 := hj19; have t_n22 := n22; have t_n24 := n24; have t_hj31 := hj31; have t_n34 := n34; have t_n37 := n37; have t_c38 := neI c38; have t_b42 := b42; have : ((-4) : Int32).toInt = -4 := qI_m4; have tnb_ := nib8 tn1168_ tn1169_ tn1170_ tn1171_ tn1172_ tn1173_ tn1175_ tn1177_; have t_n8 : (nI ((j15 / 10) - 1)).toInt = ((((j15 / 10) - 1) : Nat) : Int) := nI_toInt (by omega); have t_n9 : (nI j27).toInt = (j27 : Int) := tn1179_ (); omega) (by have t_hj5 := hj5; have t_n7 := n7; have t_hj11 := hj11; have t_n14 := n14; have t_hj19 := hj19; have t_n22 := n22; have t_n24 := n24; have t_hj31 := hj31; have t_n34 := n34; have t_n37 := n37; have t_c38 := neI c38; have t_b42 := b42; have : ((-4) : Int32).toInt = -4 := qI_m4; have tnb_ := nib8 tn1168_ tn1169_ tn1170_ tn1171_ tn1172_ tn1173_ tn1175_ tn1177_; have t_n8 : (nI ((j15 / 10) - 1)).toInt = ((((j15 / 10) - 1) : Nat) : Int) := nI_toInt (by omega); have t_n9 : (nI j27).toInt = (j27 : Int) := tn1179_ (); omega) (by have t_hj5 := hj5; have t_n7 := n7; have t_hj11 := hj11; have t_n14 := n14; have t_hj19 := hj19; have t_n22 := n22; have t_n24 := n24; have t_hj31 := hj31; have t_n34 := n34; have t_n37 := n37; have t_c38 := neI c38; have t_b42 := b42; have : ((-4) : Int32).toInt = -4 := qI_m4; have tnb_ := nib8 tn1168_ tn1169_ tn1170_ tn1171_ tn1172_ tn1173_ tn1175_ tn1177_; have t_n8 : (nI ((j15 / 10) - 1)).toInt = ((((j15 / 10) - 1) : Nat) : Int) := nI_toInt (by omega); have t_n9 : (nI j27).toInt = (j27 : Int) := tn1179_ (); omega) (by have t_hj5 := hj5; have t_n7 := n7; have t_hj11 := hj11; have t_n14 := n14; have t_hj19 := hj19; have t_n22 := n22; have t_n24 := n24; have t_hj31 := hj31; have t_n34 := n34; have t_n37 := n37; have t_c38 := neI c38; have t_b42 := b42; have : ((-4) : Int32).toInt = -4 := qI_m4; have tnb_ := nib8 tn1168_ tn1169_ tn1170_ tn1171_ tn1172_ tn1173_ tn1175_ tn1177_; have t_n8 : (nI ((j15 / 10) - 1)).toInt = ((((j15 / 10) - 1) : Nat) : Int) := nI_toInt (by omega); have t_n9 : (nI j27).toInt = (j27 : Int) := tn1179_ (); omega) hinv) hP hD hS ls (lv_sub hl [0, 3, 4, 5] rfl)
                                  · skip
                                    have b43 := if10_p c41
                                    refine lv_iload hx hb dX11_layBest_146 (lv_at hl 0 rfl) ?_
                                    refine lv_iload_n hx hb dX11_layBest_148 rfl (lv_at hl 5 rfl) ?_
                                    refine lv_icmp_ne (tgt := 158) hx hb dX11_layBest_149 rfl (fun c44 => ?_) (fun c44 => ?_)
                                    · skip
                                      refine lv_aload_n hx hb dX11_layBest_158 rfl (lv_at hl 4 rfl) ?_
                                      refine lv_iload_n hx hb dX11_layBest_159 rfl (lv_at hl 3 rfl) ?_
                                      refine lv_iload hx hb dX11_layBest_160 (lv_at hl 1 rfl) ?_
                                      refine lv_iload_n hx hb dX11_layBest_162 rfl (lv_at hl 2 rfl) ?_
                                      refine lv_bipush (v := 10) hx hb dX11_layBest_163 rfl ?_
                                      refine lv_irem hx hb dX11_layBest_165 (by decide) ?_
                                      refine lv_cg (y := nI (j15 % 10)) (by rw [show (10 : Int32) = nI 10 from rfl]; exact pk_rem (by omega) (by omega) (by omega)) ?_
                                      refine lv_iload hx hb dX11_layBest_166 (lv_at hl 0 rfl) ?_
                                      have hPc := hP.sub (ws' := [(h0, .inr (11, [.ref st, .int (nI N), .int (nI B), .ref rp, .int vrs, .int vrb, .int vhs, .int vca, .int vxs, .int vxb, .ref tp, .int (nI T), .int vfa, .int vbr, .int vba, .int vsp, .int vhe, .int vtk, .int vva, .ref cu, .ref lt, .ref od, .ref th, .ref be, .ref ln, .int (nI S), .ref ma, .int (nI M), .ref ah, .ref bh, .ref ik, .ref la, .ref lg, .ref ce, .int vto])), (st, .inl (G 0, 196, .inl fst)), (be, .inl (G 1, 770, .inr (.inl g28)))]) [0, 1, 2] rfl
                                      refine va_calll (va_runV (As := [.int (nI j8), .int (nI ((j15 / 10) - 1)), .int (nI (j15 % 10)), .int (nI j27)]) (rest := []) ⟨hx, hb, hml, hown, hg⟩ (c_X11_byOneB l dC dI G _ h0 j8 ((j15 / 10) - 1) (j15 % 10) j27 st N B rp tp T cu lt od th be ln S ma M ah bh ik la lg ce vrs vrb vhs vca vxs vxb vfa vbr vba vsp vhe vtk vva vto fst g28 hN hB_ hT_ hS0 hM_ (by first | omega | (have t_hj5 := hj5; have t_n7 := n7; have t_hj11 := hj11; have t_n14 := n14; have t_hj19 := hj19; have t_n22 := n22; have t_n24 := n24; have t_hj31 := hj31; have t_n34 := n34; have t_n37 := n37; have t_c38 := neI c38; have t_b43 := b43; have t_c44 := neI c44; have : ((-4) : Int32).toInt = -4 := qI_m4; have tnb_ := nib8 tn1168_ tn1169_ tn1170_ tn1171_ tn1172_ tn1173_ tn1175_ tn1177_; have t_n8 : (nI ((j15 / 10) - 1)).toInt = ((((j15 / 10) - 1) : Nat) : Int) := nI_toInt (by omega); have t_n9 : (nI j27).toInt = (j27 : Int) := tn1179_ (); omega)) (by first | omega | (have t_hj5 := hj5; have t_n7 := n7; have t_hj11 := hj11; have t_n14 := n14; have t_hj19 := hj19; have t_n22 := n22; have t_n24 := n24; have t_hj31 := hj31; have t_n34 := n34; have t_n37 := n37; have t_c38 := neI c38; have t_b43 := b43; have t_c44 := neI c44; have : ((-4) : Int32).toInt = -4 := qI_m4; have tnb_ := nib8 tn1168_ tn1169_ tn1170_ tn1171_ tn1172_ tn1173_ tn1175_ tn1177_; have t_n8 : (nI ((j15 / 10) - 1)).toInt = ((((j15 / 10) - 1) : Nat) : Int) := nI_toInt (by omega); have t_n9 : (nI j27).toInt = (j27 : Int) := tn1179_ (); omega)) (by first | omega | (have t_hj5 := hj5; have t_n7 := n7; have t_hj11 := hj11; have t_n14 := n14; have t_hj19 := hj19; have t_n22 := n22; have t_n24 := n24; have t_hj31 := hj31; have t_n34 := n34; have t_n37 := n37; have t_c38 := neI c38; have t_b43 := b43; have t_c44 := neI c44; have : ((-4) : Int32).toInt = -4 := qI_m4; have tnb_ := nib8 tn1168_ tn1169_ tn1170_ tn1171_ tn1172_ tn1173_ tn1175_ tn1177_; have t_n8 : (nI ((j15 / 10) - 1)).toInt = ((((j15 / 10) - 1) : Nat) : Int) := nI_toInt (by omega); have t_n9 : (nI j27).toInt = (j27 : Int) := tn1179_ (); omega)) (by first | omega | (have t_hj5 := hj5; have t_n7 := n7; have t_hj11 := hj11; have t_n14 := n14; have t_hj19 := hj19; have t_n22 := n22; have t_n24 := n24; have t_hj31 := hj31; have t_n34 := n34; have t_n37 := n37; have t_c38 := neI c38; have t_b43 := b43; have t_c44 := neI c44; have : ((-4) : Int32).toInt = -4 := qI_m4; have tnb_ := nib8 tn1168_ tn1169_ tn1170_ tn1171_ tn1172_ tn1173_ tn1175_ tn1177_; have t_n8 : (nI ((j15 / 10) - 1)).toInt = ((((j15 / 10) - 1) : Nat) : Int) := nI_toInt (by omega); have t_n9 : (nI j27).toInt = (j27 : Int) := tn1179_ (); omega))) (kwV hg mfX11_byOne wt_1155 ⟨Nat.le_of_ble_eq_true rfl, Nat.le_of_ble_eq_true rfl⟩) (preVR hK hPc (ci := 11) (r := (RX11, TX11, 35)) rfl rfl) rfl rfl hl.1 rfl (lv_room (Nat.le_of_ble_eq_true rfl)) dX11_layBest_168 ⟨Nat.le_of_ble_eq_true rfl, Nat.le_of_ble_eq_true rfl⟩) hS (fun q h1 h2 => absurd h2 (Nat.not_le.mpr h1)) (fun q h => hA q (Nat.le_trans hS.1 h)) (fun r45 ur45 t H1 locs ht hvm w46 hB hz1 hk1 hS => ?_)
                                      have hP := keepR hP hk1
                                      obtain ⟨w46, w46x⟩ := w46
                                      subst w46
                                      refine lv_lstore (lv' := [(6, .long (b1B fst g28 j8 ((j15 / 10) - 1) (j15 % 10) j27)), (5, .int (nI j27)), (4, .int (nI ((j15 / 10) - 1))), (3, .int (nI j15)), (2, .int (nI j8)), (0, .ref h0), (1, .int (-4))]) hx hb dX11_layBest_171 hl (by decide) rfl (fun ls hl => ?_)
                                      refine lv_aload_n hx hb dX11_layBest_173 rfl (lv_at hl 5 rfl) ?_
                                      refine va_get (D := (dC, dI)) (ci := 11) (v := .ref be) (C := RX11) (T := TX11) (N := 35) hx hb hg inG11 hown hK.1 hP 0 rfl rfl 23 (Nat.le_of_ble_eq_true rfl) (hg _ wt_901) (fun _ h9 => h9) rfl dX11_layBest_174 ?_
                                      refine lv_bipush (v := 70) hx hb dX11_layBest_177 rfl ?_
                                      refine lv_iload_n hx hb dX11_layBest_179 rfl (lv_at hl 4 rfl) ?_
                                      refine lv_imul hx hb dX11_layBest_180 ?_
                                      refine lv_cg (y := nI (70 * j8)) (by rw [show (70 : Int32) = nI 70 from rfl]; exact pk_mul _ _) ?_
                                      refine lv_iload_n hx hb dX11_layBest_181 rfl (lv_at hl 3 rfl) ?_
                                      refine lv_iadd hx hb dX11_layBest_182 ?_
                                      refine lv_cg (y := nI ((70 * j8) + j15)) (by exact nI_add _ _) ?_
                                      refine lv_lload hx hb dX11_layBest_183 (lv_at hl 0 rfl) ?_
                                      refine lv_aload_n hx hb dX11_layBest_185 rfl (lv_at hl 5 rfl) ?_
                                      refine va_get (D := (dC, dI)) (ci := 11) (v := .ref be) (C := RX11) (T := TX11) (N := 35) hx hb hg inG11 hown hK.1 hP 0 rfl rfl 23 (Nat.le_of_ble_eq_true rfl) (hg _ wt_901) (fun _ h9 => h9) rfl dX11_layBest_186 ?_
                                      refine lv_bipush (v := 70) hx hb dX11_layBest_189 rfl ?_
                                      refine lv_iload_n hx hb dX11_layBest_191 rfl (lv_at hl 4 rfl) ?_
                                      refine lv_imul hx hb dX11_layBest_192 ?_
                                      refine lv_cg (y := nI (70 * j8)) (by rw [show (70 : Int32) = nI 70 from rfl]; exact pk_mul _ _) ?_
                                      refine lv_iload_n hx hb dX11_layBest_193 rfl (lv_at hl 3 rfl) ?_
                                      refine lv_iadd hx hb dX11_layBest_194 ?_
                                      refine lv_cg (y := nI ((70 * j8) + j15)) (by exact nI_add _ _) ?_
                                      refine va_lald hx hb hK.1 hP 2 1 rfl rfl (vp_in_nI (by first | omega | (have t_hj5 := hj5; have t_n7 := n7; have t_hj11 := hj11; have t_n14 := n14; have t_hj19 := hj19; have t_n22 := n22; have t_n24 := n24; have t_hj31 := hj31; have t_n34 := n34; have t_n37 := n37; have t_c38 := neI c38; have t_b43 := b43; have t_c44 := neI c44; have : ((-4) : Int32).toInt = -4 := qI_m4; have tnb_ := nib8 tn1168_ tn1169_ tn1170_ tn1171_ tn1172_ tn1173_ tn1175_ tn1177_; have t_n8 : (nI ((j15 / 10) - 1)).toInt = ((((j15 / 10) - 1) : Nat) : Int) := nI_toInt (by omega); have t_n9 : (nI j27).toInt = (j27 : Int) := tn1179_ (); omega)) (by decide)) dX11_layBest_195 ?_
                                      refine lv_cgl (y := g28 ((70 * j8) + j15)) (by rw [nI_clamp (by omega)]) ?_
                                      refine W.lcmp hx hb dX11_layBest_196 ?_
                                      refine lv_if_ge (tgt := 205) hx hb dX11_layBest_197 rfl (fun c47 => ?_) (fun c47 => ?_)
                                      · skip
                                        refine lv_aload_n hx hb dX11_layBest_205 rfl (lv_at hl 5 rfl) ?_
                                        refine va_get (D := (dC, dI)) (ci := 11) (v := .ref be) (C := RX11) (T := TX11) (N := 35) hx hb hg inG11 hown hK.1 hP 0 rfl rfl 23 (Nat.le_of_ble_eq_true rfl) (hg _ wt_901) (fun _ h9 => h9) rfl dX11_layBest_206 ?_
                                        refine lv_bipush (v := 70) hx hb dX11_layBest_209 rfl ?_
                                        refine lv_iload_n hx hb dX11_layBest_211 rfl (lv_at hl 4 rfl) ?_
                                        refine lv_imul hx hb dX11_layBest_212 ?_
                                        refine lv_cg (y := nI (70 * j8)) (by rw [show (70 : Int32) = nI 70 from rfl]; exact pk_mul _ _) ?_
                                        refine lv_iload_n hx hb dX11_layBest_213 rfl (lv_at hl 3 rfl) ?_
                                        refine lv_iadd hx hb dX11_layBest_214 ?_
                                        refine lv_cg (y := nI ((70 * j8) + j15)) (by exact nI_add _ _) ?_
                                        refine va_lald hx hb hK.1 hP 2 1 rfl rfl (vp_in_nI (by first | omega | (have t_hj5 := hj5; have t_n7 := n7; have t_hj11 := hj11; have t_n14 := n14; have t_hj19 := hj19; have t_n22 := n22; have t_n24 := n24; have t_hj31 := hj31; have t_n34 := n34; have t_n37 := n37; have t_c38 := neI c38; have t_b43 := b43; have t_c44 := neI c44; have t_c47 := lcm_ge_t c47; have : ((-4) : Int32).toInt = -4 := qI_m4; have tnb_ := nib8 tn1168_ tn1169_ tn1170_ tn1171_ tn1172_ tn1173_ tn1175_ tn1177_; have t_n8 : (nI ((j15 / 10) - 1)).toInt = ((((j15 / 10) - 1) : Nat) : Int) := nI_toInt (by omega); have t_n9 : (nI j27).toInt = (j27 : Int) := tn1179_ (); omega)) (by decide)) dX11_layBest_215 ?_
                                        refine lv_cgl (y := g28 ((70 * j8) + j15)) (by rw [nI_clamp (by omega)]) ?_
                                        refine va_last hx hb hK.1 hP hD hS 2 1 rfl rfl (vp_in_nI (by first | omega | (have t_hj5 := hj5; have t_n7 := n7; have t_hj11 := hj11; have t_n14 := n14; have t_hj19 := hj19; have t_n22 := n22; have t_n24 := n24; have t_hj31 := hj31; have t_n34 := n34; have t_n37 := n37; have t_c38 := neI c38; have t_b43 := b43; have t_c44 := neI c44; have t_c47 := lcm_ge_t c47; have : ((-4) : Int32).toInt = -4 := qI_m4; have tnb_ := nib8 tn1168_ tn1169_ tn1170_ tn1171_ tn1172_ tn1173_ tn1175_ tn1177_; have t_n8 : (nI ((j15 / 10) - 1)).toInt = ((((j15 / 10) - 1) : Nat) : Int) := nI_toInt (by omega); have t_n9 : (nI j27).toInt = (j27 : Int) := tn1179_ (); omega)) (by decide)) dX11_layBest_216 (fun H locs hP hD hS => ?_)
                                        rw [nI_clamp (by omega)] at hP hD
                                        refine lv_iinc (v := nI (j27 + 1)) (lv' := [(5, .int (nI (j27 + 1))), (6, .long (b1B fst g28 j8 ((j15 / 10) - 1) (j15 % 10) j27)), (4, .int (nI ((j15 / 10) - 1))), (3, .int (nI j15)), (2, .int (nI j8)), (0, .ref h0), (1, .int (-4))]) hx hb dX11_layBest_217 hl (k := 1) rfl (by rw [show Int32.ofInt 1 = nI 1 from by decide]; exact nI_add _ _) (by decide) rfl (fun ls hl => ?_)
                                        refine lv_goto (tgt := 114) hx hb dX11_layBest_220 rfl ?_
                                        exact ih114_29 (j27 + 1) (by omega) (by omega) (vp_updL g28 ((70 * j8) + j15) (g28 ((70 * j8) + j15))) _ _ (BI.ge hst (by have t_hj5 := hj5; have t_n7 := n7; have t_hj11 := hj11; have t_n14 := n14; have t_hj19 := hj19; have t_n22 := n22; have t_n24 := n24; have t_hj31 := hj31; have t_n34 := n34; have t_n37 := n37; have t_c38 := neI c38; have t_b43 := b43; have t_c44 := neI c44; have t_c47 := lcm_ge_t c47; have : ((-4) : Int32).toInt = -4 := qI_m4; have tnb_ := nib8 tn1168_ tn1169_ tn1170_ tn1171_ tn1172_ tn1173_ tn1175_ tn1177_; have t_n8 : (nI ((j15 / 10) - 1)).toInt = ((((j15 / 10) - 1) : Nat) : Int) := nI_toInt (by omega); have t_n9 : (nI j27).toInt = (j27 : Int) := tn1179_ (); omega) (by have t_hj5 := hj5; have t_n7 := n7; have t_hj11 := hj11; have t_n14 := n14; have t_hj19 := hj19; have t_n22 := n22; have t_n24 := n24; have t_hj31 := hj31; have t_n34 := n34; have t_n37 := n37; have t_c38 := neI c38; have t_b43 := b43; have t_c44 := neI c44; have t_c47 := lcm_ge_t c47; have : ((-4) : Int32).toInt = -4 := qI_m4; have tnb_ := nib8 tn1168_ tn1169_ tn1170_ tn1171_ tn1172_ tn1173_ tn1175_ tn1177_; have t_n8 : (nI ((j15 / 10) - 1)).toInt = ((((j15 / 10) - 1) : Nat) : Int) := nI_toInt (by omega); have t_n9 : (nI j27).toInt = (j27 : Int) := tn1179_ (); omega) (by have t_hj5 := hj5; have t_n7 := n7; have t_hj11 := hj11; have t_n14 := n14; have t_hj19 := hj19; have t_n22 := n22; have t_n24 := n24; have t_hj31 := hj31; have t_n34 := n34; have t_n37 := n37; have t_c38 := neI c38; have t_b43 := b43; have t_c44 := neI c44; have t_c47 := lcm_ge_t c47; have : ((-4) : Int32).toInt = -4 := qI_m4; have tnb_ := nib8 tn1168_ tn1169_ tn1170_ tn1171_ tn1172_ tn1173_ tn1175_ tn1177_; have t_n8 : (nI ((j15 / 10) - 1)).toInt = ((((j15 / 10) - 1) : Nat) : Int) := nI_toInt (by omega); have t_n9 : (nI j27).toInt = (j27 : Int) := tn1179_ (); omega) (by have t_hj5 := hj5; have t_n7 := n7; have t_hj11 := hj11; have t_n14 := n14; have t_hj19 := hj19; have t_n22 := n22; have t_n24 := n24; have t_hj31 := hj31; have t_n34 := n34; have t_n37 := n37; have t_c38 := neI c38; have t_b43 := b43; have t_c44 := neI c44; have t_c47 := lcm_ge_t c47; have : ((-4) : Int32).toInt = -4 := qI_m4; have tnb_ := nib8 tn1168_ tn1169_ tn1170_ tn1171_ tn1172_ tn1173_ tn1175_ tn1177_; have t_n8 : (nI ((j15 / 10) - 1)).toInt = ((((j15 / 10) - 1) : Nat) : Int) := nI_toInt (by omega); have t_n9 : (nI j27).toInt = (j27 : Int) := tn1179_ (); omega) (by have t_hj5 := hj5; have t_n7 := n7; have t_hj11 := hj11; have t_n14 := n14; have t_hj19 := hj19; have t_n22 := n22; have t_n24 := n24; have t_hj31 := hj31; have t_n34 := n34; have t_n37 := n37; have t_c38 := neI c38; have t_b43 := b43; have t_c44 := neI c44; have t_c47 := lcm_ge_t c47; have : ((-4) : Int32).toInt = -4 := qI_m4; have tnb_ := nib8 tn1168_ tn1169_ tn1170_ tn1171_ tn1172_ tn1173_ tn1175_ tn1177_; have t_n8 : (nI ((j15 / 10) - 1)).toInt = ((((j15 / 10) - 1) : Nat) : Int) := nI_toInt (by omega); have t_n9 : (nI j27).toInt = (j27 : Int) := tn1179_ (); omega) (by have t_hj5 := hj5; have t_n7 := n7; have t_hj11 := hj11; have t_n14 := n14; have t_hj19 := hj19; have t_n22 := n22; have t_n24 := n24; have t_hj31 := hj31; have t_n34 := n34; have t_n37 := n37; have t_c38 := neI c38; have t_b43 := b43; have t_c44 := neI c44; have t_c47 := lcm_ge_t c47; have : ((-4) : Int32).toInt = -4 := qI_m4; have tnb_ := nib8 tn1168_ tn1169_ tn1170_ tn1171_ tn1172_ tn1173_ tn1175_ tn1177_; have t_n8 : (nI ((j15 / 10) - 1)).toInt = ((((j15 / 10) - 1) : Nat) : Int) := nI_toInt (by omega); have t_n9 : (nI j27).toInt = (j27 : Int) := tn1179_ (); omega) (by unfold b1; first | (rw [if_pos (by omega)]) | (rw [if_neg (by omega)])) (lcm_ge_t c47) hinv) hP hD hS ls (lv_sub hl [0, 2, 3, 4, 5, 6] rfl)
                                      · skip
                                        refine lv_lload hx hb dX11_layBest_200 (lv_at hl 0 rfl) ?_
                                        refine lv_goto (tgt := 216) hx hb dX11_layBest_202 rfl ?_
                                        refine va_last hx hb hK.1 hP hD hS 2 1 rfl rfl (vp_in_nI (by first | omega | (have t_hj5 := hj5; have t_n7 := n7; have t_hj11 := hj11; have t_n14 := n14; have t_hj19 := hj19; have t_n22 := n22; have t_n24 := n24; have t_hj31 := hj31; have t_n34 := n34; have t_n37 := n37; have t_c38 := neI c38; have t_b43 := b43; have t_c44 := neI c44; have t_c47 := lcm_ge_f c47; have : ((-4) : Int32).toInt = -4 := qI_m4; have tnb_ := nib8 tn1168_ tn1169_ tn1170_ tn1171_ tn1172_ tn1173_ tn1175_ tn1177_; have t_n8 : (nI ((j15 / 10) - 1)).toInt = ((((j15 / 10) - 1) : Nat) : Int) := nI_toInt (by omega); have t_n9 : (nI j27).toInt = (j27 : Int) := tn1179_ (); omega)) (by decide)) dX11_layBest_216 (fun H locs hP hD hS => ?_)
                                        rw [nI_clamp (by omega)] at hP hD
                                        refine lv_iinc (v := nI (j27 + 1)) (lv' := [(5, .int (nI (j27 + 1))), (6, .long (b1B fst g28 j8 ((j15 / 10) - 1) (j15 % 10) j27)), (4, .int (nI ((j15 / 10) - 1))), (3, .int (nI j15)), (2, .int (nI j8)), (0, .ref h0), (1, .int (-4))]) hx hb dX11_layBest_217 hl (k := 1) rfl (by rw [show Int32.ofInt 1 = nI 1 from by decide]; exact nI_add _ _) (by decide) rfl (fun ls hl => ?_)
                                        refine lv_goto (tgt := 114) hx hb dX11_layBest_220 rfl ?_
                                        exact ih114_29 (j27 + 1) (by omega) (by omega) (vp_updL g28 ((70 * j8) + j15) (b1B fst g28 j8 ((j15 / 10) - 1) (j15 % 10) j27)) _ _ (BI.lt hst (by have t_hj5 := hj5; have t_n7 := n7; have t_hj11 := hj11; have t_n14 := n14; have t_hj19 := hj19; have t_n22 := n22; have t_n24 := n24; have t_hj31 := hj31; have t_n34 := n34; have t_n37 := n37; have t_c38 := neI c38; have t_b43 := b43; have t_c44 := neI c44; have t_c47 := lcm_ge_f c47; have : ((-4) : Int32).toInt = -4 := qI_m4; have tnb_ := nib8 tn1168_ tn1169_ tn1170_ tn1171_ tn1172_ tn1173_ tn1175_ tn1177_; have t_n8 : (nI ((j15 / 10) - 1)).toInt = ((((j15 / 10) - 1) : Nat) : Int) := nI_toInt (by omega); have t_n9 : (nI j27).toInt = (j27 : Int) := tn1179_ (); omega) (by have t_hj5 := hj5; have t_n7 := n7; have t_hj11 := hj11; have t_n14 := n14; have t_hj19 := hj19; have t_n22 := n22; have t_n24 := n24; have t_hj31 := hj31; have t_n34 := n34; have t_n37 := n37; have t_c38 := neI c38; have t_b43 := b43; have t_c44 := neI c44; have t_c47 := lcm_ge_f c47; have : ((-4) : Int32).toInt = -4 := qI_m4; have tnb_ := nib8 tn1168_ tn1169_ tn1170_ tn1171_ tn1172_ tn1173_ tn1175_ tn1177_; have t_n8 : (nI ((j15 / 10) - 1)).toInt = ((((j15 / 10) - 1) : Nat) : Int) := nI_toInt (by omega); have t_n9 : (nI j27).toInt = (j27 : Int) := tn1179_ (); omega) (by have t_hj5 := hj5; have t_n7 := n7; have t_hj11 := hj11; have t_n14 := n14; have t_hj19 := hj19; have t_n22 := n22; have t_n24 := n24; have t_hj31 := hj31; have t_n34 := n34; have t_n37 := n37; have t_c38 := neI c38; have t_b43 := b43; have t_c44 := neI c44; have t_c47 := lcm_ge_f c47; have : ((-4) : Int32).toInt = -4 := qI_m4; have tnb_ := nib8 tn1168_ tn1169_ tn1170_ tn1171_ tn1172_ tn1173_ tn1175_ tn1177_; have t_n8 : (nI ((j15 / 10) - 1)).toInt = ((((j15 / 10) - 1) : Nat) : Int) := nI_toInt (by omega); have t_n9 : (nI j27).toInt = (j27 : Int) := tn1179_ (); omega) (by have t_hj5 := hj5; have t_n7 := n7; have t_hj11 := hj11; have t_n14 := n14; have t_hj19 := hj19; have t_n22 := n22; have t_n24 := n24; have t_hj31 := hj31; have t_n34 := n34; have t_n37 := n37; have t_c38 := neI c38; have t_b43 := b43; have t_c44 := neI c44; have t_c47 := lcm_ge_f c47; have : ((-4) : Int32).toInt = -4 := qI_m4; have tnb_ := nib8 tn1168_ tn1169_ tn1170_ tn1171_ tn1172_ tn1173_ tn1175_ tn1177_; have t_n8 : (nI ((j15 / 10) - 1)).toInt = ((((j15 / 10) - 1) : Nat) : Int) := nI_toInt (by omega); have t_n9 : (nI j27).toInt = (j27 : Int) := tn1179_ (); omega) (by have t_hj5 := hj5; have t_n7 := n7; have t_hj11 := hj11; have t_n14 := n14; have t_hj19 := hj19; have t_n22 := n22; have t_n24 := n24; have t_hj31 := hj31; have t_n34 := n34; have t_n37 := n37; have t_c38 := neI c38; have t_b43 := b43; have t_c44 := neI c44; have t_c47 := lcm_ge_f c47; have : ((-4) : Int32).toInt = -4 := qI_m4; have tnb_ := nib8 tn1168_ tn1169_ tn1170_ tn1171_ tn1172_ tn1173_ tn1175_ tn1177_; have t_n8 : (nI ((j15 / 10) - 1)).toInt = ((((j15 / 10) - 1) : Nat) : Int) := nI_toInt (by omega); have t_n9 : (nI j27).toInt = (j27 : Int) := tn1179_ (); omega) (by have t_hj5 := hj5; have t_n7 := n7; have t_hj11 := hj11; have t_n14 := n14; have t_hj19 := hj19; have t_n22 := n22; have t_n24 := n24; have t_hj31 := hj31; have t_n34 := n34; have t_n37 := n37; have t_c38 := neI c38; have t_b43 := b43; have t_c44 := neI c44; have t_c47 := lcm_ge_f c47; have : ((-4) : Int32).toInt = -4 := qI_m4; have tnb_ := nib8 tn1168_ tn1169_ tn1170_ tn1171_ tn1172_ tn1173_ tn1175_ tn1177_; have t_n8 : (nI ((j15 / 10) - 1)).toInt = ((((j15 / 10) - 1) : Nat) : Int) := nI_toInt (by omega); have t_n9 : (nI j27).toInt = (j27 : Int) := tn1179_ (); omega) (by unfold b1; first | (rw [if_pos (by omega)]) | (rw [if_neg (by omega)])) hinv) hP hD hS ls (lv_sub hl [0, 2, 3, 4, 5, 6] rfl)
                                    · skip
                                      have t_hj5 := hj5
                                      have t_n7 := n7
                                      have t_hj11 := hj11
                                      have t_n14 := n14
                                      have t_hj19 := hj19
                                      have t_n22 := n22
                                      have t_n24 := n24
                                      have t_hj31 := hj31
                                      have t_n34 := n34
                                      have t_n37 := n37
                                      have t_c38 := neI c38
                                      have t_b43 := b43
                                      have t_c44 := eqI c44
                                      have : ((-4) : Int32).toInt = -4 := qI_m4
                                      have t_n0 : (nI N).toInt = (N : Int) := tn1168_ ()
                                      have t_n1 : (nI B).toInt = (B : Int) := tn1169_ ()
                                      have t_n2 : (nI T).toInt = (T : Int) := tn1170_ ()
                                      have t_n3 : (nI S).toInt = (S : Int) := tn1171_ ()
                                      have t_n4 : (nI M).toInt = (M : Int) := tn1172_ ()
                                      have t_n5 : (nI j1).toInt = (j1 : Int) := tn1173_ ()
                                      have t_n6 : (nI j8).toInt = (j8 : Int) := tn1175_ ()
                                      have t_n7 : (nI j15).toInt = (j15 : Int) := tn1177_ ()
                                      have t_n8 : (nI ((j15 / 10) - 1)).toInt = ((((j15 / 10) - 1) : Nat) : Int) := nI_toInt (by omega)
                                      have t_n9 : (nI j27).toInt = (j27 : Int) := tn1179_ ()
                                      exfalso; omega
                        exact loop114_29 (B + 1) 0 (by omega) (by omega) (vp_updL g16 ((70 * j8) + j15) y25) _ _ (BI.ini hinv (by have t_hj5 := hj5; have t_n7 := n7; have t_hj11 := hj11; have t_n14 := n14; have t_hj19 := hj19; have t_n22 := n22; have t_n24 := n24; have tnb_ := nib8 tn1168_ tn1169_ tn1170_ tn1171_ tn1172_ tn1173_ tn1175_ tn1177_; have t_n8 : (nI ((j15 / 10) - 1)).toInt = ((((j15 / 10) - 1) : Nat) : Int) := nI_toInt (by omega); omega) hcut) hP hD hS ls (lv_sub hl [0, 1, 2, 3, 4, 5] rfl)
                      refine lv_if_ne (tgt := 107) hx hb dX11_layBest_92 rfl (fun c48 => ?_) (fun c48 => ?_)
                      · skip
                        have tn1183_ : nIT (j15 % 10) := fun _ => nI_toInt (by first | omega | (have t := neI c48; omega))
                        have n49 : (j15 % 10) ≠ 0 := by have t := neI c48; rw [show (nI (j15 % 10)).toInt = ((j15 % 10 : Nat) : Int) from tn1183_ ()] at t; have : (0 : Int32).toInt = 0 := qI_0; omega
                        refine lv_ldc2 (v := 4000000000000000000) hx hb hown (hg _ wt_1154) dX11_layBest_107 ?_
                        exact cut110_26 4000000000000000000 _ _ (by first | exact Or.inl ⟨by omega, rfl⟩ | exact Or.inr ⟨by omega, rfl⟩) hP hD hS ls (lv_sub hl [0, 1, 2, 3, 4] rfl)
                      · skip
                        have tn1184_ : nIT (j15 % 10) := fun _ => nI_toInt (by first | omega | (have t := eqI c48; omega))
                        have n50 : (j15 % 10) = 0 := by have t := eqI c48; rw [show (nI (j15 % 10)).toInt = ((j15 % 10 : Nat) : Int) from tn1184_ ()] at t; have : (0 : Int32).toInt = 0 := qI_0; omega
                        refine lv_aload_n hx hb dX11_layBest_95 rfl (lv_at hl 3 rfl) ?_
                        refine va_get (D := (dC, dI)) (ci := 11) (v := .int (nI N)) (C := RX11) (T := TX11) (N := 35) hx hb hg inG11 hown hK.1 hP 0 rfl rfl 1 (Nat.le_of_ble_eq_true rfl) (hg _ wt_879) (fun _ h9 => h9) rfl dX11_layBest_96 ?_
                        refine lv_iload_n hx hb dX11_layBest_99 rfl (lv_at hl 2 rfl) ?_
                        refine lv_isub hx hb dX11_layBest_100 ?_
                        refine lv_cg (y := nI (N - j8)) (by exact pk_sub (by have t_hj5 := hj5; have t_n7 := n7; have t_hj11 := hj11; have t_n14 := n14; have t_hj19 := hj19; have t_n22 := n22; have t_n24 := n24; have t_n50 := n50; have tnb_ := nib8 tn1168_ tn1169_ tn1170_ tn1171_ tn1172_ tn1173_ tn1175_ tn1177_; have t_n8 : (nI ((j15 / 10) - 1)).toInt = ((((j15 / 10) - 1) : Nat) : Int) := nI_toInt (by omega); omega)) ?_
                        have hPc := hP.sub (ws' := []) [] rfl
                        refine va_calll (va_runS (As := [.int (nI (N - j8))]) (rest := [.int (nI ((70 * j8) + j15)), .ref be]) ⟨hx, hb, hml, hown, hg⟩ (c_X11_power l dC dI G _ (N - j8) (by first | omega | (have t_hj5 := hj5; have t_n7 := n7; have t_hj11 := hj11; have t_n14 := n14; have t_hj19 := hj19; have t_n22 := n22; have t_n24 := n24; have t_n50 := n50; have tnb_ := nib8 tn1168_ tn1169_ tn1170_ tn1171_ tn1172_ tn1173_ tn1175_ tn1177_; have t_n8 : (nI ((j15 / 10) - 1)).toInt = ((((j15 / 10) - 1) : Nat) : Int) := nI_toInt (by omega); omega))) (kwS hg mfX11_power wt_1131 ⟨Nat.le_of_ble_eq_true rfl, Nat.le_of_ble_eq_true rfl⟩) (preSR hK hPc) rfl rfl hl.1 rfl (lv_room (Nat.le_of_ble_eq_true rfl)) dX11_layBest_101 ⟨Nat.le_of_ble_eq_true rfl, Nat.le_of_ble_eq_true rfl⟩) hS (fun q h1 h2 => absurd h2 (Nat.not_le.mpr h1)) (fun q h => hA q (Nat.le_trans hS.1 h)) (fun r51 ur51 t H1 locs ht hvm w52 hB hz1 hk1 hS => ?_)
                        have hP := keepR hP hk1
                        obtain ⟨w52, w52x⟩ := w52
                        subst w52
                        refine lv_goto (tgt := 110) hx hb dX11_layBest_104 rfl ?_
                        exact cut110_26 (powF (N - j8)) _ _ (by first | exact Or.inl ⟨by omega, rfl⟩ | exact Or.inr ⟨by omega, rfl⟩) hP hD hS ls (lv_sub hl [0, 1, 2, 3, 4] rfl)
                    · skip
                      have n53 : j15 < 10 := by have t := nleI c23; rw [show (nI (j15)).toInt = ((j15 : Nat) : Int) from tn1177_ ()] at t; have : (10 : Int32).toInt = 10 := qI_10; omega
                      refine lv_bipush (v := (-4)) hx hb dX11_layBest_65 rfl ?_
                      refine lv_goto (tgt := 76) hx hb dX11_layBest_67 rfl ?_
                      refine lv_istore (lv' := [(4, .int (-4)), (3, .int (nI j15)), (2, .int (nI j8)), (0, .ref h0), (1, .int (-4))]) hx hb dX11_layBest_76 hl (by decide) rfl (fun ls hl => ?_)
                      refine lv_aload_n hx hb dX11_layBest_78 rfl (lv_at hl 3 rfl) ?_
                      refine va_get (D := (dC, dI)) (ci := 11) (v := .ref be) (C := RX11) (T := TX11) (N := 35) hx hb hg inG11 hown hK.1 hP 0 rfl rfl 23 (Nat.le_of_ble_eq_true rfl) (hg _ wt_901) (fun _ h9 => h9) rfl dX11_layBest_79 ?_
                      refine lv_bipush (v := 70) hx hb dX11_layBest_82 rfl ?_
                      refine lv_iload_n hx hb dX11_layBest_84 rfl (lv_at hl 2 rfl) ?_
                      refine lv_imul hx hb dX11_layBest_85 ?_
                      refine lv_cg (y := nI (70 * j8)) (by rw [show (70 : Int32) = nI 70 from rfl]; exact pk_mul _ _) ?_
                      refine lv_iload_n hx hb dX11_layBest_86 rfl (lv_at hl 1 rfl) ?_
                      refine lv_iadd hx hb dX11_layBest_87 ?_
                      refine lv_cg (y := nI ((70 * j8) + j15)) (by exact nI_add _ _) ?_
                      refine lv_iload_n hx hb dX11_layBest_88 rfl (lv_at hl 1 rfl) ?_
                      refine lv_bipush (v := 10) hx hb dX11_layBest_89 rfl ?_
                      refine lv_irem hx hb dX11_layBest_91 (by decide) ?_
                      refine lv_cg (y := nI (j15 % 10)) (by rw [show (10 : Int32) = nI 10 from rfl]; exact pk_rem (by omega) (by omega) (by omega)) ?_
                      have cut110_55 : ∀ (y54 : Int64) (H : Heap) (locs : List Loc), ((j15 % 10 = 0 ∧ y54 = powF (N - j8)) ∨ (j15 % 10 ≠ 0 ∧ y54 = 4000000000000000000)) → va_P (dC, dI) vwCl [(h0, .inr (11, [.ref st, .int (nI N), .int (nI B), .ref rp, .int vrs, .int vrb, .int vhs, .int vca, .int vxs, .int vxb, .ref tp, .int (nI T), .int vfa, .int vbr, .int vba, .int vsp, .int vhe, .int vtk, .int vva, .ref cu, .ref lt, .ref od, .ref th, .ref be, .ref ln, .int (nI S), .ref ma, .int (nI M), .ref ah, .ref bh, .ref ik, .ref la, .ref lg, .ref ce, .int vto])), (st, .inl (G 0, 196, .inl fst)), (be, .inl (G 1, 770, .inr (.inl g16)))] H → va_D A [(h0, .inr (11, [.ref st, .int (nI N), .int (nI B), .ref rp, .int vrs, .int vrb, .int vhs, .int vca, .int vxs, .int vxb, .ref tp, .int (nI T), .int vfa, .int vbr, .int vba, .int vsp, .int vhe, .int vtk, .int vva, .ref cu, .ref lt, .ref od, .ref th, .ref be, .ref ln, .int (nI S), .ref ma, .int (nI M), .ref ah, .ref bh, .ref ik, .ref la, .ref lg, .ref ce, .int vto])), (st, .inl (G 0, 196, .inl fst)), (be, .inl (G 1, 770, .inr (.inl g16)))] → va_S A s.heap H locs → ∀ (ls : Array Slot), lv_has ls 8 [(4, .int (-4)), (3, .int (nI j15)), (2, .int (nI j8)), (0, .ref h0), (1, .int (-4))] → W p l e (headSpec (Cond.code yX11_layBest cX11_layBest 8 none :: GT) ({ frames := 3, cells := 0, slots := 0, locals := 75 } : Room)).room s m ([.ref h0, .int (-4)] : List Value).toArray below meth c H locs 0 0 (MQ below (va_Qv (fun (u : (Nat → Int64)) => match u with | obe => RI fst N B 0 obe) (fun (u : (Nat → Int64)) (t : State) => match u with | obe => va_P (dC, dI) vwCl [(h0, .inr (11, [.ref st, .int (nI N), .int (nI B), .ref rp, .int vrs, .int vrb, .int vhs, .int vca, .int vxs, .int vxb, .ref tp, .int (nI T), .int vfa, .int vbr, .int vba, .int vsp, .int vhe, .int vtk, .int vva, .ref cu, .ref lt, .ref od, .ref th, .ref be, .ref ln, .int (nI S), .ref ma, .int (nI M), .ref ah, .ref bh, .ref ik, .ref la, .ref lg, .ref ce, .int vto])), (st, .inl (G 0, 196, .inl fst)), (be, .inl (G 1, 770, .inr (.inl obe)))] t.heap ∧ va_D A [(h0, .inr (11, [.ref st, .int (nI N), .int (nI B), .ref rp, .int vrs, .int vrb, .int vhs, .int vca, .int vxs, .int vxb, .ref tp, .int (nI T), .int vfa, .int vbr, .int vba, .int vsp, .int vhe, .int vtk, .int vva, .ref cu, .ref lt, .ref od, .ref th, .ref be, .ref ln, .int (nI S), .ref ma, .int (nI M), .ref ah, .ref bh, .ref ik, .ref la, .ref lg, .ref ce, .int vto])), (st, .inl (G 0, 196, .inl fst)), (be, .inl (G 1, 770, .inr (.inl obe)))]) A) ([.ref h0, .int (-4)] : List Value).toArray s 0 0 A) (F0 m 110 ls [.long y54, .int (nI ((70 * j8) + j15)), .ref be]) := by
                        intro y54 H locs hcut hP hD hS ls hl
                        refine va_last hx hb hK.1 hP hD hS 2 1 rfl rfl (vp_in_nI (by first | omega | (have t_hj5 := hj5; have t_n7 := n7; have t_hj11 := hj11; have t_n14 := n14; have t_hj19 := hj19; have t_n22 := n22; have t_n53 := n53; have tnb_ := nib8 tn1168_ tn1169_ tn1170_ tn1171_ tn1172_ tn1173_ tn1175_ tn1177_; omega)) (by decide)) dX11_layBest_110 (fun H locs hP hD hS => ?_)
                        rw [nI_clamp (by omega)] at hP hD
                        refine lv_iconst (v := 0) hx hb dX11_layBest_111 rfl ?_
                        refine lv_istore (lv' := [(5, .int 0), (4, .int (-4)), (3, .int (nI j15)), (2, .int (nI j8)), (0, .ref h0), (1, .int (-4))]) hx hb dX11_layBest_112 hl (by decide) rfl (fun ls hl => ?_)
                        have loop114_58 : ∀ (nf j56 : Nat), B + 1 ≤ j56 + nf → j56 ≤ B → ∀ (g57 : Nat → Int64) (H : Heap) (locs : List Loc), BI fst N B j8 j15 j56 g57 → va_P (dC, dI) vwCl [(h0, .inr (11, [.ref st, .int (nI N), .int (nI B), .ref rp, .int vrs, .int vrb, .int vhs, .int vca, .int vxs, .int vxb, .ref tp, .int (nI T), .int vfa, .int vbr, .int vba, .int vsp, .int vhe, .int vtk, .int vva, .ref cu, .ref lt, .ref od, .ref th, .ref be, .ref ln, .int (nI S), .ref ma, .int (nI M), .ref ah, .ref bh, .ref ik, .ref la, .ref lg, .ref ce, .int vto])), (st, .inl (G 0, 196, .inl fst)), (be, .inl (G 1, 770, .inr (.inl g57)))] H → va_D A [(h0, .inr (11, [.ref st, .int (nI N), .int (nI B), .ref rp, .int vrs, .int vrb, .int vhs, .int vca, .int vxs, .int vxb, .ref tp, .int (nI T), .int vfa, .int vbr, .int vba, .int vsp, .int vhe, .int vtk, .int vva, .ref cu, .ref lt, .ref od, .ref th, .ref be, .ref ln, .int (nI S), .ref ma, .int (nI M), .ref ah, .ref bh, .ref ik, .ref la, .ref lg, .ref ce, .int vto])), (st, .inl (G 0, 196, .inl fst)), (be, .inl (G 1, 770, .inr (.inl g57)))] → va_S A s.heap H locs → ∀ (ls : Array Slot), lv_has ls 8 [(5, .int (nI j56)), (4, .int (-4)), (3, .int (nI j15)), (2, .int (nI j8)), (0, .ref h0), (1, .int (-4))] → W p l e (headSpec (Cond.code yX11_layBest cX11_layBest 8 none :: GT) ({ frames := 3, cells := 0, slots := 0, locals := 75 } : Room)).room s m ([.ref h0, .int (-4)] : List Value).toArray below meth c H locs 0 0 (MQ below (va_Qv (fun (u : (Nat → Int64)) => match u with | obe => RI fst N B 0 obe) (fun (u : (Nat → Int64)) (t : State) => match u with | obe => va_P (dC, dI) vwCl [(h0, .inr (11, [.ref st, .int (nI N), .int (nI B), .ref rp, .int vrs, .int vrb, .int vhs, .int vca, .int vxs, .int vxb, .ref tp, .int (nI T), .int vfa, .int vbr, .int vba, .int vsp, .int vhe, .int vtk, .int vva, .ref cu, .ref lt, .ref od, .ref th, .ref be, .ref ln, .int (nI S), .ref ma, .int (nI M), .ref ah, .ref bh, .ref ik, .ref la, .ref lg, .ref ce, .int vto])), (st, .inl (G 0, 196, .inl fst)), (be, .inl (G 1, 770, .inr (.inl obe)))] t.heap ∧ va_D A [(h0, .inr (11, [.ref st, .int (nI N), .int (nI B), .ref rp, .int vrs, .int vrb, .int vhs, .int vca, .int vxs, .int vxb, .ref tp, .int (nI T), .int vfa, .int vbr, .int vba, .int vsp, .int vhe, .int vtk, .int vva, .ref cu, .ref lt, .ref od, .ref th, .ref be, .ref ln, .int (nI S), .ref ma, .int (nI M), .ref ah, .ref bh, .ref ik, .ref la, .ref lg, .ref ce, .int vto])), (st, .inl (G 0, 196, .inl fst)), (be, .inl (G 1, 770, .inr (.inl obe)))]) A) ([.ref h0, .int (-4)] : List Value).toArray s 0 0 A) (F0 m 114 ls []) := by
                          intro nf
                          induction nf with
                          | zero => intro j56 h1 h2; exact absurd h1 (by omega)
                          | succ nf ih114_58 =>
                            intro j56 hn59 hj60 g57 H locs hinv hP hD hS ls hl
                            refine lv_iload hx hb dX11_layBest_114 (lv_at hl 0 rfl) ?_
                            refine lv_aload_n hx hb dX11_layBest_116 rfl (lv_at hl 4 rfl) ?_
                            refine va_get (D := (dC, dI)) (ci := 11) (v := .int (nI B)) (C := RX11) (T := TX11) (N := 35) hx hb hg inG11 hown hK.1 hP 0 rfl rfl 2 (Nat.le_of_ble_eq_true rfl) (hg _ wt_880) (fun _ h9 => h9) rfl dX11_layBest_117 ?_
                            refine lv_icmp_ge (tgt := 223) hx hb dX11_layBest_120 rfl (fun c61 => ?_) (fun c61 => ?_)
                            · skip
                              have tn1185_ : nIT j56 := fun _ => nI_toInt (by first | omega | (have t := leI c61; omega))
                              have n62 : B ≤ j56 := by have t := leI c61; rw [show (nI (j56)).toInt = ((j56 : Nat) : Int) from tn1185_ ()] at t; rw [show (nI (B)).toInt = ((B : Nat) : Int) from tn1169_ ()] at t; omega
                              refine lv_iinc (v := nI (j15 + 1)) (lv' := [(3, .int (nI (j15 + 1))), (5, .int (nI j56)), (4, .int (-4)), (2, .int (nI j8)), (0, .ref h0), (1, .int (-4))]) hx hb dX11_layBest_223 hl (k := 2) rfl (by rw [show Int32.ofInt 1 = nI 1 from by decide]; exact nI_add _ _) (by decide) rfl (fun ls hl => ?_)
                              refine lv_goto (tgt := 53) hx hb dX11_layBest_226 rfl ?_
                              exact ih53_17 (j15 + 1) (by omega) (by omega) g57 _ _ (BI.out (by have t_hj5 := hj5; have t_n7 := n7; have t_hj11 := hj11; have t_n14 := n14; have t_hj19 := hj19; have t_n22 := n22; have t_n53 := n53; have t_hj60 := hj60; have t_n62 := n62; have tnb_ := nib9 tn1168_ tn1169_ tn1170_ tn1171_ tn1172_ tn1173_ tn1175_ tn1177_ tn1185_; omega) (by have t_hj5 := hj5; have t_n7 := n7; have t_hj11 := hj11; have t_n14 := n14; have t_hj19 := hj19; have t_n22 := n22; have t_n53 := n53; have t_hj60 := hj60; have t_n62 := n62; have tnb_ := nib9 tn1168_ tn1169_ tn1170_ tn1171_ tn1172_ tn1173_ tn1175_ tn1177_ tn1185_; omega) (by have t_hj5 := hj5; have t_n7 := n7; have t_hj11 := hj11; have t_n14 := n14; have t_hj19 := hj19; have t_n22 := n22; have t_n53 := n53; have t_hj60 := hj60; have t_n62 := n62; have tnb_ := nib9 tn1168_ tn1169_ tn1170_ tn1171_ tn1172_ tn1173_ tn1175_ tn1177_ tn1185_; omega) (by have t_hj5 := hj5; have t_n7 := n7; have t_hj11 := hj11; have t_n14 := n14; have t_hj19 := hj19; have t_n22 := n22; have t_n53 := n53; have t_hj60 := hj60; have t_n62 := n62; have tnb_ := nib9 tn1168_ tn1169_ tn1170_ tn1171_ tn1172_ tn1173_ tn1175_ tn1177_ tn1185_; omega) hinv) hP hD hS ls (lv_sub hl [0, 3, 4, 5] rfl)
                            · skip
                              have tn1186_ : nIT j56 := fun _ => nI_toInt (by first | omega | (have t := nleI c61; omega))
                              have n63 : j56 < B := by have t := nleI c61; rw [show (nI (j56)).toInt = ((j56 : Nat) : Int) from tn1186_ ()] at t; rw [show (nI (B)).toInt = ((B : Nat) : Int) from tn1169_ ()] at t; omega
                              refine lv_iload_n hx hb dX11_layBest_123 rfl (lv_at hl 2 rfl) ?_
                              refine lv_bipush (v := 10) hx hb dX11_layBest_124 rfl ?_
                              refine lv_irem hx hb dX11_layBest_126 (by decide) ?_
                              refine lv_cg (y := nI (j15 % 10)) (by rw [show (10 : Int32) = nI 10 from rfl]; exact pk_rem (by omega) (by omega) (by omega)) ?_
                              refine lv_if_le (tgt := 223) hx hb dX11_layBest_127 rfl (fun c64 => ?_) (fun c64 => ?_)
                              · skip
                                have tn1187_ : nIT (j15 % 10) := fun _ => nI_toInt (by first | omega | (have t := leI c64; omega))
                                have n65 : (j15 % 10) ≤ 0 := by have t := leI c64; rw [show (nI (j15 % 10)).toInt = ((j15 % 10 : Nat) : Int) from tn1187_ ()] at t; have : (0 : Int32).toInt = 0 := qI_0; omega
                                refine lv_iinc (v := nI (j15 + 1)) (lv' := [(3, .int (nI (j15 + 1))), (5, .int (nI j56)), (4, .int (-4)), (2, .int (nI j8)), (0, .ref h0), (1, .int (-4))]) hx hb dX11_layBest_223 hl (k := 2) rfl (by rw [show Int32.ofInt 1 = nI 1 from by decide]; exact nI_add _ _) (by decide) rfl (fun ls hl => ?_)
                                refine lv_goto (tgt := 53) hx hb dX11_layBest_226 rfl ?_
                                exact ih53_17 (j15 + 1) (by omega) (by omega) g57 _ _ (BI.out (by have t_hj5 := hj5; have t_n7 := n7; have t_hj11 := hj11; have t_n14 := n14; have t_hj19 := hj19; have t_n22 := n22; have t_n53 := n53; have t_hj60 := hj60; have t_n63 := n63; have t_n65 := n65; have tnb_ := nib9 tn1168_ tn1169_ tn1170_ tn1171_ tn1172_ tn1173_ tn1175_ tn1177_ tn1186_; omega) (by have t_hj5 := hj5; have t_n7 := n7; have t_hj11 := hj11; have t_n14 := n14; have t_hj19 := hj19; have t_n22 := n22; have t_n53 := n53; have t_hj60 := hj60; have t_n63 := n63; have t_n65 := n65; have tnb_ := nib9 tn1168_ tn1169_ tn1170_ tn1171_ tn1172_ tn1173_ tn1175_ tn1177_ tn1186_; omega) (by have t_hj5 := hj5; have t_n7 := n7; have t_hj11 := hj11; have t_n14 := n14; have t_hj19 := hj19; have t_n22 := n22; have t_n53 := n53; have t_hj60 := hj60; have t_n63 := n63; have t_n65 := n65; have tnb_ := nib9 tn1168_ tn1169_ tn1170_ tn1171_ tn1172_ tn1173_ tn1175_ tn1177_ tn1186_; omega) (by have t_hj5 := hj5; have t_n7 := n7; have t_hj11 := hj11; have t_n14 := n14; have t_hj19 := hj19; have t_n22 := n22; have t_n53 := n53; have t_hj60 := hj60; have t_n63 := n63; have t_n65 := n65; have tnb_ := nib9 tn1168_ tn1169_ tn1170_ tn1171_ tn1172_ tn1173_ tn1175_ tn1177_ tn1186_; omega) hinv) hP hD hS ls (lv_sub hl [0, 3, 4, 5] rfl)
                              · skip
                                have tn1188_ : nIT (j15 % 10) := fun _ => nI_toInt (by first | omega | (have t := nleI c64; omega))
                                have n66 : 0 < (j15 % 10) := by have t := nleI c64; rw [show (nI (j15 % 10)).toInt = ((j15 % 10 : Nat) : Int) from tn1188_ ()] at t; have : (0 : Int32).toInt = 0 := qI_0; omega
                                refine lv_iload hx hb dX11_layBest_130 (lv_at hl 1 rfl) ?_
                                refine lv_bipush (v := (-4)) hx hb dX11_layBest_132 rfl ?_
                                refine lv_icmp_eq (tgt := 146) hx hb dX11_layBest_134 rfl (fun c67 => ?_) (fun c67 => ?_)
                                · skip
                                  refine lv_iload hx hb dX11_layBest_146 (lv_at hl 0 rfl) ?_
                                  refine lv_iload_n hx hb dX11_layBest_148 rfl (lv_at hl 5 rfl) ?_
                                  refine lv_icmp_ne (tgt := 158) hx hb dX11_layBest_149 rfl (fun c68 => ?_) (fun c68 => ?_)
                                  · skip
                                    refine lv_aload_n hx hb dX11_layBest_158 rfl (lv_at hl 4 rfl) ?_
                                    refine lv_iload_n hx hb dX11_layBest_159 rfl (lv_at hl 3 rfl) ?_
                                    refine lv_iload hx hb dX11_layBest_160 (lv_at hl 1 rfl) ?_
                                    refine lv_iload_n hx hb dX11_layBest_162 rfl (lv_at hl 2 rfl) ?_
                                    refine lv_bipush (v := 10) hx hb dX11_layBest_163 rfl ?_
                                    refine lv_irem hx hb dX11_layBest_165 (by decide) ?_
                                    refine lv_cg (y := nI (j15 % 10)) (by rw [show (10 : Int32) = nI 10 from rfl]; exact pk_rem (by omega) (by omega) (by omega)) ?_
                                    refine lv_iload hx hb dX11_layBest_166 (lv_at hl 0 rfl) ?_
                                    have hPc := hP.sub (ws' := [(h0, .inr (11, [.ref st, .int (nI N), .int (nI B), .ref rp, .int vrs, .int vrb, .int vhs, .int vca, .int vxs, .int vxb, .ref tp, .int (nI T), .int vfa, .int vbr, .int vba, .int vsp, .int vhe, .int vtk, .int vva, .ref cu, .ref lt, .ref od, .ref th, .ref be, .ref ln, .int (nI S), .ref ma, .int (nI M), .ref ah, .ref bh, .ref ik, .ref la, .ref lg, .ref ce, .int vto])), (st, .inl (G 0, 196, .inl fst)), (be, .inl (G 1, 770, .inr (.inl g57)))]) [0, 1, 2] rfl
                                    refine va_calll (va_runV (As := [.int (nI j8), .int (-4), .int (nI (j15 % 10)), .int (nI j56)]) (rest := []) ⟨hx, hb, hml, hown, hg⟩ (c_X11_byOneN l dC dI G _ h0 j8 (j15 % 10) j56 st N B rp tp T cu lt od th be ln S ma M ah bh ik la lg ce vrs vrb vhs vca vxs vxb vfa vbr vba vsp vhe vtk vva vto fst g57 hN hB_ hT_ hS0 hM_ (by first | omega | (have t_hj5 := hj5; have t_n7 := n7; have t_hj11 := hj11; have t_n14 := n14; have t_hj19 := hj19; have t_n22 := n22; have t_n53 := n53; have t_hj60 := hj60; have t_n63 := n63; have t_n66 := n66; have t_c67 := eqI c67; have t_c68 := neI c68; have : ((-4) : Int32).toInt = -4 := qI_m4; have tnb_ := nib9 tn1168_ tn1169_ tn1170_ tn1171_ tn1172_ tn1173_ tn1175_ tn1177_ tn1186_; have : ((-4) : Int32).toInt = -4 := qI_m4; omega)) (by first | omega | (have t_hj5 := hj5; have t_n7 := n7; have t_hj11 := hj11; have t_n14 := n14; have t_hj19 := hj19; have t_n22 := n22; have t_n53 := n53; have t_hj60 := hj60; have t_n63 := n63; have t_n66 := n66; have t_c67 := eqI c67; have t_c68 := neI c68; have : ((-4) : Int32).toInt = -4 := qI_m4; have tnb_ := nib9 tn1168_ tn1169_ tn1170_ tn1171_ tn1172_ tn1173_ tn1175_ tn1177_ tn1186_; have : ((-4) : Int32).toInt = -4 := qI_m4; omega)) (by first | omega | (have t_hj5 := hj5; have t_n7 := n7; have t_hj11 := hj11; have t_n14 := n14; have t_hj19 := hj19; have t_n22 := n22; have t_n53 := n53; have t_hj60 := hj60; have t_n63 := n63; have t_n66 := n66; have t_c67 := eqI c67; have t_c68 := neI c68; have : ((-4) : Int32).toInt = -4 := qI_m4; have tnb_ := nib9 tn1168_ tn1169_ tn1170_ tn1171_ tn1172_ tn1173_ tn1175_ tn1177_ tn1186_; have : ((-4) : Int32).toInt = -4 := qI_m4; omega))) (kwV hg mfX11_byOne wt_1155 ⟨Nat.le_of_ble_eq_true rfl, Nat.le_of_ble_eq_true rfl⟩) (preVR hK hPc (ci := 11) (r := (RX11, TX11, 35)) rfl rfl) rfl rfl hl.1 rfl (lv_room (Nat.le_of_ble_eq_true rfl)) dX11_layBest_168 ⟨Nat.le_of_ble_eq_true rfl, Nat.le_of_ble_eq_true rfl⟩) hS (fun q h1 h2 => absurd h2 (Nat.not_le.mpr h1)) (fun q h => hA q (Nat.le_trans hS.1 h)) (fun r69 ur69 t H1 locs ht hvm w70 hB hz1 hk1 hS => ?_)
                                    have hP := keepR hP hk1
                                    obtain ⟨w70, w70x⟩ := w70
                                    subst w70
                                    refine lv_lstore (lv' := [(6, .long (b1N fst g57 j8 (j15 % 10) j56)), (5, .int (nI j56)), (4, .int (-4)), (3, .int (nI j15)), (2, .int (nI j8)), (0, .ref h0), (1, .int (-4))]) hx hb dX11_layBest_171 hl (by decide) rfl (fun ls hl => ?_)
                                    refine lv_aload_n hx hb dX11_layBest_173 rfl (lv_at hl 5 rfl) ?_
                                    refine va_get (D := (dC, dI)) (ci := 11) (v := .ref be) (C := RX11) (T := TX11) (N := 35) hx hb hg inG11 hown hK.1 hP 0 rfl rfl 23 (Nat.le_of_ble_eq_true rfl) (hg _ wt_901) (fun _ h9 => h9) rfl dX11_layBest_174 ?_
                                    refine lv_bipush (v := 70) hx hb dX11_layBest_177 rfl ?_
                                    refine lv_iload_n hx hb dX11_layBest_179 rfl (lv_at hl 4 rfl) ?_
                                    refine lv_imul hx hb dX11_layBest_180 ?_
                                    refine lv_cg (y := nI (70 * j8)) (by rw [show (70 : Int32) = nI 70 from rfl]; exact pk_mul _ _) ?_
                                    refine lv_iload_n hx hb dX11_layBest_181 rfl (lv_at hl 3 rfl) ?_
                                    refine lv_iadd hx hb dX11_layBest_182 ?_
                                    refine lv_cg (y := nI ((70 * j8) + j15)) (by exact nI_add _ _) ?_
                                    refine lv_lload hx hb dX11_layBest_183 (lv_at hl 0 rfl) ?_
                                    refine lv_aload_n hx hb dX11_layBest_185 rfl (lv_at hl 5 rfl) ?_
                                    refine va_get (D := (dC, dI)) (ci := 11) (v := .ref be) (C := RX11) (T := TX11) (N := 35) hx hb hg inG11 hown hK.1 hP 0 rfl rfl 23 (Nat.le_of_ble_eq_true rfl) (hg _ wt_901) (fun _ h9 => h9) rfl dX11_layBest_186 ?_
                                    refine lv_bipush (v := 70) hx hb dX11_layBest_189 rfl ?_
                                    refine lv_iload_n hx hb dX11_layBest_191 rfl (lv_at hl 4 rfl) ?_
                                    refine lv_imul hx hb dX11_layBest_192 ?_
                                    refine lv_cg (y := nI (70 * j8)) (by rw [show (70 : Int32) = nI 70 from rfl]; exact pk_mul _ _) ?_
                                    refine lv_iload_n hx hb dX11_layBest_193 rfl (lv_at hl 3 rfl) ?_
                                    refine lv_iadd hx hb dX11_layBest_194 ?_
                                    refine lv_cg (y := nI ((70 * j8) + j15)) (by exact nI_add _ _) ?_
                                    refine va_lald hx hb hK.1 hP 2 1 rfl rfl (vp_in_nI (by first | omega | (have t_hj5 := hj5; have t_n7 := n7; have t_hj11 := hj11; have t_n14 := n14; have t_hj19 := hj19; have t_n22 := n22; have t_n53 := n53; have t_hj60 := hj60; have t_n63 := n63; have t_n66 := n66; have t_c67 := eqI c67; have t_c68 := neI c68; have : ((-4) : Int32).toInt = -4 := qI_m4; have tnb_ := nib9 tn1168_ tn1169_ tn1170_ tn1171_ tn1172_ tn1173_ tn1175_ tn1177_ tn1186_; omega)) (by decide)) dX11_layBest_195 ?_
                                    refine lv_cgl (y := g57 ((70 * j8) + j15)) (by rw [nI_clamp (by omega)]) ?_
                                    refine W.lcmp hx hb dX11_layBest_196 ?_
                                    refine lv_if_ge (tgt := 205) hx hb dX11_layBest_197 rfl (fun c71 => ?_) (fun c71 => ?_)
                                    · skip
                                      refine lv_aload_n hx hb dX11_layBest_205 rfl (lv_at hl 5 rfl) ?_
                                      refine va_get (D := (dC, dI)) (ci := 11) (v := .ref be) (C := RX11) (T := TX11) (N := 35) hx hb hg inG11 hown hK.1 hP 0 rfl rfl 23 (Nat.le_of_ble_eq_true rfl) (hg _ wt_901) (fun _ h9 => h9) rfl dX11_layBest_206 ?_
                                      refine lv_bipush (v := 70) hx hb dX11_layBest_209 rfl ?_
                                      refine lv_iload_n hx hb dX11_layBest_211 rfl (lv_at hl 4 rfl) ?_
                                      refine lv_imul hx hb dX11_layBest_212 ?_
                                      refine lv_cg (y := nI (70 * j8)) (by rw [show (70 : Int32) = nI 70 from rfl]; exact pk_mul _ _) ?_
                                      refine lv_iload_n hx hb dX11_layBest_213 rfl (lv_at hl 3 rfl) ?_
                                      refine lv_iadd hx hb dX11_layBest_214 ?_
                                      refine lv_cg (y := nI ((70 * j8) + j15)) (by exact nI_add _ _) ?_
                                      refine va_lald hx hb hK.1 hP 2 1 rfl rfl (vp_in_nI (by first | omega | (have t_hj5 := hj5; have t_n7 := n7; have t_hj11 := hj11; have t_n14 := n14; have t_hj19 := hj19; have t_n22 := n22; have t_n53 := n53; have t_hj60 := hj60; have t_n63 := n63; have t_n66 := n66; have t_c67 := eqI c67; have t_c68 := neI c68; have t_c71 := lcm_ge_t c71; have : ((-4) : Int32).toInt = -4 := qI_m4; have tnb_ := nib9 tn1168_ tn1169_ tn1170_ tn1171_ tn1172_ tn1173_ tn1175_ tn1177_ tn1186_; omega)) (by decide)) dX11_layBest_215 ?_
                                      refine lv_cgl (y := g57 ((70 * j8) + j15)) (by rw [nI_clamp (by omega)]) ?_
                                      refine va_last hx hb hK.1 hP hD hS 2 1 rfl rfl (vp_in_nI (by first | omega | (have t_hj5 := hj5; have t_n7 := n7; have t_hj11 := hj11; have t_n14 := n14; have t_hj19 := hj19; have t_n22 := n22; have t_n53 := n53; have t_hj60 := hj60; have t_n63 := n63; have t_n66 := n66; have t_c67 := eqI c67; have t_c68 := neI c68; have t_c71 := lcm_ge_t c71; have : ((-4) : Int32).toInt = -4 := qI_m4; have tnb_ := nib9 tn1168_ tn1169_ tn1170_ tn1171_ tn1172_ tn1173_ tn1175_ tn1177_ tn1186_; omega)) (by decide)) dX11_layBest_216 (fun H locs hP hD hS => ?_)
                                      rw [nI_clamp (by omega)] at hP hD
                                      refine lv_iinc (v := nI (j56 + 1)) (lv' := [(5, .int (nI (j56 + 1))), (6, .long (b1N fst g57 j8 (j15 % 10) j56)), (4, .int (-4)), (3, .int (nI j15)), (2, .int (nI j8)), (0, .ref h0), (1, .int (-4))]) hx hb dX11_layBest_217 hl (k := 1) rfl (by rw [show Int32.ofInt 1 = nI 1 from by decide]; exact nI_add _ _) (by decide) rfl (fun ls hl => ?_)
                                      refine lv_goto (tgt := 114) hx hb dX11_layBest_220 rfl ?_
                                      exact ih114_58 (j56 + 1) (by omega) (by omega) (vp_updL g57 ((70 * j8) + j15) (g57 ((70 * j8) + j15))) _ _ (BI.ge hst (by have t_hj5 := hj5; have t_n7 := n7; have t_hj11 := hj11; have t_n14 := n14; have t_hj19 := hj19; have t_n22 := n22; have t_n53 := n53; have t_hj60 := hj60; have t_n63 := n63; have t_n66 := n66; have t_c67 := eqI c67; have t_c68 := neI c68; have t_c71 := lcm_ge_t c71; have : ((-4) : Int32).toInt = -4 := qI_m4; have tnb_ := nib9 tn1168_ tn1169_ tn1170_ tn1171_ tn1172_ tn1173_ tn1175_ tn1177_ tn1186_; omega) (by have t_hj5 := hj5; have t_n7 := n7; have t_hj11 := hj11; have t_n14 := n14; have t_hj19 := hj19; have t_n22 := n22; have t_n53 := n53; have t_hj60 := hj60; have t_n63 := n63; have t_n66 := n66; have t_c67 := eqI c67; have t_c68 := neI c68; have t_c71 := lcm_ge_t c71; have : ((-4) : Int32).toInt = -4 := qI_m4; have tnb_ := nib9 tn1168_ tn1169_ tn1170_ tn1171_ tn1172_ tn1173_ tn1175_ tn1177_ tn1186_; omega) (by have t_hj5 := hj5; have t_n7 := n7; have t_hj11 := hj11; have t_n14 := n14; have t_hj19 := hj19; have t_n22 := n22; have t_n53 := n53; have t_hj60 := hj60; have t_n63 := n63; have t_n66 := n66; have t_c67 := eqI c67; have t_c68 := neI c68; have t_c71 := lcm_ge_t c71; have : ((-4) : Int32).toInt = -4 := qI_m4; have tnb_ := nib9 tn1168_ tn1169_ tn1170_ tn1171_ tn1172_ tn1173_ tn1175_ tn1177_ tn1186_; omega) (by have t_hj5 := hj5; have t_n7 := n7; have t_hj11 := hj11; have t_n14 := n14; have t_hj19 := hj19; have t_n22 := n22; have t_n53 := n53; have t_hj60 := hj60; have t_n63 := n63; have t_n66 := n66; have t_c67 := eqI c67; have t_c68 := neI c68; have t_c71 := lcm_ge_t c71; have : ((-4) : Int32).toInt = -4 := qI_m4; have tnb_ := nib9 tn1168_ tn1169_ tn1170_ tn1171_ tn1172_ tn1173_ tn1175_ tn1177_ tn1186_; omega) (by have t_hj5 := hj5; have t_n7 := n7; have t_hj11 := hj11; have t_n14 := n14; have t_hj19 := hj19; have t_n22 := n22; have t_n53 := n53; have t_hj60 := hj60; have t_n63 := n63; have t_n66 := n66; have t_c67 := eqI c67; have t_c68 := neI c68; have t_c71 := lcm_ge_t c71; have : ((-4) : Int32).toInt = -4 := qI_m4; have tnb_ := nib9 tn1168_ tn1169_ tn1170_ tn1171_ tn1172_ tn1173_ tn1175_ tn1177_ tn1186_; omega) (by have t_hj5 := hj5; have t_n7 := n7; have t_hj11 := hj11; have t_n14 := n14; have t_hj19 := hj19; have t_n22 := n22; have t_n53 := n53; have t_hj60 := hj60; have t_n63 := n63; have t_n66 := n66; have t_c67 := eqI c67; have t_c68 := neI c68; have t_c71 := lcm_ge_t c71; have : ((-4) : Int32).toInt = -4 := qI_m4; have tnb_ := nib9 tn1168_ tn1169_ tn1170_ tn1171_ tn1172_ tn1173_ tn1175_ tn1177_ tn1186_; omega) (by unfold b1; first | (rw [if_pos (by omega)]) | (rw [if_neg (by omega)])) (lcm_ge_t c71) hinv) hP hD hS ls (lv_sub hl [0, 2, 3, 4, 5, 6] rfl)
                                    · skip
                                      refine lv_lload hx hb dX11_layBest_200 (lv_at hl 0 rfl) ?_
                                      refine lv_goto (tgt := 216) hx hb dX11_layBest_202 rfl ?_
                                      refine va_last hx hb hK.1 hP hD hS 2 1 rfl rfl (vp_in_nI (by first | omega | (have t_hj5 := hj5; have t_n7 := n7; have t_hj11 := hj11; have t_n14 := n14; have t_hj19 := hj19; have t_n22 := n22; have t_n53 := n53; have t_hj60 := hj60; have t_n63 := n63; have t_n66 := n66; have t_c67 := eqI c67; have t_c68 := neI c68; have t_c71 := lcm_ge_f c71; have : ((-4) : Int32).toInt = -4 := qI_m4; have tnb_ := nib9 tn1168_ tn1169_ tn1170_ tn1171_ tn1172_ tn1173_ tn1175_ tn1177_ tn1186_; omega)) (by decide)) dX11_layBest_216 (fun H locs hP hD hS => ?_)
                                      rw [nI_clamp (by omega)] at hP hD
                                      refine lv_iinc (v := nI (j56 + 1)) (lv' := [(5, .int (nI (j56 + 1))), (6, .long (b1N fst g57 j8 (j15 % 10) j56)), (4, .int (-4)), (3, .int (nI j15)), (2, .int (nI j8)), (0, .ref h0), (1, .int (-4))]) hx hb dX11_layBest_217 hl (k := 1) rfl (by rw [show Int32.ofInt 1 = nI 1 from by decide]; exact nI_add _ _) (by decide) rfl (fun ls hl => ?_)
                                      refine lv_goto (tgt := 114) hx hb dX11_layBest_220 rfl ?_
                                      exact ih114_58 (j56 + 1) (by omega) (by omega) (vp_updL g57 ((70 * j8) + j15) (b1N fst g57 j8 (j15 % 10) j56)) _ _ (BI.lt hst (by have t_hj5 := hj5; have t_n7 := n7; have t_hj11 := hj11; have t_n14 := n14; have t_hj19 := hj19; have t_n22 := n22; have t_n53 := n53; have t_hj60 := hj60; have t_n63 := n63; have t_n66 := n66; have t_c67 := eqI c67; have t_c68 := neI c68; have t_c71 := lcm_ge_f c71; have : ((-4) : Int32).toInt = -4 := qI_m4; have tnb_ := nib9 tn1168_ tn1169_ tn1170_ tn1171_ tn1172_ tn1173_ tn1175_ tn1177_ tn1186_; omega) (by have t_hj5 := hj5; have t_n7 := n7; have t_hj11 := hj11; have t_n14 := n14; have t_hj19 := hj19; have t_n22 := n22; have t_n53 := n53; have t_hj60 := hj60; have t_n63 := n63; have t_n66 := n66; have t_c67 := eqI c67; have t_c68 := neI c68; have t_c71 := lcm_ge_f c71; have : ((-4) : Int32).toInt = -4 := qI_m4; have tnb_ := nib9 tn1168_ tn1169_ tn1170_ tn1171_ tn1172_ tn1173_ tn1175_ tn1177_ tn1186_; omega) (by have t_hj5 := hj5; have t_n7 := n7; have t_hj11 := hj11; have t_n14 := n14; have t_hj19 := hj19; have t_n22 := n22; have t_n53 := n53; have t_hj60 := hj60; have t_n63 := n63; have t_n66 := n66; have t_c67 := eqI c67; have t_c68 := neI c68; have t_c71 := lcm_ge_f c71; have : ((-4) : Int32).toInt = -4 := qI_m4; have tnb_ := nib9 tn1168_ tn1169_ tn1170_ tn1171_ tn1172_ tn1173_ tn1175_ tn1177_ tn1186_; omega) (by have t_hj5 := hj5; have t_n7 := n7; have t_hj11 := hj11; have t_n14 := n14; have t_hj19 := hj19; have t_n22 := n22; have t_n53 := n53; have t_hj60 := hj60; have t_n63 := n63; have t_n66 := n66; have t_c67 := eqI c67; have t_c68 := neI c68; have t_c71 := lcm_ge_f c71; have : ((-4) : Int32).toInt = -4 := qI_m4; have tnb_ := nib9 tn1168_ tn1169_ tn1170_ tn1171_ tn1172_ tn1173_ tn1175_ tn1177_ tn1186_; omega) (by have t_hj5 := hj5; have t_n7 := n7; have t_hj11 := hj11; have t_n14 := n14; have t_hj19 := hj19; have t_n22 := n22; have t_n53 := n53; have t_hj60 := hj60; have t_n63 := n63; have t_n66 := n66; have t_c67 := eqI c67; have t_c68 := neI c68; have t_c71 := lcm_ge_f c71; have : ((-4) : Int32).toInt = -4 := qI_m4; have tnb_ := nib9 tn1168_ tn1169_ tn1170_ tn1171_ tn1172_ tn1173_ tn1175_ tn1177_ tn1186_; omega) (by have t_hj5 := hj5; have t_n7 := n7; have t_hj11 := hj11; have t_n14 := n14; have t_hj19 := hj19; have t_n22 := n22; have t_n53 := n53; have t_hj60 := hj60; have t_n63 := n63; have t_n66 := n66; have t_c67 := eqI c67; have t_c68 := neI c68; have t_c71 := lcm_ge_f c71; have : ((-4) : Int32).toInt = -4 := qI_m4; have tnb_ := nib9 tn1168_ tn1169_ tn1170_ tn1171_ tn1172_ tn1173_ tn1175_ tn1177_ tn1186_; omega) (by unfold b1; first | (rw [if_pos (by omega)]) | (rw [if_neg (by omega)])) hinv) hP hD hS ls (lv_sub hl [0, 2, 3, 4, 5, 6] rfl)
                                  · skip
                                    have t_hj5 := hj5
                                    have t_n7 := n7
                                    have t_hj11 := hj11
                                    have t_n14 := n14
                                    have t_hj19 := hj19
                                    have t_n22 := n22
                                    have t_n53 := n53
                                    have t_hj60 := hj60
                                    have t_n63 := n63
                                    have t_n66 := n66
                                    have t_c67 := eqI c67
                                    have t_c68 := eqI c68
                                    have : ((-4) : Int32).toInt = -4 := qI_m4
                                    have t_n0 : (nI N).toInt = (N : Int) := tn1168_ ()
                                    have t_n1 : (nI B).toInt = (B : Int) := tn1169_ ()
                                    have t_n2 : (nI T).toInt = (T : Int) := tn1170_ ()
                                    have t_n3 : (nI S).toInt = (S : Int) := tn1171_ ()
                                    have t_n4 : (nI M).toInt = (M : Int) := tn1172_ ()
                                    have t_n5 : (nI j1).toInt = (j1 : Int) := tn1173_ ()
                                    have t_n6 : (nI j8).toInt = (j8 : Int) := tn1175_ ()
                                    have t_n7 : (nI j15).toInt = (j15 : Int) := tn1177_ ()
                                    have t_n8 : (nI j56).toInt = (j56 : Int) := tn1186_ ()
                                    exfalso; omega
                                · skip
                                  exact absurd c67 (by decide)
                        exact loop114_58 (B + 1) 0 (by omega) (by omega) (vp_updL g16 ((70 * j8) + j15) y54) _ _ (BI.ini hinv (by have t_hj5 := hj5; have t_n7 := n7; have t_hj11 := hj11; have t_n14 := n14; have t_hj19 := hj19; have t_n22 := n22; have t_n53 := n53; have tnb_ := nib8 tn1168_ tn1169_ tn1170_ tn1171_ tn1172_ tn1173_ tn1175_ tn1177_; omega) hcut) hP hD hS ls (lv_sub hl [0, 1, 2, 3, 4, 5] rfl)
                      refine lv_if_ne (tgt := 107) hx hb dX11_layBest_92 rfl (fun c72 => ?_) (fun c72 => ?_)
                      · skip
                        have tn1189_ : nIT (j15 % 10) := fun _ => nI_toInt (by first | omega | (have t := neI c72; omega))
                        have n73 : (j15 % 10) ≠ 0 := by have t := neI c72; rw [show (nI (j15 % 10)).toInt = ((j15 % 10 : Nat) : Int) from tn1189_ ()] at t; have : (0 : Int32).toInt = 0 := qI_0; omega
                        refine lv_ldc2 (v := 4000000000000000000) hx hb hown (hg _ wt_1154) dX11_layBest_107 ?_
                        exact cut110_55 4000000000000000000 _ _ (by first | exact Or.inl ⟨by omega, rfl⟩ | exact Or.inr ⟨by omega, rfl⟩) hP hD hS ls (lv_sub hl [0, 1, 2, 3, 4] rfl)
                      · skip
                        have tn1190_ : nIT (j15 % 10) := fun _ => nI_toInt (by first | omega | (have t := eqI c72; omega))
                        have n74 : (j15 % 10) = 0 := by have t := eqI c72; rw [show (nI (j15 % 10)).toInt = ((j15 % 10 : Nat) : Int) from tn1190_ ()] at t; have : (0 : Int32).toInt = 0 := qI_0; omega
                        refine lv_aload_n hx hb dX11_layBest_95 rfl (lv_at hl 3 rfl) ?_
                        refine va_get (D := (dC, dI)) (ci := 11) (v := .int (nI N)) (C := RX11) (T := TX11) (N := 35) hx hb hg inG11 hown hK.1 hP 0 rfl rfl 1 (Nat.le_of_ble_eq_true rfl) (hg _ wt_879) (fun _ h9 => h9) rfl dX11_layBest_96 ?_
                        refine lv_iload_n hx hb dX11_layBest_99 rfl (lv_at hl 2 rfl) ?_
                        refine lv_isub hx hb dX11_layBest_100 ?_
                        refine lv_cg (y := nI (N - j8)) (by exact pk_sub (by have t_hj5 := hj5; have t_n7 := n7; have t_hj11 := hj11; have t_n14 := n14; have t_hj19 := hj19; have t_n22 := n22; have t_n53 := n53; have t_n74 := n74; have tnb_ := nib8 tn1168_ tn1169_ tn1170_ tn1171_ tn1172_ tn1173_ tn1175_ tn1177_; omega)) ?_
                        have hPc := hP.sub (ws' := []) [] rfl
                        refine va_calll (va_runS (As := [.int (nI (N - j8))]) (rest := [.int (nI ((70 * j8) + j15)), .ref be]) ⟨hx, hb, hml, hown, hg⟩ (c_X11_power l dC dI G _ (N - j8) (by first | omega | (have t_hj5 := hj5; have t_n7 := n7; have t_hj11 := hj11; have t_n14 := n14; have t_hj19 := hj19; have t_n22 := n22; have t_n53 := n53; have t_n74 := n74; have tnb_ := nib8 tn1168_ tn1169_ tn1170_ tn1171_ tn1172_ tn1173_ tn1175_ tn1177_; omega))) (kwS hg mfX11_power wt_1131 ⟨Nat.le_of_ble_eq_true rfl, Nat.le_of_ble_eq_true rfl⟩) (preSR hK hPc) rfl rfl hl.1 rfl (lv_room (Nat.le_of_ble_eq_true rfl)) dX11_layBest_101 ⟨Nat.le_of_ble_eq_true rfl, Nat.le_of_ble_eq_true rfl⟩) hS (fun q h1 h2 => absurd h2 (Nat.not_le.mpr h1)) (fun q h => hA q (Nat.le_trans hS.1 h)) (fun r75 ur75 t H1 locs ht hvm w76 hB hz1 hk1 hS => ?_)
                        have hP := keepR hP hk1
                        obtain ⟨w76, w76x⟩ := w76
                        subst w76
                        refine lv_goto (tgt := 110) hx hb dX11_layBest_104 rfl ?_
                        exact cut110_55 (powF (N - j8)) _ _ (by first | exact Or.inl ⟨by omega, rfl⟩ | exact Or.inr ⟨by omega, rfl⟩) hP hD hS ls (lv_sub hl [0, 1, 2, 3, 4] rfl)
              exact loop53_17 (70 + 1) 0 (by omega) (by omega) g9 _ _ hinv.k0 hP hD hS ls (lv_sub hl [0, 1, 2, 3] rfl)
        exact loop47_10 N (Nat.le_refl _) g2 _ _ (FI.out (by have t_hj5 := hj5; have t_n7 := n7; have tnb_ := nib6 tn1168_ tn1169_ tn1170_ tn1171_ tn1172_ tn1173_; omega) hinv) hP hD hS ls (lv_sub hl [0, 1, 2] rfl)
      · skip
        have tn1191_ : nIT j1 := fun _ => nI_toInt (by first | omega | (have t := nleI c6; omega))
        have n77 : j1 < 70 := by have t := nleI c6; rw [show (nI (j1)).toInt = ((j1 : Nat) : Int) from tn1191_ ()] at t; have : (70 : Int32).toInt = 70 := qI_70; omega
        refine lv_aload_n hx hb dX11_layBest_8 rfl (lv_at hl 1 rfl) ?_
        refine va_get (D := (dC, dI)) (ci := 11) (v := .ref be) (C := RX11) (T := TX11) (N := 35) hx hb hg inG11 hown hK.1 hP 0 rfl rfl 23 (Nat.le_of_ble_eq_true rfl) (hg _ wt_901) (fun _ h9 => h9) rfl dX11_layBest_9 ?_
        refine lv_bipush (v := 70) hx hb dX11_layBest_12 rfl ?_
        refine lv_aload_n hx hb dX11_layBest_14 rfl (lv_at hl 1 rfl) ?_
        refine va_get (D := (dC, dI)) (ci := 11) (v := .int (nI N)) (C := RX11) (T := TX11) (N := 35) hx hb hg inG11 hown hK.1 hP 0 rfl rfl 1 (Nat.le_of_ble_eq_true rfl) (hg _ wt_879) (fun _ h9 => h9) rfl dX11_layBest_15 ?_
        refine lv_imul hx hb dX11_layBest_18 ?_
        refine lv_cg (y := nI (70 * N)) (by rw [show (70 : Int32) = nI 70 from rfl]; exact pk_mul _ _) ?_
        refine lv_iload_n hx hb dX11_layBest_19 rfl (lv_at hl 0 rfl) ?_
        refine lv_iadd hx hb dX11_layBest_20 ?_
        refine lv_cg (y := nI ((70 * N) + j1)) (by exact nI_add _ _) ?_
        refine lv_iload_n hx hb dX11_layBest_21 rfl (lv_at hl 0 rfl) ?_
        refine lv_bipush (v := 10) hx hb dX11_layBest_22 rfl ?_
        refine lv_irem hx hb dX11_layBest_24 (by decide) ?_
        refine lv_cg (y := nI (j1 % 10)) (by rw [show (10 : Int32) = nI 10 from rfl]; exact pk_rem (by omega) (by omega) (by omega)) ?_
        refine lv_if_ne (tgt := 32) hx hb dX11_layBest_25 rfl (fun c78 => ?_) (fun c78 => ?_)
        · skip
          have tn1192_ : nIT (j1 % 10) := fun _ => nI_toInt (by first | omega | (have t := neI c78; omega))
          have n79 : (j1 % 10) ≠ 0 := by have t := neI c78; rw [show (nI (j1 % 10)).toInt = ((j1 % 10 : Nat) : Int) from tn1192_ ()] at t; have : (0 : Int32).toInt = 0 := qI_0; omega
          refine lv_lconst (v := 0) hx hb dX11_layBest_32 (by decide) ?_
          refine va_last hx hb hK.1 hP hD hS 2 1 rfl rfl (vp_in_nI (by first | omega | (have t_hj5 := hj5; have t_n77 := n77; have t_n79 := n79; have tnb_ := nib6 tn1168_ tn1169_ tn1170_ tn1171_ tn1172_ tn1191_; omega)) (by decide)) dX11_layBest_33 (fun H locs hP hD hS => ?_)
          rw [nI_clamp (by omega)] at hP hD
          refine lv_iinc (v := nI (j1 + 1)) (lv' := [(2, .int (nI (j1 + 1))), (0, .ref h0), (1, .int (-4))]) hx hb dX11_layBest_34 hl (k := 0) rfl (by rw [show Int32.ofInt 1 = nI 1 from by decide]; exact nI_add _ _) (by decide) rfl (fun ls hl => ?_)
          refine lv_goto (tgt := 2) hx hb dX11_layBest_37 rfl ?_
          exact ih2_3 (j1 + 1) (by omega) (by omega) (vp_updL g2 ((70 * N) + j1) 0) _ _ (FI.put hinv (by decide)) hP hD hS ls (lv_sub hl [0, 1, 2] rfl)
        · skip
          have tn1193_ : nIT (j1 % 10) := fun _ => nI_toInt (by first | omega | (have t := eqI c78; omega))
          have n80 : (j1 % 10) = 0 := by have t := eqI c78; rw [show (nI (j1 % 10)).toInt = ((j1 % 10 : Nat) : Int) from tn1193_ ()] at t; have : (0 : Int32).toInt = 0 := qI_0; omega
          refine lv_lconst (v := 1) hx hb dX11_layBest_28 (by decide) ?_
          refine lv_goto (tgt := 33) hx hb dX11_layBest_29 rfl ?_
          refine va_last hx hb hK.1 hP hD hS 2 1 rfl rfl (vp_in_nI (by first | omega | (have t_hj5 := hj5; have t_n77 := n77; have t_n80 := n80; have tnb_ := nib6 tn1168_ tn1169_ tn1170_ tn1171_ tn1172_ tn1191_; omega)) (by decide)) dX11_layBest_33 (fun H locs hP hD hS => ?_)
          rw [nI_clamp (by omega)] at hP hD
          refine lv_iinc (v := nI (j1 + 1)) (lv' := [(2, .int (nI (j1 + 1))), (0, .ref h0), (1, .int (-4))]) hx hb dX11_layBest_34 hl (k := 0) rfl (by rw [show Int32.ofInt 1 = nI 1 from by decide]; exact nI_add _ _) (by decide) rfl (fun ls hl => ?_)
          refine lv_goto (tgt := 2) hx hb dX11_layBest_37 rfl ?_
          exact ih2_3 (j1 + 1) (by omega) (by omega) (vp_updL g2 ((70 * N) + j1) 1) _ _ (FI.put hinv (by decide)) hP hD hS ls (lv_sub hl [0, 1, 2] rfl)
  exact loop2_3 (70 + 1) 0 (by omega) (by omega) fbe _ _ (fun k9 h9 => absurd h9 (Nat.not_lt_zero _)) hP hD hS ls (lv_sub hl [0, 1, 2] rfl)


set_option maxHeartbeats 1000000 in
set_option maxRecDepth 100000 in
theorem c_X11_best (l : Launch) (dC : Nat → ClassId) (dI : Nat → Nat → Nat) (G : Nat → ClassId) (sz : Nat) (h0 st N B rp tp T cu lt od th be ln S ma M ah bh ik la lg ce : Nat) (what vrs vrb vhs vca vxs vxb vfa vbr vba vsp vhe vtk vva vto : Int32) (fst : Nat → Int32) (fbe : Nat → Int64) (hN : N ≤ 10) (hB : B ≤ 6) (hT : T ≤ 320) (hS0 : S ≤ 8) (hM : M ≤ 6) (hst : OKS fst) (hNB : N = 0 ∨ 0 < B) : Met l yX11_best (Cond.code yX11_best cX11_best 2 (some .long) :: GT) ({ frames := 4, cells := 0, slots := 0, locals := 102 } : Room) (PcW [.ref h0, .int what] dC dI G [(h0, .inr (11, [.ref st, .int (nI N), .int (nI B), .ref rp, .int vrs, .int vrb, .int vhs, .int vca, .int vxs, .int vxb, .ref tp, .int (nI T), .int vfa, .int vbr, .int vba, .int vsp, .int vhe, .int vtk, .int vva, .ref cu, .ref lt, .ref od, .ref th, .ref be, .ref ln, .int (nI S), .ref ma, .int (nI M), .ref ah, .ref bh, .ref ik, .ref la, .ref lg, .ref ce, .int vto])), (st, .inl (G 0, 196, .inl fst)), (be, .inl (G 1, 770, .inr (.inl fbe)))] sz) (va_Ql (fun (r : Int64) (u : (Nat → Int64)) => match u with | obe => (True) ∧ True) (fun (u : (Nat → Int64)) (t : State) => match u with | obe => va_P (dC, dI) vwCl [(h0, .inr (11, [.ref st, .int (nI N), .int (nI B), .ref rp, .int vrs, .int vrb, .int vhs, .int vca, .int vxs, .int vxb, .ref tp, .int (nI T), .int vfa, .int vbr, .int vba, .int vsp, .int vhe, .int vtk, .int vva, .ref cu, .ref lt, .ref od, .ref th, .ref be, .ref ln, .int (nI S), .ref ma, .int (nI M), .ref ah, .ref bh, .ref ik, .ref la, .ref lg, .ref ce, .int vto])), (st, .inl (G 0, 196, .inl fst)), (be, .inl (G 1, 770, .inr (.inl obe)))] t.heap ∧ va_D (va_A [(h0, .inr (11, [.ref st, .int (nI N), .int (nI B), .ref rp, .int vrs, .int vrb, .int vhs, .int vca, .int vxs, .int vxb, .ref tp, .int (nI T), .int vfa, .int vbr, .int vba, .int vsp, .int vhe, .int vtk, .int vva, .ref cu, .ref lt, .ref od, .ref th, .ref be, .ref ln, .int (nI S), .ref ma, .int (nI M), .ref ah, .ref bh, .ref ik, .ref la, .ref lg, .ref ce, .int vto])), (st, .inl (G 0, 196, .inl fst)), (be, .inl (G 1, 770, .inr (.inl fbe)))] sz) [(h0, .inr (11, [.ref st, .int (nI N), .int (nI B), .ref rp, .int vrs, .int vrb, .int vhs, .int vca, .int vxs, .int vxb, .ref tp, .int (nI T), .int vfa, .int vbr, .int vba, .int vsp, .int vhe, .int vtk, .int vva, .ref cu, .ref lt, .ref od, .ref th, .ref be, .ref ln, .int (nI S), .ref ma, .int (nI M), .ref ah, .ref bh, .ref ik, .ref la, .ref lg, .ref ce, .int vto])), (st, .inl (G 0, 196, .inl fst)), (be, .inl (G 1, 770, .inr (.inl obe)))]) (va_A [(h0, .inr (11, [.ref st, .int (nI N), .int (nI B), .ref rp, .int vrs, .int vrb, .int vhs, .int vca, .int vxs, .int vxb, .ref tp, .int (nI T), .int vfa, .int vbr, .int vba, .int vsp, .int vhe, .int vtk, .int vva, .ref cu, .ref lt, .ref od, .ref th, .ref be, .ref ln, .int (nI S), .ref ma, .int (nI M), .ref ah, .ref bh, .ref ik, .ref la, .ref lg, .ref ce, .int vto])), (st, .inl (G 0, 196, .inl fst)), (be, .inl (G 1, 770, .inr (.inl fbe)))] sz)) 0 0 (va_A [(h0, .inr (11, [.ref st, .int (nI N), .int (nI B), .ref rp, .int vrs, .int vrb, .int vhs, .int vca, .int vxs, .int vxb, .ref tp, .int (nI T), .int vfa, .int vbr, .int vba, .int vsp, .int vhe, .int vtk, .int vva, .ref cu, .ref lt, .ref od, .ref th, .ref be, .ref ln, .int (nI S), .ref ma, .int (nI M), .ref ah, .ref bh, .ref ik, .ref la, .ref lg, .ref ce, .int vto])), (st, .inl (G 0, 196, .inl fst)), (be, .inl (G 1, 770, .inr (.inl fbe)))] sz) := by
  have hB_ := hB
  have hM_ := hM
  have hT_ := hT
  have tn1220_ : nIT N := fun _ => nI_toInt (by omega)
  have tn1221_ : nIT B := fun _ => nI_toInt (by omega)
  have tn1222_ : nIT T := fun _ => nI_toInt (by omega)
  have tn1223_ : nIT S := fun _ => nI_toInt (by omega)
  have tn1224_ : nIT M := fun _ => nI_toInt (by omega)
  refine Met.ofW (cc := cX11_best) (maxL := 2) (ret := (some .long)) (by decide) rfl ?_
  intro p e s m args below meth c s₁ Bd hml hv
  obtain ⟨rfl, hsz, hP, hK, hD0⟩ := hv
  have hx := Bd.exec
  have hb := Bd.bytes
  have hr := Bd.returns
  have hg : ∀ w ∈ GT, w.before ([.ref h0, .int what] : List Value).toArray s = true := fun w h => atoms_spec (ws := Cond.code yX11_best cX11_best 2 (some .long) :: GT) Bd.pre w (List.mem_cons_of_mem _ h)
  have hown : s.vm.findClass RX11 = some m.cls := findClass_of_methodNamed Bd.named
  have hlocks := Bd.notSynchronized
  subst hsz
  have hD := hD0.self (sz := s.heap.size)
  generalize hAe : va_A [(h0, .inr (11, [.ref st, .int (nI N), .int (nI B), .ref rp, .int vrs, .int vrb, .int vhs, .int vca, .int vxs, .int vxb, .ref tp, .int (nI T), .int vfa, .int vbr, .int vba, .int vsp, .int vhe, .int vtk, .int vva, .ref cu, .ref lt, .ref od, .ref th, .ref be, .ref ln, .int (nI S), .ref ma, .int (nI M), .ref ah, .ref bh, .ref ik, .ref la, .ref lg, .ref ce, .int vto])), (st, .inl (G 0, 196, .inl fst)), (be, .inl (G 1, 770, .inr (.inl fbe)))] s.heap.size = A at hD ⊢
  have hA : ∀ q : Nat, s.heap.size ≤ q → A q := fun q h => by rw [← hAe]; exact Or.inr h
  have hS : va_S A s.heap s.heap [] := va_S.rf
  have hl := lv_entry ([.ref h0, .int what]) (n := 2) (Nat.le_of_ble_eq_true rfl)
  rw [lg_entry_eq]
  generalize (lg_sl ([.ref h0, .int what]) ++ List.replicate (2 - (lg_sl ([.ref h0, .int what])).length) Slot.unset).toArray = ls at hl ⊢
  have hl : lv_has ls 2 [(0, .ref h0), (1, .int what)] := hl
  refine lv_iload_n hx hb dX11_best_0 rfl (lv_at hl 1 rfl) ?_
  refine lv_i2l (v := what.toInt64) hx hb dX11_best_1 rfl ?_
  refine lv_lconst (v := 0) hx hb dX11_best_2 (by decide) ?_
  refine lv_lconst (v := 1) hx hb dX11_best_3 (by decide) ?_
  have hPc := hP.sub (ws' := []) [] rfl
  refine va_calli (va_runS (As := [.long what.toInt64, .long 0, .long 1]) (rest := []) ⟨hx, hb, hml, hown, hg⟩ (c_X11_in l dC dI G _ what.toInt64 0 1) (kwS hg mfX11_in wt_992 ⟨Nat.le_of_ble_eq_true rfl, Nat.le_of_ble_eq_true rfl⟩) (preSR hK hPc) rfl rfl hl.1 rfl (lv_room (Nat.le_of_ble_eq_true rfl)) dX11_best_4 ⟨Nat.le_of_ble_eq_true rfl, Nat.le_of_ble_eq_true rfl⟩) hS (fun q h1 h2 => absurd h2 (Nat.not_le.mpr h1)) (fun q h => hA q (Nat.le_trans hS.1 h)) (fun r1 ur1 t H1 locs ht hvm w2 hB hz1 hk1 hS => ?_)
  have hP := keepR hP hk1
  obtain ⟨w2, w2x⟩ := w2
  try simp only [l_ii, show (0 : Int64).toInt = 0 from by decide, show (1 : Int64).toInt = 1 from by decide] at w2
  subst w2
  refine lv_if_ne (tgt := 14) hx hb dX11_best_7 rfl (fun c3 => ?_) (fun c3 => ?_)
  · skip
    have b4 := if10_p c3
    refine lv_aload_n hx hb dX11_best_14 rfl (lv_at hl 0 rfl) ?_
    refine lv_bipush (v := (-4)) hx hb dX11_best_15 rfl ?_
    obtain ⟨hPc, hDc, hFc⟩ := va_sub3 (ws' := [(h0, .inr (11, [.ref st, .int (nI N), .int (nI B), .ref rp, .int vrs, .int vrb, .int vhs, .int vca, .int vxs, .int vxb, .ref tp, .int (nI T), .int vfa, .int vbr, .int vba, .int vsp, .int vhe, .int vtk, .int vva, .ref cu, .ref lt, .ref od, .ref th, .ref be, .ref ln, .int (nI S), .ref ma, .int (nI M), .ref ah, .ref bh, .ref ik, .ref la, .ref lg, .ref ce, .int vto])), (st, .inl (G 0, 196, .inl fst)), (be, .inl (G 1, 770, .inr (.inl fbe)))]) hP hD hS hA [0, 1, 2] (by decide +kernel) rfl
    refine va_callv (va_runV (As := [.int (-4)]) (rest := []) ⟨hx, hb, hml, hown, hg⟩ (c_X11_layBestN l dC dI G _ h0 st N B rp tp T cu lt od th be ln S ma M ah bh ik la lg ce vrs vrb vhs vca vxs vxb vfa vbr vba vsp vhe vtk vva vto fst fbe hN hB_ hT_ hS0 hM_ hst hNB) (kwV hg mfX11_layBest wt_1150 ⟨Nat.le_of_ble_eq_true rfl, Nat.le_of_ble_eq_true rfl⟩) (preVW hK hPc hDc (ci := 11) (r := (RX11, TX11, 35)) rfl rfl) rfl rfl hl.1 rfl (lv_room (Nat.le_of_ble_eq_true rfl)) dX11_best_17 ⟨Nat.le_of_ble_eq_true rfl, Nat.le_of_ble_eq_true rfl⟩) hS (fun q _ h => hFc q h) hFc (fun ur5 t H1 locs ht hvm w6 hB hz1 hk1 hS => ?_)
    obtain ⟨u7, rfl⟩ : ∃ z, z = ur5 := ⟨_, rfl⟩
    obtain ⟨hP1, hD1⟩ := hB
    rw [ht] at hP1
    obtain ⟨hP, hD⟩ := va_join (wr := []) (w1 := [(h0, .inr (11, [.ref st, .int (nI N), .int (nI B), .ref rp, .int vrs, .int vrb, .int vhs, .int vca, .int vxs, .int vxb, .ref tp, .int (nI T), .int vfa, .int vbr, .int vba, .int vsp, .int vhe, .int vtk, .int vva, .ref cu, .ref lt, .ref od, .ref th, .ref be, .ref ln, .int (nI S), .ref ma, .int (nI M), .ref ah, .ref bh, .ref ik, .ref la, .ref lg, .ref ce, .int vto])), (st, .inl (G 0, 196, .inl fst)), (be, .inl (G 1, 770, .inr (.inl u7)))]) hP hD [0, 1, 2] [] rfl rfl (by decide +kernel) (by decide +kernel) hk1 hFc hP1 hD1
    have w6 : RI fst N B 0 u7 := w6
    generalize H1 = H at hP hS ⊢
    refine lv_aload_n hx hb dX11_best_20 rfl (lv_at hl 0 rfl) ?_
    refine va_get (D := (dC, dI)) (ci := 11) (v := .ref be) (C := RX11) (T := TX11) (N := 35) hx hb hg inG11 hown hK.1 hP 0 rfl rfl 23 (Nat.le_of_ble_eq_true rfl) (hg _ wt_901) (fun _ h9 => h9) rfl dX11_best_21 ?_
    refine lv_iconst (v := 0) hx hb dX11_best_24 rfl ?_
    refine lv_bipush (v := (-4)) hx hb dX11_best_25 rfl ?_
    refine lv_aload_n hx hb dX11_best_27 rfl (lv_at hl 0 rfl) ?_
    have hPc := hP.sub (ws' := [(h0, .inr (11, [.ref st, .int (nI N), .int (nI B), .ref rp, .int vrs, .int vrb, .int vhs, .int vca, .int vxs, .int vxb, .ref tp, .int (nI T), .int vfa, .int vbr, .int vba, .int vsp, .int vhe, .int vtk, .int vva, .ref cu, .ref lt, .ref od, .ref th, .ref be, .ref ln, .int (nI S), .ref ma, .int (nI M), .ref ah, .ref bh, .ref ik, .ref la, .ref lg, .ref ce, .int vto])), (st, .inl (G 0, 196, .inl fst))]) [0, 1] rfl
    refine va_calli (va_runV (As := []) (rest := [.int (-4), .int 0, .ref be]) ⟨hx, hb, hml, hown, hg⟩ (c_X11_startNow l dC dI G _ h0 st N B rp tp T cu lt od th be ln S ma M ah bh ik la lg ce vrs vrb vhs vca vxs vxb vfa vbr vba vsp vhe vtk vva vto fst hN hB_ hT_ hS0 hM_ hst) (kwV hg mfX11_startNow wt_1044 ⟨Nat.le_of_ble_eq_true rfl, Nat.le_of_ble_eq_true rfl⟩) (preVR hK hPc (ci := 11) (r := (RX11, TX11, 35)) rfl rfl) rfl rfl hl.1 rfl (lv_room (Nat.le_of_ble_eq_true rfl)) dX11_best_28 ⟨Nat.le_of_ble_eq_true rfl, Nat.le_of_ble_eq_true rfl⟩) hS (fun q h1 h2 => absurd h2 (Nat.not_le.mpr h1)) (fun q h => hA q (Nat.le_trans hS.1 h)) (fun r8 ur8 t H1 locs ht hvm w9 hB hz1 hk1 hS => ?_)
    have hP := keepR hP hk1
    obtain ⟨w9, w9x⟩ := w9
    obtain ⟨k10, w9, w9a, w9b⟩ := w9
    subst w9
    have hPc := hP.sub (ws' := []) [] rfl
    have tn1225_ : nIT k10 := fun _ => nI_toInt (by first | omega | (have t_b4 := b4; have t_w9a := w9a; have t_w9b := w9b; omega))
    refine va_calli (va_runS (As := [.int 0, .int (-4), .int (nI k10)]) (rest := [.ref be]) ⟨hx, hb, hml, hown, hg⟩ (c_X11_bestAtN l dC dI G _ 0 k10 (by first | omega | (have t_b4 := b4; have t_w9a := w9a; have t_w9b := w9b; have tnb_ := nib6 tn1220_ tn1221_ tn1222_ tn1223_ tn1224_ tn1225_; have tqz_ := qz44_; omega)) (by first | omega | (have t_b4 := b4; have t_w9a := w9a; have t_w9b := w9b; have tnb_ := nib6 tn1220_ tn1221_ tn1222_ tn1223_ tn1224_ tn1225_; have tqz_ := qz44_; omega))) (kwS hg mfX11_bestAt wt_1159 ⟨Nat.le_of_ble_eq_true rfl, Nat.le_of_ble_eq_true rfl⟩) (preSR hK hPc) rfl rfl hl.1 rfl (lv_room (Nat.le_of_ble_eq_true rfl)) dX11_best_31 ⟨Nat.le_of_ble_eq_true rfl, Nat.le_of_ble_eq_true rfl⟩) hS (fun q h1 h2 => absurd h2 (Nat.not_le.mpr h1)) (fun q h => hA q (Nat.le_trans hS.1 h)) (fun r11 ur11 t H1 locs ht hvm w12 hB hz1 hk1 hS => ?_)
    have hP := keepR hP hk1
    obtain ⟨w12, w12x⟩ := w12
    subst w12
    refine va_lald hx hb hK.1 hP 2 1 rfl rfl (vp_in_nI (by first | omega | (have t_b4 := b4; have t_w9a := w9a; have t_w9b := w9b; have tnb_ := nib6 tn1220_ tn1221_ tn1222_ tn1223_ tn1224_ tn1225_; omega)) (by decide)) dX11_best_34 ?_
    refine lv_cgl (y := u7 (70 * 0 + k10)) (by rw [nI_clamp (by omega)]) ?_
    refine lv_aload_n hx hb dX11_best_35 rfl (lv_at hl 0 rfl) ?_
    refine va_get (D := (dC, dI)) (ci := 11) (v := .int (nI N)) (C := RX11) (T := TX11) (N := 35) hx hb hg inG11 hown hK.1 hP 0 rfl rfl 1 (Nat.le_of_ble_eq_true rfl) (hg _ wt_879) (fun _ h9 => h9) rfl dX11_best_36 ?_
    have hPc := hP.sub (ws' := []) [] rfl
    refine va_calll (va_runS (As := [.int (nI N)]) (rest := [.long (u7 (70 * 0 + k10))]) ⟨hx, hb, hml, hown, hg⟩ (c_X11_power l dC dI G _ N hN) (kwS hg mfX11_power wt_1131 ⟨Nat.le_of_ble_eq_true rfl, Nat.le_of_ble_eq_true rfl⟩) (preSR hK hPc) rfl rfl hl.1 rfl (lv_room (Nat.le_of_ble_eq_true rfl)) dX11_best_39 ⟨Nat.le_of_ble_eq_true rfl, Nat.le_of_ble_eq_true rfl⟩) hS (fun q h1 h2 => absurd h2 (Nat.not_le.mpr h1)) (fun q h => hA q (Nat.le_trans hS.1 h)) (fun r13 ur13 t H1 locs ht hvm w14 hB hz1 hk1 hS => ?_)
    have hP := keepR hP hk1
    obtain ⟨w14, w14x⟩ := w14
    subst w14
    refine lv_iload_n hx hb dX11_best_42 rfl (lv_at hl 1 rfl) ?_
    have hPc := hP.sub (ws' := []) [] rfl
    refine va_calll (va_runS (As := [.long (u7 (70 * 0 + k10)), .long (powF N), .int what]) (rest := []) ⟨hx, hb, hml, hown, hg⟩ (c_X11_lowest l dC dI G _ what (u7 (70 * 0 + k10)) (powF N) (powF_ne (by have t_b4 := b4; have t_w9a := w9a; have t_w9b := w9b; have tnb_ := nib6 tn1220_ tn1221_ tn1222_ tn1223_ tn1224_ tn1225_; omega))) (kwS hg mfX11_lowest wt_1134 ⟨Nat.le_of_ble_eq_true rfl, Nat.le_of_ble_eq_true rfl⟩) (preSR hK hPc) rfl rfl hl.1 rfl (lv_room (Nat.le_of_ble_eq_true rfl)) dX11_best_43 ⟨Nat.le_of_ble_eq_true rfl, Nat.le_of_ble_eq_true rfl⟩) hS (fun q h1 h2 => absurd h2 (Nat.not_le.mpr h1)) (fun q h => hA q (Nat.le_trans hS.1 h)) (fun r15 ur15 t H1 locs ht hvm w16 hB hz1 hk1 hS => ?_)
    have hP := keepR hP hk1
    obtain ⟨w16, w16x⟩ := w16
    have hpost : True := by
      trivial
    obtain ⟨hP9, hD9⟩ := va_sub2 (ws' := [(h0, .inr (11, [.ref st, .int (nI N), .int (nI B), .ref rp, .int vrs, .int vrb, .int vhs, .int vca, .int vxs, .int vxb, .ref tp, .int (nI T), .int vfa, .int vbr, .int vba, .int vsp, .int vhe, .int vtk, .int vva, .ref cu, .ref lt, .ref od, .ref th, .ref be, .ref ln, .int (nI S), .ref ma, .int (nI M), .ref ah, .ref bh, .ref ik, .ref la, .ref lg, .ref ce, .int vto])), (st, .inl (G 0, 196, .inl fst)), (be, .inl (G 1, 770, .inr (.inl u7)))]) hP hD [0, 1, 2] (by decide +kernel) rfl
    refine W.widen (k := 0) (n := 0) (Nat.le_of_ble_eq_true rfl) (Nat.le_of_ble_eq_true rfl) ?_
    exact W.lret (v := r15) hx hb hr (fun t ht hW => ⟨⟨r15, u7, rfl, ⟨hpost, trivial⟩, ⟨by rw [ht]; exact hP9, hD9⟩⟩, hS.F ht⟩) hS.2.2 dX11_best_46
  · skip
    have b17 := if10_n c3
    refine lv_ldc2 (v := (-1)) hx hb hown (hg _ wt_1118) dX11_best_10 ?_
    have hpost : True := by
      trivial
    obtain ⟨hP9, hD9⟩ := va_sub2 (ws' := [(h0, .inr (11, [.ref st, .int (nI N), .int (nI B), .ref rp, .int vrs, .int vrb, .int vhs, .int vca, .int vxs, .int vxb, .ref tp, .int (nI T), .int vfa, .int vbr, .int vba, .int vsp, .int vhe, .int vtk, .int vva, .ref cu, .ref lt, .ref od, .ref th, .ref be, .ref ln, .int (nI S), .ref ma, .int (nI M), .ref ah, .ref bh, .ref ik, .ref la, .ref lg, .ref ce, .int vto])), (st, .inl (G 0, 196, .inl fst)), (be, .inl (G 1, 770, .inr (.inl fbe)))]) hP hD [0, 1, 2] (by decide +kernel) rfl
    refine W.widen (k := 0) (n := 0) (Nat.le_of_ble_eq_true rfl) (Nat.le_of_ble_eq_true rfl) ?_
    exact W.lret (v := (-1)) hx hb hr (fun t ht hW => ⟨⟨(-1), fbe, rfl, ⟨hpost, trivial⟩, ⟨by rw [ht]; exact hP9, hD9⟩⟩, hS.F ht⟩) hS.2.2 dX11_best_13

set_option maxHeartbeats 1000000 in
set_option maxRecDepth 100000 in
theorem c_X11_next (l : Launch) (dC : Nat → ClassId) (dI : Nat → Nat → Nat) (G : Nat → ClassId) (sz : Nat) (h0 st N B rp tp T cu lt od th be ln S ma M ah bh ik la lg ce : Nat) (i g d vrs vrb vhs vca vxs vxb vfa vbr vba vsp vhe vtk vva vto : Int32) (fst : Nat → Int32) (fbe : Nat → Int64) (hN : N ≤ 10) (hB : B ≤ 6) (hT : T ≤ 320) (hS0 : S ≤ 8) (hM : M ≤ 6) (hst : OKS fst) (hNB : N = 0 ∨ 0 < B) : Met l yX11_next (Cond.code yX11_next cX11_next 5 (some .int) :: GT) ({ frames := 4, cells := 0, slots := 0, locals := 102 } : Room) (PcW [.ref h0, .int i, .int g, .int d] dC dI G [(h0, .inr (11, [.ref st, .int (nI N), .int (nI B), .ref rp, .int vrs, .int vrb, .int vhs, .int vca, .int vxs, .int vxb, .ref tp, .int (nI T), .int vfa, .int vbr, .int vba, .int vsp, .int vhe, .int vtk, .int vva, .ref cu, .ref lt, .ref od, .ref th, .ref be, .ref ln, .int (nI S), .ref ma, .int (nI M), .ref ah, .ref bh, .ref ik, .ref la, .ref lg, .ref ce, .int vto])), (st, .inl (G 0, 196, .inl fst)), (be, .inl (G 1, 770, .inr (.inl fbe)))] sz) (va_Qi (fun (r : Int32) (u : (Nat → Int64)) => match u with | obe => (True) ∧ True) (fun (u : (Nat → Int64)) (t : State) => match u with | obe => va_P (dC, dI) vwCl [(h0, .inr (11, [.ref st, .int (nI N), .int (nI B), .ref rp, .int vrs, .int vrb, .int vhs, .int vca, .int vxs, .int vxb, .ref tp, .int (nI T), .int vfa, .int vbr, .int vba, .int vsp, .int vhe, .int vtk, .int vva, .ref cu, .ref lt, .ref od, .ref th, .ref be, .ref ln, .int (nI S), .ref ma, .int (nI M), .ref ah, .ref bh, .ref ik, .ref la, .ref lg, .ref ce, .int vto])), (st, .inl (G 0, 196, .inl fst)), (be, .inl (G 1, 770, .inr (.inl obe)))] t.heap ∧ va_D (va_A [(h0, .inr (11, [.ref st, .int (nI N), .int (nI B), .ref rp, .int vrs, .int vrb, .int vhs, .int vca, .int vxs, .int vxb, .ref tp, .int (nI T), .int vfa, .int vbr, .int vba, .int vsp, .int vhe, .int vtk, .int vva, .ref cu, .ref lt, .ref od, .ref th, .ref be, .ref ln, .int (nI S), .ref ma, .int (nI M), .ref ah, .ref bh, .ref ik, .ref la, .ref lg, .ref ce, .int vto])), (st, .inl (G 0, 196, .inl fst)), (be, .inl (G 1, 770, .inr (.inl fbe)))] sz) [(h0, .inr (11, [.ref st, .int (nI N), .int (nI B), .ref rp, .int vrs, .int vrb, .int vhs, .int vca, .int vxs, .int vxb, .ref tp, .int (nI T), .int vfa, .int vbr, .int vba, .int vsp, .int vhe, .int vtk, .int vva, .ref cu, .ref lt, .ref od, .ref th, .ref be, .ref ln, .int (nI S), .ref ma, .int (nI M), .ref ah, .ref bh, .ref ik, .ref la, .ref lg, .ref ce, .int vto])), (st, .inl (G 0, 196, .inl fst)), (be, .inl (G 1, 770, .inr (.inl obe)))]) (va_A [(h0, .inr (11, [.ref st, .int (nI N), .int (nI B), .ref rp, .int vrs, .int vrb, .int vhs, .int vca, .int vxs, .int vxb, .ref tp, .int (nI T), .int vfa, .int vbr, .int vba, .int vsp, .int vhe, .int vtk, .int vva, .ref cu, .ref lt, .ref od, .ref th, .ref be, .ref ln, .int (nI S), .ref ma, .int (nI M), .ref ah, .ref bh, .ref ik, .ref la, .ref lg, .ref ce, .int vto])), (st, .inl (G 0, 196, .inl fst)), (be, .inl (G 1, 770, .inr (.inl fbe)))] sz)) 0 0 (va_A [(h0, .inr (11, [.ref st, .int (nI N), .int (nI B), .ref rp, .int vrs, .int vrb, .int vhs, .int vca, .int vxs, .int vxb, .ref tp, .int (nI T), .int vfa, .int vbr, .int vba, .int vsp, .int vhe, .int vtk, .int vva, .ref cu, .ref lt, .ref od, .ref th, .ref be, .ref ln, .int (nI S), .ref ma, .int (nI M), .ref ah, .ref bh, .ref ik, .ref la, .ref lg, .ref ce, .int vto])), (st, .inl (G 0, 196, .inl fst)), (be, .inl (G 1, 770, .inr (.inl fbe)))] sz) := by
  have hB_ := hB
  have hM_ := hM
  have hT_ := hT
  have tn1232_ : nIT N := fun _ => nI_toInt (by omega)
  have tn1233_ : nIT B := fun _ => nI_toInt (by omega)
  have tn1234_ : nIT T := fun _ => nI_toInt (by omega)
  have tn1235_ : nIT S := fun _ => nI_toInt (by omega)
  have tn1236_ : nIT M := fun _ => nI_toInt (by omega)
  refine Met.ofW (cc := cX11_next) (maxL := 5) (ret := (some .int)) (by decide) rfl ?_
  intro p e s m args below meth c s₁ Bd hml hv
  obtain ⟨rfl, hsz, hP, hK, hD0⟩ := hv
  have hx := Bd.exec
  have hb := Bd.bytes
  have hr := Bd.returns
  have hg : ∀ w ∈ GT, w.before ([.ref h0, .int i, .int g, .int d] : List Value).toArray s = true := fun w h => atoms_spec (ws := Cond.code yX11_next cX11_next 5 (some .int) :: GT) Bd.pre w (List.mem_cons_of_mem _ h)
  have hown : s.vm.findClass RX11 = some m.cls := findClass_of_methodNamed Bd.named
  have hlocks := Bd.notSynchronized
  subst hsz
  have hD := hD0.self (sz := s.heap.size)
  generalize hAe : va_A [(h0, .inr (11, [.ref st, .int (nI N), .int (nI B), .ref rp, .int vrs, .int vrb, .int vhs, .int vca, .int vxs, .int vxb, .ref tp, .int (nI T), .int vfa, .int vbr, .int vba, .int vsp, .int vhe, .int vtk, .int vva, .ref cu, .ref lt, .ref od, .ref th, .ref be, .ref ln, .int (nI S), .ref ma, .int (nI M), .ref ah, .ref bh, .ref ik, .ref la, .ref lg, .ref ce, .int vto])), (st, .inl (G 0, 196, .inl fst)), (be, .inl (G 1, 770, .inr (.inl fbe)))] s.heap.size = A at hD ⊢
  have hA : ∀ q : Nat, s.heap.size ≤ q → A q := fun q h => by rw [← hAe]; exact Or.inr h
  have hS : va_S A s.heap s.heap [] := va_S.rf
  have hl := lv_entry ([.ref h0, .int i, .int g, .int d]) (n := 5) (Nat.le_of_ble_eq_true rfl)
  rw [lg_entry_eq]
  generalize (lg_sl ([.ref h0, .int i, .int g, .int d]) ++ List.replicate (5 - (lg_sl ([.ref h0, .int i, .int g, .int d])).length) Slot.unset).toArray = ls at hl ⊢
  have hl : lv_has ls 5 [(0, .ref h0), (1, .int i), (2, .int g), (3, .int d)] := hl
  refine lv_aload_n hx hb dX11_next_0 rfl (lv_at hl 0 rfl) ?_
  refine lv_iload_n hx hb dX11_next_1 rfl (lv_at hl 1 rfl) ?_
  have hPc := hP.sub (ws' := [(h0, .inr (11, [.ref st, .int (nI N), .int (nI B), .ref rp, .int vrs, .int vrb, .int vhs, .int vca, .int vxs, .int vxb, .ref tp, .int (nI T), .int vfa, .int vbr, .int vba, .int vsp, .int vhe, .int vtk, .int vva, .ref cu, .ref lt, .ref od, .ref th, .ref be, .ref ln, .int (nI S), .ref ma, .int (nI M), .ref ah, .ref bh, .ref ik, .ref la, .ref lg, .ref ce, .int vto]))]) [0] rfl
  refine va_calli (va_runV (As := [.int i]) (rest := []) ⟨hx, hb, hml, hown, hg⟩ (c_X11_isStretch l dC dI G _ h0 st N B rp tp T cu lt od th be ln S ma M ah bh ik la lg ce i vrs vrb vhs vca vxs vxb vfa vbr vba vsp vhe vtk vva vto hN hB_ hT_ hS0 hM_) (kwV hg mfX11_isStretch wt_1052 ⟨Nat.le_of_ble_eq_true rfl, Nat.le_of_ble_eq_true rfl⟩) (preVR hK hPc (ci := 11) (r := (RX11, TX11, 35)) rfl rfl) rfl rfl hl.1 rfl (lv_room (Nat.le_of_ble_eq_true rfl)) dX11_next_2 ⟨Nat.le_of_ble_eq_true rfl, Nat.le_of_ble_eq_true rfl⟩) hS (fun q h1 h2 => absurd h2 (Nat.not_le.mpr h1)) (fun q h => hA q (Nat.le_trans hS.1 h)) (fun r1 ur1 t H1 locs ht hvm w2 hB hz1 hk1 hS => ?_)
  have hP := keepR hP hk1
  obtain ⟨w2, w2x⟩ := w2
  try simp only [l_ii, show (0 : Int32).toInt = 0 from by decide] at w2
  try rw [show (nI (N)).toInt = ((N : Nat) : Int) from tn1232_ ()] at w2
  subst w2
  refine lv_if_eq (tgt := 38) hx hb dX11_next_5 rfl (fun c3 => ?_) (fun c3 => ?_)
  · skip
    have b4 := if10_n c3
    refine lv_iconst (v := (-1)) hx hb dX11_next_38 rfl ?_
    have hpost : True := by
      trivial
    obtain ⟨hP9, hD9⟩ := va_sub2 (ws' := [(h0, .inr (11, [.ref st, .int (nI N), .int (nI B), .ref rp, .int vrs, .int vrb, .int vhs, .int vca, .int vxs, .int vxb, .ref tp, .int (nI T), .int vfa, .int vbr, .int vba, .int vsp, .int vhe, .int vtk, .int vva, .ref cu, .ref lt, .ref od, .ref th, .ref be, .ref ln, .int (nI S), .ref ma, .int (nI M), .ref ah, .ref bh, .ref ik, .ref la, .ref lg, .ref ce, .int vto])), (st, .inl (G 0, 196, .inl fst)), (be, .inl (G 1, 770, .inr (.inl fbe)))]) hP hD [0, 1, 2] (by decide +kernel) rfl
    refine W.widen (k := 0) (n := 0) (Nat.le_of_ble_eq_true rfl) (Nat.le_of_ble_eq_true rfl) ?_
    exact W.iret (v := (-1)) hx hb hr (fun t ht hW => ⟨⟨(-1), fbe, rfl, ⟨hpost, trivial⟩, ⟨by rw [ht]; exact hP9, hD9⟩⟩, hS.F ht⟩) hS.2.2 dX11_next_39
  · skip
    have b5 := if10_p c3
    refine lv_aload_n hx hb dX11_next_8 rfl (lv_at hl 0 rfl) ?_
    refine lv_iload_n hx hb dX11_next_9 rfl (lv_at hl 2 rfl) ?_
    have hPc := hP.sub (ws' := [(h0, .inr (11, [.ref st, .int (nI N), .int (nI B), .ref rp, .int vrs, .int vrb, .int vhs, .int vca, .int vxs, .int vxb, .ref tp, .int (nI T), .int vfa, .int vbr, .int vba, .int vsp, .int vhe, .int vtk, .int vva, .ref cu, .ref lt, .ref od, .ref th, .ref be, .ref ln, .int (nI S), .ref ma, .int (nI M), .ref ah, .ref bh, .ref ik, .ref la, .ref lg, .ref ce, .int vto]))]) [0] rfl
    refine va_calli (va_runV (As := [.int g]) (rest := []) ⟨hx, hb, hml, hown, hg⟩ (c_X11_isBearer l dC dI G _ h0 st N B rp tp T cu lt od th be ln S ma M ah bh ik la lg ce g vrs vrb vhs vca vxs vxb vfa vbr vba vsp vhe vtk vva vto hN hB_ hT_ hS0 hM_) (kwV hg mfX11_isBearer wt_1061 ⟨Nat.le_of_ble_eq_true rfl, Nat.le_of_ble_eq_true rfl⟩) (preVR hK hPc (ci := 11) (r := (RX11, TX11, 35)) rfl rfl) rfl rfl hl.1 rfl (lv_room (Nat.le_of_ble_eq_true rfl)) dX11_next_10 ⟨Nat.le_of_ble_eq_true rfl, Nat.le_of_ble_eq_true rfl⟩) hS (fun q h1 h2 => absurd h2 (Nat.not_le.mpr h1)) (fun q h => hA q (Nat.le_trans hS.1 h)) (fun r6 ur6 t H1 locs ht hvm w7 hB hz1 hk1 hS => ?_)
    have hP := keepR hP hk1
    obtain ⟨w7, w7x⟩ := w7
    try simp only [l_ii, show (0 : Int32).toInt = 0 from by decide] at w7
    try rw [show (nI (B)).toInt = ((B : Nat) : Int) from tn1233_ ()] at w7
    subst w7
    refine lv_if_ne (tgt := 26) hx hb dX11_next_13 rfl (fun c8 => ?_) (fun c8 => ?_)
    · skip
      have b9 := if10_p c8
      refine lv_iload_n hx hb dX11_next_26 rfl (lv_at hl 3 rfl) ?_
      refine lv_i2l (v := d.toInt64) hx hb dX11_next_27 rfl ?_
      refine lv_lconst (v := 1) hx hb dX11_next_28 (by decide) ?_
      refine lv_ldc2 (v := 9) hx hb hown (hg _ wt_1069) dX11_next_29 ?_
      have hPc := hP.sub (ws' := []) [] rfl
      refine va_calli (va_runS (As := [.long d.toInt64, .long 1, .long 9]) (rest := []) ⟨hx, hb, hml, hown, hg⟩ (c_X11_in l dC dI G _ d.toInt64 1 9) (kwS hg mfX11_in wt_992 ⟨Nat.le_of_ble_eq_true rfl, Nat.le_of_ble_eq_true rfl⟩) (preSR hK hPc) rfl rfl hl.1 rfl (lv_room (Nat.le_of_ble_eq_true rfl)) dX11_next_32 ⟨Nat.le_of_ble_eq_true rfl, Nat.le_of_ble_eq_true rfl⟩) hS (fun q h1 h2 => absurd h2 (Nat.not_le.mpr h1)) (fun q h => hA q (Nat.le_trans hS.1 h)) (fun r10 ur10 t H1 locs ht hvm w11 hB hz1 hk1 hS => ?_)
      have hP := keepR hP hk1
      obtain ⟨w11, w11x⟩ := w11
      try simp only [l_ii, show (1 : Int64).toInt = 1 from by decide, show (9 : Int64).toInt = 9 from by decide] at w11
      subst w11
      refine lv_if_ne (tgt := 40) hx hb dX11_next_35 rfl (fun c12 => ?_) (fun c12 => ?_)
      · skip
        have b13 := if10_p c12
        obtain ⟨ii, hii, rfl⟩ : ∃ j : Nat, j < 10 ∧ i = nI j := by
          have t_b5 := b5
          have t_b9 := b9
          have t_b13 := b13
          have t_n0 : (nI N).toInt = (N : Int) := tn1232_ ()
          have t_n1 : (nI B).toInt = (B : Int) := tn1233_ ()
          have t_n2 : (nI T).toInt = (T : Int) := tn1234_ ()
          have t_n3 : (nI S).toInt = (S : Int) := tn1235_ ()
          have t_n4 : (nI M).toInt = (M : Int) := tn1236_ ()
          exact i32_nat (by omega) (by omega)
        obtain ⟨dd, hdd, rfl⟩ : ∃ j : Nat, j < 10 ∧ d = nI j := by
          have t_b5 := b5
          have t_b9 := b9
          have t_b13 := b13
          have t_hii := hii
          have t_n0 : (nI N).toInt = (N : Int) := tn1232_ ()
          have t_n1 : (nI B).toInt = (B : Int) := tn1233_ ()
          have t_n2 : (nI T).toInt = (T : Int) := tn1234_ ()
          have t_n3 : (nI S).toInt = (S : Int) := tn1235_ ()
          have t_n4 : (nI M).toInt = (M : Int) := tn1236_ ()
          have tn1237_ : nIT ii := fun _ => nI_toInt (by omega)
          have t_n5 : (nI ii).toInt = (ii : Int) := tn1237_ ()
          exact i32_nat (by omega) (by omega)
        obtain ⟨gg, hgg, rfl⟩ : ∃ j : Nat, j < 6 ∧ g = nI j := by
          have t_b5 := b5
          have t_b9 := b9
          have t_b13 := b13
          have t_hii := hii
          have t_hdd := hdd
          have t_n0 : (nI N).toInt = (N : Int) := tn1232_ ()
          have t_n1 : (nI B).toInt = (B : Int) := tn1233_ ()
          have t_n2 : (nI T).toInt = (T : Int) := tn1234_ ()
          have t_n3 : (nI S).toInt = (S : Int) := tn1235_ ()
          have t_n4 : (nI M).toInt = (M : Int) := tn1236_ ()
          have tn1238_ : nIT ii := fun _ => nI_toInt (by omega)
          have t_n5 : (nI ii).toInt = (ii : Int) := tn1238_ ()
          have tn1239_ : nIT dd := fun _ => nI_toInt (by omega)
          have t_n6 : (nI dd).toInt = (dd : Int) := tn1239_ ()
          exact i32_nat (by omega) (by omega)
        refine lv_aload_n hx hb dX11_next_40 rfl (lv_at hl 0 rfl) ?_
        refine lv_bipush (v := (-4)) hx hb dX11_next_41 rfl ?_
        obtain ⟨hPc, hDc, hFc⟩ := va_sub3 (ws' := [(h0, .inr (11, [.ref st, .int (nI N), .int (nI B), .ref rp, .int vrs, .int vrb, .int vhs, .int vca, .int vxs, .int vxb, .ref tp, .int (nI T), .int vfa, .int vbr, .int vba, .int vsp, .int vhe, .int vtk, .int vva, .ref cu, .ref lt, .ref od, .ref th, .ref be, .ref ln, .int (nI S), .ref ma, .int (nI M), .ref ah, .ref bh, .ref ik, .ref la, .ref lg, .ref ce, .int vto])), (st, .inl (G 0, 196, .inl fst)), (be, .inl (G 1, 770, .inr (.inl fbe)))]) hP hD hS hA [0, 1, 2] (by decide +kernel) rfl
        have tn1240_ : nIT ii := fun _ => nI_toInt (by first | omega | (have t_b5 := b5; have t_b9 := b9; have t_b13 := b13; have t_hii := hii; have t_hdd := hdd; have t_hgg := hgg; omega))
        have tn1241_ : nIT dd := fun _ => nI_toInt (by first | omega | (have t_b5 := b5; have t_b9 := b9; have t_b13 := b13; have t_hii := hii; have t_hdd := hdd; have t_hgg := hgg; omega))
        have tn1242_ : nIT gg := fun _ => nI_toInt (by first | omega | (have t_b5 := b5; have t_b9 := b9; have t_b13 := b13; have t_hii := hii; have t_hdd := hdd; have t_hgg := hgg; omega))
        refine va_callv (va_runV (As := [.int (-4)]) (rest := []) ⟨hx, hb, hml, hown, hg⟩ (c_X11_layBestN l dC dI G _ h0 st N B rp tp T cu lt od th be ln S ma M ah bh ik la lg ce vrs vrb vhs vca vxs vxb vfa vbr vba vsp vhe vtk vva vto fst fbe hN hB_ hT_ hS0 hM_ hst hNB) (kwV hg mfX11_layBest wt_1150 ⟨Nat.le_of_ble_eq_true rfl, Nat.le_of_ble_eq_true rfl⟩) (preVW hK hPc hDc (ci := 11) (r := (RX11, TX11, 35)) rfl rfl) rfl rfl hl.1 rfl (lv_room (Nat.le_of_ble_eq_true rfl)) dX11_next_43 ⟨Nat.le_of_ble_eq_true rfl, Nat.le_of_ble_eq_true rfl⟩) hS (fun q _ h => hFc q h) hFc (fun ur14 t H1 locs ht hvm w15 hB hz1 hk1 hS => ?_)
        obtain ⟨u16, rfl⟩ : ∃ z, z = ur14 := ⟨_, rfl⟩
        obtain ⟨hP1, hD1⟩ := hB
        rw [ht] at hP1
        obtain ⟨hP, hD⟩ := va_join (wr := []) (w1 := [(h0, .inr (11, [.ref st, .int (nI N), .int (nI B), .ref rp, .int vrs, .int vrb, .int vhs, .int vca, .int vxs, .int vxb, .ref tp, .int (nI T), .int vfa, .int vbr, .int vba, .int vsp, .int vhe, .int vtk, .int vva, .ref cu, .ref lt, .ref od, .ref th, .ref be, .ref ln, .int (nI S), .ref ma, .int (nI M), .ref ah, .ref bh, .ref ik, .ref la, .ref lg, .ref ce, .int vto])), (st, .inl (G 0, 196, .inl fst)), (be, .inl (G 1, 770, .inr (.inl u16)))]) hP hD [0, 1, 2] [] rfl rfl (by decide +kernel) (by decide +kernel) hk1 hFc hP1 hD1
        have w15 : RI fst N B 0 u16 := w15
        generalize H1 = H at hP hS ⊢
        refine lv_iconst (v := 0) hx hb dX11_next_46 rfl ?_
        refine lv_istore (lv' := [(4, .int 0), (0, .ref h0), (1, .int (nI ii)), (2, .int (nI gg)), (3, .int (nI dd))]) hx hb dX11_next_47 hl (by decide) rfl (fun ls hl => ?_)
        have loop49_18 : ∀ (nf j17 : Nat), B + 1 ≤ j17 + nf → j17 ≤ B → ∀ (H : Heap) (locs : List Loc), (∃ b9 : Nat, j17 ≤ b9 ∧ b9 < B ∧ b1B fst u16 ii gg dd b9 = u16 (70 * ii + 10 * (gg + 1) + dd)) → va_P (dC, dI) vwCl [(h0, .inr (11, [.ref st, .int (nI N), .int (nI B), .ref rp, .int vrs, .int vrb, .int vhs, .int vca, .int vxs, .int vxb, .ref tp, .int (nI T), .int vfa, .int vbr, .int vba, .int vsp, .int vhe, .int vtk, .int vva, .ref cu, .ref lt, .ref od, .ref th, .ref be, .ref ln, .int (nI S), .ref ma, .int (nI M), .ref ah, .ref bh, .ref ik, .ref la, .ref lg, .ref ce, .int vto])), (st, .inl (G 0, 196, .inl fst)), (be, .inl (G 1, 770, .inr (.inl u16)))] H → va_D A [(h0, .inr (11, [.ref st, .int (nI N), .int (nI B), .ref rp, .int vrs, .int vrb, .int vhs, .int vca, .int vxs, .int vxb, .ref tp, .int (nI T), .int vfa, .int vbr, .int vba, .int vsp, .int vhe, .int vtk, .int vva, .ref cu, .ref lt, .ref od, .ref th, .ref be, .ref ln, .int (nI S), .ref ma, .int (nI M), .ref ah, .ref bh, .ref ik, .ref la, .ref lg, .ref ce, .int vto])), (st, .inl (G 0, 196, .inl fst)), (be, .inl (G 1, 770, .inr (.inl u16)))] → va_S A s.heap H locs → ∀ (ls : Array Slot), lv_has ls 5 [(4, .int (nI j17)), (0, .ref h0), (1, .int (nI ii)), (2, .int (nI gg)), (3, .int (nI dd))] → W p l e (headSpec (Cond.code yX11_next cX11_next 5 (some .int) :: GT) ({ frames := 4, cells := 0, slots := 0, locals := 102 } : Room)).room s m ([.ref h0, .int (nI ii), .int (nI gg), .int (nI dd)] : List Value).toArray below meth c H locs 0 0 (MQ below (va_Qi (fun (r : Int32) (u : (Nat → Int64)) => match u with | obe => (True) ∧ True) (fun (u : (Nat → Int64)) (t : State) => match u with | obe => va_P (dC, dI) vwCl [(h0, .inr (11, [.ref st, .int (nI N), .int (nI B), .ref rp, .int vrs, .int vrb, .int vhs, .int vca, .int vxs, .int vxb, .ref tp, .int (nI T), .int vfa, .int vbr, .int vba, .int vsp, .int vhe, .int vtk, .int vva, .ref cu, .ref lt, .ref od, .ref th, .ref be, .ref ln, .int (nI S), .ref ma, .int (nI M), .ref ah, .ref bh, .ref ik, .ref la, .ref lg, .ref ce, .int vto])), (st, .inl (G 0, 196, .inl fst)), (be, .inl (G 1, 770, .inr (.inl obe)))] t.heap ∧ va_D A [(h0, .inr (11, [.ref st, .int (nI N), .int (nI B), .ref rp, .int vrs, .int vrb, .int vhs, .int vca, .int vxs, .int vxb, .ref tp, .int (nI T), .int vfa, .int vbr, .int vba, .int vsp, .int vhe, .int vtk, .int vva, .ref cu, .ref lt, .ref od, .ref th, .ref be, .ref ln, .int (nI S), .ref ma, .int (nI M), .ref ah, .ref bh, .ref ik, .ref la, .ref lg, .ref ce, .int vto])), (st, .inl (G 0, 196, .inl fst)), (be, .inl (G 1, 770, .inr (.inl obe)))]) A) ([.ref h0, .int (nI ii), .int (nI gg), .int (nI dd)] : List Value).toArray s 0 0 A) (F0 m 49 ls []) := by
          intro nf
          induction nf with
          | zero => intro j17 h1 h2; exact absurd h1 (by omega)
          | succ nf ih49_18 =>
            intro j17 hn19 hj20  H locs hinv hP hD hS ls hl
            refine lv_aload_n hx hb dX11_next_49 rfl (lv_at hl 1 rfl) ?_
            have hjB := nx_lt hinv
            refine lv_iload_n hx hb dX11_next_50 rfl (lv_at hl 2 rfl) ?_
            refine lv_iload_n hx hb dX11_next_51 rfl (lv_at hl 3 rfl) ?_
            refine lv_iload_n hx hb dX11_next_52 rfl (lv_at hl 4 rfl) ?_
            refine lv_iload hx hb dX11_next_53 (lv_at hl 0 rfl) ?_
            have hPc := hP.sub (ws' := [(h0, .inr (11, [.ref st, .int (nI N), .int (nI B), .ref rp, .int vrs, .int vrb, .int vhs, .int vca, .int vxs, .int vxb, .ref tp, .int (nI T), .int vfa, .int vbr, .int vba, .int vsp, .int vhe, .int vtk, .int vva, .ref cu, .ref lt, .ref od, .ref th, .ref be, .ref ln, .int (nI S), .ref ma, .int (nI M), .ref ah, .ref bh, .ref ik, .ref la, .ref lg, .ref ce, .int vto])), (st, .inl (G 0, 196, .inl fst)), (be, .inl (G 1, 770, .inr (.inl u16)))]) [0, 1, 2] rfl
            have tn1243_ : nIT j17 := fun _ => nI_toInt (by first | omega | (have t_b5 := b5; have t_b9 := b9; have t_b13 := b13; have t_hii := hii; have t_hdd := hdd; have t_hgg := hgg; have t_hj20 := hj20; have t_hinvf := (nx_lt hinv); omega))
            refine va_calll (va_runV (As := [.int (nI ii), .int (nI gg), .int (nI dd), .int (nI j17)]) (rest := []) ⟨hx, hb, hml, hown, hg⟩ (c_X11_byOneB l dC dI G _ h0 ii gg dd j17 st N B rp tp T cu lt od th be ln S ma M ah bh ik la lg ce vrs vrb vhs vca vxs vxb vfa vbr vba vsp vhe vtk vva vto fst u16 hN hB_ hT_ hS0 hM_ (by first | omega | (have t_b5 := b5; have t_b9 := b9; have t_b13 := b13; have t_hii := hii; have t_hdd := hdd; have t_hgg := hgg; have t_hj20 := hj20; have t_hinvf := (nx_lt hinv); have tnb_ := nib9 tn1232_ tn1233_ tn1234_ tn1235_ tn1236_ tn1240_ tn1241_ tn1242_ tn1243_; omega)) (by first | omega | (have t_b5 := b5; have t_b9 := b9; have t_b13 := b13; have t_hii := hii; have t_hdd := hdd; have t_hgg := hgg; have t_hj20 := hj20; have t_hinvf := (nx_lt hinv); have tnb_ := nib9 tn1232_ tn1233_ tn1234_ tn1235_ tn1236_ tn1240_ tn1241_ tn1242_ tn1243_; omega)) (by first | omega | (have t_b5 := b5; have t_b9 := b9; have t_b13 := b13; have t_hii := hii; have t_hdd := hdd; have t_hgg := hgg; have t_hj20 := hj20; have t_hinvf := (nx_lt hinv); have tnb_ := nib9 tn1232_ tn1233_ tn1234_ tn1235_ tn1236_ tn1240_ tn1241_ tn1242_ tn1243_; omega)) (by first | omega | (have t_b5 := b5; have t_b9 := b9; have t_b13 := b13; have t_hii := hii; have t_hdd := hdd; have t_hgg := hgg; have t_hj20 := hj20; have t_hinvf := (nx_lt hinv); have tnb_ := nib9 tn1232_ tn1233_ tn1234_ tn1235_ tn1236_ tn1240_ tn1241_ tn1242_ tn1243_; omega))) (kwV hg mfX11_byOne wt_1155 ⟨Nat.le_of_ble_eq_true rfl, Nat.le_of_ble_eq_true rfl⟩) (preVR hK hPc (ci := 11) (r := (RX11, TX11, 35)) rfl rfl) rfl rfl hl.1 rfl (lv_room (Nat.le_of_ble_eq_true rfl)) dX11_next_55 ⟨Nat.le_of_ble_eq_true rfl, Nat.le_of_ble_eq_true rfl⟩) hS (fun q h1 h2 => absurd h2 (Nat.not_le.mpr h1)) (fun q h => hA q (Nat.le_trans hS.1 h)) (fun r21 ur21 t H1 locs ht hvm w22 hB hz1 hk1 hS => ?_)
            have hP := keepR hP hk1
            obtain ⟨w22, w22x⟩ := w22
            subst w22
            refine lv_aload_n hx hb dX11_next_58 rfl (lv_at hl 1 rfl) ?_
            refine va_get (D := (dC, dI)) (ci := 11) (v := .ref be) (C := RX11) (T := TX11) (N := 35) hx hb hg inG11 hown hK.1 hP 0 rfl rfl 23 (Nat.le_of_ble_eq_true rfl) (hg _ wt_901) (fun _ h9 => h9) rfl dX11_next_59 ?_
            refine lv_iload_n hx hb dX11_next_62 rfl (lv_at hl 2 rfl) ?_
            refine lv_iload_n hx hb dX11_next_63 rfl (lv_at hl 3 rfl) ?_
            refine lv_iload_n hx hb dX11_next_64 rfl (lv_at hl 4 rfl) ?_
            have hPc := hP.sub (ws' := []) [] rfl
            refine va_calli (va_runS (As := [.int (nI ii), .int (nI gg), .int (nI dd)]) (rest := [.ref be, .long (b1B fst u16 ii gg dd j17)]) ⟨hx, hb, hml, hown, hg⟩ (c_X11_bestAtB l dC dI G _ ii gg dd (by first | omega | (have t_b5 := b5; have t_b9 := b9; have t_b13 := b13; have t_hii := hii; have t_hdd := hdd; have t_hgg := hgg; have t_hj20 := hj20; have t_hinvf := (nx_lt hinv); have tnb_ := nib9 tn1232_ tn1233_ tn1234_ tn1235_ tn1236_ tn1240_ tn1241_ tn1242_ tn1243_; omega)) (by first | omega | (have t_b5 := b5; have t_b9 := b9; have t_b13 := b13; have t_hii := hii; have t_hdd := hdd; have t_hgg := hgg; have t_hj20 := hj20; have t_hinvf := (nx_lt hinv); have tnb_ := nib9 tn1232_ tn1233_ tn1234_ tn1235_ tn1236_ tn1240_ tn1241_ tn1242_ tn1243_; omega)) (by first | omega | (have t_b5 := b5; have t_b9 := b9; have t_b13 := b13; have t_hii := hii; have t_hdd := hdd; have t_hgg := hgg; have t_hj20 := hj20; have t_hinvf := (nx_lt hinv); have tnb_ := nib9 tn1232_ tn1233_ tn1234_ tn1235_ tn1236_ tn1240_ tn1241_ tn1242_ tn1243_; omega))) (kwS hg mfX11_bestAt wt_1159 ⟨Nat.le_of_ble_eq_true rfl, Nat.le_of_ble_eq_true rfl⟩) (preSR hK hPc) rfl rfl hl.1 rfl (lv_room (Nat.le_of_ble_eq_true rfl)) dX11_next_65 ⟨Nat.le_of_ble_eq_true rfl, Nat.le_of_ble_eq_true rfl⟩) hS (fun q h1 h2 => absurd h2 (Nat.not_le.mpr h1)) (fun q h => hA q (Nat.le_trans hS.1 h)) (fun r23 ur23 t H1 locs ht hvm w24 hB hz1 hk1 hS => ?_)
            have hP := keepR hP hk1
            obtain ⟨w24, w24x⟩ := w24
            subst w24
            refine va_lald hx hb hK.1 hP 2 1 rfl rfl (vp_in_nI (by first | omega | (have t_b5 := b5; have t_b9 := b9; have t_b13 := b13; have t_hii := hii; have t_hdd := hdd; have t_hgg := hgg; have t_hj20 := hj20; have t_hinvf := (nx_lt hinv); have tnb_ := nib9 tn1232_ tn1233_ tn1234_ tn1235_ tn1236_ tn1240_ tn1241_ tn1242_ tn1243_; omega)) (by decide)) dX11_next_68 ?_
            refine lv_cgl (y := u16 (70 * ii + 10 * (gg + 1) + dd)) (by rw [nI_clamp (by omega)]) ?_
            refine W.lcmp hx hb dX11_next_69 ?_
            refine lv_if_eq (tgt := 79) hx hb dX11_next_70 rfl (fun c25 => ?_) (fun c25 => ?_)
            · skip
              refine lv_iload hx hb dX11_next_79 (lv_at hl 0 rfl) ?_
              have hpost : True := by
                trivial
              obtain ⟨hP9, hD9⟩ := va_sub2 (ws' := [(h0, .inr (11, [.ref st, .int (nI N), .int (nI B), .ref rp, .int vrs, .int vrb, .int vhs, .int vca, .int vxs, .int vxb, .ref tp, .int (nI T), .int vfa, .int vbr, .int vba, .int vsp, .int vhe, .int vtk, .int vva, .ref cu, .ref lt, .ref od, .ref th, .ref be, .ref ln, .int (nI S), .ref ma, .int (nI M), .ref ah, .ref bh, .ref ik, .ref la, .ref lg, .ref ce, .int vto])), (st, .inl (G 0, 196, .inl fst)), (be, .inl (G 1, 770, .inr (.inl u16)))]) hP hD [0, 1, 2] (by decide +kernel) rfl
              refine W.widen (k := 0) (n := 0) (Nat.le_of_ble_eq_true rfl) (Nat.le_of_ble_eq_true rfl) ?_
              exact W.iret (v := nI j17) hx hb hr (fun t ht hW => ⟨⟨nI j17, u16, rfl, ⟨hpost, trivial⟩, ⟨by rw [ht]; exact hP9, hD9⟩⟩, hS.F ht⟩) hS.2.2 dX11_next_81
            · skip
              refine lv_iinc (v := nI (j17 + 1)) (lv' := [(4, .int (nI (j17 + 1))), (0, .ref h0), (1, .int (nI ii)), (2, .int (nI gg)), (3, .int (nI dd))]) hx hb dX11_next_73 hl (k := 0) rfl (by rw [show Int32.ofInt 1 = nI 1 from by decide]; exact nI_add _ _) (by decide) rfl (fun ls hl => ?_)
              refine lv_goto (tgt := 49) hx hb dX11_next_76 rfl ?_
              exact ih49_18 (j17 + 1) (by omega) (by omega)  _ _ (nx_step hinv (lcm_eq_f c25)) hP hD hS ls (lv_sub hl [0, 1, 2, 3, 4] rfl)
        exact loop49_18 (B + 1) 0 (by omega) (by omega)  _ _ (RI.getB w15 (by have t_b5 := b5; have t_b9 := b9; have t_b13 := b13; have t_hii := hii; have t_hdd := hdd; have t_hgg := hgg; have tnb_ := nib8 tn1232_ tn1233_ tn1234_ tn1235_ tn1236_ tn1240_ tn1241_ tn1242_; omega) (by have t_b5 := b5; have t_b9 := b9; have t_b13 := b13; have t_hii := hii; have t_hdd := hdd; have t_hgg := hgg; have tnb_ := nib8 tn1232_ tn1233_ tn1234_ tn1235_ tn1236_ tn1240_ tn1241_ tn1242_; omega) (by have t_b5 := b5; have t_b9 := b9; have t_b13 := b13; have t_hii := hii; have t_hdd := hdd; have t_hgg := hgg; have tnb_ := nib8 tn1232_ tn1233_ tn1234_ tn1235_ tn1236_ tn1240_ tn1241_ tn1242_; omega) (by have t_b5 := b5; have t_b9 := b9; have t_b13 := b13; have t_hii := hii; have t_hdd := hdd; have t_hgg := hgg; have tnb_ := nib8 tn1232_ tn1233_ tn1234_ tn1235_ tn1236_ tn1240_ tn1241_ tn1242_; omega) (by have t_b5 := b5; have t_b9 := b9; have t_b13 := b13; have t_hii := hii; have t_hdd := hdd; have t_hgg := hgg; have tnb_ := nib8 tn1232_ tn1233_ tn1234_ tn1235_ tn1236_ tn1240_ tn1241_ tn1242_; omega)) hP hD hS ls (lv_sub hl [0, 1, 2, 3, 4] rfl)
      · skip
        have b26 := if10_n c12
        refine lv_iconst (v := (-1)) hx hb dX11_next_38 rfl ?_
        have hpost : True := by
          trivial
        obtain ⟨hP9, hD9⟩ := va_sub2 (ws' := [(h0, .inr (11, [.ref st, .int (nI N), .int (nI B), .ref rp, .int vrs, .int vrb, .int vhs, .int vca, .int vxs, .int vxb, .ref tp, .int (nI T), .int vfa, .int vbr, .int vba, .int vsp, .int vhe, .int vtk, .int vva, .ref cu, .ref lt, .ref od, .ref th, .ref be, .ref ln, .int (nI S), .ref ma, .int (nI M), .ref ah, .ref bh, .ref ik, .ref la, .ref lg, .ref ce, .int vto])), (st, .inl (G 0, 196, .inl fst)), (be, .inl (G 1, 770, .inr (.inl fbe)))]) hP hD [0, 1, 2] (by decide +kernel) rfl
        refine W.widen (k := 0) (n := 0) (Nat.le_of_ble_eq_true rfl) (Nat.le_of_ble_eq_true rfl) ?_
        exact W.iret (v := (-1)) hx hb hr (fun t ht hW => ⟨⟨(-1), fbe, rfl, ⟨hpost, trivial⟩, ⟨by rw [ht]; exact hP9, hD9⟩⟩, hS.F ht⟩) hS.2.2 dX11_next_39
    · skip
      have b27 := if10_n c8
      refine lv_iload_n hx hb dX11_next_16 rfl (lv_at hl 2 rfl) ?_
      refine lv_bipush (v := (-4)) hx hb dX11_next_17 rfl ?_
      refine lv_icmp_ne (tgt := 38) hx hb dX11_next_19 rfl (fun c28 => ?_) (fun c28 => ?_)
      · skip
        refine lv_iconst (v := (-1)) hx hb dX11_next_38 rfl ?_
        have hpost : True := by
          trivial
        obtain ⟨hP9, hD9⟩ := va_sub2 (ws' := [(h0, .inr (11, [.ref st, .int (nI N), .int (nI B), .ref rp, .int vrs, .int vrb, .int vhs, .int vca, .int vxs, .int vxb, .ref tp, .int (nI T), .int vfa, .int vbr, .int vba, .int vsp, .int vhe, .int vtk, .int vva, .ref cu, .ref lt, .ref od, .ref th, .ref be, .ref ln, .int (nI S), .ref ma, .int (nI M), .ref ah, .ref bh, .ref ik, .ref la, .ref lg, .ref ce, .int vto])), (st, .inl (G 0, 196, .inl fst)), (be, .inl (G 1, 770, .inr (.inl fbe)))]) hP hD [0, 1, 2] (by decide +kernel) rfl
        refine W.widen (k := 0) (n := 0) (Nat.le_of_ble_eq_true rfl) (Nat.le_of_ble_eq_true rfl) ?_
        exact W.iret (v := (-1)) hx hb hr (fun t ht hW => ⟨⟨(-1), fbe, rfl, ⟨hpost, trivial⟩, ⟨by rw [ht]; exact hP9, hD9⟩⟩, hS.F ht⟩) hS.2.2 dX11_next_39
      · skip
        refine lv_iload_n hx hb dX11_next_22 rfl (lv_at hl 1 rfl) ?_
        refine lv_if_ne (tgt := 38) hx hb dX11_next_23 rfl (fun c29 => ?_) (fun c29 => ?_)
        · skip
          refine lv_iconst (v := (-1)) hx hb dX11_next_38 rfl ?_
          have hpost : True := by
            trivial
          obtain ⟨hP9, hD9⟩ := va_sub2 (ws' := [(h0, .inr (11, [.ref st, .int (nI N), .int (nI B), .ref rp, .int vrs, .int vrb, .int vhs, .int vca, .int vxs, .int vxb, .ref tp, .int (nI T), .int vfa, .int vbr, .int vba, .int vsp, .int vhe, .int vtk, .int vva, .ref cu, .ref lt, .ref od, .ref th, .ref be, .ref ln, .int (nI S), .ref ma, .int (nI M), .ref ah, .ref bh, .ref ik, .ref la, .ref lg, .ref ce, .int vto])), (st, .inl (G 0, 196, .inl fst)), (be, .inl (G 1, 770, .inr (.inl fbe)))]) hP hD [0, 1, 2] (by decide +kernel) rfl
          refine W.widen (k := 0) (n := 0) (Nat.le_of_ble_eq_true rfl) (Nat.le_of_ble_eq_true rfl) ?_
          exact W.iret (v := (-1)) hx hb hr (fun t ht hW => ⟨⟨(-1), fbe, rfl, ⟨hpost, trivial⟩, ⟨by rw [ht]; exact hP9, hD9⟩⟩, hS.F ht⟩) hS.2.2 dX11_next_39
        · skip
          refine lv_iload_n hx hb dX11_next_26 rfl (lv_at hl 3 rfl) ?_
          refine lv_i2l (v := d.toInt64) hx hb dX11_next_27 rfl ?_
          refine lv_lconst (v := 1) hx hb dX11_next_28 (by decide) ?_
          refine lv_ldc2 (v := 9) hx hb hown (hg _ wt_1069) dX11_next_29 ?_
          have hPc := hP.sub (ws' := []) [] rfl
          refine va_calli (va_runS (As := [.long d.toInt64, .long 1, .long 9]) (rest := []) ⟨hx, hb, hml, hown, hg⟩ (c_X11_in l dC dI G _ d.toInt64 1 9) (kwS hg mfX11_in wt_992 ⟨Nat.le_of_ble_eq_true rfl, Nat.le_of_ble_eq_true rfl⟩) (preSR hK hPc) rfl rfl hl.1 rfl (lv_room (Nat.le_of_ble_eq_true rfl)) dX11_next_32 ⟨Nat.le_of_ble_eq_true rfl, Nat.le_of_ble_eq_true rfl⟩) hS (fun q h1 h2 => absurd h2 (Nat.not_le.mpr h1)) (fun q h => hA q (Nat.le_trans hS.1 h)) (fun r30 ur30 t H1 locs ht hvm w31 hB hz1 hk1 hS => ?_)
          have hP := keepR hP hk1
          obtain ⟨w31, w31x⟩ := w31
          try simp only [l_ii, show (1 : Int64).toInt = 1 from by decide, show (9 : Int64).toInt = 9 from by decide] at w31
          subst w31
          refine lv_if_ne (tgt := 40) hx hb dX11_next_35 rfl (fun c32 => ?_) (fun c32 => ?_)
          · skip
            have b33 := if10_p c32
            obtain ⟨ii, hii, rfl⟩ : ∃ j : Nat, j < 10 ∧ i = nI j := by
              have t_b5 := b5
              have t_b27 := b27
              have t_c28 := eqI c28
              have t_c29 := eqI c29
              have t_b33 := b33
              have : ((-4) : Int32).toInt = -4 := qI_m4
              have : (0 : Int32).toInt = 0 := qI_0
              have t_n0 : (nI N).toInt = (N : Int) := tn1232_ ()
              have t_n1 : (nI B).toInt = (B : Int) := tn1233_ ()
              have t_n2 : (nI T).toInt = (T : Int) := tn1234_ ()
              have t_n3 : (nI S).toInt = (S : Int) := tn1235_ ()
              have t_n4 : (nI M).toInt = (M : Int) := tn1236_ ()
              exact i32_nat (by omega) (by omega)
            obtain ⟨dd, hdd, rfl⟩ : ∃ j : Nat, j < 10 ∧ d = nI j := by
              have t_b5 := b5
              have t_b27 := b27
              have t_c28 := eqI c28
              have t_c29 := eqI c29
              have t_b33 := b33
              have t_hii := hii
              have : ((-4) : Int32).toInt = -4 := qI_m4
              have : (0 : Int32).toInt = 0 := qI_0
              have t_n0 : (nI N).toInt = (N : Int) := tn1232_ ()
              have t_n1 : (nI B).toInt = (B : Int) := tn1233_ ()
              have t_n2 : (nI T).toInt = (T : Int) := tn1234_ ()
              have t_n3 : (nI S).toInt = (S : Int) := tn1235_ ()
              have t_n4 : (nI M).toInt = (M : Int) := tn1236_ ()
              have tn1244_ : nIT ii := fun _ => nI_toInt (by omega)
              have t_n5 : (nI ii).toInt = (ii : Int) := tn1244_ ()
              exact i32_nat (by omega) (by omega)
            by_cases ha34 : g = -4
            · skip
              subst ha34
              refine lv_aload_n hx hb dX11_next_40 rfl (lv_at hl 0 rfl) ?_
              refine lv_bipush (v := (-4)) hx hb dX11_next_41 rfl ?_
              obtain ⟨hPc, hDc, hFc⟩ := va_sub3 (ws' := [(h0, .inr (11, [.ref st, .int (nI N), .int (nI B), .ref rp, .int vrs, .int vrb, .int vhs, .int vca, .int vxs, .int vxb, .ref tp, .int (nI T), .int vfa, .int vbr, .int vba, .int vsp, .int vhe, .int vtk, .int vva, .ref cu, .ref lt, .ref od, .ref th, .ref be, .ref ln, .int (nI S), .ref ma, .int (nI M), .ref ah, .ref bh, .ref ik, .ref la, .ref lg, .ref ce, .int vto])), (st, .inl (G 0, 196, .inl fst)), (be, .inl (G 1, 770, .inr (.inl fbe)))]) hP hD hS hA [0, 1, 2] (by decide +kernel) rfl
              have tn1245_ : nIT ii := fun _ => nI_toInt (by first | omega | (have t_b5 := b5; have t_b27 := b27; have t_c28 := eqI c28; have t_c29 := eqI c29; have t_b33 := b33; have t_hii := hii; have t_hdd := hdd; have tqz_ := qz8_; omega))
              have tn1246_ : nIT dd := fun _ => nI_toInt (by first | omega | (have t_b5 := b5; have t_b27 := b27; have t_c28 := eqI c28; have t_c29 := eqI c29; have t_b33 := b33; have t_hii := hii; have t_hdd := hdd; have tqz_ := qz8_; omega))
              refine va_callv (va_runV (As := [.int (-4)]) (rest := []) ⟨hx, hb, hml, hown, hg⟩ (c_X11_layBestN l dC dI G _ h0 st N B rp tp T cu lt od th be ln S ma M ah bh ik la lg ce vrs vrb vhs vca vxs vxb vfa vbr vba vsp vhe vtk vva vto fst fbe hN hB_ hT_ hS0 hM_ hst hNB) (kwV hg mfX11_layBest wt_1150 ⟨Nat.le_of_ble_eq_true rfl, Nat.le_of_ble_eq_true rfl⟩) (preVW hK hPc hDc (ci := 11) (r := (RX11, TX11, 35)) rfl rfl) rfl rfl hl.1 rfl (lv_room (Nat.le_of_ble_eq_true rfl)) dX11_next_43 ⟨Nat.le_of_ble_eq_true rfl, Nat.le_of_ble_eq_true rfl⟩) hS (fun q _ h => hFc q h) hFc (fun ur35 t H1 locs ht hvm w36 hB hz1 hk1 hS => ?_)
              obtain ⟨u37, rfl⟩ : ∃ z, z = ur35 := ⟨_, rfl⟩
              obtain ⟨hP1, hD1⟩ := hB
              rw [ht] at hP1
              obtain ⟨hP, hD⟩ := va_join (wr := []) (w1 := [(h0, .inr (11, [.ref st, .int (nI N), .int (nI B), .ref rp, .int vrs, .int vrb, .int vhs, .int vca, .int vxs, .int vxb, .ref tp, .int (nI T), .int vfa, .int vbr, .int vba, .int vsp, .int vhe, .int vtk, .int vva, .ref cu, .ref lt, .ref od, .ref th, .ref be, .ref ln, .int (nI S), .ref ma, .int (nI M), .ref ah, .ref bh, .ref ik, .ref la, .ref lg, .ref ce, .int vto])), (st, .inl (G 0, 196, .inl fst)), (be, .inl (G 1, 770, .inr (.inl u37)))]) hP hD [0, 1, 2] [] rfl rfl (by decide +kernel) (by decide +kernel) hk1 hFc hP1 hD1
              have w36 : RI fst N B 0 u37 := w36
              generalize H1 = H at hP hS ⊢
              refine lv_iconst (v := 0) hx hb dX11_next_46 rfl ?_
              refine lv_istore (lv' := [(4, .int 0), (0, .ref h0), (1, .int (nI ii)), (2, .int (-4)), (3, .int (nI dd))]) hx hb dX11_next_47 hl (by decide) rfl (fun ls hl => ?_)
              have loop49_39 : ∀ (nf j38 : Nat), B + 1 ≤ j38 + nf → j38 ≤ B → ∀ (H : Heap) (locs : List Loc), (∃ b9 : Nat, j38 ≤ b9 ∧ b9 < B ∧ b1N fst u37 ii dd b9 = u37 (70 * ii + dd)) → va_P (dC, dI) vwCl [(h0, .inr (11, [.ref st, .int (nI N), .int (nI B), .ref rp, .int vrs, .int vrb, .int vhs, .int vca, .int vxs, .int vxb, .ref tp, .int (nI T), .int vfa, .int vbr, .int vba, .int vsp, .int vhe, .int vtk, .int vva, .ref cu, .ref lt, .ref od, .ref th, .ref be, .ref ln, .int (nI S), .ref ma, .int (nI M), .ref ah, .ref bh, .ref ik, .ref la, .ref lg, .ref ce, .int vto])), (st, .inl (G 0, 196, .inl fst)), (be, .inl (G 1, 770, .inr (.inl u37)))] H → va_D A [(h0, .inr (11, [.ref st, .int (nI N), .int (nI B), .ref rp, .int vrs, .int vrb, .int vhs, .int vca, .int vxs, .int vxb, .ref tp, .int (nI T), .int vfa, .int vbr, .int vba, .int vsp, .int vhe, .int vtk, .int vva, .ref cu, .ref lt, .ref od, .ref th, .ref be, .ref ln, .int (nI S), .ref ma, .int (nI M), .ref ah, .ref bh, .ref ik, .ref la, .ref lg, .ref ce, .int vto])), (st, .inl (G 0, 196, .inl fst)), (be, .inl (G 1, 770, .inr (.inl u37)))] → va_S A s.heap H locs → ∀ (ls : Array Slot), lv_has ls 5 [(4, .int (nI j38)), (0, .ref h0), (1, .int (nI ii)), (2, .int (-4)), (3, .int (nI dd))] → W p l e (headSpec (Cond.code yX11_next cX11_next 5 (some .int) :: GT) ({ frames := 4, cells := 0, slots := 0, locals := 102 } : Room)).room s m ([.ref h0, .int (nI ii), .int ((-4) : Int32), .int (nI dd)] : List Value).toArray below meth c H locs 0 0 (MQ below (va_Qi (fun (r : Int32) (u : (Nat → Int64)) => match u with | obe => (True) ∧ True) (fun (u : (Nat → Int64)) (t : State) => match u with | obe => va_P (dC, dI) vwCl [(h0, .inr (11, [.ref st, .int (nI N), .int (nI B), .ref rp, .int vrs, .int vrb, .int vhs, .int vca, .int vxs, .int vxb, .ref tp, .int (nI T), .int vfa, .int vbr, .int vba, .int vsp, .int vhe, .int vtk, .int vva, .ref cu, .ref lt, .ref od, .ref th, .ref be, .ref ln, .int (nI S), .ref ma, .int (nI M), .ref ah, .ref bh, .ref ik, .ref la, .ref lg, .ref ce, .int vto])), (st, .inl (G 0, 196, .inl fst)), (be, .inl (G 1, 770, .inr (.inl obe)))] t.heap ∧ va_D A [(h0, .inr (11, [.ref st, .int (nI N), .int (nI B), .ref rp, .int vrs, .int vrb, .int vhs, .int vca, .int vxs, .int vxb, .ref tp, .int (nI T), .int vfa, .int vbr, .int vba, .int vsp, .int vhe, .int vtk, .int vva, .ref cu, .ref lt, .ref od, .ref th, .ref be, .ref ln, .int (nI S), .ref ma, .int (nI M), .ref ah, .ref bh, .ref ik, .ref la, .ref lg, .ref ce, .int vto])), (st, .inl (G 0, 196, .inl fst)), (be, .inl (G 1, 770, .inr (.inl obe)))]) A) ([.ref h0, .int (nI ii), .int ((-4) : Int32), .int (nI dd)] : List Value).toArray s 0 0 A) (F0 m 49 ls []) := by
                intro nf
                induction nf with
                | zero => intro j38 h1 h2; exact absurd h1 (by omega)
                | succ nf ih49_39 =>
                  intro j38 hn40 hj41  H locs hinv hP hD hS ls hl
                  refine lv_aload_n hx hb dX11_next_49 rfl (lv_at hl 1 rfl) ?_
                  have hjB := nx_lt hinv
                  refine lv_iload_n hx hb dX11_next_50 rfl (lv_at hl 2 rfl) ?_
                  refine lv_iload_n hx hb dX11_next_51 rfl (lv_at hl 3 rfl) ?_
                  refine lv_iload_n hx hb dX11_next_52 rfl (lv_at hl 4 rfl) ?_
                  refine lv_iload hx hb dX11_next_53 (lv_at hl 0 rfl) ?_
                  have hPc := hP.sub (ws' := [(h0, .inr (11, [.ref st, .int (nI N), .int (nI B), .ref rp, .int vrs, .int vrb, .int vhs, .int vca, .int vxs, .int vxb, .ref tp, .int (nI T), .int vfa, .int vbr, .int vba, .int vsp, .int vhe, .int vtk, .int vva, .ref cu, .ref lt, .ref od, .ref th, .ref be, .ref ln, .int (nI S), .ref ma, .int (nI M), .ref ah, .ref bh, .ref ik, .ref la, .ref lg, .ref ce, .int vto])), (st, .inl (G 0, 196, .inl fst)), (be, .inl (G 1, 770, .inr (.inl u37)))]) [0, 1, 2] rfl
                  have tn1247_ : nIT j38 := fun _ => nI_toInt (by first | omega | (have t_b5 := b5; have t_b27 := b27; have t_c28 := eqI c28; have t_c29 := eqI c29; have t_b33 := b33; have t_hii := hii; have t_hdd := hdd; have t_hj41 := hj41; have t_hinvf := (nx_lt hinv); have tqz_ := qz8_; omega))
                  refine va_calll (va_runV (As := [.int (nI ii), .int (-4), .int (nI dd), .int (nI j38)]) (rest := []) ⟨hx, hb, hml, hown, hg⟩ (c_X11_byOneN l dC dI G _ h0 ii dd j38 st N B rp tp T cu lt od th be ln S ma M ah bh ik la lg ce vrs vrb vhs vca vxs vxb vfa vbr vba vsp vhe vtk vva vto fst u37 hN hB_ hT_ hS0 hM_ (by first | omega | (have t_b5 := b5; have t_b27 := b27; have t_c28 := eqI c28; have t_c29 := eqI c29; have t_b33 := b33; have t_hii := hii; have t_hdd := hdd; have t_hj41 := hj41; have t_hinvf := (nx_lt hinv); have tqz_ := qz8_; have tnb_ := nib8 tn1232_ tn1233_ tn1234_ tn1235_ tn1236_ tn1245_ tn1246_ tn1247_; have : ((-4) : Int32).toInt = -4 := qI_m4; omega)) (by first | omega | (have t_b5 := b5; have t_b27 := b27; have t_c28 := eqI c28; have t_c29 := eqI c29; have t_b33 := b33; have t_hii := hii; have t_hdd := hdd; have t_hj41 := hj41; have t_hinvf := (nx_lt hinv); have tqz_ := qz8_; have tnb_ := nib8 tn1232_ tn1233_ tn1234_ tn1235_ tn1236_ tn1245_ tn1246_ tn1247_; have : ((-4) : Int32).toInt = -4 := qI_m4; omega)) (by first | omega | (have t_b5 := b5; have t_b27 := b27; have t_c28 := eqI c28; have t_c29 := eqI c29; have t_b33 := b33; have t_hii := hii; have t_hdd := hdd; have t_hj41 := hj41; have t_hinvf := (nx_lt hinv); have tqz_ := qz8_; have tnb_ := nib8 tn1232_ tn1233_ tn1234_ tn1235_ tn1236_ tn1245_ tn1246_ tn1247_; have : ((-4) : Int32).toInt = -4 := qI_m4; omega))) (kwV hg mfX11_byOne wt_1155 ⟨Nat.le_of_ble_eq_true rfl, Nat.le_of_ble_eq_true rfl⟩) (preVR hK hPc (ci := 11) (r := (RX11, TX11, 35)) rfl rfl) rfl rfl hl.1 rfl (lv_room (Nat.le_of_ble_eq_true rfl)) dX11_next_55 ⟨Nat.le_of_ble_eq_true rfl, Nat.le_of_ble_eq_true rfl⟩) hS (fun q h1 h2 => absurd h2 (Nat.not_le.mpr h1)) (fun q h => hA q (Nat.le_trans hS.1 h)) (fun r42 ur42 t H1 locs ht hvm w43 hB hz1 hk1 hS => ?_)
                  have hP := keepR hP hk1
                  obtain ⟨w43, w43x⟩ := w43
                  subst w43
                  refine lv_aload_n hx hb dX11_next_58 rfl (lv_at hl 1 rfl) ?_
                  refine va_get (D := (dC, dI)) (ci := 11) (v := .ref be) (C := RX11) (T := TX11) (N := 35) hx hb hg inG11 hown hK.1 hP 0 rfl rfl 23 (Nat.le_of_ble_eq_true rfl) (hg _ wt_901) (fun _ h9 => h9) rfl dX11_next_59 ?_
                  refine lv_iload_n hx hb dX11_next_62 rfl (lv_at hl 2 rfl) ?_
                  refine lv_iload_n hx hb dX11_next_63 rfl (lv_at hl 3 rfl) ?_
                  refine lv_iload_n hx hb dX11_next_64 rfl (lv_at hl 4 rfl) ?_
                  have hPc := hP.sub (ws' := []) [] rfl
                  refine va_calli (va_runS (As := [.int (nI ii), .int (-4), .int (nI dd)]) (rest := [.ref be, .long (b1N fst u37 ii dd j38)]) ⟨hx, hb, hml, hown, hg⟩ (c_X11_bestAtN l dC dI G _ ii dd (by first | omega | (have t_b5 := b5; have t_b27 := b27; have t_c28 := eqI c28; have t_c29 := eqI c29; have t_b33 := b33; have t_hii := hii; have t_hdd := hdd; have t_hj41 := hj41; have t_hinvf := (nx_lt hinv); have tqz_ := qz8_; have tnb_ := nib8 tn1232_ tn1233_ tn1234_ tn1235_ tn1236_ tn1245_ tn1246_ tn1247_; have : ((-4) : Int32).toInt = -4 := qI_m4; omega)) (by first | omega | (have t_b5 := b5; have t_b27 := b27; have t_c28 := eqI c28; have t_c29 := eqI c29; have t_b33 := b33; have t_hii := hii; have t_hdd := hdd; have t_hj41 := hj41; have t_hinvf := (nx_lt hinv); have tqz_ := qz8_; have tnb_ := nib8 tn1232_ tn1233_ tn1234_ tn1235_ tn1236_ tn1245_ tn1246_ tn1247_; have : ((-4) : Int32).toInt = -4 := qI_m4; omega))) (kwS hg mfX11_bestAt wt_1159 ⟨Nat.le_of_ble_eq_true rfl, Nat.le_of_ble_eq_true rfl⟩) (preSR hK hPc) rfl rfl hl.1 rfl (lv_room (Nat.le_of_ble_eq_true rfl)) dX11_next_65 ⟨Nat.le_of_ble_eq_true rfl, Nat.le_of_ble_eq_true rfl⟩) hS (fun q h1 h2 => absurd h2 (Nat.not_le.mpr h1)) (fun q h => hA q (Nat.le_trans hS.1 h)) (fun r44 ur44 t H1 locs ht hvm w45 hB hz1 hk1 hS => ?_)
                  have hP := keepR hP hk1
                  obtain ⟨w45, w45x⟩ := w45
                  subst w45
                  refine va_lald hx hb hK.1 hP 2 1 rfl rfl (vp_in_nI (by first | omega | (have t_b5 := b5; have t_b27 := b27; have t_c28 := eqI c28; have t_c29 := eqI c29; have t_b33 := b33; have t_hii := hii; have t_hdd := hdd; have t_hj41 := hj41; have t_hinvf := (nx_lt hinv); have tqz_ := qz8_; have tnb_ := nib8 tn1232_ tn1233_ tn1234_ tn1235_ tn1236_ tn1245_ tn1246_ tn1247_; omega)) (by decide)) dX11_next_68 ?_
                  refine lv_cgl (y := u37 (70 * ii + dd)) (by rw [nI_clamp (by omega)]) ?_
                  refine W.lcmp hx hb dX11_next_69 ?_
                  refine lv_if_eq (tgt := 79) hx hb dX11_next_70 rfl (fun c46 => ?_) (fun c46 => ?_)
                  · skip
                    refine lv_iload hx hb dX11_next_79 (lv_at hl 0 rfl) ?_
                    have hpost : True := by
                      trivial
                    obtain ⟨hP9, hD9⟩ := va_sub2 (ws' := [(h0, .inr (11, [.ref st, .int (nI N), .int (nI B), .ref rp, .int vrs, .int vrb, .int vhs, .int vca, .int vxs, .int vxb, .ref tp, .int (nI T), .int vfa, .int vbr, .int vba, .int vsp, .int vhe, .int vtk, .int vva, .ref cu, .ref lt, .ref od, .ref th, .ref be, .ref ln, .int (nI S), .ref ma, .int (nI M), .ref ah, .ref bh, .ref ik, .ref la, .ref lg, .ref ce, .int vto])), (st, .inl (G 0, 196, .inl fst)), (be, .inl (G 1, 770, .inr (.inl u37)))]) hP hD [0, 1, 2] (by decide +kernel) rfl
                    refine W.widen (k := 0) (n := 0) (Nat.le_of_ble_eq_true rfl) (Nat.le_of_ble_eq_true rfl) ?_
                    exact W.iret (v := nI j38) hx hb hr (fun t ht hW => ⟨⟨nI j38, u37, rfl, ⟨hpost, trivial⟩, ⟨by rw [ht]; exact hP9, hD9⟩⟩, hS.F ht⟩) hS.2.2 dX11_next_81
                  · skip
                    refine lv_iinc (v := nI (j38 + 1)) (lv' := [(4, .int (nI (j38 + 1))), (0, .ref h0), (1, .int (nI ii)), (2, .int (-4)), (3, .int (nI dd))]) hx hb dX11_next_73 hl (k := 0) rfl (by rw [show Int32.ofInt 1 = nI 1 from by decide]; exact nI_add _ _) (by decide) rfl (fun ls hl => ?_)
                    refine lv_goto (tgt := 49) hx hb dX11_next_76 rfl ?_
                    exact ih49_39 (j38 + 1) (by omega) (by omega)  _ _ (nx_step hinv (lcm_eq_f c46)) hP hD hS ls (lv_sub hl [0, 1, 2, 3, 4] rfl)
              exact loop49_39 (B + 1) 0 (by omega) (by omega)  _ _ (RI.getN w36 (by have t_b5 := b5; have t_b27 := b27; have t_c28 := eqI c28; have t_c29 := eqI c29; have t_b33 := b33; have t_hii := hii; have t_hdd := hdd; have tqz_ := qz8_; have tnb_ := nib7 tn1232_ tn1233_ tn1234_ tn1235_ tn1236_ tn1245_ tn1246_; omega) (by have t_b5 := b5; have t_b27 := b27; have t_c28 := eqI c28; have t_c29 := eqI c29; have t_b33 := b33; have t_hii := hii; have t_hdd := hdd; have tqz_ := qz8_; have tnb_ := nib7 tn1232_ tn1233_ tn1234_ tn1235_ tn1236_ tn1245_ tn1246_; omega) (by have t_b5 := b5; have t_b27 := b27; have t_c28 := eqI c28; have t_c29 := eqI c29; have t_b33 := b33; have t_hii := hii; have t_hdd := hdd; have tqz_ := qz8_; have tnb_ := nib7 tn1232_ tn1233_ tn1234_ tn1235_ tn1236_ tn1245_ tn1246_; omega)) hP hD hS ls (lv_sub hl [0, 1, 2, 3, 4] rfl)
            · skip
              obtain ⟨gg, hgg, rfl⟩ : ∃ j : Nat, j < 6 ∧ g = nI j := by
                have t_b5 := b5
                have t_b27 := b27
                have t_c28 := eqI c28
                have t_c29 := eqI c29
                have t_b33 := b33
                have t_hii := hii
                have t_hdd := hdd
                have t_ha34 := neI ha34
                have : ((-4) : Int32).toInt = -4 := qI_m4
                have : (0 : Int32).toInt = 0 := qI_0
                have t_n0 : (nI N).toInt = (N : Int) := tn1232_ ()
                have t_n1 : (nI B).toInt = (B : Int) := tn1233_ ()
                have t_n2 : (nI T).toInt = (T : Int) := tn1234_ ()
                have t_n3 : (nI S).toInt = (S : Int) := tn1235_ ()
                have t_n4 : (nI M).toInt = (M : Int) := tn1236_ ()
                have tn1248_ : nIT ii := fun _ => nI_toInt (by omega)
                have t_n5 : (nI ii).toInt = (ii : Int) := tn1248_ ()
                have tn1249_ : nIT dd := fun _ => nI_toInt (by omega)
                have t_n6 : (nI dd).toInt = (dd : Int) := tn1249_ ()
                exact i32_nat (by omega) (by omega)
              refine lv_aload_n hx hb dX11_next_40 rfl (lv_at hl 0 rfl) ?_
              refine lv_bipush (v := (-4)) hx hb dX11_next_41 rfl ?_
              obtain ⟨hPc, hDc, hFc⟩ := va_sub3 (ws' := [(h0, .inr (11, [.ref st, .int (nI N), .int (nI B), .ref rp, .int vrs, .int vrb, .int vhs, .int vca, .int vxs, .int vxb, .ref tp, .int (nI T), .int vfa, .int vbr, .int vba, .int vsp, .int vhe, .int vtk, .int vva, .ref cu, .ref lt, .ref od, .ref th, .ref be, .ref ln, .int (nI S), .ref ma, .int (nI M), .ref ah, .ref bh, .ref ik, .ref la, .ref lg, .ref ce, .int vto])), (st, .inl (G 0, 196, .inl fst)), (be, .inl (G 1, 770, .inr (.inl fbe)))]) hP hD hS hA [0, 1, 2] (by decide +kernel) rfl
              have tn1250_ : nIT ii := fun _ => nI_toInt (by first | omega | (have t_b5 := b5; have t_b27 := b27; have t_c28 := eqI c28; have t_c29 := eqI c29; have t_b33 := b33; have t_hii := hii; have t_hdd := hdd; have t_ha34 := neI ha34; have t_hgg := hgg; have tqz_ := qz8_; omega))
              have tn1251_ : nIT dd := fun _ => nI_toInt (by first | omega | (have t_b5 := b5; have t_b27 := b27; have t_c28 := eqI c28; have t_c29 := eqI c29; have t_b33 := b33; have t_hii := hii; have t_hdd := hdd; have t_ha34 := neI ha34; have t_hgg := hgg; have tqz_ := qz8_; omega))
              have tn1252_ : nIT gg := fun _ => nI_toInt (by first | omega | (have t_b5 := b5; have t_b27 := b27; have t_c28 := eqI c28; have t_c29 := eqI c29; have t_b33 := b33; have t_hii := hii; have t_hdd := hdd; have t_ha34 := neI ha34; have t_hgg := hgg; have tqz_ := qz8_; omega))
              refine va_callv (va_runV (As := [.int (-4)]) (rest := []) ⟨hx, hb, hml, hown, hg⟩ (c_X11_layBestN l dC dI G _ h0 st N B rp tp T cu lt od th be ln S ma M ah bh ik la lg ce vrs vrb vhs vca vxs vxb vfa vbr vba vsp vhe vtk vva vto fst fbe hN hB_ hT_ hS0 hM_ hst hNB) (kwV hg mfX11_layBest wt_1150 ⟨Nat.le_of_ble_eq_true rfl, Nat.le_of_ble_eq_true rfl⟩) (preVW hK hPc hDc (ci := 11) (r := (RX11, TX11, 35)) rfl rfl) rfl rfl hl.1 rfl (lv_room (Nat.le_of_ble_eq_true rfl)) dX11_next_43 ⟨Nat.le_of_ble_eq_true rfl, Nat.le_of_ble_eq_true rfl⟩) hS (fun q _ h => hFc q h) hFc (fun ur47 t H1 locs ht hvm w48 hB hz1 hk1 hS => ?_)
              obtain ⟨u49, rfl⟩ : ∃ z, z = ur47 := ⟨_, rfl⟩
              obtain ⟨hP1, hD1⟩ := hB
              rw [ht] at hP1
              obtain ⟨hP, hD⟩ := va_join (wr := []) (w1 := [(h0, .inr (11, [.ref st, .int (nI N), .int (nI B), .ref rp, .int vrs, .int vrb, .int vhs, .int vca, .int vxs, .int vxb, .ref tp, .int (nI T), .int vfa, .int vbr, .int vba, .int vsp, .int vhe, .int vtk, .int vva, .ref cu, .ref lt, .ref od, .ref th, .ref be, .ref ln, .int (nI S), .ref ma, .int (nI M), .ref ah, .ref bh, .ref ik, .ref la, .ref lg, .ref ce, .int vto])), (st, .inl (G 0, 196, .inl fst)), (be, .inl (G 1, 770, .inr (.inl u49)))]) hP hD [0, 1, 2] [] rfl rfl (by decide +kernel) (by decide +kernel) hk1 hFc hP1 hD1
              have w48 : RI fst N B 0 u49 := w48
              generalize H1 = H at hP hS ⊢
              refine lv_iconst (v := 0) hx hb dX11_next_46 rfl ?_
              refine lv_istore (lv' := [(4, .int 0), (0, .ref h0), (1, .int (nI ii)), (2, .int (nI gg)), (3, .int (nI dd))]) hx hb dX11_next_47 hl (by decide) rfl (fun ls hl => ?_)
              have loop49_51 : ∀ (nf j50 : Nat), B + 1 ≤ j50 + nf → j50 ≤ B → ∀ (H : Heap) (locs : List Loc), (∃ b9 : Nat, j50 ≤ b9 ∧ b9 < B ∧ b1B fst u49 ii gg dd b9 = u49 (70 * ii + 10 * (gg + 1) + dd)) → va_P (dC, dI) vwCl [(h0, .inr (11, [.ref st, .int (nI N), .int (nI B), .ref rp, .int vrs, .int vrb, .int vhs, .int vca, .int vxs, .int vxb, .ref tp, .int (nI T), .int vfa, .int vbr, .int vba, .int vsp, .int vhe, .int vtk, .int vva, .ref cu, .ref lt, .ref od, .ref th, .ref be, .ref ln, .int (nI S), .ref ma, .int (nI M), .ref ah, .ref bh, .ref ik, .ref la, .ref lg, .ref ce, .int vto])), (st, .inl (G 0, 196, .inl fst)), (be, .inl (G 1, 770, .inr (.inl u49)))] H → va_D A [(h0, .inr (11, [.ref st, .int (nI N), .int (nI B), .ref rp, .int vrs, .int vrb, .int vhs, .int vca, .int vxs, .int vxb, .ref tp, .int (nI T), .int vfa, .int vbr, .int vba, .int vsp, .int vhe, .int vtk, .int vva, .ref cu, .ref lt, .ref od, .ref th, .ref be, .ref ln, .int (nI S), .ref ma, .int (nI M), .ref ah, .ref bh, .ref ik, .ref la, .ref lg, .ref ce, .int vto])), (st, .inl (G 0, 196, .inl fst)), (be, .inl (G 1, 770, .inr (.inl u49)))] → va_S A s.heap H locs → ∀ (ls : Array Slot), lv_has ls 5 [(4, .int (nI j50)), (0, .ref h0), (1, .int (nI ii)), (2, .int (nI gg)), (3, .int (nI dd))] → W p l e (headSpec (Cond.code yX11_next cX11_next 5 (some .int) :: GT) ({ frames := 4, cells := 0, slots := 0, locals := 102 } : Room)).room s m ([.ref h0, .int (nI ii), .int (nI gg), .int (nI dd)] : List Value).toArray below meth c H locs 0 0 (MQ below (va_Qi (fun (r : Int32) (u : (Nat → Int64)) => match u with | obe => (True) ∧ True) (fun (u : (Nat → Int64)) (t : State) => match u with | obe => va_P (dC, dI) vwCl [(h0, .inr (11, [.ref st, .int (nI N), .int (nI B), .ref rp, .int vrs, .int vrb, .int vhs, .int vca, .int vxs, .int vxb, .ref tp, .int (nI T), .int vfa, .int vbr, .int vba, .int vsp, .int vhe, .int vtk, .int vva, .ref cu, .ref lt, .ref od, .ref th, .ref be, .ref ln, .int (nI S), .ref ma, .int (nI M), .ref ah, .ref bh, .ref ik, .ref la, .ref lg, .ref ce, .int vto])), (st, .inl (G 0, 196, .inl fst)), (be, .inl (G 1, 770, .inr (.inl obe)))] t.heap ∧ va_D A [(h0, .inr (11, [.ref st, .int (nI N), .int (nI B), .ref rp, .int vrs, .int vrb, .int vhs, .int vca, .int vxs, .int vxb, .ref tp, .int (nI T), .int vfa, .int vbr, .int vba, .int vsp, .int vhe, .int vtk, .int vva, .ref cu, .ref lt, .ref od, .ref th, .ref be, .ref ln, .int (nI S), .ref ma, .int (nI M), .ref ah, .ref bh, .ref ik, .ref la, .ref lg, .ref ce, .int vto])), (st, .inl (G 0, 196, .inl fst)), (be, .inl (G 1, 770, .inr (.inl obe)))]) A) ([.ref h0, .int (nI ii), .int (nI gg), .int (nI dd)] : List Value).toArray s 0 0 A) (F0 m 49 ls []) := by
                intro nf
                induction nf with
                | zero => intro j50 h1 h2; exact absurd h1 (by omega)
                | succ nf ih49_51 =>
                  intro j50 hn52 hj53  H locs hinv hP hD hS ls hl
                  refine lv_aload_n hx hb dX11_next_49 rfl (lv_at hl 1 rfl) ?_
                  have hjB := nx_lt hinv
                  refine lv_iload_n hx hb dX11_next_50 rfl (lv_at hl 2 rfl) ?_
                  refine lv_iload_n hx hb dX11_next_51 rfl (lv_at hl 3 rfl) ?_
                  refine lv_iload_n hx hb dX11_next_52 rfl (lv_at hl 4 rfl) ?_
                  refine lv_iload hx hb dX11_next_53 (lv_at hl 0 rfl) ?_
                  have hPc := hP.sub (ws' := [(h0, .inr (11, [.ref st, .int (nI N), .int (nI B), .ref rp, .int vrs, .int vrb, .int vhs, .int vca, .int vxs, .int vxb, .ref tp, .int (nI T), .int vfa, .int vbr, .int vba, .int vsp, .int vhe, .int vtk, .int vva, .ref cu, .ref lt, .ref od, .ref th, .ref be, .ref ln, .int (nI S), .ref ma, .int (nI M), .ref ah, .ref bh, .ref ik, .ref la, .ref lg, .ref ce, .int vto])), (st, .inl (G 0, 196, .inl fst)), (be, .inl (G 1, 770, .inr (.inl u49)))]) [0, 1, 2] rfl
                  have tn1253_ : nIT j50 := fun _ => nI_toInt (by first | omega | (have t_b5 := b5; have t_b27 := b27; have t_c28 := eqI c28; have t_c29 := eqI c29; have t_b33 := b33; have t_hii := hii; have t_hdd := hdd; have t_ha34 := neI ha34; have t_hgg := hgg; have t_hj53 := hj53; have t_hinvf := (nx_lt hinv); have tqz_ := qz8_; omega))
                  refine va_calll (va_runV (As := [.int (nI ii), .int (nI gg), .int (nI dd), .int (nI j50)]) (rest := []) ⟨hx, hb, hml, hown, hg⟩ (c_X11_byOneB l dC dI G _ h0 ii gg dd j50 st N B rp tp T cu lt od th be ln S ma M ah bh ik la lg ce vrs vrb vhs vca vxs vxb vfa vbr vba vsp vhe vtk vva vto fst u49 hN hB_ hT_ hS0 hM_ (by first | omega | (have t_b5 := b5; have t_b27 := b27; have t_c28 := eqI c28; have t_c29 := eqI c29; have t_b33 := b33; have t_hii := hii; have t_hdd := hdd; have t_ha34 := neI ha34; have t_hgg := hgg; have t_hj53 := hj53; have t_hinvf := (nx_lt hinv); have tqz_ := qz8_; have tnb_ := nib9 tn1232_ tn1233_ tn1234_ tn1235_ tn1236_ tn1250_ tn1251_ tn1252_ tn1253_; omega)) (by first | omega | (have t_b5 := b5; have t_b27 := b27; have t_c28 := eqI c28; have t_c29 := eqI c29; have t_b33 := b33; have t_hii := hii; have t_hdd := hdd; have t_ha34 := neI ha34; have t_hgg := hgg; have t_hj53 := hj53; have t_hinvf := (nx_lt hinv); have tqz_ := qz8_; have tnb_ := nib9 tn1232_ tn1233_ tn1234_ tn1235_ tn1236_ tn1250_ tn1251_ tn1252_ tn1253_; omega)) (by first | omega | (have t_b5 := b5; have t_b27 := b27; have t_c28 := eqI c28; have t_c29 := eqI c29; have t_b33 := b33; have t_hii := hii; have t_hdd := hdd; have t_ha34 := neI ha34; have t_hgg := hgg; have t_hj53 := hj53; have t_hinvf := (nx_lt hinv); have tqz_ := qz8_; have tnb_ := nib9 tn1232_ tn1233_ tn1234_ tn1235_ tn1236_ tn1250_ tn1251_ tn1252_ tn1253_; omega)) (by first | omega | (have t_b5 := b5; have t_b27 := b27; have t_c28 := eqI c28; have t_c29 := eqI c29; have t_b33 := b33; have t_hii := hii; have t_hdd := hdd; have t_ha34 := neI ha34; have t_hgg := hgg; have t_hj53 := hj53; have t_hinvf := (nx_lt hinv); have tqz_ := qz8_; have tnb_ := nib9 tn1232_ tn1233_ tn1234_ tn1235_ tn1236_ tn1250_ tn1251_ tn1252_ tn1253_; omega))) (kwV hg mfX11_byOne wt_1155 ⟨Nat.le_of_ble_eq_true rfl, Nat.le_of_ble_eq_true rfl⟩) (preVR hK hPc (ci := 11) (r := (RX11, TX11, 35)) rfl rfl) rfl rfl hl.1 rfl (lv_room (Nat.le_of_ble_eq_true rfl)) dX11_next_55 ⟨Nat.le_of_ble_eq_true rfl, Nat.le_of_ble_eq_true rfl⟩) hS (fun q h1 h2 => absurd h2 (Nat.not_le.mpr h1)) (fun q h => hA q (Nat.le_trans hS.1 h)) (fun r54 ur54 t H1 locs ht hvm w55 hB hz1 hk1 hS => ?_)
                  have hP := keepR hP hk1
                  obtain ⟨w55, w55x⟩ := w55
                  subst w55
                  refine lv_aload_n hx hb dX11_next_58 rfl (lv_at hl 1 rfl) ?_
                  refine va_get (D := (dC, dI)) (ci := 11) (v := .ref be) (C := RX11) (T := TX11) (N := 35) hx hb hg inG11 hown hK.1 hP 0 rfl rfl 23 (Nat.le_of_ble_eq_true rfl) (hg _ wt_901) (fun _ h9 => h9) rfl dX11_next_59 ?_
                  refine lv_iload_n hx hb dX11_next_62 rfl (lv_at hl 2 rfl) ?_
                  refine lv_iload_n hx hb dX11_next_63 rfl (lv_at hl 3 rfl) ?_
                  refine lv_iload_n hx hb dX11_next_64 rfl (lv_at hl 4 rfl) ?_
                  have hPc := hP.sub (ws' := []) [] rfl
                  refine va_calli (va_runS (As := [.int (nI ii), .int (nI gg), .int (nI dd)]) (rest := [.ref be, .long (b1B fst u49 ii gg dd j50)]) ⟨hx, hb, hml, hown, hg⟩ (c_X11_bestAtB l dC dI G _ ii gg dd (by first | omega | (have t_b5 := b5; have t_b27 := b27; have t_c28 := eqI c28; have t_c29 := eqI c29; have t_b33 := b33; have t_hii := hii; have t_hdd := hdd; have t_ha34 := neI ha34; have t_hgg := hgg; have t_hj53 := hj53; have t_hinvf := (nx_lt hinv); have tqz_ := qz8_; have tnb_ := nib9 tn1232_ tn1233_ tn1234_ tn1235_ tn1236_ tn1250_ tn1251_ tn1252_ tn1253_; omega)) (by first | omega | (have t_b5 := b5; have t_b27 := b27; have t_c28 := eqI c28; have t_c29 := eqI c29; have t_b33 := b33; have t_hii := hii; have t_hdd := hdd; have t_ha34 := neI ha34; have t_hgg := hgg; have t_hj53 := hj53; have t_hinvf := (nx_lt hinv); have tqz_ := qz8_; have tnb_ := nib9 tn1232_ tn1233_ tn1234_ tn1235_ tn1236_ tn1250_ tn1251_ tn1252_ tn1253_; omega)) (by first | omega | (have t_b5 := b5; have t_b27 := b27; have t_c28 := eqI c28; have t_c29 := eqI c29; have t_b33 := b33; have t_hii := hii; have t_hdd := hdd; have t_ha34 := neI ha34; have t_hgg := hgg; have t_hj53 := hj53; have t_hinvf := (nx_lt hinv); have tqz_ := qz8_; have tnb_ := nib9 tn1232_ tn1233_ tn1234_ tn1235_ tn1236_ tn1250_ tn1251_ tn1252_ tn1253_; omega))) (kwS hg mfX11_bestAt wt_1159 ⟨Nat.le_of_ble_eq_true rfl, Nat.le_of_ble_eq_true rfl⟩) (preSR hK hPc) rfl rfl hl.1 rfl (lv_room (Nat.le_of_ble_eq_true rfl)) dX11_next_65 ⟨Nat.le_of_ble_eq_true rfl, Nat.le_of_ble_eq_true rfl⟩) hS (fun q h1 h2 => absurd h2 (Nat.not_le.mpr h1)) (fun q h => hA q (Nat.le_trans hS.1 h)) (fun r56 ur56 t H1 locs ht hvm w57 hB hz1 hk1 hS => ?_)
                  have hP := keepR hP hk1
                  obtain ⟨w57, w57x⟩ := w57
                  subst w57
                  refine va_lald hx hb hK.1 hP 2 1 rfl rfl (vp_in_nI (by first | omega | (have t_b5 := b5; have t_b27 := b27; have t_c28 := eqI c28; have t_c29 := eqI c29; have t_b33 := b33; have t_hii := hii; have t_hdd := hdd; have t_ha34 := neI ha34; have t_hgg := hgg; have t_hj53 := hj53; have t_hinvf := (nx_lt hinv); have tqz_ := qz8_; have tnb_ := nib9 tn1232_ tn1233_ tn1234_ tn1235_ tn1236_ tn1250_ tn1251_ tn1252_ tn1253_; omega)) (by decide)) dX11_next_68 ?_
                  refine lv_cgl (y := u49 (70 * ii + 10 * (gg + 1) + dd)) (by rw [nI_clamp (by omega)]) ?_
                  refine W.lcmp hx hb dX11_next_69 ?_
                  refine lv_if_eq (tgt := 79) hx hb dX11_next_70 rfl (fun c58 => ?_) (fun c58 => ?_)
                  · skip
                    have t_b5 := b5
                    have t_b27 := b27
                    have t_c28 := eqI c28
                    have t_c29 := eqI c29
                    have t_b33 := b33
                    have t_hii := hii
                    have t_hdd := hdd
                    have t_ha34 := neI ha34
                    have t_hgg := hgg
                    have t_hj53 := hj53
                    have t_hinvf := (nx_lt hinv)
                    have t_c58 := lcm_eq_t c58
                    have : ((-4) : Int32).toInt = -4 := qI_m4
                    have : (0 : Int32).toInt = 0 := qI_0
                    have t_n0 : (nI N).toInt = (N : Int) := tn1232_ ()
                    have t_n1 : (nI B).toInt = (B : Int) := tn1233_ ()
                    have t_n2 : (nI T).toInt = (T : Int) := tn1234_ ()
                    have t_n3 : (nI S).toInt = (S : Int) := tn1235_ ()
                    have t_n4 : (nI M).toInt = (M : Int) := tn1236_ ()
                    have t_n5 : (nI ii).toInt = (ii : Int) := tn1250_ ()
                    have t_n6 : (nI dd).toInt = (dd : Int) := tn1251_ ()
                    have t_n7 : (nI gg).toInt = (gg : Int) := tn1252_ ()
                    have t_n8 : (nI j50).toInt = (j50 : Int) := tn1253_ ()
                    exfalso; omega
                  · skip
                    have t_b5 := b5
                    have t_b27 := b27
                    have t_c28 := eqI c28
                    have t_c29 := eqI c29
                    have t_b33 := b33
                    have t_hii := hii
                    have t_hdd := hdd
                    have t_ha34 := neI ha34
                    have t_hgg := hgg
                    have t_hj53 := hj53
                    have t_hinvf := (nx_lt hinv)
                    have t_c58 := lcm_eq_f c58
                    have : ((-4) : Int32).toInt = -4 := qI_m4
                    have : (0 : Int32).toInt = 0 := qI_0
                    have t_n0 : (nI N).toInt = (N : Int) := tn1232_ ()
                    have t_n1 : (nI B).toInt = (B : Int) := tn1233_ ()
                    have t_n2 : (nI T).toInt = (T : Int) := tn1234_ ()
                    have t_n3 : (nI S).toInt = (S : Int) := tn1235_ ()
                    have t_n4 : (nI M).toInt = (M : Int) := tn1236_ ()
                    have t_n5 : (nI ii).toInt = (ii : Int) := tn1250_ ()
                    have t_n6 : (nI dd).toInt = (dd : Int) := tn1251_ ()
                    have t_n7 : (nI gg).toInt = (gg : Int) := tn1252_ ()
                    have t_n8 : (nI j50).toInt = (j50 : Int) := tn1253_ ()
                    exfalso; omega
              exact loop49_51 (B + 1) 0 (by omega) (by omega)  _ _ (RI.getB w48 (by have t_b5 := b5; have t_b27 := b27; have t_c28 := eqI c28; have t_c29 := eqI c29; have t_b33 := b33; have t_hii := hii; have t_hdd := hdd; have t_ha34 := neI ha34; have t_hgg := hgg; have tqz_ := qz8_; have tnb_ := nib8 tn1232_ tn1233_ tn1234_ tn1235_ tn1236_ tn1250_ tn1251_ tn1252_; omega) (by have t_b5 := b5; have t_b27 := b27; have t_c28 := eqI c28; have t_c29 := eqI c29; have t_b33 := b33; have t_hii := hii; have t_hdd := hdd; have t_ha34 := neI ha34; have t_hgg := hgg; have tqz_ := qz8_; have tnb_ := nib8 tn1232_ tn1233_ tn1234_ tn1235_ tn1236_ tn1250_ tn1251_ tn1252_; omega) (by have t_b5 := b5; have t_b27 := b27; have t_c28 := eqI c28; have t_c29 := eqI c29; have t_b33 := b33; have t_hii := hii; have t_hdd := hdd; have t_ha34 := neI ha34; have t_hgg := hgg; have tqz_ := qz8_; have tnb_ := nib8 tn1232_ tn1233_ tn1234_ tn1235_ tn1236_ tn1250_ tn1251_ tn1252_; omega) (by have t_b5 := b5; have t_b27 := b27; have t_c28 := eqI c28; have t_c29 := eqI c29; have t_b33 := b33; have t_hii := hii; have t_hdd := hdd; have t_ha34 := neI ha34; have t_hgg := hgg; have tqz_ := qz8_; have tnb_ := nib8 tn1232_ tn1233_ tn1234_ tn1235_ tn1236_ tn1250_ tn1251_ tn1252_; omega) (by have t_b5 := b5; have t_b27 := b27; have t_c28 := eqI c28; have t_c29 := eqI c29; have t_b33 := b33; have t_hii := hii; have t_hdd := hdd; have t_ha34 := neI ha34; have t_hgg := hgg; have tqz_ := qz8_; have tnb_ := nib8 tn1232_ tn1233_ tn1234_ tn1235_ tn1236_ tn1250_ tn1251_ tn1252_; omega)) hP hD hS ls (lv_sub hl [0, 1, 2, 3, 4] rfl)
          · skip
            have b59 := if10_n c32
            refine lv_iconst (v := (-1)) hx hb dX11_next_38 rfl ?_
            have hpost : True := by
              trivial
            obtain ⟨hP9, hD9⟩ := va_sub2 (ws' := [(h0, .inr (11, [.ref st, .int (nI N), .int (nI B), .ref rp, .int vrs, .int vrb, .int vhs, .int vca, .int vxs, .int vxb, .ref tp, .int (nI T), .int vfa, .int vbr, .int vba, .int vsp, .int vhe, .int vtk, .int vva, .ref cu, .ref lt, .ref od, .ref th, .ref be, .ref ln, .int (nI S), .ref ma, .int (nI M), .ref ah, .ref bh, .ref ik, .ref la, .ref lg, .ref ce, .int vto])), (st, .inl (G 0, 196, .inl fst)), (be, .inl (G 1, 770, .inr (.inl fbe)))]) hP hD [0, 1, 2] (by decide +kernel) rfl
            refine W.widen (k := 0) (n := 0) (Nat.le_of_ble_eq_true rfl) (Nat.le_of_ble_eq_true rfl) ?_
            exact W.iret (v := (-1)) hx hb hr (fun t ht hW => ⟨⟨(-1), fbe, rfl, ⟨hpost, trivial⟩, ⟨by rw [ht]; exact hP9, hD9⟩⟩, hS.F ht⟩) hS.2.2 dX11_next_39

abbrev RSt : Type := Int32 × Int32 × Nat × Nat × Int32 × Int32
def skp (f : Nat → Int32) (T : Nat) (lo hi : Int) : Nat → Nat → Nat
  | 0, p => p
  | n + 1, p => if p < T ∧ lo ≤ (f p).toInt ∧ (f p).toInt ≤ hi then skp f T lo hi n (p + 1) else p
def pst (f : Nat → Int32) (T : Nat) (lo hi : Int) (p : Nat) : Nat := skp f T lo hi (T - p) p
theorem pst_in {f : Nat → Int32} {T p : Nat} {lo hi : Int} (h : p < T) (h1 : lo ≤ (f p).toInt) (h2 : (f p).toInt ≤ hi) : pst f T lo hi p = pst f T lo hi (p + 1) := by
  unfold pst
  rw [show T - p = (T - (p + 1)) + 1 by omega]
  show (if p < T ∧ lo ≤ (f p).toInt ∧ (f p).toInt ≤ hi then skp f T lo hi (T - (p + 1)) (p + 1) else p) = _
  rw [if_pos ⟨h, h1, h2⟩]
theorem pst_out {f : Nat → Int32} {T p : Nat} {lo hi : Int} (h : ¬ (p < T ∧ lo ≤ (f p).toInt ∧ (f p).toInt ≤ hi)) : pst f T lo hi p = p := by
  unfold pst
  cases T - p with
  | zero => rfl
  | succ n =>
    show (if p < T ∧ lo ≤ (f p).toInt ∧ (f p).toInt ≤ hi then skp f T lo hi n (p + 1) else p) = _
    rw [if_neg h]
def flB (c br : Int32) : Int32 := if br = 0 then c else br
def flA (br ba : Int32) (he : Nat) : Int32 := if br = 0 then nI he else ba
def vlS (f : Nat → Int32) (h : Nat) : Nat → Int32
  | 0 => 0
  | n + 1 => if n < 2 then 10 * vlS f h n + f (h + n) - 48 else vlS f h n
def gOn1 (f : Nat → Int32) (T : Nat) (br ba : Int32) (h : Nat) : RSt :=
  if T ≤ h then (br, ba, h, h, 0, 0)
  else if 97 ≤ (f h).toInt ∧ (f h).toInt ≤ 122 then (br, ba, pst f T 97 122 h, h, 1, 0)
  else if 48 ≤ (f h).toInt ∧ (f h).toInt ≤ 57 then
    (if 2 < pst f T 48 57 h - h then (flB 1 br, flA br ba h, pst f T 48 57 h, h, 2, vlS f h (pst f T 48 57 h - h)) else (br, ba, pst f T 48 57 h, h, 2, vlS f h (pst f T 48 57 h - h)))
  else if f h = 59 then (br, ba, h + 1, h, 3, 0) else (flB 1 br, flA br ba h, h + 1, h, 3, 0)
def gOn (f : Nat → Int32) (T : Nat) (br ba : Int32) (sp he : Nat) (tk va : Int32) : RSt :=
  if 0 < br.toInt then (br, ba, sp, he, tk, va) else gOn1 f T br ba (pst f T 32 32 sp)
def otC (lo xh sm br tk va : Int32) : Int32 := if br = 0 then (if tk = 2 then (if lo.toInt ≤ va.toInt ∧ va.toInt ≤ xh.toInt then (if (sm >>> (va &&& 31)) &&& 1 = 1 then 4 else 0) else 3) else 2) else 0
def otB (lo xh sm br tk va : Int32) : Int32 := if otC lo xh sm br tk va = 0 then br else otC lo xh sm br tk va
def otA (lo xh sm br ba : Int32) (he : Nat) (tk va : Int32) : Int32 := if otC lo xh sm br tk va = 0 then ba else nI he
def otV (lo xh sm br tk va : Int32) : Int32 := if otB lo xh sm br tk va = 0 then va else lo
def letL : List Int32 := [115, 116, 97, 114, 116, 115, 116, 114, 101, 116, 99, 104, 98, 101, 97, 114, 101, 114, 99, 97, 114, 114, 121, 112, 108, 97, 105, 110, 104, 117, 109, 109, 101, 114, 116, 114, 101, 109, 98, 108, 101, 114, 116, 97, 108, 108, 116, 119, 105, 110, 112, 97, 105, 100]
abbrev wMt (f : Nat → Int32) (a b n : Nat) : Prop := b - a = cutL.getD (n + 1) 0 - cutL.getD n 0 ∧ ∀ k : Nat, k < b - a → f (a + k) = letL.getD (cutL.getD n 0 + k) 0
def nmF (f : Nat → Int32) (a b : Nat) : Nat → Int32
  | 0 => -4
  | j + 1 => if wMt f a b (10 - (j + 1)) then nI (10 - (j + 1)) else nmF f a b j
def nmS (f : Nat → Int32) (a b : Nat) (tk : Int32) : Int32 := if tk = 1 then nmF f a b 10 else -4
theorem nmF_y {f : Nat → Int32} {a b n : Nat} (hn : n < 10) (h : wMt f a b n) : nmF f a b (10 - n) = nI n := by
  rw [show 10 - n = (9 - n) + 1 by omega]
  show (if wMt f a b (10 - (9 - n + 1)) then nI (10 - (9 - n + 1)) else nmF f a b (9 - n)) = _
  rw [show 10 - (9 - n + 1) = n by omega, if_pos h]
theorem nmF_n {f : Nat → Int32} {a b n : Nat} (hn : n < 10) (h : ¬ wMt f a b n) : nmF f a b (10 - n) = nmF f a b (10 - (n + 1)) := by
  rw [show 10 - n = (9 - n) + 1 by omega]
  show (if wMt f a b (10 - (9 - n + 1)) then nI (10 - (9 - n + 1)) else nmF f a b (9 - n)) = _
  rw [show 10 - (9 - n + 1) = n by omega, if_neg h, show 10 - (n + 1) = 9 - n by omega]
abbrev LSt : Type := RSt × Nat × Nat × Int32 × Int32 × Int32 × Int32 × (Nat → Int32)
def gT (f : Nat → Int32) (T : Nat) (s : RSt) : RSt := gOn f T s.1 s.2.1 s.2.2.1 s.2.2.2.1 s.2.2.2.2.1 s.2.2.2.2.2
def fT (c : Int32) (s : RSt) : RSt := (flB c s.1, flA s.1 s.2.1 s.2.2.2.1, s.2.2.1, s.2.2.2.1, s.2.2.2.2.1, s.2.2.2.2.2)
def oV (lo xh sm : Int32) (s : RSt) : Int32 := otV lo xh sm s.1 s.2.2.2.2.1 s.2.2.2.2.2
def oS (f : Nat → Int32) (T : Nat) (lo xh sm : Int32) (s : RSt) : RSt := gOn f T (otB lo xh sm s.1 s.2.2.2.2.1 s.2.2.2.2.2) (otA lo xh sm s.1 s.2.1 s.2.2.2.1 s.2.2.2.2.1 s.2.2.2.2.2) s.2.2.1 s.2.2.2.1 s.2.2.2.2.1 s.2.2.2.2.2
def nT (f : Nat → Int32) (s : RSt) : Int32 := nmS f s.2.2.2.1 s.2.2.1 s.2.2.2.2.1
def rbS (f : Nat → Int32) (T : Nat) (s : RSt) (rb : Nat) (fp : Nat → Int32) : RSt × Nat × (Nat → Int32) :=
  if rb = 6 then (fT 5 s, rb, fp)
  else if (0 : Int32) ≤ nT f (gT f T s) - 4 then
    (oS f T 0 9 0 (oS f T 0 9 0 (gT f T (gT f T s))), rb + 1, upd (upd (upd fp (20 + 3 * rb) (nT f (gT f T s) - 4)) (20 + 3 * rb + 1) (oV 0 9 0 (gT f T (gT f T s)))) (20 + 3 * rb + 2) (oV 0 9 0 (oS f T 0 9 0 (gT f T (gT f T s)))))
  else (fT 2 (gT f T s), rb, fp)
def rmA (nm : Int32) (rs : Nat) (hs : Int32) (s : RSt) : RSt := if nm = 0 then (if hs = 0 then (if nm = 1 then (if rs = 10 then fT 5 s else s) else s) else fT 4 (if nm = 1 then (if rs = 10 then fT 5 s else s) else s)) else (if nm = 1 then (if rs = 10 then fT 5 s else s) else s)
def rmI (rs : Nat) (s : RSt) : Nat := if s.1 = 0 then rs else 0
def rmX (a b : Int32) : Int32 := if a ≤ b then b else a
def rmS (f : Nat → Int32) (T : Nat) (nm : Int32) (s : RSt) (rs : Nat) (hs ca xs xb : Int32) (fp : Nat → Int32) : RSt × Nat × Int32 × Int32 × Int32 × Int32 × (Nat → Int32) :=
  if nm = 0 then (oS f T 1 9 0 (gT f T (rmA nm rs hs s)), rs, 1, ca, xs, xb, upd fp 48 (oV 1 9 0 (gT f T (rmA nm rs hs s)) - 5))
  else if nm = 1 then (oS f T 0 9 0 (oS f T 0 9 0 (gT f T (rmA nm rs hs s))), rs + 1, hs, ca, xs, xb, upd (upd fp (2 * rmI rs (gT f T (rmA nm rs hs s))) (oV 0 9 0 (gT f T (rmA nm rs hs s)))) (2 * rmI rs (gT f T (rmA nm rs hs s)) + 1) (oV 0 9 0 (oS f T 0 9 0 (gT f T (rmA nm rs hs s)))))
  else (oS f T 0 5 0 (oS f T 0 9 ca (gT f T (rmA nm rs hs s))), rs, hs, ca ||| ((1 : Int32) <<< (oV 0 9 ca (gT f T (rmA nm rs hs s)) &&& 31)), rmX (oV 0 9 ca (gT f T (rmA nm rs hs s))) xs, rmX (oV 0 5 0 (oS f T 0 9 ca (gT f T (rmA nm rs hs s)))) xb, upd fp (38 + (oV 0 9 ca (gT f T (rmA nm rs hs s))).toNatClampNeg) (oV 0 5 0 (oS f T 0 9 ca (gT f T (rmA nm rs hs s)))))
def fiS (f : Nat → Int32) (T : Nat) (s : RSt) : RSt := gT f T (if s.1 = 0 then (if s.2.2.2.2.1 = 3 then s else fT 2 s) else s)
def rlS (f : Nat → Int32) (T : Nat) (s : RSt) (rs rb : Nat) (hs ca xs xb : Int32) (fp : Nat → Int32) : LSt :=
  if 0 ≤ (nT f s).toInt ∧ (nT f s).toInt ≤ 3 then
    (if nT f s = 2 then (fiS f T (rbS f T s rb fp).1, rs, (rbS f T s rb fp).2.1, hs, ca, xs, xb, (rbS f T s rb fp).2.2)
     else (fiS f T (rmS f T (nT f s) s rs hs ca xs xb fp).1, (rmS f T (nT f s) s rs hs ca xs xb fp).2.1, rb, (rmS f T (nT f s) s rs hs ca xs xb fp).2.2.1, (rmS f T (nT f s) s rs hs ca xs xb fp).2.2.2.1, (rmS f T (nT f s) s rs hs ca xs xb fp).2.2.2.2.1, (rmS f T (nT f s) s rs hs ca xs xb fp).2.2.2.2.2.1, (rmS f T (nT f s) s rs hs ca xs xb fp).2.2.2.2.2.2))
  else (fT 2 s, rs, rb, hs, ca, xs, xb, fp)
def nxS (f : Nat → Int32) (T : Nat) (q : LSt) : LSt := rlS f T q.1 q.2.1 q.2.2.1 q.2.2.2.1 q.2.2.2.2.1 q.2.2.2.2.2.1 q.2.2.2.2.2.2.1 q.2.2.2.2.2.2.2
def lpS (f : Nat → Int32) (T : Nat) : Nat → LSt → Nat → LSt × Nat
  | 0, q, n => (q, n)
  | k + 1, q, n => if q.1.1 = 0 then (if q.1.2.2.2.2.1 = 0 then (q, n) else lpS f T k (nxS f T q) (n + 1)) else (q, n)
theorem lpS_go {f : Nat → Int32} {T k n : Nat} {q : LSt} (h0 : q.1.1 = 0) (h1 : ¬ q.1.2.2.2.2.1 = 0) : lpS f T (k + 1) q n = lpS f T k (nxS f T q) (n + 1) := by
  show (if q.1.1 = 0 then (if q.1.2.2.2.2.1 = 0 then (q, n) else lpS f T k (nxS f T q) (n + 1)) else (q, n)) = _
  rw [if_pos h0, if_neg h1]
theorem lpS_e0 {f : Nat → Int32} {T k n : Nat} {q : LSt} (h : ¬ q.1.1 = 0) : lpS f T k q n = (q, n) := by
  cases k with
  | zero => rfl
  | succ k =>
    show (if q.1.1 = 0 then (if q.1.2.2.2.2.1 = 0 then (q, n) else lpS f T k (nxS f T q) (n + 1)) else (q, n)) = _
    rw [if_neg h]
theorem lpS_e1 {f : Nat → Int32} {T k n : Nat} {q : LSt} (h0 : q.1.1 = 0) (h : q.1.2.2.2.2.1 = 0) : lpS f T k q n = (q, n) := by
  cases k with
  | zero => rfl
  | succ k =>
    show (if q.1.1 = 0 then (if q.1.2.2.2.2.1 = 0 then (q, n) else lpS f T k (nxS f T q) (n + 1)) else (q, n)) = _
    rw [if_pos h0, if_pos h]
def be6 (s : RSt) (rs rb : Nat) (xs xb : Int32) : RSt := if s.1 = 0 then (if nI rs ≤ xs then fT 6 s else if xb < nI rb then s else fT 6 s) else s
def be7 (s : RSt) (rs rb : Nat) : RSt := if s.1 = 0 then (if 0 < rs then (if rb = 0 then fT 7 s else s) else s) else s
def zpF (k : Nat) (fp : Nat → Int32) : Nat → Int32 := fun q => if q < k then 0 else fp q
def cpF (k : Nat) (pg fs : Nat → Int32) : Nat → Int32 := fun q => if q < k then pg q else fs q
theorem zpF_s {k : Nat} {fp : Nat → Int32} : upd (zpF k fp) k 0 = zpF (k + 1) fp := by
  funext q
  show (if q = k then 0 else if q < k then 0 else fp q) = (if q < k + 1 then 0 else fp q)
  by_cases c : q < k + 1
  · rw [if_pos c]; split
    · rfl
    · rw [if_pos (by omega)]
  · rw [if_neg c, if_neg (by omega), if_neg (by omega)]
theorem zpF_0 {fp : Nat → Int32} : fp = zpF 0 fp := by
  funext q
  show fp q = (if q < 0 then 0 else fp q)
  rw [if_neg (by omega)]
theorem cpF_s {k : Nat} {pg fs : Nat → Int32} : upd (cpF k pg fs) k (pg k) = cpF (k + 1) pg fs := by
  funext q
  show (if q = k then pg k else if q < k then pg q else fs q) = (if q < k + 1 then pg q else fs q)
  by_cases c : q < k + 1
  · rw [if_pos c]; split
    · rename_i e; rw [e]
    · rw [if_pos (by omega)]
  · rw [if_neg c, if_neg (by omega), if_neg (by omega)]
theorem cpF_0 {pg fs : Nat → Int32} : fs = cpF 0 pg fs := by
  funext q
  show fs q = (if q < 0 then pg q else fs q)
  rw [if_neg (by omega)]
theorem OKS_cp {pg fs : Nat → Int32} (h : OKS fs) (hp : OKP pg) : OKS (cpF 49 pg fs) := by
  intro q hq
  show okS q (if q < 49 then pg q else fs q)
  split
  · rename_i c; exact hp q c
  · exact h q hq
def txQ (f : Nat → Int32) (T : Nat) (ba : Int32) (he : Nat) (tk va : Int32) (fp : Nat → Int32) : LSt × Nat := lpS f T 400 (gOn f T 0 ba 0 he tk va, 0, 0, 0, 0, -1, -1, zpF 49 fp) 0
def txE (q : LSt) : RSt := be7 (be6 q.1 q.2.1 q.2.2.1 q.2.2.2.2.2.1 q.2.2.2.2.2.2.1) q.2.1 q.2.2.1
theorem skp_ge {f : Nat → Int32} {T : Nat} {lo hi : Int} : ∀ (n p : Nat), p ≤ skp f T lo hi n p := by
  intro n
  induction n with
  | zero => intro p; exact Nat.le_refl p
  | succ n ih =>
    intro p
    show p ≤ (if p < T ∧ lo ≤ (f p).toInt ∧ (f p).toInt ≤ hi then skp f T lo hi n (p + 1) else p)
    split
    · exact Nat.le_trans (Nat.le_succ p) (ih (p + 1))
    · exact Nat.le_refl p
theorem skp_le {f : Nat → Int32} {T : Nat} {lo hi : Int} : ∀ (n p : Nat), p ≤ T → skp f T lo hi n p ≤ T := by
  intro n
  induction n with
  | zero => intro p h; exact h
  | succ n ih =>
    intro p h
    show (if p < T ∧ lo ≤ (f p).toInt ∧ (f p).toInt ≤ hi then skp f T lo hi n (p + 1) else p) ≤ T
    split
    · rename_i c; exact ih (p + 1) c.1
    · exact h
theorem pst_b {f : Nat → Int32} {T p : Nat} {lo hi : Int} (h : p ≤ T) : p ≤ pst f T lo hi p ∧ pst f T lo hi p ≤ T := ⟨skp_ge _ _, skp_le _ _ h⟩
def flP (x0 p x1 : Int32) : Int32 := if x0 = 0 then p else x1
def ntS1 (f : Nat → Int32) (T F : Nat) (x0 x1 x3 : Int32) : Int32 × Int32 × Int32 × Nat × Nat :=
  if T ≤ F then (x0, x1, 0, F, F)
  else if 97 ≤ (f F).toInt ∧ (f F).toInt ≤ 122 then (x0, x1, 1, F, pst f T 97 122 F)
  else if 48 ≤ (f F).toInt ∧ (f F).toInt ≤ 57 then
    (if pst f T 48 57 F - F ≤ 2 then (x0, x1, 2, F, pst f T 48 57 F) else (flB 1 x0, flP x0 (nI F) x1, 2, F, pst f T 48 57 F))
  else if f F = 59 then (x0, x1, 3, F, F + 1) else (flB 1 x0, flP x0 (nI F) x1, x3, F, F)
def ntG (f : Nat → Int32) (T F : Nat) : Int32 :=
  if T ≤ F then 1
  else if 97 ≤ (f F).toInt ∧ (f F).toInt ≤ 122 then 1
  else if 48 ≤ (f F).toInt ∧ (f F).toInt ≤ 57 then (if pst f T 48 57 F - F ≤ 2 then 1 else 0)
  else if f F = 59 then 1 else 0
abbrev sYs (f : Nat → Int32) (F P i : Nat) : Prop := P - F = strLen.getD i 0 ∧ ∀ q9 : Nat, q9 < strLen.getD i 0 → f (F + q9) = (strByt.getD i []).getD q9 0 &&& 255
def isN (f : Nat → Int32) (F P : Nat) (x3 : Int32) (i : Nat) : Int32 := if x3 = 1 then (if sYs f F P i then 1 else 0) else 0
def kdF (f : Nat → Int32) (F P : Nat) (x3 : Int32) : Int32 := if isN f F P x3 3 = 0 then (if isN f F P x3 4 = 0 then (if isN f F P x3 5 = 0 then (if isN f F P x3 6 = 0 then (if isN f F P x3 7 = 0 then (if isN f F P x3 8 = 0 then -4 else 5) else 4) else 3) else 2) else 1) else 0
abbrev CS5 : Type := Int32 × Int32 × Int32 × Nat × Nat
def cRF (k : Int32) (c : CS5) : CS5 := (flB k c.1, flP c.1 (nI c.2.2.2.1) c.2.1, c.2.2.1, c.2.2.2.1, c.2.2.2.2)
def cVL (f : Nat → Int32) (T : Nat) (c : CS5) : Int32 := valN f T c.2.2.2.1 (c.2.2.2.2 - c.2.2.2.1)
def cNN (f : Nat → Int32) (T : Nat) (lo hi x0 x1 x3 : Int32) (P : Nat) : Int32 × CS5 :=
  if ntG f T (pst f T 32 32 P) = 0 then (0, ntS1 f T (pst f T 32 32 P) x0 x1 x3)
  else if (ntS1 f T (pst f T 32 32 P) x0 x1 x3).2.2.1 = 2 then (if cVL f T (ntS1 f T (pst f T 32 32 P) x0 x1 x3) < lo then (0, cRF 3 (ntS1 f T (pst f T 32 32 P) x0 x1 x3)) else if cVL f T (ntS1 f T (pst f T 32 32 P) x0 x1 x3) ≤ hi then (1, ntS1 f T (pst f T 32 32 P) x0 x1 x3) else (0, cRF 3 (ntS1 f T (pst f T 32 32 P) x0 x1 x3)))
  else (0, cRF 2 (ntS1 f T (pst f T 32 32 P) x0 x1 x3))
def cNS (f : Nat → Int32) (T : Nat) (x0 x1 x3 : Int32) (P : Nat) : Int32 × CS5 :=
  if ntG f T (pst f T 32 32 P) = 0 then (0, ntS1 f T (pst f T 32 32 P) x0 x1 x3)
  else if (ntS1 f T (pst f T 32 32 P) x0 x1 x3).2.2.1 = 3 then (1, ntS1 f T (pst f T 32 32 P) x0 x1 x3) else (0, cRF 2 (ntS1 f T (pst f T 32 32 P) x0 x1 x3))
def tNN (f : Nat → Int32) (T : Nat) (lo hi : Int32) (c : CS5) : Int32 × CS5 := cNN f T lo hi c.1 c.2.1 c.2.2.1 c.2.2.2.2
def tNS (f : Nat → Int32) (T : Nat) (c : CS5) : Int32 × CS5 := cNS f T c.1 c.2.1 c.2.2.1 c.2.2.2.2
def tNG (f : Nat → Int32) (T : Nat) (c : CS5) : Int32 := ntG f T (pst f T 32 32 c.2.2.2.2)
def tNT (f : Nat → Int32) (T : Nat) (c : CS5) : CS5 := ntS1 f T (pst f T 32 32 c.2.2.2.2) c.1 c.2.1 c.2.2.1
def cKD (f : Nat → Int32) (c : CS5) : Int32 := kdF f c.2.2.2.1 c.2.2.2.2 c.2.2.1
def cST (f : Nat → Int32) (T : Nat) (c : CS5) (st : Int32) (D : Nat) : Int32 × CS5 × Int32 × Nat :=
  if st = 0 then
    (if (tNN f T 1 9 c).1 = 0 then (0, (tNN f T 1 9 c).2, 1, D)
     else ((tNS f T (tNN f T 1 9 c).2).1, (tNS f T (tNN f T 1 9 c).2).2, 1, (cVL f T (tNN f T 1 9 c).2).toNatClampNeg))
  else (0, cRF 4 c, st, D)
def cSR (f : Nat → Int32) (T : Nat) (c : CS5) (N : Nat) (g1 g2 : Nat → Int32) : Int32 × CS5 × Nat × (Nat → Int32) × (Nat → Int32) :=
  if N < 10 then
    (if (tNN f T 0 9 c).1 = 0 then (0, (tNN f T 0 9 c).2, N, g1, g2)
     else if (tNN f T 0 9 (tNN f T 0 9 c).2).1 = 0 then (0, (tNN f T 0 9 (tNN f T 0 9 c).2).2, N, g1, g2)
     else ((tNS f T (tNN f T 0 9 (tNN f T 0 9 c).2).2).1, (tNS f T (tNN f T 0 9 (tNN f T 0 9 c).2).2).2, N + 1, upd g1 N (cVL f T (tNN f T 0 9 c).2), upd g2 N (cVL f T (tNN f T 0 9 (tNN f T 0 9 c).2).2)))
  else (0, cRF 5 c, N, g1, g2)
def cBR (f : Nat → Int32) (T : Nat) (c : CS5) (B : Nat) (g4 g5 g6 : Nat → Int32) : Int32 × CS5 × Nat × (Nat → Int32) × (Nat → Int32) × (Nat → Int32) :=
  if B < 6 then
    (if tNG f T c = 0 then (0, tNT f T c, B, g4, g5, g6)
     else if cKD f (tNT f T c) = -4 then (0, cRF 2 (tNT f T c), B, g4, g5, g6)
     else if (tNN f T 0 9 (tNT f T c)).1 = 0 then (0, (tNN f T 0 9 (tNT f T c)).2, B, g4, g5, g6)
     else if (tNN f T 0 9 (tNN f T 0 9 (tNT f T c)).2).1 = 0 then (0, (tNN f T 0 9 (tNN f T 0 9 (tNT f T c)).2).2, B, g4, g5, g6)
     else ((tNS f T (tNN f T 0 9 (tNN f T 0 9 (tNT f T c)).2).2).1, (tNS f T (tNN f T 0 9 (tNN f T 0 9 (tNT f T c)).2).2).2, B + 1, upd g4 B (cKD f (tNT f T c)), upd g5 B (cVL f T (tNN f T 0 9 (tNT f T c)).2), upd g6 B (cVL f T (tNN f T 0 9 (tNN f T 0 9 (tNT f T c)).2).2)))
  else (0, cRF 5 c, B, g4, g5, g6)
def cCR (f : Nat → Int32) (T : Nat) (c : CS5) (ca xs xb : Int32) (g3 : Nat → Int32) : Int32 × CS5 × Int32 × Int32 × Int32 × (Nat → Int32) :=
  if (tNN f T 0 9 c).1 = 0 then (0, (tNN f T 0 9 c).2, ca, xs, xb, g3)
  else if (ca >>> (cVL f T (tNN f T 0 9 c).2 &&& 31)) &&& 1 = 1 then (0, cRF 4 (tNN f T 0 9 c).2, ca, xs, xb, g3)
  else if (tNN f T 0 5 (tNN f T 0 9 c).2).1 = 0 then (0, (tNN f T 0 5 (tNN f T 0 9 c).2).2, ca ||| ((1 : Int32) <<< (cVL f T (tNN f T 0 9 c).2 &&& 31)), xs, xb, g3)
  else ((tNS f T (tNN f T 0 5 (tNN f T 0 9 c).2).2).1, (tNS f T (tNN f T 0 5 (tNN f T 0 9 c).2).2).2, ca ||| ((1 : Int32) <<< (cVL f T (tNN f T 0 9 c).2 &&& 31)), mx xs (cVL f T (tNN f T 0 9 c).2), mx xb (cVL f T (tNN f T 0 5 (tNN f T 0 9 c).2).2), upd g3 (cVL f T (tNN f T 0 9 c).2).toNatClampNeg (cVL f T (tNN f T 0 5 (tNN f T 0 9 c).2).2))
abbrev CW : Type := CS5 × Int32 × Int32 × Int32 × Int32 × Nat × Nat × Nat × (Nat → Int32) × (Nat → Int32) × (Nat → Int32) × (Nat → Int32) × (Nat → Int32) × (Nat → Int32)
abbrev cIN (f : Nat → Int32) (c : CS5) (i : Nat) : Int32 := isN f c.2.2.2.1 c.2.2.2.2 c.2.2.1 i
def cLN (f : Nat → Int32) (T : Nat) (c : CS5) (st ca xs xb : Int32) (N B D : Nat) (g1 g2 g3 g4 g5 g6 : Nat → Int32) : Int32 × CW :=
  if cIN f c 0 = 0 then
    (if cIN f c 1 = 0 then
      (if cIN f c 2 = 0 then
        (if cIN f c 9 = 0 then (0, cRF 2 c, st, ca, xs, xb, N, B, D, g1, g2, g3, g4, g5, g6)
         else ((cCR f T c ca xs xb g3).1, (cCR f T c ca xs xb g3).2.1, st, (cCR f T c ca xs xb g3).2.2.1, (cCR f T c ca xs xb g3).2.2.2.1, (cCR f T c ca xs xb g3).2.2.2.2.1, N, B, D, g1, g2, (cCR f T c ca xs xb g3).2.2.2.2.2, g4, g5, g6))
       else ((cBR f T c B g4 g5 g6).1, (cBR f T c B g4 g5 g6).2.1, st, ca, xs, xb, N, (cBR f T c B g4 g5 g6).2.2.1, D, g1, g2, g3, (cBR f T c B g4 g5 g6).2.2.2.1, (cBR f T c B g4 g5 g6).2.2.2.2.1, (cBR f T c B g4 g5 g6).2.2.2.2.2))
     else ((cSR f T c N g1 g2).1, (cSR f T c N g1 g2).2.1, st, ca, xs, xb, (cSR f T c N g1 g2).2.2.1, B, D, (cSR f T c N g1 g2).2.2.2.1, (cSR f T c N g1 g2).2.2.2.2, g3, g4, g5, g6))
  else ((cST f T c st D).1, (cST f T c st D).2.1, (cST f T c st D).2.2.1, ca, xs, xb, N, B, (cST f T c st D).2.2.2, g1, g2, g3, g4, g5, g6)
def cLNq (f : Nat → Int32) (T : Nat) (q : CW) : Int32 × CW := cLN f T q.1 q.2.1 q.2.2.1 q.2.2.2.1 q.2.2.2.2.1 q.2.2.2.2.2.1 q.2.2.2.2.2.2.1 q.2.2.2.2.2.2.2.1 q.2.2.2.2.2.2.2.2.1 q.2.2.2.2.2.2.2.2.2.1 q.2.2.2.2.2.2.2.2.2.2.1 q.2.2.2.2.2.2.2.2.2.2.2.1 q.2.2.2.2.2.2.2.2.2.2.2.2.1 q.2.2.2.2.2.2.2.2.2.2.2.2.2
def cNTq (f : Nat → Int32) (T : Nat) (q : CW) : CW := (tNT f T q.1, q.2)
def cLP (f : Nat → Int32) (T : Nat) : Nat → CW → Int32 → CW × Int32
  | 0, q, n => (q, n)
  | k + 1, q, n => if q.1.1 = 0 then (if q.1.2.2.1 = 0 then (q, n) else if (cLNq f T q).1 = 0 then cLP f T k (cLNq f T q).2 n else cLP f T k (cNTq f T (cLNq f T q).2) (n + 1)) else (q, n)
theorem cLP_a {f : Nat → Int32} {T k : Nat} {n : Int32} {q : CW} (h0 : q.1.1 = 0) (h1 : ¬ q.1.2.2.1 = 0) (h2 : (cLNq f T q).1 = 0) : cLP f T (k + 1) q n = cLP f T k (cLNq f T q).2 n := by
  show (if q.1.1 = 0 then (if q.1.2.2.1 = 0 then (q, n) else if (cLNq f T q).1 = 0 then cLP f T k (cLNq f T q).2 n else cLP f T k (cNTq f T (cLNq f T q).2) (n + 1)) else (q, n)) = _
  rw [if_pos h0, if_neg h1, if_pos h2]
theorem cLP_b {f : Nat → Int32} {T k : Nat} {n : Int32} {q : CW} (h0 : q.1.1 = 0) (h1 : ¬ q.1.2.2.1 = 0) (h2 : ¬ (cLNq f T q).1 = 0) : cLP f T (k + 1) q n = cLP f T k (cNTq f T (cLNq f T q).2) (n + 1) := by
  show (if q.1.1 = 0 then (if q.1.2.2.1 = 0 then (q, n) else if (cLNq f T q).1 = 0 then cLP f T k (cLNq f T q).2 n else cLP f T k (cNTq f T (cLNq f T q).2) (n + 1)) else (q, n)) = _
  rw [if_pos h0, if_neg h1, if_neg h2]
theorem cLP_e0 {f : Nat → Int32} {T k : Nat} {n : Int32} {q : CW} (h : ¬ q.1.1 = 0) : cLP f T k q n = (q, n) := by
  cases k with
  | zero => rfl
  | succ k =>
    show (if q.1.1 = 0 then (if q.1.2.2.1 = 0 then (q, n) else if (cLNq f T q).1 = 0 then cLP f T k (cLNq f T q).2 n else cLP f T k (cNTq f T (cLNq f T q).2) (n + 1)) else (q, n)) = _
    rw [if_neg h]
theorem cLP_e1 {f : Nat → Int32} {T k : Nat} {n : Int32} {q : CW} (h0 : q.1.1 = 0) (h : q.1.2.2.1 = 0) : cLP f T k q n = (q, n) := by
  cases k with
  | zero => rfl
  | succ k =>
    show (if q.1.1 = 0 then (if q.1.2.2.1 = 0 then (q, n) else if (cLNq f T q).1 = 0 then cLP f T k (cLNq f T q).2 n else cLP f T k (cNTq f T (cLNq f T q).2) (n + 1)) else (q, n)) = _
    rw [if_pos h0, if_pos h]
def cQ0 (f : Nat → Int32) (T : Nat) (x3 : Int32) (g1 g2 g3 g4 g5 g6 : Nat → Int32) : CW := (tNT f T (0, 0, x3, 0, 0), 0, 0, -4, -4, 0, 0, 5, g1, g2, zpF 10 g3, g4, g5, g6)
def cRA (f : Nat → Int32) (T : Nat) (x3 : Int32) (g1 g2 g3 g4 g5 g6 : Nat → Int32) : CW × Int32 := cLP f T (T + 1) (cQ0 f T x3 g1 g2 g3 g4 g5 g6) 0
def cRT (k : Int32) (T : Nat) (c : CS5) : CS5 := (flB k c.1, flP c.1 (nI T) c.2.1, c.2.2.1, c.2.2.2.1, c.2.2.2.2)
def cLB (T : Nat) (c : CS5) (xs xb : Int32) (N B : Nat) : CS5 := if xs.toInt < (N : Int) then (if xb.toInt < (B : Int) then (if 0 < N then (if B = 0 then cRT 7 T c else c) else c) else cRT 6 T c) else cRT 6 T c
def cFN (T : Nat) (q : CW) : CS5 := if q.1.1 = 0 then cLB T q.1 q.2.2.2.1 q.2.2.2.2.1 q.2.2.2.2.2.1 q.2.2.2.2.2.2.1 else q.1

def R0 (f : Nat → Int32) (T : Nat) (c : CS5) (s : RSt) : Prop :=
  c.1 = 0 ∧ s.1 = 0 ∧ s.2.2.2.2.1 = c.2.2.1 ∧ s.2.2.2.1 = c.2.2.2.1 ∧ s.2.2.1 = c.2.2.2.2 ∧ c.2.2.2.1 ≤ c.2.2.2.2 ∧ c.2.2.2.2 ≤ T ∧ (c.2.2.1 = 2 → s.2.2.2.2.2 = cVL f T c) ∧ (c.2.2.1 = 0 → c.2.2.2.1 = T) ∧ (¬ c.2.2.1 = 0 → c.2.2.2.1 < c.2.2.2.2)
def RP (T : Nat) (c : CS5) (s : RSt) : Prop := c.1 = 0 ∧ s.1 = 0 ∧ s.2.2.1 = c.2.2.2.2 ∧ c.2.2.2.2 ≤ T
theorem R0.p {f : Nat → Int32} {T : Nat} {c : CS5} {s : RSt} (r : R0 f T c s) : RP T c s := ⟨r.1, r.2.1, r.2.2.2.2.1, r.2.2.2.2.2.2.1⟩
def RF (c : CS5) (s : RSt) : Prop := 0 < c.1.toInt ∧ s.1 = c.1 ∧ s.2.1 = c.2.1
theorem val_vl {f : Nat → Int32} {T F : Nat} (h3 : T ≤ 320) : ∀ n : Nat, n ≤ 2 → F + n ≤ T → valN f T F n = vlS f F n := by
  intro n
  induction n with
  | zero => intro _ _; rfl
  | succ n ih =>
    intro h1 h2
    have ih := ih (by omega) (by omega)
    have hb : byF f T (nI (F + n)) = f (F + n) := by
      unfold byF
      rw [if_pos ⟨by rw [nI_toInt (by omega)]; omega, by rw [nI_toInt (by omega)]; omega⟩, nI_clamp (by omega)]
    show valN f T F n * 10 + byF f T (nI (F + n)) - 48 = (if n < 2 then 10 * vlS f F n + f (F + n) - 48 else vlS f F n)
    rw [if_pos (by omega), ih, hb, Int32.mul_comm (vlS f F n) 10]
theorem fl_p (F : Nat) (ba x1 : Int32) : flA 0 ba F = flP 0 (nI F) x1 := by
  unfold flA flP
  rw [if_pos rfl, if_pos rfl]
theorem tokE {f : Nat → Int32} {T : Nat} (h3 : T ≤ 320) (P : Nat) (x1 x3 ba : Int32) (he : Nat) (tk va : Int32) (hT : P ≤ T) : (ntG f T (pst f T 32 32 P) = 1 ∧ R0 f T (ntS1 f T (pst f T 32 32 P) 0 x1 x3) (gOn f T 0 ba P he tk va) ∧ P ≤ (ntS1 f T (pst f T 32 32 P) 0 x1 x3).2.2.2.1) ∨ (ntG f T (pst f T 32 32 P) = 0 ∧ RF (ntS1 f T (pst f T 32 32 P) 0 x1 x3) (gOn f T 0 ba P he tk va)) := by
  have hb := pst_b (f := f) (T := T) (lo := 32) (hi := 32) hT
  have hg : gOn f T 0 ba P he tk va = gOn1 f T 0 ba (pst f T 32 32 P) := by
    unfold gOn
    rw [if_neg (by decide)]
  rw [hg]
  generalize pst f T 32 32 P = F at hb ⊢
  have f1 : (0 : Int) < (flB 1 0).toInt := by decide
  unfold ntG ntS1 gOn1
  by_cases c1 : T ≤ F
  · rw [if_pos c1, if_pos c1, if_pos c1]
    exact Or.inl ⟨rfl, ⟨rfl, rfl, rfl, rfl, rfl, Nat.le_refl _, hb.2, fun h => absurd (show (0 : Int32) = 2 from h) (by decide), fun _ => Nat.le_antisymm hb.2 c1, fun h => absurd rfl h⟩, hb.1⟩
  · rw [if_neg c1, if_neg c1, if_neg c1]
    by_cases c2 : 97 ≤ (f F).toInt ∧ (f F).toInt ≤ 122
    · rw [if_pos c2, if_pos c2, if_pos c2]
      have hq := pst_b (f := f) (T := T) (lo := 97) (hi := 122) hb.2
      have hi := pst_in (f := f) (T := T) (p := F) (lo := 97) (hi := 122) (by omega) c2.1 c2.2
      have hq1 := pst_b (f := f) (T := T) (p := F + 1) (lo := 97) (hi := 122) (by omega)
      exact Or.inl ⟨rfl, ⟨rfl, rfl, rfl, rfl, rfl, hq.1, hq.2, fun h => absurd (show (1 : Int32) = 2 from h) (by decide), fun h => absurd (show (1 : Int32) = 0 from h) (by decide), fun _ => by show F < pst f T 97 122 F; rw [hi]; omega⟩, hb.1⟩
    · rw [if_neg c2, if_neg c2, if_neg c2]
      by_cases c3 : 48 ≤ (f F).toInt ∧ (f F).toInt ≤ 57
      · rw [if_pos c3, if_pos c3, if_pos c3]
        have hq := pst_b (f := f) (T := T) (lo := 48) (hi := 57) hb.2
        have hi := pst_in (f := f) (T := T) (p := F) (lo := 48) (hi := 57) (by omega) c3.1 c3.2
        have hq1 := pst_b (f := f) (T := T) (p := F + 1) (lo := 48) (hi := 57) (by omega)
        by_cases c4 : pst f T 48 57 F - F ≤ 2
        · rw [if_pos c4, if_pos c4, if_neg (show ¬ 2 < pst f T 48 57 F - F by omega)]
          exact Or.inl ⟨rfl, ⟨rfl, rfl, rfl, rfl, rfl, hq.1, hq.2, fun _ => (val_vl h3 (pst f T 48 57 F - F) c4 (by omega)).symm, fun h => absurd (show (2 : Int32) = 0 from h) (by decide), fun _ => by show F < pst f T 48 57 F; rw [hi]; omega⟩, hb.1⟩
        · rw [if_neg c4, if_neg c4, if_pos (show 2 < pst f T 48 57 F - F by omega)]
          exact Or.inr ⟨rfl, f1, rfl, fl_p F ba x1⟩
      · rw [if_neg c3, if_neg c3, if_neg c3]
        by_cases c5 : f F = 59
        · rw [if_pos c5, if_pos c5, if_pos c5]
          exact Or.inl ⟨rfl, ⟨rfl, rfl, rfl, rfl, rfl, Nat.le_succ F, by show F + 1 ≤ T; omega, fun h => absurd (show (3 : Int32) = 2 from h) (by decide), fun h => absurd (show (3 : Int32) = 0 from h) (by decide), fun _ => Nat.lt_succ_self F⟩, hb.1⟩
        · rw [if_neg c5, if_neg c5, if_neg c5]
          exact Or.inr ⟨rfl, f1, rfl, fl_p F ba x1⟩
theorem tok {f : Nat → Int32} {T : Nat} {c : CS5} {s : RSt} (h3 : T ≤ 320) (p : RP T c s) : (tNG f T c = 1 ∧ R0 f T (tNT f T c) (gT f T s) ∧ c.2.2.2.2 ≤ (tNT f T c).2.2.2.1) ∨ (tNG f T c = 0 ∧ RF (tNT f T c) (gT f T s)) := by
  have h := tokE (f := f) h3 c.2.2.2.2 c.2.1 c.2.2.1 s.2.1 s.2.2.2.1 s.2.2.2.2.1 s.2.2.2.2.2 p.2.2.2
  unfold tNG tNT gT
  rw [p.1, p.2.1, p.2.2.1]
  exact h
def oB (lo xh sm : Int32) (s : RSt) : RSt := (otB lo xh sm s.1 s.2.2.2.2.1 s.2.2.2.2.2, otA lo xh sm s.1 s.2.1 s.2.2.2.1 s.2.2.2.2.1 s.2.2.2.2.2, s.2.2.1, s.2.2.2.1, s.2.2.2.2.1, s.2.2.2.2.2)
theorem oS_eq {f : Nat → Int32} {T : Nat} {lo xh sm : Int32} {s : RSt} : oS f T lo xh sm s = gT f T (oB lo xh sm s) := rfl
def fiP (s : RSt) : RSt := if s.1 = 0 then (if s.2.2.2.2.1 = 3 then s else fT 2 s) else s
theorem fiS_eq {f : Nat → Int32} {T : Nat} {s : RSt} : fiS f T s = gT f T (fiP s) := rfl
theorem RF.n {c : CS5} {s : RSt} (h : RF c s) : ¬ s.1 = 0 := by
  intro e
  have h1 := h.1
  rw [← h.2.1, e] at h1
  exact absurd h1 (by decide)
theorem RF.m {c : CS5} {s : RSt} (h : RF c s) : ¬ c.1 = 0 := fun e => h.n (h.2.1.trans e)
theorem RF.g {f : Nat → Int32} {T : Nat} {c : CS5} {s : RSt} (h : RF c s) : gT f T s = s := by
  show (if 0 < s.1.toInt then (s.1, s.2.1, s.2.2.1, s.2.2.2.1, s.2.2.2.2.1, s.2.2.2.2.2) else gOn1 f T s.1 s.2.1 (pst f T 32 32 s.2.2.1)) = s
  exact if_pos (by rw [h.2.1]; exact h.1)
theorem RF.f {c : CS5} {s : RSt} {k : Int32} (h : RF c s) : RF c (fT k s) := by
  refine ⟨h.1, ?_, ?_⟩
  · show (if s.1 = 0 then k else s.1) = c.1
    rw [if_neg h.n]; exact h.2.1
  · show (if s.1 = 0 then nI s.2.2.2.1 else s.2.1) = c.2.1
    rw [if_neg h.n]; exact h.2.2
theorem RF.o {c : CS5} {s : RSt} {lo xh sm : Int32} (h : RF c s) : RF c (oB lo xh sm s) := by
  have e : otC lo xh sm s.1 s.2.2.2.2.1 s.2.2.2.2.2 = 0 := by
    unfold otC
    rw [if_neg h.n]
  refine ⟨h.1, ?_, ?_⟩
  · show (if otC lo xh sm s.1 s.2.2.2.2.1 s.2.2.2.2.2 = 0 then s.1 else otC lo xh sm s.1 s.2.2.2.2.1 s.2.2.2.2.2) = c.1
    rw [if_pos e]; exact h.2.1
  · show (if otC lo xh sm s.1 s.2.2.2.2.1 s.2.2.2.2.2 = 0 then s.2.1 else nI s.2.2.2.1) = c.2.1
    rw [if_pos e]; exact h.2.2
theorem RF.i {c : CS5} {s : RSt} (h : RF c s) : RF c (fiP s) := by
  unfold fiP
  rw [if_neg h.n]
  exact h
theorem RF.s {f : Nat → Int32} {T : Nat} {c : CS5} {s : RSt} {lo xh sm : Int32} (h : RF c s) : RF c (oS f T lo xh sm s) := by
  rw [oS_eq, (h.o (lo := lo) (xh := xh) (sm := sm)).g]
  exact h.o
theorem RF.G {f : Nat → Int32} {T : Nat} {c : CS5} {s : RSt} (h : RF c s) : RF c (gT f T s) := by
  rw [h.g]; exact h
theorem fT_bad {f : Nat → Int32} {T : Nat} {c : CS5} {s : RSt} {k : Int32} (r : R0 f T c s) (hk : 0 < k.toInt) : RF (cRF k c) (fT k s) := by
  refine ⟨?_, ?_, ?_⟩
  · show 0 < (if c.1 = 0 then k else c.1).toInt
    rw [if_pos r.1]; exact hk
  · show (if s.1 = 0 then k else s.1) = (if c.1 = 0 then k else c.1)
    rw [if_pos r.1, if_pos r.2.1]
  · show (if s.1 = 0 then nI s.2.2.2.1 else s.2.1) = (if c.1 = 0 then nI c.2.2.2.1 else c.2.1)
    rw [if_pos r.1, if_pos r.2.1, r.2.2.2.1]
theorem oB_bad {f : Nat → Int32} {T : Nat} {c : CS5} {s : RSt} {lo hi sm k : Int32} (r : R0 f T c s) (hk : 0 < k.toInt) (e : otC lo hi sm s.1 s.2.2.2.2.1 s.2.2.2.2.2 = k) : RF (cRF k c) (oB lo hi sm s) := by
  have k0 : ¬ k = 0 := fun e0 => by rw [e0] at hk; exact absurd hk (by decide)
  refine ⟨?_, ?_, ?_⟩
  · show 0 < (if c.1 = 0 then k else c.1).toInt
    rw [if_pos r.1]; exact hk
  · show (if otC lo hi sm s.1 s.2.2.2.2.1 s.2.2.2.2.2 = 0 then s.1 else otC lo hi sm s.1 s.2.2.2.2.1 s.2.2.2.2.2) = (if c.1 = 0 then k else c.1)
    rw [e, if_neg k0, if_pos r.1]
  · show (if otC lo hi sm s.1 s.2.2.2.2.1 s.2.2.2.2.2 = 0 then s.2.1 else nI s.2.2.2.1) = (if c.1 = 0 then nI c.2.2.2.1 else c.2.1)
    rw [e, if_neg k0, if_pos r.1, r.2.2.2.1]
theorem otC_in {f : Nat → Int32} {T : Nat} {c : CS5} {s : RSt} {lo hi sm : Int32} (r : R0 f T c s) (k : c.2.2.1 = 2) (h1 : lo.toInt ≤ (cVL f T c).toInt) (h2 : (cVL f T c).toInt ≤ hi.toInt) : otC lo hi sm s.1 s.2.2.2.2.1 s.2.2.2.2.2 = if (sm >>> (cVL f T c &&& 31)) &&& 1 = 1 then 4 else 0 := by
  unfold otC
  rw [if_pos r.2.1, if_pos (r.2.2.1.trans k), r.2.2.2.2.2.2.2.1 k, if_pos ⟨h1, h2⟩]
theorem oB_ok {f : Nat → Int32} {T : Nat} {c : CS5} {s : RSt} {lo hi sm : Int32} (r : R0 f T c s) (k : c.2.2.1 = 2) (h1 : lo.toInt ≤ (cVL f T c).toInt) (h2 : (cVL f T c).toInt ≤ hi.toInt) (hm : ¬ (sm >>> (cVL f T c &&& 31)) &&& 1 = 1) : oB lo hi sm s = s ∧ oV lo hi sm s = cVL f T c := by
  have e := otC_in (sm := sm) r k h1 h2
  rw [if_neg hm] at e
  have eB : otB lo hi sm s.1 s.2.2.2.2.1 s.2.2.2.2.2 = s.1 := by
    unfold otB
    rw [if_pos e]
  have eA : otA lo hi sm s.1 s.2.1 s.2.2.2.1 s.2.2.2.2.1 s.2.2.2.2.2 = s.2.1 := by
    unfold otA
    rw [if_pos e]
  constructor
  · unfold oB
    rw [eB, eA]
  · show (if otB lo hi sm s.1 s.2.2.2.2.1 s.2.2.2.2.2 = 0 then s.2.2.2.2.2 else lo) = _
    rw [eB, if_pos r.2.1]
    exact r.2.2.2.2.2.2.2.1 k
theorem msk0 (x : Int32) : ¬ ((0 : Int32) >>> (x &&& 31)) &&& 1 = 1 := by
  rw [Int32.zero_shiftRight]
  decide
theorem num {f : Nat → Int32} {T : Nat} {c : CS5} {s : RSt} {lo hi : Int32} (h3 : T ≤ 320) (p : RP T c s) : ((tNN f T lo hi c).1 = 1 ∧ R0 f T (tNN f T lo hi c).2 (gT f T s) ∧ (tNN f T lo hi c).2.2.2.1 = 2 ∧ lo.toInt ≤ (cVL f T (tNN f T lo hi c).2).toInt ∧ (cVL f T (tNN f T lo hi c).2).toInt ≤ hi.toInt ∧ c.2.2.2.2 ≤ (tNN f T lo hi c).2.2.2.2.1) ∨ ((tNN f T lo hi c).1 = 0 ∧ ∀ sm : Int32, RF (tNN f T lo hi c).2 (oB lo hi sm (gT f T s))) := by
  have e : tNN f T lo hi c = (if tNG f T c = 0 then (0, tNT f T c) else if (tNT f T c).2.2.1 = 2 then (if cVL f T (tNT f T c) < lo then (0, cRF 3 (tNT f T c)) else if cVL f T (tNT f T c) ≤ hi then (1, tNT f T c) else (0, cRF 3 (tNT f T c))) else (0, cRF 2 (tNT f T c))) := rfl
  rw [e]
  rcases tok (f := f) h3 p with ⟨g, r, q⟩ | ⟨g, r⟩
  · rw [if_neg (by rw [g]; decide)]
    generalize tNT f T c = c1 at r q ⊢
    generalize gT f T s = s1 at r ⊢
    by_cases k : c1.2.2.1 = 2
    · rw [if_pos k]
      by_cases a : cVL f T c1 < lo
      · rw [if_pos a]
        refine Or.inr ⟨rfl, fun sm => oB_bad (k := 3) r (by decide) ?_⟩
        have a' := Int32.lt_iff_toInt_lt.mp a
        unfold otC
        rw [if_pos r.2.1, if_pos (r.2.2.1.trans k), r.2.2.2.2.2.2.2.1 k, if_neg (fun h => by have h1 := h.1; omega)]
      · rw [if_neg a]
        have a' : ¬ (cVL f T c1).toInt < lo.toInt := fun h => a (Int32.lt_iff_toInt_lt.mpr h)
        by_cases b : cVL f T c1 ≤ hi
        · rw [if_pos b]
          exact Or.inl ⟨rfl, r, k, by show lo.toInt ≤ (cVL f T c1).toInt; omega, Int32.le_iff_toInt_le.mp b, q⟩
        · rw [if_neg b]
          have b' : ¬ (cVL f T c1).toInt ≤ hi.toInt := fun h => b (Int32.le_iff_toInt_le.mpr h)
          refine Or.inr ⟨rfl, fun sm => oB_bad (k := 3) r (by decide) ?_⟩
          unfold otC
          rw [if_pos r.2.1, if_pos (r.2.2.1.trans k), r.2.2.2.2.2.2.2.1 k, if_neg (fun h => b' h.2)]
    · rw [if_neg k]
      refine Or.inr ⟨rfl, fun sm => oB_bad (k := 2) r (by decide) ?_⟩
      unfold otC
      rw [if_pos r.2.1, if_neg (fun h => k (r.2.2.1.symm.trans h))]
  · rw [if_pos g]
    exact Or.inr ⟨rfl, fun sm => r.o⟩
theorem fiP_ok {f : Nat → Int32} {T : Nat} {c : CS5} {s : RSt} (r : R0 f T c s) (k : c.2.2.1 = 3) : fiP s = s := by
  unfold fiP
  rw [if_pos r.2.1, if_pos (r.2.2.1.trans k)]
theorem fiP_no {f : Nat → Int32} {T : Nat} {c : CS5} {s : RSt} (r : R0 f T c s) (k : ¬ c.2.2.1 = 3) : fiP s = fT 2 s := by
  unfold fiP
  rw [if_pos r.2.1, if_neg (fun h => k (r.2.2.1.symm.trans h))]
theorem stp {f : Nat → Int32} {T : Nat} {c : CS5} {s : RSt} (h3 : T ≤ 320) (p : RP T c s) : ((tNS f T c).1 = 1 ∧ R0 f T (tNS f T c).2 (fiP (gT f T s)) ∧ c.2.2.2.2 < (tNS f T c).2.2.2.2.2) ∨ ((tNS f T c).1 = 0 ∧ RF (tNS f T c).2 (fiP (gT f T s))) := by
  have e : tNS f T c = (if tNG f T c = 0 then (0, tNT f T c) else if (tNT f T c).2.2.1 = 3 then (1, tNT f T c) else (0, cRF 2 (tNT f T c))) := rfl
  rw [e]
  rcases tok (f := f) h3 p with ⟨g, r, q⟩ | ⟨g, r⟩
  · rw [if_neg (by rw [g]; decide)]
    generalize tNT f T c = c1 at r q ⊢
    generalize gT f T s = s1 at r ⊢
    by_cases k : c1.2.2.1 = 3
    · rw [if_pos k, fiP_ok r k]
      have hl := r.2.2.2.2.2.2.2.2.2 (by rw [k]; decide)
      exact Or.inl ⟨rfl, r, Nat.lt_of_le_of_lt q hl⟩
    · rw [if_neg k, fiP_no r k]
      exact Or.inr ⟨rfl, fT_bad r (by decide)⟩
  · rw [if_pos g]
    exact Or.inr ⟨rfl, r.i⟩
theorem num0 {f : Nat → Int32} {T : Nat} {c : CS5} {s : RSt} {lo hi : Int32} (h3 : T ≤ 320) (p : RP T c s) : ((tNN f T lo hi c).1 = 1 ∧ R0 f T (tNN f T lo hi c).2 (gT f T s) ∧ oS f T lo hi 0 (gT f T s) = gT f T (gT f T s) ∧ oV lo hi 0 (gT f T s) = cVL f T (tNN f T lo hi c).2 ∧ (lo.toInt ≤ (cVL f T (tNN f T lo hi c).2).toInt ∧ (cVL f T (tNN f T lo hi c).2).toInt ≤ hi.toInt) ∧ c.2.2.2.2 ≤ (tNN f T lo hi c).2.2.2.2.2) ∨ ((tNN f T lo hi c).1 = 0 ∧ RF (tNN f T lo hi c).2 (oS f T lo hi 0 (gT f T s))) := by
  rcases num (f := f) (lo := lo) (hi := hi) h3 p with ⟨a1, a2, a3, a4, a5, a6⟩ | ⟨a1, a2⟩
  · obtain ⟨b1, b2⟩ := oB_ok (sm := 0) a2 a3 a4 a5 (msk0 _)
    exact Or.inl ⟨a1, a2, by rw [oS_eq, b1], b2, ⟨a4, a5⟩, Nat.le_trans a6 a2.2.2.2.2.2.1⟩
  · refine Or.inr ⟨a1, ?_⟩
    rw [oS_eq, (a2 0).g]
    exact a2 0
-- names
theorem wm_pair {f : Nat → Int32} {F P i n : Nat} (h1 : strLen.getD i 0 = cutL.getD (n + 1) 0 - cutL.getD n 0) (h2 : ∀ k : Nat, k < strLen.getD i 0 → (strByt.getD i []).getD k 0 &&& 255 = letL.getD (cutL.getD n 0 + k) 0) : sYs f F P i ↔ wMt f F P n := by
  constructor
  · intro h
    exact ⟨h.1.trans h1, fun k hk => (h.2 k (by rw [← h.1]; exact hk)).trans (h2 k (by rw [← h.1]; exact hk))⟩
  · intro h
    exact ⟨h.1.trans h1.symm, fun k hk => (h.2 k (by rw [h.1, ← h1]; exact hk)).trans (h2 k hk).symm⟩
abbrev Wn (f : Nat → Int32) (c : CS5) (n : Nat) : Prop := c.2.2.1 = 1 ∧ wMt f c.2.2.2.1 c.2.2.2.2 n
theorem isn0 {f : Nat → Int32} {F P i n : Nat} {x3 : Int32} (hw : sYs f F P i ↔ wMt f F P n) : isN f F P x3 i = 0 ↔ ¬ (x3 = 1 ∧ wMt f F P n) := by
  unfold isN
  by_cases a : x3 = 1
  · rw [if_pos a]
    by_cases b : sYs f F P i
    · rw [if_pos b]; exact ⟨fun h => absurd h (by decide), fun h => absurd ⟨a, hw.mp b⟩ h⟩
    · rw [if_neg b]; exact ⟨fun _ h => b (hw.mpr h.2), fun _ => rfl⟩
  · rw [if_neg a]; exact ⟨fun _ h => a h.1, fun _ => rfl⟩
theorem wm_key : ∀ n : Fin 10, ∀ m : Fin 10, n.val = m.val ∨ ¬ cutL.getD (n.val + 1) 0 - cutL.getD n.val 0 = cutL.getD (m.val + 1) 0 - cutL.getD m.val 0 ∨ ¬ ∀ k : Fin 8, (k.val < cutL.getD (n.val + 1) 0 - cutL.getD n.val 0 → letL.getD (cutL.getD n.val 0 + k.val) 0 = letL.getD (cutL.getD m.val 0 + k.val) 0) := by decide +kernel
theorem wm_ex {f : Nat → Int32} {a b n m : Nat} (hn : n < 10) (hm : m < 10) (h1 : wMt f a b n) (h2 : wMt f a b m) : n = m := by
  rcases wm_key ⟨n, hn⟩ ⟨m, hm⟩ with h | h | h
  · exact h
  · exact absurd (h1.1.symm.trans h2.1) h
  · exact absurd (fun (k : Fin 8) hk => (h1.2 k.val (by rw [h1.1]; exact hk)).symm.trans (h2.2 k.val (by rw [h1.1]; exact hk))) h
theorem nm_skip {f : Nat → Int32} {a b : Nat} : ∀ n : Nat, n ≤ 10 → (∀ m : Nat, m < n → ¬ wMt f a b m) → nmF f a b 10 = nmF f a b (10 - n) := by
  intro n
  induction n with
  | zero => intro _ _; rfl
  | succ n ih =>
    intro h1 h2
    rw [ih (by omega) (fun m hm => h2 m (by omega)), nmF_n (n := n) (by omega) (h2 n (by omega))]
theorem nm_w {f : Nat → Int32} {a b n : Nat} (hn : n < 10) (h : wMt f a b n) : nmF f a b 10 = nI n := by
  rw [nm_skip n (by omega) (fun m hm hw => by have := wm_ex (by omega) hn hw h; omega), nmF_y hn h]
theorem nm_0 {f : Nat → Int32} {a b : Nat} (h : ∀ m : Nat, m < 10 → ¬ wMt f a b m) : nmF f a b 10 = -4 := by
  rw [nm_skip 10 (by omega) h]
  rfl
theorem nT_eq {f : Nat → Int32} {T : Nat} {c : CS5} {s : RSt} (r : R0 f T c s) : nT f s = nmS f c.2.2.2.1 c.2.2.2.2 c.2.2.1 := by
  unfold nT
  rw [r.2.2.2.1, r.2.2.2.2.1, r.2.2.1]
theorem nT_w {f : Nat → Int32} {T n : Nat} {c : CS5} {s : RSt} (r : R0 f T c s) (hn : n < 10) (h : Wn f c n) : nT f s = nI n := by
  rw [nT_eq r]
  unfold nmS
  rw [if_pos h.1]
  exact nm_w hn h.2
theorem nT_0 {f : Nat → Int32} {T : Nat} {c : CS5} {s : RSt} (r : R0 f T c s) (h : ∀ m : Nat, m < 10 → ¬ Wn f c m) : nT f s = -4 := by
  rw [nT_eq r]
  unfold nmS
  by_cases a : c.2.2.1 = 1
  · rw [if_pos a]
    exact nm_0 (fun m hm hw => h m hm ⟨a, hw⟩)
  · rw [if_neg a]
theorem nT_hi {f : Nat → Int32} {T : Nat} {c : CS5} {s : RSt} (r : R0 f T c s) (h : ∀ m : Nat, m < 4 → ¬ Wn f c m) : ¬ (0 ≤ (nT f s).toInt ∧ (nT f s).toInt ≤ 3) := by
  by_cases e : ∃ n : Nat, n < 10 ∧ Wn f c n
  · obtain ⟨n, hn, hw⟩ := e
    rw [nT_w r hn hw, nI_toInt (by omega)]
    intro h9
    exact h n (by omega) hw
  · rw [nT_0 r (fun m hm hw => e ⟨m, hm, hw⟩)]
    decide
theorem nT_lo {f : Nat → Int32} {T : Nat} {c : CS5} {s : RSt} (r : R0 f T c s) (h : ∀ m : Nat, m < 10 → 4 ≤ m → ¬ Wn f c m) : ¬ (0 : Int32) ≤ nT f s - 4 := by
  by_cases e : ∃ n : Nat, n < 10 ∧ Wn f c n
  · obtain ⟨n, hn, hw⟩ := e
    rw [nT_w r hn hw]
    rcases (show n = 0 ∨ n = 1 ∨ n = 2 ∨ n = 3 ∨ 4 ≤ n by omega) with g|g|g|g|g
    · subst g; decide
    · subst g; decide
    · subst g; decide
    · subst g; decide
    · exact absurd hw (h n hn g)
  · rw [nT_0 r (fun m hm hw => e ⟨m, hm, hw⟩)]
    decide
theorem kd_sim {f : Nat → Int32} {T : Nat} {c : CS5} {s : RSt} (r : R0 f T c s) : (cKD f c = -4 ∧ ¬ (0 : Int32) ≤ nT f s - 4) ∨ (¬ cKD f c = -4 ∧ (0 : Int32) ≤ nT f s - 4 ∧ nT f s - 4 = cKD f c) := by
  unfold cKD kdF
  have i4 := isn0 (f := f) (F := c.2.2.2.1) (P := c.2.2.2.2) (x3 := c.2.2.1) (i := 3) (n := 4) (wm_pair (by decide) (by decide +kernel))
  have i5 := isn0 (f := f) (F := c.2.2.2.1) (P := c.2.2.2.2) (x3 := c.2.2.1) (i := 4) (n := 5) (wm_pair (by decide) (by decide +kernel))
  have i6 := isn0 (f := f) (F := c.2.2.2.1) (P := c.2.2.2.2) (x3 := c.2.2.1) (i := 5) (n := 6) (wm_pair (by decide) (by decide +kernel))
  have i7 := isn0 (f := f) (F := c.2.2.2.1) (P := c.2.2.2.2) (x3 := c.2.2.1) (i := 6) (n := 7) (wm_pair (by decide) (by decide +kernel))
  have i8 := isn0 (f := f) (F := c.2.2.2.1) (P := c.2.2.2.2) (x3 := c.2.2.1) (i := 7) (n := 8) (wm_pair (by decide) (by decide +kernel))
  have i9 := isn0 (f := f) (F := c.2.2.2.1) (P := c.2.2.2.2) (x3 := c.2.2.1) (i := 8) (n := 9) (wm_pair (by decide) (by decide +kernel))
  by_cases h4 : Wn f c 4
  · rw [if_neg (fun e => i4.mp e h4), nT_w r (by decide) h4]; exact Or.inr ⟨by decide, by decide, by decide⟩
  rw [if_pos (i4.mpr h4)]
  by_cases h5 : Wn f c 5
  · rw [if_neg (fun e => i5.mp e h5), nT_w r (by decide) h5]; exact Or.inr ⟨by decide, by decide, by decide⟩
  rw [if_pos (i5.mpr h5)]
  by_cases h6 : Wn f c 6
  · rw [if_neg (fun e => i6.mp e h6), nT_w r (by decide) h6]; exact Or.inr ⟨by decide, by decide, by decide⟩
  rw [if_pos (i6.mpr h6)]
  by_cases h7 : Wn f c 7
  · rw [if_neg (fun e => i7.mp e h7), nT_w r (by decide) h7]; exact Or.inr ⟨by decide, by decide, by decide⟩
  rw [if_pos (i7.mpr h7)]
  by_cases h8 : Wn f c 8
  · rw [if_neg (fun e => i8.mp e h8), nT_w r (by decide) h8]; exact Or.inr ⟨by decide, by decide, by decide⟩
  rw [if_pos (i8.mpr h8)]
  by_cases h9 : Wn f c 9
  · rw [if_neg (fun e => i9.mp e h9), nT_w r (by decide) h9]; exact Or.inr ⟨by decide, by decide, by decide⟩
  rw [if_pos (i9.mpr h9)]
  refine Or.inl ⟨rfl, nT_lo r (fun m hm h => ?_)⟩
  rcases (show m = 4 ∨ m = 5 ∨ m = 6 ∨ m = 7 ∨ m = 8 ∨ m = 9 by omega) with g|g|g|g|g|g <;> subst g <;> assumption
-- rows
def XR (a b : Int32) : Prop := (a = b ∧ 0 ≤ a.toInt) ∨ (a = -4 ∧ b = -1)
theorem XR.up {a b v : Int32} (h : XR a b) (hv : 0 ≤ v.toInt) : XR (mx a v) (rmX v b) := by
  unfold mx rmX
  rcases h with ⟨h1, h2⟩ | ⟨h1, h2⟩
  · subst h1
    by_cases q : v ≤ a
    · have q' := Int32.le_iff_toInt_le.mp q
      rw [if_pos q, if_neg (by omega)]; exact Or.inl ⟨rfl, h2⟩
    · have q' : ¬ v.toInt ≤ a.toInt := fun h => q (Int32.le_iff_toInt_le.mpr h)
      rw [if_neg q, if_pos (by omega)]; exact Or.inl ⟨rfl, hv⟩
  · subst h1 h2
    have e4 : (-4 : Int32).toInt = -4 := by decide
    have e1 : (-1 : Int32).toInt = -1 := by decide
    rw [if_pos (by omega), if_neg (fun h => by have h' := Int32.le_iff_toInt_le.mp h; omega)]
    exact Or.inl ⟨rfl, hv⟩
theorem XR.lt {a b : Int32} {n : Nat} (h : XR a b) (hn : n ≤ 10) : b.toInt < (nI n).toInt ↔ a.toInt < (n : Int) := by
  rw [nI_toInt (by omega)]
  rcases h with ⟨h1, h2⟩ | ⟨h1, h2⟩
  · rw [h1]
  · rw [h1, h2, show (-4 : Int32).toInt = -4 by decide, show (-1 : Int32).toInt = -1 by decide]
    omega
def RW (st ca xs xb : Int32) (N B D : Nat) (g1 g2 g3 g4 g5 g6 : Nat → Int32) (rs rb : Nat) (hs cb ys yb : Int32) (fp : Nat → Int32) : Prop :=
  (st = hs ∧ ca = cb ∧ XR xs ys ∧ XR xb yb ∧ N = rs ∧ B = rb) ∧ (N ≤ 10 ∧ B ≤ 6 ∧ 1 ≤ D ∧ D ≤ 9) ∧ fp 48 = nI D - 5 ∧ (∀ i : Nat, i < N → fp (2 * i) = g1 i ∧ fp (2 * i + 1) = g2 i) ∧ (∀ i : Nat, i < 10 → fp (38 + i) = g3 i) ∧ (∀ i : Nat, i < B → fp (20 + 3 * i) = g4 i ∧ fp (20 + 3 * i + 1) = g5 i ∧ fp (20 + 3 * i + 2) = g6 i)
abbrev CW2 : Type := Int32 × Int32 × Int32 × Int32 × Nat × Nat × Nat × (Nat → Int32) × (Nat → Int32) × (Nat → Int32) × (Nat → Int32) × (Nat → Int32) × (Nat → Int32)
abbrev LS2 : Type := Nat × Nat × Int32 × Int32 × Int32 × Int32 × (Nat → Int32)
def RW2 (q : CW2) (L : LS2) : Prop := RW q.1 q.2.1 q.2.2.1 q.2.2.2.1 q.2.2.2.2.1 q.2.2.2.2.2.1 q.2.2.2.2.2.2.1 q.2.2.2.2.2.2.2.1 q.2.2.2.2.2.2.2.2.1 q.2.2.2.2.2.2.2.2.2.1 q.2.2.2.2.2.2.2.2.2.2.1 q.2.2.2.2.2.2.2.2.2.2.2.1 q.2.2.2.2.2.2.2.2.2.2.2.2 L.1 L.2.1 L.2.2.1 L.2.2.2.1 L.2.2.2.2.1 L.2.2.2.2.2.1 L.2.2.2.2.2.2
theorem upd_n {f : Nat → Int32} {k j : Nat} {v : Int32} (h : ¬ j = k) : upd f k v j = f j := if_neg h
theorem upd_y {f : Nat → Int32} {k : Nat} {v : Int32} : upd f k v k = v := if_pos rfl
theorem cl_nI {x : Int32} (h : 0 ≤ x.toInt) : nI x.toNatClampNeg = x := Int32.ofNat_toNatClampNeg x (Int32.le_iff_toInt_le.mpr h)
def LOK (f : Nat → Int32) (T P : Nat) (A : Int32 × CW) (L : LSt) : Prop := (A.1 = 1 ∧ (∃ s2 : RSt, L.1 = gT f T s2 ∧ R0 f T A.2.1 s2) ∧ P < A.2.1.2.2.2.2 ∧ RW2 A.2.2 L.2) ∨ (A.1 = 0 ∧ RF A.2.1 L.1)

theorem L_start {f : Nat → Int32} {T : Nat} {c : CS5} {s : RSt} (h3 : T ≤ 320) (r : R0 f T c s) {st ca xs xb : Int32} {N B D : Nat} {g1 g2 g3 g4 g5 g6 : Nat → Int32} {rs rb : Nat} {hs cb ys yb : Int32} {fp : Nat → Int32} (w : RW st ca xs xb N B D g1 g2 g3 g4 g5 g6 rs rb hs cb ys yb fp) :
    LOK f T c.2.2.2.2 ((cST f T c st D).1, (cST f T c st D).2.1, (cST f T c st D).2.2.1, ca, xs, xb, N, B, (cST f T c st D).2.2.2, g1, g2, g3, g4, g5, g6) (fiS f T (rmS f T 0 s rs hs cb ys yb fp).1, (rmS f T 0 s rs hs cb ys yb fp).2.1, rb, (rmS f T 0 s rs hs cb ys yb fp).2.2.1, (rmS f T 0 s rs hs cb ys yb fp).2.2.2.1, (rmS f T 0 s rs hs cb ys yb fp).2.2.2.2.1, (rmS f T 0 s rs hs cb ys yb fp).2.2.2.2.2.1, (rmS f T 0 s rs hs cb ys yb fp).2.2.2.2.2.2) := by
  obtain ⟨⟨w1, w2, w3, w4, w5, w6⟩, w7, w8, w9, w10, w11⟩ := w
  have e1 : rmS f T 0 s rs hs cb ys yb fp = (oS f T 1 9 0 (gT f T (rmA 0 rs hs s)), rs, 1, cb, ys, yb, upd fp 48 (oV 1 9 0 (gT f T (rmA 0 rs hs s)) - 5)) := by
    unfold rmS
    rw [if_pos rfl]
  rw [e1]
  by_cases h : hs = 0
  · have ea : rmA 0 rs hs s = s := by
      unfold rmA
      rw [if_pos rfl, if_pos h, if_neg (by decide)]
    have ec : cST f T c st D = (if (tNN f T 1 9 c).1 = 0 then (0, (tNN f T 1 9 c).2, 1, D) else ((tNS f T (tNN f T 1 9 c).2).1, (tNS f T (tNN f T 1 9 c).2).2, 1, (cVL f T (tNN f T 1 9 c).2).toNatClampNeg)) := by
      unfold cST
      rw [if_pos (w1.trans h)]
    rw [ec, ea]
    rcases num0 (f := f) (lo := 1) (hi := 9) h3 r.p with ⟨a1, a2, a3, a4, a5, a6⟩ | ⟨a1, a2⟩
    · rw [if_neg (by rw [a1]; decide), a3, a4]
      have b1 : (1 : Int32).toInt = 1 := by decide
      have b9 : (9 : Int32).toInt = 9 := by decide
      have hd : (cVL f T (tNN f T 1 9 c).2).toNatClampNeg = (cVL f T (tNN f T 1 9 c).2).toInt.toNat := rfl
      rcases stp (f := f) h3 a2.p with ⟨p1, p2, p3⟩ | ⟨p1, p2⟩
      · unfold LOK; dsimp only; rw [fiS_eq]; refine Or.inl ⟨p1, ⟨_, rfl, p2⟩, Nat.lt_of_le_of_lt a6 p3, ?_⟩
        unfold RW2 RW; dsimp only
        refine ⟨⟨rfl, w2, w3, w4, w5, w6⟩, ⟨w7.1, w7.2.1, ?_, ?_⟩, ?_, fun i hi => ?_, fun i hi => ?_, fun i hi => ?_⟩
        · show 1 ≤ (cVL f T (tNN f T 1 9 c).2).toNatClampNeg
          omega
        · show (cVL f T (tNN f T 1 9 c).2).toNatClampNeg ≤ 9
          omega
        · show upd fp 48 (cVL f T (tNN f T 1 9 c).2 - 5) 48 = nI (cVL f T (tNN f T 1 9 c).2).toNatClampNeg - 5
          rw [upd_y, cl_nI (by omega)]
        · have hi : i < N := hi
          have q1 : upd fp 48 (cVL f T (tNN f T 1 9 c).2 - 5) (2 * i) = fp (2 * i) := upd_n (by omega)
          have q2 : upd fp 48 (cVL f T (tNN f T 1 9 c).2 - 5) (2 * i + 1) = fp (2 * i + 1) := upd_n (by omega)
          exact ⟨q1.trans (w9 i hi).1, q2.trans (w9 i hi).2⟩
        · have q1 : upd fp 48 (cVL f T (tNN f T 1 9 c).2 - 5) (38 + i) = fp (38 + i) := upd_n (by omega)
          exact q1.trans (w10 i hi)
        · have hi : i < B := hi
          have q1 : upd fp 48 (cVL f T (tNN f T 1 9 c).2 - 5) (20 + 3 * i) = fp (20 + 3 * i) := upd_n (by omega)
          have q2 : upd fp 48 (cVL f T (tNN f T 1 9 c).2 - 5) (20 + 3 * i + 1) = fp (20 + 3 * i + 1) := upd_n (by omega)
          have q3 : upd fp 48 (cVL f T (tNN f T 1 9 c).2 - 5) (20 + 3 * i + 2) = fp (20 + 3 * i + 2) := upd_n (by omega)
          exact ⟨q1.trans (w11 i hi).1, q2.trans (w11 i hi).2.1, q3.trans (w11 i hi).2.2⟩
      · unfold LOK; dsimp only; rw [fiS_eq]; exact Or.inr ⟨p1, p2.G⟩
    · rw [if_pos a1]
      unfold LOK; dsimp only; rw [fiS_eq]; exact Or.inr ⟨rfl, a2.i.G⟩
  · have ea : rmA 0 rs hs s = fT 4 s := by
      unfold rmA
      rw [if_pos rfl, if_neg h, if_neg (by decide)]
    have ec : cST f T c st D = (0, cRF 4 c, st, D) := by
      unfold cST
      rw [if_neg (fun e => h (w1.symm.trans e))]
    rw [ec, ea]
    have q : RF (cRF 4 c) (fT 4 s) := fT_bad r (by decide)
    unfold LOK; dsimp only; rw [fiS_eq]; exact Or.inr ⟨rfl, q.G.s.i.G⟩
theorem L_stretch {f : Nat → Int32} {T : Nat} {c : CS5} {s : RSt} (h3 : T ≤ 320) (r : R0 f T c s) {st ca xs xb : Int32} {N B D : Nat} {g1 g2 g3 g4 g5 g6 : Nat → Int32} {rs rb : Nat} {hs cb ys yb : Int32} {fp : Nat → Int32} (w : RW st ca xs xb N B D g1 g2 g3 g4 g5 g6 rs rb hs cb ys yb fp) :
    LOK f T c.2.2.2.2 ((cSR f T c N g1 g2).1, (cSR f T c N g1 g2).2.1, st, ca, xs, xb, (cSR f T c N g1 g2).2.2.1, B, D, (cSR f T c N g1 g2).2.2.2.1, (cSR f T c N g1 g2).2.2.2.2, g3, g4, g5, g6) (fiS f T (rmS f T 1 s rs hs cb ys yb fp).1, (rmS f T 1 s rs hs cb ys yb fp).2.1, rb, (rmS f T 1 s rs hs cb ys yb fp).2.2.1, (rmS f T 1 s rs hs cb ys yb fp).2.2.2.1, (rmS f T 1 s rs hs cb ys yb fp).2.2.2.2.1, (rmS f T 1 s rs hs cb ys yb fp).2.2.2.2.2.1, (rmS f T 1 s rs hs cb ys yb fp).2.2.2.2.2.2) := by
  obtain ⟨⟨w1, w2, w3, w4, w5, w6⟩, w7, w8, w9, w10, w11⟩ := w
  have e1 : rmS f T 1 s rs hs cb ys yb fp = (oS f T 0 9 0 (oS f T 0 9 0 (gT f T (rmA 1 rs hs s))), rs + 1, hs, cb, ys, yb, upd (upd fp (2 * rmI rs (gT f T (rmA 1 rs hs s))) (oV 0 9 0 (gT f T (rmA 1 rs hs s)))) (2 * rmI rs (gT f T (rmA 1 rs hs s)) + 1) (oV 0 9 0 (oS f T 0 9 0 (gT f T (rmA 1 rs hs s))))) := by
    unfold rmS
    rw [if_neg (by decide), if_pos rfl]
  have ea : rmA 1 rs hs s = (if rs = 10 then fT 5 s else s) := by
    unfold rmA
    rw [if_neg (by decide), if_pos rfl]
  rw [e1, ea]
  by_cases h : N < 10
  · have ec : cSR f T c N g1 g2 = (if (tNN f T 0 9 c).1 = 0 then (0, (tNN f T 0 9 c).2, N, g1, g2) else if (tNN f T 0 9 (tNN f T 0 9 c).2).1 = 0 then (0, (tNN f T 0 9 (tNN f T 0 9 c).2).2, N, g1, g2) else ((tNS f T (tNN f T 0 9 (tNN f T 0 9 c).2).2).1, (tNS f T (tNN f T 0 9 (tNN f T 0 9 c).2).2).2, N + 1, upd g1 N (cVL f T (tNN f T 0 9 c).2), upd g2 N (cVL f T (tNN f T 0 9 (tNN f T 0 9 c).2).2))) := by
      unfold cSR
      rw [if_pos h]
    rw [ec, if_neg (show ¬ rs = 10 by omega)]
    rcases num0 (f := f) (lo := 0) (hi := 9) h3 r.p with ⟨a1, a2, a3, a4, a5, a6⟩ | ⟨a1, a2⟩
    · rw [if_neg (by rw [a1]; decide), a3, a4]
      have ei : rmI rs (gT f T s) = rs := by
        unfold rmI
        rw [if_pos a2.2.1]
      rw [ei]
      rcases num0 (f := f) (lo := 0) (hi := 9) h3 a2.p with ⟨b1, b2, b3, b4, b5, b6⟩ | ⟨b1, b2⟩
      · rw [if_neg (by rw [b1]; decide), b3, b4]
        rcases stp (f := f) h3 b2.p with ⟨p1, p2, p3⟩ | ⟨p1, p2⟩
        · unfold LOK; dsimp only; rw [fiS_eq]; refine Or.inl ⟨p1, ⟨_, rfl, p2⟩, Nat.lt_of_le_of_lt (Nat.le_trans a6 b6) p3, ?_⟩
          unfold RW2 RW; dsimp only
          refine ⟨⟨w1, w2, w3, w4, congrArg (· + 1) w5, w6⟩, ⟨by show N + 1 ≤ 10; omega, w7.2.1, w7.2.2.1, w7.2.2.2⟩, ?_, fun i hi => ?_, fun i hi => ?_, fun i hi => ?_⟩
          · exact (upd_n (by omega)).trans ((upd_n (by omega)).trans w8)
          · have hi : i < N + 1 := hi
            show upd (upd fp (2 * rs) (cVL f T (tNN f T 0 9 c).2)) (2 * rs + 1) (cVL f T (tNN f T 0 9 (tNN f T 0 9 c).2).2) (2 * i) = upd g1 N (cVL f T (tNN f T 0 9 c).2) i ∧ upd (upd fp (2 * rs) (cVL f T (tNN f T 0 9 c).2)) (2 * rs + 1) (cVL f T (tNN f T 0 9 (tNN f T 0 9 c).2).2) (2 * i + 1) = upd g2 N (cVL f T (tNN f T 0 9 (tNN f T 0 9 c).2).2) i
            by_cases k : i = N
            · rw [k, w5, upd_y, upd_y, upd_y, upd_n (show ¬ 2 * rs = 2 * rs + 1 by omega), upd_y]
              exact ⟨rfl, rfl⟩
            · rw [upd_n (show ¬ 2 * i = 2 * rs + 1 by omega), upd_n (show ¬ 2 * i = 2 * rs by omega), upd_n (show ¬ 2 * i + 1 = 2 * rs + 1 by omega), upd_n (show ¬ 2 * i + 1 = 2 * rs by omega), upd_n k, upd_n k]
              exact w9 i (by omega)
          · exact (upd_n (by omega)).trans ((upd_n (by omega)).trans (w10 i hi))
          · have hi : i < B := hi
            exact ⟨(upd_n (by omega)).trans ((upd_n (by omega)).trans (w11 i hi).1), (upd_n (by omega)).trans ((upd_n (by omega)).trans (w11 i hi).2.1), (upd_n (by omega)).trans ((upd_n (by omega)).trans (w11 i hi).2.2)⟩
        · unfold LOK; dsimp only; rw [fiS_eq]; exact Or.inr ⟨p1, p2.G⟩
      · rw [if_pos b1]
        unfold LOK; dsimp only; rw [fiS_eq]; exact Or.inr ⟨rfl, b2.i.G⟩
    · rw [if_pos a1]
      unfold LOK; dsimp only; rw [fiS_eq]; exact Or.inr ⟨rfl, a2.s.i.G⟩
  · have ec : cSR f T c N g1 g2 = (0, cRF 5 c, N, g1, g2) := by
      unfold cSR
      rw [if_neg h]
    rw [ec, if_pos (show rs = 10 by omega)]
    have q : RF (cRF 5 c) (fT 5 s) := fT_bad r (by decide)
    unfold LOK; dsimp only; rw [fiS_eq]; exact Or.inr ⟨rfl, q.G.s.s.i.G⟩
theorem L_bearer {f : Nat → Int32} {T : Nat} {c : CS5} {s : RSt} (h3 : T ≤ 320) (r : R0 f T c s) {st ca xs xb : Int32} {N B D : Nat} {g1 g2 g3 g4 g5 g6 : Nat → Int32} {rs rb : Nat} {hs cb ys yb : Int32} {fp : Nat → Int32} (w : RW st ca xs xb N B D g1 g2 g3 g4 g5 g6 rs rb hs cb ys yb fp) :
    LOK f T c.2.2.2.2 ((cBR f T c B g4 g5 g6).1, (cBR f T c B g4 g5 g6).2.1, st, ca, xs, xb, N, (cBR f T c B g4 g5 g6).2.2.1, D, g1, g2, g3, (cBR f T c B g4 g5 g6).2.2.2.1, (cBR f T c B g4 g5 g6).2.2.2.2.1, (cBR f T c B g4 g5 g6).2.2.2.2.2) (fiS f T (rbS f T s rb fp).1, rs, (rbS f T s rb fp).2.1, hs, cb, ys, yb, (rbS f T s rb fp).2.2) := by
  obtain ⟨⟨w1, w2, w3, w4, w5, w6⟩, w7, w8, w9, w10, w11⟩ := w
  by_cases h : B < 6
  · have e1 : rbS f T s rb fp = (if (0 : Int32) ≤ nT f (gT f T s) - 4 then
    (oS f T 0 9 0 (oS f T 0 9 0 (gT f T (gT f T s))), rb + 1, upd (upd (upd fp (20 + 3 * rb) (nT f (gT f T s) - 4)) (20 + 3 * rb + 1) (oV 0 9 0 (gT f T (gT f T s)))) (20 + 3 * rb + 2) (oV 0 9 0 (oS f T 0 9 0 (gT f T (gT f T s)))))
  else (fT 2 (gT f T s), rb, fp)) := by
      unfold rbS
      rw [if_neg (show ¬ rb = 6 by omega)]
    have ec : cBR f T c B g4 g5 g6 = (if tNG f T c = 0 then (0, tNT f T c, B, g4, g5, g6)
     else if cKD f (tNT f T c) = -4 then (0, cRF 2 (tNT f T c), B, g4, g5, g6)
     else if (tNN f T 0 9 (tNT f T c)).1 = 0 then (0, (tNN f T 0 9 (tNT f T c)).2, B, g4, g5, g6)
     else if (tNN f T 0 9 (tNN f T 0 9 (tNT f T c)).2).1 = 0 then (0, (tNN f T 0 9 (tNN f T 0 9 (tNT f T c)).2).2, B, g4, g5, g6)
     else ((tNS f T (tNN f T 0 9 (tNN f T 0 9 (tNT f T c)).2).2).1, (tNS f T (tNN f T 0 9 (tNN f T 0 9 (tNT f T c)).2).2).2, B + 1, upd g4 B (cKD f (tNT f T c)), upd g5 B (cVL f T (tNN f T 0 9 (tNT f T c)).2), upd g6 B (cVL f T (tNN f T 0 9 (tNN f T 0 9 (tNT f T c)).2).2))) := by
      unfold cBR
      rw [if_pos h]
    rw [e1, ec]
    rcases tok (f := f) h3 r.p with ⟨k1, k2, k3⟩ | ⟨k1, k2⟩
    · rw [if_neg (show ¬ tNG f T c = 0 by rw [k1]; decide)]
      rcases kd_sim k2 with ⟨j1, j2⟩ | ⟨j1, j2, j3⟩
      · rw [if_pos j1, if_neg j2]
        have q : RF (cRF 2 (tNT f T c)) (fT 2 (gT f T s)) := fT_bad k2 (by decide)
        unfold LOK; dsimp only; rw [fiS_eq]; exact Or.inr ⟨rfl, q.i.G⟩
      · rw [if_neg j1, if_pos j2, j3]
        rcases num0 (f := f) (lo := 0) (hi := 9) h3 k2.p with ⟨a1, a2, a3, a4, a5, a6⟩ | ⟨a1, a2⟩
        · rw [if_neg (by rw [a1]; decide), a3, a4]
          rcases num0 (f := f) (lo := 0) (hi := 9) h3 a2.p with ⟨b1, b2, b3, b4, b5, b6⟩ | ⟨b1, b2⟩
          · rw [if_neg (by rw [b1]; decide), b3, b4]
            rcases stp (f := f) h3 b2.p with ⟨p1, p2, p3⟩ | ⟨p1, p2⟩
            · unfold LOK; dsimp only; rw [fiS_eq]; refine Or.inl ⟨p1, ⟨_, rfl, p2⟩, Nat.lt_of_le_of_lt (Nat.le_trans (Nat.le_trans k3 k2.2.2.2.2.2.1) (Nat.le_trans a6 b6)) p3, ?_⟩
              unfold RW2 RW; dsimp only
              refine ⟨⟨w1, w2, w3, w4, w5, congrArg (· + 1) w6⟩, ⟨w7.1, by show B + 1 ≤ 6; omega, w7.2.2.1, w7.2.2.2⟩, ?_, fun i hi => ?_, fun i hi => ?_, fun i hi => ?_⟩
              · exact (upd_n (by omega)).trans ((upd_n (by omega)).trans ((upd_n (by omega)).trans w8))
              · have hi : i < N := hi
                exact ⟨(upd_n (by omega)).trans ((upd_n (by omega)).trans ((upd_n (by omega)).trans (w9 i hi).1)), (upd_n (by omega)).trans ((upd_n (by omega)).trans ((upd_n (by omega)).trans (w9 i hi).2))⟩
              · exact (upd_n (by omega)).trans ((upd_n (by omega)).trans ((upd_n (by omega)).trans (w10 i hi)))
              · have hi : i < B + 1 := hi
                generalize cKD f (tNT f T c) = v1
                generalize cVL f T (tNN f T 0 9 (tNN f T 0 9 (tNT f T c)).2).2 = v3
                generalize cVL f T (tNN f T 0 9 (tNT f T c)).2 = v2
                show upd (upd (upd fp (20 + 3 * rb) v1) (20 + 3 * rb + 1) v2) (20 + 3 * rb + 2) v3 (20 + 3 * i) = upd g4 B v1 i ∧ upd (upd (upd fp (20 + 3 * rb) v1) (20 + 3 * rb + 1) v2) (20 + 3 * rb + 2) v3 (20 + 3 * i + 1) = upd g5 B v2 i ∧ upd (upd (upd fp (20 + 3 * rb) v1) (20 + 3 * rb + 1) v2) (20 + 3 * rb + 2) v3 (20 + 3 * i + 2) = upd g6 B v3 i
                by_cases k : i = B
                · rw [k, w6, upd_y, upd_y, upd_y, upd_y, upd_n (show ¬ 20 + 3 * rb = 20 + 3 * rb + 2 by omega), upd_n (show ¬ 20 + 3 * rb = 20 + 3 * rb + 1 by omega), upd_y, upd_n (show ¬ 20 + 3 * rb + 1 = 20 + 3 * rb + 2 by omega), upd_y]
                  exact ⟨rfl, rfl, rfl⟩
                · rw [upd_n k, upd_n k, upd_n k]
                  exact ⟨(upd_n (by omega)).trans ((upd_n (by omega)).trans ((upd_n (by omega)).trans (w11 i (by omega)).1)), (upd_n (by omega)).trans ((upd_n (by omega)).trans ((upd_n (by omega)).trans (w11 i (by omega)).2.1)), (upd_n (by omega)).trans ((upd_n (by omega)).trans ((upd_n (by omega)).trans (w11 i (by omega)).2.2))⟩
            · unfold LOK; dsimp only; rw [fiS_eq]; exact Or.inr ⟨p1, p2.G⟩
          · rw [if_pos b1]
            unfold LOK; dsimp only; rw [fiS_eq]; exact Or.inr ⟨rfl, b2.i.G⟩
        · rw [if_pos a1]
          unfold LOK; dsimp only; rw [fiS_eq]; exact Or.inr ⟨rfl, a2.s.i.G⟩
    · rw [if_pos k1]
      split
      · unfold LOK; dsimp only; rw [fiS_eq]; exact Or.inr ⟨rfl, k2.G.s.s.i.G⟩
      · unfold LOK; dsimp only; rw [fiS_eq]; exact Or.inr ⟨rfl, k2.f.i.G⟩
  · have e1 : rbS f T s rb fp = (fT 5 s, rb, fp) := by
      unfold rbS
      rw [if_pos (show rb = 6 by omega)]
    have ec : cBR f T c B g4 g5 g6 = (0, cRF 5 c, B, g4, g5, g6) := by
      unfold cBR
      rw [if_neg h]
    rw [e1, ec]
    have q : RF (cRF 5 c) (fT 5 s) := fT_bad r (by decide)
    unfold LOK; dsimp only; rw [fiS_eq]; exact Or.inr ⟨rfl, q.i.G⟩
theorem L_carry {f : Nat → Int32} {T : Nat} {c : CS5} {s : RSt} (h3 : T ≤ 320) (r : R0 f T c s) {st ca xs xb : Int32} {N B D : Nat} {g1 g2 g3 g4 g5 g6 : Nat → Int32} {rs rb : Nat} {hs cb ys yb : Int32} {fp : Nat → Int32} (w : RW st ca xs xb N B D g1 g2 g3 g4 g5 g6 rs rb hs cb ys yb fp) :
    LOK f T c.2.2.2.2 ((cCR f T c ca xs xb g3).1, (cCR f T c ca xs xb g3).2.1, st, (cCR f T c ca xs xb g3).2.2.1, (cCR f T c ca xs xb g3).2.2.2.1, (cCR f T c ca xs xb g3).2.2.2.2.1, N, B, D, g1, g2, (cCR f T c ca xs xb g3).2.2.2.2.2, g4, g5, g6) (fiS f T (rmS f T 3 s rs hs cb ys yb fp).1, (rmS f T 3 s rs hs cb ys yb fp).2.1, rb, (rmS f T 3 s rs hs cb ys yb fp).2.2.1, (rmS f T 3 s rs hs cb ys yb fp).2.2.2.1, (rmS f T 3 s rs hs cb ys yb fp).2.2.2.2.1, (rmS f T 3 s rs hs cb ys yb fp).2.2.2.2.2.1, (rmS f T 3 s rs hs cb ys yb fp).2.2.2.2.2.2) := by
  obtain ⟨⟨w1, w2, w3, w4, w5, w6⟩, w7, w8, w9, w10, w11⟩ := w
  have ea : rmA 3 rs hs s = s := by
    unfold rmA
    rw [if_neg (by decide), if_neg (by decide)]
  have e1 : rmS f T 3 s rs hs cb ys yb fp = (oS f T 0 5 0 (oS f T 0 9 cb (gT f T s)), rs, hs, cb ||| ((1 : Int32) <<< (oV 0 9 cb (gT f T s) &&& 31)), rmX (oV 0 9 cb (gT f T s)) ys, rmX (oV 0 5 0 (oS f T 0 9 cb (gT f T s))) yb, upd fp (38 + (oV 0 9 cb (gT f T s)).toNatClampNeg) (oV 0 5 0 (oS f T 0 9 cb (gT f T s)))) := by
    unfold rmS
    rw [if_neg (by decide), if_neg (by decide), ea]
  rw [e1]
  unfold cCR
  subst w2
  rcases num (f := f) (lo := 0) (hi := 9) h3 r.p with ⟨a1, a2, a3, a4, a5, a6⟩ | ⟨a1, a2⟩
  · rw [if_neg (show ¬ (tNN f T 0 9 c).1 = 0 by rw [a1]; decide)]
    by_cases k : (ca >>> (cVL f T (tNN f T 0 9 c).2 &&& 31)) &&& 1 = 1
    · rw [if_pos k]
      have q : RF (cRF 4 (tNN f T 0 9 c).2) (oB 0 9 ca (gT f T s)) := oB_bad a2 (by decide) ((otC_in a2 a3 a4 a5).trans (if_pos k))
      have q2 : RF (cRF 4 (tNN f T 0 9 c).2) (oS f T 0 9 ca (gT f T s)) := q.G
      unfold LOK; dsimp only; rw [fiS_eq]; exact Or.inr ⟨rfl, q2.s.i.G⟩
    · rw [if_neg k]
      obtain ⟨o1, o2⟩ := oB_ok (sm := ca) a2 a3 a4 a5 k
      rw [show oS f T 0 9 ca (gT f T s) = gT f T (gT f T s) by rw [oS_eq, o1], o2]
      have z0 : (0 : Int32).toInt = 0 := by decide
      have z9 : (9 : Int32).toInt = 9 := by decide
      have z5 : (5 : Int32).toInt = 5 := by decide
      rcases num0 (f := f) (lo := 0) (hi := 5) h3 a2.p with ⟨b1, b2, b3, b4, b5, b6⟩ | ⟨b1, b2⟩
      · rw [if_neg (show ¬ (tNN f T 0 5 (tNN f T 0 9 c).2).1 = 0 by rw [b1]; decide), b3, b4]
        rcases stp (f := f) h3 b2.p with ⟨p1, p2, p3⟩ | ⟨p1, p2⟩
        · have hv : (cVL f T (tNN f T 0 9 c).2).toNatClampNeg = (cVL f T (tNN f T 0 9 c).2).toInt.toNat := rfl
          unfold LOK; dsimp only; rw [fiS_eq]; refine Or.inl ⟨p1, ⟨_, rfl, p2⟩, Nat.lt_of_le_of_lt (Nat.le_trans (Nat.le_trans a6 a2.2.2.2.2.2.1) b6) p3, ?_⟩
          unfold RW2 RW; dsimp only
          refine ⟨⟨w1, rfl, w3.up (by omega), w4.up (by omega), w5, w6⟩, w7, ?_, fun i hi => ?_, fun i hi => ?_, fun i hi => ?_⟩
          · exact (upd_n (by omega)).trans w8
          · have hi : i < N := hi
            exact ⟨(upd_n (by omega)).trans (w9 i hi).1, (upd_n (by omega)).trans (w9 i hi).2⟩
          · show upd fp (38 + (cVL f T (tNN f T 0 9 c).2).toNatClampNeg) (cVL f T (tNN f T 0 5 (tNN f T 0 9 c).2).2) (38 + i) = upd g3 (cVL f T (tNN f T 0 9 c).2).toNatClampNeg (cVL f T (tNN f T 0 5 (tNN f T 0 9 c).2).2) i
            by_cases k : i = (cVL f T (tNN f T 0 9 c).2).toNatClampNeg
            · rw [k, upd_y, upd_y]
            · rw [upd_n k, upd_n (by omega)]
              exact w10 i hi
          · have hi : i < B := hi
            exact ⟨(upd_n (by omega)).trans (w11 i hi).1, (upd_n (by omega)).trans (w11 i hi).2.1, (upd_n (by omega)).trans (w11 i hi).2.2⟩
        · unfold LOK; dsimp only; rw [fiS_eq]; exact Or.inr ⟨p1, p2.G⟩
      · rw [if_pos b1]
        unfold LOK; dsimp only; rw [fiS_eq]; exact Or.inr ⟨rfl, b2.i.G⟩
  · rw [if_pos a1]
    have q := (a2 ca).G (f := f) (T := T)
    have q2 : RF (tNN f T 0 9 c).2 (oS f T 0 9 ca (gT f T s)) := q
    unfold LOK; dsimp only; rw [fiS_eq]; exact Or.inr ⟨rfl, q2.s.i.G⟩

theorem L_line {f : Nat → Int32} {T : Nat} {c : CS5} {s : RSt} (h3 : T ≤ 320) (r : R0 f T c s) {st ca xs xb : Int32} {N B D : Nat} {g1 g2 g3 g4 g5 g6 : Nat → Int32} {rs rb : Nat} {hs cb ys yb : Int32} {fp : Nat → Int32} (w : RW st ca xs xb N B D g1 g2 g3 g4 g5 g6 rs rb hs cb ys yb fp) :
    LOK f T c.2.2.2.2 (cLN f T c st ca xs xb N B D g1 g2 g3 g4 g5 g6) (rlS f T s rs rb hs cb ys yb fp) := by
  have i0 := isn0 (f := f) (F := c.2.2.2.1) (P := c.2.2.2.2) (x3 := c.2.2.1) (i := 0) (n := 0) (wm_pair (by decide) (by decide +kernel))
  have i1 := isn0 (f := f) (F := c.2.2.2.1) (P := c.2.2.2.2) (x3 := c.2.2.1) (i := 1) (n := 1) (wm_pair (by decide) (by decide +kernel))
  have i2 := isn0 (f := f) (F := c.2.2.2.1) (P := c.2.2.2.2) (x3 := c.2.2.1) (i := 2) (n := 2) (wm_pair (by decide) (by decide +kernel))
  have i3 := isn0 (f := f) (F := c.2.2.2.1) (P := c.2.2.2.2) (x3 := c.2.2.1) (i := 9) (n := 3) (wm_pair (by decide) (by decide +kernel))
  unfold cLN rlS
  by_cases h0 : Wn f c 0
  · have hn : nT f s = 0 := nT_w r (by decide) h0
    rw [if_neg (fun e => i0.mp e h0), hn, if_pos (by decide), if_neg (by decide)]
    exact L_start h3 r w
  rw [if_pos (i0.mpr h0)]
  by_cases h1 : Wn f c 1
  · have hn : nT f s = 1 := nT_w r (by decide) h1
    rw [if_neg (fun e => i1.mp e h1), hn, if_pos (by decide), if_neg (by decide)]
    exact L_stretch h3 r w
  rw [if_pos (i1.mpr h1)]
  by_cases h2 : Wn f c 2
  · have hn : nT f s = 2 := nT_w r (by decide) h2
    rw [if_neg (fun e => i2.mp e h2), hn, if_pos (by decide), if_pos rfl]
    exact L_bearer h3 r w
  rw [if_pos (i2.mpr h2)]
  by_cases h9 : Wn f c 3
  · have hn : nT f s = 3 := nT_w r (by decide) h9
    rw [if_neg (fun e => i3.mp e h9), hn, if_pos (by decide), if_neg (by decide)]
    exact L_carry h3 r w
  rw [if_pos (i3.mpr h9), if_neg (nT_hi r (fun m hm h => by rcases (show m = 0 ∨ m = 1 ∨ m = 2 ∨ m = 3 by omega) with g|g|g|g <;> subst g <;> contradiction))]
  exact Or.inr ⟨rfl, fT_bad r (by decide)⟩
theorem L_loop {f : Nat → Int32} {T : Nat} (h3 : T ≤ 320) : ∀ (k kr : Nat) (q : CW) (L : LSt) (m : Nat), ((R0 f T q.1 L.1 ∧ RW2 q.2 L.2 ∧ T - q.1.2.2.2.1 < k ∧ T - q.1.2.2.2.1 < kr) ∨ RF q.1 L.1) →
    ((R0 f T (cLP f T k q (nI m)).1.1 (lpS f T kr L m).1.1 ∧ (cLP f T k q (nI m)).1.1.2.2.1 = 0 ∧ RW2 (cLP f T k q (nI m)).1.2 (lpS f T kr L m).1.2 ∧ (cLP f T k q (nI m)).2 = nI (lpS f T kr L m).2) ∨ RF (cLP f T k q (nI m)).1.1 (lpS f T kr L m).1.1) := by
  intro k
  induction k with
  | zero =>
    intro kr q L m h
    rcases h with ⟨_, _, h, _⟩ | h
    · exact absurd h (Nat.not_lt_zero _)
    · rw [cLP_e0 h.m, lpS_e0 h.n]
      exact Or.inr h
  | succ k ih =>
    intro kr q L m h
    rcases h with ⟨r, w, hk, hr⟩ | h
    · by_cases z : q.1.2.2.1 = 0
      · rw [cLP_e1 r.1 z, lpS_e1 r.2.1 (r.2.2.1.trans z)]
        exact Or.inl ⟨r, z, w, rfl⟩
      · obtain ⟨kr, rfl⟩ : ∃ j : Nat, kr = j + 1 := ⟨kr - 1, by omega⟩
        have hF := r.2.2.2.2.2.2.2.2.2 z
        have hPT := r.2.2.2.2.2.2.1
        rw [lpS_go r.2.1 (fun e => z (r.2.2.1.symm.trans e))]
        have hl : LOK f T q.1.2.2.2.2 (cLNq f T q) (nxS f T L) := L_line h3 r w
        rcases hl with ⟨a1, ⟨s2, a2, a3⟩, a4, a5⟩ | ⟨a1, a2⟩
        · rw [cLP_b r.1 z (by rw [a1]; decide), ← nI_succ]
          refine ih kr (cNTq f T (cLNq f T q).2) (nxS f T L) (m + 1) ?_
          rcases tok (f := f) h3 a3.p with ⟨t1, t2, t3⟩ | ⟨t1, t2⟩
          · left
            refine ⟨?_, a5, ?_, ?_⟩
            · rw [a2]; exact t2
            · show T - (tNT f T (cLNq f T q).2.1).2.2.2.1 < k
              omega
            · show T - (tNT f T (cLNq f T q).2.1).2.2.2.1 < kr
              omega
          · right
            rw [a2]; exact t2
        · rw [cLP_a r.1 z a1, cLP_e0 a2.m, lpS_e0 a2.n]
          exact Or.inr a2
    · rw [cLP_e0 h.m, lpS_e0 h.n]
      exact Or.inr h
/-- the two texts: what both tell of the same tape -/
theorem text_sim {f : Nat → Int32} {T : Nat} (h3 : T ≤ 320) (x3 : Int32) (g1 g2 g3 g4 g5 g6 : Nat → Int32) (ba : Int32) (he : Nat) (tk va : Int32) (fp : Nat → Int32) :
    ((cFN T (cRA f T x3 g1 g2 g3 g4 g5 g6).1).1 = 0 ∧ (txE (txQ f T ba he tk va fp).1).1 = 0 ∧ (cRA f T x3 g1 g2 g3 g4 g5 g6).2 = nI (txQ f T ba he tk va fp).2 ∧ RW2 (cRA f T x3 g1 g2 g3 g4 g5 g6).1.2 (txQ f T ba he tk va fp).1.2 ∧ ((cRA f T x3 g1 g2 g3 g4 g5 g6).1.2.2.2.2.2.1 = 0 ∨ 0 < (cRA f T x3 g1 g2 g3 g4 g5 g6).1.2.2.2.2.2.2.1)) ∨
    (RF (cFN T (cRA f T x3 g1 g2 g3 g4 g5 g6).1) (txE (txQ f T ba he tk va fp).1)) := by
  have h0 : (R0 f T (cQ0 f T x3 g1 g2 g3 g4 g5 g6).1 (gOn f T 0 ba 0 he tk va) ∧ RW2 (cQ0 f T x3 g1 g2 g3 g4 g5 g6).2 (0, 0, 0, 0, -1, -1, zpF 49 fp) ∧ T - (cQ0 f T x3 g1 g2 g3 g4 g5 g6).1.2.2.2.1 < T + 1 ∧ T - (cQ0 f T x3 g1 g2 g3 g4 g5 g6).1.2.2.2.1 < 400) ∨ RF (cQ0 f T x3 g1 g2 g3 g4 g5 g6).1 (gOn f T 0 ba 0 he tk va) := by
    rcases tokE (f := f) h3 0 0 x3 ba he tk va (Nat.zero_le T) with ⟨t1, t2, t3⟩ | ⟨t1, t2⟩
    · refine Or.inl ⟨t2, ?_, by omega, by omega⟩
      unfold cQ0 RW2 RW; dsimp only
      refine ⟨⟨rfl, rfl, Or.inr ⟨rfl, rfl⟩, Or.inr ⟨rfl, rfl⟩, rfl, rfl⟩, ⟨by decide, by decide, by decide, by decide⟩, (by show (if 48 < 49 then (0 : Int32) else fp 48) = nI 5 - 5; rw [if_pos (by decide)]; decide), fun i hi => absurd hi (Nat.not_lt_zero _), fun i hi => ?_, fun i hi => absurd hi (Nat.not_lt_zero _)⟩
      show (if 38 + i < 49 then (0 : Int32) else fp (38 + i)) = (if i < 10 then 0 else g3 i)
      rw [if_pos (by omega), if_pos hi]
    · exact Or.inr t2
  have hl := L_loop (f := f) h3 (T + 1) 400 (cQ0 f T x3 g1 g2 g3 g4 g5 g6) (gOn f T 0 ba 0 he tk va, 0, 0, 0, 0, -1, -1, zpF 49 fp) 0 h0
  have e1 : cLP f T (T + 1) (cQ0 f T x3 g1 g2 g3 g4 g5 g6) (nI 0) = cRA f T x3 g1 g2 g3 g4 g5 g6 := rfl
  have e2 : lpS f T 400 (gOn f T 0 ba 0 he tk va, 0, 0, 0, 0, -1, -1, zpF 49 fp) 0 = txQ f T ba he tk va fp := rfl
  rw [e1, e2] at hl
  generalize cRA f T x3 g1 g2 g3 g4 g5 g6 = Q at hl ⊢
  generalize txQ f T ba he tk va fp = X at hl ⊢
  obtain ⟨⟨c, q⟩, n⟩ := Q
  obtain ⟨⟨s, L⟩, m⟩ := X
  rcases hl with ⟨r, z, w, e⟩ | h
  · have r : R0 f T c s := r
    have z : c.2.2.1 = 0 := z
    have w : RW2 q L := w
    have w0 := w
    obtain ⟨⟨w1, w2, w3, w4, w5, w6⟩, w7, w8, w9, w10, w11⟩ := w
    have x1 := w3.lt w7.1
    have x2 := w4.lt (n := q.2.2.2.2.2.1) (Nat.le_trans w7.2.1 (by decide))
    have ec : cFN T (c, q) = cLB T c q.2.2.1 q.2.2.2.1 q.2.2.2.2.1 q.2.2.2.2.2.1 := if_pos r.1
    have hT : s.2.2.2.1 = T := r.2.2.2.1.trans (r.2.2.2.2.2.2.2.2.1 z)
    have bad : ∀ k : Int32, 0 < k.toInt → RF (cRT k T c) (fT k s) := by
      intro k hk
      refine ⟨?_, ?_, ?_⟩
      · show 0 < (if c.1 = 0 then k else c.1).toInt
        rw [if_pos r.1]; exact hk
      · show (if s.1 = 0 then k else s.1) = (if c.1 = 0 then k else c.1)
        rw [if_pos r.1, if_pos r.2.1]
      · show (if s.1 = 0 then nI s.2.2.2.1 else s.2.1) = (if c.1 = 0 then nI T else c.2.1)
        rw [if_pos r.1, if_pos r.2.1, hT]
    have ex : txE (s, L) = be7 (be6 s L.1 L.2.1 L.2.2.2.2.1 L.2.2.2.2.2.1) L.1 L.2.1 := rfl
    show ((cFN T (c, q)).1 = 0 ∧ (txE (s, L)).1 = 0 ∧ n = nI m ∧ RW2 q L ∧ (q.2.2.2.2.1 = 0 ∨ 0 < q.2.2.2.2.2.1)) ∨ RF (cFN T (c, q)) (txE (s, L))
    rw [ec, ex]
    unfold cLB be6
    rw [if_pos r.2.1, ← w5, ← w6]
    by_cases a : q.2.2.1.toInt < (q.2.2.2.2.1 : Int)
    · rw [if_pos a, if_neg (show ¬ nI q.2.2.2.2.1 ≤ L.2.2.2.2.1 from fun h9 => by have h8 := Int32.le_iff_toInt_le.mp h9; have h7 := x1.mpr a; omega)]
      by_cases b : q.2.2.2.1.toInt < (q.2.2.2.2.2.1 : Int)
      · rw [if_pos b, if_pos (Int32.lt_iff_toInt_lt.mpr (x2.mpr b))]
        unfold be7
        rw [if_pos r.2.1]
        by_cases d : 0 < q.2.2.2.2.1
        · rw [if_pos d, if_pos d]
          by_cases g : q.2.2.2.2.2.1 = 0
          · rw [if_pos g, if_pos g]
            exact Or.inr (bad 7 (by decide))
          · rw [if_neg g, if_neg g]
            exact Or.inl ⟨r.1, r.2.1, e, w0, Or.inr (by omega)⟩
        · rw [if_neg d, if_neg d]
          exact Or.inl ⟨r.1, r.2.1, e, w0, Or.inl (by omega)⟩
      · rw [if_neg b, if_neg (show ¬ L.2.2.2.2.2.1 < nI q.2.2.2.2.2.1 from fun h9 => b (x2.mp (Int32.lt_iff_toInt_lt.mp h9)))]
        have h6 := bad 6 (by decide)
        unfold be7
        rw [if_neg h6.n]
        exact Or.inr h6
    · rw [if_neg a, if_pos (show nI q.2.2.2.2.1 ≤ L.2.2.2.2.1 by refine Int32.le_iff_toInt_le.mpr ?_; have h7 : ¬ L.2.2.2.2.1.toInt < (nI q.2.2.2.2.1).toInt := fun h8 => a (x1.mp h8); omega)]
      have h6 := bad 6 (by decide)
      unfold be7
      rw [if_neg h6.n]
      exact Or.inr h6
  · have h : RF c s := h
    have ec : cFN T (c, q) = c := if_neg h.m
    have ex : txE (s, L) = be7 (be6 s L.1 L.2.1 L.2.2.2.2.1 L.2.2.2.2.2.1) L.1 L.2.1 := rfl
    have e6 : be6 s L.1 L.2.1 L.2.2.2.2.1 L.2.2.2.2.2.1 = s := if_neg h.n
    have e7 : be7 s L.1 L.2.1 = s := if_neg h.n
    right
    show RF (cFN T (c, q)) (txE (s, L))
    rw [ec, ex, e6, e7]
    exact h

def bC (v : Int64) (s : Int32) : Int32 := ((v.toUInt64 >>> (s.toInt64.toUInt64 &&& Int64.toUInt64 63)).toInt64 &&& 255).toInt32
def bR (v : Int64) (s : Int32) : Int32 := (v >>> (s.toInt64 &&& 63)).toInt32 &&& 255
theorem bv_sh (x : BitVec 64) (s : Nat) (hs : s ≤ 56) : ((x >>> s) &&& 255#64).signExtend 32 = (x.sshiftRight s).signExtend 32 &&& 255#32 := by
  rw [BitVec.signExtend_eq_setWidth_of_le _ (by decide), BitVec.signExtend_eq_setWidth_of_le _ (by decide)]
  apply BitVec.eq_of_getLsbD_eq
  intro i hi
  rw [BitVec.getLsbD_setWidth, BitVec.getLsbD_and, BitVec.getLsbD_ushiftRight, BitVec.getLsbD_and, BitVec.getLsbD_setWidth, BitVec.getLsbD_sshiftRight]
  have e1 : (255#64).getLsbD i = (decide (i < 64) && Nat.testBit 255 i) := BitVec.getLsbD_ofNat 64 255 i
  have e2 : (255#32).getLsbD i = (decide (i < 32) && Nat.testBit 255 i) := BitVec.getLsbD_ofNat 32 255 i
  rw [e1, e2]
  by_cases h : i < 8
  · rw [if_pos (show s + i < 64 by omega), decide_eq_true (show i < 64 by omega), decide_eq_true hi, decide_eq_false (show ¬ 64 ≤ i by omega)]
    rfl
  · have t : Nat.testBit 255 i = false := Nat.testBit_lt_two_pow (Nat.lt_of_lt_of_le (show 255 < 2 ^ 8 by decide) (Nat.pow_le_pow_right (by decide) (by omega)))
    rw [t]
    simp only [Bool.and_false]
theorem b56 (v : Int64) : bC v 56 = bR v 56 := Int32.toBitVec_inj.mp (bv_sh v.toBitVec 56 (by decide))
theorem b48 (v : Int64) : bC v 48 = bR v 48 := Int32.toBitVec_inj.mp (bv_sh v.toBitVec 48 (by decide))
theorem b40 (v : Int64) : bC v 40 = bR v 40 := Int32.toBitVec_inj.mp (bv_sh v.toBitVec 40 (by decide))
theorem b32 (v : Int64) : bC v 32 = bR v 32 := Int32.toBitVec_inj.mp (bv_sh v.toBitVec 32 (by decide))
theorem b24 (v : Int64) : bC v 24 = bR v 24 := Int32.toBitVec_inj.mp (bv_sh v.toBitVec 24 (by decide))
theorem b16 (v : Int64) : bC v 16 = bR v 16 := Int32.toBitVec_inj.mp (bv_sh v.toBitVec 16 (by decide))
theorem b8 (v : Int64) : bC v 8 = bR v 8 := Int32.toBitVec_inj.mp (bv_sh v.toBitVec 8 (by decide))
theorem b0 (v : Int64) : bC v 0 = bR v 0 := Int32.toBitVec_inj.mp (bv_sh v.toBitVec 0 (by decide))
def fdC (f : Nat → Int32) (T : Nat) (v : Int64) : Nat → Int32 := upd (upd (upd (upd (upd (upd (upd (upd f T (bC v 56)) (T + 1) (bC v 48)) (T + 2) (bC v 40)) (T + 3) (bC v 32)) (T + 4) (bC v 24)) (T + 5) (bC v 16)) (T + 6) (bC v 8)) (T + 7) (bC v 0)
theorem fdC_R {f : Nat → Int32} {T : Nat} {v : Int64} : fdC f T v = upd (upd (upd (upd (upd (upd (upd (upd f T (bR v 56)) (T + 1) (bR v 48)) (T + 2) (bR v 40)) (T + 3) (bR v 32)) (T + 4) (bR v 24)) (T + 5) (bR v 16)) (T + 6) (bR v 8)) (T + 7) (bR v 0) := by
  unfold fdC
  rw [b56, b48, b40, b32, b24, b16, b8, b0]
theorem and255 (y : Int32) : 0 ≤ (y &&& 255).toInt := by
  have h : (y &&& 255).toBitVec.toNat ≤ 255 := by
    rw [Int32.toBitVec_and, BitVec.toNat_and]
    exact Nat.and_le_right
  show 0 ≤ (y &&& 255).toBitVec.toInt
  rw [BitVec.toInt_eq_toNat_of_lt (by omega)]
  omega
theorem upd_nn {f : Nat → Int32} {k : Nat} {x : Int32} (h : ∀ q : Nat, q < 320 → 0 ≤ (f q).toInt) (hx : 0 ≤ x.toInt) : ∀ q : Nat, q < 320 → 0 ≤ (upd f k x q).toInt := by
  intro q hq
  show 0 ≤ (if q = k then x else f q).toInt
  split
  · exact hx
  · exact h q hq
theorem fd_nn {f : Nat → Int32} {T : Nat} {v : Int64} (h : ∀ q : Nat, q < 320 → 0 ≤ (f q).toInt) : ∀ q : Nat, q < 320 → 0 ≤ ((if T + 8 ≤ 320 then fdC f T v else f) q).toInt := by
  split
  · rw [fdC_R]
    exact upd_nn (upd_nn (upd_nn (upd_nn (upd_nn (upd_nn (upd_nn (upd_nn h (and255 _)) (and255 _)) (and255 _)) (and255 _)) (and255 _)) (and255 _)) (and255 _)) (and255 _)
  · exact h
/-- the text, told by the tape alone -/
def TQ (f : Nat → Int32) (T : Nat) : LSt × Nat := txQ f T 0 0 0 0 (fun _ => 0)
def txF (f : Nat → Int32) (T : Nat) : Int32 := (txE (TQ f T).1).1
def txA (f : Nat → Int32) (T : Nat) : Int32 := if 0 < (txF f T).toInt then (-10) - (txE (TQ f T).1).2.1 else nI (TQ f T).2
theorem RF.pos {c : CS5} {s : RSt} (h : RF c s) : 0 < s.1.toInt := by rw [h.2.1]; exact h.1
theorem txt_cf {f : Nat → Int32} {T : Nat} (h3 : T ≤ 320) {x3 : Int32} {g1 g2 g3 g4 g5 g6 : Nat → Int32} : (cFN T (cRA f T x3 g1 g2 g3 g4 g5 g6).1).1 = txF f T := by
  rcases text_sim (f := f) h3 x3 g1 g2 g3 g4 g5 g6 0 0 0 0 (fun _ => 0) with ⟨a, b, _⟩ | h
  · exact a.trans b.symm
  · exact h.2.1.symm
theorem txt_ca {f : Nat → Int32} {T : Nat} (h3 : T ≤ 320) {x3 : Int32} {g1 g2 g3 g4 g5 g6 : Nat → Int32} : (if (cFN T (cRA f T x3 g1 g2 g3 g4 g5 g6).1).1 = 0 then (cRA f T x3 g1 g2 g3 g4 g5 g6).2 else (-10) - (cFN T (cRA f T x3 g1 g2 g3 g4 g5 g6).1).2.1) = txA f T := by
  unfold txA
  rcases text_sim (f := f) h3 x3 g1 g2 g3 g4 g5 g6 0 0 0 0 (fun _ => 0) with ⟨a, b, c, _⟩ | h
  · have b' : txF f T = 0 := b
    rw [if_pos a, if_neg (by rw [b']; decide)]
    exact c
  · have e : txF f T = (cFN T (cRA f T x3 g1 g2 g3 g4 g5 g6).1).1 := h.2.1
    rw [if_neg h.m, if_pos (by rw [e]; exact h.1)]
    exact congrArg (fun z : Int32 => (-10) - z) h.2.2.symm
theorem txt_rf {f : Nat → Int32} {T : Nat} (h3 : T ≤ 320) {ba : Int32} {he : Nat} {tk va : Int32} {fp : Nat → Int32} : (txE (txQ f T ba he tk va fp).1).1 = txF f T := by
  have c := txt_cf (f := f) h3 (x3 := 0) (g1 := fun _ => 0) (g2 := fun _ => 0) (g3 := fun _ => 0) (g4 := fun _ => 0) (g5 := fun _ => 0) (g6 := fun _ => 0)
  rcases text_sim (f := f) h3 0 (fun _ => 0) (fun _ => 0) (fun _ => 0) (fun _ => 0) (fun _ => 0) (fun _ => 0) ba he tk va fp with ⟨a, b, _⟩ | h
  · exact (b.trans a.symm).trans c
  · exact h.2.1.trans c
theorem txt_ra {f : Nat → Int32} {T : Nat} (h3 : T ≤ 320) {ba : Int32} {he : Nat} {tk va : Int32} {fp : Nat → Int32} : (if 0 < (txE (txQ f T ba he tk va fp).1).1.toInt then (-10) - (txE (txQ f T ba he tk va fp).1).2.1 else nI (txQ f T ba he tk va fp).2) = txA f T := by
  have c := txt_ca (f := f) h3 (x3 := 0) (g1 := fun _ => 0) (g2 := fun _ => 0) (g3 := fun _ => 0) (g4 := fun _ => 0) (g5 := fun _ => 0) (g6 := fun _ => 0)
  rw [← c]
  rcases text_sim (f := f) h3 0 (fun _ => 0) (fun _ => 0) (fun _ => 0) (fun _ => 0) (fun _ => 0) (fun _ => 0) ba he tk va fp with ⟨a, b, d, _⟩ | h
  · rw [if_pos a, if_neg (by rw [b]; decide)]
    exact d.symm
  · rw [if_neg h.m, if_pos h.pos]
    exact congrArg (fun z : Int32 => (-10) - z) h.2.2
theorem LT0 {g : Nat → Int32} : ∀ q : Nat, q < 0 → g q = letL.getD q 0 := fun q h => absurd h (Nat.not_lt_zero q)
theorem LTs {g : Nat → Int32} {k : Nat} {c : Int32} (h : ∀ q : Nat, q < k → g q = letL.getD q 0) (hc : c = letL.getD k 0) : ∀ q : Nat, q < k + 1 → upd g k c q = letL.getD q 0 := by
  intro q hq
  show (if q = k then c else g q) = _
  split
  · rename_i e; rw [e]; exact hc
  · exact h q (by omega)

def txN (f : Nat → Int32) (T N : Nat) : Nat := if 0 < (txF f T).toInt then N else (TQ f T).1.2.1
def txB (f : Nat → Int32) (T B : Nat) : Nat := if 0 < (txF f T).toInt then B else (TQ f T).1.2.2.1
def txS (f : Nat → Int32) (T S : Nat) : Nat := if 0 < (txF f T).toInt then S else 0
def txK (f : Nat → Int32) (T : Nat) (K : Nat → Int32) : Nat → Int32 := if 0 < (txF f T).toInt then K else upd (upd K 0 0) 1 0
theorem txt_c1 {α : Type} {a b : α} {f : Nat → Int32} {T : Nat} (h3 : T ≤ 320) {x3 : Int32} {g1 g2 g3 g4 g5 g6 : Nat → Int32} : (if (cFN T (cRA f T x3 g1 g2 g3 g4 g5 g6).1).1 = 0 then a else b) = (if 0 < (txF f T).toInt then b else a) := by
  rcases text_sim (f := f) h3 x3 g1 g2 g3 g4 g5 g6 0 0 0 0 (fun _ => 0) with ⟨p, q, _⟩ | h
  · have q' : txF f T = 0 := q
    rw [if_pos p, if_neg (by rw [q']; decide)]
  · have e : txF f T = (cFN T (cRA f T x3 g1 g2 g3 g4 g5 g6).1).1 := h.2.1
    rw [if_neg h.m, if_pos (by rw [e]; exact h.1)]
theorem txt_cN {N : Nat} {f : Nat → Int32} {T : Nat} (h3 : T ≤ 320) {x3 : Int32} {g1 g2 g3 g4 g5 g6 : Nat → Int32} : (if (cFN T (cRA f T x3 g1 g2 g3 g4 g5 g6).1).1 = 0 then (cRA f T x3 g1 g2 g3 g4 g5 g6).1.2.2.2.2.2.1 else N) = txN f T N := by
  unfold txN
  rcases text_sim (f := f) h3 x3 g1 g2 g3 g4 g5 g6 0 0 0 0 (fun _ => 0) with ⟨p, q, _, w, _⟩ | h
  · have q' : txF f T = 0 := q
    rw [if_pos p, if_neg (by rw [q']; decide)]
    exact w.1.2.2.2.2.1
  · have e : txF f T = (cFN T (cRA f T x3 g1 g2 g3 g4 g5 g6).1).1 := h.2.1
    rw [if_neg h.m, if_pos (by rw [e]; exact h.1)]
theorem txt_cB {B : Nat} {f : Nat → Int32} {T : Nat} (h3 : T ≤ 320) {x3 : Int32} {g1 g2 g3 g4 g5 g6 : Nat → Int32} : (if (cFN T (cRA f T x3 g1 g2 g3 g4 g5 g6).1).1 = 0 then (cRA f T x3 g1 g2 g3 g4 g5 g6).1.2.2.2.2.2.2.1 else B) = txB f T B := by
  unfold txB
  rcases text_sim (f := f) h3 x3 g1 g2 g3 g4 g5 g6 0 0 0 0 (fun _ => 0) with ⟨p, q, _, w, _⟩ | h
  · have q' : txF f T = 0 := q
    rw [if_pos p, if_neg (by rw [q']; decide)]
    exact w.1.2.2.2.2.2
  · have e : txF f T = (cFN T (cRA f T x3 g1 g2 g3 g4 g5 g6).1).1 := h.2.1
    rw [if_neg h.m, if_pos (by rw [e]; exact h.1)]
theorem txt_r1 {α : Type} {a b : α} {f : Nat → Int32} {T : Nat} (h3 : T ≤ 320) {ba : Int32} {he : Nat} {tk va : Int32} {fp : Nat → Int32} : (if 0 < (txE (txQ f T ba he tk va fp).1).1.toInt then b else a) = (if 0 < (txF f T).toInt then b else a) := by
  rw [txt_rf h3]
theorem txt_rN {N : Nat} {f : Nat → Int32} {T : Nat} (h3 : T ≤ 320) {ba : Int32} {he : Nat} {tk va : Int32} {fp : Nat → Int32} : (if 0 < (txE (txQ f T ba he tk va fp).1).1.toInt then N else (txQ f T ba he tk va fp).1.2.1) = txN f T N := by
  have c := txt_cN (N := N) (f := f) h3 (x3 := 0) (g1 := fun _ => 0) (g2 := fun _ => 0) (g3 := fun _ => 0) (g4 := fun _ => 0) (g5 := fun _ => 0) (g6 := fun _ => 0)
  rw [← c]
  rcases text_sim (f := f) h3 0 (fun _ => 0) (fun _ => 0) (fun _ => 0) (fun _ => 0) (fun _ => 0) (fun _ => 0) ba he tk va fp with ⟨p, q, _, w, _⟩ | h
  · rw [if_pos p, if_neg (by rw [q]; decide)]
    exact w.1.2.2.2.2.1.symm
  · rw [if_neg h.m, if_pos h.pos]
theorem txt_rB {B : Nat} {f : Nat → Int32} {T : Nat} (h3 : T ≤ 320) {ba : Int32} {he : Nat} {tk va : Int32} {fp : Nat → Int32} : (if 0 < (txE (txQ f T ba he tk va fp).1).1.toInt then B else (txQ f T ba he tk va fp).1.2.2.1) = txB f T B := by
  have c := txt_cB (B := B) (f := f) h3 (x3 := 0) (g1 := fun _ => 0) (g2 := fun _ => 0) (g3 := fun _ => 0) (g4 := fun _ => 0) (g5 := fun _ => 0) (g6 := fun _ => 0)
  rw [← c]
  rcases text_sim (f := f) h3 0 (fun _ => 0) (fun _ => 0) (fun _ => 0) (fun _ => 0) (fun _ => 0) (fun _ => 0) ba he tk va fp with ⟨p, q, _, w, _⟩ | h
  · rw [if_pos p, if_neg (by rw [q]; decide)]
    exact w.1.2.2.2.2.2.symm
  · rw [if_neg h.m, if_pos h.pos]
/-- what the images keep: the way's counts, while they are kept -/
def XIN (N B : Nat) (K : Nat → Int32) (N1 B1 N2 B2 : Nat) : Prop := (K 0 = 0 ∨ (N1 = N ∧ B1 = B)) ∧ (K 1 = 0 ∨ (N2 = N ∧ B2 = B))
theorem tx_X {f : Nat → Int32} {T N B N1 B1 N2 B2 : Nat} {K : Nat → Int32} (h : XIN N B K N1 B1 N2 B2) : XIN (txN f T N) (txB f T B) (txK f T K) N1 B1 N2 B2 := by
  unfold txN txB txK
  by_cases c : 0 < (txF f T).toInt
  · rw [if_pos c, if_pos c, if_pos c]; exact h
  · rw [if_neg c, if_neg c, if_neg c]; exact ⟨Or.inl rfl, Or.inl rfl⟩
theorem k01 {k : Int32} (h : 0 ≤ k.toInt ∧ k.toInt < 2) : k = 0 ∨ k = 1 := by
  rcases (show k.toInt = 0 ∨ k.toInt = 1 by omega) with e | e
  · exact Or.inl (Int32.toInt_inj.mp (by rw [e]; rfl))
  · exact Or.inr (Int32.toInt_inj.mp (by rw [e]; rfl))
theorem kp_X {k : Int32} {N B N1 B1 N2 B2 : Nat} {K : Nat → Int32} (h : XIN N B K N1 B1 N2 B2) : XIN N B (if (0 ≤ k.toInt ∧ k.toInt < 2) then upd K k.toNatClampNeg 1 else K) (if k = 0 then N else N1) (if k = 0 then B else B1) (if k = 1 then N else N2) (if k = 1 then B else B2) := by
  by_cases c : 0 ≤ k.toInt ∧ k.toInt < 2
  · rw [if_pos c]
    rcases k01 c with e | e
    · subst e
      rw [if_pos rfl, if_pos rfl, if_neg (by decide), if_neg (by decide)]
      exact ⟨Or.inr ⟨rfl, rfl⟩, h.2⟩
    · subst e
      rw [if_pos rfl, if_pos rfl, if_neg (by decide), if_neg (by decide)]
      exact ⟨h.1, Or.inr ⟨rfl, rfl⟩⟩
  · rw [if_neg c, if_neg (fun e => c (by rw [e]; decide)), if_neg (fun e => c (by rw [e]; decide)), if_neg (fun e => c (by rw [e]; decide)), if_neg (fun e => c (by rw [e]; decide))]
    exact h
theorem bk_N {k : Int32} {N B N1 B1 N2 B2 : Nat} {K : Nat → Int32} (h : XIN N B K N1 B1 N2 B2) : (if k = 0 ∧ ¬ K 0 = 0 then N1 else if k = 1 ∧ ¬ K 1 = 0 then N2 else N) = N := by
  split
  · rename_i c; exact (h.1.resolve_left c.2).1
  · split
    · rename_i c; exact (h.2.resolve_left c.2).1
    · rfl
theorem bk_B {k : Int32} {N B N1 B1 N2 B2 : Nat} {K : Nat → Int32} (h : XIN N B K N1 B1 N2 B2) : (if k = 0 ∧ ¬ K 0 = 0 then B1 else if k = 1 ∧ ¬ K 1 = 0 then B2 else B) = B := by
  split
  · rename_i c; exact (h.1.resolve_left c.2).2
  · split
    · rename_i c; exact (h.2.resolve_left c.2).2
    · rfl
theorem bk_eq {k : Int32} {N B N1 B1 N2 B2 : Nat} {K : Nat → Int32} (h : XIN N B K N1 B1 N2 B2) : (if (0 ≤ k.toInt ∧ k.toInt < 2) then (if K k.toNatClampNeg = 0 then -2 else if k = 0 then nI N1 else nI N2) else -1) = (if (0 ≤ k.toInt ∧ k.toInt < 2) then (if K k.toNatClampNeg = 0 then (-2 : Int32) else nI N) else -1) := by
  by_cases c : 0 ≤ k.toInt ∧ k.toInt < 2
  · rw [if_pos c, if_pos c]
    rcases k01 c with e | e
    · subst e
      by_cases d : K (0 : Int32).toNatClampNeg = 0
      · rw [if_pos d, if_pos d]
      · rw [if_neg d, if_neg d, if_pos rfl, (h.1.resolve_left d).1]
    · subst e
      by_cases d : K (1 : Int32).toNatClampNeg = 0
      · rw [if_pos d, if_pos d]
      · rw [if_neg d, if_neg d, if_neg (by decide), (h.2.resolve_left d).1]
  · rw [if_neg c, if_neg c]
