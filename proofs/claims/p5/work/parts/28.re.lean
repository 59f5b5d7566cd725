set_option maxHeartbeats 1000000 in
set_option maxRecDepth 100000 in
theorem c_X11_copies (l : Launch) (dC : Nat → ClassId) (dI : Nat → Nat → Nat) (G : Nat → ClassId) (sz : Nat) (h0 fr tt st N B rp tp T cu lt od th be ln S ma M ah bh ik la lg ce : Nat) (vrs vrb vhs vca vxs vxb vfa vbr vba vsp vhe vtk vva vto : Int32) (fst : Nat → Int32) (hN : N ≤ 10) (hB : B ≤ 6) (hT : T ≤ 320) (hS0 : S ≤ 8) (hM : M ≤ 6) (hst : OKS fst) (hfr : fr % 49 = 0 ∧ fr ≤ 147) (htt : tt % 49 = 0 ∧ tt ≤ 147) : Met l yX11_copies (Cond.code yX11_copies cX11_copies 4 none :: GT) ({ frames := 0, cells := 0, slots := 0, locals := 0 } : Room) (PcW [.ref h0, .int (nI fr), .int (nI tt)] dC dI G [(h0, .inr (11, [.ref st, .int (nI N), .int (nI B), .ref rp, .int vrs, .int vrb, .int vhs, .int vca, .int vxs, .int vxb, .ref tp, .int (nI T), .int vfa, .int vbr, .int vba, .int vsp, .int vhe, .int vtk, .int vva, .ref cu, .ref lt, .ref od, .ref th, .ref be, .ref ln, .int (nI S), .ref ma, .int (nI M), .ref ah, .ref bh, .ref ik, .ref la, .ref lg, .ref ce, .int vto])), (st, .inl (G 0, 196, .inl fst))] sz) (va_Qv (fun (u : (Nat → Int32)) => match u with | ost => OKS ost) (fun (u : (Nat → Int32)) (t : State) => match u with | ost => va_P (dC, dI) vwCl [(h0, .inr (11, [.ref st, .int (nI N), .int (nI B), .ref rp, .int vrs, .int vrb, .int vhs, .int vca, .int vxs, .int vxb, .ref tp, .int (nI T), .int vfa, .int vbr, .int vba, .int vsp, .int vhe, .int vtk, .int vva, .ref cu, .ref lt, .ref od, .ref th, .ref be, .ref ln, .int (nI S), .ref ma, .int (nI M), .ref ah, .ref bh, .ref ik, .ref la, .ref lg, .ref ce, .int vto])), (st, .inl (G 0, 196, .inl ost))] t.heap ∧ va_D (va_A [(h0, .inr (11, [.ref st, .int (nI N), .int (nI B), .ref rp, .int vrs, .int vrb, .int vhs, .int vca, .int vxs, .int vxb, .ref tp, .int (nI T), .int vfa, .int vbr, .int vba, .int vsp, .int vhe, .int vtk, .int vva, .ref cu, .ref lt, .ref od, .ref th, .ref be, .ref ln, .int (nI S), .ref ma, .int (nI M), .ref ah, .ref bh, .ref ik, .ref la, .ref lg, .ref ce, .int vto])), (st, .inl (G 0, 196, .inl fst))] sz) [(h0, .inr (11, [.ref st, .int (nI N), .int (nI B), .ref rp, .int vrs, .int vrb, .int vhs, .int vca, .int vxs, .int vxb, .ref tp, .int (nI T), .int vfa, .int vbr, .int vba, .int vsp, .int vhe, .int vtk, .int vva, .ref cu, .ref lt, .ref od, .ref th, .ref be, .ref ln, .int (nI S), .ref ma, .int (nI M), .ref ah, .ref bh, .ref ik, .ref la, .ref lg, .ref ce, .int vto])), (st, .inl (G 0, 196, .inl ost))]) (va_A [(h0, .inr (11, [.ref st, .int (nI N), .int (nI B), .ref rp, .int vrs, .int vrb, .int vhs, .int vca, .int vxs, .int vxb, .ref tp, .int (nI T), .int vfa, .int vbr, .int vba, .int vsp, .int vhe, .int vtk, .int vva, .ref cu, .ref lt, .ref od, .ref th, .ref be, .ref ln, .int (nI S), .ref ma, .int (nI M), .ref ah, .ref bh, .ref ik, .ref la, .ref lg, .ref ce, .int vto])), (st, .inl (G 0, 196, .inl fst))] sz)) 0 0 (va_A [(h0, .inr (11, [.ref st, .int (nI N), .int (nI B), .ref rp, .int vrs, .int vrb, .int vhs, .int vca, .int vxs, .int vxb, .ref tp, .int (nI T), .int vfa, .int vbr, .int vba, .int vsp, .int vhe, .int vtk, .int vva, .ref cu, .ref lt, .ref od, .ref th, .ref be, .ref ln, .int (nI S), .ref ma, .int (nI M), .ref ah, .ref bh, .ref ik, .ref la, .ref lg, .ref ce, .int vto])), (st, .inl (G 0, 196, .inl fst))] sz) := by
  refine Met.ofW (cc := cX11_copies) (maxL := 4) (ret := none) (by decide) rfl ?_
  intro p e s m args below meth c s₁ Bd hml hv
  obtain ⟨rfl, hsz, hP, hK, hD0⟩ := hv
  have hx := Bd.exec
  have hb := Bd.bytes
  have hr := Bd.returns
  have hg : ∀ w ∈ GT, w.before ([.ref h0, .int (nI fr), .int (nI tt)] : List Value).toArray s = true := fun w h => atoms_spec (ws := Cond.code yX11_copies cX11_copies 4 none :: GT) Bd.pre w (List.mem_cons_of_mem _ h)
  have hown : s.vm.findClass RX11 = some m.cls := findClass_of_methodNamed Bd.named
  have hlocks := Bd.notSynchronized
  subst hsz
  have hD := hD0.self (sz := s.heap.size)
  generalize hAe : va_A [(h0, .inr (11, [.ref st, .int (nI N), .int (nI B), .ref rp, .int vrs, .int vrb, .int vhs, .int vca, .int vxs, .int vxb, .ref tp, .int (nI T), .int vfa, .int vbr, .int vba, .int vsp, .int vhe, .int vtk, .int vva, .ref cu, .ref lt, .ref od, .ref th, .ref be, .ref ln, .int (nI S), .ref ma, .int (nI M), .ref ah, .ref bh, .ref ik, .ref la, .ref lg, .ref ce, .int vto])), (st, .inl (G 0, 196, .inl fst))] s.heap.size = A at hD ⊢
  have hA : ∀ q : Nat, s.heap.size ≤ q → A q := fun q h => by rw [← hAe]; exact Or.inr h
  have hS : va_S A s.heap s.heap [] := va_S.rf
  have hl := lv_entry ([.ref h0, .int (nI fr), .int (nI tt)]) (n := 4) (Nat.le_of_ble_eq_true rfl)
  rw [lg_entry_eq]
  generalize (lg_sl ([.ref h0, .int (nI fr), .int (nI tt)]) ++ List.replicate (4 - (lg_sl ([.ref h0, .int (nI fr), .int (nI tt)])).length) Slot.unset).toArray = ls at hl ⊢
  have hl : lv_has ls 4 [(0, .ref h0), (1, .int (nI fr)), (2, .int (nI tt))] := hl
  refine lv_iconst (v := 0) hx hb dX11_copies_0 (by decide) ?_
  refine lv_istore_n (lv' := [(3, .int 0), (0, .ref h0), (1, .int (nI fr)), (2, .int (nI tt))]) hx hb dX11_copies_1 rfl hl (by decide) rfl (fun ls hl => ?_)
  have loop2_3 : ∀ (nf j1 : Nat), 49 + 1 ≤ j1 + nf → j1 ≤ 49 → ∀ (g2 : Nat → Int32) (H : Heap) (locs : List Loc), OKS g2 → va_P (dC, dI) vwCl [(h0, .inr (11, [.ref st, .int (nI N), .int (nI B), .ref rp, .int vrs, .int vrb, .int vhs, .int vca, .int vxs, .int vxb, .ref tp, .int (nI T), .int vfa, .int vbr, .int vba, .int vsp, .int vhe, .int vtk, .int vva, .ref cu, .ref lt, .ref od, .ref th, .ref be, .ref ln, .int (nI S), .ref ma, .int (nI M), .ref ah, .ref bh, .ref ik, .ref la, .ref lg, .ref ce, .int vto])), (st, .inl (G 0, 196, .inl g2))] H → va_D A [(h0, .inr (11, [.ref st, .int (nI N), .int (nI B), .ref rp, .int vrs, .int vrb, .int vhs, .int vca, .int vxs, .int vxb, .ref tp, .int (nI T), .int vfa, .int vbr, .int vba, .int vsp, .int vhe, .int vtk, .int vva, .ref cu, .ref lt, .ref od, .ref th, .ref be, .ref ln, .int (nI S), .ref ma, .int (nI M), .ref ah, .ref bh, .ref ik, .ref la, .ref lg, .ref ce, .int vto])), (st, .inl (G 0, 196, .inl g2))] → va_S A s.heap H locs → ∀ (ls : Array Slot), lv_has ls 4 [(3, .int (nI j1)), (0, .ref h0), (1, .int (nI fr)), (2, .int (nI tt))] → W p l e (headSpec (Cond.code yX11_copies cX11_copies 4 none :: GT) ({ frames := 0, cells := 0, slots := 0, locals := 0 } : Room)).room s m ([.ref h0, .int (nI fr), .int (nI tt)] : List Value).toArray below meth c H locs 0 0 (MQ below (va_Qv (fun (u : (Nat → Int32)) => match u with | ost => OKS ost) (fun (u : (Nat → Int32)) (t : State) => match u with | ost => va_P (dC, dI) vwCl [(h0, .inr (11, [.ref st, .int (nI N), .int (nI B), .ref rp, .int vrs, .int vrb, .int vhs, .int vca, .int vxs, .int vxb, .ref tp, .int (nI T), .int vfa, .int vbr, .int vba, .int vsp, .int vhe, .int vtk, .int vva, .ref cu, .ref lt, .ref od, .ref th, .ref be, .ref ln, .int (nI S), .ref ma, .int (nI M), .ref ah, .ref bh, .ref ik, .ref la, .ref lg, .ref ce, .int vto])), (st, .inl (G 0, 196, .inl ost))] t.heap ∧ va_D A [(h0, .inr (11, [.ref st, .int (nI N), .int (nI B), .ref rp, .int vrs, .int vrb, .int vhs, .int vca, .int vxs, .int vxb, .ref tp, .int (nI T), .int vfa, .int vbr, .int vba, .int vsp, .int vhe, .int vtk, .int vva, .ref cu, .ref lt, .ref od, .ref th, .ref be, .ref ln, .int (nI S), .ref ma, .int (nI M), .ref ah, .ref bh, .ref ik, .ref la, .ref lg, .ref ce, .int vto])), (st, .inl (G 0, 196, .inl ost))]) A) ([.ref h0, .int (nI fr), .int (nI tt)] : List Value).toArray s 0 0 A) (F0 m 2 ls []) := by
    intro nf
    induction nf with
    | zero => intro j1 h1 h2; exact absurd h1 (by omega)
    | succ nf ih2_3 =>
      intro j1 hn4 hj5 g2 H locs hinv hP hD hS ls hl
      refine lv_iload_n hx hb dX11_copies_2 rfl (lv_at hl 0 rfl) ?_
      refine lv_bipush (v := 49) hx hb dX11_copies_3 (by decide) ?_
      refine lv_icmp_ge (tgt := 30) hx hb dX11_copies_5 (by decide) (fun c6 => ?_) (fun c6 => ?_)
      · skip
        have n7 : 49 ≤ j1 := by have t := leI c6; rw [nI_toInt (n := j1) (by omega)] at t; have : (49 : Int32).toInt = 49 := (by decide); omega
        have hP9 := hP.sub (ws' := [(h0, .inr (11, [.ref st, .int (nI N), .int (nI B), .ref rp, .int vrs, .int vrb, .int vhs, .int vca, .int vxs, .int vxb, .ref tp, .int (nI T), .int vfa, .int vbr, .int vba, .int vsp, .int vhe, .int vtk, .int vva, .ref cu, .ref lt, .ref od, .ref th, .ref be, .ref ln, .int (nI S), .ref ma, .int (nI M), .ref ah, .ref bh, .ref ik, .ref la, .ref lg, .ref ce, .int vto])), (st, .inl (G 0, 196, .inl g2))]) [0, 1] rfl
        have hD9 := hD.sub (ws' := [(h0, .inr (11, [.ref st, .int (nI N), .int (nI B), .ref rp, .int vrs, .int vrb, .int vhs, .int vca, .int vxs, .int vxb, .ref tp, .int (nI T), .int vfa, .int vbr, .int vba, .int vsp, .int vhe, .int vtk, .int vva, .ref cu, .ref lt, .ref od, .ref th, .ref be, .ref ln, .int (nI S), .ref ma, .int (nI M), .ref ah, .ref bh, .ref ik, .ref la, .ref lg, .ref ce, .int vto])), (st, .inl (G 0, 196, .inl g2))]) [0, 1] (by decide) rfl
        refine W.widen (k := 0) (n := 0) (by omega) (by omega) ?_
        exact W.vret hx hb hr (fun t ht hW => ⟨⟨g2, rfl, hinv, ⟨by rw [ht]; exact hP9, hD9⟩⟩, hS.F ht⟩) hS.2.2 dX11_copies_30
      · skip
        have n8 : j1 < 49 := by have t := nleI c6; rw [nI_toInt (n := j1) (by omega)] at t; have : (49 : Int32).toInt = 49 := (by decide); omega
        refine lv_aload_n hx hb dX11_copies_8 rfl (lv_at hl 1 rfl) ?_
        refine va_get (D := (dC, dI)) (ci := 11) (v := .ref st) (C := RX11) (T := TX11) (N := 35) hx hb hg inG11 hown hK.1 hP 0 rfl rfl 0 (by decide) (hg _ wt_878) (fun _ h9 => h9) rfl dX11_copies_9 ?_
        refine lv_iload_n hx hb dX11_copies_12 rfl (lv_at hl 3 rfl) ?_
        refine lv_iload_n hx hb dX11_copies_13 rfl (lv_at hl 0 rfl) ?_
        refine lv_iadd hx hb dX11_copies_14 ?_
        refine lv_cg (y := nI (tt + j1)) (by exact nI_add _ _) ?_
        refine lv_aload_n hx hb dX11_copies_15 rfl (lv_at hl 1 rfl) ?_
        refine va_get (D := (dC, dI)) (ci := 11) (v := .ref st) (C := RX11) (T := TX11) (N := 35) hx hb hg inG11 hown hK.1 hP 0 rfl rfl 0 (by decide) (hg _ wt_878) (fun _ h9 => h9) rfl dX11_copies_16 ?_
        refine lv_iload_n hx hb dX11_copies_19 rfl (lv_at hl 2 rfl) ?_
        refine lv_iload_n hx hb dX11_copies_20 rfl (lv_at hl 0 rfl) ?_
        refine lv_iadd hx hb dX11_copies_21 ?_
        refine lv_cg (y := nI (fr + j1)) (by exact nI_add _ _) ?_
        refine va_iald hx hb hK.1 hP 1 0 rfl rfl (vp_in_nI (by have t_hj5 := hj5; have t_n8 := n8; have t_n0 : (nI fr).toInt = (fr : Int) := nI_toInt (by omega); have t_n1 : (nI tt).toInt = (tt : Int) := nI_toInt (by omega); have t_n2 : (nI N).toInt = (N : Int) := nI_toInt (by omega); have t_n3 : (nI B).toInt = (B : Int) := nI_toInt (by omega); have t_n4 : (nI T).toInt = (T : Int) := nI_toInt (by omega); have t_n5 : (nI S).toInt = (S : Int) := nI_toInt (by omega); have t_n6 : (nI M).toInt = (M : Int) := nI_toInt (by omega); have t_n7 : (nI j1).toInt = (j1 : Int) := nI_toInt (by omega); omega) (by decide)) dX11_copies_22 ?_
        refine lv_cg (y := g2 (fr + j1)) (by rw [nI_clamp (by omega)]) ?_
        refine va_iast hx hb hK.1 hP hD hS 1 0 rfl rfl (vp_in_nI (by have t_hj5 := hj5; have t_n8 := n8; have t_n0 : (nI fr).toInt = (fr : Int) := nI_toInt (by omega); have t_n1 : (nI tt).toInt = (tt : Int) := nI_toInt (by omega); have t_n2 : (nI N).toInt = (N : Int) := nI_toInt (by omega); have t_n3 : (nI B).toInt = (B : Int) := nI_toInt (by omega); have t_n4 : (nI T).toInt = (T : Int) := nI_toInt (by omega); have t_n5 : (nI S).toInt = (S : Int) := nI_toInt (by omega); have t_n6 : (nI M).toInt = (M : Int) := nI_toInt (by omega); have t_n7 : (nI j1).toInt = (j1 : Int) := nI_toInt (by omega); omega) (by decide)) dX11_copies_23 (fun H locs hP hD hS => ?_)
        rw [nI_clamp (by omega)] at hP hD
        have hP : va_P (dC, dI) vwCl [(h0, .inr (11, [.ref st, .int (nI N), .int (nI B), .ref rp, .int vrs, .int vrb, .int vhs, .int vca, .int vxs, .int vxb, .ref tp, .int (nI T), .int vfa, .int vbr, .int vba, .int vsp, .int vhe, .int vtk, .int vva, .ref cu, .ref lt, .ref od, .ref th, .ref be, .ref ln, .int (nI S), .ref ma, .int (nI M), .ref ah, .ref bh, .ref ik, .ref la, .ref lg, .ref ce, .int vto])), (st, .inl (G 0, 196, .inl (upd g2 (tt + j1) (g2 (fr + j1)))))] H := hP
        have hD : va_D A [(h0, .inr (11, [.ref st, .int (nI N), .int (nI B), .ref rp, .int vrs, .int vrb, .int vhs, .int vca, .int vxs, .int vxb, .ref tp, .int (nI T), .int vfa, .int vbr, .int vba, .int vsp, .int vhe, .int vtk, .int vva, .ref cu, .ref lt, .ref od, .ref th, .ref be, .ref ln, .int (nI S), .ref ma, .int (nI M), .ref ah, .ref bh, .ref ik, .ref la, .ref lg, .ref ce, .int vto])), (st, .inl (G 0, 196, .inl (upd g2 (tt + j1) (g2 (fr + j1)))))] := hD
        refine lv_iinc (v := nI (j1 + 1)) (lv' := [(3, .int (nI (j1 + 1))), (0, .ref h0), (1, .int (nI fr)), (2, .int (nI tt))]) hx hb dX11_copies_24 hl (k := 0) rfl (by rw [show Int32.ofInt 1 = nI 1 from by decide]; exact nI_add _ _) (by decide) rfl (fun ls hl => ?_)
        refine lv_goto (tgt := 2) hx hb dX11_copies_27 (by decide) ?_
        exact ih2_3 (j1 + 1) (by omega) (by omega) (upd g2 (tt + j1) (g2 (fr + j1))) _ _ (OKS.upd hinv (okS_cp hfr.1 htt.1 (hinv _ (by omega)))) hP hD hS ls (lv_sub hl [0, 1, 2, 3] rfl)
  exact loop2_3 (49 + 1) 0 (by omega) (by omega) fst _ _ hst hP hD hS ls (lv_sub hl [0, 1, 2, 3] rfl)

set_option maxHeartbeats 1000000 in
set_option maxRecDepth 100000 in
theorem c_X11_sheet (l : Launch) (dC : Nat → ClassId) (dI : Nat → Nat → Nat) (G : Nat → ClassId) (sz : Nat) (h0 st N B rp tp T cu lt od th be ln S ma M ah bh ik la lg ce : Nat) (k lane n vrs vrb vhs vca vxs vxb vfa vbr vba vsp vhe vtk vva vto : Int32) (fla : Nat → Int32) (flg : Nat → Int32) (fce : Nat → Int32) (hN : N ≤ 10) (hB : B ≤ 6) (hT : T ≤ 320) (hS0 : S ≤ 8) (hM : M ≤ 6) (hz : ∀ q : Nat, q < 4 → 0 ≤ (flg q).toInt ∧ (flg q).toInt ≤ 40) : Met l yX11_sheet (Cond.code yX11_sheet cX11_sheet 5 (some .int) :: GT) ({ frames := 1, cells := 0, slots := 0, locals := 25 } : Room) (PcW [.ref h0, .int k, .int lane, .int n] dC dI G [(h0, .inr (11, [.ref st, .int (nI N), .int (nI B), .ref rp, .int vrs, .int vrb, .int vhs, .int vca, .int vxs, .int vxb, .ref tp, .int (nI T), .int vfa, .int vbr, .int vba, .int vsp, .int vhe, .int vtk, .int vva, .ref cu, .ref lt, .ref od, .ref th, .ref be, .ref ln, .int (nI S), .ref ma, .int (nI M), .ref ah, .ref bh, .ref ik, .ref la, .ref lg, .ref ce, .int vto])), (la, .inl (G 0, 4, .inl fla)), (lg, .inl (G 0, 4, .inl flg)), (ce, .inl (G 0, 160, .inl fce))] sz) (va_Qi (fun (r : Int32) (u : (Nat → Int32) × (Nat → Int32) × (Nat → Int32)) => match u with | (ola, olg, oce) => (r = if (0 ≤ k.toInt ∧ k.toInt < 4) ∧ (0 ≤ lane.toInt ∧ lane.toInt ≤ 2) ∧ n.toInt ≤ 40 then (if n.toInt < 0 then -14 else 1) else -1) ∧ (ola = (if ((0 ≤ k.toInt ∧ k.toInt < 4) ∧ (0 ≤ lane.toInt ∧ lane.toInt ≤ 2) ∧ n.toInt ≤ 40 ∧ 0 ≤ n.toInt) then upd fla k.toNatClampNeg lane else fla) ∧ olg = (if ((0 ≤ k.toInt ∧ k.toInt < 4) ∧ (0 ≤ lane.toInt ∧ lane.toInt ≤ 2) ∧ n.toInt ≤ 40 ∧ 0 ≤ n.toInt) then upd flg k.toNatClampNeg n else flg)) ∧ ∀ q : Nat, q < 4 → 0 ≤ (olg q).toInt ∧ (olg q).toInt ≤ 40) (fun (u : (Nat → Int32) × (Nat → Int32) × (Nat → Int32)) (t : State) => match u with | (ola, olg, oce) => va_P (dC, dI) vwCl [(h0, .inr (11, [.ref st, .int (nI N), .int (nI B), .ref rp, .int vrs, .int vrb, .int vhs, .int vca, .int vxs, .int vxb, .ref tp, .int (nI T), .int vfa, .int vbr, .int vba, .int vsp, .int vhe, .int vtk, .int vva, .ref cu, .ref lt, .ref od, .ref th, .ref be, .ref ln, .int (nI S), .ref ma, .int (nI M), .ref ah, .ref bh, .ref ik, .ref la, .ref lg, .ref ce, .int vto])), (la, .inl (G 0, 4, .inl ola)), (lg, .inl (G 0, 4, .inl olg)), (ce, .inl (G 0, 160, .inl oce))] t.heap ∧ va_D (va_A [(h0, .inr (11, [.ref st, .int (nI N), .int (nI B), .ref rp, .int vrs, .int vrb, .int vhs, .int vca, .int vxs, .int vxb, .ref tp, .int (nI T), .int vfa, .int vbr, .int vba, .int vsp, .int vhe, .int vtk, .int vva, .ref cu, .ref lt, .ref od, .ref th, .ref be, .ref ln, .int (nI S), .ref ma, .int (nI M), .ref ah, .ref bh, .ref ik, .ref la, .ref lg, .ref ce, .int vto])), (la, .inl (G 0, 4, .inl fla)), (lg, .inl (G 0, 4, .inl flg)), (ce, .inl (G 0, 160, .inl fce))] sz) [(h0, .inr (11, [.ref st, .int (nI N), .int (nI B), .ref rp, .int vrs, .int vrb, .int vhs, .int vca, .int vxs, .int vxb, .ref tp, .int (nI T), .int vfa, .int vbr, .int vba, .int vsp, .int vhe, .int vtk, .int vva, .ref cu, .ref lt, .ref od, .ref th, .ref be, .ref ln, .int (nI S), .ref ma, .int (nI M), .ref ah, .ref bh, .ref ik, .ref la, .ref lg, .ref ce, .int vto])), (la, .inl (G 0, 4, .inl ola)), (lg, .inl (G 0, 4, .inl olg)), (ce, .inl (G 0, 160, .inl oce))]) (va_A [(h0, .inr (11, [.ref st, .int (nI N), .int (nI B), .ref rp, .int vrs, .int vrb, .int vhs, .int vca, .int vxs, .int vxb, .ref tp, .int (nI T), .int vfa, .int vbr, .int vba, .int vsp, .int vhe, .int vtk, .int vva, .ref cu, .ref lt, .ref od, .ref th, .ref be, .ref ln, .int (nI S), .ref ma, .int (nI M), .ref ah, .ref bh, .ref ik, .ref la, .ref lg, .ref ce, .int vto])), (la, .inl (G 0, 4, .inl fla)), (lg, .inl (G 0, 4, .inl flg)), (ce, .inl (G 0, 160, .inl fce))] sz)) 0 0 (va_A [(h0, .inr (11, [.ref st, .int (nI N), .int (nI B), .ref rp, .int vrs, .int vrb, .int vhs, .int vca, .int vxs, .int vxb, .ref tp, .int (nI T), .int vfa, .int vbr, .int vba, .int vsp, .int vhe, .int vtk, .int vva, .ref cu, .ref lt, .ref od, .ref th, .ref be, .ref ln, .int (nI S), .ref ma, .int (nI M), .ref ah, .ref bh, .ref ik, .ref la, .ref lg, .ref ce, .int vto])), (la, .inl (G 0, 4, .inl fla)), (lg, .inl (G 0, 4, .inl flg)), (ce, .inl (G 0, 160, .inl fce))] sz) := by
  refine Met.ofW (cc := cX11_sheet) (maxL := 5) (ret := (some .int)) (by decide) rfl ?_
  intro p e s m args below meth c s₁ Bd hml hv
  obtain ⟨rfl, hsz, hP, hK, hD0⟩ := hv
  have hx := Bd.exec
  have hb := Bd.bytes
  have hr := Bd.returns
  have hg : ∀ w ∈ GT, w.before ([.ref h0, .int k, .int lane, .int n] : List Value).toArray s = true := fun w h => atoms_spec (ws := Cond.code yX11_sheet cX11_sheet 5 (some .int) :: GT) Bd.pre w (List.mem_cons_of_mem _ h)
  have hown : s.vm.findClass RX11 = some m.cls := findClass_of_methodNamed Bd.named
  have hlocks := Bd.notSynchronized
  subst hsz
  have hD := hD0.self (sz := s.heap.size)
  generalize hAe : va_A [(h0, .inr (11, [.ref st, .int (nI N), .int (nI B), .ref rp, .int vrs, .int vrb, .int vhs, .int vca, .int vxs, .int vxb, .ref tp, .int (nI T), .int vfa, .int vbr, .int vba, .int vsp, .int vhe, .int vtk, .int vva, .ref cu, .ref lt, .ref od, .ref th, .ref be, .ref ln, .int (nI S), .ref ma, .int (nI M), .ref ah, .ref bh, .ref ik, .ref la, .ref lg, .ref ce, .int vto])), (la, .inl (G 0, 4, .inl fla)), (lg, .inl (G 0, 4, .inl flg)), (ce, .inl (G 0, 160, .inl fce))] s.heap.size = A at hD ⊢
  have hA : ∀ q : Nat, s.heap.size ≤ q → A q := fun q h => by rw [← hAe]; exact Or.inr h
  have hS : va_S A s.heap s.heap [] := va_S.rf
  have hl := lv_entry ([.ref h0, .int k, .int lane, .int n]) (n := 5) (Nat.le_of_ble_eq_true rfl)
  rw [lg_entry_eq]
  generalize (lg_sl ([.ref h0, .int k, .int lane, .int n]) ++ List.replicate (5 - (lg_sl ([.ref h0, .int k, .int lane, .int n])).length) Slot.unset).toArray = ls at hl ⊢
  have hl : lv_has ls 5 [(0, .ref h0), (1, .int k), (2, .int lane), (3, .int n)] := hl
  refine lv_iload_n hx hb dX11_sheet_0 rfl (lv_at hl 1 rfl) ?_
  refine lv_i2l (v := k.toInt64) hx hb dX11_sheet_1 rfl ?_
  refine lv_lconst (v := 0) hx hb dX11_sheet_2 (by decide) ?_
  refine lv_ldc2 (v := 3) hx hb hown (hg _ wt_1023) dX11_sheet_3 ?_
  have hPc := hP.sub (ws' := []) [] rfl
  refine va_calli (va_runS (As := [.long k.toInt64, .long 0, .long 3]) (rest := []) ⟨hx, hb, hml, hown, hg⟩ (c_X11_in l dC dI G _ k.toInt64 0 3 ) (kwS hg mfX11_in wt_992 ⟨Nat.le_of_ble_eq_true rfl, Nat.le_of_ble_eq_true rfl⟩) (preSR hK hPc) rfl rfl hl.1 rfl (lv_room (Nat.le_of_ble_eq_true rfl)) dX11_sheet_6 ⟨Nat.le_of_ble_eq_true rfl, Nat.le_of_ble_eq_true rfl⟩) hS (fun q h1 h2 => absurd h2 (Nat.not_le.mpr h1)) (fun q h => hA q (Nat.le_trans hS.1 h)) (fun r1 ur1 t H1 locs ht hvm w2 hB hz1 hk1 hS => ?_)
  have hP := keepR hP hk1
  obtain ⟨w2, w2x⟩ := w2
  try simp only [l_ii, show (0 : Int64).toInt = 0 from by decide, show (3 : Int64).toInt = 3 from by decide] at w2
  subst w2
  refine lv_if_eq (tgt := 30) hx hb dX11_sheet_9 (by decide) (fun c3 => ?_) (fun c3 => ?_)
  · skip
    have b4 := if10_n c3
    refine lv_iconst (v := (-1)) hx hb dX11_sheet_30 (by decide) ?_
    have hpost : ((-1) : Int32) = if (0 ≤ k.toInt ∧ k.toInt < 4) ∧ (0 ≤ lane.toInt ∧ lane.toInt ≤ 2) ∧ n.toInt ≤ 40 then (if n.toInt < 0 then -14 else 1) else -1 := by
      have t_b4 := b4
      have t_n0 : (nI N).toInt = (N : Int) := nI_toInt (by omega)
      have t_n1 : (nI B).toInt = (B : Int) := nI_toInt (by omega)
      have t_n2 : (nI T).toInt = (T : Int) := nI_toInt (by omega)
      have t_n3 : (nI S).toInt = (S : Int) := nI_toInt (by omega)
      have t_n4 : (nI M).toInt = (M : Int) := nI_toInt (by omega)
      have t_n0 : (nI N).toInt = (N : Int) := nI_toInt (by omega)
      have t_n1 : (nI B).toInt = (B : Int) := nI_toInt (by omega)
      have t_n2 : (nI T).toInt = (T : Int) := nI_toInt (by omega)
      have t_n3 : (nI S).toInt = (S : Int) := nI_toInt (by omega)
      have t_n4 : (nI M).toInt = (M : Int) := nI_toInt (by omega)
      first | rfl | ((repeat' split) <;> first | rfl | omega)
    have hP9 := hP.sub (ws' := [(h0, .inr (11, [.ref st, .int (nI N), .int (nI B), .ref rp, .int vrs, .int vrb, .int vhs, .int vca, .int vxs, .int vxb, .ref tp, .int (nI T), .int vfa, .int vbr, .int vba, .int vsp, .int vhe, .int vtk, .int vva, .ref cu, .ref lt, .ref od, .ref th, .ref be, .ref ln, .int (nI S), .ref ma, .int (nI M), .ref ah, .ref bh, .ref ik, .ref la, .ref lg, .ref ce, .int vto])), (la, .inl (G 0, 4, .inl fla)), (lg, .inl (G 0, 4, .inl flg)), (ce, .inl (G 0, 160, .inl fce))]) [0, 1, 2, 3] rfl
    have hD9 := hD.sub (ws' := [(h0, .inr (11, [.ref st, .int (nI N), .int (nI B), .ref rp, .int vrs, .int vrb, .int vhs, .int vca, .int vxs, .int vxb, .ref tp, .int (nI T), .int vfa, .int vbr, .int vba, .int vsp, .int vhe, .int vtk, .int vva, .ref cu, .ref lt, .ref od, .ref th, .ref be, .ref ln, .int (nI S), .ref ma, .int (nI M), .ref ah, .ref bh, .ref ik, .ref la, .ref lg, .ref ce, .int vto])), (la, .inl (G 0, 4, .inl fla)), (lg, .inl (G 0, 4, .inl flg)), (ce, .inl (G 0, 160, .inl fce))]) [0, 1, 2, 3] (by decide) rfl
    refine W.widen (k := 0) (n := 0) (by omega) (by omega) ?_
    exact W.iret (v := (-1)) hx hb hr (fun t ht hW => ⟨⟨(-1), (fla, flg, fce), rfl, ⟨hpost, (by have t_b4 := b4; have t_n0 : (nI N).toInt = (N : Int) := nI_toInt (by omega); have t_n1 : (nI B).toInt = (B : Int) := nI_toInt (by omega); have t_n2 : (nI T).toInt = (T : Int) := nI_toInt (by omega); have t_n3 : (nI S).toInt = (S : Int) := nI_toInt (by omega); have t_n4 : (nI M).toInt = (M : Int) := nI_toInt (by omega); refine ⟨⟨?_, ?_⟩, hz⟩ <;> rw [if_neg (by omega)])⟩, ⟨by rw [ht]; exact hP9, hD9⟩⟩, hS.F ht⟩) hS.2.2 dX11_sheet_31
  · skip
    have b5 := if10_p c3
    refine lv_iload_n hx hb dX11_sheet_12 rfl (lv_at hl 2 rfl) ?_
    refine lv_i2l (v := lane.toInt64) hx hb dX11_sheet_13 rfl ?_
    refine lv_lconst (v := 0) hx hb dX11_sheet_14 (by decide) ?_
    refine lv_ldc2 (v := 2) hx hb hown (hg _ wt_1056) dX11_sheet_15 ?_
    have hPc := hP.sub (ws' := []) [] rfl
    refine va_calli (va_runS (As := [.long lane.toInt64, .long 0, .long 2]) (rest := []) ⟨hx, hb, hml, hown, hg⟩ (c_X11_in l dC dI G _ lane.toInt64 0 2 ) (kwS hg mfX11_in wt_992 ⟨Nat.le_of_ble_eq_true rfl, Nat.le_of_ble_eq_true rfl⟩) (preSR hK hPc) rfl rfl hl.1 rfl (lv_room (Nat.le_of_ble_eq_true rfl)) dX11_sheet_18 ⟨Nat.le_of_ble_eq_true rfl, Nat.le_of_ble_eq_true rfl⟩) hS (fun q h1 h2 => absurd h2 (Nat.not_le.mpr h1)) (fun q h => hA q (Nat.le_trans hS.1 h)) (fun r6 ur6 t H1 locs ht hvm w7 hB hz1 hk1 hS => ?_)
    have hP := keepR hP hk1
    obtain ⟨w7, w7x⟩ := w7
    try simp only [l_ii, show (0 : Int64).toInt = 0 from by decide, show (2 : Int64).toInt = 2 from by decide] at w7
    subst w7
    refine lv_if_eq (tgt := 30) hx hb dX11_sheet_21 (by decide) (fun c8 => ?_) (fun c8 => ?_)
    · skip
      have b9 := if10_n c8
      refine lv_iconst (v := (-1)) hx hb dX11_sheet_30 (by decide) ?_
      have hpost : ((-1) : Int32) = if (0 ≤ k.toInt ∧ k.toInt < 4) ∧ (0 ≤ lane.toInt ∧ lane.toInt ≤ 2) ∧ n.toInt ≤ 40 then (if n.toInt < 0 then -14 else 1) else -1 := by
        have t_b5 := b5
        have t_b9 := b9
        have t_n0 : (nI N).toInt = (N : Int) := nI_toInt (by omega)
        have t_n1 : (nI B).toInt = (B : Int) := nI_toInt (by omega)
        have t_n2 : (nI T).toInt = (T : Int) := nI_toInt (by omega)
        have t_n3 : (nI S).toInt = (S : Int) := nI_toInt (by omega)
        have t_n4 : (nI M).toInt = (M : Int) := nI_toInt (by omega)
        have t_n0 : (nI N).toInt = (N : Int) := nI_toInt (by omega)
        have t_n1 : (nI B).toInt = (B : Int) := nI_toInt (by omega)
        have t_n2 : (nI T).toInt = (T : Int) := nI_toInt (by omega)
        have t_n3 : (nI S).toInt = (S : Int) := nI_toInt (by omega)
        have t_n4 : (nI M).toInt = (M : Int) := nI_toInt (by omega)
        first | rfl | ((repeat' split) <;> first | rfl | omega)
      have hP9 := hP.sub (ws' := [(h0, .inr (11, [.ref st, .int (nI N), .int (nI B), .ref rp, .int vrs, .int vrb, .int vhs, .int vca, .int vxs, .int vxb, .ref tp, .int (nI T), .int vfa, .int vbr, .int vba, .int vsp, .int vhe, .int vtk, .int vva, .ref cu, .ref lt, .ref od, .ref th, .ref be, .ref ln, .int (nI S), .ref ma, .int (nI M), .ref ah, .ref bh, .ref ik, .ref la, .ref lg, .ref ce, .int vto])), (la, .inl (G 0, 4, .inl fla)), (lg, .inl (G 0, 4, .inl flg)), (ce, .inl (G 0, 160, .inl fce))]) [0, 1, 2, 3] rfl
      have hD9 := hD.sub (ws' := [(h0, .inr (11, [.ref st, .int (nI N), .int (nI B), .ref rp, .int vrs, .int vrb, .int vhs, .int vca, .int vxs, .int vxb, .ref tp, .int (nI T), .int vfa, .int vbr, .int vba, .int vsp, .int vhe, .int vtk, .int vva, .ref cu, .ref lt, .ref od, .ref th, .ref be, .ref ln, .int (nI S), .ref ma, .int (nI M), .ref ah, .ref bh, .ref ik, .ref la, .ref lg, .ref ce, .int vto])), (la, .inl (G 0, 4, .inl fla)), (lg, .inl (G 0, 4, .inl flg)), (ce, .inl (G 0, 160, .inl fce))]) [0, 1, 2, 3] (by decide) rfl
      refine W.widen (k := 0) (n := 0) (by omega) (by omega) ?_
      exact W.iret (v := (-1)) hx hb hr (fun t ht hW => ⟨⟨(-1), (fla, flg, fce), rfl, ⟨hpost, (by have t_b5 := b5; have t_b9 := b9; have t_n0 : (nI N).toInt = (N : Int) := nI_toInt (by omega); have t_n1 : (nI B).toInt = (B : Int) := nI_toInt (by omega); have t_n2 : (nI T).toInt = (T : Int) := nI_toInt (by omega); have t_n3 : (nI S).toInt = (S : Int) := nI_toInt (by omega); have t_n4 : (nI M).toInt = (M : Int) := nI_toInt (by omega); refine ⟨⟨?_, ?_⟩, hz⟩ <;> rw [if_neg (by omega)])⟩, ⟨by rw [ht]; exact hP9, hD9⟩⟩, hS.F ht⟩) hS.2.2 dX11_sheet_31
    · skip
      have b10 := if10_p c8
      refine lv_iload_n hx hb dX11_sheet_24 rfl (lv_at hl 3 rfl) ?_
      refine lv_bipush (v := 40) hx hb dX11_sheet_25 (by decide) ?_
      refine lv_icmp_le (tgt := 32) hx hb dX11_sheet_27 (by decide) (fun c11 => ?_) (fun c11 => ?_)
      · skip
        refine lv_iload_n hx hb dX11_sheet_32 rfl (lv_at hl 3 rfl) ?_
        refine lv_if_ge (tgt := 39) hx hb dX11_sheet_33 (by decide) (fun c12 => ?_) (fun c12 => ?_)
        · skip
          obtain ⟨kk, hkk, rfl⟩ : ∃ j : Nat, j < 4 ∧ k = nI j := by
            have t_b5 := b5
            have t_b10 := b10
            have t_c11 := leI c11
            have t_c12 := leI c12
            have : (0 : Int32).toInt = 0 := (by decide)
            have : (40 : Int32).toInt = 40 := (by decide)
            have t_n0 : (nI N).toInt = (N : Int) := nI_toInt (by omega)
            have t_n1 : (nI B).toInt = (B : Int) := nI_toInt (by omega)
            have t_n2 : (nI T).toInt = (T : Int) := nI_toInt (by omega)
            have t_n3 : (nI S).toInt = (S : Int) := nI_toInt (by omega)
            have t_n4 : (nI M).toInt = (M : Int) := nI_toInt (by omega)
            exact i32_nat (by omega) (by omega)
          obtain ⟨nn, hnn, rfl⟩ : ∃ j : Nat, j < 41 ∧ n = nI j := by
            have t_b5 := b5
            have t_b10 := b10
            have t_c11 := leI c11
            have t_c12 := leI c12
            have t_hkk := hkk
            have : (0 : Int32).toInt = 0 := (by decide)
            have : (40 : Int32).toInt = 40 := (by decide)
            have t_n0 : (nI N).toInt = (N : Int) := nI_toInt (by omega)
            have t_n1 : (nI B).toInt = (B : Int) := nI_toInt (by omega)
            have t_n2 : (nI T).toInt = (T : Int) := nI_toInt (by omega)
            have t_n3 : (nI S).toInt = (S : Int) := nI_toInt (by omega)
            have t_n4 : (nI M).toInt = (M : Int) := nI_toInt (by omega)
            have t_n5 : (nI kk).toInt = (kk : Int) := nI_toInt (by omega)
            exact i32_nat (by omega) (by omega)
          refine lv_aload_n hx hb dX11_sheet_39 rfl (lv_at hl 0 rfl) ?_
          refine va_get (D := (dC, dI)) (ci := 11) (v := .ref la) (C := RX11) (T := TX11) (N := 35) hx hb hg inG11 hown hK.1 hP 0 rfl rfl 31 (by decide) (hg _ wt_909) (fun _ h9 => h9) rfl dX11_sheet_40 ?_
          refine lv_iload_n hx hb dX11_sheet_43 rfl (lv_at hl 1 rfl) ?_
          refine lv_iload_n hx hb dX11_sheet_44 rfl (lv_at hl 2 rfl) ?_
          refine va_iast hx hb hK.1 hP hD hS 1 0 rfl rfl (vp_in_nI (by have t_b5 := b5; have t_b10 := b10; have t_c11 := leI c11; have t_c12 := leI c12; have t_hkk := hkk; have t_hnn := hnn; have : (0 : Int32).toInt = 0 := (by decide); have : (40 : Int32).toInt = 40 := (by decide); have t_n0 : (nI N).toInt = (N : Int) := nI_toInt (by omega); have t_n1 : (nI B).toInt = (B : Int) := nI_toInt (by omega); have t_n2 : (nI T).toInt = (T : Int) := nI_toInt (by omega); have t_n3 : (nI S).toInt = (S : Int) := nI_toInt (by omega); have t_n4 : (nI M).toInt = (M : Int) := nI_toInt (by omega); have t_n5 : (nI kk).toInt = (kk : Int) := nI_toInt (by omega); have t_n6 : (nI nn).toInt = (nn : Int) := nI_toInt (by omega); omega) (by decide)) dX11_sheet_45 (fun H locs hP hD hS => ?_)
          rw [nI_clamp (by omega)] at hP hD
          have hP : va_P (dC, dI) vwCl [(h0, .inr (11, [.ref st, .int (nI N), .int (nI B), .ref rp, .int vrs, .int vrb, .int vhs, .int vca, .int vxs, .int vxb, .ref tp, .int (nI T), .int vfa, .int vbr, .int vba, .int vsp, .int vhe, .int vtk, .int vva, .ref cu, .ref lt, .ref od, .ref th, .ref be, .ref ln, .int (nI S), .ref ma, .int (nI M), .ref ah, .ref bh, .ref ik, .ref la, .ref lg, .ref ce, .int vto])), (la, .inl (G 0, 4, .inl (upd fla kk lane))), (lg, .inl (G 0, 4, .inl flg)), (ce, .inl (G 0, 160, .inl fce))] H := hP
          have hD : va_D A [(h0, .inr (11, [.ref st, .int (nI N), .int (nI B), .ref rp, .int vrs, .int vrb, .int vhs, .int vca, .int vxs, .int vxb, .ref tp, .int (nI T), .int vfa, .int vbr, .int vba, .int vsp, .int vhe, .int vtk, .int vva, .ref cu, .ref lt, .ref od, .ref th, .ref be, .ref ln, .int (nI S), .ref ma, .int (nI M), .ref ah, .ref bh, .ref ik, .ref la, .ref lg, .ref ce, .int vto])), (la, .inl (G 0, 4, .inl (upd fla kk lane))), (lg, .inl (G 0, 4, .inl flg)), (ce, .inl (G 0, 160, .inl fce))] := hD
          refine lv_aload_n hx hb dX11_sheet_46 rfl (lv_at hl 0 rfl) ?_
          refine va_get (D := (dC, dI)) (ci := 11) (v := .ref lg) (C := RX11) (T := TX11) (N := 35) hx hb hg inG11 hown hK.1 hP 0 rfl rfl 32 (by decide) (hg _ wt_910) (fun _ h9 => h9) rfl dX11_sheet_47 ?_
          refine lv_iload_n hx hb dX11_sheet_50 rfl (lv_at hl 1 rfl) ?_
          refine lv_iload_n hx hb dX11_sheet_51 rfl (lv_at hl 3 rfl) ?_
          refine va_iast hx hb hK.1 hP hD hS 2 0 rfl rfl (vp_in_nI (by have t_b5 := b5; have t_b10 := b10; have t_c11 := leI c11; have t_c12 := leI c12; have t_hkk := hkk; have t_hnn := hnn; have : (0 : Int32).toInt = 0 := (by decide); have : (40 : Int32).toInt = 40 := (by decide); have t_n0 : (nI N).toInt = (N : Int) := nI_toInt (by omega); have t_n1 : (nI B).toInt = (B : Int) := nI_toInt (by omega); have t_n2 : (nI T).toInt = (T : Int) := nI_toInt (by omega); have t_n3 : (nI S).toInt = (S : Int) := nI_toInt (by omega); have t_n4 : (nI M).toInt = (M : Int) := nI_toInt (by omega); have t_n5 : (nI kk).toInt = (kk : Int) := nI_toInt (by omega); have t_n6 : (nI nn).toInt = (nn : Int) := nI_toInt (by omega); omega) (by decide)) dX11_sheet_52 (fun H locs hP hD hS => ?_)
          rw [nI_clamp (by omega)] at hP hD
          have hP : va_P (dC, dI) vwCl [(h0, .inr (11, [.ref st, .int (nI N), .int (nI B), .ref rp, .int vrs, .int vrb, .int vhs, .int vca, .int vxs, .int vxb, .ref tp, .int (nI T), .int vfa, .int vbr, .int vba, .int vsp, .int vhe, .int vtk, .int vva, .ref cu, .ref lt, .ref od, .ref th, .ref be, .ref ln, .int (nI S), .ref ma, .int (nI M), .ref ah, .ref bh, .ref ik, .ref la, .ref lg, .ref ce, .int vto])), (la, .inl (G 0, 4, .inl (upd fla kk lane))), (lg, .inl (G 0, 4, .inl (upd flg kk (nI nn)))), (ce, .inl (G 0, 160, .inl fce))] H := hP
          have hD : va_D A [(h0, .inr (11, [.ref st, .int (nI N), .int (nI B), .ref rp, .int vrs, .int vrb, .int vhs, .int vca, .int vxs, .int vxb, .ref tp, .int (nI T), .int vfa, .int vbr, .int vba, .int vsp, .int vhe, .int vtk, .int vva, .ref cu, .ref lt, .ref od, .ref th, .ref be, .ref ln, .int (nI S), .ref ma, .int (nI M), .ref ah, .ref bh, .ref ik, .ref la, .ref lg, .ref ce, .int vto])), (la, .inl (G 0, 4, .inl (upd fla kk lane))), (lg, .inl (G 0, 4, .inl (upd flg kk (nI nn)))), (ce, .inl (G 0, 160, .inl fce))] := hD
          refine lv_iconst (v := 0) hx hb dX11_sheet_53 (by decide) ?_
          refine lv_istore (lv' := [(4, .int 0), (0, .ref h0), (1, .int (nI kk)), (2, .int lane), (3, .int (nI nn))]) hx hb dX11_sheet_54 hl (by decide) rfl (fun ls hl => ?_)
          have loop56_15 : ∀ (nf j13 : Nat), 40 + 1 ≤ j13 + nf → j13 ≤ 40 → ∀ (g14 : Nat → Int32) (H : Heap) (locs : List Loc), va_P (dC, dI) vwCl [(h0, .inr (11, [.ref st, .int (nI N), .int (nI B), .ref rp, .int vrs, .int vrb, .int vhs, .int vca, .int vxs, .int vxb, .ref tp, .int (nI T), .int vfa, .int vbr, .int vba, .int vsp, .int vhe, .int vtk, .int vva, .ref cu, .ref lt, .ref od, .ref th, .ref be, .ref ln, .int (nI S), .ref ma, .int (nI M), .ref ah, .ref bh, .ref ik, .ref la, .ref lg, .ref ce, .int vto])), (la, .inl (G 0, 4, .inl (upd fla kk lane))), (lg, .inl (G 0, 4, .inl (upd flg kk (nI nn)))), (ce, .inl (G 0, 160, .inl g14))] H → va_D A [(h0, .inr (11, [.ref st, .int (nI N), .int (nI B), .ref rp, .int vrs, .int vrb, .int vhs, .int vca, .int vxs, .int vxb, .ref tp, .int (nI T), .int vfa, .int vbr, .int vba, .int vsp, .int vhe, .int vtk, .int vva, .ref cu, .ref lt, .ref od, .ref th, .ref be, .ref ln, .int (nI S), .ref ma, .int (nI M), .ref ah, .ref bh, .ref ik, .ref la, .ref lg, .ref ce, .int vto])), (la, .inl (G 0, 4, .inl (upd fla kk lane))), (lg, .inl (G 0, 4, .inl (upd flg kk (nI nn)))), (ce, .inl (G 0, 160, .inl g14))] → va_S A s.heap H locs → ∀ (ls : Array Slot), lv_has ls 5 [(4, .int (nI j13)), (0, .ref h0), (1, .int (nI kk)), (2, .int lane), (3, .int (nI nn))] → W p l e (headSpec (Cond.code yX11_sheet cX11_sheet 5 (some .int) :: GT) ({ frames := 1, cells := 0, slots := 0, locals := 25 } : Room)).room s m ([.ref h0, .int (nI kk), .int lane, .int (nI nn)] : List Value).toArray below meth c H locs 0 0 (MQ below (va_Qi (fun (r : Int32) (u : (Nat → Int32) × (Nat → Int32) × (Nat → Int32)) => match u with | (ola, olg, oce) => (r = if (0 ≤ (nI kk).toInt ∧ (nI kk).toInt < 4) ∧ (0 ≤ lane.toInt ∧ lane.toInt ≤ 2) ∧ (nI nn).toInt ≤ 40 then (if (nI nn).toInt < 0 then -14 else 1) else -1) ∧ (ola = (if ((0 ≤ (nI kk).toInt ∧ (nI kk).toInt < 4) ∧ (0 ≤ lane.toInt ∧ lane.toInt ≤ 2) ∧ (nI nn).toInt ≤ 40 ∧ 0 ≤ (nI nn).toInt) then upd fla (nI kk).toNatClampNeg lane else fla) ∧ olg = (if ((0 ≤ (nI kk).toInt ∧ (nI kk).toInt < 4) ∧ (0 ≤ lane.toInt ∧ lane.toInt ≤ 2) ∧ (nI nn).toInt ≤ 40 ∧ 0 ≤ (nI nn).toInt) then upd flg (nI kk).toNatClampNeg (nI nn) else flg)) ∧ ∀ q : Nat, q < 4 → 0 ≤ (olg q).toInt ∧ (olg q).toInt ≤ 40) (fun (u : (Nat → Int32) × (Nat → Int32) × (Nat → Int32)) (t : State) => match u with | (ola, olg, oce) => va_P (dC, dI) vwCl [(h0, .inr (11, [.ref st, .int (nI N), .int (nI B), .ref rp, .int vrs, .int vrb, .int vhs, .int vca, .int vxs, .int vxb, .ref tp, .int (nI T), .int vfa, .int vbr, .int vba, .int vsp, .int vhe, .int vtk, .int vva, .ref cu, .ref lt, .ref od, .ref th, .ref be, .ref ln, .int (nI S), .ref ma, .int (nI M), .ref ah, .ref bh, .ref ik, .ref la, .ref lg, .ref ce, .int vto])), (la, .inl (G 0, 4, .inl ola)), (lg, .inl (G 0, 4, .inl olg)), (ce, .inl (G 0, 160, .inl oce))] t.heap ∧ va_D A [(h0, .inr (11, [.ref st, .int (nI N), .int (nI B), .ref rp, .int vrs, .int vrb, .int vhs, .int vca, .int vxs, .int vxb, .ref tp, .int (nI T), .int vfa, .int vbr, .int vba, .int vsp, .int vhe, .int vtk, .int vva, .ref cu, .ref lt, .ref od, .ref th, .ref be, .ref ln, .int (nI S), .ref ma, .int (nI M), .ref ah, .ref bh, .ref ik, .ref la, .ref lg, .ref ce, .int vto])), (la, .inl (G 0, 4, .inl ola)), (lg, .inl (G 0, 4, .inl olg)), (ce, .inl (G 0, 160, .inl oce))]) A) ([.ref h0, .int (nI kk), .int lane, .int (nI nn)] : List Value).toArray s 0 0 A) (F0 m 56 ls []) := by
            intro nf
            induction nf with
            | zero => intro j13 h1 h2; exact absurd h1 (by omega)
            | succ nf ih56_15 =>
              intro j13 hn16 hj17 g14 H locs hP hD hS ls hl
              refine lv_iload hx hb dX11_sheet_56 (lv_at hl 0 rfl) ?_
              refine lv_bipush (v := 40) hx hb dX11_sheet_58 (by decide) ?_
              refine lv_icmp_ge (tgt := 82) hx hb dX11_sheet_60 (by decide) (fun c18 => ?_) (fun c18 => ?_)
              · skip
                have n19 : 40 ≤ j13 := by have t := leI c18; rw [nI_toInt (n := j13) (by omega)] at t; have : (40 : Int32).toInt = 40 := (by decide); omega
                refine lv_iconst (v := 1) hx hb dX11_sheet_82 (by decide) ?_
                have hpost : (1 : Int32) = if (0 ≤ (nI kk).toInt ∧ (nI kk).toInt < 4) ∧ (0 ≤ lane.toInt ∧ lane.toInt ≤ 2) ∧ (nI nn).toInt ≤ 40 then (if (nI nn).toInt < 0 then -14 else 1) else -1 := by
                  have t_b5 := b5
                  have t_b10 := b10
                  have t_c11 := leI c11
                  have t_c12 := leI c12
                  have t_hkk := hkk
                  have t_hnn := hnn
                  have t_hj17 := hj17
                  have t_n19 := n19
                  have : (0 : Int32).toInt = 0 := (by decide)
                  have : (40 : Int32).toInt = 40 := (by decide)
                  have t_n0 : (nI N).toInt = (N : Int) := nI_toInt (by omega)
                  have t_n1 : (nI B).toInt = (B : Int) := nI_toInt (by omega)
                  have t_n2 : (nI T).toInt = (T : Int) := nI_toInt (by omega)
                  have t_n3 : (nI S).toInt = (S : Int) := nI_toInt (by omega)
                  have t_n4 : (nI M).toInt = (M : Int) := nI_toInt (by omega)
                  have t_n5 : (nI kk).toInt = (kk : Int) := nI_toInt (by omega)
                  have t_n6 : (nI nn).toInt = (nn : Int) := nI_toInt (by omega)
                  have t_n7 : (nI j13).toInt = (j13 : Int) := nI_toInt (by omega)
                  have t_n0 : (nI N).toInt = (N : Int) := nI_toInt (by omega)
                  have t_n1 : (nI B).toInt = (B : Int) := nI_toInt (by omega)
                  have t_n2 : (nI T).toInt = (T : Int) := nI_toInt (by omega)
                  have t_n3 : (nI S).toInt = (S : Int) := nI_toInt (by omega)
                  have t_n4 : (nI M).toInt = (M : Int) := nI_toInt (by omega)
                  have t_n5 : (nI kk).toInt = (kk : Int) := nI_toInt (by omega)
                  have t_n6 : (nI nn).toInt = (nn : Int) := nI_toInt (by omega)
                  have t_n7 : (nI j13).toInt = (j13 : Int) := nI_toInt (by omega)
                  first | rfl | ((repeat' split) <;> first | rfl | omega)
                have hP9 := hP.sub (ws' := [(h0, .inr (11, [.ref st, .int (nI N), .int (nI B), .ref rp, .int vrs, .int vrb, .int vhs, .int vca, .int vxs, .int vxb, .ref tp, .int (nI T), .int vfa, .int vbr, .int vba, .int vsp, .int vhe, .int vtk, .int vva, .ref cu, .ref lt, .ref od, .ref th, .ref be, .ref ln, .int (nI S), .ref ma, .int (nI M), .ref ah, .ref bh, .ref ik, .ref la, .ref lg, .ref ce, .int vto])), (la, .inl (G 0, 4, .inl (upd fla kk lane))), (lg, .inl (G 0, 4, .inl (upd flg kk (nI nn)))), (ce, .inl (G 0, 160, .inl g14))]) [0, 1, 2, 3] rfl
                have hD9 := hD.sub (ws' := [(h0, .inr (11, [.ref st, .int (nI N), .int (nI B), .ref rp, .int vrs, .int vrb, .int vhs, .int vca, .int vxs, .int vxb, .ref tp, .int (nI T), .int vfa, .int vbr, .int vba, .int vsp, .int vhe, .int vtk, .int vva, .ref cu, .ref lt, .ref od, .ref th, .ref be, .ref ln, .int (nI S), .ref ma, .int (nI M), .ref ah, .ref bh, .ref ik, .ref la, .ref lg, .ref ce, .int vto])), (la, .inl (G 0, 4, .inl (upd fla kk lane))), (lg, .inl (G 0, 4, .inl (upd flg kk (nI nn)))), (ce, .inl (G 0, 160, .inl g14))]) [0, 1, 2, 3] (by decide) rfl
                refine W.widen (k := 0) (n := 0) (by omega) (by omega) ?_
                exact W.iret (v := 1) hx hb hr (fun t ht hW => ⟨⟨1, ((upd fla kk lane), (upd flg kk (nI nn)), g14), rfl, ⟨hpost, (by have t_b5 := b5; have t_b10 := b10; have t_c11 := leI c11; have t_c12 := leI c12; have t_hkk := hkk; have t_hnn := hnn; have t_hj17 := hj17; have t_n19 := n19; have : (0 : Int32).toInt = 0 := (by decide); have : (40 : Int32).toInt = 40 := (by decide); have t_n0 : (nI N).toInt = (N : Int) := nI_toInt (by omega); have t_n1 : (nI B).toInt = (B : Int) := nI_toInt (by omega); have t_n2 : (nI T).toInt = (T : Int) := nI_toInt (by omega); have t_n3 : (nI S).toInt = (S : Int) := nI_toInt (by omega); have t_n4 : (nI M).toInt = (M : Int) := nI_toInt (by omega); have t_n5 : (nI kk).toInt = (kk : Int) := nI_toInt (by omega); have t_n6 : (nI nn).toInt = (nn : Int) := nI_toInt (by omega); have t_n7 : (nI j13).toInt = (j13 : Int) := nI_toInt (by omega); refine ⟨⟨?_, ?_⟩, hz_upd hz (by omega)⟩ <;> rw [if_pos (by omega), nI_clamp (by omega)])⟩, ⟨by rw [ht]; exact hP9, hD9⟩⟩, hS.F ht⟩) hS.2.2 dX11_sheet_83
              · skip
                have n20 : j13 < 40 := by have t := nleI c18; rw [nI_toInt (n := j13) (by omega)] at t; have : (40 : Int32).toInt = 40 := (by decide); omega
                refine lv_aload_n hx hb dX11_sheet_63 rfl (lv_at hl 1 rfl) ?_
                refine va_get (D := (dC, dI)) (ci := 11) (v := .ref ce) (C := RX11) (T := TX11) (N := 35) hx hb hg inG11 hown hK.1 hP 0 rfl rfl 33 (by decide) (hg _ wt_911) (fun _ h9 => h9) rfl dX11_sheet_64 ?_
                refine lv_bipush (v := 40) hx hb dX11_sheet_67 (by decide) ?_
                refine lv_iload_n hx hb dX11_sheet_69 rfl (lv_at hl 2 rfl) ?_
                refine lv_imul hx hb dX11_sheet_70 ?_
                refine lv_cg (y := nI (40 * kk)) (by rw [show (40 : Int32) = nI 40 from rfl]; exact pk_mul _ _) ?_
                refine lv_iload hx hb dX11_sheet_71 (lv_at hl 0 rfl) ?_
                refine lv_iadd hx hb dX11_sheet_73 ?_
                refine lv_cg (y := nI ((40 * kk) + j13)) (by exact nI_add _ _) ?_
                refine lv_iconst (v := 0) hx hb dX11_sheet_74 (by decide) ?_
                refine va_iast hx hb hK.1 hP hD hS 3 0 rfl rfl (vp_in_nI (by have t_b5 := b5; have t_b10 := b10; have t_c11 := leI c11; have t_c12 := leI c12; have t_hkk := hkk; have t_hnn := hnn; have t_hj17 := hj17; have t_n20 := n20; have : (0 : Int32).toInt = 0 := (by decide); have : (40 : Int32).toInt = 40 := (by decide); have t_n0 : (nI N).toInt = (N : Int) := nI_toInt (by omega); have t_n1 : (nI B).toInt = (B : Int) := nI_toInt (by omega); have t_n2 : (nI T).toInt = (T : Int) := nI_toInt (by omega); have t_n3 : (nI S).toInt = (S : Int) := nI_toInt (by omega); have t_n4 : (nI M).toInt = (M : Int) := nI_toInt (by omega); have t_n5 : (nI kk).toInt = (kk : Int) := nI_toInt (by omega); have t_n6 : (nI nn).toInt = (nn : Int) := nI_toInt (by omega); have t_n7 : (nI j13).toInt = (j13 : Int) := nI_toInt (by omega); omega) (by decide)) dX11_sheet_75 (fun H locs hP hD hS => ?_)
                rw [nI_clamp (by omega)] at hP hD
                have hP : va_P (dC, dI) vwCl [(h0, .inr (11, [.ref st, .int (nI N), .int (nI B), .ref rp, .int vrs, .int vrb, .int vhs, .int vca, .int vxs, .int vxb, .ref tp, .int (nI T), .int vfa, .int vbr, .int vba, .int vsp, .int vhe, .int vtk, .int vva, .ref cu, .ref lt, .ref od, .ref th, .ref be, .ref ln, .int (nI S), .ref ma, .int (nI M), .ref ah, .ref bh, .ref ik, .ref la, .ref lg, .ref ce, .int vto])), (la, .inl (G 0, 4, .inl (upd fla kk lane))), (lg, .inl (G 0, 4, .inl (upd flg kk (nI nn)))), (ce, .inl (G 0, 160, .inl (upd g14 ((40 * kk) + j13) 0)))] H := hP
                have hD : va_D A [(h0, .inr (11, [.ref st, .int (nI N), .int (nI B), .ref rp, .int vrs, .int vrb, .int vhs, .int vca, .int vxs, .int vxb, .ref tp, .int (nI T), .int vfa, .int vbr, .int vba, .int vsp, .int vhe, .int vtk, .int vva, .ref cu, .ref lt, .ref od, .ref th, .ref be, .ref ln, .int (nI S), .ref ma, .int (nI M), .ref ah, .ref bh, .ref ik, .ref la, .ref lg, .ref ce, .int vto])), (la, .inl (G 0, 4, .inl (upd fla kk lane))), (lg, .inl (G 0, 4, .inl (upd flg kk (nI nn)))), (ce, .inl (G 0, 160, .inl (upd g14 ((40 * kk) + j13) 0)))] := hD
                refine lv_iinc (v := nI (j13 + 1)) (lv' := [(4, .int (nI (j13 + 1))), (0, .ref h0), (1, .int (nI kk)), (2, .int lane), (3, .int (nI nn))]) hx hb dX11_sheet_76 hl (k := 0) rfl (by rw [show Int32.ofInt 1 = nI 1 from by decide]; exact nI_add _ _) (by decide) rfl (fun ls hl => ?_)
                refine lv_goto (tgt := 56) hx hb dX11_sheet_79 (by decide) ?_
                exact ih56_15 (j13 + 1) (by omega) (by omega) (upd g14 ((40 * kk) + j13) 0) _ _ hP hD hS ls (lv_sub hl [0, 1, 2, 3, 4] rfl)
          exact loop56_15 (40 + 1) 0 (by omega) (by omega) fce _ _ hP hD hS ls (lv_sub hl [0, 1, 2, 3, 4] rfl)
        · skip
          refine lv_bipush (v := (-14)) hx hb dX11_sheet_36 (by decide) ?_
          have hpost : ((-14) : Int32) = if (0 ≤ k.toInt ∧ k.toInt < 4) ∧ (0 ≤ lane.toInt ∧ lane.toInt ≤ 2) ∧ n.toInt ≤ 40 then (if n.toInt < 0 then -14 else 1) else -1 := by
            have t_b5 := b5
            have t_b10 := b10
            have t_c11 := leI c11
            have t_c12 := nleI c12
            have : (0 : Int32).toInt = 0 := (by decide)
            have : (40 : Int32).toInt = 40 := (by decide)
            have t_n0 : (nI N).toInt = (N : Int) := nI_toInt (by omega)
            have t_n1 : (nI B).toInt = (B : Int) := nI_toInt (by omega)
            have t_n2 : (nI T).toInt = (T : Int) := nI_toInt (by omega)
            have t_n3 : (nI S).toInt = (S : Int) := nI_toInt (by omega)
            have t_n4 : (nI M).toInt = (M : Int) := nI_toInt (by omega)
            have t_n0 : (nI N).toInt = (N : Int) := nI_toInt (by omega)
            have t_n1 : (nI B).toInt = (B : Int) := nI_toInt (by omega)
            have t_n2 : (nI T).toInt = (T : Int) := nI_toInt (by omega)
            have t_n3 : (nI S).toInt = (S : Int) := nI_toInt (by omega)
            have t_n4 : (nI M).toInt = (M : Int) := nI_toInt (by omega)
            first | rfl | ((repeat' split) <;> first | rfl | omega)
          have hP9 := hP.sub (ws' := [(h0, .inr (11, [.ref st, .int (nI N), .int (nI B), .ref rp, .int vrs, .int vrb, .int vhs, .int vca, .int vxs, .int vxb, .ref tp, .int (nI T), .int vfa, .int vbr, .int vba, .int vsp, .int vhe, .int vtk, .int vva, .ref cu, .ref lt, .ref od, .ref th, .ref be, .ref ln, .int (nI S), .ref ma, .int (nI M), .ref ah, .ref bh, .ref ik, .ref la, .ref lg, .ref ce, .int vto])), (la, .inl (G 0, 4, .inl fla)), (lg, .inl (G 0, 4, .inl flg)), (ce, .inl (G 0, 160, .inl fce))]) [0, 1, 2, 3] rfl
          have hD9 := hD.sub (ws' := [(h0, .inr (11, [.ref st, .int (nI N), .int (nI B), .ref rp, .int vrs, .int vrb, .int vhs, .int vca, .int vxs, .int vxb, .ref tp, .int (nI T), .int vfa, .int vbr, .int vba, .int vsp, .int vhe, .int vtk, .int vva, .ref cu, .ref lt, .ref od, .ref th, .ref be, .ref ln, .int (nI S), .ref ma, .int (nI M), .ref ah, .ref bh, .ref ik, .ref la, .ref lg, .ref ce, .int vto])), (la, .inl (G 0, 4, .inl fla)), (lg, .inl (G 0, 4, .inl flg)), (ce, .inl (G 0, 160, .inl fce))]) [0, 1, 2, 3] (by decide) rfl
          refine W.widen (k := 0) (n := 0) (by omega) (by omega) ?_
          exact W.iret (v := (-14)) hx hb hr (fun t ht hW => ⟨⟨(-14), (fla, flg, fce), rfl, ⟨hpost, (by have t_b5 := b5; have t_b10 := b10; have t_c11 := leI c11; have t_c12 := nleI c12; have : (0 : Int32).toInt = 0 := (by decide); have : (40 : Int32).toInt = 40 := (by decide); have t_n0 : (nI N).toInt = (N : Int) := nI_toInt (by omega); have t_n1 : (nI B).toInt = (B : Int) := nI_toInt (by omega); have t_n2 : (nI T).toInt = (T : Int) := nI_toInt (by omega); have t_n3 : (nI S).toInt = (S : Int) := nI_toInt (by omega); have t_n4 : (nI M).toInt = (M : Int) := nI_toInt (by omega); refine ⟨⟨?_, ?_⟩, hz⟩ <;> rw [if_neg (by omega)])⟩, ⟨by rw [ht]; exact hP9, hD9⟩⟩, hS.F ht⟩) hS.2.2 dX11_sheet_38
      · skip
        refine lv_iconst (v := (-1)) hx hb dX11_sheet_30 (by decide) ?_
        have hpost : ((-1) : Int32) = if (0 ≤ k.toInt ∧ k.toInt < 4) ∧ (0 ≤ lane.toInt ∧ lane.toInt ≤ 2) ∧ n.toInt ≤ 40 then (if n.toInt < 0 then -14 else 1) else -1 := by
          have t_b5 := b5
          have t_b10 := b10
          have t_c11 := nleI c11
          have : (40 : Int32).toInt = 40 := (by decide)
          have t_n0 : (nI N).toInt = (N : Int) := nI_toInt (by omega)
          have t_n1 : (nI B).toInt = (B : Int) := nI_toInt (by omega)
          have t_n2 : (nI T).toInt = (T : Int) := nI_toInt (by omega)
          have t_n3 : (nI S).toInt = (S : Int) := nI_toInt (by omega)
          have t_n4 : (nI M).toInt = (M : Int) := nI_toInt (by omega)
          have t_n0 : (nI N).toInt = (N : Int) := nI_toInt (by omega)
          have t_n1 : (nI B).toInt = (B : Int) := nI_toInt (by omega)
          have t_n2 : (nI T).toInt = (T : Int) := nI_toInt (by omega)
          have t_n3 : (nI S).toInt = (S : Int) := nI_toInt (by omega)
          have t_n4 : (nI M).toInt = (M : Int) := nI_toInt (by omega)
          first | rfl | ((repeat' split) <;> first | rfl | omega)
        have hP9 := hP.sub (ws' := [(h0, .inr (11, [.ref st, .int (nI N), .int (nI B), .ref rp, .int vrs, .int vrb, .int vhs, .int vca, .int vxs, .int vxb, .ref tp, .int (nI T), .int vfa, .int vbr, .int vba, .int vsp, .int vhe, .int vtk, .int vva, .ref cu, .ref lt, .ref od, .ref th, .ref be, .ref ln, .int (nI S), .ref ma, .int (nI M), .ref ah, .ref bh, .ref ik, .ref la, .ref lg, .ref ce, .int vto])), (la, .inl (G 0, 4, .inl fla)), (lg, .inl (G 0, 4, .inl flg)), (ce, .inl (G 0, 160, .inl fce))]) [0, 1, 2, 3] rfl
        have hD9 := hD.sub (ws' := [(h0, .inr (11, [.ref st, .int (nI N), .int (nI B), .ref rp, .int vrs, .int vrb, .int vhs, .int vca, .int vxs, .int vxb, .ref tp, .int (nI T), .int vfa, .int vbr, .int vba, .int vsp, .int vhe, .int vtk, .int vva, .ref cu, .ref lt, .ref od, .ref th, .ref be, .ref ln, .int (nI S), .ref ma, .int (nI M), .ref ah, .ref bh, .ref ik, .ref la, .ref lg, .ref ce, .int vto])), (la, .inl (G 0, 4, .inl fla)), (lg, .inl (G 0, 4, .inl flg)), (ce, .inl (G 0, 160, .inl fce))]) [0, 1, 2, 3] (by decide) rfl
        refine W.widen (k := 0) (n := 0) (by omega) (by omega) ?_
        exact W.iret (v := (-1)) hx hb hr (fun t ht hW => ⟨⟨(-1), (fla, flg, fce), rfl, ⟨hpost, (by have t_b5 := b5; have t_b10 := b10; have t_c11 := nleI c11; have : (40 : Int32).toInt = 40 := (by decide); have t_n0 : (nI N).toInt = (N : Int) := nI_toInt (by omega); have t_n1 : (nI B).toInt = (B : Int) := nI_toInt (by omega); have t_n2 : (nI T).toInt = (T : Int) := nI_toInt (by omega); have t_n3 : (nI S).toInt = (S : Int) := nI_toInt (by omega); have t_n4 : (nI M).toInt = (M : Int) := nI_toInt (by omega); refine ⟨⟨?_, ?_⟩, hz⟩ <;> rw [if_neg (by omega)])⟩, ⟨by rw [ht]; exact hP9, hD9⟩⟩, hS.F ht⟩) hS.2.2 dX11_sheet_31

set_option maxHeartbeats 1000000 in
set_option maxRecDepth 100000 in
theorem c_X11_lay (l : Launch) (dC : Nat → ClassId) (dI : Nat → Nat → Nat) (G : Nat → ClassId) (sz : Nat) (h0 st N B rp tp T cu lt od th be ln S ma M ah bh ik la lg ce : Nat) (k i v vrs vrb vhs vca vxs vxb vfa vbr vba vsp vhe vtk vva vto : Int32) (fla : Nat → Int32) (flg : Nat → Int32) (fce : Nat → Int32) (hN : N ≤ 10) (hB : B ≤ 6) (hT : T ≤ 320) (hS0 : S ≤ 8) (hM : M ≤ 6) (hz : ∀ q : Nat, q < 4 → 0 ≤ (flg q).toInt ∧ (flg q).toInt ≤ 40) : Met l yX11_lay (Cond.code yX11_lay cX11_lay 4 (some .int) :: GT) ({ frames := 1, cells := 0, slots := 0, locals := 25 } : Room) (PcW [.ref h0, .int k, .int i, .int v] dC dI G [(h0, .inr (11, [.ref st, .int (nI N), .int (nI B), .ref rp, .int vrs, .int vrb, .int vhs, .int vca, .int vxs, .int vxb, .ref tp, .int (nI T), .int vfa, .int vbr, .int vba, .int vsp, .int vhe, .int vtk, .int vva, .ref cu, .ref lt, .ref od, .ref th, .ref be, .ref ln, .int (nI S), .ref ma, .int (nI M), .ref ah, .ref bh, .ref ik, .ref la, .ref lg, .ref ce, .int vto])), (la, .inl (G 0, 4, .inl fla)), (lg, .inl (G 0, 4, .inl flg)), (ce, .inl (G 0, 160, .inl fce))] sz) (va_Qi (fun (r : Int32) (u : (Nat → Int32)) => match u with | oce => (r = if 0 ≤ k.toInt ∧ k.toInt < 4 then (if fla k.toNatClampNeg = -4 then -11 else if 0 ≤ i.toInt ∧ i.toInt < (flg k.toNatClampNeg).toInt then 1 else -12) else -1) ∧ True) (fun (u : (Nat → Int32)) (t : State) => match u with | oce => va_P (dC, dI) vwCl [(h0, .inr (11, [.ref st, .int (nI N), .int (nI B), .ref rp, .int vrs, .int vrb, .int vhs, .int vca, .int vxs, .int vxb, .ref tp, .int (nI T), .int vfa, .int vbr, .int vba, .int vsp, .int vhe, .int vtk, .int vva, .ref cu, .ref lt, .ref od, .ref th, .ref be, .ref ln, .int (nI S), .ref ma, .int (nI M), .ref ah, .ref bh, .ref ik, .ref la, .ref lg, .ref ce, .int vto])), (la, .inl (G 0, 4, .inl fla)), (lg, .inl (G 0, 4, .inl flg)), (ce, .inl (G 0, 160, .inl oce))] t.heap ∧ va_D (va_A [(h0, .inr (11, [.ref st, .int (nI N), .int (nI B), .ref rp, .int vrs, .int vrb, .int vhs, .int vca, .int vxs, .int vxb, .ref tp, .int (nI T), .int vfa, .int vbr, .int vba, .int vsp, .int vhe, .int vtk, .int vva, .ref cu, .ref lt, .ref od, .ref th, .ref be, .ref ln, .int (nI S), .ref ma, .int (nI M), .ref ah, .ref bh, .ref ik, .ref la, .ref lg, .ref ce, .int vto])), (la, .inl (G 0, 4, .inl fla)), (lg, .inl (G 0, 4, .inl flg)), (ce, .inl (G 0, 160, .inl fce))] sz) [(h0, .inr (11, [.ref st, .int (nI N), .int (nI B), .ref rp, .int vrs, .int vrb, .int vhs, .int vca, .int vxs, .int vxb, .ref tp, .int (nI T), .int vfa, .int vbr, .int vba, .int vsp, .int vhe, .int vtk, .int vva, .ref cu, .ref lt, .ref od, .ref th, .ref be, .ref ln, .int (nI S), .ref ma, .int (nI M), .ref ah, .ref bh, .ref ik, .ref la, .ref lg, .ref ce, .int vto])), (la, .inl (G 0, 4, .inl fla)), (lg, .inl (G 0, 4, .inl flg)), (ce, .inl (G 0, 160, .inl oce))]) (va_A [(h0, .inr (11, [.ref st, .int (nI N), .int (nI B), .ref rp, .int vrs, .int vrb, .int vhs, .int vca, .int vxs, .int vxb, .ref tp, .int (nI T), .int vfa, .int vbr, .int vba, .int vsp, .int vhe, .int vtk, .int vva, .ref cu, .ref lt, .ref od, .ref th, .ref be, .ref ln, .int (nI S), .ref ma, .int (nI M), .ref ah, .ref bh, .ref ik, .ref la, .ref lg, .ref ce, .int vto])), (la, .inl (G 0, 4, .inl fla)), (lg, .inl (G 0, 4, .inl flg)), (ce, .inl (G 0, 160, .inl fce))] sz)) 0 0 (va_A [(h0, .inr (11, [.ref st, .int (nI N), .int (nI B), .ref rp, .int vrs, .int vrb, .int vhs, .int vca, .int vxs, .int vxb, .ref tp, .int (nI T), .int vfa, .int vbr, .int vba, .int vsp, .int vhe, .int vtk, .int vva, .ref cu, .ref lt, .ref od, .ref th, .ref be, .ref ln, .int (nI S), .ref ma, .int (nI M), .ref ah, .ref bh, .ref ik, .ref la, .ref lg, .ref ce, .int vto])), (la, .inl (G 0, 4, .inl fla)), (lg, .inl (G 0, 4, .inl flg)), (ce, .inl (G 0, 160, .inl fce))] sz) := by
  refine Met.ofW (cc := cX11_lay) (maxL := 4) (ret := (some .int)) (by decide) rfl ?_
  intro p e s m args below meth c s₁ Bd hml hv
  obtain ⟨rfl, hsz, hP, hK, hD0⟩ := hv
  have hx := Bd.exec
  have hb := Bd.bytes
  have hr := Bd.returns
  have hg : ∀ w ∈ GT, w.before ([.ref h0, .int k, .int i, .int v] : List Value).toArray s = true := fun w h => atoms_spec (ws := Cond.code yX11_lay cX11_lay 4 (some .int) :: GT) Bd.pre w (List.mem_cons_of_mem _ h)
  have hown : s.vm.findClass RX11 = some m.cls := findClass_of_methodNamed Bd.named
  have hlocks := Bd.notSynchronized
  subst hsz
  have hD := hD0.self (sz := s.heap.size)
  generalize hAe : va_A [(h0, .inr (11, [.ref st, .int (nI N), .int (nI B), .ref rp, .int vrs, .int vrb, .int vhs, .int vca, .int vxs, .int vxb, .ref tp, .int (nI T), .int vfa, .int vbr, .int vba, .int vsp, .int vhe, .int vtk, .int vva, .ref cu, .ref lt, .ref od, .ref th, .ref be, .ref ln, .int (nI S), .ref ma, .int (nI M), .ref ah, .ref bh, .ref ik, .ref la, .ref lg, .ref ce, .int vto])), (la, .inl (G 0, 4, .inl fla)), (lg, .inl (G 0, 4, .inl flg)), (ce, .inl (G 0, 160, .inl fce))] s.heap.size = A at hD ⊢
  have hA : ∀ q : Nat, s.heap.size ≤ q → A q := fun q h => by rw [← hAe]; exact Or.inr h
  have hS : va_S A s.heap s.heap [] := va_S.rf
  have hl := lv_entry ([.ref h0, .int k, .int i, .int v]) (n := 4) (Nat.le_of_ble_eq_true rfl)
  rw [lg_entry_eq]
  generalize (lg_sl ([.ref h0, .int k, .int i, .int v]) ++ List.replicate (4 - (lg_sl ([.ref h0, .int k, .int i, .int v])).length) Slot.unset).toArray = ls at hl ⊢
  have hl : lv_has ls 4 [(0, .ref h0), (1, .int k), (2, .int i), (3, .int v)] := hl
  refine lv_iload_n hx hb dX11_lay_0 rfl (lv_at hl 1 rfl) ?_
  refine lv_i2l (v := k.toInt64) hx hb dX11_lay_1 rfl ?_
  refine lv_lconst (v := 0) hx hb dX11_lay_2 (by decide) ?_
  refine lv_ldc2 (v := 3) hx hb hown (hg _ wt_1023) dX11_lay_3 ?_
  have hPc := hP.sub (ws' := []) [] rfl
  refine va_calli (va_runS (As := [.long k.toInt64, .long 0, .long 3]) (rest := []) ⟨hx, hb, hml, hown, hg⟩ (c_X11_in l dC dI G _ k.toInt64 0 3 ) (kwS hg mfX11_in wt_992 ⟨Nat.le_of_ble_eq_true rfl, Nat.le_of_ble_eq_true rfl⟩) (preSR hK hPc) rfl rfl hl.1 rfl (lv_room (Nat.le_of_ble_eq_true rfl)) dX11_lay_6 ⟨Nat.le_of_ble_eq_true rfl, Nat.le_of_ble_eq_true rfl⟩) hS (fun q h1 h2 => absurd h2 (Nat.not_le.mpr h1)) (fun q h => hA q (Nat.le_trans hS.1 h)) (fun r1 ur1 t H1 locs ht hvm w2 hB hz1 hk1 hS => ?_)
  have hP := keepR hP hk1
  obtain ⟨w2, w2x⟩ := w2
  try simp only [l_ii, show (0 : Int64).toInt = 0 from by decide, show (3 : Int64).toInt = 3 from by decide] at w2
  subst w2
  refine lv_if_ne (tgt := 14) hx hb dX11_lay_9 (by decide) (fun c3 => ?_) (fun c3 => ?_)
  · skip
    have b4 := if10_p c3
    obtain ⟨kk, hkk, rfl⟩ : ∃ j : Nat, j < 4 ∧ k = nI j := by
      have t_b4 := b4
      have t_n0 : (nI N).toInt = (N : Int) := nI_toInt (by omega)
      have t_n1 : (nI B).toInt = (B : Int) := nI_toInt (by omega)
      have t_n2 : (nI T).toInt = (T : Int) := nI_toInt (by omega)
      have t_n3 : (nI S).toInt = (S : Int) := nI_toInt (by omega)
      have t_n4 : (nI M).toInt = (M : Int) := nI_toInt (by omega)
      exact i32_nat (by omega) (by omega)
    refine lv_aload_n hx hb dX11_lay_14 rfl (lv_at hl 0 rfl) ?_
    refine va_get (D := (dC, dI)) (ci := 11) (v := .ref la) (C := RX11) (T := TX11) (N := 35) hx hb hg inG11 hown hK.1 hP 0 rfl rfl 31 (by decide) (hg _ wt_909) (fun _ h9 => h9) rfl dX11_lay_15 ?_
    refine lv_iload_n hx hb dX11_lay_18 rfl (lv_at hl 1 rfl) ?_
    refine va_iald hx hb hK.1 hP 1 0 rfl rfl (vp_in_nI (by have t_b4 := b4; have t_hkk := hkk; have t_n0 : (nI N).toInt = (N : Int) := nI_toInt (by omega); have t_n1 : (nI B).toInt = (B : Int) := nI_toInt (by omega); have t_n2 : (nI T).toInt = (T : Int) := nI_toInt (by omega); have t_n3 : (nI S).toInt = (S : Int) := nI_toInt (by omega); have t_n4 : (nI M).toInt = (M : Int) := nI_toInt (by omega); have t_n5 : (nI kk).toInt = (kk : Int) := nI_toInt (by omega); omega) (by decide)) dX11_lay_19 ?_
    refine lv_cg (y := fla kk) (by rw [nI_clamp (by omega)]) ?_
    refine lv_bipush (v := (-4)) hx hb dX11_lay_20 (by decide) ?_
    refine lv_icmp_ne (tgt := 28) hx hb dX11_lay_22 (by decide) (fun c5 => ?_) (fun c5 => ?_)
    · skip
      refine lv_iload_n hx hb dX11_lay_28 rfl (lv_at hl 2 rfl) ?_
      refine lv_i2l (v := i.toInt64) hx hb dX11_lay_29 rfl ?_
      refine lv_lconst (v := 0) hx hb dX11_lay_30 (by decide) ?_
      refine lv_aload_n hx hb dX11_lay_31 rfl (lv_at hl 0 rfl) ?_
      refine va_get (D := (dC, dI)) (ci := 11) (v := .ref lg) (C := RX11) (T := TX11) (N := 35) hx hb hg inG11 hown hK.1 hP 0 rfl rfl 32 (by decide) (hg _ wt_910) (fun _ h9 => h9) rfl dX11_lay_32 ?_
      refine lv_iload_n hx hb dX11_lay_35 rfl (lv_at hl 1 rfl) ?_
      refine va_iald hx hb hK.1 hP 2 0 rfl rfl (vp_in_nI (by have t_b4 := b4; have t_hkk := hkk; have t_c5 := neI c5; have : ((-4) : Int32).toInt = -4 := (by decide); have t_n0 : (nI N).toInt = (N : Int) := nI_toInt (by omega); have t_n1 : (nI B).toInt = (B : Int) := nI_toInt (by omega); have t_n2 : (nI T).toInt = (T : Int) := nI_toInt (by omega); have t_n3 : (nI S).toInt = (S : Int) := nI_toInt (by omega); have t_n4 : (nI M).toInt = (M : Int) := nI_toInt (by omega); have t_n5 : (nI kk).toInt = (kk : Int) := nI_toInt (by omega); omega) (by decide)) dX11_lay_36 ?_
      refine lv_cg (y := flg kk) (by rw [nI_clamp (by omega)]) ?_
      refine lv_iconst (v := 1) hx hb dX11_lay_37 (by decide) ?_
      refine lv_isub hx hb dX11_lay_38 ?_
      refine lv_i2l (v := ((flg kk) - 1).toInt64) hx hb dX11_lay_39 rfl ?_
      have hPc := hP.sub (ws' := []) [] rfl
      refine va_calli (va_runS (As := [.long i.toInt64, .long 0, .long (((flg kk) - 1).toInt64)]) (rest := []) ⟨hx, hb, hml, hown, hg⟩ (c_X11_in l dC dI G _ i.toInt64 0 (((flg kk) - 1).toInt64) ) (kwS hg mfX11_in wt_992 ⟨Nat.le_of_ble_eq_true rfl, Nat.le_of_ble_eq_true rfl⟩) (preSR hK hPc) rfl rfl hl.1 rfl (lv_room (Nat.le_of_ble_eq_true rfl)) dX11_lay_40 ⟨Nat.le_of_ble_eq_true rfl, Nat.le_of_ble_eq_true rfl⟩) hS (fun q h1 h2 => absurd h2 (Nat.not_le.mpr h1)) (fun q h => hA q (Nat.le_trans hS.1 h)) (fun r6 ur6 t H1 locs ht hvm w7 hB hz1 hk1 hS => ?_)
      have hP := keepR hP hk1
      obtain ⟨w7, w7x⟩ := w7
      try simp only [l_ii, show (0 : Int64).toInt = 0 from by decide] at w7
      subst w7
      refine lv_if_ne (tgt := 49) hx hb dX11_lay_43 (by decide) (fun c8 => ?_) (fun c8 => ?_)
      · skip
        have b9 := if10_p c8
        have hzk := hz kk (by omega)
        have e9 := im1 (x := flg kk) hzk.1 hzk.2
        obtain ⟨ii, hii, rfl⟩ : ∃ j : Nat, j < 40 ∧ i = nI j := by
          have t_b4 := b4
          have t_hkk := hkk
          have t_c5 := neI c5
          have t_b9 := b9
          have : ((-4) : Int32).toInt = -4 := (by decide)
          have t_n0 : (nI N).toInt = (N : Int) := nI_toInt (by omega)
          have t_n1 : (nI B).toInt = (B : Int) := nI_toInt (by omega)
          have t_n2 : (nI T).toInt = (T : Int) := nI_toInt (by omega)
          have t_n3 : (nI S).toInt = (S : Int) := nI_toInt (by omega)
          have t_n4 : (nI M).toInt = (M : Int) := nI_toInt (by omega)
          have t_n5 : (nI kk).toInt = (kk : Int) := nI_toInt (by omega)
          exact i32_nat (by omega) (by omega)
        refine lv_aload_n hx hb dX11_lay_49 rfl (lv_at hl 0 rfl) ?_
        refine va_get (D := (dC, dI)) (ci := 11) (v := .ref ce) (C := RX11) (T := TX11) (N := 35) hx hb hg inG11 hown hK.1 hP 0 rfl rfl 33 (by decide) (hg _ wt_911) (fun _ h9 => h9) rfl dX11_lay_50 ?_
        refine lv_bipush (v := 40) hx hb dX11_lay_53 (by decide) ?_
        refine lv_iload_n hx hb dX11_lay_55 rfl (lv_at hl 1 rfl) ?_
        refine lv_imul hx hb dX11_lay_56 ?_
        refine lv_cg (y := nI (40 * kk)) (by rw [show (40 : Int32) = nI 40 from rfl]; exact pk_mul _ _) ?_
        refine lv_iload_n hx hb dX11_lay_57 rfl (lv_at hl 2 rfl) ?_
        refine lv_iadd hx hb dX11_lay_58 ?_
        refine lv_cg (y := nI ((40 * kk) + ii)) (by exact nI_add _ _) ?_
        refine lv_aload_n hx hb dX11_lay_59 rfl (lv_at hl 0 rfl) ?_
        refine va_get (D := (dC, dI)) (ci := 11) (v := .ref la) (C := RX11) (T := TX11) (N := 35) hx hb hg inG11 hown hK.1 hP 0 rfl rfl 31 (by decide) (hg _ wt_909) (fun _ h9 => h9) rfl dX11_lay_60 ?_
        refine lv_iload_n hx hb dX11_lay_63 rfl (lv_at hl 1 rfl) ?_
        refine va_iald hx hb hK.1 hP 1 0 rfl rfl (vp_in_nI (by have t_b4 := b4; have t_hkk := hkk; have t_c5 := neI c5; have t_b9 := b9; have t_hii := hii; have : ((-4) : Int32).toInt = -4 := (by decide); have t_n0 : (nI N).toInt = (N : Int) := nI_toInt (by omega); have t_n1 : (nI B).toInt = (B : Int) := nI_toInt (by omega); have t_n2 : (nI T).toInt = (T : Int) := nI_toInt (by omega); have t_n3 : (nI S).toInt = (S : Int) := nI_toInt (by omega); have t_n4 : (nI M).toInt = (M : Int) := nI_toInt (by omega); have t_n5 : (nI kk).toInt = (kk : Int) := nI_toInt (by omega); have t_n6 : (nI ii).toInt = (ii : Int) := nI_toInt (by omega); omega) (by decide)) dX11_lay_64 ?_
        refine lv_cg (y := fla kk) (by rw [nI_clamp (by omega)]) ?_
        refine lv_if_ne (tgt := 78) hx hb dX11_lay_65 (by decide) (fun c10 => ?_) (fun c10 => ?_)
        · skip
          refine lv_aload_n hx hb dX11_lay_78 rfl (lv_at hl 0 rfl) ?_
          refine va_get (D := (dC, dI)) (ci := 11) (v := .ref la) (C := RX11) (T := TX11) (N := 35) hx hb hg inG11 hown hK.1 hP 0 rfl rfl 31 (by decide) (hg _ wt_909) (fun _ h9 => h9) rfl dX11_lay_79 ?_
          refine lv_iload_n hx hb dX11_lay_82 rfl (lv_at hl 1 rfl) ?_
          refine va_iald hx hb hK.1 hP 1 0 rfl rfl (vp_in_nI (by have t_b4 := b4; have t_hkk := hkk; have t_c5 := neI c5; have t_b9 := b9; have t_hii := hii; have t_c10 := neI c10; have : ((-4) : Int32).toInt = -4 := (by decide); have : (0 : Int32).toInt = 0 := (by decide); have t_n0 : (nI N).toInt = (N : Int) := nI_toInt (by omega); have t_n1 : (nI B).toInt = (B : Int) := nI_toInt (by omega); have t_n2 : (nI T).toInt = (T : Int) := nI_toInt (by omega); have t_n3 : (nI S).toInt = (S : Int) := nI_toInt (by omega); have t_n4 : (nI M).toInt = (M : Int) := nI_toInt (by omega); have t_n5 : (nI kk).toInt = (kk : Int) := nI_toInt (by omega); have t_n6 : (nI ii).toInt = (ii : Int) := nI_toInt (by omega); omega) (by decide)) dX11_lay_83 ?_
          refine lv_cg (y := fla kk) (by rw [nI_clamp (by omega)]) ?_
          refine lv_iconst (v := 1) hx hb dX11_lay_84 (by decide) ?_
          refine lv_icmp_ne (tgt := 98) hx hb dX11_lay_85 (by decide) (fun c11 => ?_) (fun c11 => ?_)
          · skip
            refine lv_iload_n hx hb dX11_lay_98 rfl (lv_at hl 3 rfl) ?_
            refine va_iast hx hb hK.1 hP hD hS 3 0 rfl rfl (vp_in_nI (by have t_b4 := b4; have t_hkk := hkk; have t_c5 := neI c5; have t_b9 := b9; have t_hii := hii; have t_c10 := neI c10; have t_c11 := neI c11; have : ((-4) : Int32).toInt = -4 := (by decide); have : (0 : Int32).toInt = 0 := (by decide); have : (1 : Int32).toInt = 1 := (by decide); have t_n0 : (nI N).toInt = (N : Int) := nI_toInt (by omega); have t_n1 : (nI B).toInt = (B : Int) := nI_toInt (by omega); have t_n2 : (nI T).toInt = (T : Int) := nI_toInt (by omega); have t_n3 : (nI S).toInt = (S : Int) := nI_toInt (by omega); have t_n4 : (nI M).toInt = (M : Int) := nI_toInt (by omega); have t_n5 : (nI kk).toInt = (kk : Int) := nI_toInt (by omega); have t_n6 : (nI ii).toInt = (ii : Int) := nI_toInt (by omega); omega) (by decide)) dX11_lay_99 (fun H locs hP hD hS => ?_)
            rw [nI_clamp (by omega)] at hP hD
            have hP : va_P (dC, dI) vwCl [(h0, .inr (11, [.ref st, .int (nI N), .int (nI B), .ref rp, .int vrs, .int vrb, .int vhs, .int vca, .int vxs, .int vxb, .ref tp, .int (nI T), .int vfa, .int vbr, .int vba, .int vsp, .int vhe, .int vtk, .int vva, .ref cu, .ref lt, .ref od, .ref th, .ref be, .ref ln, .int (nI S), .ref ma, .int (nI M), .ref ah, .ref bh, .ref ik, .ref la, .ref lg, .ref ce, .int vto])), (la, .inl (G 0, 4, .inl fla)), (lg, .inl (G 0, 4, .inl flg)), (ce, .inl (G 0, 160, .inl (upd fce ((40 * kk) + ii) v)))] H := hP
            have hD : va_D A [(h0, .inr (11, [.ref st, .int (nI N), .int (nI B), .ref rp, .int vrs, .int vrb, .int vhs, .int vca, .int vxs, .int vxb, .ref tp, .int (nI T), .int vfa, .int vbr, .int vba, .int vsp, .int vhe, .int vtk, .int vva, .ref cu, .ref lt, .ref od, .ref th, .ref be, .ref ln, .int (nI S), .ref ma, .int (nI M), .ref ah, .ref bh, .ref ik, .ref la, .ref lg, .ref ce, .int vto])), (la, .inl (G 0, 4, .inl fla)), (lg, .inl (G 0, 4, .inl flg)), (ce, .inl (G 0, 160, .inl (upd fce ((40 * kk) + ii) v)))] := hD
            refine lv_iconst (v := 1) hx hb dX11_lay_100 (by decide) ?_
            have hpost : (1 : Int32) = if 0 ≤ (nI kk).toInt ∧ (nI kk).toInt < 4 then (if fla (nI kk).toNatClampNeg = -4 then -11 else if 0 ≤ (nI ii).toInt ∧ (nI ii).toInt < (flg (nI kk).toNatClampNeg).toInt then 1 else -12) else -1 := by
              have t_b4 := b4
              have t_hkk := hkk
              have t_c5 := neI c5
              have t_b9 := b9
              have t_hii := hii
              have t_c10 := neI c10
              have t_c11 := neI c11
              have : ((-4) : Int32).toInt = -4 := (by decide)
              have : (0 : Int32).toInt = 0 := (by decide)
              have : (1 : Int32).toInt = 1 := (by decide)
              have t_n0 : (nI N).toInt = (N : Int) := nI_toInt (by omega)
              have t_n1 : (nI B).toInt = (B : Int) := nI_toInt (by omega)
              have t_n2 : (nI T).toInt = (T : Int) := nI_toInt (by omega)
              have t_n3 : (nI S).toInt = (S : Int) := nI_toInt (by omega)
              have t_n4 : (nI M).toInt = (M : Int) := nI_toInt (by omega)
              have t_n5 : (nI kk).toInt = (kk : Int) := nI_toInt (by omega)
              have t_n6 : (nI ii).toInt = (ii : Int) := nI_toInt (by omega)
              rw [nI_clamp (by omega), if_pos (by omega), if_neg (by assumption), if_pos (by omega)]
            have hP9 := hP.sub (ws' := [(h0, .inr (11, [.ref st, .int (nI N), .int (nI B), .ref rp, .int vrs, .int vrb, .int vhs, .int vca, .int vxs, .int vxb, .ref tp, .int (nI T), .int vfa, .int vbr, .int vba, .int vsp, .int vhe, .int vtk, .int vva, .ref cu, .ref lt, .ref od, .ref th, .ref be, .ref ln, .int (nI S), .ref ma, .int (nI M), .ref ah, .ref bh, .ref ik, .ref la, .ref lg, .ref ce, .int vto])), (la, .inl (G 0, 4, .inl fla)), (lg, .inl (G 0, 4, .inl flg)), (ce, .inl (G 0, 160, .inl (upd fce ((40 * kk) + ii) v)))]) [0, 1, 2, 3] rfl
            have hD9 := hD.sub (ws' := [(h0, .inr (11, [.ref st, .int (nI N), .int (nI B), .ref rp, .int vrs, .int vrb, .int vhs, .int vca, .int vxs, .int vxb, .ref tp, .int (nI T), .int vfa, .int vbr, .int vba, .int vsp, .int vhe, .int vtk, .int vva, .ref cu, .ref lt, .ref od, .ref th, .ref be, .ref ln, .int (nI S), .ref ma, .int (nI M), .ref ah, .ref bh, .ref ik, .ref la, .ref lg, .ref ce, .int vto])), (la, .inl (G 0, 4, .inl fla)), (lg, .inl (G 0, 4, .inl flg)), (ce, .inl (G 0, 160, .inl (upd fce ((40 * kk) + ii) v)))]) [0, 1, 2, 3] (by decide) rfl
            refine W.widen (k := 0) (n := 0) (by omega) (by omega) ?_
            exact W.iret (v := 1) hx hb hr (fun t ht hW => ⟨⟨1, (upd fce ((40 * kk) + ii) v), rfl, ⟨hpost, trivial⟩, ⟨by rw [ht]; exact hP9, hD9⟩⟩, hS.F ht⟩) hS.2.2 dX11_lay_101
          · skip
            refine lv_iload_n hx hb dX11_lay_88 rfl (lv_at hl 3 rfl) ?_
            refine lv_bipush (v := 16) hx hb dX11_lay_89 (by decide) ?_
            refine lv_ishl hx hb dX11_lay_91 ?_
            refine lv_bipush (v := 16) hx hb dX11_lay_92 (by decide) ?_
            refine lv_ishr hx hb dX11_lay_94 ?_
            refine lv_goto (tgt := 99) hx hb dX11_lay_95 (by decide) ?_
            refine va_iast hx hb hK.1 hP hD hS 3 0 rfl rfl (vp_in_nI (by have t_b4 := b4; have t_hkk := hkk; have t_c5 := neI c5; have t_b9 := b9; have t_hii := hii; have t_c10 := neI c10; have t_c11 := eqI c11; have : ((-4) : Int32).toInt = -4 := (by decide); have : (0 : Int32).toInt = 0 := (by decide); have : (1 : Int32).toInt = 1 := (by decide); have t_n0 : (nI N).toInt = (N : Int) := nI_toInt (by omega); have t_n1 : (nI B).toInt = (B : Int) := nI_toInt (by omega); have t_n2 : (nI T).toInt = (T : Int) := nI_toInt (by omega); have t_n3 : (nI S).toInt = (S : Int) := nI_toInt (by omega); have t_n4 : (nI M).toInt = (M : Int) := nI_toInt (by omega); have t_n5 : (nI kk).toInt = (kk : Int) := nI_toInt (by omega); have t_n6 : (nI ii).toInt = (ii : Int) := nI_toInt (by omega); omega) (by decide)) dX11_lay_99 (fun H locs hP hD hS => ?_)
            rw [nI_clamp (by omega)] at hP hD
            have hP : va_P (dC, dI) vwCl [(h0, .inr (11, [.ref st, .int (nI N), .int (nI B), .ref rp, .int vrs, .int vrb, .int vhs, .int vca, .int vxs, .int vxb, .ref tp, .int (nI T), .int vfa, .int vbr, .int vba, .int vsp, .int vhe, .int vtk, .int vva, .ref cu, .ref lt, .ref od, .ref th, .ref be, .ref ln, .int (nI S), .ref ma, .int (nI M), .ref ah, .ref bh, .ref ik, .ref la, .ref lg, .ref ce, .int vto])), (la, .inl (G 0, 4, .inl fla)), (lg, .inl (G 0, 4, .inl flg)), (ce, .inl (G 0, 160, .inl (upd fce ((40 * kk) + ii) ((v <<< ((16 : Int32) &&& 31)) >>> ((16 : Int32) &&& 31)))))] H := hP
            have hD : va_D A [(h0, .inr (11, [.ref st, .int (nI N), .int (nI B), .ref rp, .int vrs, .int vrb, .int vhs, .int vca, .int vxs, .int vxb, .ref tp, .int (nI T), .int vfa, .int vbr, .int vba, .int vsp, .int vhe, .int vtk, .int vva, .ref cu, .ref lt, .ref od, .ref th, .ref be, .ref ln, .int (nI S), .ref ma, .int (nI M), .ref ah, .ref bh, .ref ik, .ref la, .ref lg, .ref ce, .int vto])), (la, .inl (G 0, 4, .inl fla)), (lg, .inl (G 0, 4, .inl flg)), (ce, .inl (G 0, 160, .inl (upd fce ((40 * kk) + ii) ((v <<< ((16 : Int32) &&& 31)) >>> ((16 : Int32) &&& 31)))))] := hD
            refine lv_iconst (v := 1) hx hb dX11_lay_100 (by decide) ?_
            have hpost : (1 : Int32) = if 0 ≤ (nI kk).toInt ∧ (nI kk).toInt < 4 then (if fla (nI kk).toNatClampNeg = -4 then -11 else if 0 ≤ (nI ii).toInt ∧ (nI ii).toInt < (flg (nI kk).toNatClampNeg).toInt then 1 else -12) else -1 := by
              have t_b4 := b4
              have t_hkk := hkk
              have t_c5 := neI c5
              have t_b9 := b9
              have t_hii := hii
              have t_c10 := neI c10
              have t_c11 := eqI c11
              have : ((-4) : Int32).toInt = -4 := (by decide)
              have : (0 : Int32).toInt = 0 := (by decide)
              have : (1 : Int32).toInt = 1 := (by decide)
              have t_n0 : (nI N).toInt = (N : Int) := nI_toInt (by omega)
              have t_n1 : (nI B).toInt = (B : Int) := nI_toInt (by omega)
              have t_n2 : (nI T).toInt = (T : Int) := nI_toInt (by omega)
              have t_n3 : (nI S).toInt = (S : Int) := nI_toInt (by omega)
              have t_n4 : (nI M).toInt = (M : Int) := nI_toInt (by omega)
              have t_n5 : (nI kk).toInt = (kk : Int) := nI_toInt (by omega)
              have t_n6 : (nI ii).toInt = (ii : Int) := nI_toInt (by omega)
              rw [nI_clamp (by omega), if_pos (by omega), if_neg (by assumption), if_pos (by omega)]
            have hP9 := hP.sub (ws' := [(h0, .inr (11, [.ref st, .int (nI N), .int (nI B), .ref rp, .int vrs, .int vrb, .int vhs, .int vca, .int vxs, .int vxb, .ref tp, .int (nI T), .int vfa, .int vbr, .int vba, .int vsp, .int vhe, .int vtk, .int vva, .ref cu, .ref lt, .ref od, .ref th, .ref be, .ref ln, .int (nI S), .ref ma, .int (nI M), .ref ah, .ref bh, .ref ik, .ref la, .ref lg, .ref ce, .int vto])), (la, .inl (G 0, 4, .inl fla)), (lg, .inl (G 0, 4, .inl flg)), (ce, .inl (G 0, 160, .inl (upd fce ((40 * kk) + ii) ((v <<< ((16 : Int32) &&& 31)) >>> ((16 : Int32) &&& 31)))))]) [0, 1, 2, 3] rfl
            have hD9 := hD.sub (ws' := [(h0, .inr (11, [.ref st, .int (nI N), .int (nI B), .ref rp, .int vrs, .int vrb, .int vhs, .int vca, .int vxs, .int vxb, .ref tp, .int (nI T), .int vfa, .int vbr, .int vba, .int vsp, .int vhe, .int vtk, .int vva, .ref cu, .ref lt, .ref od, .ref th, .ref be, .ref ln, .int (nI S), .ref ma, .int (nI M), .ref ah, .ref bh, .ref ik, .ref la, .ref lg, .ref ce, .int vto])), (la, .inl (G 0, 4, .inl fla)), (lg, .inl (G 0, 4, .inl flg)), (ce, .inl (G 0, 160, .inl (upd fce ((40 * kk) + ii) ((v <<< ((16 : Int32) &&& 31)) >>> ((16 : Int32) &&& 31)))))]) [0, 1, 2, 3] (by decide) rfl
            refine W.widen (k := 0) (n := 0) (by omega) (by omega) ?_
            exact W.iret (v := 1) hx hb hr (fun t ht hW => ⟨⟨1, (upd fce ((40 * kk) + ii) ((v <<< ((16 : Int32) &&& 31)) >>> ((16 : Int32) &&& 31))), rfl, ⟨hpost, trivial⟩, ⟨by rw [ht]; exact hP9, hD9⟩⟩, hS.F ht⟩) hS.2.2 dX11_lay_101
        · skip
          refine lv_iload_n hx hb dX11_lay_68 rfl (lv_at hl 3 rfl) ?_
          refine lv_bipush (v := 24) hx hb dX11_lay_69 (by decide) ?_
          refine lv_ishl hx hb dX11_lay_71 ?_
          refine lv_bipush (v := 24) hx hb dX11_lay_72 (by decide) ?_
          refine lv_ishr hx hb dX11_lay_74 ?_
          refine lv_goto (tgt := 99) hx hb dX11_lay_75 (by decide) ?_
          refine va_iast hx hb hK.1 hP hD hS 3 0 rfl rfl (vp_in_nI (by have t_b4 := b4; have t_hkk := hkk; have t_c5 := neI c5; have t_b9 := b9; have t_hii := hii; have t_c10 := eqI c10; have : ((-4) : Int32).toInt = -4 := (by decide); have : (0 : Int32).toInt = 0 := (by decide); have t_n0 : (nI N).toInt = (N : Int) := nI_toInt (by omega); have t_n1 : (nI B).toInt = (B : Int) := nI_toInt (by omega); have t_n2 : (nI T).toInt = (T : Int) := nI_toInt (by omega); have t_n3 : (nI S).toInt = (S : Int) := nI_toInt (by omega); have t_n4 : (nI M).toInt = (M : Int) := nI_toInt (by omega); have t_n5 : (nI kk).toInt = (kk : Int) := nI_toInt (by omega); have t_n6 : (nI ii).toInt = (ii : Int) := nI_toInt (by omega); omega) (by decide)) dX11_lay_99 (fun H locs hP hD hS => ?_)
          rw [nI_clamp (by omega)] at hP hD
          have hP : va_P (dC, dI) vwCl [(h0, .inr (11, [.ref st, .int (nI N), .int (nI B), .ref rp, .int vrs, .int vrb, .int vhs, .int vca, .int vxs, .int vxb, .ref tp, .int (nI T), .int vfa, .int vbr, .int vba, .int vsp, .int vhe, .int vtk, .int vva, .ref cu, .ref lt, .ref od, .ref th, .ref be, .ref ln, .int (nI S), .ref ma, .int (nI M), .ref ah, .ref bh, .ref ik, .ref la, .ref lg, .ref ce, .int vto])), (la, .inl (G 0, 4, .inl fla)), (lg, .inl (G 0, 4, .inl flg)), (ce, .inl (G 0, 160, .inl (upd fce ((40 * kk) + ii) ((v <<< ((24 : Int32) &&& 31)) >>> ((24 : Int32) &&& 31)))))] H := hP
          have hD : va_D A [(h0, .inr (11, [.ref st, .int (nI N), .int (nI B), .ref rp, .int vrs, .int vrb, .int vhs, .int vca, .int vxs, .int vxb, .ref tp, .int (nI T), .int vfa, .int vbr, .int vba, .int vsp, .int vhe, .int vtk, .int vva, .ref cu, .ref lt, .ref od, .ref th, .ref be, .ref ln, .int (nI S), .ref ma, .int (nI M), .ref ah, .ref bh, .ref ik, .ref la, .ref lg, .ref ce, .int vto])), (la, .inl (G 0, 4, .inl fla)), (lg, .inl (G 0, 4, .inl flg)), (ce, .inl (G 0, 160, .inl (upd fce ((40 * kk) + ii) ((v <<< ((24 : Int32) &&& 31)) >>> ((24 : Int32) &&& 31)))))] := hD
          refine lv_iconst (v := 1) hx hb dX11_lay_100 (by decide) ?_
          have hpost : (1 : Int32) = if 0 ≤ (nI kk).toInt ∧ (nI kk).toInt < 4 then (if fla (nI kk).toNatClampNeg = -4 then -11 else if 0 ≤ (nI ii).toInt ∧ (nI ii).toInt < (flg (nI kk).toNatClampNeg).toInt then 1 else -12) else -1 := by
            have t_b4 := b4
            have t_hkk := hkk
            have t_c5 := neI c5
            have t_b9 := b9
            have t_hii := hii
            have t_c10 := eqI c10
            have : ((-4) : Int32).toInt = -4 := (by decide)
            have : (0 : Int32).toInt = 0 := (by decide)
            have t_n0 : (nI N).toInt = (N : Int) := nI_toInt (by omega)
            have t_n1 : (nI B).toInt = (B : Int) := nI_toInt (by omega)
            have t_n2 : (nI T).toInt = (T : Int) := nI_toInt (by omega)
            have t_n3 : (nI S).toInt = (S : Int) := nI_toInt (by omega)
            have t_n4 : (nI M).toInt = (M : Int) := nI_toInt (by omega)
            have t_n5 : (nI kk).toInt = (kk : Int) := nI_toInt (by omega)
            have t_n6 : (nI ii).toInt = (ii : Int) := nI_toInt (by omega)
            rw [nI_clamp (by omega), if_pos (by omega), if_neg (by assumption), if_pos (by omega)]
          have hP9 := hP.sub (ws' := [(h0, .inr (11, [.ref st, .int (nI N), .int (nI B), .ref rp, .int vrs, .int vrb, .int vhs, .int vca, .int vxs, .int vxb, .ref tp, .int (nI T), .int vfa, .int vbr, .int vba, .int vsp, .int vhe, .int vtk, .int vva, .ref cu, .ref lt, .ref od, .ref th, .ref be, .ref ln, .int (nI S), .ref ma, .int (nI M), .ref ah, .ref bh, .ref ik, .ref la, .ref lg, .ref ce, .int vto])), (la, .inl (G 0, 4, .inl fla)), (lg, .inl (G 0, 4, .inl flg)), (ce, .inl (G 0, 160, .inl (upd fce ((40 * kk) + ii) ((v <<< ((24 : Int32) &&& 31)) >>> ((24 : Int32) &&& 31)))))]) [0, 1, 2, 3] rfl
          have hD9 := hD.sub (ws' := [(h0, .inr (11, [.ref st, .int (nI N), .int (nI B), .ref rp, .int vrs, .int vrb, .int vhs, .int vca, .int vxs, .int vxb, .ref tp, .int (nI T), .int vfa, .int vbr, .int vba, .int vsp, .int vhe, .int vtk, .int vva, .ref cu, .ref lt, .ref od, .ref th, .ref be, .ref ln, .int (nI S), .ref ma, .int (nI M), .ref ah, .ref bh, .ref ik, .ref la, .ref lg, .ref ce, .int vto])), (la, .inl (G 0, 4, .inl fla)), (lg, .inl (G 0, 4, .inl flg)), (ce, .inl (G 0, 160, .inl (upd fce ((40 * kk) + ii) ((v <<< ((24 : Int32) &&& 31)) >>> ((24 : Int32) &&& 31)))))]) [0, 1, 2, 3] (by decide) rfl
          refine W.widen (k := 0) (n := 0) (by omega) (by omega) ?_
          exact W.iret (v := 1) hx hb hr (fun t ht hW => ⟨⟨1, (upd fce ((40 * kk) + ii) ((v <<< ((24 : Int32) &&& 31)) >>> ((24 : Int32) &&& 31))), rfl, ⟨hpost, trivial⟩, ⟨by rw [ht]; exact hP9, hD9⟩⟩, hS.F ht⟩) hS.2.2 dX11_lay_101
      · skip
        have b12 := if10_n c8
        refine lv_bipush (v := (-12)) hx hb dX11_lay_46 (by decide) ?_
        have hpost : ((-12) : Int32) = if 0 ≤ (nI kk).toInt ∧ (nI kk).toInt < 4 then (if fla (nI kk).toNatClampNeg = -4 then -11 else if 0 ≤ i.toInt ∧ i.toInt < (flg (nI kk).toNatClampNeg).toInt then 1 else -12) else -1 := by
          have t_b4 := b4
          have t_hkk := hkk
          have t_c5 := neI c5
          have t_b12 := b12
          have : ((-4) : Int32).toInt = -4 := (by decide)
          have t_n0 : (nI N).toInt = (N : Int) := nI_toInt (by omega)
          have t_n1 : (nI B).toInt = (B : Int) := nI_toInt (by omega)
          have t_n2 : (nI T).toInt = (T : Int) := nI_toInt (by omega)
          have t_n3 : (nI S).toInt = (S : Int) := nI_toInt (by omega)
          have t_n4 : (nI M).toInt = (M : Int) := nI_toInt (by omega)
          have t_n5 : (nI kk).toInt = (kk : Int) := nI_toInt (by omega)
          have hzk := hz kk (by omega)
          have e9 := im1 (x := flg kk) hzk.1 hzk.2
          rw [nI_clamp (by omega), if_pos (by omega), if_neg (by assumption), if_neg (by omega)]
        have hP9 := hP.sub (ws' := [(h0, .inr (11, [.ref st, .int (nI N), .int (nI B), .ref rp, .int vrs, .int vrb, .int vhs, .int vca, .int vxs, .int vxb, .ref tp, .int (nI T), .int vfa, .int vbr, .int vba, .int vsp, .int vhe, .int vtk, .int vva, .ref cu, .ref lt, .ref od, .ref th, .ref be, .ref ln, .int (nI S), .ref ma, .int (nI M), .ref ah, .ref bh, .ref ik, .ref la, .ref lg, .ref ce, .int vto])), (la, .inl (G 0, 4, .inl fla)), (lg, .inl (G 0, 4, .inl flg)), (ce, .inl (G 0, 160, .inl fce))]) [0, 1, 2, 3] rfl
        have hD9 := hD.sub (ws' := [(h0, .inr (11, [.ref st, .int (nI N), .int (nI B), .ref rp, .int vrs, .int vrb, .int vhs, .int vca, .int vxs, .int vxb, .ref tp, .int (nI T), .int vfa, .int vbr, .int vba, .int vsp, .int vhe, .int vtk, .int vva, .ref cu, .ref lt, .ref od, .ref th, .ref be, .ref ln, .int (nI S), .ref ma, .int (nI M), .ref ah, .ref bh, .ref ik, .ref la, .ref lg, .ref ce, .int vto])), (la, .inl (G 0, 4, .inl fla)), (lg, .inl (G 0, 4, .inl flg)), (ce, .inl (G 0, 160, .inl fce))]) [0, 1, 2, 3] (by decide) rfl
        refine W.widen (k := 0) (n := 0) (by omega) (by omega) ?_
        exact W.iret (v := (-12)) hx hb hr (fun t ht hW => ⟨⟨(-12), fce, rfl, ⟨hpost, trivial⟩, ⟨by rw [ht]; exact hP9, hD9⟩⟩, hS.F ht⟩) hS.2.2 dX11_lay_48
    · skip
      refine lv_bipush (v := (-11)) hx hb dX11_lay_25 (by decide) ?_
      have hpost : ((-11) : Int32) = if 0 ≤ (nI kk).toInt ∧ (nI kk).toInt < 4 then (if fla (nI kk).toNatClampNeg = -4 then -11 else if 0 ≤ i.toInt ∧ i.toInt < (flg (nI kk).toNatClampNeg).toInt then 1 else -12) else -1 := by
        have t_b4 := b4
        have t_hkk := hkk
        have t_c5 := eqI c5
        have : ((-4) : Int32).toInt = -4 := (by decide)
        have t_n0 : (nI N).toInt = (N : Int) := nI_toInt (by omega)
        have t_n1 : (nI B).toInt = (B : Int) := nI_toInt (by omega)
        have t_n2 : (nI T).toInt = (T : Int) := nI_toInt (by omega)
        have t_n3 : (nI S).toInt = (S : Int) := nI_toInt (by omega)
        have t_n4 : (nI M).toInt = (M : Int) := nI_toInt (by omega)
        have t_n5 : (nI kk).toInt = (kk : Int) := nI_toInt (by omega)
        rw [nI_clamp (by omega), if_pos (by omega), if_pos (by assumption)]
      have hP9 := hP.sub (ws' := [(h0, .inr (11, [.ref st, .int (nI N), .int (nI B), .ref rp, .int vrs, .int vrb, .int vhs, .int vca, .int vxs, .int vxb, .ref tp, .int (nI T), .int vfa, .int vbr, .int vba, .int vsp, .int vhe, .int vtk, .int vva, .ref cu, .ref lt, .ref od, .ref th, .ref be, .ref ln, .int (nI S), .ref ma, .int (nI M), .ref ah, .ref bh, .ref ik, .ref la, .ref lg, .ref ce, .int vto])), (la, .inl (G 0, 4, .inl fla)), (lg, .inl (G 0, 4, .inl flg)), (ce, .inl (G 0, 160, .inl fce))]) [0, 1, 2, 3] rfl
      have hD9 := hD.sub (ws' := [(h0, .inr (11, [.ref st, .int (nI N), .int (nI B), .ref rp, .int vrs, .int vrb, .int vhs, .int vca, .int vxs, .int vxb, .ref tp, .int (nI T), .int vfa, .int vbr, .int vba, .int vsp, .int vhe, .int vtk, .int vva, .ref cu, .ref lt, .ref od, .ref th, .ref be, .ref ln, .int (nI S), .ref ma, .int (nI M), .ref ah, .ref bh, .ref ik, .ref la, .ref lg, .ref ce, .int vto])), (la, .inl (G 0, 4, .inl fla)), (lg, .inl (G 0, 4, .inl flg)), (ce, .inl (G 0, 160, .inl fce))]) [0, 1, 2, 3] (by decide) rfl
      refine W.widen (k := 0) (n := 0) (by omega) (by omega) ?_
      exact W.iret (v := (-11)) hx hb hr (fun t ht hW => ⟨⟨(-11), fce, rfl, ⟨hpost, trivial⟩, ⟨by rw [ht]; exact hP9, hD9⟩⟩, hS.F ht⟩) hS.2.2 dX11_lay_27
  · skip
    have b13 := if10_n c3
    refine lv_iconst (v := (-1)) hx hb dX11_lay_12 (by decide) ?_
    have hpost : ((-1) : Int32) = if 0 ≤ k.toInt ∧ k.toInt < 4 then (if fla k.toNatClampNeg = -4 then -11 else if 0 ≤ i.toInt ∧ i.toInt < (flg k.toNatClampNeg).toInt then 1 else -12) else -1 := by
      have t_b13 := b13
      have t_n0 : (nI N).toInt = (N : Int) := nI_toInt (by omega)
      have t_n1 : (nI B).toInt = (B : Int) := nI_toInt (by omega)
      have t_n2 : (nI T).toInt = (T : Int) := nI_toInt (by omega)
      have t_n3 : (nI S).toInt = (S : Int) := nI_toInt (by omega)
      have t_n4 : (nI M).toInt = (M : Int) := nI_toInt (by omega)
      rw [if_neg (by omega)]
    have hP9 := hP.sub (ws' := [(h0, .inr (11, [.ref st, .int (nI N), .int (nI B), .ref rp, .int vrs, .int vrb, .int vhs, .int vca, .int vxs, .int vxb, .ref tp, .int (nI T), .int vfa, .int vbr, .int vba, .int vsp, .int vhe, .int vtk, .int vva, .ref cu, .ref lt, .ref od, .ref th, .ref be, .ref ln, .int (nI S), .ref ma, .int (nI M), .ref ah, .ref bh, .ref ik, .ref la, .ref lg, .ref ce, .int vto])), (la, .inl (G 0, 4, .inl fla)), (lg, .inl (G 0, 4, .inl flg)), (ce, .inl (G 0, 160, .inl fce))]) [0, 1, 2, 3] rfl
    have hD9 := hD.sub (ws' := [(h0, .inr (11, [.ref st, .int (nI N), .int (nI B), .ref rp, .int vrs, .int vrb, .int vhs, .int vca, .int vxs, .int vxb, .ref tp, .int (nI T), .int vfa, .int vbr, .int vba, .int vsp, .int vhe, .int vtk, .int vva, .ref cu, .ref lt, .ref od, .ref th, .ref be, .ref ln, .int (nI S), .ref ma, .int (nI M), .ref ah, .ref bh, .ref ik, .ref la, .ref lg, .ref ce, .int vto])), (la, .inl (G 0, 4, .inl fla)), (lg, .inl (G 0, 4, .inl flg)), (ce, .inl (G 0, 160, .inl fce))]) [0, 1, 2, 3] (by decide) rfl
    refine W.widen (k := 0) (n := 0) (by omega) (by omega) ?_
    exact W.iret (v := (-1)) hx hb hr (fun t ht hW => ⟨⟨(-1), fce, rfl, ⟨hpost, trivial⟩, ⟨by rw [ht]; exact hP9, hD9⟩⟩, hS.F ht⟩) hS.2.2 dX11_lay_13

set_option maxHeartbeats 1000000 in
set_option maxRecDepth 100000 in
theorem c_X11_read (l : Launch) (dC : Nat → ClassId) (dI : Nat → Nat → Nat) (G : Nat → ClassId) (sz : Nat) (h0 st N B rp tp T cu lt od th be ln S ma M ah bh ik la lg ce : Nat) (k lane x1 n vrs vrb vhs vca vxs vxb vfa vbr vba vsp vhe vtk vva vto : Int32) (fst : Nat → Int32) (fla : Nat → Int32) (flg : Nat → Int32) (fce : Nat → Int32) (hN : N ≤ 10) (hB : B ≤ 6) (hT : T ≤ 320) (hS0 : S ≤ 8) (hM : M ≤ 6) (hst : OKS fst) (hz : ∀ q : Nat, q < 4 → 0 ≤ (flg q).toInt ∧ (flg q).toInt ≤ 40) : Met l yX11_read (Cond.code yX11_read cX11_read 9 (some .int) :: GT) ({ frames := 3, cells := 0, slots := 0, locals := 68 } : Room) (PcW [.ref h0, .int k, .int lane, .int x1, .int n] dC dI G [(h0, .inr (11, [.ref st, .int (nI N), .int (nI B), .ref rp, .int vrs, .int vrb, .int vhs, .int vca, .int vxs, .int vxb, .ref tp, .int (nI T), .int vfa, .int vbr, .int vba, .int vsp, .int vhe, .int vtk, .int vva, .ref cu, .ref lt, .ref od, .ref th, .ref be, .ref ln, .int (nI S), .ref ma, .int (nI M), .ref ah, .ref bh, .ref ik, .ref la, .ref lg, .ref ce, .int vto])), (st, .inl (G 0, 196, .inl fst)), (la, .inl (G 0, 4, .inl fla)), (lg, .inl (G 0, 4, .inl flg)), (ce, .inl (G 0, 160, .inl fce))] sz) (va_Qi (fun (r : Int32) (u : (Nat → Int32) × Int32) => match u with | (ost, oto) => (True) ∧ OKS ost) (fun (u : (Nat → Int32) × Int32) (t : State) => match u with | (ost, oto) => va_P (dC, dI) vwCl [(h0, .inr (11, [.ref st, .int (nI N), .int (nI B), .ref rp, .int vrs, .int vrb, .int vhs, .int vca, .int vxs, .int vxb, .ref tp, .int (nI T), .int vfa, .int vbr, .int vba, .int vsp, .int vhe, .int vtk, .int vva, .ref cu, .ref lt, .ref od, .ref th, .ref be, .ref ln, .int (nI S), .ref ma, .int (nI M), .ref ah, .ref bh, .ref ik, .ref la, .ref lg, .ref ce, .int oto])), (st, .inl (G 0, 196, .inl ost)), (la, .inl (G 0, 4, .inl fla)), (lg, .inl (G 0, 4, .inl flg)), (ce, .inl (G 0, 160, .inl fce))] t.heap ∧ va_D (va_A [(h0, .inr (11, [.ref st, .int (nI N), .int (nI B), .ref rp, .int vrs, .int vrb, .int vhs, .int vca, .int vxs, .int vxb, .ref tp, .int (nI T), .int vfa, .int vbr, .int vba, .int vsp, .int vhe, .int vtk, .int vva, .ref cu, .ref lt, .ref od, .ref th, .ref be, .ref ln, .int (nI S), .ref ma, .int (nI M), .ref ah, .ref bh, .ref ik, .ref la, .ref lg, .ref ce, .int vto])), (st, .inl (G 0, 196, .inl fst)), (la, .inl (G 0, 4, .inl fla)), (lg, .inl (G 0, 4, .inl flg)), (ce, .inl (G 0, 160, .inl fce))] sz) [(h0, .inr (11, [.ref st, .int (nI N), .int (nI B), .ref rp, .int vrs, .int vrb, .int vhs, .int vca, .int vxs, .int vxb, .ref tp, .int (nI T), .int vfa, .int vbr, .int vba, .int vsp, .int vhe, .int vtk, .int vva, .ref cu, .ref lt, .ref od, .ref th, .ref be, .ref ln, .int (nI S), .ref ma, .int (nI M), .ref ah, .ref bh, .ref ik, .ref la, .ref lg, .ref ce, .int oto])), (st, .inl (G 0, 196, .inl ost)), (la, .inl (G 0, 4, .inl fla)), (lg, .inl (G 0, 4, .inl flg)), (ce, .inl (G 0, 160, .inl fce))]) (va_A [(h0, .inr (11, [.ref st, .int (nI N), .int (nI B), .ref rp, .int vrs, .int vrb, .int vhs, .int vca, .int vxs, .int vxb, .ref tp, .int (nI T), .int vfa, .int vbr, .int vba, .int vsp, .int vhe, .int vtk, .int vva, .ref cu, .ref lt, .ref od, .ref th, .ref be, .ref ln, .int (nI S), .ref ma, .int (nI M), .ref ah, .ref bh, .ref ik, .ref la, .ref lg, .ref ce, .int vto])), (st, .inl (G 0, 196, .inl fst)), (la, .inl (G 0, 4, .inl fla)), (lg, .inl (G 0, 4, .inl flg)), (ce, .inl (G 0, 160, .inl fce))] sz)) 0 0 (va_A [(h0, .inr (11, [.ref st, .int (nI N), .int (nI B), .ref rp, .int vrs, .int vrb, .int vhs, .int vca, .int vxs, .int vxb, .ref tp, .int (nI T), .int vfa, .int vbr, .int vba, .int vsp, .int vhe, .int vtk, .int vva, .ref cu, .ref lt, .ref od, .ref th, .ref be, .ref ln, .int (nI S), .ref ma, .int (nI M), .ref ah, .ref bh, .ref ik, .ref la, .ref lg, .ref ce, .int vto])), (st, .inl (G 0, 196, .inl fst)), (la, .inl (G 0, 4, .inl fla)), (lg, .inl (G 0, 4, .inl flg)), (ce, .inl (G 0, 160, .inl fce))] sz) := by
  refine Met.ofW (cc := cX11_read) (maxL := 9) (ret := (some .int)) (by decide) rfl ?_
  intro p e s m args below meth c s₁ Bd hml hv
  obtain ⟨rfl, hsz, hP, hK, hD0⟩ := hv
  have hx := Bd.exec
  have hb := Bd.bytes
  have hr := Bd.returns
  have hg : ∀ w ∈ GT, w.before ([.ref h0, .int k, .int lane, .int x1, .int n] : List Value).toArray s = true := fun w h => atoms_spec (ws := Cond.code yX11_read cX11_read 9 (some .int) :: GT) Bd.pre w (List.mem_cons_of_mem _ h)
  have hown : s.vm.findClass RX11 = some m.cls := findClass_of_methodNamed Bd.named
  have hlocks := Bd.notSynchronized
  subst hsz
  have hD := hD0.self (sz := s.heap.size)
  generalize hAe : va_A [(h0, .inr (11, [.ref st, .int (nI N), .int (nI B), .ref rp, .int vrs, .int vrb, .int vhs, .int vca, .int vxs, .int vxb, .ref tp, .int (nI T), .int vfa, .int vbr, .int vba, .int vsp, .int vhe, .int vtk, .int vva, .ref cu, .ref lt, .ref od, .ref th, .ref be, .ref ln, .int (nI S), .ref ma, .int (nI M), .ref ah, .ref bh, .ref ik, .ref la, .ref lg, .ref ce, .int vto])), (st, .inl (G 0, 196, .inl fst)), (la, .inl (G 0, 4, .inl fla)), (lg, .inl (G 0, 4, .inl flg)), (ce, .inl (G 0, 160, .inl fce))] s.heap.size = A at hD ⊢
  have hA : ∀ q : Nat, s.heap.size ≤ q → A q := fun q h => by rw [← hAe]; exact Or.inr h
  have hS : va_S A s.heap s.heap [] := va_S.rf
  have hl := lv_entry ([.ref h0, .int k, .int lane, .int x1, .int n]) (n := 9) (Nat.le_of_ble_eq_true rfl)
  rw [lg_entry_eq]
  generalize (lg_sl ([.ref h0, .int k, .int lane, .int x1, .int n]) ++ List.replicate (9 - (lg_sl ([.ref h0, .int k, .int lane, .int x1, .int n])).length) Slot.unset).toArray = ls at hl ⊢
  have hl : lv_has ls 9 [(0, .ref h0), (1, .int k), (2, .int lane), (3, .int x1), (4, .int n)] := hl
  refine lv_iload_n hx hb dX11_read_0 rfl (lv_at hl 1 rfl) ?_
  refine lv_i2l (v := k.toInt64) hx hb dX11_read_1 rfl ?_
  refine lv_lconst (v := 0) hx hb dX11_read_2 (by decide) ?_
  refine lv_ldc2 (v := 3) hx hb hown (hg _ wt_1023) dX11_read_3 ?_
  have hPc := hP.sub (ws' := []) [] rfl
  refine va_calli (va_runS (As := [.long k.toInt64, .long 0, .long 3]) (rest := []) ⟨hx, hb, hml, hown, hg⟩ (c_X11_in l dC dI G _ k.toInt64 0 3 ) (kwS hg mfX11_in wt_992 ⟨Nat.le_of_ble_eq_true rfl, Nat.le_of_ble_eq_true rfl⟩) (preSR hK hPc) rfl rfl hl.1 rfl (lv_room (Nat.le_of_ble_eq_true rfl)) dX11_read_6 ⟨Nat.le_of_ble_eq_true rfl, Nat.le_of_ble_eq_true rfl⟩) hS (fun q h1 h2 => absurd h2 (Nat.not_le.mpr h1)) (fun q h => hA q (Nat.le_trans hS.1 h)) (fun r1 ur1 t H1 locs ht hvm w2 hB hz1 hk1 hS => ?_)
  have hP := keepR hP hk1
  obtain ⟨w2, w2x⟩ := w2
  try simp only [l_ii, show (0 : Int64).toInt = 0 from by decide, show (3 : Int64).toInt = 3 from by decide] at w2
  subst w2
  have cut37_3 : ∀ (H : Heap) (locs : List Loc), va_P (dC, dI) vwCl [(h0, .inr (11, [.ref st, .int (nI N), .int (nI B), .ref rp, .int vrs, .int vrb, .int vhs, .int vca, .int vxs, .int vxb, .ref tp, .int (nI T), .int vfa, .int vbr, .int vba, .int vsp, .int vhe, .int vtk, .int vva, .ref cu, .ref lt, .ref od, .ref th, .ref be, .ref ln, .int (nI S), .ref ma, .int (nI M), .ref ah, .ref bh, .ref ik, .ref la, .ref lg, .ref ce, .int vto])), (st, .inl (G 0, 196, .inl fst)), (la, .inl (G 0, 4, .inl fla)), (lg, .inl (G 0, 4, .inl flg)), (ce, .inl (G 0, 160, .inl fce))] H → va_D A [(h0, .inr (11, [.ref st, .int (nI N), .int (nI B), .ref rp, .int vrs, .int vrb, .int vhs, .int vca, .int vxs, .int vxb, .ref tp, .int (nI T), .int vfa, .int vbr, .int vba, .int vsp, .int vhe, .int vtk, .int vva, .ref cu, .ref lt, .ref od, .ref th, .ref be, .ref ln, .int (nI S), .ref ma, .int (nI M), .ref ah, .ref bh, .ref ik, .ref la, .ref lg, .ref ce, .int vto])), (st, .inl (G 0, 196, .inl fst)), (la, .inl (G 0, 4, .inl fla)), (lg, .inl (G 0, 4, .inl flg)), (ce, .inl (G 0, 160, .inl fce))] → va_S A s.heap H locs → ∀ (ls : Array Slot), lv_has ls 9 [(0, .ref h0), (1, .int k), (2, .int lane), (3, .int x1), (4, .int n)] → W p l e (headSpec (Cond.code yX11_read cX11_read 9 (some .int) :: GT) ({ frames := 3, cells := 0, slots := 0, locals := 68 } : Room)).room s m ([.ref h0, .int k, .int lane, .int x1, .int n] : List Value).toArray below meth c H locs 0 0 (MQ below (va_Qi (fun (r : Int32) (u : (Nat → Int32) × Int32) => match u with | (ost, oto) => (True) ∧ OKS ost) (fun (u : (Nat → Int32) × Int32) (t : State) => match u with | (ost, oto) => va_P (dC, dI) vwCl [(h0, .inr (11, [.ref st, .int (nI N), .int (nI B), .ref rp, .int vrs, .int vrb, .int vhs, .int vca, .int vxs, .int vxb, .ref tp, .int (nI T), .int vfa, .int vbr, .int vba, .int vsp, .int vhe, .int vtk, .int vva, .ref cu, .ref lt, .ref od, .ref th, .ref be, .ref ln, .int (nI S), .ref ma, .int (nI M), .ref ah, .ref bh, .ref ik, .ref la, .ref lg, .ref ce, .int oto])), (st, .inl (G 0, 196, .inl ost)), (la, .inl (G 0, 4, .inl fla)), (lg, .inl (G 0, 4, .inl flg)), (ce, .inl (G 0, 160, .inl fce))] t.heap ∧ va_D A [(h0, .inr (11, [.ref st, .int (nI N), .int (nI B), .ref rp, .int vrs, .int vrb, .int vhs, .int vca, .int vxs, .int vxb, .ref tp, .int (nI T), .int vfa, .int vbr, .int vba, .int vsp, .int vhe, .int vtk, .int vva, .ref cu, .ref lt, .ref od, .ref th, .ref be, .ref ln, .int (nI S), .ref ma, .int (nI M), .ref ah, .ref bh, .ref ik, .ref la, .ref lg, .ref ce, .int oto])), (st, .inl (G 0, 196, .inl ost)), (la, .inl (G 0, 4, .inl fla)), (lg, .inl (G 0, 4, .inl flg)), (ce, .inl (G 0, 160, .inl fce))]) A) ([.ref h0, .int k, .int lane, .int x1, .int n] : List Value).toArray s 0 0 A) (F0 m 37 ls []) := by
    intro  H locs hP hD hS ls hl
    refine lv_iconst (v := (-1)) hx hb dX11_read_37 (by decide) ?_
    have hpost : True := by
      trivial
    have hP9 := hP.sub (ws' := [(h0, .inr (11, [.ref st, .int (nI N), .int (nI B), .ref rp, .int vrs, .int vrb, .int vhs, .int vca, .int vxs, .int vxb, .ref tp, .int (nI T), .int vfa, .int vbr, .int vba, .int vsp, .int vhe, .int vtk, .int vva, .ref cu, .ref lt, .ref od, .ref th, .ref be, .ref ln, .int (nI S), .ref ma, .int (nI M), .ref ah, .ref bh, .ref ik, .ref la, .ref lg, .ref ce, .int vto])), (st, .inl (G 0, 196, .inl fst)), (la, .inl (G 0, 4, .inl fla)), (lg, .inl (G 0, 4, .inl flg)), (ce, .inl (G 0, 160, .inl fce))]) [0, 1, 2, 3, 4] rfl
    have hD9 := hD.sub (ws' := [(h0, .inr (11, [.ref st, .int (nI N), .int (nI B), .ref rp, .int vrs, .int vrb, .int vhs, .int vca, .int vxs, .int vxb, .ref tp, .int (nI T), .int vfa, .int vbr, .int vba, .int vsp, .int vhe, .int vtk, .int vva, .ref cu, .ref lt, .ref od, .ref th, .ref be, .ref ln, .int (nI S), .ref ma, .int (nI M), .ref ah, .ref bh, .ref ik, .ref la, .ref lg, .ref ce, .int vto])), (st, .inl (G 0, 196, .inl fst)), (la, .inl (G 0, 4, .inl fla)), (lg, .inl (G 0, 4, .inl flg)), (ce, .inl (G 0, 160, .inl fce))]) [0, 1, 2, 3, 4] (by decide) rfl
    refine W.widen (k := 0) (n := 0) (by omega) (by omega) ?_
    exact W.iret (v := (-1)) hx hb hr (fun t ht hW => ⟨⟨(-1), (fst, vto), rfl, ⟨hpost, hst⟩, ⟨by rw [ht]; exact hP9, hD9⟩⟩, hS.F ht⟩) hS.2.2 dX11_read_38
  refine lv_if_eq (tgt := 37) hx hb dX11_read_9 (by decide) (fun c4 => ?_) (fun c4 => ?_)
  · skip
    have b5 := if10_n c4
    exact cut37_3  _ _ hP hD hS ls (lv_sub hl [0, 1, 2, 3, 4] rfl)
  · skip
    have b6 := if10_p c4
    refine lv_iload_n hx hb dX11_read_12 rfl (lv_at hl 2 rfl) ?_
    refine lv_i2l (v := lane.toInt64) hx hb dX11_read_13 rfl ?_
    refine lv_lconst (v := 0) hx hb dX11_read_14 (by decide) ?_
    refine lv_ldc2 (v := 2) hx hb hown (hg _ wt_1056) dX11_read_15 ?_
    have hPc := hP.sub (ws' := []) [] rfl
    refine va_calli (va_runS (As := [.long lane.toInt64, .long 0, .long 2]) (rest := []) ⟨hx, hb, hml, hown, hg⟩ (c_X11_in l dC dI G _ lane.toInt64 0 2 ) (kwS hg mfX11_in wt_992 ⟨Nat.le_of_ble_eq_true rfl, Nat.le_of_ble_eq_true rfl⟩) (preSR hK hPc) rfl rfl hl.1 rfl (lv_room (Nat.le_of_ble_eq_true rfl)) dX11_read_18 ⟨Nat.le_of_ble_eq_true rfl, Nat.le_of_ble_eq_true rfl⟩) hS (fun q h1 h2 => absurd h2 (Nat.not_le.mpr h1)) (fun q h => hA q (Nat.le_trans hS.1 h)) (fun r7 ur7 t H1 locs ht hvm w8 hB hz1 hk1 hS => ?_)
    have hP := keepR hP hk1
    obtain ⟨w8, w8x⟩ := w8
    try simp only [l_ii, show (0 : Int64).toInt = 0 from by decide, show (2 : Int64).toInt = 2 from by decide] at w8
    subst w8
    refine lv_if_eq (tgt := 37) hx hb dX11_read_21 (by decide) (fun c9 => ?_) (fun c9 => ?_)
    · skip
      have b10 := if10_n c9
      exact cut37_3  _ _ hP hD hS ls (lv_sub hl [0, 1, 2, 3, 4] rfl)
    · skip
      have b11 := if10_p c9
      refine lv_iload hx hb dX11_read_24 (lv_at hl 4 rfl) ?_
      refine lv_i2l (v := n.toInt64) hx hb dX11_read_26 rfl ?_
      refine lv_lconst (v := 0) hx hb dX11_read_27 (by decide) ?_
      refine lv_ldc2 (v := 20) hx hb hown (hg _ wt_1127) dX11_read_28 ?_
      have hPc := hP.sub (ws' := []) [] rfl
      refine va_calli (va_runS (As := [.long n.toInt64, .long 0, .long 20]) (rest := []) ⟨hx, hb, hml, hown, hg⟩ (c_X11_in l dC dI G _ n.toInt64 0 20 ) (kwS hg mfX11_in wt_992 ⟨Nat.le_of_ble_eq_true rfl, Nat.le_of_ble_eq_true rfl⟩) (preSR hK hPc) rfl rfl hl.1 rfl (lv_room (Nat.le_of_ble_eq_true rfl)) dX11_read_31 ⟨Nat.le_of_ble_eq_true rfl, Nat.le_of_ble_eq_true rfl⟩) hS (fun q h1 h2 => absurd h2 (Nat.not_le.mpr h1)) (fun q h => hA q (Nat.le_trans hS.1 h)) (fun r12 ur12 t H1 locs ht hvm w13 hB hz1 hk1 hS => ?_)
      have hP := keepR hP hk1
      obtain ⟨w13, w13x⟩ := w13
      try simp only [l_ii, show (0 : Int64).toInt = 0 from by decide, show (20 : Int64).toInt = 20 from by decide] at w13
      subst w13
      refine lv_if_ne (tgt := 39) hx hb dX11_read_34 (by decide) (fun c14 => ?_) (fun c14 => ?_)
      · skip
        have b15 := if10_p c14
        obtain ⟨kk, hkk, rfl⟩ : ∃ j : Nat, j < 4 ∧ k = nI j := by
          have t_b6 := b6
          have t_b11 := b11
          have t_b15 := b15
          have t_n0 : (nI N).toInt = (N : Int) := nI_toInt (by omega)
          have t_n1 : (nI B).toInt = (B : Int) := nI_toInt (by omega)
          have t_n2 : (nI T).toInt = (T : Int) := nI_toInt (by omega)
          have t_n3 : (nI S).toInt = (S : Int) := nI_toInt (by omega)
          have t_n4 : (nI M).toInt = (M : Int) := nI_toInt (by omega)
          exact i32_nat (by omega) (by omega)
        obtain ⟨nn, hnn, rfl⟩ : ∃ j : Nat, j < 21 ∧ n = nI j := by
          have t_b6 := b6
          have t_b11 := b11
          have t_b15 := b15
          have t_hkk := hkk
          have t_n0 : (nI N).toInt = (N : Int) := nI_toInt (by omega)
          have t_n1 : (nI B).toInt = (B : Int) := nI_toInt (by omega)
          have t_n2 : (nI T).toInt = (T : Int) := nI_toInt (by omega)
          have t_n3 : (nI S).toInt = (S : Int) := nI_toInt (by omega)
          have t_n4 : (nI M).toInt = (M : Int) := nI_toInt (by omega)
          have t_n5 : (nI kk).toInt = (kk : Int) := nI_toInt (by omega)
          exact i32_nat (by omega) (by omega)
        refine lv_aload_n hx hb dX11_read_39 rfl (lv_at hl 0 rfl) ?_
        refine lv_iconst (v := 0) hx hb dX11_read_40 (by decide) ?_
        refine lv_sipush (v := 147) hx hb dX11_read_41 (by decide) ?_
        have hPc := hP.sub (ws' := [(h0, .inr (11, [.ref st, .int (nI N), .int (nI B), .ref rp, .int vrs, .int vrb, .int vhs, .int vca, .int vxs, .int vxb, .ref tp, .int (nI T), .int vfa, .int vbr, .int vba, .int vsp, .int vhe, .int vtk, .int vva, .ref cu, .ref lt, .ref od, .ref th, .ref be, .ref ln, .int (nI S), .ref ma, .int (nI M), .ref ah, .ref bh, .ref ik, .ref la, .ref lg, .ref ce, .int vto])), (st, .inl (G 0, 196, .inl fst))]) [0, 1] rfl
        have hDc := hD.sub (ws' := [(h0, .inr (11, [.ref st, .int (nI N), .int (nI B), .ref rp, .int vrs, .int vrb, .int vhs, .int vca, .int vxs, .int vxb, .ref tp, .int (nI T), .int vfa, .int vbr, .int vba, .int vsp, .int vhe, .int vtk, .int vva, .ref cu, .ref lt, .ref od, .ref th, .ref be, .ref ln, .int (nI S), .ref ma, .int (nI M), .ref ah, .ref bh, .ref ik, .ref la, .ref lg, .ref ce, .int vto])), (st, .inl (G 0, 196, .inl fst))]) [0, 1] (by decide) rfl
        have hFc := va_free (wc := [(h0, .inr (11, [.ref st, .int (nI N), .int (nI B), .ref rp, .int vrs, .int vrb, .int vhs, .int vca, .int vxs, .int vxb, .ref tp, .int (nI T), .int vfa, .int vbr, .int vba, .int vsp, .int vhe, .int vtk, .int vva, .ref cu, .ref lt, .ref od, .ref th, .ref be, .ref ln, .int (nI S), .ref ma, .int (nI M), .ref ah, .ref bh, .ref ik, .ref la, .ref lg, .ref ce, .int vto])), (st, .inl (G 0, 196, .inl fst))]) hD hS hA [0, 1] rfl
        refine va_callv (va_runV (As := [.int 0, .int 147]) (rest := []) ⟨hx, hb, hml, hown, hg⟩ (c_X11_copies l dC dI G _ h0 0 147 st N B rp tp T cu lt od th be ln S ma M ah bh ik la lg ce vrs vrb vhs vca vxs vxb vfa vbr vba vsp vhe vtk vva vto fst (by have t_b6 := b6; have t_b11 := b11; have t_b15 := b15; have t_hkk := hkk; have t_hnn := hnn; have t_n0 : (nI N).toInt = (N : Int) := nI_toInt (by omega); have t_n1 : (nI B).toInt = (B : Int) := nI_toInt (by omega); have t_n2 : (nI T).toInt = (T : Int) := nI_toInt (by omega); have t_n3 : (nI S).toInt = (S : Int) := nI_toInt (by omega); have t_n4 : (nI M).toInt = (M : Int) := nI_toInt (by omega); have t_n5 : (nI kk).toInt = (kk : Int) := nI_toInt (by omega); have t_n6 : (nI nn).toInt = (nn : Int) := nI_toInt (by omega); omega) (by have t_b6 := b6; have t_b11 := b11; have t_b15 := b15; have t_hkk := hkk; have t_hnn := hnn; have t_n0 : (nI N).toInt = (N : Int) := nI_toInt (by omega); have t_n1 : (nI B).toInt = (B : Int) := nI_toInt (by omega); have t_n2 : (nI T).toInt = (T : Int) := nI_toInt (by omega); have t_n3 : (nI S).toInt = (S : Int) := nI_toInt (by omega); have t_n4 : (nI M).toInt = (M : Int) := nI_toInt (by omega); have t_n5 : (nI kk).toInt = (kk : Int) := nI_toInt (by omega); have t_n6 : (nI nn).toInt = (nn : Int) := nI_toInt (by omega); omega) (by have t_b6 := b6; have t_b11 := b11; have t_b15 := b15; have t_hkk := hkk; have t_hnn := hnn; have t_n0 : (nI N).toInt = (N : Int) := nI_toInt (by omega); have t_n1 : (nI B).toInt = (B : Int) := nI_toInt (by omega); have t_n2 : (nI T).toInt = (T : Int) := nI_toInt (by omega); have t_n3 : (nI S).toInt = (S : Int) := nI_toInt (by omega); have t_n4 : (nI M).toInt = (M : Int) := nI_toInt (by omega); have t_n5 : (nI kk).toInt = (kk : Int) := nI_toInt (by omega); have t_n6 : (nI nn).toInt = (nn : Int) := nI_toInt (by omega); omega) (by have t_b6 := b6; have t_b11 := b11; have t_b15 := b15; have t_hkk := hkk; have t_hnn := hnn; have t_n0 : (nI N).toInt = (N : Int) := nI_toInt (by omega); have t_n1 : (nI B).toInt = (B : Int) := nI_toInt (by omega); have t_n2 : (nI T).toInt = (T : Int) := nI_toInt (by omega); have t_n3 : (nI S).toInt = (S : Int) := nI_toInt (by omega); have t_n4 : (nI M).toInt = (M : Int) := nI_toInt (by omega); have t_n5 : (nI kk).toInt = (kk : Int) := nI_toInt (by omega); have t_n6 : (nI nn).toInt = (nn : Int) := nI_toInt (by omega); omega) (by have t_b6 := b6; have t_b11 := b11; have t_b15 := b15; have t_hkk := hkk; have t_hnn := hnn; have t_n0 : (nI N).toInt = (N : Int) := nI_toInt (by omega); have t_n1 : (nI B).toInt = (B : Int) := nI_toInt (by omega); have t_n2 : (nI T).toInt = (T : Int) := nI_toInt (by omega); have t_n3 : (nI S).toInt = (S : Int) := nI_toInt (by omega); have t_n4 : (nI M).toInt = (M : Int) := nI_toInt (by omega); have t_n5 : (nI kk).toInt = (kk : Int) := nI_toInt (by omega); have t_n6 : (nI nn).toInt = (nn : Int) := nI_toInt (by omega); omega) hst (by have t_b6 := b6; have t_b11 := b11; have t_b15 := b15; have t_hkk := hkk; have t_hnn := hnn; have t_n0 : (nI N).toInt = (N : Int) := nI_toInt (by omega); have t_n1 : (nI B).toInt = (B : Int) := nI_toInt (by omega); have t_n2 : (nI T).toInt = (T : Int) := nI_toInt (by omega); have t_n3 : (nI S).toInt = (S : Int) := nI_toInt (by omega); have t_n4 : (nI M).toInt = (M : Int) := nI_toInt (by omega); have t_n5 : (nI kk).toInt = (kk : Int) := nI_toInt (by omega); have t_n6 : (nI nn).toInt = (nn : Int) := nI_toInt (by omega); omega) (by have t_b6 := b6; have t_b11 := b11; have t_b15 := b15; have t_hkk := hkk; have t_hnn := hnn; have t_n0 : (nI N).toInt = (N : Int) := nI_toInt (by omega); have t_n1 : (nI B).toInt = (B : Int) := nI_toInt (by omega); have t_n2 : (nI T).toInt = (T : Int) := nI_toInt (by omega); have t_n3 : (nI S).toInt = (S : Int) := nI_toInt (by omega); have t_n4 : (nI M).toInt = (M : Int) := nI_toInt (by omega); have t_n5 : (nI kk).toInt = (kk : Int) := nI_toInt (by omega); have t_n6 : (nI nn).toInt = (nn : Int) := nI_toInt (by omega); omega)) (kwV hg mfX11_copies wt_1248 ⟨Nat.le_of_ble_eq_true rfl, Nat.le_of_ble_eq_true rfl⟩) (preVW hK hPc hDc (ci := 11) rfl rfl) rfl rfl hl.1 rfl (lv_room (Nat.le_of_ble_eq_true rfl)) dX11_read_44 ⟨Nat.le_of_ble_eq_true rfl, Nat.le_of_ble_eq_true rfl⟩) hS (fun q _ h => hFc q h) hFc (fun ur16 t H1 locs ht hvm w17 hB hz1 hk1 hS => ?_)
        obtain ⟨u18, rfl⟩ : ∃ z, z = ur16 := ⟨_, rfl⟩
        obtain ⟨hP1, hD1⟩ := hB
        rw [ht] at hP1
        obtain ⟨hP, hD⟩ := va_join (wr := [(la, .inl (G 0, 4, .inl fla)), (lg, .inl (G 0, 4, .inl flg)), (ce, .inl (G 0, 160, .inl fce))]) (w1 := [(h0, .inr (11, [.ref st, .int (nI N), .int (nI B), .ref rp, .int vrs, .int vrb, .int vhs, .int vca, .int vxs, .int vxb, .ref tp, .int (nI T), .int vfa, .int vbr, .int vba, .int vsp, .int vhe, .int vtk, .int vva, .ref cu, .ref lt, .ref od, .ref th, .ref be, .ref ln, .int (nI S), .ref ma, .int (nI M), .ref ah, .ref bh, .ref ik, .ref la, .ref lg, .ref ce, .int vto])), (st, .inl (G 0, 196, .inl u18))]) hP hD [0, 1] [2, 3, 4] rfl rfl (by decide) (by decide) hk1 hFc hP1 hD1
        have w17 : OKS u18 := w17
        generalize H1 = H at hP hS ⊢
        have hP : va_P (dC, dI) vwCl [(la, .inl (G 0, 4, .inl fla)), (lg, .inl (G 0, 4, .inl flg)), (ce, .inl (G 0, 160, .inl fce)), (h0, .inr (11, [.ref st, .int (nI N), .int (nI B), .ref rp, .int vrs, .int vrb, .int vhs, .int vca, .int vxs, .int vxb, .ref tp, .int (nI T), .int vfa, .int vbr, .int vba, .int vsp, .int vhe, .int vtk, .int vva, .ref cu, .ref lt, .ref od, .ref th, .ref be, .ref ln, .int (nI S), .ref ma, .int (nI M), .ref ah, .ref bh, .ref ik, .ref la, .ref lg, .ref ce, .int vto])), (st, .inl (G 0, 196, .inl u18))] H := hP
        have hD : va_D A [(la, .inl (G 0, 4, .inl fla)), (lg, .inl (G 0, 4, .inl flg)), (ce, .inl (G 0, 160, .inl fce)), (h0, .inr (11, [.ref st, .int (nI N), .int (nI B), .ref rp, .int vrs, .int vrb, .int vhs, .int vca, .int vxs, .int vxb, .ref tp, .int (nI T), .int vfa, .int vbr, .int vba, .int vsp, .int vhe, .int vtk, .int vva, .ref cu, .ref lt, .ref od, .ref th, .ref be, .ref ln, .int (nI S), .ref ma, .int (nI M), .ref ah, .ref bh, .ref ik, .ref la, .ref lg, .ref ce, .int vto])), (st, .inl (G 0, 196, .inl u18))] := hD
        refine lv_iconst (v := 0) hx hb dX11_read_47 (by decide) ?_
        refine lv_istore (lv' := [(5, .int 0), (0, .ref h0), (1, .int (nI kk)), (2, .int lane), (3, .int x1), (4, .int (nI nn))]) hx hb dX11_read_48 hl (by decide) rfl (fun ls hl => ?_)
        refine lv_iconst (v := 0) hx hb dX11_read_50 (by decide) ?_
        refine lv_istore (lv' := [(6, .int 0), (5, .int 0), (0, .ref h0), (1, .int (nI kk)), (2, .int lane), (3, .int x1), (4, .int (nI nn))]) hx hb dX11_read_51 hl (by decide) rfl (fun ls hl => ?_)
        refine lv_iconst (v := 0) hx hb dX11_read_53 (by decide) ?_
        refine lv_istore (lv' := [(7, .int 0), (6, .int 0), (5, .int 0), (0, .ref h0), (1, .int (nI kk)), (2, .int lane), (3, .int x1), (4, .int (nI nn))]) hx hb dX11_read_54 hl (by decide) rfl (fun ls hl => ?_)
        have loop56_23 : ∀ (nf j19 : Nat), (2 * nn) + 1 ≤ j19 + nf → j19 ≤ (2 * nn) → ∀ (y20 : Int32) (y21 : Int32) (g22 : Nat → Int32) (H : Heap) (locs : List Loc), ((j19 = 0 ∨ y21.toInt ≠ 0 ∨ 0 ≤ x1.toInt) ∧ OKS g22) → va_P (dC, dI) vwCl [(la, .inl (G 0, 4, .inl fla)), (lg, .inl (G 0, 4, .inl flg)), (ce, .inl (G 0, 160, .inl fce)), (h0, .inr (11, [.ref st, .int (nI N), .int (nI B), .ref rp, .int vrs, .int vrb, .int vhs, .int vca, .int vxs, .int vxb, .ref tp, .int (nI T), .int vfa, .int vbr, .int vba, .int vsp, .int vhe, .int vtk, .int vva, .ref cu, .ref lt, .ref od, .ref th, .ref be, .ref ln, .int (nI S), .ref ma, .int (nI M), .ref ah, .ref bh, .ref ik, .ref la, .ref lg, .ref ce, .int vto])), (st, .inl (G 0, 196, .inl g22))] H → va_D A [(la, .inl (G 0, 4, .inl fla)), (lg, .inl (G 0, 4, .inl flg)), (ce, .inl (G 0, 160, .inl fce)), (h0, .inr (11, [.ref st, .int (nI N), .int (nI B), .ref rp, .int vrs, .int vrb, .int vhs, .int vca, .int vxs, .int vxb, .ref tp, .int (nI T), .int vfa, .int vbr, .int vba, .int vsp, .int vhe, .int vtk, .int vva, .ref cu, .ref lt, .ref od, .ref th, .ref be, .ref ln, .int (nI S), .ref ma, .int (nI M), .ref ah, .ref bh, .ref ik, .ref la, .ref lg, .ref ce, .int vto])), (st, .inl (G 0, 196, .inl g22))] → va_S A s.heap H locs → ∀ (ls : Array Slot), lv_has ls 9 [(7, .int (nI j19)), (6, .int y20), (5, .int y21), (0, .ref h0), (1, .int (nI kk)), (2, .int lane), (3, .int x1), (4, .int (nI nn))] → W p l e (headSpec (Cond.code yX11_read cX11_read 9 (some .int) :: GT) ({ frames := 3, cells := 0, slots := 0, locals := 68 } : Room)).room s m ([.ref h0, .int (nI kk), .int lane, .int x1, .int (nI nn)] : List Value).toArray below meth c H locs 0 0 (MQ below (va_Qi (fun (r : Int32) (u : (Nat → Int32) × Int32) => match u with | (ost, oto) => (True) ∧ OKS ost) (fun (u : (Nat → Int32) × Int32) (t : State) => match u with | (ost, oto) => va_P (dC, dI) vwCl [(h0, .inr (11, [.ref st, .int (nI N), .int (nI B), .ref rp, .int vrs, .int vrb, .int vhs, .int vca, .int vxs, .int vxb, .ref tp, .int (nI T), .int vfa, .int vbr, .int vba, .int vsp, .int vhe, .int vtk, .int vva, .ref cu, .ref lt, .ref od, .ref th, .ref be, .ref ln, .int (nI S), .ref ma, .int (nI M), .ref ah, .ref bh, .ref ik, .ref la, .ref lg, .ref ce, .int oto])), (st, .inl (G 0, 196, .inl ost)), (la, .inl (G 0, 4, .inl fla)), (lg, .inl (G 0, 4, .inl flg)), (ce, .inl (G 0, 160, .inl fce))] t.heap ∧ va_D A [(h0, .inr (11, [.ref st, .int (nI N), .int (nI B), .ref rp, .int vrs, .int vrb, .int vhs, .int vca, .int vxs, .int vxb, .ref tp, .int (nI T), .int vfa, .int vbr, .int vba, .int vsp, .int vhe, .int vtk, .int vva, .ref cu, .ref lt, .ref od, .ref th, .ref be, .ref ln, .int (nI S), .ref ma, .int (nI M), .ref ah, .ref bh, .ref ik, .ref la, .ref lg, .ref ce, .int oto])), (st, .inl (G 0, 196, .inl ost)), (la, .inl (G 0, 4, .inl fla)), (lg, .inl (G 0, 4, .inl flg)), (ce, .inl (G 0, 160, .inl fce))]) A) ([.ref h0, .int (nI kk), .int lane, .int x1, .int (nI nn)] : List Value).toArray s 0 0 A) (F0 m 56 ls []) := by
          intro nf
          induction nf with
          | zero => intro j19 h1 h2; exact absurd h1 (by omega)
          | succ nf ih56_23 =>
            intro j19 hn24 hj25 y20 y21 g22 H locs hinv hP hD hS ls hl
            refine lv_iload hx hb dX11_read_56 (lv_at hl 0 rfl) ?_
            refine lv_iconst (v := 2) hx hb dX11_read_58 (by decide) ?_
            refine lv_iload hx hb dX11_read_59 (lv_at hl 7 rfl) ?_
            refine lv_imul hx hb dX11_read_61 ?_
            refine lv_cg (y := nI (2 * nn)) (by rw [show (2 : Int32) = nI 2 from rfl]; exact pk_mul _ _) ?_
            have cut198_26 : ∀ (H : Heap) (locs : List Loc), va_P (dC, dI) vwCl [(la, .inl (G 0, 4, .inl fla)), (lg, .inl (G 0, 4, .inl flg)), (ce, .inl (G 0, 160, .inl fce)), (h0, .inr (11, [.ref st, .int (nI N), .int (nI B), .ref rp, .int vrs, .int vrb, .int vhs, .int vca, .int vxs, .int vxb, .ref tp, .int (nI T), .int vfa, .int vbr, .int vba, .int vsp, .int vhe, .int vtk, .int vva, .ref cu, .ref lt, .ref od, .ref th, .ref be, .ref ln, .int (nI S), .ref ma, .int (nI M), .ref ah, .ref bh, .ref ik, .ref la, .ref lg, .ref ce, .int vto])), (st, .inl (G 0, 196, .inl g22))] H → va_D A [(la, .inl (G 0, 4, .inl fla)), (lg, .inl (G 0, 4, .inl flg)), (ce, .inl (G 0, 160, .inl fce)), (h0, .inr (11, [.ref st, .int (nI N), .int (nI B), .ref rp, .int vrs, .int vrb, .int vhs, .int vca, .int vxs, .int vxb, .ref tp, .int (nI T), .int vfa, .int vbr, .int vba, .int vsp, .int vhe, .int vtk, .int vva, .ref cu, .ref lt, .ref od, .ref th, .ref be, .ref ln, .int (nI S), .ref ma, .int (nI M), .ref ah, .ref bh, .ref ik, .ref la, .ref lg, .ref ce, .int vto])), (st, .inl (G 0, 196, .inl g22))] → va_S A s.heap H locs → ∀ (ls : Array Slot), lv_has ls 9 [(7, .int (nI j19)), (6, .int y20), (5, .int y21), (0, .ref h0), (1, .int (nI kk)), (2, .int lane), (3, .int x1), (4, .int (nI nn))] → W p l e (headSpec (Cond.code yX11_read cX11_read 9 (some .int) :: GT) ({ frames := 3, cells := 0, slots := 0, locals := 68 } : Room)).room s m ([.ref h0, .int (nI kk), .int lane, .int x1, .int (nI nn)] : List Value).toArray below meth c H locs 0 0 (MQ below (va_Qi (fun (r : Int32) (u : (Nat → Int32) × Int32) => match u with | (ost, oto) => (True) ∧ OKS ost) (fun (u : (Nat → Int32) × Int32) (t : State) => match u with | (ost, oto) => va_P (dC, dI) vwCl [(h0, .inr (11, [.ref st, .int (nI N), .int (nI B), .ref rp, .int vrs, .int vrb, .int vhs, .int vca, .int vxs, .int vxb, .ref tp, .int (nI T), .int vfa, .int vbr, .int vba, .int vsp, .int vhe, .int vtk, .int vva, .ref cu, .ref lt, .ref od, .ref th, .ref be, .ref ln, .int (nI S), .ref ma, .int (nI M), .ref ah, .ref bh, .ref ik, .ref la, .ref lg, .ref ce, .int oto])), (st, .inl (G 0, 196, .inl ost)), (la, .inl (G 0, 4, .inl fla)), (lg, .inl (G 0, 4, .inl flg)), (ce, .inl (G 0, 160, .inl fce))] t.heap ∧ va_D A [(h0, .inr (11, [.ref st, .int (nI N), .int (nI B), .ref rp, .int vrs, .int vrb, .int vhs, .int vca, .int vxs, .int vxb, .ref tp, .int (nI T), .int vfa, .int vbr, .int vba, .int vsp, .int vhe, .int vtk, .int vva, .ref cu, .ref lt, .ref od, .ref th, .ref be, .ref ln, .int (nI S), .ref ma, .int (nI M), .ref ah, .ref bh, .ref ik, .ref la, .ref lg, .ref ce, .int oto])), (st, .inl (G 0, 196, .inl ost)), (la, .inl (G 0, 4, .inl fla)), (lg, .inl (G 0, 4, .inl flg)), (ce, .inl (G 0, 160, .inl fce))]) A) ([.ref h0, .int (nI kk), .int lane, .int x1, .int (nI nn)] : List Value).toArray s 0 0 A) (F0 m 198 ls []) := by
              intro  H locs hP hD hS ls hl
              refine lv_aload_n hx hb dX11_read_198 rfl (lv_at hl 3 rfl) ?_
              refine lv_iload hx hb dX11_read_199 (lv_at hl 2 rfl) ?_
              refine va_put (D := (dC, dI)) (ci := 11) (v := .int y21) (ty := .int) (C := RX11) (T := TX11) (N := 35) hx hb hg inG11 tyX11 tyX11_ok nmX11 hown hK.1 hP hD hS 3 rfl rfl 34 (by decide) (hg _ wt_912) (fun _ h9 => h9) rfl (by decide +kernel) rfl rfl (Nat.le_of_ble_eq_true rfl) dX11_read_201 (fun H locs hP hD hS => ?_)
              have hP : va_P (dC, dI) vwCl [(la, .inl (G 0, 4, .inl fla)), (lg, .inl (G 0, 4, .inl flg)), (ce, .inl (G 0, 160, .inl fce)), (h0, .inr (11, [.ref st, .int (nI N), .int (nI B), .ref rp, .int vrs, .int vrb, .int vhs, .int vca, .int vxs, .int vxb, .ref tp, .int (nI T), .int vfa, .int vbr, .int vba, .int vsp, .int vhe, .int vtk, .int vva, .ref cu, .ref lt, .ref od, .ref th, .ref be, .ref ln, .int (nI S), .ref ma, .int (nI M), .ref ah, .ref bh, .ref ik, .ref la, .ref lg, .ref ce, .int y21])), (st, .inl (G 0, 196, .inl g22))] H := hP
              have hD : va_D A [(la, .inl (G 0, 4, .inl fla)), (lg, .inl (G 0, 4, .inl flg)), (ce, .inl (G 0, 160, .inl fce)), (h0, .inr (11, [.ref st, .int (nI N), .int (nI B), .ref rp, .int vrs, .int vrb, .int vhs, .int vca, .int vxs, .int vxb, .ref tp, .int (nI T), .int vfa, .int vbr, .int vba, .int vsp, .int vhe, .int vtk, .int vva, .ref cu, .ref lt, .ref od, .ref th, .ref be, .ref ln, .int (nI S), .ref ma, .int (nI M), .ref ah, .ref bh, .ref ik, .ref la, .ref lg, .ref ce, .int y21])), (st, .inl (G 0, 196, .inl g22))] := hD
              refine lv_iload hx hb dX11_read_204 (lv_at hl 1 rfl) ?_
              have hpost : True := by
                trivial
              have hP9 := hP.sub (ws' := [(h0, .inr (11, [.ref st, .int (nI N), .int (nI B), .ref rp, .int vrs, .int vrb, .int vhs, .int vca, .int vxs, .int vxb, .ref tp, .int (nI T), .int vfa, .int vbr, .int vba, .int vsp, .int vhe, .int vtk, .int vva, .ref cu, .ref lt, .ref od, .ref th, .ref be, .ref ln, .int (nI S), .ref ma, .int (nI M), .ref ah, .ref bh, .ref ik, .ref la, .ref lg, .ref ce, .int y21])), (st, .inl (G 0, 196, .inl g22)), (la, .inl (G 0, 4, .inl fla)), (lg, .inl (G 0, 4, .inl flg)), (ce, .inl (G 0, 160, .inl fce))]) [3, 4, 0, 1, 2] rfl
              have hD9 := hD.sub (ws' := [(h0, .inr (11, [.ref st, .int (nI N), .int (nI B), .ref rp, .int vrs, .int vrb, .int vhs, .int vca, .int vxs, .int vxb, .ref tp, .int (nI T), .int vfa, .int vbr, .int vba, .int vsp, .int vhe, .int vtk, .int vva, .ref cu, .ref lt, .ref od, .ref th, .ref be, .ref ln, .int (nI S), .ref ma, .int (nI M), .ref ah, .ref bh, .ref ik, .ref la, .ref lg, .ref ce, .int y21])), (st, .inl (G 0, 196, .inl g22)), (la, .inl (G 0, 4, .inl fla)), (lg, .inl (G 0, 4, .inl flg)), (ce, .inl (G 0, 160, .inl fce))]) [3, 4, 0, 1, 2] (by decide) rfl
              refine W.widen (k := 0) (n := 0) (by omega) (by omega) ?_
              exact W.iret (v := y20) hx hb hr (fun t ht hW => ⟨⟨y20, (g22, y21), rfl, ⟨hpost, hinv.2⟩, ⟨by rw [ht]; exact hP9, hD9⟩⟩, hS.F ht⟩) hS.2.2 dX11_read_206
            refine lv_icmp_ge (tgt := 198) hx hb dX11_read_62 (by decide) (fun c27 => ?_) (fun c27 => ?_)
            · skip
              have n28 : (2 * nn) ≤ j19 := by have t := leI c27; rw [nI_toInt (n := j19) (by omega)] at t; rw [nI_toInt (n := (2 * nn)) (by omega)] at t; omega
              exact cut198_26  _ _ hP hD hS ls (lv_sub hl [0, 1, 2, 3, 4, 5, 6, 7] rfl)
            · skip
              have n29 : j19 < (2 * nn) := by have t := nleI c27; rw [nI_toInt (n := j19) (by omega)] at t; rw [nI_toInt (n := (2 * nn)) (by omega)] at t; omega
              refine lv_iload hx hb dX11_read_65 (lv_at hl 2 rfl) ?_
              refine lv_if_ne (tgt := 198) hx hb dX11_read_67 (by decide) (fun c30 => ?_) (fun c30 => ?_)
              · skip
                exact cut198_26  _ _ hP hD hS ls (lv_sub hl [0, 1, 2, 3, 4, 5, 6, 7] rfl)
              · skip
                refine lv_aload_n hx hb dX11_read_70 rfl (lv_at hl 3 rfl) ?_
                refine va_get (D := (dC, dI)) (ci := 11) (v := .ref la) (C := RX11) (T := TX11) (N := 35) hx hb hg inG11 hown hK.1 hP 3 rfl rfl 31 (by decide) (hg _ wt_909) (fun _ h9 => h9) rfl dX11_read_71 ?_
                refine lv_iload_n hx hb dX11_read_74 rfl (lv_at hl 4 rfl) ?_
                refine va_iald hx hb hK.1 hP 0 0 rfl rfl (vp_in_nI (by have t_b6 := b6; have t_b11 := b11; have t_b15 := b15; have t_hkk := hkk; have t_hnn := hnn; have t_hj25 := hj25; have t_n29 := n29; have t_c30 := eqI c30; have : (0 : Int32).toInt = 0 := (by decide); have t_n0 : (nI N).toInt = (N : Int) := nI_toInt (by omega); have t_n1 : (nI B).toInt = (B : Int) := nI_toInt (by omega); have t_n2 : (nI T).toInt = (T : Int) := nI_toInt (by omega); have t_n3 : (nI S).toInt = (S : Int) := nI_toInt (by omega); have t_n4 : (nI M).toInt = (M : Int) := nI_toInt (by omega); have t_n5 : (nI kk).toInt = (kk : Int) := nI_toInt (by omega); have t_n6 : (nI nn).toInt = (nn : Int) := nI_toInt (by omega); have t_n7 : (nI j19).toInt = (j19 : Int) := nI_toInt (by omega); omega) (by decide)) dX11_read_75 ?_
                refine lv_cg (y := fla kk) (by rw [nI_clamp (by omega)]) ?_
                refine lv_bipush (v := (-4)) hx hb dX11_read_76 (by decide) ?_
                refine lv_icmp_ne (tgt := 85) hx hb dX11_read_78 (by decide) (fun c31 => ?_) (fun c31 => ?_)
                · skip
                  refine lv_aload_n hx hb dX11_read_85 rfl (lv_at hl 3 rfl) ?_
                  refine va_get (D := (dC, dI)) (ci := 11) (v := .ref la) (C := RX11) (T := TX11) (N := 35) hx hb hg inG11 hown hK.1 hP 3 rfl rfl 31 (by decide) (hg _ wt_909) (fun _ h9 => h9) rfl dX11_read_86 ?_
                  refine lv_iload_n hx hb dX11_read_89 rfl (lv_at hl 4 rfl) ?_
                  refine va_iald hx hb hK.1 hP 0 0 rfl rfl (vp_in_nI (by have t_b6 := b6; have t_b11 := b11; have t_b15 := b15; have t_hkk := hkk; have t_hnn := hnn; have t_hj25 := hj25; have t_n29 := n29; have t_c30 := eqI c30; have t_c31 := neI c31; have : ((-4) : Int32).toInt = -4 := (by decide); have : (0 : Int32).toInt = 0 := (by decide); have t_n0 : (nI N).toInt = (N : Int) := nI_toInt (by omega); have t_n1 : (nI B).toInt = (B : Int) := nI_toInt (by omega); have t_n2 : (nI T).toInt = (T : Int) := nI_toInt (by omega); have t_n3 : (nI S).toInt = (S : Int) := nI_toInt (by omega); have t_n4 : (nI M).toInt = (M : Int) := nI_toInt (by omega); have t_n5 : (nI kk).toInt = (kk : Int) := nI_toInt (by omega); have t_n6 : (nI nn).toInt = (nn : Int) := nI_toInt (by omega); have t_n7 : (nI j19).toInt = (j19 : Int) := nI_toInt (by omega); omega) (by decide)) dX11_read_90 ?_
                  refine lv_cg (y := fla kk) (by rw [nI_clamp (by omega)]) ?_
                  refine lv_iload_n hx hb dX11_read_91 rfl (lv_at hl 5 rfl) ?_
                  refine lv_icmp_eq (tgt := 99) hx hb dX11_read_92 (by decide) (fun c32 => ?_) (fun c32 => ?_)
                  · skip
                    have hzk := hz kk (by omega)
                    have e9 := im1 (x := flg kk) hzk.1 hzk.2
                    have e8 := add64 x1 (nI j19)
                    refine lv_iload_n hx hb dX11_read_99 rfl (lv_at hl 6 rfl) ?_
                    refine lv_i2l (v := x1.toInt64) hx hb dX11_read_100 rfl ?_
                    refine lv_iload hx hb dX11_read_101 (lv_at hl 0 rfl) ?_
                    refine lv_i2l (v := (nI j19).toInt64) hx hb dX11_read_103 rfl ?_
                    refine lv_ladd hx hb dX11_read_104 ?_
                    refine lv_lconst (v := 0) hx hb dX11_read_105 (by decide) ?_
                    refine lv_aload_n hx hb dX11_read_106 rfl (lv_at hl 3 rfl) ?_
                    refine va_get (D := (dC, dI)) (ci := 11) (v := .ref lg) (C := RX11) (T := TX11) (N := 35) hx hb hg inG11 hown hK.1 hP 3 rfl rfl 32 (by decide) (hg _ wt_910) (fun _ h9 => h9) rfl dX11_read_107 ?_
                    refine lv_iload_n hx hb dX11_read_110 rfl (lv_at hl 4 rfl) ?_
                    refine va_iald hx hb hK.1 hP 1 0 rfl rfl (vp_in_nI (by have t_b6 := b6; have t_b11 := b11; have t_b15 := b15; have t_hkk := hkk; have t_hnn := hnn; have t_hj25 := hj25; have t_n29 := n29; have t_c30 := eqI c30; have t_c31 := neI c31; have t_c32 := eqI c32; have : ((-4) : Int32).toInt = -4 := (by decide); have : (0 : Int32).toInt = 0 := (by decide); have t_n0 : (nI N).toInt = (N : Int) := nI_toInt (by omega); have t_n1 : (nI B).toInt = (B : Int) := nI_toInt (by omega); have t_n2 : (nI T).toInt = (T : Int) := nI_toInt (by omega); have t_n3 : (nI S).toInt = (S : Int) := nI_toInt (by omega); have t_n4 : (nI M).toInt = (M : Int) := nI_toInt (by omega); have t_n5 : (nI kk).toInt = (kk : Int) := nI_toInt (by omega); have t_n6 : (nI nn).toInt = (nn : Int) := nI_toInt (by omega); have t_n7 : (nI j19).toInt = (j19 : Int) := nI_toInt (by omega); omega) (by decide)) dX11_read_111 ?_
                    refine lv_cg (y := flg kk) (by rw [nI_clamp (by omega)]) ?_
                    refine lv_iconst (v := 1) hx hb dX11_read_112 (by decide) ?_
                    refine lv_isub hx hb dX11_read_113 ?_
                    refine lv_i2l (v := ((flg kk) - 1).toInt64) hx hb dX11_read_114 rfl ?_
                    have hPc := hP.sub (ws' := []) [] rfl
                    refine va_calli (va_runS (As := [.long (x1.toInt64 + ((nI j19).toInt64)), .long 0, .long (((flg kk) - 1).toInt64)]) (rest := []) ⟨hx, hb, hml, hown, hg⟩ (c_X11_in l dC dI G _ (x1.toInt64 + ((nI j19).toInt64)) 0 (((flg kk) - 1).toInt64) ) (kwS hg mfX11_in wt_992 ⟨Nat.le_of_ble_eq_true rfl, Nat.le_of_ble_eq_true rfl⟩) (preSR hK hPc) rfl rfl hl.1 rfl (lv_room (Nat.le_of_ble_eq_true rfl)) dX11_read_115 ⟨Nat.le_of_ble_eq_true rfl, Nat.le_of_ble_eq_true rfl⟩) hS (fun q h1 h2 => absurd h2 (Nat.not_le.mpr h1)) (fun q h => hA q (Nat.le_trans hS.1 h)) (fun r33 ur33 t H1 locs ht hvm w34 hB hz1 hk1 hS => ?_)
                    have hP := keepR hP hk1
                    obtain ⟨w34, w34x⟩ := w34
                    try simp only [l_ii, show (0 : Int64).toInt = 0 from by decide] at w34
                    subst w34
                    refine lv_if_ne (tgt := 125) hx hb dX11_read_118 (by decide) (fun c35 => ?_) (fun c35 => ?_)
                    · skip
                      have b36 := if10_p c35
                      refine lv_iconst (v := 0) hx hb dX11_read_125 (by decide) ?_
                      refine lv_istore (lv' := [(5, .int 0), (7, .int (nI j19)), (6, .int y20), (0, .ref h0), (1, .int (nI kk)), (2, .int lane), (3, .int x1), (4, .int (nI nn))]) hx hb dX11_read_126 hl (by decide) rfl (fun ls hl => ?_)
                      refine lv_iload hx hb dX11_read_128 (lv_at hl 0 rfl) ?_
                      refine lv_if_ne (tgt := 192) hx hb dX11_read_130 (by decide) (fun c37 => ?_) (fun c37 => ?_)
                      · skip
                        exact absurd c37 (by decide)
                      · skip
                        refine lv_iload hx hb dX11_read_133 (lv_at hl 1 rfl) ?_
                        refine lv_iconst (v := 2) hx hb dX11_read_135 (by decide) ?_
                        refine lv_irem hx hb dX11_read_136 (by decide) ?_
                        refine lv_cg (y := nI (j19 % 2)) (by rw [show (2 : Int32) = nI 2 from rfl]; exact pk_rem (by omega) (by omega) (by omega)) ?_
                        refine lv_iconst (v := 1) hx hb dX11_read_137 (by decide) ?_
                        refine lv_icmp_ne (tgt := 192) hx hb dX11_read_138 (by decide) (fun c38 => ?_) (fun c38 => ?_)
                        · skip
                          have n39 : (j19 % 2) ≠ 1 := by have t := neI c38; rw [nI_toInt (n := (j19 % 2)) (by omega)] at t; have : (1 : Int32).toInt = 1 := (by decide); omega
                          refine lv_iinc (v := nI (j19 + 1)) (lv' := [(7, .int (nI (j19 + 1))), (5, .int 0), (6, .int y20), (0, .ref h0), (1, .int (nI kk)), (2, .int lane), (3, .int x1), (4, .int (nI nn))]) hx hb dX11_read_192 hl (k := 1) rfl (by rw [show Int32.ofInt 1 = nI 1 from by decide]; exact nI_add _ _) (by decide) rfl (fun ls hl => ?_)
                          refine lv_goto (tgt := 56) hx hb dX11_read_195 (by decide) ?_
                          exact ih56_23 (j19 + 1) (by omega) (by omega) y20 0 g22 _ _ ⟨Or.inr (Or.inr (by have t_b6 := b6; have t_b11 := b11; have t_b15 := b15; have t_hkk := hkk; have t_hnn := hnn; have t_hj25 := hj25; have t_n29 := n29; have t_c30 := eqI c30; have t_c31 := neI c31; have t_c32 := eqI c32; have t_b36 := b36; have t_c37 := eqI c37; have t_n39 := n39; have : ((-4) : Int32).toInt = -4 := (by decide); have : (0 : Int32).toInt = 0 := (by decide); have t_n0 : (nI N).toInt = (N : Int) := nI_toInt (by omega); have t_n1 : (nI B).toInt = (B : Int) := nI_toInt (by omega); have t_n2 : (nI T).toInt = (T : Int) := nI_toInt (by omega); have t_n3 : (nI S).toInt = (S : Int) := nI_toInt (by omega); have t_n4 : (nI M).toInt = (M : Int) := nI_toInt (by omega); have t_n5 : (nI kk).toInt = (kk : Int) := nI_toInt (by omega); have t_n6 : (nI nn).toInt = (nn : Int) := nI_toInt (by omega); have t_n7 : (nI j19).toInt = (j19 : Int) := nI_toInt (by omega); omega)), hinv.2⟩ hP hD hS ls (lv_sub hl [0, 2, 1, 3, 4, 5, 6, 7] rfl)
                        · skip
                          have n40 : (j19 % 2) = 1 := by have t := eqI c38; rw [nI_toInt (n := (j19 % 2)) (by omega)] at t; have : (1 : Int32).toInt = 1 := (by decide); omega
                          refine lv_bipush (v := 40) hx hb dX11_read_141 (by decide) ?_
                          refine lv_iload_n hx hb dX11_read_143 rfl (lv_at hl 4 rfl) ?_
                          refine lv_imul hx hb dX11_read_144 ?_
                          refine lv_cg (y := nI (40 * kk)) (by rw [show (40 : Int32) = nI 40 from rfl]; exact pk_mul _ _) ?_
                          refine lv_iload_n hx hb dX11_read_145 rfl (lv_at hl 6 rfl) ?_
                          refine lv_iadd hx hb dX11_read_146 ?_
                          refine lv_iload hx hb dX11_read_147 (lv_at hl 1 rfl) ?_
                          refine lv_iadd hx hb dX11_read_149 ?_
                          obtain ⟨cx9, hcx9, hcy9, ecx9⟩ := rd_ix (k := kk) (j := j19) (x := x1) (by omega) (by omega) (by have t_b6 := b6; have t_b11 := b11; have t_b15 := b15; have t_hkk := hkk; have t_hnn := hnn; have t_hj25 := hj25; have t_n29 := n29; have t_c30 := eqI c30; have t_c31 := neI c31; have t_c32 := eqI c32; have t_b36 := b36; have t_c37 := eqI c37; have t_n40 := n40; have : ((-4) : Int32).toInt = -4 := (by decide); have : (0 : Int32).toInt = 0 := (by decide); have t_n0 : (nI N).toInt = (N : Int) := nI_toInt (by omega); have t_n1 : (nI B).toInt = (B : Int) := nI_toInt (by omega); have t_n2 : (nI T).toInt = (T : Int) := nI_toInt (by omega); have t_n3 : (nI S).toInt = (S : Int) := nI_toInt (by omega); have t_n4 : (nI M).toInt = (M : Int) := nI_toInt (by omega); have t_n5 : (nI kk).toInt = (kk : Int) := nI_toInt (by omega); have t_n6 : (nI nn).toInt = (nn : Int) := nI_toInt (by omega); have t_n7 : (nI j19).toInt = (j19 : Int) := nI_toInt (by omega); omega) (by have t_b6 := b6; have t_b11 := b11; have t_b15 := b15; have t_hkk := hkk; have t_hnn := hnn; have t_hj25 := hj25; have t_n29 := n29; have t_c30 := eqI c30; have t_c31 := neI c31; have t_c32 := eqI c32; have t_b36 := b36; have t_c37 := eqI c37; have t_n40 := n40; have : ((-4) : Int32).toInt = -4 := (by decide); have : (0 : Int32).toInt = 0 := (by decide); have t_n0 : (nI N).toInt = (N : Int) := nI_toInt (by omega); have t_n1 : (nI B).toInt = (B : Int) := nI_toInt (by omega); have t_n2 : (nI T).toInt = (T : Int) := nI_toInt (by omega); have t_n3 : (nI S).toInt = (S : Int) := nI_toInt (by omega); have t_n4 : (nI M).toInt = (M : Int) := nI_toInt (by omega); have t_n5 : (nI kk).toInt = (kk : Int) := nI_toInt (by omega); have t_n6 : (nI nn).toInt = (nn : Int) := nI_toInt (by omega); have t_n7 : (nI j19).toInt = (j19 : Int) := nI_toInt (by omega); omega)
                          refine lv_cg (y := nI cx9) ecx9 ?_
                          refine lv_istore (lv' := [(8, .int (nI cx9)), (5, .int 0), (7, .int (nI j19)), (6, .int y20), (0, .ref h0), (1, .int (nI kk)), (2, .int lane), (3, .int x1), (4, .int (nI nn))]) hx hb dX11_read_150 hl (by decide) rfl (fun ls hl => ?_)
                          refine lv_aload_n hx hb dX11_read_152 rfl (lv_at hl 4 rfl) ?_
                          refine lv_aload_n hx hb dX11_read_153 rfl (lv_at hl 4 rfl) ?_
                          refine va_get (D := (dC, dI)) (ci := 11) (v := .ref ce) (C := RX11) (T := TX11) (N := 35) hx hb hg inG11 hown hK.1 hP 3 rfl rfl 33 (by decide) (hg _ wt_911) (fun _ h9 => h9) rfl dX11_read_154 ?_
                          refine lv_iload hx hb dX11_read_157 (lv_at hl 0 rfl) ?_
                          refine lv_iconst (v := 1) hx hb dX11_read_159 (by decide) ?_
                          refine lv_isub hx hb dX11_read_160 ?_
                          refine lv_cg (y := nI (cx9 - 1)) (by rw [show (1 : Int32) = nI 1 from rfl]; exact pk_sub (by have t_b6 := b6; have t_b11 := b11; have t_b15 := b15; have t_hkk := hkk; have t_hnn := hnn; have t_hj25 := hj25; have t_n29 := n29; have t_c30 := eqI c30; have t_c31 := neI c31; have t_c32 := eqI c32; have t_b36 := b36; have t_c37 := eqI c37; have t_n40 := n40; have t_hcx9 := hcx9; have t_hcy9 := hcy9; have : ((-4) : Int32).toInt = -4 := (by decide); have : (0 : Int32).toInt = 0 := (by decide); have t_n0 : (nI N).toInt = (N : Int) := nI_toInt (by omega); have t_n1 : (nI B).toInt = (B : Int) := nI_toInt (by omega); have t_n2 : (nI T).toInt = (T : Int) := nI_toInt (by omega); have t_n3 : (nI S).toInt = (S : Int) := nI_toInt (by omega); have t_n4 : (nI M).toInt = (M : Int) := nI_toInt (by omega); have t_n5 : (nI kk).toInt = (kk : Int) := nI_toInt (by omega); have t_n6 : (nI nn).toInt = (nn : Int) := nI_toInt (by omega); have t_n7 : (nI j19).toInt = (j19 : Int) := nI_toInt (by omega); have t_n8 : (nI cx9).toInt = (cx9 : Int) := nI_toInt (by omega); omega)) ?_
                          refine va_iald hx hb hK.1 hP 2 0 rfl rfl (vp_in_nI (by have t_b6 := b6; have t_b11 := b11; have t_b15 := b15; have t_hkk := hkk; have t_hnn := hnn; have t_hj25 := hj25; have t_n29 := n29; have t_c30 := eqI c30; have t_c31 := neI c31; have t_c32 := eqI c32; have t_b36 := b36; have t_c37 := eqI c37; have t_n40 := n40; have t_hcx9 := hcx9; have t_hcy9 := hcy9; have : ((-4) : Int32).toInt = -4 := (by decide); have : (0 : Int32).toInt = 0 := (by decide); have t_n0 : (nI N).toInt = (N : Int) := nI_toInt (by omega); have t_n1 : (nI B).toInt = (B : Int) := nI_toInt (by omega); have t_n2 : (nI T).toInt = (T : Int) := nI_toInt (by omega); have t_n3 : (nI S).toInt = (S : Int) := nI_toInt (by omega); have t_n4 : (nI M).toInt = (M : Int) := nI_toInt (by omega); have t_n5 : (nI kk).toInt = (kk : Int) := nI_toInt (by omega); have t_n6 : (nI nn).toInt = (nn : Int) := nI_toInt (by omega); have t_n7 : (nI j19).toInt = (j19 : Int) := nI_toInt (by omega); have t_n8 : (nI cx9).toInt = (cx9 : Int) := nI_toInt (by omega); omega) (by decide)) dX11_read_161 ?_
                          refine lv_cg (y := fce (cx9 - 1)) (by rw [nI_clamp (by omega)]) ?_
                          refine lv_aload_n hx hb dX11_read_162 rfl (lv_at hl 4 rfl) ?_
                          refine va_get (D := (dC, dI)) (ci := 11) (v := .ref ce) (C := RX11) (T := TX11) (N := 35) hx hb hg inG11 hown hK.1 hP 3 rfl rfl 33 (by decide) (hg _ wt_911) (fun _ h9 => h9) rfl dX11_read_163 ?_
                          refine lv_iload hx hb dX11_read_166 (lv_at hl 0 rfl) ?_
                          refine va_iald hx hb hK.1 hP 2 0 rfl rfl (vp_in_nI (by have t_b6 := b6; have t_b11 := b11; have t_b15 := b15; have t_hkk := hkk; have t_hnn := hnn; have t_hj25 := hj25; have t_n29 := n29; have t_c30 := eqI c30; have t_c31 := neI c31; have t_c32 := eqI c32; have t_b36 := b36; have t_c37 := eqI c37; have t_n40 := n40; have t_hcx9 := hcx9; have t_hcy9 := hcy9; have : ((-4) : Int32).toInt = -4 := (by decide); have : (0 : Int32).toInt = 0 := (by decide); have t_n0 : (nI N).toInt = (N : Int) := nI_toInt (by omega); have t_n1 : (nI B).toInt = (B : Int) := nI_toInt (by omega); have t_n2 : (nI T).toInt = (T : Int) := nI_toInt (by omega); have t_n3 : (nI S).toInt = (S : Int) := nI_toInt (by omega); have t_n4 : (nI M).toInt = (M : Int) := nI_toInt (by omega); have t_n5 : (nI kk).toInt = (kk : Int) := nI_toInt (by omega); have t_n6 : (nI nn).toInt = (nn : Int) := nI_toInt (by omega); have t_n7 : (nI j19).toInt = (j19 : Int) := nI_toInt (by omega); have t_n8 : (nI cx9).toInt = (cx9 : Int) := nI_toInt (by omega); omega) (by decide)) dX11_read_168 ?_
                          refine lv_cg (y := fce cx9) (by rw [nI_clamp (by omega)]) ?_
                          have hPc := hP.sub (ws' := [(h0, .inr (11, [.ref st, .int (nI N), .int (nI B), .ref rp, .int vrs, .int vrb, .int vhs, .int vca, .int vxs, .int vxb, .ref tp, .int (nI T), .int vfa, .int vbr, .int vba, .int vsp, .int vhe, .int vtk, .int vva, .ref cu, .ref lt, .ref od, .ref th, .ref be, .ref ln, .int (nI S), .ref ma, .int (nI M), .ref ah, .ref bh, .ref ik, .ref la, .ref lg, .ref ce, .int vto])), (st, .inl (G 0, 196, .inl g22))]) [3, 4] rfl
                          have hDc := hD.sub (ws' := [(h0, .inr (11, [.ref st, .int (nI N), .int (nI B), .ref rp, .int vrs, .int vrb, .int vhs, .int vca, .int vxs, .int vxb, .ref tp, .int (nI T), .int vfa, .int vbr, .int vba, .int vsp, .int vhe, .int vtk, .int vva, .ref cu, .ref lt, .ref od, .ref th, .ref be, .ref ln, .int (nI S), .ref ma, .int (nI M), .ref ah, .ref bh, .ref ik, .ref la, .ref lg, .ref ce, .int vto])), (st, .inl (G 0, 196, .inl g22))]) [3, 4] (by decide) rfl
                          have hFc := va_free (wc := [(h0, .inr (11, [.ref st, .int (nI N), .int (nI B), .ref rp, .int vrs, .int vrb, .int vhs, .int vca, .int vxs, .int vxb, .ref tp, .int (nI T), .int vfa, .int vbr, .int vba, .int vsp, .int vhe, .int vtk, .int vva, .ref cu, .ref lt, .ref od, .ref th, .ref be, .ref ln, .int (nI S), .ref ma, .int (nI M), .ref ah, .ref bh, .ref ik, .ref la, .ref lg, .ref ce, .int vto])), (st, .inl (G 0, 196, .inl g22))]) hD hS hA [3, 4] rfl
                          refine va_calli (va_runV (As := [.int (fce (cx9 - 1)), .int (fce cx9)]) (rest := []) ⟨hx, hb, hml, hown, hg⟩ (c_X11_puts l dC dI G _ h0 st N B rp tp T cu lt od th be ln S ma M ah bh ik la lg ce (fce (cx9 - 1)) (fce cx9) vrs vrb vhs vca vxs vxb vfa vbr vba vsp vhe vtk vva vto g22 (by have t_b6 := b6; have t_b11 := b11; have t_b15 := b15; have t_hkk := hkk; have t_hnn := hnn; have t_hj25 := hj25; have t_n29 := n29; have t_c30 := eqI c30; have t_c31 := neI c31; have t_c32 := eqI c32; have t_b36 := b36; have t_c37 := eqI c37; have t_n40 := n40; have t_hcx9 := hcx9; have t_hcy9 := hcy9; have : ((-4) : Int32).toInt = -4 := (by decide); have : (0 : Int32).toInt = 0 := (by decide); have t_n0 : (nI N).toInt = (N : Int) := nI_toInt (by omega); have t_n1 : (nI B).toInt = (B : Int) := nI_toInt (by omega); have t_n2 : (nI T).toInt = (T : Int) := nI_toInt (by omega); have t_n3 : (nI S).toInt = (S : Int) := nI_toInt (by omega); have t_n4 : (nI M).toInt = (M : Int) := nI_toInt (by omega); have t_n5 : (nI kk).toInt = (kk : Int) := nI_toInt (by omega); have t_n6 : (nI nn).toInt = (nn : Int) := nI_toInt (by omega); have t_n7 : (nI j19).toInt = (j19 : Int) := nI_toInt (by omega); have t_n8 : (nI cx9).toInt = (cx9 : Int) := nI_toInt (by omega); omega) (by have t_b6 := b6; have t_b11 := b11; have t_b15 := b15; have t_hkk := hkk; have t_hnn := hnn; have t_hj25 := hj25; have t_n29 := n29; have t_c30 := eqI c30; have t_c31 := neI c31; have t_c32 := eqI c32; have t_b36 := b36; have t_c37 := eqI c37; have t_n40 := n40; have t_hcx9 := hcx9; have t_hcy9 := hcy9; have : ((-4) : Int32).toInt = -4 := (by decide); have : (0 : Int32).toInt = 0 := (by decide); have t_n0 : (nI N).toInt = (N : Int) := nI_toInt (by omega); have t_n1 : (nI B).toInt = (B : Int) := nI_toInt (by omega); have t_n2 : (nI T).toInt = (T : Int) := nI_toInt (by omega); have t_n3 : (nI S).toInt = (S : Int) := nI_toInt (by omega); have t_n4 : (nI M).toInt = (M : Int) := nI_toInt (by omega); have t_n5 : (nI kk).toInt = (kk : Int) := nI_toInt (by omega); have t_n6 : (nI nn).toInt = (nn : Int) := nI_toInt (by omega); have t_n7 : (nI j19).toInt = (j19 : Int) := nI_toInt (by omega); have t_n8 : (nI cx9).toInt = (cx9 : Int) := nI_toInt (by omega); omega) (by have t_b6 := b6; have t_b11 := b11; have t_b15 := b15; have t_hkk := hkk; have t_hnn := hnn; have t_hj25 := hj25; have t_n29 := n29; have t_c30 := eqI c30; have t_c31 := neI c31; have t_c32 := eqI c32; have t_b36 := b36; have t_c37 := eqI c37; have t_n40 := n40; have t_hcx9 := hcx9; have t_hcy9 := hcy9; have : ((-4) : Int32).toInt = -4 := (by decide); have : (0 : Int32).toInt = 0 := (by decide); have t_n0 : (nI N).toInt = (N : Int) := nI_toInt (by omega); have t_n1 : (nI B).toInt = (B : Int) := nI_toInt (by omega); have t_n2 : (nI T).toInt = (T : Int) := nI_toInt (by omega); have t_n3 : (nI S).toInt = (S : Int) := nI_toInt (by omega); have t_n4 : (nI M).toInt = (M : Int) := nI_toInt (by omega); have t_n5 : (nI kk).toInt = (kk : Int) := nI_toInt (by omega); have t_n6 : (nI nn).toInt = (nn : Int) := nI_toInt (by omega); have t_n7 : (nI j19).toInt = (j19 : Int) := nI_toInt (by omega); have t_n8 : (nI cx9).toInt = (cx9 : Int) := nI_toInt (by omega); omega) (by have t_b6 := b6; have t_b11 := b11; have t_b15 := b15; have t_hkk := hkk; have t_hnn := hnn; have t_hj25 := hj25; have t_n29 := n29; have t_c30 := eqI c30; have t_c31 := neI c31; have t_c32 := eqI c32; have t_b36 := b36; have t_c37 := eqI c37; have t_n40 := n40; have t_hcx9 := hcx9; have t_hcy9 := hcy9; have : ((-4) : Int32).toInt = -4 := (by decide); have : (0 : Int32).toInt = 0 := (by decide); have t_n0 : (nI N).toInt = (N : Int) := nI_toInt (by omega); have t_n1 : (nI B).toInt = (B : Int) := nI_toInt (by omega); have t_n2 : (nI T).toInt = (T : Int) := nI_toInt (by omega); have t_n3 : (nI S).toInt = (S : Int) := nI_toInt (by omega); have t_n4 : (nI M).toInt = (M : Int) := nI_toInt (by omega); have t_n5 : (nI kk).toInt = (kk : Int) := nI_toInt (by omega); have t_n6 : (nI nn).toInt = (nn : Int) := nI_toInt (by omega); have t_n7 : (nI j19).toInt = (j19 : Int) := nI_toInt (by omega); have t_n8 : (nI cx9).toInt = (cx9 : Int) := nI_toInt (by omega); omega) (by have t_b6 := b6; have t_b11 := b11; have t_b15 := b15; have t_hkk := hkk; have t_hnn := hnn; have t_hj25 := hj25; have t_n29 := n29; have t_c30 := eqI c30; have t_c31 := neI c31; have t_c32 := eqI c32; have t_b36 := b36; have t_c37 := eqI c37; have t_n40 := n40; have t_hcx9 := hcx9; have t_hcy9 := hcy9; have : ((-4) : Int32).toInt = -4 := (by decide); have : (0 : Int32).toInt = 0 := (by decide); have t_n0 : (nI N).toInt = (N : Int) := nI_toInt (by omega); have t_n1 : (nI B).toInt = (B : Int) := nI_toInt (by omega); have t_n2 : (nI T).toInt = (T : Int) := nI_toInt (by omega); have t_n3 : (nI S).toInt = (S : Int) := nI_toInt (by omega); have t_n4 : (nI M).toInt = (M : Int) := nI_toInt (by omega); have t_n5 : (nI kk).toInt = (kk : Int) := nI_toInt (by omega); have t_n6 : (nI nn).toInt = (nn : Int) := nI_toInt (by omega); have t_n7 : (nI j19).toInt = (j19 : Int) := nI_toInt (by omega); have t_n8 : (nI cx9).toInt = (cx9 : Int) := nI_toInt (by omega); omega) hinv.2) (kwV hg mfX11_puts wt_1094 ⟨Nat.le_of_ble_eq_true rfl, Nat.le_of_ble_eq_true rfl⟩) (preVW hK hPc hDc (ci := 11) rfl rfl) rfl rfl hl.1 rfl (lv_room (Nat.le_of_ble_eq_true rfl)) dX11_read_169 ⟨Nat.le_of_ble_eq_true rfl, Nat.le_of_ble_eq_true rfl⟩) hS (fun q _ h => hFc q h) hFc (fun r41 ur41 t H1 locs ht hvm w42 hB hz1 hk1 hS => ?_)
                          obtain ⟨u43, rfl⟩ : ∃ z, z = ur41 := ⟨_, rfl⟩
                          obtain ⟨hP1, hD1⟩ := hB
                          rw [ht] at hP1
                          obtain ⟨hP, hD⟩ := va_join (wr := [(la, .inl (G 0, 4, .inl fla)), (lg, .inl (G 0, 4, .inl flg)), (ce, .inl (G 0, 160, .inl fce))]) (w1 := [(h0, .inr (11, [.ref st, .int (nI N), .int (nI B), .ref rp, .int vrs, .int vrb, .int vhs, .int vca, .int vxs, .int vxb, .ref tp, .int (nI T), .int vfa, .int vbr, .int vba, .int vsp, .int vhe, .int vtk, .int vva, .ref cu, .ref lt, .ref od, .ref th, .ref be, .ref ln, .int (nI S), .ref ma, .int (nI M), .ref ah, .ref bh, .ref ik, .ref la, .ref lg, .ref ce, .int vto])), (st, .inl (G 0, 196, .inl u43))]) hP hD [3, 4] [0, 1, 2] rfl rfl (by decide) (by decide) hk1 hFc hP1 hD1
                          generalize H1 = H at hP hS ⊢
                          have hP : va_P (dC, dI) vwCl [(la, .inl (G 0, 4, .inl fla)), (lg, .inl (G 0, 4, .inl flg)), (ce, .inl (G 0, 160, .inl fce)), (h0, .inr (11, [.ref st, .int (nI N), .int (nI B), .ref rp, .int vrs, .int vrb, .int vhs, .int vca, .int vxs, .int vxb, .ref tp, .int (nI T), .int vfa, .int vbr, .int vba, .int vsp, .int vhe, .int vtk, .int vva, .ref cu, .ref lt, .ref od, .ref th, .ref be, .ref ln, .int (nI S), .ref ma, .int (nI M), .ref ah, .ref bh, .ref ik, .ref la, .ref lg, .ref ce, .int vto])), (st, .inl (G 0, 196, .inl u43))] H := hP
                          have hD : va_D A [(la, .inl (G 0, 4, .inl fla)), (lg, .inl (G 0, 4, .inl flg)), (ce, .inl (G 0, 160, .inl fce)), (h0, .inr (11, [.ref st, .int (nI N), .int (nI B), .ref rp, .int vrs, .int vrb, .int vhs, .int vca, .int vxs, .int vxb, .ref tp, .int (nI T), .int vfa, .int vbr, .int vba, .int vsp, .int vhe, .int vtk, .int vva, .ref cu, .ref lt, .ref od, .ref th, .ref be, .ref ln, .int (nI S), .ref ma, .int (nI M), .ref ah, .ref bh, .ref ik, .ref la, .ref lg, .ref ce, .int vto])), (st, .inl (G 0, 196, .inl u43))] := hD
                          obtain ⟨w42, w42x⟩ := w42
                          refine lv_if_ge (tgt := 189) hx hb dX11_read_172 (by decide) (fun c44 => ?_) (fun c44 => ?_)
                          · skip
                            refine lv_iinc (v := y20 + 1) (lv' := [(6, .int (y20 + 1)), (8, .int (nI cx9)), (5, .int 0), (7, .int (nI j19)), (0, .ref h0), (1, .int (nI kk)), (2, .int lane), (3, .int x1), (4, .int (nI nn))]) hx hb dX11_read_189 hl (k := 3) rfl (rfl) (by decide) rfl (fun ls hl => ?_)
                            refine lv_iinc (v := nI (j19 + 1)) (lv' := [(7, .int (nI (j19 + 1))), (6, .int (y20 + 1)), (8, .int (nI cx9)), (5, .int 0), (0, .ref h0), (1, .int (nI kk)), (2, .int lane), (3, .int x1), (4, .int (nI nn))]) hx hb dX11_read_192 hl (k := 3) rfl (by rw [show Int32.ofInt 1 = nI 1 from by decide]; exact nI_add _ _) (by decide) rfl (fun ls hl => ?_)
                            refine lv_goto (tgt := 56) hx hb dX11_read_195 (by decide) ?_
                            exact ih56_23 (j19 + 1) (by omega) (by omega) (y20 + 1) 0 u43 _ _ ⟨Or.inr (Or.inr (by have t_b6 := b6; have t_b11 := b11; have t_b15 := b15; have t_hkk := hkk; have t_hnn := hnn; have t_hj25 := hj25; have t_n29 := n29; have t_c30 := eqI c30; have t_c31 := neI c31; have t_c32 := eqI c32; have t_b36 := b36; have t_c37 := eqI c37; have t_n40 := n40; have t_hcx9 := hcx9; have t_hcy9 := hcy9; have t_c44 := leI c44; have : ((-4) : Int32).toInt = -4 := (by decide); have : (0 : Int32).toInt = 0 := (by decide); have t_n0 : (nI N).toInt = (N : Int) := nI_toInt (by omega); have t_n1 : (nI B).toInt = (B : Int) := nI_toInt (by omega); have t_n2 : (nI T).toInt = (T : Int) := nI_toInt (by omega); have t_n3 : (nI S).toInt = (S : Int) := nI_toInt (by omega); have t_n4 : (nI M).toInt = (M : Int) := nI_toInt (by omega); have t_n5 : (nI kk).toInt = (kk : Int) := nI_toInt (by omega); have t_n6 : (nI nn).toInt = (nn : Int) := nI_toInt (by omega); have t_n7 : (nI j19).toInt = (j19 : Int) := nI_toInt (by omega); have t_n8 : (nI cx9).toInt = (cx9 : Int) := nI_toInt (by omega); omega)), w42x⟩ hP hD hS ls (lv_sub hl [0, 1, 3, 4, 5, 6, 7, 8] rfl)
                          · skip
                            refine lv_aload_n hx hb dX11_read_175 rfl (lv_at hl 4 rfl) ?_
                            refine lv_sipush (v := 147) hx hb dX11_read_176 (by decide) ?_
                            refine lv_iconst (v := 0) hx hb dX11_read_179 (by decide) ?_
                            have hPc := hP.sub (ws' := [(h0, .inr (11, [.ref st, .int (nI N), .int (nI B), .ref rp, .int vrs, .int vrb, .int vhs, .int vca, .int vxs, .int vxb, .ref tp, .int (nI T), .int vfa, .int vbr, .int vba, .int vsp, .int vhe, .int vtk, .int vva, .ref cu, .ref lt, .ref od, .ref th, .ref be, .ref ln, .int (nI S), .ref ma, .int (nI M), .ref ah, .ref bh, .ref ik, .ref la, .ref lg, .ref ce, .int vto])), (st, .inl (G 0, 196, .inl u43))]) [3, 4] rfl
                            have hDc := hD.sub (ws' := [(h0, .inr (11, [.ref st, .int (nI N), .int (nI B), .ref rp, .int vrs, .int vrb, .int vhs, .int vca, .int vxs, .int vxb, .ref tp, .int (nI T), .int vfa, .int vbr, .int vba, .int vsp, .int vhe, .int vtk, .int vva, .ref cu, .ref lt, .ref od, .ref th, .ref be, .ref ln, .int (nI S), .ref ma, .int (nI M), .ref ah, .ref bh, .ref ik, .ref la, .ref lg, .ref ce, .int vto])), (st, .inl (G 0, 196, .inl u43))]) [3, 4] (by decide) rfl
                            have hFc := va_free (wc := [(h0, .inr (11, [.ref st, .int (nI N), .int (nI B), .ref rp, .int vrs, .int vrb, .int vhs, .int vca, .int vxs, .int vxb, .ref tp, .int (nI T), .int vfa, .int vbr, .int vba, .int vsp, .int vhe, .int vtk, .int vva, .ref cu, .ref lt, .ref od, .ref th, .ref be, .ref ln, .int (nI S), .ref ma, .int (nI M), .ref ah, .ref bh, .ref ik, .ref la, .ref lg, .ref ce, .int vto])), (st, .inl (G 0, 196, .inl u43))]) hD hS hA [3, 4] rfl
                            refine va_callv (va_runV (As := [.int 147, .int 0]) (rest := []) ⟨hx, hb, hml, hown, hg⟩ (c_X11_copies l dC dI G _ h0 147 0 st N B rp tp T cu lt od th be ln S ma M ah bh ik la lg ce vrs vrb vhs vca vxs vxb vfa vbr vba vsp vhe vtk vva vto u43 (by have t_b6 := b6; have t_b11 := b11; have t_b15 := b15; have t_hkk := hkk; have t_hnn := hnn; have t_hj25 := hj25; have t_n29 := n29; have t_c30 := eqI c30; have t_c31 := neI c31; have t_c32 := eqI c32; have t_b36 := b36; have t_c37 := eqI c37; have t_n40 := n40; have t_hcx9 := hcx9; have t_hcy9 := hcy9; have t_c44 := nleI c44; have : ((-4) : Int32).toInt = -4 := (by decide); have : (0 : Int32).toInt = 0 := (by decide); have t_n0 : (nI N).toInt = (N : Int) := nI_toInt (by omega); have t_n1 : (nI B).toInt = (B : Int) := nI_toInt (by omega); have t_n2 : (nI T).toInt = (T : Int) := nI_toInt (by omega); have t_n3 : (nI S).toInt = (S : Int) := nI_toInt (by omega); have t_n4 : (nI M).toInt = (M : Int) := nI_toInt (by omega); have t_n5 : (nI kk).toInt = (kk : Int) := nI_toInt (by omega); have t_n6 : (nI nn).toInt = (nn : Int) := nI_toInt (by omega); have t_n7 : (nI j19).toInt = (j19 : Int) := nI_toInt (by omega); have t_n8 : (nI cx9).toInt = (cx9 : Int) := nI_toInt (by omega); omega) (by have t_b6 := b6; have t_b11 := b11; have t_b15 := b15; have t_hkk := hkk; have t_hnn := hnn; have t_hj25 := hj25; have t_n29 := n29; have t_c30 := eqI c30; have t_c31 := neI c31; have t_c32 := eqI c32; have t_b36 := b36; have t_c37 := eqI c37; have t_n40 := n40; have t_hcx9 := hcx9; have t_hcy9 := hcy9; have t_c44 := nleI c44; have : ((-4) : Int32).toInt = -4 := (by decide); have : (0 : Int32).toInt = 0 := (by decide); have t_n0 : (nI N).toInt = (N : Int) := nI_toInt (by omega); have t_n1 : (nI B).toInt = (B : Int) := nI_toInt (by omega); have t_n2 : (nI T).toInt = (T : Int) := nI_toInt (by omega); have t_n3 : (nI S).toInt = (S : Int) := nI_toInt (by omega); have t_n4 : (nI M).toInt = (M : Int) := nI_toInt (by omega); have t_n5 : (nI kk).toInt = (kk : Int) := nI_toInt (by omega); have t_n6 : (nI nn).toInt = (nn : Int) := nI_toInt (by omega); have t_n7 : (nI j19).toInt = (j19 : Int) := nI_toInt (by omega); have t_n8 : (nI cx9).toInt = (cx9 : Int) := nI_toInt (by omega); omega) (by have t_b6 := b6; have t_b11 := b11; have t_b15 := b15; have t_hkk := hkk; have t_hnn := hnn; have t_hj25 := hj25; have t_n29 := n29; have t_c30 := eqI c30; have t_c31 := neI c31; have t_c32 := eqI c32; have t_b36 := b36; have t_c37 := eqI c37; have t_n40 := n40; have t_hcx9 := hcx9; have t_hcy9 := hcy9; have t_c44 := nleI c44; have : ((-4) : Int32).toInt = -4 := (by decide); have : (0 : Int32).toInt = 0 := (by decide); have t_n0 : (nI N).toInt = (N : Int) := nI_toInt (by omega); have t_n1 : (nI B).toInt = (B : Int) := nI_toInt (by omega); have t_n2 : (nI T).toInt = (T : Int) := nI_toInt (by omega); have t_n3 : (nI S).toInt = (S : Int) := nI_toInt (by omega); have t_n4 : (nI M).toInt = (M : Int) := nI_toInt (by omega); have t_n5 : (nI kk).toInt = (kk : Int) := nI_toInt (by omega); have t_n6 : (nI nn).toInt = (nn : Int) := nI_toInt (by omega); have t_n7 : (nI j19).toInt = (j19 : Int) := nI_toInt (by omega); have t_n8 : (nI cx9).toInt = (cx9 : Int) := nI_toInt (by omega); omega) (by have t_b6 := b6; have t_b11 := b11; have t_b15 := b15; have t_hkk := hkk; have t_hnn := hnn; have t_hj25 := hj25; have t_n29 := n29; have t_c30 := eqI c30; have t_c31 := neI c31; have t_c32 := eqI c32; have t_b36 := b36; have t_c37 := eqI c37; have t_n40 := n40; have t_hcx9 := hcx9; have t_hcy9 := hcy9; have t_c44 := nleI c44; have : ((-4) : Int32).toInt = -4 := (by decide); have : (0 : Int32).toInt = 0 := (by decide); have t_n0 : (nI N).toInt = (N : Int) := nI_toInt (by omega); have t_n1 : (nI B).toInt = (B : Int) := nI_toInt (by omega); have t_n2 : (nI T).toInt = (T : Int) := nI_toInt (by omega); have t_n3 : (nI S).toInt = (S : Int) := nI_toInt (by omega); have t_n4 : (nI M).toInt = (M : Int) := nI_toInt (by omega); have t_n5 : (nI kk).toInt = (kk : Int) := nI_toInt (by omega); have t_n6 : (nI nn).toInt = (nn : Int) := nI_toInt (by omega); have t_n7 : (nI j19).toInt = (j19 : Int) := nI_toInt (by omega); have t_n8 : (nI cx9).toInt = (cx9 : Int) := nI_toInt (by omega); omega) (by have t_b6 := b6; have t_b11 := b11; have t_b15 := b15; have t_hkk := hkk; have t_hnn := hnn; have t_hj25 := hj25; have t_n29 := n29; have t_c30 := eqI c30; have t_c31 := neI c31; have t_c32 := eqI c32; have t_b36 := b36; have t_c37 := eqI c37; have t_n40 := n40; have t_hcx9 := hcx9; have t_hcy9 := hcy9; have t_c44 := nleI c44; have : ((-4) : Int32).toInt = -4 := (by decide); have : (0 : Int32).toInt = 0 := (by decide); have t_n0 : (nI N).toInt = (N : Int) := nI_toInt (by omega); have t_n1 : (nI B).toInt = (B : Int) := nI_toInt (by omega); have t_n2 : (nI T).toInt = (T : Int) := nI_toInt (by omega); have t_n3 : (nI S).toInt = (S : Int) := nI_toInt (by omega); have t_n4 : (nI M).toInt = (M : Int) := nI_toInt (by omega); have t_n5 : (nI kk).toInt = (kk : Int) := nI_toInt (by omega); have t_n6 : (nI nn).toInt = (nn : Int) := nI_toInt (by omega); have t_n7 : (nI j19).toInt = (j19 : Int) := nI_toInt (by omega); have t_n8 : (nI cx9).toInt = (cx9 : Int) := nI_toInt (by omega); omega) w42x (by have t_b6 := b6; have t_b11 := b11; have t_b15 := b15; have t_hkk := hkk; have t_hnn := hnn; have t_hj25 := hj25; have t_n29 := n29; have t_c30 := eqI c30; have t_c31 := neI c31; have t_c32 := eqI c32; have t_b36 := b36; have t_c37 := eqI c37; have t_n40 := n40; have t_hcx9 := hcx9; have t_hcy9 := hcy9; have t_c44 := nleI c44; have : ((-4) : Int32).toInt = -4 := (by decide); have : (0 : Int32).toInt = 0 := (by decide); have t_n0 : (nI N).toInt = (N : Int) := nI_toInt (by omega); have t_n1 : (nI B).toInt = (B : Int) := nI_toInt (by omega); have t_n2 : (nI T).toInt = (T : Int) := nI_toInt (by omega); have t_n3 : (nI S).toInt = (S : Int) := nI_toInt (by omega); have t_n4 : (nI M).toInt = (M : Int) := nI_toInt (by omega); have t_n5 : (nI kk).toInt = (kk : Int) := nI_toInt (by omega); have t_n6 : (nI nn).toInt = (nn : Int) := nI_toInt (by omega); have t_n7 : (nI j19).toInt = (j19 : Int) := nI_toInt (by omega); have t_n8 : (nI cx9).toInt = (cx9 : Int) := nI_toInt (by omega); omega) (by have t_b6 := b6; have t_b11 := b11; have t_b15 := b15; have t_hkk := hkk; have t_hnn := hnn; have t_hj25 := hj25; have t_n29 := n29; have t_c30 := eqI c30; have t_c31 := neI c31; have t_c32 := eqI c32; have t_b36 := b36; have t_c37 := eqI c37; have t_n40 := n40; have t_hcx9 := hcx9; have t_hcy9 := hcy9; have t_c44 := nleI c44; have : ((-4) : Int32).toInt = -4 := (by decide); have : (0 : Int32).toInt = 0 := (by decide); have t_n0 : (nI N).toInt = (N : Int) := nI_toInt (by omega); have t_n1 : (nI B).toInt = (B : Int) := nI_toInt (by omega); have t_n2 : (nI T).toInt = (T : Int) := nI_toInt (by omega); have t_n3 : (nI S).toInt = (S : Int) := nI_toInt (by omega); have t_n4 : (nI M).toInt = (M : Int) := nI_toInt (by omega); have t_n5 : (nI kk).toInt = (kk : Int) := nI_toInt (by omega); have t_n6 : (nI nn).toInt = (nn : Int) := nI_toInt (by omega); have t_n7 : (nI j19).toInt = (j19 : Int) := nI_toInt (by omega); have t_n8 : (nI cx9).toInt = (cx9 : Int) := nI_toInt (by omega); omega)) (kwV hg mfX11_copies wt_1248 ⟨Nat.le_of_ble_eq_true rfl, Nat.le_of_ble_eq_true rfl⟩) (preVW hK hPc hDc (ci := 11) rfl rfl) rfl rfl hl.1 rfl (lv_room (Nat.le_of_ble_eq_true rfl)) dX11_read_180 ⟨Nat.le_of_ble_eq_true rfl, Nat.le_of_ble_eq_true rfl⟩) hS (fun q _ h => hFc q h) hFc (fun ur45 t H1 locs ht hvm w46 hB hz1 hk1 hS => ?_)
                            obtain ⟨u47, rfl⟩ : ∃ z, z = ur45 := ⟨_, rfl⟩
                            obtain ⟨hP1, hD1⟩ := hB
                            rw [ht] at hP1
                            obtain ⟨hP, hD⟩ := va_join (wr := [(la, .inl (G 0, 4, .inl fla)), (lg, .inl (G 0, 4, .inl flg)), (ce, .inl (G 0, 160, .inl fce))]) (w1 := [(h0, .inr (11, [.ref st, .int (nI N), .int (nI B), .ref rp, .int vrs, .int vrb, .int vhs, .int vca, .int vxs, .int vxb, .ref tp, .int (nI T), .int vfa, .int vbr, .int vba, .int vsp, .int vhe, .int vtk, .int vva, .ref cu, .ref lt, .ref od, .ref th, .ref be, .ref ln, .int (nI S), .ref ma, .int (nI M), .ref ah, .ref bh, .ref ik, .ref la, .ref lg, .ref ce, .int vto])), (st, .inl (G 0, 196, .inl u47))]) hP hD [3, 4] [0, 1, 2] rfl rfl (by decide) (by decide) hk1 hFc hP1 hD1
                            have w46 : OKS u47 := w46
                            generalize H1 = H at hP hS ⊢
                            have hP : va_P (dC, dI) vwCl [(la, .inl (G 0, 4, .inl fla)), (lg, .inl (G 0, 4, .inl flg)), (ce, .inl (G 0, 160, .inl fce)), (h0, .inr (11, [.ref st, .int (nI N), .int (nI B), .ref rp, .int vrs, .int vrb, .int vhs, .int vca, .int vxs, .int vxb, .ref tp, .int (nI T), .int vfa, .int vbr, .int vba, .int vsp, .int vhe, .int vtk, .int vva, .ref cu, .ref lt, .ref od, .ref th, .ref be, .ref ln, .int (nI S), .ref ma, .int (nI M), .ref ah, .ref bh, .ref ik, .ref la, .ref lg, .ref ce, .int vto])), (st, .inl (G 0, 196, .inl u47))] H := hP
                            have hD : va_D A [(la, .inl (G 0, 4, .inl fla)), (lg, .inl (G 0, 4, .inl flg)), (ce, .inl (G 0, 160, .inl fce)), (h0, .inr (11, [.ref st, .int (nI N), .int (nI B), .ref rp, .int vrs, .int vrb, .int vhs, .int vca, .int vxs, .int vxb, .ref tp, .int (nI T), .int vfa, .int vbr, .int vba, .int vsp, .int vhe, .int vtk, .int vva, .ref cu, .ref lt, .ref od, .ref th, .ref be, .ref ln, .int (nI S), .ref ma, .int (nI M), .ref ah, .ref bh, .ref ik, .ref la, .ref lg, .ref ce, .int vto])), (st, .inl (G 0, 196, .inl u47))] := hD
                            refine lv_bipush (v := (-20)) hx hb dX11_read_183 (by decide) ?_
                            refine lv_iload hx hb dX11_read_185 (lv_at hl 3 rfl) ?_
                            refine lv_isub hx hb dX11_read_187 ?_
                            have hpost : True := by
                              trivial
                            have hP9 := hP.sub (ws' := [(h0, .inr (11, [.ref st, .int (nI N), .int (nI B), .ref rp, .int vrs, .int vrb, .int vhs, .int vca, .int vxs, .int vxb, .ref tp, .int (nI T), .int vfa, .int vbr, .int vba, .int vsp, .int vhe, .int vtk, .int vva, .ref cu, .ref lt, .ref od, .ref th, .ref be, .ref ln, .int (nI S), .ref ma, .int (nI M), .ref ah, .ref bh, .ref ik, .ref la, .ref lg, .ref ce, .int vto])), (st, .inl (G 0, 196, .inl u47)), (la, .inl (G 0, 4, .inl fla)), (lg, .inl (G 0, 4, .inl flg)), (ce, .inl (G 0, 160, .inl fce))]) [3, 4, 0, 1, 2] rfl
                            have hD9 := hD.sub (ws' := [(h0, .inr (11, [.ref st, .int (nI N), .int (nI B), .ref rp, .int vrs, .int vrb, .int vhs, .int vca, .int vxs, .int vxb, .ref tp, .int (nI T), .int vfa, .int vbr, .int vba, .int vsp, .int vhe, .int vtk, .int vva, .ref cu, .ref lt, .ref od, .ref th, .ref be, .ref ln, .int (nI S), .ref ma, .int (nI M), .ref ah, .ref bh, .ref ik, .ref la, .ref lg, .ref ce, .int vto])), (st, .inl (G 0, 196, .inl u47)), (la, .inl (G 0, 4, .inl fla)), (lg, .inl (G 0, 4, .inl flg)), (ce, .inl (G 0, 160, .inl fce))]) [3, 4, 0, 1, 2] (by decide) rfl
                            refine W.widen (k := 0) (n := 0) (by omega) (by omega) ?_
                            exact W.iret (v := (-20) - y20) hx hb hr (fun t ht hW => ⟨⟨(-20) - y20, (u47, vto), rfl, ⟨hpost, w46⟩, ⟨by rw [ht]; exact hP9, hD9⟩⟩, hS.F ht⟩) hS.2.2 dX11_read_188
                    · skip
                      have b48 := if10_n c35
                      refine lv_iconst (v := 2) hx hb dX11_read_121 (by decide) ?_
                      refine lv_goto (tgt := 126) hx hb dX11_read_122 (by decide) ?_
                      refine lv_istore (lv' := [(5, .int 2), (7, .int (nI j19)), (6, .int y20), (0, .ref h0), (1, .int (nI kk)), (2, .int lane), (3, .int x1), (4, .int (nI nn))]) hx hb dX11_read_126 hl (by decide) rfl (fun ls hl => ?_)
                      refine lv_iload hx hb dX11_read_128 (lv_at hl 0 rfl) ?_
                      refine lv_if_ne (tgt := 192) hx hb dX11_read_130 (by decide) (fun c49 => ?_) (fun c49 => ?_)
                      · skip
                        refine lv_iinc (v := nI (j19 + 1)) (lv' := [(7, .int (nI (j19 + 1))), (5, .int 2), (6, .int y20), (0, .ref h0), (1, .int (nI kk)), (2, .int lane), (3, .int x1), (4, .int (nI nn))]) hx hb dX11_read_192 hl (k := 1) rfl (by rw [show Int32.ofInt 1 = nI 1 from by decide]; exact nI_add _ _) (by decide) rfl (fun ls hl => ?_)
                        refine lv_goto (tgt := 56) hx hb dX11_read_195 (by decide) ?_
                        exact ih56_23 (j19 + 1) (by omega) (by omega) y20 2 g22 _ _ ⟨Or.inr (Or.inl (by decide)), hinv.2⟩ hP hD hS ls (lv_sub hl [0, 2, 1, 3, 4, 5, 6, 7] rfl)
                      · skip
                        exact absurd c49 (by decide)
                  · skip
                    refine lv_iconst (v := 3) hx hb dX11_read_95 (by decide) ?_
                    refine lv_goto (tgt := 126) hx hb dX11_read_96 (by decide) ?_
                    refine lv_istore (lv' := [(5, .int 3), (7, .int (nI j19)), (6, .int y20), (0, .ref h0), (1, .int (nI kk)), (2, .int lane), (3, .int x1), (4, .int (nI nn))]) hx hb dX11_read_126 hl (by decide) rfl (fun ls hl => ?_)
                    refine lv_iload hx hb dX11_read_128 (lv_at hl 0 rfl) ?_
                    refine lv_if_ne (tgt := 192) hx hb dX11_read_130 (by decide) (fun c50 => ?_) (fun c50 => ?_)
                    · skip
                      refine lv_iinc (v := nI (j19 + 1)) (lv' := [(7, .int (nI (j19 + 1))), (5, .int 3), (6, .int y20), (0, .ref h0), (1, .int (nI kk)), (2, .int lane), (3, .int x1), (4, .int (nI nn))]) hx hb dX11_read_192 hl (k := 1) rfl (by rw [show Int32.ofInt 1 = nI 1 from by decide]; exact nI_add _ _) (by decide) rfl (fun ls hl => ?_)
                      refine lv_goto (tgt := 56) hx hb dX11_read_195 (by decide) ?_
                      exact ih56_23 (j19 + 1) (by omega) (by omega) y20 3 g22 _ _ ⟨Or.inr (Or.inl (by decide)), hinv.2⟩ hP hD hS ls (lv_sub hl [0, 2, 1, 3, 4, 5, 6, 7] rfl)
                    · skip
                      exact absurd c50 (by decide)
                · skip
                  refine lv_iconst (v := 1) hx hb dX11_read_81 (by decide) ?_
                  refine lv_goto (tgt := 126) hx hb dX11_read_82 (by decide) ?_
                  refine lv_istore (lv' := [(5, .int 1), (7, .int (nI j19)), (6, .int y20), (0, .ref h0), (1, .int (nI kk)), (2, .int lane), (3, .int x1), (4, .int (nI nn))]) hx hb dX11_read_126 hl (by decide) rfl (fun ls hl => ?_)
                  refine lv_iload hx hb dX11_read_128 (lv_at hl 0 rfl) ?_
                  refine lv_if_ne (tgt := 192) hx hb dX11_read_130 (by decide) (fun c51 => ?_) (fun c51 => ?_)
                  · skip
                    refine lv_iinc (v := nI (j19 + 1)) (lv' := [(7, .int (nI (j19 + 1))), (5, .int 1), (6, .int y20), (0, .ref h0), (1, .int (nI kk)), (2, .int lane), (3, .int x1), (4, .int (nI nn))]) hx hb dX11_read_192 hl (k := 1) rfl (by rw [show Int32.ofInt 1 = nI 1 from by decide]; exact nI_add _ _) (by decide) rfl (fun ls hl => ?_)
                    refine lv_goto (tgt := 56) hx hb dX11_read_195 (by decide) ?_
                    exact ih56_23 (j19 + 1) (by omega) (by omega) y20 1 g22 _ _ ⟨Or.inr (Or.inl (by decide)), hinv.2⟩ hP hD hS ls (lv_sub hl [0, 2, 1, 3, 4, 5, 6, 7] rfl)
                  · skip
                    exact absurd c51 (by decide)
        exact loop56_23 ((2 * nn) + 1) 0 (by omega) (by omega) 0 0 u18 _ _ ⟨Or.inl rfl, w17⟩ hP hD hS ls (lv_sub hl [0, 1, 2, 3, 4, 5, 6, 7] rfl)
      · skip
        have b52 := if10_n c14
        exact cut37_3  _ _ hP hD hS ls (lv_sub hl [0, 1, 2, 3, 4] rfl)

set_option maxHeartbeats 1000000 in
set_option maxRecDepth 100000 in
theorem c_X11_count (l : Launch) (dC : Nat → ClassId) (dI : Nat → Nat → Nat) (G : Nat → ClassId) (sz : Nat) (h0 st N B rp tp T cu lt od th be ln S ma M ah bh ik la lg ce : Nat) (what vrs vrb vhs vca vxs vxb vfa vbr vba vsp vhe vtk vva vto : Int32) (fst : Nat → Int32) (fik : Nat → Int32) (fla : Nat → Int32) (flg : Nat → Int32) (hN : N ≤ 10) (hB : B ≤ 6) (hT : T ≤ 320) (hS0 : S ≤ 8) (hM : M ≤ 6) : Met l yX11_count (Cond.code yX11_count cX11_count 4 (some .int) :: GT) ({ frames := 0, cells := 0, slots := 0, locals := 0 } : Room) (PcR [.ref h0, .int what] dC dI G [(h0, .inr (11, [.ref st, .int (nI N), .int (nI B), .ref rp, .int vrs, .int vrb, .int vhs, .int vca, .int vxs, .int vxb, .ref tp, .int (nI T), .int vfa, .int vbr, .int vba, .int vsp, .int vhe, .int vtk, .int vva, .ref cu, .ref lt, .ref od, .ref th, .ref be, .ref ln, .int (nI S), .ref ma, .int (nI M), .ref ah, .ref bh, .ref ik, .ref la, .ref lg, .ref ce, .int vto])), (st, .inl (G 0, 196, .inl fst)), (ik, .inl (G 2, 2, .inl fik)), (la, .inl (G 0, 4, .inl fla)), (lg, .inl (G 0, 4, .inl flg))] sz) (va_Qi (fun (r : Int32) (u : Unit) => match u with | _ => (True) ∧ True) (fun _ _ => True) (fun q : Nat => sz ≤ q)) 0 0 (fun q : Nat => sz ≤ q) := by
  refine Met.ofW (cc := cX11_count) (maxL := 4) (ret := (some .int)) (by decide) rfl ?_
  intro p e s m args below meth c s₁ Bd hml hv
  obtain ⟨rfl, hsz, hP, hK⟩ := hv
  have hx := Bd.exec
  have hb := Bd.bytes
  have hr := Bd.returns
  have hg : ∀ w ∈ GT, w.before ([.ref h0, .int what] : List Value).toArray s = true := fun w h => atoms_spec (ws := Cond.code yX11_count cX11_count 4 (some .int) :: GT) Bd.pre w (List.mem_cons_of_mem _ h)
  have hown : s.vm.findClass RX11 = some m.cls := findClass_of_methodNamed Bd.named
  have hlocks := Bd.notSynchronized
  subst hsz
  have hA : ∀ q : Nat, s.heap.size ≤ q → (fun q : Nat => s.heap.size ≤ q) q := fun _ h => h
  have hS : va_S (fun q : Nat => s.heap.size ≤ q) s.heap s.heap [] := va_S.rf
  have hl := lv_entry ([.ref h0, .int what]) (n := 4) (Nat.le_of_ble_eq_true rfl)
  rw [lg_entry_eq]
  generalize (lg_sl ([.ref h0, .int what]) ++ List.replicate (4 - (lg_sl ([.ref h0, .int what])).length) Slot.unset).toArray = ls at hl ⊢
  have hl : lv_has ls 4 [(0, .ref h0), (1, .int what)] := hl
  refine lv_iconst (v := 0) hx hb dX11_count_0 (by decide) ?_
  refine lv_istore_n (lv' := [(2, .int 0), (0, .ref h0), (1, .int what)]) hx hb dX11_count_1 rfl hl (by decide) rfl (fun ls hl => ?_)
  refine lv_iconst (v := 1) hx hb dX11_count_2 (by decide) ?_
  refine lv_istore_n (lv' := [(3, .int 1), (2, .int 0), (0, .ref h0), (1, .int what)]) hx hb dX11_count_3 rfl hl (by decide) rfl (fun ls hl => ?_)
  have loop4_3 : ∀ (nf j1 : Nat), 10 + 1 ≤ j1 + nf → j1 ≤ 10 → 1 ≤ j1 → ∀ (y2 : Int32) (H : Heap) (locs : List Loc), va_P (dC, dI) vwCl [(h0, .inr (11, [.ref st, .int (nI N), .int (nI B), .ref rp, .int vrs, .int vrb, .int vhs, .int vca, .int vxs, .int vxb, .ref tp, .int (nI T), .int vfa, .int vbr, .int vba, .int vsp, .int vhe, .int vtk, .int vva, .ref cu, .ref lt, .ref od, .ref th, .ref be, .ref ln, .int (nI S), .ref ma, .int (nI M), .ref ah, .ref bh, .ref ik, .ref la, .ref lg, .ref ce, .int vto])), (st, .inl (G 0, 196, .inl fst)), (ik, .inl (G 2, 2, .inl fik)), (la, .inl (G 0, 4, .inl fla)), (lg, .inl (G 0, 4, .inl flg))] H → va_S (fun q : Nat => s.heap.size ≤ q) s.heap H locs → ∀ (ls : Array Slot), lv_has ls 4 [(3, .int (nI j1)), (2, .int y2), (0, .ref h0), (1, .int what)] → W p l e (headSpec (Cond.code yX11_count cX11_count 4 (some .int) :: GT) ({ frames := 0, cells := 0, slots := 0, locals := 0 } : Room)).room s m ([.ref h0, .int what] : List Value).toArray below meth c H locs 0 0 (MQ below (va_Qi (fun (r : Int32) (u : Unit) => match u with | _ => (True) ∧ True) (fun _ _ => True) (fun q : Nat => s.heap.size ≤ q)) ([.ref h0, .int what] : List Value).toArray s 0 0 (fun q : Nat => s.heap.size ≤ q)) (F0 m 4 ls []) := by
    intro nf
    induction nf with
    | zero => intro j1 h1 h2; exact absurd h1 (by omega)
    | succ nf ih4_3 =>
      intro j1 hn4 hj5 hlo_j1 y2 H locs hP hS ls hl
      refine lv_iload_n hx hb dX11_count_4 rfl (lv_at hl 0 rfl) ?_
      refine lv_aload_n hx hb dX11_count_5 rfl (lv_at hl 2 rfl) ?_
      refine va_get (D := (dC, dI)) (ci := 11) (v := .int (nI N)) (C := RX11) (T := TX11) (N := 35) hx hb hg inG11 hown hK.1 hP 0 rfl rfl 1 (by decide) (hg _ wt_879) (fun _ h9 => h9) rfl dX11_count_6 ?_
      refine lv_icmp_ge (tgt := 49) hx hb dX11_count_9 (by decide) (fun c6 => ?_) (fun c6 => ?_)
      · skip
        have n7 : N ≤ j1 := by have t := leI c6; rw [nI_toInt (n := j1) (by omega)] at t; rw [nI_toInt (n := N) (by omega)] at t; omega
        refine lv_iload_n hx hb dX11_count_49 rfl (lv_at hl 3 rfl) ?_
        by_cases c8 : what = 0
        · skip
          refine lv_cg c8 ?_
          refine lv_tableIn (tgt := 88) hx hb dX11_count_50 (by decide) (by decide) rfl (by decide) ?_
          refine lv_aload_n hx hb dX11_count_88 rfl (lv_at hl 2 rfl) ?_
          refine va_get (D := (dC, dI)) (ci := 11) (v := .int (nI S)) (C := RX11) (T := TX11) (N := 35) hx hb hg inG11 hown hK.1 hP 0 rfl rfl 25 (by decide) (hg _ wt_903) (fun _ h9 => h9) rfl dX11_count_89 ?_
          have hpost : True := by
            trivial
          refine W.widen (k := 0) (n := 0) (by omega) (by omega) ?_
          exact W.iret (v := nI S) hx hb hr (fun t ht hW => ⟨⟨nI S, (), rfl, ⟨hpost, trivial⟩, trivial⟩, hS.F ht⟩) hS.2.2 dX11_count_92
        · skip
          by_cases c9 : what = 1
          · skip
            refine lv_cg c9 ?_
            refine lv_tableIn (tgt := 93) hx hb dX11_count_50 (by decide) (by decide) rfl (by decide) ?_
            refine lv_aload_n hx hb dX11_count_93 rfl (lv_at hl 2 rfl) ?_
            refine va_get (D := (dC, dI)) (ci := 11) (v := .int (nI M)) (C := RX11) (T := TX11) (N := 35) hx hb hg inG11 hown hK.1 hP 0 rfl rfl 27 (by decide) (hg _ wt_905) (fun _ h9 => h9) rfl dX11_count_94 ?_
            have hpost : True := by
              trivial
            refine W.widen (k := 0) (n := 0) (by omega) (by omega) ?_
            exact W.iret (v := nI M) hx hb hr (fun t ht hW => ⟨⟨nI M, (), rfl, ⟨hpost, trivial⟩, trivial⟩, hS.F ht⟩) hS.2.2 dX11_count_97
          · skip
            by_cases c10 : what = 2
            · skip
              refine lv_cg c10 ?_
              refine lv_tableIn (tgt := 98) hx hb dX11_count_50 (by decide) (by decide) rfl (by decide) ?_
              refine lv_aload_n hx hb dX11_count_98 rfl (lv_at hl 2 rfl) ?_
              refine va_get (D := (dC, dI)) (ci := 11) (v := .ref ik) (C := RX11) (T := TX11) (N := 35) hx hb hg inG11 hown hK.1 hP 0 rfl rfl 30 (by decide) (hg _ wt_908) (fun _ h9 => h9) rfl dX11_count_99 ?_
              refine lv_iconst (v := 0) hx hb dX11_count_102 (by decide) ?_
              refine va_zald hx hb hK.1 hP 2 2 rfl rfl (vp_in_iff.mpr ⟨by decide, by decide⟩) dX11_count_103 ?_
              refine lv_cg (y := fik 0) (by rfl) ?_
              have cut112_13 : ∀ (k12 : Nat) (H : Heap) (locs : List Loc), k12 ≤ 1 → va_P (dC, dI) vwCl [(h0, .inr (11, [.ref st, .int (nI N), .int (nI B), .ref rp, .int vrs, .int vrb, .int vhs, .int vca, .int vxs, .int vxb, .ref tp, .int (nI T), .int vfa, .int vbr, .int vba, .int vsp, .int vhe, .int vtk, .int vva, .ref cu, .ref lt, .ref od, .ref th, .ref be, .ref ln, .int (nI S), .ref ma, .int (nI M), .ref ah, .ref bh, .ref ik, .ref la, .ref lg, .ref ce, .int vto])), (st, .inl (G 0, 196, .inl fst)), (ik, .inl (G 2, 2, .inl fik)), (la, .inl (G 0, 4, .inl fla)), (lg, .inl (G 0, 4, .inl flg))] H → va_S (fun q : Nat => s.heap.size ≤ q) s.heap H locs → ∀ (ls : Array Slot), lv_has ls 4 [(3, .int (nI j1)), (2, .int y2), (0, .ref h0), (1, .int what)] → W p l e (headSpec (Cond.code yX11_count cX11_count 4 (some .int) :: GT) ({ frames := 0, cells := 0, slots := 0, locals := 0 } : Room)).room s m ([.ref h0, .int what] : List Value).toArray below meth c H locs 0 0 (MQ below (va_Qi (fun (r : Int32) (u : Unit) => match u with | _ => (True) ∧ True) (fun _ _ => True) (fun q : Nat => s.heap.size ≤ q)) ([.ref h0, .int what] : List Value).toArray s 0 0 (fun q : Nat => s.heap.size ≤ q)) (F0 m 112 ls [.int (nI k12)]) := by
                intro k12 H locs hb_k12 hP hS ls hl
                refine lv_aload_n hx hb dX11_count_112 rfl (lv_at hl 2 rfl) ?_
                refine va_get (D := (dC, dI)) (ci := 11) (v := .ref ik) (C := RX11) (T := TX11) (N := 35) hx hb hg inG11 hown hK.1 hP 0 rfl rfl 30 (by decide) (hg _ wt_908) (fun _ h9 => h9) rfl dX11_count_113 ?_
                refine lv_iconst (v := 1) hx hb dX11_count_116 (by decide) ?_
                refine va_zald hx hb hK.1 hP 2 2 rfl rfl (vp_in_iff.mpr ⟨by decide, by decide⟩) dX11_count_117 ?_
                refine lv_cg (y := fik 1) (by rfl) ?_
                have cut126_16 : ∀ (k15 : Nat) (H : Heap) (locs : List Loc), k15 ≤ 1 → va_P (dC, dI) vwCl [(h0, .inr (11, [.ref st, .int (nI N), .int (nI B), .ref rp, .int vrs, .int vrb, .int vhs, .int vca, .int vxs, .int vxb, .ref tp, .int (nI T), .int vfa, .int vbr, .int vba, .int vsp, .int vhe, .int vtk, .int vva, .ref cu, .ref lt, .ref od, .ref th, .ref be, .ref ln, .int (nI S), .ref ma, .int (nI M), .ref ah, .ref bh, .ref ik, .ref la, .ref lg, .ref ce, .int vto])), (st, .inl (G 0, 196, .inl fst)), (ik, .inl (G 2, 2, .inl fik)), (la, .inl (G 0, 4, .inl fla)), (lg, .inl (G 0, 4, .inl flg))] H → va_S (fun q : Nat => s.heap.size ≤ q) s.heap H locs → ∀ (ls : Array Slot), lv_has ls 4 [(3, .int (nI j1)), (2, .int y2), (0, .ref h0), (1, .int what)] → W p l e (headSpec (Cond.code yX11_count cX11_count 4 (some .int) :: GT) ({ frames := 0, cells := 0, slots := 0, locals := 0 } : Room)).room s m ([.ref h0, .int what] : List Value).toArray below meth c H locs 0 0 (MQ below (va_Qi (fun (r : Int32) (u : Unit) => match u with | _ => (True) ∧ True) (fun _ _ => True) (fun q : Nat => s.heap.size ≤ q)) ([.ref h0, .int what] : List Value).toArray s 0 0 (fun q : Nat => s.heap.size ≤ q)) (F0 m 126 ls [.int (nI k15), .int (nI k12)]) := by
                  intro k15 H locs hb_k15 hP hS ls hl
                  refine lv_iadd hx hb dX11_count_126 ?_
                  refine lv_cg (y := nI (k12 + k15)) (by exact nI_add _ _) ?_
                  have hpost : True := by
                    trivial
                  refine W.widen (k := 0) (n := 0) (by omega) (by omega) ?_
                  exact W.iret (v := nI (k12 + k15)) hx hb hr (fun t ht hW => ⟨⟨nI (k12 + k15), (), rfl, ⟨hpost, trivial⟩, trivial⟩, hS.F ht⟩) hS.2.2 dX11_count_127
                refine lv_if_eq (tgt := 125) hx hb dX11_count_118 (by decide) (fun c17 => ?_) (fun c17 => ?_)
                · skip
                  refine lv_iconst (v := 0) hx hb dX11_count_125 (by decide) ?_
                  exact cut126_16 0 _ _ (by omega) hP hS ls (lv_sub hl [0, 1, 2, 3] rfl)
                · skip
                  refine lv_iconst (v := 1) hx hb dX11_count_121 (by decide) ?_
                  refine lv_goto (tgt := 126) hx hb dX11_count_122 (by decide) ?_
                  exact cut126_16 1 _ _ (by omega) hP hS ls (lv_sub hl [0, 1, 2, 3] rfl)
              refine lv_if_eq (tgt := 111) hx hb dX11_count_104 (by decide) (fun c18 => ?_) (fun c18 => ?_)
              · skip
                refine lv_iconst (v := 0) hx hb dX11_count_111 (by decide) ?_
                exact cut112_13 0 _ _ (by omega) hP hS ls (lv_sub hl [0, 1, 2, 3] rfl)
              · skip
                refine lv_iconst (v := 1) hx hb dX11_count_107 (by decide) ?_
                refine lv_goto (tgt := 112) hx hb dX11_count_108 (by decide) ?_
                exact cut112_13 1 _ _ (by omega) hP hS ls (lv_sub hl [0, 1, 2, 3] rfl)
            · skip
              by_cases c19 : what = 3
              · skip
                refine lv_cg c19 ?_
                refine lv_tableIn (tgt := 128) hx hb dX11_count_50 (by decide) (by decide) rfl (by decide) ?_
                refine lv_aload_n hx hb dX11_count_128 rfl (lv_at hl 2 rfl) ?_
                refine va_get (D := (dC, dI)) (ci := 11) (v := .int (nI T)) (C := RX11) (T := TX11) (N := 35) hx hb hg inG11 hown hK.1 hP 0 rfl rfl 11 (by decide) (hg _ wt_889) (fun _ h9 => h9) rfl dX11_count_129 ?_
                have hpost : True := by
                  trivial
                refine W.widen (k := 0) (n := 0) (by omega) (by omega) ?_
                exact W.iret (v := nI T) hx hb hr (fun t ht hW => ⟨⟨nI T, (), rfl, ⟨hpost, trivial⟩, trivial⟩, hS.F ht⟩) hS.2.2 dX11_count_132
              · skip
                by_cases c20 : what = 4
                · skip
                  refine lv_cg c20 ?_
                  refine lv_tableIn (tgt := 133) hx hb dX11_count_50 (by decide) (by decide) rfl (by decide) ?_
                  refine lv_aload_n hx hb dX11_count_133 rfl (lv_at hl 2 rfl) ?_
                  refine va_get (D := (dC, dI)) (ci := 11) (v := .ref la) (C := RX11) (T := TX11) (N := 35) hx hb hg inG11 hown hK.1 hP 0 rfl rfl 31 (by decide) (hg _ wt_909) (fun _ h9 => h9) rfl dX11_count_134 ?_
                  refine lv_iconst (v := 0) hx hb dX11_count_137 (by decide) ?_
                  refine va_iald hx hb hK.1 hP 3 0 rfl rfl (vp_in_iff.mpr ⟨by decide, by decide⟩) dX11_count_138 ?_
                  refine lv_cg (y := fla 0) (by rfl) ?_
                  refine lv_bipush (v := (-4)) hx hb dX11_count_139 (by decide) ?_
                  have cut155_22 : ∀ (y21 : Int32) (H : Heap) (locs : List Loc), va_P (dC, dI) vwCl [(h0, .inr (11, [.ref st, .int (nI N), .int (nI B), .ref rp, .int vrs, .int vrb, .int vhs, .int vca, .int vxs, .int vxb, .ref tp, .int (nI T), .int vfa, .int vbr, .int vba, .int vsp, .int vhe, .int vtk, .int vva, .ref cu, .ref lt, .ref od, .ref th, .ref be, .ref ln, .int (nI S), .ref ma, .int (nI M), .ref ah, .ref bh, .ref ik, .ref la, .ref lg, .ref ce, .int vto])), (st, .inl (G 0, 196, .inl fst)), (ik, .inl (G 2, 2, .inl fik)), (la, .inl (G 0, 4, .inl fla)), (lg, .inl (G 0, 4, .inl flg))] H → va_S (fun q : Nat => s.heap.size ≤ q) s.heap H locs → ∀ (ls : Array Slot), lv_has ls 4 [(3, .int (nI j1)), (2, .int y2), (0, .ref h0), (1, .int what)] → W p l e (headSpec (Cond.code yX11_count cX11_count 4 (some .int) :: GT) ({ frames := 0, cells := 0, slots := 0, locals := 0 } : Room)).room s m ([.ref h0, .int what] : List Value).toArray below meth c H locs 0 0 (MQ below (va_Qi (fun (r : Int32) (u : Unit) => match u with | _ => (True) ∧ True) (fun _ _ => True) (fun q : Nat => s.heap.size ≤ q)) ([.ref h0, .int what] : List Value).toArray s 0 0 (fun q : Nat => s.heap.size ≤ q)) (F0 m 155 ls [.int y21]) := by
                    intro y21 H locs hP hS ls hl
                    have hpost : True := by
                      trivial
                    refine W.widen (k := 0) (n := 0) (by omega) (by omega) ?_
                    exact W.iret (v := y21) hx hb hr (fun t ht hW => ⟨⟨y21, (), rfl, ⟨hpost, trivial⟩, trivial⟩, hS.F ht⟩) hS.2.2 dX11_count_155
                  refine lv_icmp_ne (tgt := 149) hx hb dX11_count_141 (by decide) (fun c23 => ?_) (fun c23 => ?_)
                  · skip
                    refine lv_aload_n hx hb dX11_count_149 rfl (lv_at hl 2 rfl) ?_
                    refine va_get (D := (dC, dI)) (ci := 11) (v := .ref lg) (C := RX11) (T := TX11) (N := 35) hx hb hg inG11 hown hK.1 hP 0 rfl rfl 32 (by decide) (hg _ wt_910) (fun _ h9 => h9) rfl dX11_count_150 ?_
                    refine lv_iconst (v := 0) hx hb dX11_count_153 (by decide) ?_
                    refine va_iald hx hb hK.1 hP 4 0 rfl rfl (vp_in_iff.mpr ⟨by decide, by decide⟩) dX11_count_154 ?_
                    refine lv_cg (y := flg 0) (by rfl) ?_
                    exact cut155_22 (flg 0) _ _ hP hS ls (lv_sub hl [0, 1, 2, 3] rfl)
                  · skip
                    refine lv_bipush (v := (-4)) hx hb dX11_count_144 (by decide) ?_
                    refine lv_goto (tgt := 155) hx hb dX11_count_146 (by decide) ?_
                    exact cut155_22 (-4) _ _ hP hS ls (lv_sub hl [0, 1, 2, 3] rfl)
                · skip
                  by_cases c24 : what = 5
                  · skip
                    refine lv_cg c24 ?_
                    refine lv_tableIn (tgt := 156) hx hb dX11_count_50 (by decide) (by decide) rfl (by decide) ?_
                    refine lv_iload_n hx hb dX11_count_156 rfl (lv_at hl 1 rfl) ?_
                    have hpost : True := by
                      trivial
                    refine W.widen (k := 0) (n := 0) (by omega) (by omega) ?_
                    exact W.iret (v := y2) hx hb hr (fun t ht hW => ⟨⟨y2, (), rfl, ⟨hpost, trivial⟩, trivial⟩, hS.F ht⟩) hS.2.2 dX11_count_157
                  · skip
                    refine lv_tableOut (tgt := 158) hx hb dX11_count_50 (by have t_hj5 := hj5; have t_hlo_j1 := hlo_j1; have t_n7 := n7; have t_c8 := neI c8; have t_c9 := neI c9; have t_c10 := neI c10; have t_c19 := neI c19; have t_c20 := neI c20; have t_c24 := neI c24; have : (0 : Int32).toInt = 0 := (by decide); have : (1 : Int32).toInt = 1 := (by decide); have : (2 : Int32).toInt = 2 := (by decide); have : (3 : Int32).toInt = 3 := (by decide); have : (4 : Int32).toInt = 4 := (by decide); have : (5 : Int32).toInt = 5 := (by decide); have t_n0 : (nI N).toInt = (N : Int) := nI_toInt (by omega); have t_n1 : (nI B).toInt = (B : Int) := nI_toInt (by omega); have t_n2 : (nI T).toInt = (T : Int) := nI_toInt (by omega); have t_n3 : (nI S).toInt = (S : Int) := nI_toInt (by omega); have t_n4 : (nI M).toInt = (M : Int) := nI_toInt (by omega); have t_n5 : (nI j1).toInt = (j1 : Int) := nI_toInt (by omega); omega) (by decide) ?_
                    refine lv_iconst (v := (-1)) hx hb dX11_count_158 (by decide) ?_
                    have hpost : True := by
                      trivial
                    refine W.widen (k := 0) (n := 0) (by omega) (by omega) ?_
                    exact W.iret (v := (-1)) hx hb hr (fun t ht hW => ⟨⟨(-1), (), rfl, ⟨hpost, trivial⟩, trivial⟩, hS.F ht⟩) hS.2.2 dX11_count_159
      · skip
        have n25 : j1 < N := by have t := nleI c6; rw [nI_toInt (n := j1) (by omega)] at t; rw [nI_toInt (n := N) (by omega)] at t; omega
        refine lv_iload_n hx hb dX11_count_12 rfl (lv_at hl 1 rfl) ?_
        refine lv_aload_n hx hb dX11_count_13 rfl (lv_at hl 2 rfl) ?_
        refine va_get (D := (dC, dI)) (ci := 11) (v := .ref st) (C := RX11) (T := TX11) (N := 35) hx hb hg inG11 hown hK.1 hP 0 rfl rfl 0 (by decide) (hg _ wt_878) (fun _ h9 => h9) rfl dX11_count_14 ?_
        refine lv_bipush (v := 38) hx hb dX11_count_17 (by decide) ?_
        refine lv_iload_n hx hb dX11_count_19 rfl (lv_at hl 0 rfl) ?_
        refine lv_iadd hx hb dX11_count_20 ?_
        refine lv_cg (y := nI (38 + j1)) (by rw [show (38 : Int32) = nI 38 from rfl]; exact nI_add _ _) ?_
        refine va_iald hx hb hK.1 hP 1 0 rfl rfl (vp_in_nI (by have t_hj5 := hj5; have t_hlo_j1 := hlo_j1; have t_n25 := n25; have t_n0 : (nI N).toInt = (N : Int) := nI_toInt (by omega); have t_n1 : (nI B).toInt = (B : Int) := nI_toInt (by omega); have t_n2 : (nI T).toInt = (T : Int) := nI_toInt (by omega); have t_n3 : (nI S).toInt = (S : Int) := nI_toInt (by omega); have t_n4 : (nI M).toInt = (M : Int) := nI_toInt (by omega); have t_n5 : (nI j1).toInt = (j1 : Int) := nI_toInt (by omega); omega) (by decide)) dX11_count_21 ?_
        refine lv_cg (y := fst (38 + j1)) (by rw [nI_clamp (by omega)]) ?_
        refine lv_aload_n hx hb dX11_count_22 rfl (lv_at hl 2 rfl) ?_
        refine va_get (D := (dC, dI)) (ci := 11) (v := .ref st) (C := RX11) (T := TX11) (N := 35) hx hb hg inG11 hown hK.1 hP 0 rfl rfl 0 (by decide) (hg _ wt_878) (fun _ h9 => h9) rfl dX11_count_23 ?_
        refine lv_bipush (v := 38) hx hb dX11_count_26 (by decide) ?_
        refine lv_iload_n hx hb dX11_count_28 rfl (lv_at hl 0 rfl) ?_
        refine lv_iadd hx hb dX11_count_29 ?_
        refine lv_cg (y := nI (38 + j1)) (by rw [show (38 : Int32) = nI 38 from rfl]; exact nI_add _ _) ?_
        refine lv_iconst (v := 1) hx hb dX11_count_30 (by decide) ?_
        refine lv_isub hx hb dX11_count_31 ?_
        refine lv_cg (y := nI ((38 + j1) - 1)) (by rw [show (1 : Int32) = nI 1 from rfl]; exact pk_sub (by have t_hj5 := hj5; have t_hlo_j1 := hlo_j1; have t_n25 := n25; have t_n0 : (nI N).toInt = (N : Int) := nI_toInt (by omega); have t_n1 : (nI B).toInt = (B : Int) := nI_toInt (by omega); have t_n2 : (nI T).toInt = (T : Int) := nI_toInt (by omega); have t_n3 : (nI S).toInt = (S : Int) := nI_toInt (by omega); have t_n4 : (nI M).toInt = (M : Int) := nI_toInt (by omega); have t_n5 : (nI j1).toInt = (j1 : Int) := nI_toInt (by omega); omega)) ?_
        refine va_iald hx hb hK.1 hP 1 0 rfl rfl (vp_in_nI (by have t_hj5 := hj5; have t_hlo_j1 := hlo_j1; have t_n25 := n25; have t_n0 : (nI N).toInt = (N : Int) := nI_toInt (by omega); have t_n1 : (nI B).toInt = (B : Int) := nI_toInt (by omega); have t_n2 : (nI T).toInt = (T : Int) := nI_toInt (by omega); have t_n3 : (nI S).toInt = (S : Int) := nI_toInt (by omega); have t_n4 : (nI M).toInt = (M : Int) := nI_toInt (by omega); have t_n5 : (nI j1).toInt = (j1 : Int) := nI_toInt (by omega); omega) (by decide)) dX11_count_32 ?_
        refine lv_cg (y := fst ((38 + j1) - 1)) (by rw [nI_clamp (by omega)]) ?_
        have cut41_28 : ∀ (k27 : Nat) (H : Heap) (locs : List Loc), k27 ≤ 1 → va_P (dC, dI) vwCl [(h0, .inr (11, [.ref st, .int (nI N), .int (nI B), .ref rp, .int vrs, .int vrb, .int vhs, .int vca, .int vxs, .int vxb, .ref tp, .int (nI T), .int vfa, .int vbr, .int vba, .int vsp, .int vhe, .int vtk, .int vva, .ref cu, .ref lt, .ref od, .ref th, .ref be, .ref ln, .int (nI S), .ref ma, .int (nI M), .ref ah, .ref bh, .ref ik, .ref la, .ref lg, .ref ce, .int vto])), (st, .inl (G 0, 196, .inl fst)), (ik, .inl (G 2, 2, .inl fik)), (la, .inl (G 0, 4, .inl fla)), (lg, .inl (G 0, 4, .inl flg))] H → va_S (fun q : Nat => s.heap.size ≤ q) s.heap H locs → ∀ (ls : Array Slot), lv_has ls 4 [(3, .int (nI j1)), (2, .int y2), (0, .ref h0), (1, .int what)] → W p l e (headSpec (Cond.code yX11_count cX11_count 4 (some .int) :: GT) ({ frames := 0, cells := 0, slots := 0, locals := 0 } : Room)).room s m ([.ref h0, .int what] : List Value).toArray below meth c H locs 0 0 (MQ below (va_Qi (fun (r : Int32) (u : Unit) => match u with | _ => (True) ∧ True) (fun _ _ => True) (fun q : Nat => s.heap.size ≤ q)) ([.ref h0, .int what] : List Value).toArray s 0 0 (fun q : Nat => s.heap.size ≤ q)) (F0 m 41 ls [.int (nI k27), .int y2]) := by
          intro k27 H locs hb_k27 hP hS ls hl
          refine lv_iadd hx hb dX11_count_41 ?_
          refine lv_istore_n (lv' := [(2, .int (y2 + (nI k27))), (3, .int (nI j1)), (0, .ref h0), (1, .int what)]) hx hb dX11_count_42 rfl hl (by decide) rfl (fun ls hl => ?_)
          refine lv_iinc (v := nI (j1 + 1)) (lv' := [(3, .int (nI (j1 + 1))), (2, .int (y2 + (nI k27))), (0, .ref h0), (1, .int what)]) hx hb dX11_count_43 hl (k := 1) rfl (by rw [show Int32.ofInt 1 = nI 1 from by decide]; exact nI_add _ _) (by decide) rfl (fun ls hl => ?_)
          refine lv_goto (tgt := 4) hx hb dX11_count_46 (by decide) ?_
          exact ih4_3 (j1 + 1) (by omega) (by omega) (by omega) (y2 + (nI k27)) _ _ hP hS ls (lv_sub hl [0, 1, 2, 3] rfl)
        refine lv_icmp_eq (tgt := 40) hx hb dX11_count_33 (by decide) (fun c29 => ?_) (fun c29 => ?_)
        · skip
          refine lv_iconst (v := 0) hx hb dX11_count_40 (by decide) ?_
          exact cut41_28 0 _ _ (by omega) hP hS ls (lv_sub hl [0, 1, 2, 3] rfl)
        · skip
          refine lv_iconst (v := 1) hx hb dX11_count_36 (by decide) ?_
          refine lv_goto (tgt := 41) hx hb dX11_count_37 (by decide) ?_
          exact cut41_28 1 _ _ (by omega) hP hS ls (lv_sub hl [0, 1, 2, 3] rfl)
  exact loop4_3 (10 + 1) 1 (by omega) (by omega) (by omega) 0 _ _ hP hS ls (lv_sub hl [0, 1, 2, 3] rfl)

def cutL : List Nat := [0, 5, 12, 18, 23, 28, 34, 42, 46, 50, 54]
theorem cut_mono {n : Nat} (h : n < 10) : cutL.getD n 0 ≤ cutL.getD (n + 1) 0 ∧ cutL.getD (n + 1) 0 ≤ 54 := by
  rcases (show n = 0 ∨ n = 1 ∨ n = 2 ∨ n = 3 ∨ n = 4 ∨ n = 5 ∨ n = 6 ∨ n = 7 ∨ n = 8 ∨ n = 9 by omega) with q|q|q|q|q|q|q|q|q|q <;> subst q <;> decide
theorem nIm4 {n : Nat} (h : n ≤ 9) : (nI n - 4).toInt = (n : Int) - 4 := by
  rcases (show n = 0 ∨ n = 1 ∨ n = 2 ∨ n = 3 ∨ n = 4 ∨ n = 5 ∨ n = 6 ∨ n = 7 ∨ n = 8 ∨ n = 9 by omega) with q|q|q|q|q|q|q|q|q|q <;> subst q <;> decide
theorem OKP.zero {f : Nat → Int32} (h : ∀ q : Nat, q < 49 → f q = 0) : OKP f := by
  intro q hq
  rw [h q hq]
  have e : (0 : Int32).toInt = 0 := by decide
  exact ⟨fun _ => by omega, fun _ _ => by omega, fun _ => by omega⟩

theorem addI {x y : Int32} (h : -2147483648 ≤ x.toInt + y.toInt) (h' : x.toInt + y.toInt < 2147483648) : (x + y).toInt = x.toInt + y.toInt := by
  have e0 : (x + y).toInt = (x.toInt + y.toInt).bmod (2 ^ 32) := Int32.toInt_add x y
  rw [Int.bmod_eq_of_le (by omega) (by omega)] at e0
  exact e0
theorem subI {x y : Int32} (h : -2147483648 ≤ x.toInt - y.toInt) (h' : x.toInt - y.toInt < 2147483648) : (x - y).toInt = x.toInt - y.toInt := by
  have e0 : (x - y).toInt = (x.toInt - y.toInt).bmod (2 ^ 32) := Int32.toInt_sub x y
  rw [Int.bmod_eq_of_le (by omega) (by omega)] at e0
  exact e0
theorem hKb (x : Int32) : 0 ≤ (hK' x).toInt ∧ (hK' x).toInt ≤ 2 := by
  unfold hK'
  split
  · decide
  · split <;> decide
theorem hTrb (x y : Int32) : 0 ≤ (hTr x y).toInt ∧ (hTr x y).toInt ≤ 1 := by
  unfold hTr
  split <;> decide
theorem hPosb (x : Int32) : 0 ≤ (hPos x).toInt ∧ ((hPos x).toInt = 0 ∨ (hPos x).toInt = x.toInt) := by
  have z0 : (0 : Int32).toInt = 0 := by decide
  unfold hPos
  split
  · rw [z0]; exact ⟨by omega, Or.inl rfl⟩
  · rename_i h
    have t := nleI h
    exact ⟨by omega, Or.inr rfl⟩
theorem hTopb {x : Int32} (h : 0 ≤ x.toInt) : 0 ≤ (hTop x).toInt ∧ (hTop x).toInt ≤ 20 := by
  have z0 : (20 : Int32).toInt = 20 := by decide
  unfold hTop
  split
  · rename_i h1
    have t := leI h1
    exact ⟨h, by omega⟩
  · rw [z0]; exact ⟨by omega, by omega⟩
theorem hAbsb {x : Int32} (h : -9 ≤ x.toInt) (h' : x.toInt ≤ 9) : 0 ≤ (hAbs x).toInt ∧ (hAbs x).toInt ≤ 9 := by
  have z0 : (0 : Int32).toInt = 0 := by decide
  unfold hAbs
  split
  · rename_i h1
    have t := leI h1
    exact ⟨by omega, h'⟩
  · rename_i h1
    have t := nleI h1
    have e0 : (-x).toInt = (-x.toInt).bmod (2 ^ 32) := Int32.toInt_neg x
    rw [Int.bmod_eq_of_le (by omega) (by omega)] at e0
    exact ⟨by omega, by omega⟩
theorem hJob {q x : Int32} (h : 0 ≤ x.toInt) (h' : x.toInt ≤ 9) : 0 ≤ (hJo q x).toInt ∧ (hJo q x).toInt ≤ 9 := by
  unfold hJo
  split
  · obtain ⟨j, hj, rfl⟩ := i32_nat (x := x) (n := 10) h (by omega)
    rcases (show j = 0 ∨ j = 1 ∨ j = 2 ∨ j = 3 ∨ j = 4 ∨ j = 5 ∨ j = 6 ∨ j = 7 ∨ j = 8 ∨ j = 9 by omega) with q|q|q|q|q|q|q|q|q|q <;> subst q <;> decide
  · exact ⟨h, h'⟩
theorem rhSb {fs : Nat → Int32} (h : OKS fs) {i b : Nat} (hi : i < 10) (hb : b < 6) : 0 ≤ (rhS fs i b 0).toInt ∧ (rhS fs i b 0).toInt ≤ 19 := by
  have a1 := (h (2 * i) (by omega)).1 (by rw [Nat.mod_eq_of_lt (by omega)]; omega)
  have a2 := (h (2 * i + 1) (by omega)).1 (by rw [Nat.mod_eq_of_lt (by omega)]; omega)
  have a3 := (h (20 + 3 * b + 2) (by omega)).1 (by rw [Nat.mod_eq_of_lt (by omega)]; omega)
  have e0 : hQt fs i 0 = fs (2 * i) := if_pos rfl
  have k := hKb (fs (20 + 3 * b))
  have t := hTrb (fs (20 + 3 * b)) (fs (2 * i + 1))
  have s1 := subI (x := fs (2 * i)) (y := hK' (fs (20 + 3 * b))) (by omega) (by omega)
  have s2 := subI (x := fs (2 * i + 1)) (y := fs (20 + 3 * b + 2)) (by omega) (by omega)
  have p1 := hPosb (fs (2 * i) - hK' (fs (20 + 3 * b)))
  have p2 := hPosb (fs (2 * i + 1) - fs (20 + 3 * b + 2))
  unfold rhS
  rw [e0]
  generalize hPos (fs (2 * i) - hK' (fs (20 + 3 * b))) = A at p1 ⊢
  generalize hPos (fs (2 * i + 1) - fs (20 + 3 * b + 2)) = B at p2 ⊢
  generalize hTr (fs (20 + 3 * b)) (fs (2 * i + 1)) = C at t ⊢
  have u1 := addI (x := A) (y := B) (by omega) (by omega)
  have u2 := addI (x := A + B) (y := C) (by omega) (by omega)
  rw [u2, u1]
  exact ⟨by omega, by omega⟩
theorem rhNb {fs : Nat → Int32} (h : OKS fs) {i b : Nat} (hi : i < 10) (hb : b < 6) : 0 ≤ (rhN fs i b 0).toInt ∧ (rhN fs i b 0).toInt ≤ 20 := hTopb (rhSb h hi hb).1
theorem rhBb {fs : Nat → Int32} (h : OKS fs) {i a b : Nat} (hi : i < 10) (ha : a < 6) (hb : b < 6) : 0 ≤ (rhB fs i a b 0).toInt ∧ (rhB fs i a b 0).toInt ≤ 20 := by
  have k := rhSb h hi hb
  have a1 := (h (20 + 3 * a + 1) (by omega)).1 (by rw [Nat.mod_eq_of_lt (by omega)]; omega)
  have a2 := (h (20 + 3 * b + 1) (by omega)).1 (by rw [Nat.mod_eq_of_lt (by omega)]; omega)
  have s1 := subI (x := fs (20 + 3 * a + 1)) (y := fs (20 + 3 * b + 1)) (by omega) (by omega)
  have p1 := hAbsb (x := fs (20 + 3 * a + 1) - fs (20 + 3 * b + 1)) (by omega) (by omega)
  have p2 := hJob (q := fs (20 + 3 * b)) p1.1 p1.2
  unfold rhB
  refine hTopb ?_
  split
  · exact k.1
  · generalize hJo (fs (20 + 3 * b)) (hAbs (fs (20 + 3 * a + 1) - fs (20 + 3 * b + 1))) = J at p2 ⊢
    have u1 := addI (x := rhS fs i b 0) (y := J) (by omega) (by omega)
    omega
def pwI : Nat → Int
  | 0 => 1
  | n + 1 => pwI n * 20
theorem pwI_b {n : Nat} (h : n ≤ 9) : 1 ≤ pwI n ∧ pwI n ≤ 512000000000 := by
  rcases (show n = 0 ∨ n = 1 ∨ n = 2 ∨ n = 3 ∨ n = 4 ∨ n = 5 ∨ n = 6 ∨ n = 7 ∨ n = 8 ∨ n = 9 by omega) with h|h|h|h|h|h|h|h|h|h <;> subst h <;> decide
theorem pwI_t {n : Nat} (h : n ≤ 10) : (powF n).toInt = pwI n := by
  rcases (show n = 0 ∨ n = 1 ∨ n = 2 ∨ n = 3 ∨ n = 4 ∨ n = 5 ∨ n = 6 ∨ n = 7 ∨ n = 8 ∨ n = 9 ∨ n = 10 by omega) with h|h|h|h|h|h|h|h|h|h|h <;> subst h <;> decide
theorem mulL {x y : Int64} (h : 0 ≤ x.toInt * y.toInt) (h' : x.toInt * y.toInt < 9000000000000000000) : (x * y).toInt = x.toInt * y.toInt := by
  have e0 : (x * y).toInt = (x.toInt * y.toInt).bmod (2 ^ 64) := Int64.toInt_mul x y
  rw [Int.bmod_eq_of_le (by omega) (by omega)] at e0
  exact e0
theorem addL {x y : Int64} (h : 0 ≤ x.toInt + y.toInt) (h' : x.toInt + y.toInt < 9000000000000000000) : (x + y).toInt = x.toInt + y.toInt := by
  have e0 : (x + y).toInt = (x.toInt + y.toInt).bmod (2 ^ 64) := Int64.toInt_add x y
  rw [Int.bmod_eq_of_le (by omega) (by omega)] at e0
  exact e0
theorem mixB {a : Int32} {x y : Int64} {M : Int} (h0 : 0 ≤ a.toInt) (h1 : a.toInt ≤ 20) (hM : M ≤ 512000000000) (hx0 : 0 ≤ x.toInt) (hx : x.toInt ≤ M) (hy0 : 0 ≤ y.toInt) (hy : y.toInt ≤ M) : 0 ≤ (a.toInt64 * x + (20 - a).toInt64 * y).toInt ∧ (a.toInt64 * x + (20 - a).toInt64 * y).toInt ≤ M * 20 := by
  have z : (20 : Int32).toInt = 20 := by decide
  have s1 := subI (x := 20) (y := a) (by omega) (by omega)
  have e1 : a.toInt64.toInt = a.toInt := l_ii a
  have e2 : (20 - a).toInt64.toInt = 20 - a.toInt := by rw [l_ii, s1, z]
  have p1 : 0 ≤ a.toInt * x.toInt := Int.mul_nonneg h0 hx0
  have p2 : a.toInt * x.toInt ≤ a.toInt * M := Int.mul_le_mul_of_nonneg_left hx h0
  have q1 : 0 ≤ (20 - a.toInt) * y.toInt := Int.mul_nonneg (by omega) hy0
  have q2 : (20 - a.toInt) * y.toInt ≤ (20 - a.toInt) * M := Int.mul_le_mul_of_nonneg_left hy (by omega)
  have r1 : 0 ≤ a.toInt * M := Int.mul_nonneg h0 (by omega)
  have r2 : 0 ≤ (20 - a.toInt) * M := Int.mul_nonneg (by omega) (by omega)
  have s : a.toInt * M + (20 - a.toInt) * M = M * 20 := by
    rw [← Int.add_mul, show a.toInt + (20 - a.toInt) = 20 by omega, Int.mul_comm]
  have m1 := mulL (x := a.toInt64) (y := x) (by rw [e1]; exact p1) (by rw [e1]; omega)
  have m2 := mulL (x := (20 - a).toInt64) (y := y) (by rw [e2]; exact q1) (by rw [e2]; omega)
  rw [e1] at m1
  rw [e2] at m2
  have t := addL (x := a.toInt64 * x) (y := (20 - a).toInt64 * y) (by rw [m1, m2]; omega) (by rw [m1, m2]; omega)
  rw [t, m1, m2]
  exact ⟨by omega, by omega⟩
def b1N (fs : Nat → Int32) (f : Nat → Int64) (i d b : Nat) : Int64 := (rhN fs i b 0).toInt64 * f (70 * (i + 1) + 10 * (b + 1) + (d - 1)) + (20 - rhN fs i b 0).toInt64 * f (70 * (i + 1) + 10 * (b + 1) + min 9 (d + 1))
def b1B (fs : Nat → Int32) (f : Nat → Int64) (i a d b : Nat) : Int64 := (rhB fs i a b 0).toInt64 * f (70 * (i + 1) + 10 * (b + 1) + (d - 1)) + (20 - rhB fs i a b 0).toInt64 * f (70 * (i + 1) + 10 * (b + 1) + min 9 (d + 1))
def b1 (fs : Nat → Int32) (f : Nat → Int64) (i k b : Nat) : Int64 := if k < 10 then b1N fs f i (k % 10) b else b1B fs f i (k / 10 - 1) (k % 10) b
theorem b1_cg {fs : Nat → Int32} {f g : Nat → Int64} {i k b : Nat} (h : ∀ q : Nat, 70 * (i + 1) ≤ q → f q = g q) : b1 fs f i k b = b1 fs g i k b := by
  unfold b1 b1N b1B
  rw [h (70 * (i + 1) + 10 * (b + 1) + (k % 10 - 1)) (by omega), h (70 * (i + 1) + 10 * (b + 1) + min 9 (k % 10 + 1)) (by omega)]
def okv (N i : Nat) (x : Int64) : Prop := 0 ≤ x.toInt ∧ x.toInt ≤ pwI (N - i)
def sOK (fs : Nat → Int32) (N B : Nat) (f : Nat → Int64) (i k : Nat) : Prop := (k % 10 = 0 ∨ k < 10 ∨ k / 10 ≤ B) → okv N i (f (70 * i + k)) ∧ (i < N → k % 10 ≠ 0 → ∃ b : Nat, b < B ∧ f (70 * i + k) = b1 fs f i k b)
def RI (fs : Nat → Int32) (N B j : Nat) (f : Nat → Int64) : Prop := ∀ i k : Nat, j ≤ i → i ≤ N → k < 70 → sOK fs N B f i k
def KI (fs : Nat → Int32) (N B i k : Nat) (f : Nat → Int64) : Prop := RI fs N B (i + 1) f ∧ ∀ k' : Nat, k' < k → sOK fs N B f i k'
def BI (fs : Nat → Int32) (N B i k b : Nat) (f : Nat → Int64) : Prop := KI fs N B i k f ∧ ((k % 10 = 0 ∧ f (70 * i + k) = powF (N - i)) ∨ (k % 10 ≠ 0 ∧ ((b = 0 ∧ f (70 * i + k) = 4000000000000000000) ∨ (okv N i (f (70 * i + k)) ∧ ∃ b' : Nat, b' < b ∧ f (70 * i + k) = b1 fs f i k b'))))
def FI (N j : Nat) (f : Nat → Int64) : Prop := ∀ k : Nat, k < j → 0 ≤ (f (70 * N + k)).toInt ∧ (f (70 * N + k)).toInt ≤ 1
theorem upL_ne {f : Nat → Int64} {k q : Nat} {v : Int64} (h : q ≠ k) : vp_updL f k v q = f q := if_neg h
theorem upL_eq {f : Nat → Int64} {k : Nat} {v : Int64} : vp_updL f k v k = v := if_pos rfl
theorem sOK_cg {fs : Nat → Int32} {N B : Nat} {f g : Nat → Int64} {i k : Nat} (h1 : ∀ q : Nat, 70 * (i + 1) ≤ q → f q = g q) (h2 : f (70 * i + k) = g (70 * i + k)) (h : sOK fs N B f i k) : sOK fs N B g i k := by
  intro hk
  obtain ⟨p, q⟩ := h hk
  refine ⟨by rw [← h2]; exact p, fun a c => ?_⟩
  obtain ⟨b, hb, e⟩ := q a c
  exact ⟨b, hb, by rw [← h2, ← b1_cg h1]; exact e⟩
theorem KI.put {fs : Nat → Int32} {N B i k : Nat} {f : Nat → Int64} {v : Int64} (hk : k < 70) (h : KI fs N B i k f) : KI fs N B i k (vp_updL f (70 * i + k) v) :=
  ⟨fun i' k' h1 h2 h3 => sOK_cg (fun q hq => (upL_ne (by omega)).symm) (upL_ne (by omega)).symm (h.1 i' k' h1 h2 h3), fun k' hk' => sOK_cg (fun q hq => (upL_ne (by omega)).symm) (upL_ne (by omega)).symm (h.2 k' hk')⟩
theorem BI.ini {fs : Nat → Int32} {N B i k : Nat} {f : Nat → Int64} {y : Int64} (h : KI fs N B i k f) (hk : k < 70) (hc : (k % 10 = 0 ∧ y = powF (N - i)) ∨ (k % 10 ≠ 0 ∧ y = 4000000000000000000)) : BI fs N B i k 0 (vp_updL f (70 * i + k) y) := by
  refine ⟨h.put hk, ?_⟩
  rw [upL_eq]
  rcases hc with hc | hc
  · exact Or.inl hc
  · exact Or.inr ⟨hc.1, Or.inl ⟨rfl, hc.2⟩⟩
theorem b1_ok {fs : Nat → Int32} {N B i k b : Nat} {f : Nat → Int64} (ho : OKS fs) (h : RI fs N B (i + 1) f) (hN : N ≤ 10) (hB : B ≤ 6) (hi : i < N) (hb : b < B) (hk : k < 70) : okv N i (b1 fs f i k b) := by
  have row : ∀ d : Nat, d ≤ 9 → okv N (i + 1) (f (70 * (i + 1) + 10 * (b + 1) + d)) := fun d hd => by
    have t := (h (i + 1) (10 * (b + 1) + d) (Nat.le_refl _) (by omega) (by omega) (Or.inr (Or.inr (by omega)))).1
    rw [show 70 * (i + 1) + 10 * (b + 1) + d = 70 * (i + 1) + (10 * (b + 1) + d) by omega]
    exact t
  have r1 := row (k % 10 - 1) (by omega)
  have r2 := row (min 9 (k % 10 + 1)) (by omega)
  have hp := pwI_b (n := N - (i + 1)) (by omega)
  have e : pwI (N - i) = pwI (N - (i + 1)) * 20 := by
    rw [show N - i = (N - (i + 1)) + 1 by omega]
    rfl
  unfold okv
  rw [e]
  unfold b1
  split
  · have hh := rhNb ho (i := i) (b := b) (by omega) (by omega)
    exact mixB hh.1 hh.2 hp.2 r1.1 r1.2 r2.1 r2.2
  · have hh := rhBb ho (i := i) (a := k / 10 - 1) (b := b) (by omega) (by omega) (by omega)
    exact mixB hh.1 hh.2 hp.2 r1.1 r1.2 r2.1 r2.2
theorem BI.lt {fs : Nat → Int32} {N B i k b : Nat} {f : Nat → Int64} {v : Int64} (ho : OKS fs) (hN : N ≤ 10) (hB : B ≤ 6) (hi : i < N) (hb : b < B) (hk : k < 70) (hk0 : k % 10 ≠ 0) (hv : v = b1 fs f i k b) (h : BI fs N B i k b f) : BI fs N B i k (b + 1) (vp_updL f (70 * i + k) v) := by
  refine ⟨h.1.put hk, Or.inr ⟨hk0, Or.inr ?_⟩⟩
  rw [upL_eq]
  refine ⟨by rw [hv]; exact b1_ok ho h.1.1 hN hB hi hb hk, b, by omega, ?_⟩
  rw [hv]
  exact b1_cg (fun q hq => (upL_ne (by omega)).symm)
theorem BI.ge {fs : Nat → Int32} {N B i k b : Nat} {f : Nat → Int64} {v : Int64} (ho : OKS fs) (hN : N ≤ 10) (hB : B ≤ 6) (hi : i < N) (hb : b < B) (hk : k < 70) (hk0 : k % 10 ≠ 0) (hv : v = b1 fs f i k b) (hc : (f (70 * i + k)).toInt ≤ v.toInt) (h : BI fs N B i k b f) : BI fs N B i k (b + 1) (vp_updL f (70 * i + k) (f (70 * i + k))) := by
  refine ⟨h.1.put hk, Or.inr ⟨hk0, Or.inr ?_⟩⟩
  rw [upL_eq]
  have o := b1_ok ho h.1.1 hN hB hi hb hk
  rw [← hv] at o
  have hp := pwI_b (n := N - (i + 1)) (by omega)
  have e : pwI (N - i) = pwI (N - (i + 1)) * 20 := by
    rw [show N - i = (N - (i + 1)) + 1 by omega]
    rfl
  have z : (4000000000000000000 : Int64).toInt = 4000000000000000000 := by decide
  have o2 := o.2
  rcases h.2 with c | ⟨-, c | c⟩
  · exact absurd c.1 hk0
  · rw [c.2] at hc
    exfalso
    omega
  · obtain ⟨b', h1, h2⟩ := c.2
    exact ⟨c.1, b', by omega, by rw [h2]; exact (b1_cg (fun q hq => (upL_ne (by omega)).symm))⟩
theorem BI.out {fs : Nat → Int32} {N B i k b : Nat} {f : Nat → Int64} (hN : N ≤ 10) (hi : i < N) (hB : 0 < B) (hc : b = B ∨ k % 10 = 0 ∨ (10 ≤ k ∧ B < k / 10)) (h : BI fs N B i k b f) : KI fs N B i (k + 1) f := by
  refine ⟨h.1.1, fun k' hk' => ?_⟩
  by_cases e : k' < k
  · exact h.1.2 k' e
  · have e2 : k' = k := by omega
    subst e2
    intro hv
    rcases h.2 with c | ⟨c0, c | c⟩
    · have t := pwI_t (n := N - i) (by omega)
      have hp : 0 ≤ pwI (N - i) := by
        rw [show N - i = (N - (i + 1)) + 1 by omega]
        have := pwI_b (n := N - (i + 1)) (by omega)
        show 0 ≤ pwI (N - (i + 1)) * 20
        omega
      refine ⟨⟨by rw [c.2, t]; exact hp, by rw [c.2, t]; exact Int.le_refl _⟩, fun _ h2 => absurd c.1 h2⟩
    · exfalso
      omega
    · obtain ⟨b', h1, h2⟩ := c.2
      exact ⟨c.1, fun _ _ => ⟨b', by omega, h2⟩⟩
theorem KI.out {fs : Nat → Int32} {N B i k : Nat} {f : Nat → Int64} (hk : 70 ≤ k) (h : KI fs N B i k f) : RI fs N B i f := fun i' k' h1 h2 h3 => by
  by_cases e : i' = i
  · subst e; exact h.2 k' (by omega)
  · exact h.1 i' k' (by omega) h2 h3
theorem RI.k0 {fs : Nat → Int32} {N B i : Nat} {f : Nat → Int64} (h : RI fs N B (i + 1) f) : KI fs N B i 0 f := ⟨h, fun k' hk' => absurd hk' (Nat.not_lt_zero _)⟩
theorem FI.put {N j : Nat} {f : Nat → Int64} {y : Int64} (h : FI N j f) (hy : 0 ≤ y.toInt ∧ y.toInt ≤ 1) : FI N (j + 1) (vp_updL f (70 * N + j) y) := fun k hk => by
  by_cases e : k = j
  · subst e; rw [upL_eq]; exact hy
  · rw [upL_ne (by omega)]; exact h k (by omega)
theorem FI.out {fs : Nat → Int32} {N B j : Nat} {f : Nat → Int64} (hj : 70 ≤ j) (h : FI N j f) : RI fs N B N f := fun i k h1 h2 h3 hk => by
  have e : i = N := by omega
  subst e
  have t := h k (by omega)
  refine ⟨⟨t.1, ?_⟩, fun h4 => absurd h4 (Nat.lt_irrefl _)⟩
  rw [Nat.sub_self]
  exact t.2
theorem RI.getN {fs : Nat → Int32} {N B i d : Nat} {f : Nat → Int64} (h : RI fs N B 0 f) (hi : i < N) (h1 : 1 ≤ d) (h2 : d ≤ 9) : ∃ b9 : Nat, 0 ≤ b9 ∧ b9 < B ∧ b1N fs f i d b9 = f (70 * i + d) := by
  obtain ⟨b, hb, e⟩ := (h i d (by omega) (by omega) (by omega) (Or.inr (Or.inl (by omega)))).2 hi (by omega)
  refine ⟨b, Nat.zero_le _, hb, ?_⟩
  unfold b1 at e
  rw [if_pos (by omega), Nat.mod_eq_of_lt (by omega)] at e
  exact e.symm
theorem RI.getB {fs : Nat → Int32} {N B i a d : Nat} {f : Nat → Int64} (h : RI fs N B 0 f) (hi : i < N) (ha : a < B) (hB : B ≤ 6) (h1 : 1 ≤ d) (h2 : d ≤ 9) : ∃ b9 : Nat, 0 ≤ b9 ∧ b9 < B ∧ b1B fs f i a d b9 = f (70 * i + 10 * (a + 1) + d) := by
  obtain ⟨b, hb, e⟩ := (h i (10 * (a + 1) + d) (by omega) (by omega) (by omega) (Or.inr (Or.inr (by omega)))).2 hi (by omega)
  refine ⟨b, Nat.zero_le _, hb, ?_⟩
  unfold b1 at e
  rw [if_neg (by omega), show (10 * (a + 1) + d) % 10 = d by omega, show (10 * (a + 1) + d) / 10 - 1 = a by omega] at e
  rw [show 70 * i + 10 * (a + 1) + d = 70 * i + (10 * (a + 1) + d) by omega]
  exact e.symm
theorem nx_lt {P : Nat → Prop} {j B : Nat} (h : ∃ b9 : Nat, j ≤ b9 ∧ b9 < B ∧ P b9) : j < B := by
  obtain ⟨b, h1, h2, -⟩ := h
  omega
theorem nx_step {P : Nat → Int64} {y : Int64} {j B : Nat} (h : ∃ b9 : Nat, j ≤ b9 ∧ b9 < B ∧ P b9 = y) (hn : ¬ (P j).toInt = y.toInt) : ∃ b9 : Nat, j + 1 ≤ b9 ∧ b9 < B ∧ P b9 = y := by
  obtain ⟨b, h1, h2, h3⟩ := h
  refine ⟨b, ?_, h2, h3⟩
  by_cases e : b = j
  · subst e; exact absurd (congrArg Int64.toInt h3) hn
  · omega
set_option maxHeartbeats 1000000 in
set_option maxRecDepth 100000 in
theorem c_X11_bestAtN (l : Launch) (dC : Nat → ClassId) (dI : Nat → Nat → Nat) (G : Nat → ClassId) (sz : Nat) (i d : Nat) (hi10 : i ≤ 10) (hdd : d ≤ 9) : Met l yX11_bestAt (Cond.code yX11_bestAt cX11_bestAt 3 (some .int) :: GT) ({ frames := 0, cells := 0, slots := 0, locals := 0 } : Room) (PcR [.int (nI i), .int (-4), .int (nI d)] dC dI G [] sz) (va_Qi (fun (r : Int32) (u : Unit) => match u with | _ => (r = nI (70 * i + d)) ∧ True) (fun _ _ => True) (fun q : Nat => sz ≤ q)) 0 0 (fun q : Nat => sz ≤ q) := by
  refine Met.ofW (cc := cX11_bestAt) (maxL := 3) (ret := (some .int)) (by decide) rfl ?_
  intro p e s m args below meth c s₁ Bd hml hv
  obtain ⟨rfl, hsz, hP, hK⟩ := hv
  have hx := Bd.exec
  have hb := Bd.bytes
  have hr := Bd.returns
  have hg : ∀ w ∈ GT, w.before ([.int (nI i), .int (-4), .int (nI d)] : List Value).toArray s = true := fun w h => atoms_spec (ws := Cond.code yX11_bestAt cX11_bestAt 3 (some .int) :: GT) Bd.pre w (List.mem_cons_of_mem _ h)
  have hown : s.vm.findClass RX11 = some m.cls := findClass_of_methodNamed Bd.named
  have hlocks := Bd.notSynchronized
  subst hsz
  have hA : ∀ q : Nat, s.heap.size ≤ q → (fun q : Nat => s.heap.size ≤ q) q := fun _ h => h
  have hS : va_S (fun q : Nat => s.heap.size ≤ q) s.heap s.heap [] := va_S.rf
  have hl := lv_entry ([.int (nI i), .int (-4), .int (nI d)]) (n := 3) (Nat.le_of_ble_eq_true rfl)
  rw [lg_entry_eq]
  generalize (lg_sl ([.int (nI i), .int (-4), .int (nI d)]) ++ List.replicate (3 - (lg_sl ([.int (nI i), .int (-4), .int (nI d)])).length) Slot.unset).toArray = ls at hl ⊢
  have hl : lv_has ls 3 [(0, .int (nI i)), (1, .int (-4)), (2, .int (nI d))] := hl
  refine lv_bipush (v := 70) hx hb dX11_bestAt_0 (by decide) ?_
  refine lv_iload_n hx hb dX11_bestAt_2 rfl (lv_at hl 0 rfl) ?_
  refine lv_imul hx hb dX11_bestAt_3 ?_
  refine lv_cg (y := nI (70 * i)) (by rw [show (70 : Int32) = nI 70 from rfl]; exact pk_mul _ _) ?_
  refine lv_bipush (v := 10) hx hb dX11_bestAt_4 (by decide) ?_
  refine lv_iload_n hx hb dX11_bestAt_6 rfl (lv_at hl 1 rfl) ?_
  refine lv_bipush (v := (-4)) hx hb dX11_bestAt_7 (by decide) ?_
  refine lv_icmp_ne (tgt := 16) hx hb dX11_bestAt_9 (by decide) (fun c1 => ?_) (fun c1 => ?_)
  · skip
    exact absurd c1 (by decide)
  · skip
    refine lv_iconst (v := 0) hx hb dX11_bestAt_12 (by decide) ?_
    refine lv_goto (tgt := 19) hx hb dX11_bestAt_13 (by decide) ?_
    refine lv_imul hx hb dX11_bestAt_19 ?_
    refine lv_cg (y := 0) (by decide) ?_
    refine lv_iadd hx hb dX11_bestAt_20 ?_
    refine lv_cg (y := nI (70 * i)) (by rw [show (0 : Int32) = nI 0 from rfl, nI_add, Nat.add_zero]) ?_
    refine lv_iload_n hx hb dX11_bestAt_21 rfl (lv_at hl 2 rfl) ?_
    refine lv_iadd hx hb dX11_bestAt_22 ?_
    refine lv_cg (y := nI ((70 * i) + d)) (by exact nI_add _ _) ?_
    have hpost : (nI ((70 * i) + d) : Int32) = nI (70 * i + d) := by
      have t_c1 := eqI c1
      have : ((-4) : Int32).toInt = -4 := (by decide)
      have t_n0 : (nI i).toInt = (i : Int) := nI_toInt (by omega)
      have t_n1 : (nI d).toInt = (d : Int) := nI_toInt (by omega)
      have t_n0 : (nI i).toInt = (i : Int) := nI_toInt (by omega)
      have t_n1 : (nI d).toInt = (d : Int) := nI_toInt (by omega)
      first | rfl | ((repeat' split) <;> first | rfl | omega)
    refine W.widen (k := 0) (n := 0) (by omega) (by omega) ?_
    exact W.iret (v := nI ((70 * i) + d)) hx hb hr (fun t ht hW => ⟨⟨nI ((70 * i) + d), (), rfl, ⟨hpost, trivial⟩, trivial⟩, hS.F ht⟩) hS.2.2 dX11_bestAt_23

set_option maxHeartbeats 1000000 in
set_option maxRecDepth 100000 in
theorem c_X11_bestAtB (l : Launch) (dC : Nat → ClassId) (dI : Nat → Nat → Nat) (G : Nat → ClassId) (sz : Nat) (i a d : Nat) (hi10 : i ≤ 10) (hka : a < 6) (hdd : d ≤ 9) : Met l yX11_bestAt (Cond.code yX11_bestAt cX11_bestAt 3 (some .int) :: GT) ({ frames := 0, cells := 0, slots := 0, locals := 0 } : Room) (PcR [.int (nI i), .int (nI a), .int (nI d)] dC dI G [] sz) (va_Qi (fun (r : Int32) (u : Unit) => match u with | _ => (r = nI (70 * i + 10 * (a + 1) + d)) ∧ True) (fun _ _ => True) (fun q : Nat => sz ≤ q)) 0 0 (fun q : Nat => sz ≤ q) := by
  refine Met.ofW (cc := cX11_bestAt) (maxL := 3) (ret := (some .int)) (by decide) rfl ?_
  intro p e s m args below meth c s₁ Bd hml hv
  obtain ⟨rfl, hsz, hP, hK⟩ := hv
  have hx := Bd.exec
  have hb := Bd.bytes
  have hr := Bd.returns
  have hg : ∀ w ∈ GT, w.before ([.int (nI i), .int (nI a), .int (nI d)] : List Value).toArray s = true := fun w h => atoms_spec (ws := Cond.code yX11_bestAt cX11_bestAt 3 (some .int) :: GT) Bd.pre w (List.mem_cons_of_mem _ h)
  have hown : s.vm.findClass RX11 = some m.cls := findClass_of_methodNamed Bd.named
  have hlocks := Bd.notSynchronized
  subst hsz
  have hA : ∀ q : Nat, s.heap.size ≤ q → (fun q : Nat => s.heap.size ≤ q) q := fun _ h => h
  have hS : va_S (fun q : Nat => s.heap.size ≤ q) s.heap s.heap [] := va_S.rf
  have hl := lv_entry ([.int (nI i), .int (nI a), .int (nI d)]) (n := 3) (Nat.le_of_ble_eq_true rfl)
  rw [lg_entry_eq]
  generalize (lg_sl ([.int (nI i), .int (nI a), .int (nI d)]) ++ List.replicate (3 - (lg_sl ([.int (nI i), .int (nI a), .int (nI d)])).length) Slot.unset).toArray = ls at hl ⊢
  have hl : lv_has ls 3 [(0, .int (nI i)), (1, .int (nI a)), (2, .int (nI d))] := hl
  refine lv_bipush (v := 70) hx hb dX11_bestAt_0 (by decide) ?_
  refine lv_iload_n hx hb dX11_bestAt_2 rfl (lv_at hl 0 rfl) ?_
  refine lv_imul hx hb dX11_bestAt_3 ?_
  refine lv_cg (y := nI (70 * i)) (by rw [show (70 : Int32) = nI 70 from rfl]; exact pk_mul _ _) ?_
  refine lv_bipush (v := 10) hx hb dX11_bestAt_4 (by decide) ?_
  refine lv_iload_n hx hb dX11_bestAt_6 rfl (lv_at hl 1 rfl) ?_
  refine lv_bipush (v := (-4)) hx hb dX11_bestAt_7 (by decide) ?_
  refine lv_icmp_ne (tgt := 16) hx hb dX11_bestAt_9 (by decide) (fun c1 => ?_) (fun c1 => ?_)
  · skip
    refine lv_iload_n hx hb dX11_bestAt_16 rfl (lv_at hl 1 rfl) ?_
    refine lv_iconst (v := 1) hx hb dX11_bestAt_17 (by decide) ?_
    refine lv_iadd hx hb dX11_bestAt_18 ?_
    refine lv_cg (y := nI (a + 1)) (by rw [show (1 : Int32) = nI 1 from rfl]; exact nI_add _ _) ?_
    refine lv_imul hx hb dX11_bestAt_19 ?_
    refine lv_cg (y := nI (10 * (a + 1))) (by rw [show (10 : Int32) = nI 10 from rfl]; exact pk_mul _ _) ?_
    refine lv_iadd hx hb dX11_bestAt_20 ?_
    refine lv_cg (y := nI ((70 * i) + (10 * (a + 1)))) (by exact nI_add _ _) ?_
    refine lv_iload_n hx hb dX11_bestAt_21 rfl (lv_at hl 2 rfl) ?_
    refine lv_iadd hx hb dX11_bestAt_22 ?_
    refine lv_cg (y := nI (((70 * i) + (10 * (a + 1))) + d)) (by exact nI_add _ _) ?_
    have hpost : (nI (((70 * i) + (10 * (a + 1))) + d) : Int32) = nI (70 * i + 10 * (a + 1) + d) := by
      have t_c1 := neI c1
      have : ((-4) : Int32).toInt = -4 := (by decide)
      have t_n0 : (nI i).toInt = (i : Int) := nI_toInt (by omega)
      have t_n1 : (nI a).toInt = (a : Int) := nI_toInt (by omega)
      have t_n2 : (nI d).toInt = (d : Int) := nI_toInt (by omega)
      have t_n0 : (nI i).toInt = (i : Int) := nI_toInt (by omega)
      have t_n1 : (nI a).toInt = (a : Int) := nI_toInt (by omega)
      have t_n2 : (nI d).toInt = (d : Int) := nI_toInt (by omega)
      first | rfl | ((repeat' split) <;> first | rfl | omega)
    refine W.widen (k := 0) (n := 0) (by omega) (by omega) ?_
    exact W.iret (v := nI (((70 * i) + (10 * (a + 1))) + d)) hx hb hr (fun t ht hW => ⟨⟨nI (((70 * i) + (10 * (a + 1))) + d), (), rfl, ⟨hpost, trivial⟩, trivial⟩, hS.F ht⟩) hS.2.2 dX11_bestAt_23
  · skip
    have t_c1 := eqI c1
    have : ((-4) : Int32).toInt = -4 := (by decide)
    have t_n0 : (nI i).toInt = (i : Int) := nI_toInt (by omega)
    have t_n1 : (nI a).toInt = (a : Int) := nI_toInt (by omega)
    have t_n2 : (nI d).toInt = (d : Int) := nI_toInt (by omega)
    exfalso; omega

set_option maxHeartbeats 1000000 in
set_option maxRecDepth 100000 in
theorem c_X11_byOneN (l : Launch) (dC : Nat → ClassId) (dI : Nat → Nat → Nat) (G : Nat → ClassId) (sz : Nat) (h0 i d b st N B rp tp T cu lt od th be ln S ma M ah bh ik la lg ce : Nat) (vrs vrb vhs vca vxs vxb vfa vbr vba vsp vhe vtk vva vto : Int32) (fst : Nat → Int32) (fbe : Nat → Int64) (hN : N ≤ 10) (hB : B ≤ 6) (hT : T ≤ 320) (hS0 : S ≤ 8) (hM : M ≤ 6) (hi : i < 10) (hkb : b < 6) (hd1 : 1 ≤ d ∧ d ≤ 9) : Met l yX11_byOne (Cond.code yX11_byOne cX11_byOne 6 (some .long) :: GT) ({ frames := 2, cells := 0, slots := 0, locals := 50 } : Room) (PcR [.ref h0, .int (nI i), .int (-4), .int (nI d), .int (nI b)] dC dI G [(h0, .inr (11, [.ref st, .int (nI N), .int (nI B), .ref rp, .int vrs, .int vrb, .int vhs, .int vca, .int vxs, .int vxb, .ref tp, .int (nI T), .int vfa, .int vbr, .int vba, .int vsp, .int vhe, .int vtk, .int vva, .ref cu, .ref lt, .ref od, .ref th, .ref be, .ref ln, .int (nI S), .ref ma, .int (nI M), .ref ah, .ref bh, .ref ik, .ref la, .ref lg, .ref ce, .int vto])), (st, .inl (G 0, 196, .inl fst)), (be, .inl (G 1, 770, .inr (.inl fbe)))] sz) (va_Ql (fun (r : Int64) (u : Unit) => match u with | _ => (r = b1N fst fbe i d b) ∧ True) (fun _ _ => True) (fun q : Nat => sz ≤ q)) 0 0 (fun q : Nat => sz ≤ q) := by
  refine Met.ofW (cc := cX11_byOne) (maxL := 6) (ret := (some .long)) (by decide) rfl ?_
  intro p e s m args below meth c s₁ Bd hml hv
  obtain ⟨rfl, hsz, hP, hK⟩ := hv
  have hx := Bd.exec
  have hb := Bd.bytes
  have hr := Bd.returns
  have hg : ∀ w ∈ GT, w.before ([.ref h0, .int (nI i), .int (-4), .int (nI d), .int (nI b)] : List Value).toArray s = true := fun w h => atoms_spec (ws := Cond.code yX11_byOne cX11_byOne 6 (some .long) :: GT) Bd.pre w (List.mem_cons_of_mem _ h)
  have hown : s.vm.findClass RX11 = some m.cls := findClass_of_methodNamed Bd.named
  have hlocks := Bd.notSynchronized
  subst hsz
  have hA : ∀ q : Nat, s.heap.size ≤ q → (fun q : Nat => s.heap.size ≤ q) q := fun _ h => h
  have hS : va_S (fun q : Nat => s.heap.size ≤ q) s.heap s.heap [] := va_S.rf
  have hl := lv_entry ([.ref h0, .int (nI i), .int (-4), .int (nI d), .int (nI b)]) (n := 6) (Nat.le_of_ble_eq_true rfl)
  rw [lg_entry_eq]
  generalize (lg_sl ([.ref h0, .int (nI i), .int (-4), .int (nI d), .int (nI b)]) ++ List.replicate (6 - (lg_sl ([.ref h0, .int (nI i), .int (-4), .int (nI d), .int (nI b)])).length) Slot.unset).toArray = ls at hl ⊢
  have hl : lv_has ls 6 [(0, .ref h0), (1, .int (nI i)), (2, .int (-4)), (3, .int (nI d)), (4, .int (nI b))] := hl
  refine lv_aload_n hx hb dX11_byOne_0 rfl (lv_at hl 0 rfl) ?_
  refine lv_iload_n hx hb dX11_byOne_1 rfl (lv_at hl 1 rfl) ?_
  refine lv_iload_n hx hb dX11_byOne_2 rfl (lv_at hl 2 rfl) ?_
  refine lv_iload hx hb dX11_byOne_3 (lv_at hl 4 rfl) ?_
  refine lv_iconst (v := 0) hx hb dX11_byOne_5 (by decide) ?_
  have hPc := hP.sub (ws' := [(h0, .inr (11, [.ref st, .int (nI N), .int (nI B), .ref rp, .int vrs, .int vrb, .int vhs, .int vca, .int vxs, .int vxb, .ref tp, .int (nI T), .int vfa, .int vbr, .int vba, .int vsp, .int vhe, .int vtk, .int vva, .ref cu, .ref lt, .ref od, .ref th, .ref be, .ref ln, .int (nI S), .ref ma, .int (nI M), .ref ah, .ref bh, .ref ik, .ref la, .ref lg, .ref ce, .int vto])), (st, .inl (G 0, 196, .inl fst))]) [0, 1] rfl
  refine va_calli (va_runV (As := [.int (nI i), .int (-4), .int (nI b), .int 0]) (rest := []) ⟨hx, hb, hml, hown, hg⟩ (c_X11_harmOfN l dC dI G _ h0 i b st N B rp tp T cu lt od th be ln S ma M ah bh ik la lg ce 0 vrs vrb vhs vca vxs vxb vfa vbr vba vsp vhe vtk vva vto fst (by have t_n0 : (nI i).toInt = (i : Int) := nI_toInt (by omega); have t_n1 : (nI d).toInt = (d : Int) := nI_toInt (by omega); have t_n2 : (nI b).toInt = (b : Int) := nI_toInt (by omega); have t_n3 : (nI N).toInt = (N : Int) := nI_toInt (by omega); have t_n4 : (nI B).toInt = (B : Int) := nI_toInt (by omega); have t_n5 : (nI T).toInt = (T : Int) := nI_toInt (by omega); have t_n6 : (nI S).toInt = (S : Int) := nI_toInt (by omega); have t_n7 : (nI M).toInt = (M : Int) := nI_toInt (by omega); have : ((-4) : Int32).toInt = -4 := (by decide); have : (0 : Int32).toInt = 0 := (by decide); omega) (by have t_n0 : (nI i).toInt = (i : Int) := nI_toInt (by omega); have t_n1 : (nI d).toInt = (d : Int) := nI_toInt (by omega); have t_n2 : (nI b).toInt = (b : Int) := nI_toInt (by omega); have t_n3 : (nI N).toInt = (N : Int) := nI_toInt (by omega); have t_n4 : (nI B).toInt = (B : Int) := nI_toInt (by omega); have t_n5 : (nI T).toInt = (T : Int) := nI_toInt (by omega); have t_n6 : (nI S).toInt = (S : Int) := nI_toInt (by omega); have t_n7 : (nI M).toInt = (M : Int) := nI_toInt (by omega); have : ((-4) : Int32).toInt = -4 := (by decide); have : (0 : Int32).toInt = 0 := (by decide); omega) (by have t_n0 : (nI i).toInt = (i : Int) := nI_toInt (by omega); have t_n1 : (nI d).toInt = (d : Int) := nI_toInt (by omega); have t_n2 : (nI b).toInt = (b : Int) := nI_toInt (by omega); have t_n3 : (nI N).toInt = (N : Int) := nI_toInt (by omega); have t_n4 : (nI B).toInt = (B : Int) := nI_toInt (by omega); have t_n5 : (nI T).toInt = (T : Int) := nI_toInt (by omega); have t_n6 : (nI S).toInt = (S : Int) := nI_toInt (by omega); have t_n7 : (nI M).toInt = (M : Int) := nI_toInt (by omega); have : ((-4) : Int32).toInt = -4 := (by decide); have : (0 : Int32).toInt = 0 := (by decide); omega) (by have t_n0 : (nI i).toInt = (i : Int) := nI_toInt (by omega); have t_n1 : (nI d).toInt = (d : Int) := nI_toInt (by omega); have t_n2 : (nI b).toInt = (b : Int) := nI_toInt (by omega); have t_n3 : (nI N).toInt = (N : Int) := nI_toInt (by omega); have t_n4 : (nI B).toInt = (B : Int) := nI_toInt (by omega); have t_n5 : (nI T).toInt = (T : Int) := nI_toInt (by omega); have t_n6 : (nI S).toInt = (S : Int) := nI_toInt (by omega); have t_n7 : (nI M).toInt = (M : Int) := nI_toInt (by omega); have : ((-4) : Int32).toInt = -4 := (by decide); have : (0 : Int32).toInt = 0 := (by decide); omega) (by have t_n0 : (nI i).toInt = (i : Int) := nI_toInt (by omega); have t_n1 : (nI d).toInt = (d : Int) := nI_toInt (by omega); have t_n2 : (nI b).toInt = (b : Int) := nI_toInt (by omega); have t_n3 : (nI N).toInt = (N : Int) := nI_toInt (by omega); have t_n4 : (nI B).toInt = (B : Int) := nI_toInt (by omega); have t_n5 : (nI T).toInt = (T : Int) := nI_toInt (by omega); have t_n6 : (nI S).toInt = (S : Int) := nI_toInt (by omega); have t_n7 : (nI M).toInt = (M : Int) := nI_toInt (by omega); have : ((-4) : Int32).toInt = -4 := (by decide); have : (0 : Int32).toInt = 0 := (by decide); omega) (by have t_n0 : (nI i).toInt = (i : Int) := nI_toInt (by omega); have t_n1 : (nI d).toInt = (d : Int) := nI_toInt (by omega); have t_n2 : (nI b).toInt = (b : Int) := nI_toInt (by omega); have t_n3 : (nI N).toInt = (N : Int) := nI_toInt (by omega); have t_n4 : (nI B).toInt = (B : Int) := nI_toInt (by omega); have t_n5 : (nI T).toInt = (T : Int) := nI_toInt (by omega); have t_n6 : (nI S).toInt = (S : Int) := nI_toInt (by omega); have t_n7 : (nI M).toInt = (M : Int) := nI_toInt (by omega); have : ((-4) : Int32).toInt = -4 := (by decide); have : (0 : Int32).toInt = 0 := (by decide); omega) (by have t_n0 : (nI i).toInt = (i : Int) := nI_toInt (by omega); have t_n1 : (nI d).toInt = (d : Int) := nI_toInt (by omega); have t_n2 : (nI b).toInt = (b : Int) := nI_toInt (by omega); have t_n3 : (nI N).toInt = (N : Int) := nI_toInt (by omega); have t_n4 : (nI B).toInt = (B : Int) := nI_toInt (by omega); have t_n5 : (nI T).toInt = (T : Int) := nI_toInt (by omega); have t_n6 : (nI S).toInt = (S : Int) := nI_toInt (by omega); have t_n7 : (nI M).toInt = (M : Int) := nI_toInt (by omega); have : ((-4) : Int32).toInt = -4 := (by decide); have : (0 : Int32).toInt = 0 := (by decide); omega)) (kwV hg mfX11_harmOf wt_1106 ⟨Nat.le_of_ble_eq_true rfl, Nat.le_of_ble_eq_true rfl⟩) (preVR hK hPc (ci := 11) rfl rfl) rfl rfl hl.1 rfl (lv_room (Nat.le_of_ble_eq_true rfl)) dX11_byOne_6 ⟨Nat.le_of_ble_eq_true rfl, Nat.le_of_ble_eq_true rfl⟩) hS (fun q h1 h2 => absurd h2 (Nat.not_le.mpr h1)) (fun q h => hA q (Nat.le_trans hS.1 h)) (fun r1 ur1 t H1 locs ht hvm w2 hB hz1 hk1 hS => ?_)
  have hP := keepR hP hk1
  obtain ⟨w2, w2x⟩ := w2
  subst w2
  refine lv_istore (lv' := [(5, .int (rhN fst i b 0)), (0, .ref h0), (1, .int (nI i)), (2, .int (-4)), (3, .int (nI d)), (4, .int (nI b))]) hx hb dX11_byOne_9 hl (by decide) rfl (fun ls hl => ?_)
  refine lv_iload hx hb dX11_byOne_11 (lv_at hl 0 rfl) ?_
  refine lv_i2l (v := (rhN fst i b 0).toInt64) hx hb dX11_byOne_13 rfl ?_
  refine lv_aload_n hx hb dX11_byOne_14 rfl (lv_at hl 1 rfl) ?_
  refine va_get (D := (dC, dI)) (ci := 11) (v := .ref be) (C := RX11) (T := TX11) (N := 35) hx hb hg inG11 hown hK.1 hP 0 rfl rfl 23 (by decide) (hg _ wt_901) (fun _ h9 => h9) rfl dX11_byOne_15 ?_
  refine lv_iload_n hx hb dX11_byOne_18 rfl (lv_at hl 2 rfl) ?_
  refine lv_iconst (v := 1) hx hb dX11_byOne_19 (by decide) ?_
  refine lv_iadd hx hb dX11_byOne_20 ?_
  refine lv_cg (y := nI (i + 1)) (by rw [show (1 : Int32) = nI 1 from rfl]; exact nI_add _ _) ?_
  refine lv_iload hx hb dX11_byOne_21 (lv_at hl 5 rfl) ?_
  refine lv_iload_n hx hb dX11_byOne_23 rfl (lv_at hl 4 rfl) ?_
  refine lv_iconst (v := 1) hx hb dX11_byOne_24 (by decide) ?_
  refine lv_isub hx hb dX11_byOne_25 ?_
  refine lv_cg (y := nI (d - 1)) (by rw [show (1 : Int32) = nI 1 from rfl]; exact pk_sub (by have t_n0 : (nI i).toInt = (i : Int) := nI_toInt (by omega); have t_n1 : (nI d).toInt = (d : Int) := nI_toInt (by omega); have t_n2 : (nI b).toInt = (b : Int) := nI_toInt (by omega); have t_n3 : (nI N).toInt = (N : Int) := nI_toInt (by omega); have t_n4 : (nI B).toInt = (B : Int) := nI_toInt (by omega); have t_n5 : (nI T).toInt = (T : Int) := nI_toInt (by omega); have t_n6 : (nI S).toInt = (S : Int) := nI_toInt (by omega); have t_n7 : (nI M).toInt = (M : Int) := nI_toInt (by omega); omega)) ?_
  have hPc := hP.sub (ws' := []) [] rfl
  refine va_calli (va_runS (As := [.int (nI (i + 1)), .int (nI b), .int (nI (d - 1))]) (rest := [.ref be, .long ((rhN fst i b 0).toInt64)]) ⟨hx, hb, hml, hown, hg⟩ (c_X11_bestAtB l dC dI G _ (i + 1) b (d - 1) (by have t_n0 : (nI i).toInt = (i : Int) := nI_toInt (by omega); have t_n1 : (nI d).toInt = (d : Int) := nI_toInt (by omega); have t_n2 : (nI b).toInt = (b : Int) := nI_toInt (by omega); have t_n3 : (nI N).toInt = (N : Int) := nI_toInt (by omega); have t_n4 : (nI B).toInt = (B : Int) := nI_toInt (by omega); have t_n5 : (nI T).toInt = (T : Int) := nI_toInt (by omega); have t_n6 : (nI S).toInt = (S : Int) := nI_toInt (by omega); have t_n7 : (nI M).toInt = (M : Int) := nI_toInt (by omega); omega) (by have t_n0 : (nI i).toInt = (i : Int) := nI_toInt (by omega); have t_n1 : (nI d).toInt = (d : Int) := nI_toInt (by omega); have t_n2 : (nI b).toInt = (b : Int) := nI_toInt (by omega); have t_n3 : (nI N).toInt = (N : Int) := nI_toInt (by omega); have t_n4 : (nI B).toInt = (B : Int) := nI_toInt (by omega); have t_n5 : (nI T).toInt = (T : Int) := nI_toInt (by omega); have t_n6 : (nI S).toInt = (S : Int) := nI_toInt (by omega); have t_n7 : (nI M).toInt = (M : Int) := nI_toInt (by omega); omega) (by have t_n0 : (nI i).toInt = (i : Int) := nI_toInt (by omega); have t_n1 : (nI d).toInt = (d : Int) := nI_toInt (by omega); have t_n2 : (nI b).toInt = (b : Int) := nI_toInt (by omega); have t_n3 : (nI N).toInt = (N : Int) := nI_toInt (by omega); have t_n4 : (nI B).toInt = (B : Int) := nI_toInt (by omega); have t_n5 : (nI T).toInt = (T : Int) := nI_toInt (by omega); have t_n6 : (nI S).toInt = (S : Int) := nI_toInt (by omega); have t_n7 : (nI M).toInt = (M : Int) := nI_toInt (by omega); omega)) (kwS hg mfX11_bestAt wt_1159 ⟨Nat.le_of_ble_eq_true rfl, Nat.le_of_ble_eq_true rfl⟩) (preSR hK hPc) rfl rfl hl.1 rfl (lv_room (Nat.le_of_ble_eq_true rfl)) dX11_byOne_26 ⟨Nat.le_of_ble_eq_true rfl, Nat.le_of_ble_eq_true rfl⟩) hS (fun q h1 h2 => absurd h2 (Nat.not_le.mpr h1)) (fun q h => hA q (Nat.le_trans hS.1 h)) (fun r3 ur3 t H1 locs ht hvm w4 hB hz1 hk1 hS => ?_)
  have hP := keepR hP hk1
  obtain ⟨w4, w4x⟩ := w4
  subst w4
  refine va_lald hx hb hK.1 hP 2 1 rfl rfl (vp_in_nI (by have t_n0 : (nI i).toInt = (i : Int) := nI_toInt (by omega); have t_n1 : (nI d).toInt = (d : Int) := nI_toInt (by omega); have t_n2 : (nI b).toInt = (b : Int) := nI_toInt (by omega); have t_n3 : (nI N).toInt = (N : Int) := nI_toInt (by omega); have t_n4 : (nI B).toInt = (B : Int) := nI_toInt (by omega); have t_n5 : (nI T).toInt = (T : Int) := nI_toInt (by omega); have t_n6 : (nI S).toInt = (S : Int) := nI_toInt (by omega); have t_n7 : (nI M).toInt = (M : Int) := nI_toInt (by omega); omega) (by decide)) dX11_byOne_29 ?_
  refine lv_cgl (y := fbe (70 * (i + 1) + 10 * (b + 1) + (d - 1))) (by rw [nI_clamp (by omega)]) ?_
  refine lv_lmul hx hb dX11_byOne_30 ?_
  refine lv_bipush (v := 20) hx hb dX11_byOne_31 (by decide) ?_
  refine lv_iload hx hb dX11_byOne_33 (lv_at hl 0 rfl) ?_
  refine lv_isub hx hb dX11_byOne_35 ?_
  refine lv_i2l (v := (20 - (rhN fst i b 0)).toInt64) hx hb dX11_byOne_36 rfl ?_
  refine lv_aload_n hx hb dX11_byOne_37 rfl (lv_at hl 1 rfl) ?_
  refine va_get (D := (dC, dI)) (ci := 11) (v := .ref be) (C := RX11) (T := TX11) (N := 35) hx hb hg inG11 hown hK.1 hP 0 rfl rfl 23 (by decide) (hg _ wt_901) (fun _ h9 => h9) rfl dX11_byOne_38 ?_
  refine lv_iload_n hx hb dX11_byOne_41 rfl (lv_at hl 2 rfl) ?_
  refine lv_iconst (v := 1) hx hb dX11_byOne_42 (by decide) ?_
  refine lv_iadd hx hb dX11_byOne_43 ?_
  refine lv_cg (y := nI (i + 1)) (by rw [show (1 : Int32) = nI 1 from rfl]; exact nI_add _ _) ?_
  refine lv_iload hx hb dX11_byOne_44 (lv_at hl 5 rfl) ?_
  refine lv_iload_n hx hb dX11_byOne_46 rfl (lv_at hl 4 rfl) ?_
  refine lv_iconst (v := 1) hx hb dX11_byOne_47 (by decide) ?_
  have hPc := hP.sub (ws' := []) [] rfl
  refine va_calli (va_runS (As := [.int (nI d), .int 1]) (rest := [.int (nI b), .int (nI (i + 1)), .ref be, .long ((20 - (rhN fst i b 0)).toInt64), .long (((rhN fst i b 0).toInt64) * (fbe (70 * (i + 1) + 10 * (b + 1) + (d - 1))))]) ⟨hx, hb, hml, hown, hg⟩ (c_X11_deeper l dC dI G _ d 1 (by have t_n0 : (nI i).toInt = (i : Int) := nI_toInt (by omega); have t_n1 : (nI d).toInt = (d : Int) := nI_toInt (by omega); have t_n2 : (nI b).toInt = (b : Int) := nI_toInt (by omega); have t_n3 : (nI N).toInt = (N : Int) := nI_toInt (by omega); have t_n4 : (nI B).toInt = (B : Int) := nI_toInt (by omega); have t_n5 : (nI T).toInt = (T : Int) := nI_toInt (by omega); have t_n6 : (nI S).toInt = (S : Int) := nI_toInt (by omega); have t_n7 : (nI M).toInt = (M : Int) := nI_toInt (by omega); have : (1 : Int32).toInt = 1 := (by decide); omega) (by have t_n0 : (nI i).toInt = (i : Int) := nI_toInt (by omega); have t_n1 : (nI d).toInt = (d : Int) := nI_toInt (by omega); have t_n2 : (nI b).toInt = (b : Int) := nI_toInt (by omega); have t_n3 : (nI N).toInt = (N : Int) := nI_toInt (by omega); have t_n4 : (nI B).toInt = (B : Int) := nI_toInt (by omega); have t_n5 : (nI T).toInt = (T : Int) := nI_toInt (by omega); have t_n6 : (nI S).toInt = (S : Int) := nI_toInt (by omega); have t_n7 : (nI M).toInt = (M : Int) := nI_toInt (by omega); have : (1 : Int32).toInt = 1 := (by decide); omega)) (kwS hg mfX11_deeper wt_1128 ⟨Nat.le_of_ble_eq_true rfl, Nat.le_of_ble_eq_true rfl⟩) (preSR hK hPc) rfl rfl hl.1 rfl (lv_room (Nat.le_of_ble_eq_true rfl)) dX11_byOne_48 ⟨Nat.le_of_ble_eq_true rfl, Nat.le_of_ble_eq_true rfl⟩) hS (fun q h1 h2 => absurd h2 (Nat.not_le.mpr h1)) (fun q h => hA q (Nat.le_trans hS.1 h)) (fun r5 ur5 t H1 locs ht hvm w6 hB hz1 hk1 hS => ?_)
  have hP := keepR hP hk1
  obtain ⟨w6, w6x⟩ := w6
  have hs7 : d ≤ (min 9 (d + 1)) ∧ (min 9 (d + 1)) ≤ 9 := (by omega)
  subst w6
  have hPc := hP.sub (ws' := []) [] rfl
  refine va_calli (va_runS (As := [.int (nI (i + 1)), .int (nI b), .int (nI (min 9 (d + 1)))]) (rest := [.ref be, .long ((20 - (rhN fst i b 0)).toInt64), .long (((rhN fst i b 0).toInt64) * (fbe (70 * (i + 1) + 10 * (b + 1) + (d - 1))))]) ⟨hx, hb, hml, hown, hg⟩ (c_X11_bestAtB l dC dI G _ (i + 1) b (min 9 (d + 1)) (by have t_hs7 := hs7; have t_n0 : (nI i).toInt = (i : Int) := nI_toInt (by omega); have t_n1 : (nI d).toInt = (d : Int) := nI_toInt (by omega); have t_n2 : (nI b).toInt = (b : Int) := nI_toInt (by omega); have t_n3 : (nI N).toInt = (N : Int) := nI_toInt (by omega); have t_n4 : (nI B).toInt = (B : Int) := nI_toInt (by omega); have t_n5 : (nI T).toInt = (T : Int) := nI_toInt (by omega); have t_n6 : (nI S).toInt = (S : Int) := nI_toInt (by omega); have t_n7 : (nI M).toInt = (M : Int) := nI_toInt (by omega); omega) (by have t_hs7 := hs7; have t_n0 : (nI i).toInt = (i : Int) := nI_toInt (by omega); have t_n1 : (nI d).toInt = (d : Int) := nI_toInt (by omega); have t_n2 : (nI b).toInt = (b : Int) := nI_toInt (by omega); have t_n3 : (nI N).toInt = (N : Int) := nI_toInt (by omega); have t_n4 : (nI B).toInt = (B : Int) := nI_toInt (by omega); have t_n5 : (nI T).toInt = (T : Int) := nI_toInt (by omega); have t_n6 : (nI S).toInt = (S : Int) := nI_toInt (by omega); have t_n7 : (nI M).toInt = (M : Int) := nI_toInt (by omega); omega) (by have t_hs7 := hs7; have t_n0 : (nI i).toInt = (i : Int) := nI_toInt (by omega); have t_n1 : (nI d).toInt = (d : Int) := nI_toInt (by omega); have t_n2 : (nI b).toInt = (b : Int) := nI_toInt (by omega); have t_n3 : (nI N).toInt = (N : Int) := nI_toInt (by omega); have t_n4 : (nI B).toInt = (B : Int) := nI_toInt (by omega); have t_n5 : (nI T).toInt = (T : Int) := nI_toInt (by omega); have t_n6 : (nI S).toInt = (S : Int) := nI_toInt (by omega); have t_n7 : (nI M).toInt = (M : Int) := nI_toInt (by omega); omega)) (kwS hg mfX11_bestAt wt_1159 ⟨Nat.le_of_ble_eq_true rfl, Nat.le_of_ble_eq_true rfl⟩) (preSR hK hPc) rfl rfl hl.1 rfl (lv_room (Nat.le_of_ble_eq_true rfl)) dX11_byOne_51 ⟨Nat.le_of_ble_eq_true rfl, Nat.le_of_ble_eq_true rfl⟩) hS (fun q h1 h2 => absurd h2 (Nat.not_le.mpr h1)) (fun q h => hA q (Nat.le_trans hS.1 h)) (fun r8 ur8 t H1 locs ht hvm w9 hB hz1 hk1 hS => ?_)
  have hP := keepR hP hk1
  obtain ⟨w9, w9x⟩ := w9
  subst w9
  refine va_lald hx hb hK.1 hP 2 1 rfl rfl (vp_in_nI (by have t_hs7 := hs7; have t_n0 : (nI i).toInt = (i : Int) := nI_toInt (by omega); have t_n1 : (nI d).toInt = (d : Int) := nI_toInt (by omega); have t_n2 : (nI b).toInt = (b : Int) := nI_toInt (by omega); have t_n3 : (nI N).toInt = (N : Int) := nI_toInt (by omega); have t_n4 : (nI B).toInt = (B : Int) := nI_toInt (by omega); have t_n5 : (nI T).toInt = (T : Int) := nI_toInt (by omega); have t_n6 : (nI S).toInt = (S : Int) := nI_toInt (by omega); have t_n7 : (nI M).toInt = (M : Int) := nI_toInt (by omega); omega) (by decide)) dX11_byOne_54 ?_
  refine lv_cgl (y := fbe (70 * (i + 1) + 10 * (b + 1) + (min 9 (d + 1)))) (by rw [nI_clamp (by omega)]) ?_
  refine lv_lmul hx hb dX11_byOne_55 ?_
  refine lv_ladd hx hb dX11_byOne_56 ?_
  have hpost : ((((rhN fst i b 0).toInt64) * (fbe (70 * (i + 1) + 10 * (b + 1) + (d - 1)))) + (((20 - (rhN fst i b 0)).toInt64) * (fbe (70 * (i + 1) + 10 * (b + 1) + (min 9 (d + 1))))) : Int64) = b1N fst fbe i d b := by
    rfl
  refine W.widen (k := 0) (n := 0) (by omega) (by omega) ?_
  exact W.lret (v := (((rhN fst i b 0).toInt64) * (fbe (70 * (i + 1) + 10 * (b + 1) + (d - 1)))) + (((20 - (rhN fst i b 0)).toInt64) * (fbe (70 * (i + 1) + 10 * (b + 1) + (min 9 (d + 1)))))) hx hb hr (fun t ht hW => ⟨⟨(((rhN fst i b 0).toInt64) * (fbe (70 * (i + 1) + 10 * (b + 1) + (d - 1)))) + (((20 - (rhN fst i b 0)).toInt64) * (fbe (70 * (i + 1) + 10 * (b + 1) + (min 9 (d + 1))))), (), rfl, ⟨hpost, trivial⟩, trivial⟩, hS.F ht⟩) hS.2.2 dX11_byOne_57

set_option maxHeartbeats 1000000 in
set_option maxRecDepth 100000 in
theorem c_X11_byOneB (l : Launch) (dC : Nat → ClassId) (dI : Nat → Nat → Nat) (G : Nat → ClassId) (sz : Nat) (h0 i a d b st N B rp tp T cu lt od th be ln S ma M ah bh ik la lg ce : Nat) (vrs vrb vhs vca vxs vxb vfa vbr vba vsp vhe vtk vva vto : Int32) (fst : Nat → Int32) (fbe : Nat → Int64) (hN : N ≤ 10) (hB : B ≤ 6) (hT : T ≤ 320) (hS0 : S ≤ 8) (hM : M ≤ 6) (hi : i < 10) (hka : a < 6) (hkb : b < 6) (hd1 : 1 ≤ d ∧ d ≤ 9) : Met l yX11_byOne (Cond.code yX11_byOne cX11_byOne 6 (some .long) :: GT) ({ frames := 2, cells := 0, slots := 0, locals := 50 } : Room) (PcR [.ref h0, .int (nI i), .int (nI a), .int (nI d), .int (nI b)] dC dI G [(h0, .inr (11, [.ref st, .int (nI N), .int (nI B), .ref rp, .int vrs, .int vrb, .int vhs, .int vca, .int vxs, .int vxb, .ref tp, .int (nI T), .int vfa, .int vbr, .int vba, .int vsp, .int vhe, .int vtk, .int vva, .ref cu, .ref lt, .ref od, .ref th, .ref be, .ref ln, .int (nI S), .ref ma, .int (nI M), .ref ah, .ref bh, .ref ik, .ref la, .ref lg, .ref ce, .int vto])), (st, .inl (G 0, 196, .inl fst)), (be, .inl (G 1, 770, .inr (.inl fbe)))] sz) (va_Ql (fun (r : Int64) (u : Unit) => match u with | _ => (r = b1B fst fbe i a d b) ∧ True) (fun _ _ => True) (fun q : Nat => sz ≤ q)) 0 0 (fun q : Nat => sz ≤ q) := by
  refine Met.ofW (cc := cX11_byOne) (maxL := 6) (ret := (some .long)) (by decide) rfl ?_
  intro p e s m args below meth c s₁ Bd hml hv
  obtain ⟨rfl, hsz, hP, hK⟩ := hv
  have hx := Bd.exec
  have hb := Bd.bytes
  have hr := Bd.returns
  have hg : ∀ w ∈ GT, w.before ([.ref h0, .int (nI i), .int (nI a), .int (nI d), .int (nI b)] : List Value).toArray s = true := fun w h => atoms_spec (ws := Cond.code yX11_byOne cX11_byOne 6 (some .long) :: GT) Bd.pre w (List.mem_cons_of_mem _ h)
  have hown : s.vm.findClass RX11 = some m.cls := findClass_of_methodNamed Bd.named
  have hlocks := Bd.notSynchronized
  subst hsz
  have hA : ∀ q : Nat, s.heap.size ≤ q → (fun q : Nat => s.heap.size ≤ q) q := fun _ h => h
  have hS : va_S (fun q : Nat => s.heap.size ≤ q) s.heap s.heap [] := va_S.rf
  have hl := lv_entry ([.ref h0, .int (nI i), .int (nI a), .int (nI d), .int (nI b)]) (n := 6) (Nat.le_of_ble_eq_true rfl)
  rw [lg_entry_eq]
  generalize (lg_sl ([.ref h0, .int (nI i), .int (nI a), .int (nI d), .int (nI b)]) ++ List.replicate (6 - (lg_sl ([.ref h0, .int (nI i), .int (nI a), .int (nI d), .int (nI b)])).length) Slot.unset).toArray = ls at hl ⊢
  have hl : lv_has ls 6 [(0, .ref h0), (1, .int (nI i)), (2, .int (nI a)), (3, .int (nI d)), (4, .int (nI b))] := hl
  refine lv_aload_n hx hb dX11_byOne_0 rfl (lv_at hl 0 rfl) ?_
  refine lv_iload_n hx hb dX11_byOne_1 rfl (lv_at hl 1 rfl) ?_
  refine lv_iload_n hx hb dX11_byOne_2 rfl (lv_at hl 2 rfl) ?_
  refine lv_iload hx hb dX11_byOne_3 (lv_at hl 4 rfl) ?_
  refine lv_iconst (v := 0) hx hb dX11_byOne_5 (by decide) ?_
  have hPc := hP.sub (ws' := [(h0, .inr (11, [.ref st, .int (nI N), .int (nI B), .ref rp, .int vrs, .int vrb, .int vhs, .int vca, .int vxs, .int vxb, .ref tp, .int (nI T), .int vfa, .int vbr, .int vba, .int vsp, .int vhe, .int vtk, .int vva, .ref cu, .ref lt, .ref od, .ref th, .ref be, .ref ln, .int (nI S), .ref ma, .int (nI M), .ref ah, .ref bh, .ref ik, .ref la, .ref lg, .ref ce, .int vto])), (st, .inl (G 0, 196, .inl fst))]) [0, 1] rfl
  refine va_calli (va_runV (As := [.int (nI i), .int (nI a), .int (nI b), .int 0]) (rest := []) ⟨hx, hb, hml, hown, hg⟩ (c_X11_harmOfB l dC dI G _ h0 i a b st N B rp tp T cu lt od th be ln S ma M ah bh ik la lg ce 0 vrs vrb vhs vca vxs vxb vfa vbr vba vsp vhe vtk vva vto fst (by have t_n0 : (nI i).toInt = (i : Int) := nI_toInt (by omega); have t_n1 : (nI a).toInt = (a : Int) := nI_toInt (by omega); have t_n2 : (nI d).toInt = (d : Int) := nI_toInt (by omega); have t_n3 : (nI b).toInt = (b : Int) := nI_toInt (by omega); have t_n4 : (nI N).toInt = (N : Int) := nI_toInt (by omega); have t_n5 : (nI B).toInt = (B : Int) := nI_toInt (by omega); have t_n6 : (nI T).toInt = (T : Int) := nI_toInt (by omega); have t_n7 : (nI S).toInt = (S : Int) := nI_toInt (by omega); have t_n8 : (nI M).toInt = (M : Int) := nI_toInt (by omega); have : (0 : Int32).toInt = 0 := (by decide); omega) (by have t_n0 : (nI i).toInt = (i : Int) := nI_toInt (by omega); have t_n1 : (nI a).toInt = (a : Int) := nI_toInt (by omega); have t_n2 : (nI d).toInt = (d : Int) := nI_toInt (by omega); have t_n3 : (nI b).toInt = (b : Int) := nI_toInt (by omega); have t_n4 : (nI N).toInt = (N : Int) := nI_toInt (by omega); have t_n5 : (nI B).toInt = (B : Int) := nI_toInt (by omega); have t_n6 : (nI T).toInt = (T : Int) := nI_toInt (by omega); have t_n7 : (nI S).toInt = (S : Int) := nI_toInt (by omega); have t_n8 : (nI M).toInt = (M : Int) := nI_toInt (by omega); have : (0 : Int32).toInt = 0 := (by decide); omega) (by have t_n0 : (nI i).toInt = (i : Int) := nI_toInt (by omega); have t_n1 : (nI a).toInt = (a : Int) := nI_toInt (by omega); have t_n2 : (nI d).toInt = (d : Int) := nI_toInt (by omega); have t_n3 : (nI b).toInt = (b : Int) := nI_toInt (by omega); have t_n4 : (nI N).toInt = (N : Int) := nI_toInt (by omega); have t_n5 : (nI B).toInt = (B : Int) := nI_toInt (by omega); have t_n6 : (nI T).toInt = (T : Int) := nI_toInt (by omega); have t_n7 : (nI S).toInt = (S : Int) := nI_toInt (by omega); have t_n8 : (nI M).toInt = (M : Int) := nI_toInt (by omega); have : (0 : Int32).toInt = 0 := (by decide); omega) (by have t_n0 : (nI i).toInt = (i : Int) := nI_toInt (by omega); have t_n1 : (nI a).toInt = (a : Int) := nI_toInt (by omega); have t_n2 : (nI d).toInt = (d : Int) := nI_toInt (by omega); have t_n3 : (nI b).toInt = (b : Int) := nI_toInt (by omega); have t_n4 : (nI N).toInt = (N : Int) := nI_toInt (by omega); have t_n5 : (nI B).toInt = (B : Int) := nI_toInt (by omega); have t_n6 : (nI T).toInt = (T : Int) := nI_toInt (by omega); have t_n7 : (nI S).toInt = (S : Int) := nI_toInt (by omega); have t_n8 : (nI M).toInt = (M : Int) := nI_toInt (by omega); have : (0 : Int32).toInt = 0 := (by decide); omega) (by have t_n0 : (nI i).toInt = (i : Int) := nI_toInt (by omega); have t_n1 : (nI a).toInt = (a : Int) := nI_toInt (by omega); have t_n2 : (nI d).toInt = (d : Int) := nI_toInt (by omega); have t_n3 : (nI b).toInt = (b : Int) := nI_toInt (by omega); have t_n4 : (nI N).toInt = (N : Int) := nI_toInt (by omega); have t_n5 : (nI B).toInt = (B : Int) := nI_toInt (by omega); have t_n6 : (nI T).toInt = (T : Int) := nI_toInt (by omega); have t_n7 : (nI S).toInt = (S : Int) := nI_toInt (by omega); have t_n8 : (nI M).toInt = (M : Int) := nI_toInt (by omega); have : (0 : Int32).toInt = 0 := (by decide); omega) (by have t_n0 : (nI i).toInt = (i : Int) := nI_toInt (by omega); have t_n1 : (nI a).toInt = (a : Int) := nI_toInt (by omega); have t_n2 : (nI d).toInt = (d : Int) := nI_toInt (by omega); have t_n3 : (nI b).toInt = (b : Int) := nI_toInt (by omega); have t_n4 : (nI N).toInt = (N : Int) := nI_toInt (by omega); have t_n5 : (nI B).toInt = (B : Int) := nI_toInt (by omega); have t_n6 : (nI T).toInt = (T : Int) := nI_toInt (by omega); have t_n7 : (nI S).toInt = (S : Int) := nI_toInt (by omega); have t_n8 : (nI M).toInt = (M : Int) := nI_toInt (by omega); have : (0 : Int32).toInt = 0 := (by decide); omega) (by have t_n0 : (nI i).toInt = (i : Int) := nI_toInt (by omega); have t_n1 : (nI a).toInt = (a : Int) := nI_toInt (by omega); have t_n2 : (nI d).toInt = (d : Int) := nI_toInt (by omega); have t_n3 : (nI b).toInt = (b : Int) := nI_toInt (by omega); have t_n4 : (nI N).toInt = (N : Int) := nI_toInt (by omega); have t_n5 : (nI B).toInt = (B : Int) := nI_toInt (by omega); have t_n6 : (nI T).toInt = (T : Int) := nI_toInt (by omega); have t_n7 : (nI S).toInt = (S : Int) := nI_toInt (by omega); have t_n8 : (nI M).toInt = (M : Int) := nI_toInt (by omega); have : (0 : Int32).toInt = 0 := (by decide); omega) (by have t_n0 : (nI i).toInt = (i : Int) := nI_toInt (by omega); have t_n1 : (nI a).toInt = (a : Int) := nI_toInt (by omega); have t_n2 : (nI d).toInt = (d : Int) := nI_toInt (by omega); have t_n3 : (nI b).toInt = (b : Int) := nI_toInt (by omega); have t_n4 : (nI N).toInt = (N : Int) := nI_toInt (by omega); have t_n5 : (nI B).toInt = (B : Int) := nI_toInt (by omega); have t_n6 : (nI T).toInt = (T : Int) := nI_toInt (by omega); have t_n7 : (nI S).toInt = (S : Int) := nI_toInt (by omega); have t_n8 : (nI M).toInt = (M : Int) := nI_toInt (by omega); have : (0 : Int32).toInt = 0 := (by decide); omega)) (kwV hg mfX11_harmOf wt_1106 ⟨Nat.le_of_ble_eq_true rfl, Nat.le_of_ble_eq_true rfl⟩) (preVR hK hPc (ci := 11) rfl rfl) rfl rfl hl.1 rfl (lv_room (Nat.le_of_ble_eq_true rfl)) dX11_byOne_6 ⟨Nat.le_of_ble_eq_true rfl, Nat.le_of_ble_eq_true rfl⟩) hS (fun q h1 h2 => absurd h2 (Nat.not_le.mpr h1)) (fun q h => hA q (Nat.le_trans hS.1 h)) (fun r1 ur1 t H1 locs ht hvm w2 hB hz1 hk1 hS => ?_)
  have hP := keepR hP hk1
  obtain ⟨w2, w2x⟩ := w2
  subst w2
  refine lv_istore (lv' := [(5, .int (rhB fst i a b 0)), (0, .ref h0), (1, .int (nI i)), (2, .int (nI a)), (3, .int (nI d)), (4, .int (nI b))]) hx hb dX11_byOne_9 hl (by decide) rfl (fun ls hl => ?_)
  refine lv_iload hx hb dX11_byOne_11 (lv_at hl 0 rfl) ?_
  refine lv_i2l (v := (rhB fst i a b 0).toInt64) hx hb dX11_byOne_13 rfl ?_
  refine lv_aload_n hx hb dX11_byOne_14 rfl (lv_at hl 1 rfl) ?_
  refine va_get (D := (dC, dI)) (ci := 11) (v := .ref be) (C := RX11) (T := TX11) (N := 35) hx hb hg inG11 hown hK.1 hP 0 rfl rfl 23 (by decide) (hg _ wt_901) (fun _ h9 => h9) rfl dX11_byOne_15 ?_
  refine lv_iload_n hx hb dX11_byOne_18 rfl (lv_at hl 2 rfl) ?_
  refine lv_iconst (v := 1) hx hb dX11_byOne_19 (by decide) ?_
  refine lv_iadd hx hb dX11_byOne_20 ?_
  refine lv_cg (y := nI (i + 1)) (by rw [show (1 : Int32) = nI 1 from rfl]; exact nI_add _ _) ?_
  refine lv_iload hx hb dX11_byOne_21 (lv_at hl 5 rfl) ?_
  refine lv_iload_n hx hb dX11_byOne_23 rfl (lv_at hl 4 rfl) ?_
  refine lv_iconst (v := 1) hx hb dX11_byOne_24 (by decide) ?_
  refine lv_isub hx hb dX11_byOne_25 ?_
  refine lv_cg (y := nI (d - 1)) (by rw [show (1 : Int32) = nI 1 from rfl]; exact pk_sub (by have t_n0 : (nI i).toInt = (i : Int) := nI_toInt (by omega); have t_n1 : (nI a).toInt = (a : Int) := nI_toInt (by omega); have t_n2 : (nI d).toInt = (d : Int) := nI_toInt (by omega); have t_n3 : (nI b).toInt = (b : Int) := nI_toInt (by omega); have t_n4 : (nI N).toInt = (N : Int) := nI_toInt (by omega); have t_n5 : (nI B).toInt = (B : Int) := nI_toInt (by omega); have t_n6 : (nI T).toInt = (T : Int) := nI_toInt (by omega); have t_n7 : (nI S).toInt = (S : Int) := nI_toInt (by omega); have t_n8 : (nI M).toInt = (M : Int) := nI_toInt (by omega); omega)) ?_
  have hPc := hP.sub (ws' := []) [] rfl
  refine va_calli (va_runS (As := [.int (nI (i + 1)), .int (nI b), .int (nI (d - 1))]) (rest := [.ref be, .long ((rhB fst i a b 0).toInt64)]) ⟨hx, hb, hml, hown, hg⟩ (c_X11_bestAtB l dC dI G _ (i + 1) b (d - 1) (by have t_n0 : (nI i).toInt = (i : Int) := nI_toInt (by omega); have t_n1 : (nI a).toInt = (a : Int) := nI_toInt (by omega); have t_n2 : (nI d).toInt = (d : Int) := nI_toInt (by omega); have t_n3 : (nI b).toInt = (b : Int) := nI_toInt (by omega); have t_n4 : (nI N).toInt = (N : Int) := nI_toInt (by omega); have t_n5 : (nI B).toInt = (B : Int) := nI_toInt (by omega); have t_n6 : (nI T).toInt = (T : Int) := nI_toInt (by omega); have t_n7 : (nI S).toInt = (S : Int) := nI_toInt (by omega); have t_n8 : (nI M).toInt = (M : Int) := nI_toInt (by omega); omega) (by have t_n0 : (nI i).toInt = (i : Int) := nI_toInt (by omega); have t_n1 : (nI a).toInt = (a : Int) := nI_toInt (by omega); have t_n2 : (nI d).toInt = (d : Int) := nI_toInt (by omega); have t_n3 : (nI b).toInt = (b : Int) := nI_toInt (by omega); have t_n4 : (nI N).toInt = (N : Int) := nI_toInt (by omega); have t_n5 : (nI B).toInt = (B : Int) := nI_toInt (by omega); have t_n6 : (nI T).toInt = (T : Int) := nI_toInt (by omega); have t_n7 : (nI S).toInt = (S : Int) := nI_toInt (by omega); have t_n8 : (nI M).toInt = (M : Int) := nI_toInt (by omega); omega) (by have t_n0 : (nI i).toInt = (i : Int) := nI_toInt (by omega); have t_n1 : (nI a).toInt = (a : Int) := nI_toInt (by omega); have t_n2 : (nI d).toInt = (d : Int) := nI_toInt (by omega); have t_n3 : (nI b).toInt = (b : Int) := nI_toInt (by omega); have t_n4 : (nI N).toInt = (N : Int) := nI_toInt (by omega); have t_n5 : (nI B).toInt = (B : Int) := nI_toInt (by omega); have t_n6 : (nI T).toInt = (T : Int) := nI_toInt (by omega); have t_n7 : (nI S).toInt = (S : Int) := nI_toInt (by omega); have t_n8 : (nI M).toInt = (M : Int) := nI_toInt (by omega); omega)) (kwS hg mfX11_bestAt wt_1159 ⟨Nat.le_of_ble_eq_true rfl, Nat.le_of_ble_eq_true rfl⟩) (preSR hK hPc) rfl rfl hl.1 rfl (lv_room (Nat.le_of_ble_eq_true rfl)) dX11_byOne_26 ⟨Nat.le_of_ble_eq_true rfl, Nat.le_of_ble_eq_true rfl⟩) hS (fun q h1 h2 => absurd h2 (Nat.not_le.mpr h1)) (fun q h => hA q (Nat.le_trans hS.1 h)) (fun r3 ur3 t H1 locs ht hvm w4 hB hz1 hk1 hS => ?_)
  have hP := keepR hP hk1
  obtain ⟨w4, w4x⟩ := w4
  subst w4
  refine va_lald hx hb hK.1 hP 2 1 rfl rfl (vp_in_nI (by have t_n0 : (nI i).toInt = (i : Int) := nI_toInt (by omega); have t_n1 : (nI a).toInt = (a : Int) := nI_toInt (by omega); have t_n2 : (nI d).toInt = (d : Int) := nI_toInt (by omega); have t_n3 : (nI b).toInt = (b : Int) := nI_toInt (by omega); have t_n4 : (nI N).toInt = (N : Int) := nI_toInt (by omega); have t_n5 : (nI B).toInt = (B : Int) := nI_toInt (by omega); have t_n6 : (nI T).toInt = (T : Int) := nI_toInt (by omega); have t_n7 : (nI S).toInt = (S : Int) := nI_toInt (by omega); have t_n8 : (nI M).toInt = (M : Int) := nI_toInt (by omega); omega) (by decide)) dX11_byOne_29 ?_
  refine lv_cgl (y := fbe (70 * (i + 1) + 10 * (b + 1) + (d - 1))) (by rw [nI_clamp (by omega)]) ?_
  refine lv_lmul hx hb dX11_byOne_30 ?_
  refine lv_bipush (v := 20) hx hb dX11_byOne_31 (by decide) ?_
  refine lv_iload hx hb dX11_byOne_33 (lv_at hl 0 rfl) ?_
  refine lv_isub hx hb dX11_byOne_35 ?_
  refine lv_i2l (v := (20 - (rhB fst i a b 0)).toInt64) hx hb dX11_byOne_36 rfl ?_
  refine lv_aload_n hx hb dX11_byOne_37 rfl (lv_at hl 1 rfl) ?_
  refine va_get (D := (dC, dI)) (ci := 11) (v := .ref be) (C := RX11) (T := TX11) (N := 35) hx hb hg inG11 hown hK.1 hP 0 rfl rfl 23 (by decide) (hg _ wt_901) (fun _ h9 => h9) rfl dX11_byOne_38 ?_
  refine lv_iload_n hx hb dX11_byOne_41 rfl (lv_at hl 2 rfl) ?_
  refine lv_iconst (v := 1) hx hb dX11_byOne_42 (by decide) ?_
  refine lv_iadd hx hb dX11_byOne_43 ?_
  refine lv_cg (y := nI (i + 1)) (by rw [show (1 : Int32) = nI 1 from rfl]; exact nI_add _ _) ?_
  refine lv_iload hx hb dX11_byOne_44 (lv_at hl 5 rfl) ?_
  refine lv_iload_n hx hb dX11_byOne_46 rfl (lv_at hl 4 rfl) ?_
  refine lv_iconst (v := 1) hx hb dX11_byOne_47 (by decide) ?_
  have hPc := hP.sub (ws' := []) [] rfl
  refine va_calli (va_runS (As := [.int (nI d), .int 1]) (rest := [.int (nI b), .int (nI (i + 1)), .ref be, .long ((20 - (rhB fst i a b 0)).toInt64), .long (((rhB fst i a b 0).toInt64) * (fbe (70 * (i + 1) + 10 * (b + 1) + (d - 1))))]) ⟨hx, hb, hml, hown, hg⟩ (c_X11_deeper l dC dI G _ d 1 (by have t_n0 : (nI i).toInt = (i : Int) := nI_toInt (by omega); have t_n1 : (nI a).toInt = (a : Int) := nI_toInt (by omega); have t_n2 : (nI d).toInt = (d : Int) := nI_toInt (by omega); have t_n3 : (nI b).toInt = (b : Int) := nI_toInt (by omega); have t_n4 : (nI N).toInt = (N : Int) := nI_toInt (by omega); have t_n5 : (nI B).toInt = (B : Int) := nI_toInt (by omega); have t_n6 : (nI T).toInt = (T : Int) := nI_toInt (by omega); have t_n7 : (nI S).toInt = (S : Int) := nI_toInt (by omega); have t_n8 : (nI M).toInt = (M : Int) := nI_toInt (by omega); have : (1 : Int32).toInt = 1 := (by decide); omega) (by have t_n0 : (nI i).toInt = (i : Int) := nI_toInt (by omega); have t_n1 : (nI a).toInt = (a : Int) := nI_toInt (by omega); have t_n2 : (nI d).toInt = (d : Int) := nI_toInt (by omega); have t_n3 : (nI b).toInt = (b : Int) := nI_toInt (by omega); have t_n4 : (nI N).toInt = (N : Int) := nI_toInt (by omega); have t_n5 : (nI B).toInt = (B : Int) := nI_toInt (by omega); have t_n6 : (nI T).toInt = (T : Int) := nI_toInt (by omega); have t_n7 : (nI S).toInt = (S : Int) := nI_toInt (by omega); have t_n8 : (nI M).toInt = (M : Int) := nI_toInt (by omega); have : (1 : Int32).toInt = 1 := (by decide); omega)) (kwS hg mfX11_deeper wt_1128 ⟨Nat.le_of_ble_eq_true rfl, Nat.le_of_ble_eq_true rfl⟩) (preSR hK hPc) rfl rfl hl.1 rfl (lv_room (Nat.le_of_ble_eq_true rfl)) dX11_byOne_48 ⟨Nat.le_of_ble_eq_true rfl, Nat.le_of_ble_eq_true rfl⟩) hS (fun q h1 h2 => absurd h2 (Nat.not_le.mpr h1)) (fun q h => hA q (Nat.le_trans hS.1 h)) (fun r5 ur5 t H1 locs ht hvm w6 hB hz1 hk1 hS => ?_)
  have hP := keepR hP hk1
  obtain ⟨w6, w6x⟩ := w6
  have hs7 : d ≤ (min 9 (d + 1)) ∧ (min 9 (d + 1)) ≤ 9 := (by omega)
  subst w6
  have hPc := hP.sub (ws' := []) [] rfl
  refine va_calli (va_runS (As := [.int (nI (i + 1)), .int (nI b), .int (nI (min 9 (d + 1)))]) (rest := [.ref be, .long ((20 - (rhB fst i a b 0)).toInt64), .long (((rhB fst i a b 0).toInt64) * (fbe (70 * (i + 1) + 10 * (b + 1) + (d - 1))))]) ⟨hx, hb, hml, hown, hg⟩ (c_X11_bestAtB l dC dI G _ (i + 1) b (min 9 (d + 1)) (by have t_hs7 := hs7; have t_n0 : (nI i).toInt = (i : Int) := nI_toInt (by omega); have t_n1 : (nI a).toInt = (a : Int) := nI_toInt (by omega); have t_n2 : (nI d).toInt = (d : Int) := nI_toInt (by omega); have t_n3 : (nI b).toInt = (b : Int) := nI_toInt (by omega); have t_n4 : (nI N).toInt = (N : Int) := nI_toInt (by omega); have t_n5 : (nI B).toInt = (B : Int) := nI_toInt (by omega); have t_n6 : (nI T).toInt = (T : Int) := nI_toInt (by omega); have t_n7 : (nI S).toInt = (S : Int) := nI_toInt (by omega); have t_n8 : (nI M).toInt = (M : Int) := nI_toInt (by omega); omega) (by have t_hs7 := hs7; have t_n0 : (nI i).toInt = (i : Int) := nI_toInt (by omega); have t_n1 : (nI a).toInt = (a : Int) := nI_toInt (by omega); have t_n2 : (nI d).toInt = (d : Int) := nI_toInt (by omega); have t_n3 : (nI b).toInt = (b : Int) := nI_toInt (by omega); have t_n4 : (nI N).toInt = (N : Int) := nI_toInt (by omega); have t_n5 : (nI B).toInt = (B : Int) := nI_toInt (by omega); have t_n6 : (nI T).toInt = (T : Int) := nI_toInt (by omega); have t_n7 : (nI S).toInt = (S : Int) := nI_toInt (by omega); have t_n8 : (nI M).toInt = (M : Int) := nI_toInt (by omega); omega) (by have t_hs7 := hs7; have t_n0 : (nI i).toInt = (i : Int) := nI_toInt (by omega); have t_n1 : (nI a).toInt = (a : Int) := nI_toInt (by omega); have t_n2 : (nI d).toInt = (d : Int) := nI_toInt (by omega); have t_n3 : (nI b).toInt = (b : Int) := nI_toInt (by omega); have t_n4 : (nI N).toInt = (N : Int) := nI_toInt (by omega); have t_n5 : (nI B).toInt = (B : Int) := nI_toInt (by omega); have t_n6 : (nI T).toInt = (T : Int) := nI_toInt (by omega); have t_n7 : (nI S).toInt = (S : Int) := nI_toInt (by omega); have t_n8 : (nI M).toInt = (M : Int) := nI_toInt (by omega); omega)) (kwS hg mfX11_bestAt wt_1159 ⟨Nat.le_of_ble_eq_true rfl, Nat.le_of_ble_eq_true rfl⟩) (preSR hK hPc) rfl rfl hl.1 rfl (lv_room (Nat.le_of_ble_eq_true rfl)) dX11_byOne_51 ⟨Nat.le_of_ble_eq_true rfl, Nat.le_of_ble_eq_true rfl⟩) hS (fun q h1 h2 => absurd h2 (Nat.not_le.mpr h1)) (fun q h => hA q (Nat.le_trans hS.1 h)) (fun r8 ur8 t H1 locs ht hvm w9 hB hz1 hk1 hS => ?_)
  have hP := keepR hP hk1
  obtain ⟨w9, w9x⟩ := w9
  subst w9
  refine va_lald hx hb hK.1 hP 2 1 rfl rfl (vp_in_nI (by have t_hs7 := hs7; have t_n0 : (nI i).toInt = (i : Int) := nI_toInt (by omega); have t_n1 : (nI a).toInt = (a : Int) := nI_toInt (by omega); have t_n2 : (nI d).toInt = (d : Int) := nI_toInt (by omega); have t_n3 : (nI b).toInt = (b : Int) := nI_toInt (by omega); have t_n4 : (nI N).toInt = (N : Int) := nI_toInt (by omega); have t_n5 : (nI B).toInt = (B : Int) := nI_toInt (by omega); have t_n6 : (nI T).toInt = (T : Int) := nI_toInt (by omega); have t_n7 : (nI S).toInt = (S : Int) := nI_toInt (by omega); have t_n8 : (nI M).toInt = (M : Int) := nI_toInt (by omega); omega) (by decide)) dX11_byOne_54 ?_
  refine lv_cgl (y := fbe (70 * (i + 1) + 10 * (b + 1) + (min 9 (d + 1)))) (by rw [nI_clamp (by omega)]) ?_
  refine lv_lmul hx hb dX11_byOne_55 ?_
  refine lv_ladd hx hb dX11_byOne_56 ?_
  have hpost : ((((rhB fst i a b 0).toInt64) * (fbe (70 * (i + 1) + 10 * (b + 1) + (d - 1)))) + (((20 - (rhB fst i a b 0)).toInt64) * (fbe (70 * (i + 1) + 10 * (b + 1) + (min 9 (d + 1))))) : Int64) = b1B fst fbe i a d b := by
    rfl
  refine W.widen (k := 0) (n := 0) (by omega) (by omega) ?_
  exact W.lret (v := (((rhB fst i a b 0).toInt64) * (fbe (70 * (i + 1) + 10 * (b + 1) + (d - 1)))) + (((20 - (rhB fst i a b 0)).toInt64) * (fbe (70 * (i + 1) + 10 * (b + 1) + (min 9 (d + 1)))))) hx hb hr (fun t ht hW => ⟨⟨(((rhB fst i a b 0).toInt64) * (fbe (70 * (i + 1) + 10 * (b + 1) + (d - 1)))) + (((20 - (rhB fst i a b 0)).toInt64) * (fbe (70 * (i + 1) + 10 * (b + 1) + (min 9 (d + 1))))), (), rfl, ⟨hpost, trivial⟩, trivial⟩, hS.F ht⟩) hS.2.2 dX11_byOne_57
