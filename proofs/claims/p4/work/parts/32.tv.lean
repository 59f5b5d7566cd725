set_option maxHeartbeats 1000000 in
set_option maxRecDepth 100000 in
theorem c_X11_feedE (l : Launch) (dC : Nat → ClassId) (dI : Nat → Nat → Nat) (G : Nat → ClassId) (sz : Nat) (h0 st N B rp tp T cu lt od th be ln S ma M ah bh ik la lg ce : Nat) (vrs vrb vhs vca vxs vxb vfa vbr vba vsp vhe vtk vva vto : Int32) (v : Int64) (ftp : Nat → Int32) (hN : N ≤ 10) (hB : B ≤ 6) (hT : T ≤ 320) (hS0 : S ≤ 8) (hM : M ≤ 6) : Met l yX11_feed (Cond.code yX11_feed cX11_feed 4 (some .int) :: GT) ({ frames := 0, cells := 0, slots := 0, locals := 0 } : Room) (PcW [.ref h0, .long v] dC dI G [(h0, .inr (11, [.ref st, .int (nI N), .int (nI B), .ref rp, .int vrs, .int vrb, .int vhs, .int vca, .int vxs, .int vxb, .ref tp, .int (nI T), .int vfa, .int vbr, .int vba, .int vsp, .int vhe, .int vtk, .int vva, .ref cu, .ref lt, .ref od, .ref th, .ref be, .ref ln, .int (nI S), .ref ma, .int (nI M), .ref ah, .ref bh, .ref ik, .ref la, .ref lg, .ref ce, .int vto])), (tp, .inl (G 0, 320, .inl ftp))] sz) (va_Qi (fun (r : Int32) (u : Nat × (Nat → Int32)) => match u with | (oT, otp) => (r = if T + 8 ≤ 320 then nI (T + 8) else -3) ∧ (oT = (if T + 8 ≤ 320 then T + 8 else T) ∧ oT ≤ 320) ∧ otp = (if T + 8 ≤ 320 then fdC ftp T v else ftp)) (fun (u : Nat × (Nat → Int32)) (t : State) => match u with | (oT, otp) => va_P (dC, dI) vwCl [(h0, .inr (11, [.ref st, .int (nI N), .int (nI B), .ref rp, .int vrs, .int vrb, .int vhs, .int vca, .int vxs, .int vxb, .ref tp, .int (nI oT), .int vfa, .int vbr, .int vba, .int vsp, .int vhe, .int vtk, .int vva, .ref cu, .ref lt, .ref od, .ref th, .ref be, .ref ln, .int (nI S), .ref ma, .int (nI M), .ref ah, .ref bh, .ref ik, .ref la, .ref lg, .ref ce, .int vto])), (tp, .inl (G 0, 320, .inl otp))] t.heap ∧ va_D (va_A [(h0, .inr (11, [.ref st, .int (nI N), .int (nI B), .ref rp, .int vrs, .int vrb, .int vhs, .int vca, .int vxs, .int vxb, .ref tp, .int (nI T), .int vfa, .int vbr, .int vba, .int vsp, .int vhe, .int vtk, .int vva, .ref cu, .ref lt, .ref od, .ref th, .ref be, .ref ln, .int (nI S), .ref ma, .int (nI M), .ref ah, .ref bh, .ref ik, .ref la, .ref lg, .ref ce, .int vto])), (tp, .inl (G 0, 320, .inl ftp))] sz) [(h0, .inr (11, [.ref st, .int (nI N), .int (nI B), .ref rp, .int vrs, .int vrb, .int vhs, .int vca, .int vxs, .int vxb, .ref tp, .int (nI oT), .int vfa, .int vbr, .int vba, .int vsp, .int vhe, .int vtk, .int vva, .ref cu, .ref lt, .ref od, .ref th, .ref be, .ref ln, .int (nI S), .ref ma, .int (nI M), .ref ah, .ref bh, .ref ik, .ref la, .ref lg, .ref ce, .int vto])), (tp, .inl (G 0, 320, .inl otp))]) (va_A [(h0, .inr (11, [.ref st, .int (nI N), .int (nI B), .ref rp, .int vrs, .int vrb, .int vhs, .int vca, .int vxs, .int vxb, .ref tp, .int (nI T), .int vfa, .int vbr, .int vba, .int vsp, .int vhe, .int vtk, .int vva, .ref cu, .ref lt, .ref od, .ref th, .ref be, .ref ln, .int (nI S), .ref ma, .int (nI M), .ref ah, .ref bh, .ref ik, .ref la, .ref lg, .ref ce, .int vto])), (tp, .inl (G 0, 320, .inl ftp))] sz)) 0 0 (va_A [(h0, .inr (11, [.ref st, .int (nI N), .int (nI B), .ref rp, .int vrs, .int vrb, .int vhs, .int vca, .int vxs, .int vxb, .ref tp, .int (nI T), .int vfa, .int vbr, .int vba, .int vsp, .int vhe, .int vtk, .int vva, .ref cu, .ref lt, .ref od, .ref th, .ref be, .ref ln, .int (nI S), .ref ma, .int (nI M), .ref ah, .ref bh, .ref ik, .ref la, .ref lg, .ref ce, .int vto])), (tp, .inl (G 0, 320, .inl ftp))] sz) := by
  refine Met.ofW (cc := cX11_feed) (maxL := 4) (ret := (some .int)) (by decide) rfl ?_
  intro p e s m args below meth c s₁ Bd hml hv
  obtain ⟨rfl, hsz, hP, hK, hD0⟩ := hv
  have hx := Bd.exec
  have hb := Bd.bytes
  have hr := Bd.returns
  have hg : ∀ w ∈ GT, w.before ([.ref h0, .long v] : List Value).toArray s = true := fun w h => atoms_spec (ws := Cond.code yX11_feed cX11_feed 4 (some .int) :: GT) Bd.pre w (List.mem_cons_of_mem _ h)
  have hown : s.vm.findClass RX11 = some m.cls := findClass_of_methodNamed Bd.named
  have hlocks := Bd.notSynchronized
  subst hsz
  have hD := hD0.self (sz := s.heap.size)
  generalize hAe : va_A [(h0, .inr (11, [.ref st, .int (nI N), .int (nI B), .ref rp, .int vrs, .int vrb, .int vhs, .int vca, .int vxs, .int vxb, .ref tp, .int (nI T), .int vfa, .int vbr, .int vba, .int vsp, .int vhe, .int vtk, .int vva, .ref cu, .ref lt, .ref od, .ref th, .ref be, .ref ln, .int (nI S), .ref ma, .int (nI M), .ref ah, .ref bh, .ref ik, .ref la, .ref lg, .ref ce, .int vto])), (tp, .inl (G 0, 320, .inl ftp))] s.heap.size = A at hD ⊢
  have hA : ∀ q : Nat, s.heap.size ≤ q → A q := fun q h => by rw [← hAe]; exact Or.inr h
  have hS : va_S A s.heap s.heap [] := va_S.rf
  have hl := lv_entry ([.ref h0, .long v]) (n := 4) (Nat.le_of_ble_eq_true rfl)
  rw [lg_entry_eq]
  generalize (lg_sl ([.ref h0, .long v]) ++ List.replicate (4 - (lg_sl ([.ref h0, .long v])).length) Slot.unset).toArray = ls at hl ⊢
  have hl : lv_has ls 4 [(0, .ref h0), (1, .long v)] := hl
  refine lv_aload_n hx hb dX11_feed_0 rfl (lv_at hl 0 rfl) ?_
  refine va_get (D := (dC, dI)) (ci := 11) (v := .int (nI T)) (C := RX11) (T := TX11) (N := 35) hx hb hg inG11 hown hK.1 hP 0 rfl rfl 11 (by decide) (hg _ wt_889) (fun _ h9 => h9) rfl dX11_feed_1 ?_
  refine lv_bipush (v := 8) hx hb dX11_feed_4 (by decide) ?_
  refine lv_iadd hx hb dX11_feed_6 ?_
  refine lv_cg (y := nI (T + 8)) (by rw [show (8 : Int32) = nI 8 from rfl]; exact nI_add _ _) ?_
  refine lv_sipush (v := 320) hx hb dX11_feed_7 (by decide) ?_
  refine lv_icmp_le (tgt := 16) hx hb dX11_feed_10 (by decide) (fun c1 => ?_) (fun c1 => ?_)
  · skip
    have n2 : (T + 8) ≤ 320 := by have t := leI c1; rw [nI_toInt (n := (T + 8)) (by omega)] at t; have : (320 : Int32).toInt = 320 := (by decide); omega
    refine lv_bipush (v := 56) hx hb dX11_feed_16 (by decide) ?_
    refine lv_istore_n (lv' := [(3, .int 56), (0, .ref h0), (1, .long v)]) hx hb dX11_feed_18 rfl hl (by decide) rfl (fun ls hl => ?_)
    refine lv_iload_n hx hb dX11_feed_19 rfl (lv_at hl 0 rfl) ?_
    refine lv_if_lt (tgt := 56) hx hb dX11_feed_20 (by decide) (fun c3 => ?_) (fun c3 => ?_)
    · skip
      exact absurd c3 (by decide)
    · skip
      refine lv_aload_n hx hb dX11_feed_23 rfl (lv_at hl 1 rfl) ?_
      refine va_get (D := (dC, dI)) (ci := 11) (v := .ref tp) (C := RX11) (T := TX11) (N := 35) hx hb hg inG11 hown hK.1 hP 0 rfl rfl 10 (by decide) (hg _ wt_888) (fun _ h9 => h9) rfl dX11_feed_24 ?_
      refine lv_aload_n hx hb dX11_feed_27 rfl (lv_at hl 1 rfl) ?_
      refine va_get (D := (dC, dI)) (ci := 11) (v := .int (nI T)) (C := RX11) (T := TX11) (N := 35) hx hb hg inG11 hown hK.1 hP 0 rfl rfl 11 (by decide) (hg _ wt_889) (fun _ h9 => h9) rfl dX11_feed_28 ?_
      refine lv_lload_n hx hb dX11_feed_31 rfl (lv_at hl 2 rfl) ?_
      refine lv_iload_n hx hb dX11_feed_32 rfl (lv_at hl 0 rfl) ?_
      refine lv_lshr (v := _) hx hb dX11_feed_33 rfl ?_
      refine lv_topl (fun v4 ev4 => ?_)
      refine lv_l2i (v := _) hx hb dX11_feed_34 rfl ?_
      refine lv_topi (fun v5 ev5 => ?_)
      refine lv_sipush (v := 255) hx hb dX11_feed_35 (by decide) ?_
      refine lv_iand hx hb dX11_feed_38 ?_
      refine va_iast hx hb hK.1 hP hD hS 1 0 rfl rfl (vp_in_nI (by have t_n2 := n2; have t_c3 := nltI c3; have : (0 : Int32).toInt = 0 := (by decide); have : (56 : Int32).toInt = 56 := (by decide); have t_n0 : (nI N).toInt = (N : Int) := nI_toInt (by omega); have t_n1 : (nI B).toInt = (B : Int) := nI_toInt (by omega); have t_n2 : (nI T).toInt = (T : Int) := nI_toInt (by omega); have t_n3 : (nI S).toInt = (S : Int) := nI_toInt (by omega); have t_n4 : (nI M).toInt = (M : Int) := nI_toInt (by omega); omega) (by decide)) dX11_feed_39 (fun H locs hP hD hS => ?_)
      rw [nI_clamp (by omega)] at hP hD
      have hP : va_P (dC, dI) vwCl [(h0, .inr (11, [.ref st, .int (nI N), .int (nI B), .ref rp, .int vrs, .int vrb, .int vhs, .int vca, .int vxs, .int vxb, .ref tp, .int (nI T), .int vfa, .int vbr, .int vba, .int vsp, .int vhe, .int vtk, .int vva, .ref cu, .ref lt, .ref od, .ref th, .ref be, .ref ln, .int (nI S), .ref ma, .int (nI M), .ref ah, .ref bh, .ref ik, .ref la, .ref lg, .ref ce, .int vto])), (tp, .inl (G 0, 320, .inl (upd ftp T (v5 &&& 255))))] H := hP
      have hD : va_D A [(h0, .inr (11, [.ref st, .int (nI N), .int (nI B), .ref rp, .int vrs, .int vrb, .int vhs, .int vca, .int vxs, .int vxb, .ref tp, .int (nI T), .int vfa, .int vbr, .int vba, .int vsp, .int vhe, .int vtk, .int vva, .ref cu, .ref lt, .ref od, .ref th, .ref be, .ref ln, .int (nI S), .ref ma, .int (nI M), .ref ah, .ref bh, .ref ik, .ref la, .ref lg, .ref ce, .int vto])), (tp, .inl (G 0, 320, .inl (upd ftp T (v5 &&& 255))))] := hD
      refine lv_aload_n hx hb dX11_feed_40 rfl (lv_at hl 1 rfl) ?_
      refine lv_dup hx hb dX11_feed_41 rfl ?_
      refine va_get (D := (dC, dI)) (ci := 11) (v := .int (nI T)) (C := RX11) (T := TX11) (N := 35) hx hb hg inG11 hown hK.1 hP 0 rfl rfl 11 (by decide) (hg _ wt_889) (fun _ h9 => h9) rfl dX11_feed_42 ?_
      refine lv_iconst (v := 1) hx hb dX11_feed_45 (by decide) ?_
      refine lv_iadd hx hb dX11_feed_46 ?_
      refine lv_cg (y := nI (T + 1)) (by rw [show (1 : Int32) = nI 1 from rfl]; exact nI_add _ _) ?_
      refine va_put (D := (dC, dI)) (ci := 11) (v := .int (nI (T + 1))) (ty := .int) (C := RX11) (T := TX11) (N := 35) hx hb hg inG11 tyX11 tyX11_ok nmX11 hown hK.1 hP hD hS 0 rfl rfl 11 (by decide) (hg _ wt_889) (fun _ h9 => h9) rfl (by decide +kernel) rfl rfl (Nat.le_of_ble_eq_true rfl) dX11_feed_47 (fun H locs hP hD hS => ?_)
      have hP : va_P (dC, dI) vwCl [(h0, .inr (11, [.ref st, .int (nI N), .int (nI B), .ref rp, .int vrs, .int vrb, .int vhs, .int vca, .int vxs, .int vxb, .ref tp, .int (nI (T + 1)), .int vfa, .int vbr, .int vba, .int vsp, .int vhe, .int vtk, .int vva, .ref cu, .ref lt, .ref od, .ref th, .ref be, .ref ln, .int (nI S), .ref ma, .int (nI M), .ref ah, .ref bh, .ref ik, .ref la, .ref lg, .ref ce, .int vto])), (tp, .inl (G 0, 320, .inl (upd ftp T (v5 &&& 255))))] H := hP
      have hD : va_D A [(h0, .inr (11, [.ref st, .int (nI N), .int (nI B), .ref rp, .int vrs, .int vrb, .int vhs, .int vca, .int vxs, .int vxb, .ref tp, .int (nI (T + 1)), .int vfa, .int vbr, .int vba, .int vsp, .int vhe, .int vtk, .int vva, .ref cu, .ref lt, .ref od, .ref th, .ref be, .ref ln, .int (nI S), .ref ma, .int (nI M), .ref ah, .ref bh, .ref ik, .ref la, .ref lg, .ref ce, .int vto])), (tp, .inl (G 0, 320, .inl (upd ftp T (v5 &&& 255))))] := hD
      refine lv_iinc (v := 48) (lv' := [(3, .int 48), (0, .ref h0), (1, .long v)]) hx hb dX11_feed_50 hl (k := 0) rfl (by decide) (by decide) rfl (fun ls hl => ?_)
      refine lv_goto (tgt := 19) hx hb dX11_feed_53 (by decide) ?_
      refine lv_iload_n hx hb dX11_feed_19 rfl (lv_at hl 0 rfl) ?_
      refine lv_if_lt (tgt := 56) hx hb dX11_feed_20 (by decide) (fun c6 => ?_) (fun c6 => ?_)
      · skip
        exact absurd c6 (by decide)
      · skip
        refine lv_aload_n hx hb dX11_feed_23 rfl (lv_at hl 1 rfl) ?_
        refine va_get (D := (dC, dI)) (ci := 11) (v := .ref tp) (C := RX11) (T := TX11) (N := 35) hx hb hg inG11 hown hK.1 hP 0 rfl rfl 10 (by decide) (hg _ wt_888) (fun _ h9 => h9) rfl dX11_feed_24 ?_
        refine lv_aload_n hx hb dX11_feed_27 rfl (lv_at hl 1 rfl) ?_
        refine va_get (D := (dC, dI)) (ci := 11) (v := .int (nI (T + 1))) (C := RX11) (T := TX11) (N := 35) hx hb hg inG11 hown hK.1 hP 0 rfl rfl 11 (by decide) (hg _ wt_889) (fun _ h9 => h9) rfl dX11_feed_28 ?_
        refine lv_lload_n hx hb dX11_feed_31 rfl (lv_at hl 2 rfl) ?_
        refine lv_iload_n hx hb dX11_feed_32 rfl (lv_at hl 0 rfl) ?_
        refine lv_lshr (v := _) hx hb dX11_feed_33 rfl ?_
        refine lv_topl (fun v7 ev7 => ?_)
        refine lv_l2i (v := _) hx hb dX11_feed_34 rfl ?_
        refine lv_topi (fun v8 ev8 => ?_)
        refine lv_sipush (v := 255) hx hb dX11_feed_35 (by decide) ?_
        refine lv_iand hx hb dX11_feed_38 ?_
        refine va_iast hx hb hK.1 hP hD hS 1 0 rfl rfl (vp_in_nI (by have t_n2 := n2; have t_c3 := nltI c3; have t_c6 := nltI c6; have : (0 : Int32).toInt = 0 := (by decide); have : (48 : Int32).toInt = 48 := (by decide); have : (56 : Int32).toInt = 56 := (by decide); have t_n0 : (nI N).toInt = (N : Int) := nI_toInt (by omega); have t_n1 : (nI B).toInt = (B : Int) := nI_toInt (by omega); have t_n2 : (nI T).toInt = (T : Int) := nI_toInt (by omega); have t_n3 : (nI S).toInt = (S : Int) := nI_toInt (by omega); have t_n4 : (nI M).toInt = (M : Int) := nI_toInt (by omega); omega) (by decide)) dX11_feed_39 (fun H locs hP hD hS => ?_)
        rw [nI_clamp (by omega)] at hP hD
        have hP : va_P (dC, dI) vwCl [(h0, .inr (11, [.ref st, .int (nI N), .int (nI B), .ref rp, .int vrs, .int vrb, .int vhs, .int vca, .int vxs, .int vxb, .ref tp, .int (nI (T + 1)), .int vfa, .int vbr, .int vba, .int vsp, .int vhe, .int vtk, .int vva, .ref cu, .ref lt, .ref od, .ref th, .ref be, .ref ln, .int (nI S), .ref ma, .int (nI M), .ref ah, .ref bh, .ref ik, .ref la, .ref lg, .ref ce, .int vto])), (tp, .inl (G 0, 320, .inl (upd (upd ftp T (v5 &&& 255)) (T + 1) (v8 &&& 255))))] H := hP
        have hD : va_D A [(h0, .inr (11, [.ref st, .int (nI N), .int (nI B), .ref rp, .int vrs, .int vrb, .int vhs, .int vca, .int vxs, .int vxb, .ref tp, .int (nI (T + 1)), .int vfa, .int vbr, .int vba, .int vsp, .int vhe, .int vtk, .int vva, .ref cu, .ref lt, .ref od, .ref th, .ref be, .ref ln, .int (nI S), .ref ma, .int (nI M), .ref ah, .ref bh, .ref ik, .ref la, .ref lg, .ref ce, .int vto])), (tp, .inl (G 0, 320, .inl (upd (upd ftp T (v5 &&& 255)) (T + 1) (v8 &&& 255))))] := hD
        refine lv_aload_n hx hb dX11_feed_40 rfl (lv_at hl 1 rfl) ?_
        refine lv_dup hx hb dX11_feed_41 rfl ?_
        refine va_get (D := (dC, dI)) (ci := 11) (v := .int (nI (T + 1))) (C := RX11) (T := TX11) (N := 35) hx hb hg inG11 hown hK.1 hP 0 rfl rfl 11 (by decide) (hg _ wt_889) (fun _ h9 => h9) rfl dX11_feed_42 ?_
        refine lv_iconst (v := 1) hx hb dX11_feed_45 (by decide) ?_
        refine lv_iadd hx hb dX11_feed_46 ?_
        refine lv_cg (y := nI ((T + 1) + 1)) (by rw [show (1 : Int32) = nI 1 from rfl]; exact nI_add _ _) ?_
        refine va_put (D := (dC, dI)) (ci := 11) (v := .int (nI ((T + 1) + 1))) (ty := .int) (C := RX11) (T := TX11) (N := 35) hx hb hg inG11 tyX11 tyX11_ok nmX11 hown hK.1 hP hD hS 0 rfl rfl 11 (by decide) (hg _ wt_889) (fun _ h9 => h9) rfl (by decide +kernel) rfl rfl (Nat.le_of_ble_eq_true rfl) dX11_feed_47 (fun H locs hP hD hS => ?_)
        have hP : va_P (dC, dI) vwCl [(h0, .inr (11, [.ref st, .int (nI N), .int (nI B), .ref rp, .int vrs, .int vrb, .int vhs, .int vca, .int vxs, .int vxb, .ref tp, .int (nI ((T + 1) + 1)), .int vfa, .int vbr, .int vba, .int vsp, .int vhe, .int vtk, .int vva, .ref cu, .ref lt, .ref od, .ref th, .ref be, .ref ln, .int (nI S), .ref ma, .int (nI M), .ref ah, .ref bh, .ref ik, .ref la, .ref lg, .ref ce, .int vto])), (tp, .inl (G 0, 320, .inl (upd (upd ftp T (v5 &&& 255)) (T + 1) (v8 &&& 255))))] H := hP
        have hD : va_D A [(h0, .inr (11, [.ref st, .int (nI N), .int (nI B), .ref rp, .int vrs, .int vrb, .int vhs, .int vca, .int vxs, .int vxb, .ref tp, .int (nI ((T + 1) + 1)), .int vfa, .int vbr, .int vba, .int vsp, .int vhe, .int vtk, .int vva, .ref cu, .ref lt, .ref od, .ref th, .ref be, .ref ln, .int (nI S), .ref ma, .int (nI M), .ref ah, .ref bh, .ref ik, .ref la, .ref lg, .ref ce, .int vto])), (tp, .inl (G 0, 320, .inl (upd (upd ftp T (v5 &&& 255)) (T + 1) (v8 &&& 255))))] := hD
        refine lv_iinc (v := 40) (lv' := [(3, .int 40), (0, .ref h0), (1, .long v)]) hx hb dX11_feed_50 hl (k := 0) rfl (by decide) (by decide) rfl (fun ls hl => ?_)
        refine lv_goto (tgt := 19) hx hb dX11_feed_53 (by decide) ?_
        refine lv_iload_n hx hb dX11_feed_19 rfl (lv_at hl 0 rfl) ?_
        refine lv_if_lt (tgt := 56) hx hb dX11_feed_20 (by decide) (fun c9 => ?_) (fun c9 => ?_)
        · skip
          exact absurd c9 (by decide)
        · skip
          refine lv_aload_n hx hb dX11_feed_23 rfl (lv_at hl 1 rfl) ?_
          refine va_get (D := (dC, dI)) (ci := 11) (v := .ref tp) (C := RX11) (T := TX11) (N := 35) hx hb hg inG11 hown hK.1 hP 0 rfl rfl 10 (by decide) (hg _ wt_888) (fun _ h9 => h9) rfl dX11_feed_24 ?_
          refine lv_aload_n hx hb dX11_feed_27 rfl (lv_at hl 1 rfl) ?_
          refine va_get (D := (dC, dI)) (ci := 11) (v := .int (nI ((T + 1) + 1))) (C := RX11) (T := TX11) (N := 35) hx hb hg inG11 hown hK.1 hP 0 rfl rfl 11 (by decide) (hg _ wt_889) (fun _ h9 => h9) rfl dX11_feed_28 ?_
          refine lv_lload_n hx hb dX11_feed_31 rfl (lv_at hl 2 rfl) ?_
          refine lv_iload_n hx hb dX11_feed_32 rfl (lv_at hl 0 rfl) ?_
          refine lv_lshr (v := _) hx hb dX11_feed_33 rfl ?_
          refine lv_topl (fun v10 ev10 => ?_)
          refine lv_l2i (v := _) hx hb dX11_feed_34 rfl ?_
          refine lv_topi (fun v11 ev11 => ?_)
          refine lv_sipush (v := 255) hx hb dX11_feed_35 (by decide) ?_
          refine lv_iand hx hb dX11_feed_38 ?_
          refine va_iast hx hb hK.1 hP hD hS 1 0 rfl rfl (vp_in_nI (by have t_n2 := n2; have t_c3 := nltI c3; have t_c6 := nltI c6; have t_c9 := nltI c9; have : (0 : Int32).toInt = 0 := (by decide); have : (40 : Int32).toInt = 40 := (by decide); have : (48 : Int32).toInt = 48 := (by decide); have : (56 : Int32).toInt = 56 := (by decide); have t_n0 : (nI N).toInt = (N : Int) := nI_toInt (by omega); have t_n1 : (nI B).toInt = (B : Int) := nI_toInt (by omega); have t_n2 : (nI T).toInt = (T : Int) := nI_toInt (by omega); have t_n3 : (nI S).toInt = (S : Int) := nI_toInt (by omega); have t_n4 : (nI M).toInt = (M : Int) := nI_toInt (by omega); omega) (by decide)) dX11_feed_39 (fun H locs hP hD hS => ?_)
          rw [nI_clamp (by omega)] at hP hD
          have hP : va_P (dC, dI) vwCl [(h0, .inr (11, [.ref st, .int (nI N), .int (nI B), .ref rp, .int vrs, .int vrb, .int vhs, .int vca, .int vxs, .int vxb, .ref tp, .int (nI ((T + 1) + 1)), .int vfa, .int vbr, .int vba, .int vsp, .int vhe, .int vtk, .int vva, .ref cu, .ref lt, .ref od, .ref th, .ref be, .ref ln, .int (nI S), .ref ma, .int (nI M), .ref ah, .ref bh, .ref ik, .ref la, .ref lg, .ref ce, .int vto])), (tp, .inl (G 0, 320, .inl (upd (upd (upd ftp T (v5 &&& 255)) (T + 1) (v8 &&& 255)) ((T + 1) + 1) (v11 &&& 255))))] H := hP
          have hD : va_D A [(h0, .inr (11, [.ref st, .int (nI N), .int (nI B), .ref rp, .int vrs, .int vrb, .int vhs, .int vca, .int vxs, .int vxb, .ref tp, .int (nI ((T + 1) + 1)), .int vfa, .int vbr, .int vba, .int vsp, .int vhe, .int vtk, .int vva, .ref cu, .ref lt, .ref od, .ref th, .ref be, .ref ln, .int (nI S), .ref ma, .int (nI M), .ref ah, .ref bh, .ref ik, .ref la, .ref lg, .ref ce, .int vto])), (tp, .inl (G 0, 320, .inl (upd (upd (upd ftp T (v5 &&& 255)) (T + 1) (v8 &&& 255)) ((T + 1) + 1) (v11 &&& 255))))] := hD
          refine lv_aload_n hx hb dX11_feed_40 rfl (lv_at hl 1 rfl) ?_
          refine lv_dup hx hb dX11_feed_41 rfl ?_
          refine va_get (D := (dC, dI)) (ci := 11) (v := .int (nI ((T + 1) + 1))) (C := RX11) (T := TX11) (N := 35) hx hb hg inG11 hown hK.1 hP 0 rfl rfl 11 (by decide) (hg _ wt_889) (fun _ h9 => h9) rfl dX11_feed_42 ?_
          refine lv_iconst (v := 1) hx hb dX11_feed_45 (by decide) ?_
          refine lv_iadd hx hb dX11_feed_46 ?_
          refine lv_cg (y := nI (((T + 1) + 1) + 1)) (by rw [show (1 : Int32) = nI 1 from rfl]; exact nI_add _ _) ?_
          refine va_put (D := (dC, dI)) (ci := 11) (v := .int (nI (((T + 1) + 1) + 1))) (ty := .int) (C := RX11) (T := TX11) (N := 35) hx hb hg inG11 tyX11 tyX11_ok nmX11 hown hK.1 hP hD hS 0 rfl rfl 11 (by decide) (hg _ wt_889) (fun _ h9 => h9) rfl (by decide +kernel) rfl rfl (Nat.le_of_ble_eq_true rfl) dX11_feed_47 (fun H locs hP hD hS => ?_)
          have hP : va_P (dC, dI) vwCl [(h0, .inr (11, [.ref st, .int (nI N), .int (nI B), .ref rp, .int vrs, .int vrb, .int vhs, .int vca, .int vxs, .int vxb, .ref tp, .int (nI (((T + 1) + 1) + 1)), .int vfa, .int vbr, .int vba, .int vsp, .int vhe, .int vtk, .int vva, .ref cu, .ref lt, .ref od, .ref th, .ref be, .ref ln, .int (nI S), .ref ma, .int (nI M), .ref ah, .ref bh, .ref ik, .ref la, .ref lg, .ref ce, .int vto])), (tp, .inl (G 0, 320, .inl (upd (upd (upd ftp T (v5 &&& 255)) (T + 1) (v8 &&& 255)) ((T + 1) + 1) (v11 &&& 255))))] H := hP
          have hD : va_D A [(h0, .inr (11, [.ref st, .int (nI N), .int (nI B), .ref rp, .int vrs, .int vrb, .int vhs, .int vca, .int vxs, .int vxb, .ref tp, .int (nI (((T + 1) + 1) + 1)), .int vfa, .int vbr, .int vba, .int vsp, .int vhe, .int vtk, .int vva, .ref cu, .ref lt, .ref od, .ref th, .ref be, .ref ln, .int (nI S), .ref ma, .int (nI M), .ref ah, .ref bh, .ref ik, .ref la, .ref lg, .ref ce, .int vto])), (tp, .inl (G 0, 320, .inl (upd (upd (upd ftp T (v5 &&& 255)) (T + 1) (v8 &&& 255)) ((T + 1) + 1) (v11 &&& 255))))] := hD
          refine lv_iinc (v := 32) (lv' := [(3, .int 32), (0, .ref h0), (1, .long v)]) hx hb dX11_feed_50 hl (k := 0) rfl (by decide) (by decide) rfl (fun ls hl => ?_)
          refine lv_goto (tgt := 19) hx hb dX11_feed_53 (by decide) ?_
          refine lv_iload_n hx hb dX11_feed_19 rfl (lv_at hl 0 rfl) ?_
          refine lv_if_lt (tgt := 56) hx hb dX11_feed_20 (by decide) (fun c12 => ?_) (fun c12 => ?_)
          · skip
            exact absurd c12 (by decide)
          · skip
            refine lv_aload_n hx hb dX11_feed_23 rfl (lv_at hl 1 rfl) ?_
            refine va_get (D := (dC, dI)) (ci := 11) (v := .ref tp) (C := RX11) (T := TX11) (N := 35) hx hb hg inG11 hown hK.1 hP 0 rfl rfl 10 (by decide) (hg _ wt_888) (fun _ h9 => h9) rfl dX11_feed_24 ?_
            refine lv_aload_n hx hb dX11_feed_27 rfl (lv_at hl 1 rfl) ?_
            refine va_get (D := (dC, dI)) (ci := 11) (v := .int (nI (((T + 1) + 1) + 1))) (C := RX11) (T := TX11) (N := 35) hx hb hg inG11 hown hK.1 hP 0 rfl rfl 11 (by decide) (hg _ wt_889) (fun _ h9 => h9) rfl dX11_feed_28 ?_
            refine lv_lload_n hx hb dX11_feed_31 rfl (lv_at hl 2 rfl) ?_
            refine lv_iload_n hx hb dX11_feed_32 rfl (lv_at hl 0 rfl) ?_
            refine lv_lshr (v := _) hx hb dX11_feed_33 rfl ?_
            refine lv_topl (fun v13 ev13 => ?_)
            refine lv_l2i (v := _) hx hb dX11_feed_34 rfl ?_
            refine lv_topi (fun v14 ev14 => ?_)
            refine lv_sipush (v := 255) hx hb dX11_feed_35 (by decide) ?_
            refine lv_iand hx hb dX11_feed_38 ?_
            refine va_iast hx hb hK.1 hP hD hS 1 0 rfl rfl (vp_in_nI (by have t_n2 := n2; have t_c3 := nltI c3; have t_c6 := nltI c6; have t_c9 := nltI c9; have t_c12 := nltI c12; have : (0 : Int32).toInt = 0 := (by decide); have : (32 : Int32).toInt = 32 := (by decide); have : (40 : Int32).toInt = 40 := (by decide); have : (48 : Int32).toInt = 48 := (by decide); have : (56 : Int32).toInt = 56 := (by decide); have t_n0 : (nI N).toInt = (N : Int) := nI_toInt (by omega); have t_n1 : (nI B).toInt = (B : Int) := nI_toInt (by omega); have t_n2 : (nI T).toInt = (T : Int) := nI_toInt (by omega); have t_n3 : (nI S).toInt = (S : Int) := nI_toInt (by omega); have t_n4 : (nI M).toInt = (M : Int) := nI_toInt (by omega); omega) (by decide)) dX11_feed_39 (fun H locs hP hD hS => ?_)
            rw [nI_clamp (by omega)] at hP hD
            have hP : va_P (dC, dI) vwCl [(h0, .inr (11, [.ref st, .int (nI N), .int (nI B), .ref rp, .int vrs, .int vrb, .int vhs, .int vca, .int vxs, .int vxb, .ref tp, .int (nI (((T + 1) + 1) + 1)), .int vfa, .int vbr, .int vba, .int vsp, .int vhe, .int vtk, .int vva, .ref cu, .ref lt, .ref od, .ref th, .ref be, .ref ln, .int (nI S), .ref ma, .int (nI M), .ref ah, .ref bh, .ref ik, .ref la, .ref lg, .ref ce, .int vto])), (tp, .inl (G 0, 320, .inl (upd (upd (upd (upd ftp T (v5 &&& 255)) (T + 1) (v8 &&& 255)) ((T + 1) + 1) (v11 &&& 255)) (((T + 1) + 1) + 1) (v14 &&& 255))))] H := hP
            have hD : va_D A [(h0, .inr (11, [.ref st, .int (nI N), .int (nI B), .ref rp, .int vrs, .int vrb, .int vhs, .int vca, .int vxs, .int vxb, .ref tp, .int (nI (((T + 1) + 1) + 1)), .int vfa, .int vbr, .int vba, .int vsp, .int vhe, .int vtk, .int vva, .ref cu, .ref lt, .ref od, .ref th, .ref be, .ref ln, .int (nI S), .ref ma, .int (nI M), .ref ah, .ref bh, .ref ik, .ref la, .ref lg, .ref ce, .int vto])), (tp, .inl (G 0, 320, .inl (upd (upd (upd (upd ftp T (v5 &&& 255)) (T + 1) (v8 &&& 255)) ((T + 1) + 1) (v11 &&& 255)) (((T + 1) + 1) + 1) (v14 &&& 255))))] := hD
            refine lv_aload_n hx hb dX11_feed_40 rfl (lv_at hl 1 rfl) ?_
            refine lv_dup hx hb dX11_feed_41 rfl ?_
            refine va_get (D := (dC, dI)) (ci := 11) (v := .int (nI (((T + 1) + 1) + 1))) (C := RX11) (T := TX11) (N := 35) hx hb hg inG11 hown hK.1 hP 0 rfl rfl 11 (by decide) (hg _ wt_889) (fun _ h9 => h9) rfl dX11_feed_42 ?_
            refine lv_iconst (v := 1) hx hb dX11_feed_45 (by decide) ?_
            refine lv_iadd hx hb dX11_feed_46 ?_
            refine lv_cg (y := nI ((((T + 1) + 1) + 1) + 1)) (by rw [show (1 : Int32) = nI 1 from rfl]; exact nI_add _ _) ?_
            refine va_put (D := (dC, dI)) (ci := 11) (v := .int (nI ((((T + 1) + 1) + 1) + 1))) (ty := .int) (C := RX11) (T := TX11) (N := 35) hx hb hg inG11 tyX11 tyX11_ok nmX11 hown hK.1 hP hD hS 0 rfl rfl 11 (by decide) (hg _ wt_889) (fun _ h9 => h9) rfl (by decide +kernel) rfl rfl (Nat.le_of_ble_eq_true rfl) dX11_feed_47 (fun H locs hP hD hS => ?_)
            have hP : va_P (dC, dI) vwCl [(h0, .inr (11, [.ref st, .int (nI N), .int (nI B), .ref rp, .int vrs, .int vrb, .int vhs, .int vca, .int vxs, .int vxb, .ref tp, .int (nI ((((T + 1) + 1) + 1) + 1)), .int vfa, .int vbr, .int vba, .int vsp, .int vhe, .int vtk, .int vva, .ref cu, .ref lt, .ref od, .ref th, .ref be, .ref ln, .int (nI S), .ref ma, .int (nI M), .ref ah, .ref bh, .ref ik, .ref la, .ref lg, .ref ce, .int vto])), (tp, .inl (G 0, 320, .inl (upd (upd (upd (upd ftp T (v5 &&& 255)) (T + 1) (v8 &&& 255)) ((T + 1) + 1) (v11 &&& 255)) (((T + 1) + 1) + 1) (v14 &&& 255))))] H := hP
            have hD : va_D A [(h0, .inr (11, [.ref st, .int (nI N), .int (nI B), .ref rp, .int vrs, .int vrb, .int vhs, .int vca, .int vxs, .int vxb, .ref tp, .int (nI ((((T + 1) + 1) + 1) + 1)), .int vfa, .int vbr, .int vba, .int vsp, .int vhe, .int vtk, .int vva, .ref cu, .ref lt, .ref od, .ref th, .ref be, .ref ln, .int (nI S), .ref ma, .int (nI M), .ref ah, .ref bh, .ref ik, .ref la, .ref lg, .ref ce, .int vto])), (tp, .inl (G 0, 320, .inl (upd (upd (upd (upd ftp T (v5 &&& 255)) (T + 1) (v8 &&& 255)) ((T + 1) + 1) (v11 &&& 255)) (((T + 1) + 1) + 1) (v14 &&& 255))))] := hD
            refine lv_iinc (v := 24) (lv' := [(3, .int 24), (0, .ref h0), (1, .long v)]) hx hb dX11_feed_50 hl (k := 0) rfl (by decide) (by decide) rfl (fun ls hl => ?_)
            refine lv_goto (tgt := 19) hx hb dX11_feed_53 (by decide) ?_
            refine lv_iload_n hx hb dX11_feed_19 rfl (lv_at hl 0 rfl) ?_
            refine lv_if_lt (tgt := 56) hx hb dX11_feed_20 (by decide) (fun c15 => ?_) (fun c15 => ?_)
            · skip
              exact absurd c15 (by decide)
            · skip
              refine lv_aload_n hx hb dX11_feed_23 rfl (lv_at hl 1 rfl) ?_
              refine va_get (D := (dC, dI)) (ci := 11) (v := .ref tp) (C := RX11) (T := TX11) (N := 35) hx hb hg inG11 hown hK.1 hP 0 rfl rfl 10 (by decide) (hg _ wt_888) (fun _ h9 => h9) rfl dX11_feed_24 ?_
              refine lv_aload_n hx hb dX11_feed_27 rfl (lv_at hl 1 rfl) ?_
              refine va_get (D := (dC, dI)) (ci := 11) (v := .int (nI ((((T + 1) + 1) + 1) + 1))) (C := RX11) (T := TX11) (N := 35) hx hb hg inG11 hown hK.1 hP 0 rfl rfl 11 (by decide) (hg _ wt_889) (fun _ h9 => h9) rfl dX11_feed_28 ?_
              refine lv_lload_n hx hb dX11_feed_31 rfl (lv_at hl 2 rfl) ?_
              refine lv_iload_n hx hb dX11_feed_32 rfl (lv_at hl 0 rfl) ?_
              refine lv_lshr (v := _) hx hb dX11_feed_33 rfl ?_
              refine lv_topl (fun v16 ev16 => ?_)
              refine lv_l2i (v := _) hx hb dX11_feed_34 rfl ?_
              refine lv_topi (fun v17 ev17 => ?_)
              refine lv_sipush (v := 255) hx hb dX11_feed_35 (by decide) ?_
              refine lv_iand hx hb dX11_feed_38 ?_
              refine va_iast hx hb hK.1 hP hD hS 1 0 rfl rfl (vp_in_nI (by have t_n2 := n2; have t_c3 := nltI c3; have t_c6 := nltI c6; have t_c9 := nltI c9; have t_c12 := nltI c12; have t_c15 := nltI c15; have : (0 : Int32).toInt = 0 := (by decide); have : (24 : Int32).toInt = 24 := (by decide); have : (32 : Int32).toInt = 32 := (by decide); have : (40 : Int32).toInt = 40 := (by decide); have : (48 : Int32).toInt = 48 := (by decide); have : (56 : Int32).toInt = 56 := (by decide); have t_n0 : (nI N).toInt = (N : Int) := nI_toInt (by omega); have t_n1 : (nI B).toInt = (B : Int) := nI_toInt (by omega); have t_n2 : (nI T).toInt = (T : Int) := nI_toInt (by omega); have t_n3 : (nI S).toInt = (S : Int) := nI_toInt (by omega); have t_n4 : (nI M).toInt = (M : Int) := nI_toInt (by omega); omega) (by decide)) dX11_feed_39 (fun H locs hP hD hS => ?_)
              rw [nI_clamp (by omega)] at hP hD
              have hP : va_P (dC, dI) vwCl [(h0, .inr (11, [.ref st, .int (nI N), .int (nI B), .ref rp, .int vrs, .int vrb, .int vhs, .int vca, .int vxs, .int vxb, .ref tp, .int (nI ((((T + 1) + 1) + 1) + 1)), .int vfa, .int vbr, .int vba, .int vsp, .int vhe, .int vtk, .int vva, .ref cu, .ref lt, .ref od, .ref th, .ref be, .ref ln, .int (nI S), .ref ma, .int (nI M), .ref ah, .ref bh, .ref ik, .ref la, .ref lg, .ref ce, .int vto])), (tp, .inl (G 0, 320, .inl (upd (upd (upd (upd (upd ftp T (v5 &&& 255)) (T + 1) (v8 &&& 255)) ((T + 1) + 1) (v11 &&& 255)) (((T + 1) + 1) + 1) (v14 &&& 255)) ((((T + 1) + 1) + 1) + 1) (v17 &&& 255))))] H := hP
              have hD : va_D A [(h0, .inr (11, [.ref st, .int (nI N), .int (nI B), .ref rp, .int vrs, .int vrb, .int vhs, .int vca, .int vxs, .int vxb, .ref tp, .int (nI ((((T + 1) + 1) + 1) + 1)), .int vfa, .int vbr, .int vba, .int vsp, .int vhe, .int vtk, .int vva, .ref cu, .ref lt, .ref od, .ref th, .ref be, .ref ln, .int (nI S), .ref ma, .int (nI M), .ref ah, .ref bh, .ref ik, .ref la, .ref lg, .ref ce, .int vto])), (tp, .inl (G 0, 320, .inl (upd (upd (upd (upd (upd ftp T (v5 &&& 255)) (T + 1) (v8 &&& 255)) ((T + 1) + 1) (v11 &&& 255)) (((T + 1) + 1) + 1) (v14 &&& 255)) ((((T + 1) + 1) + 1) + 1) (v17 &&& 255))))] := hD
              refine lv_aload_n hx hb dX11_feed_40 rfl (lv_at hl 1 rfl) ?_
              refine lv_dup hx hb dX11_feed_41 rfl ?_
              refine va_get (D := (dC, dI)) (ci := 11) (v := .int (nI ((((T + 1) + 1) + 1) + 1))) (C := RX11) (T := TX11) (N := 35) hx hb hg inG11 hown hK.1 hP 0 rfl rfl 11 (by decide) (hg _ wt_889) (fun _ h9 => h9) rfl dX11_feed_42 ?_
              refine lv_iconst (v := 1) hx hb dX11_feed_45 (by decide) ?_
              refine lv_iadd hx hb dX11_feed_46 ?_
              refine lv_cg (y := nI (((((T + 1) + 1) + 1) + 1) + 1)) (by rw [show (1 : Int32) = nI 1 from rfl]; exact nI_add _ _) ?_
              refine va_put (D := (dC, dI)) (ci := 11) (v := .int (nI (((((T + 1) + 1) + 1) + 1) + 1))) (ty := .int) (C := RX11) (T := TX11) (N := 35) hx hb hg inG11 tyX11 tyX11_ok nmX11 hown hK.1 hP hD hS 0 rfl rfl 11 (by decide) (hg _ wt_889) (fun _ h9 => h9) rfl (by decide +kernel) rfl rfl (Nat.le_of_ble_eq_true rfl) dX11_feed_47 (fun H locs hP hD hS => ?_)
              have hP : va_P (dC, dI) vwCl [(h0, .inr (11, [.ref st, .int (nI N), .int (nI B), .ref rp, .int vrs, .int vrb, .int vhs, .int vca, .int vxs, .int vxb, .ref tp, .int (nI (((((T + 1) + 1) + 1) + 1) + 1)), .int vfa, .int vbr, .int vba, .int vsp, .int vhe, .int vtk, .int vva, .ref cu, .ref lt, .ref od, .ref th, .ref be, .ref ln, .int (nI S), .ref ma, .int (nI M), .ref ah, .ref bh, .ref ik, .ref la, .ref lg, .ref ce, .int vto])), (tp, .inl (G 0, 320, .inl (upd (upd (upd (upd (upd ftp T (v5 &&& 255)) (T + 1) (v8 &&& 255)) ((T + 1) + 1) (v11 &&& 255)) (((T + 1) + 1) + 1) (v14 &&& 255)) ((((T + 1) + 1) + 1) + 1) (v17 &&& 255))))] H := hP
              have hD : va_D A [(h0, .inr (11, [.ref st, .int (nI N), .int (nI B), .ref rp, .int vrs, .int vrb, .int vhs, .int vca, .int vxs, .int vxb, .ref tp, .int (nI (((((T + 1) + 1) + 1) + 1) + 1)), .int vfa, .int vbr, .int vba, .int vsp, .int vhe, .int vtk, .int vva, .ref cu, .ref lt, .ref od, .ref th, .ref be, .ref ln, .int (nI S), .ref ma, .int (nI M), .ref ah, .ref bh, .ref ik, .ref la, .ref lg, .ref ce, .int vto])), (tp, .inl (G 0, 320, .inl (upd (upd (upd (upd (upd ftp T (v5 &&& 255)) (T + 1) (v8 &&& 255)) ((T + 1) + 1) (v11 &&& 255)) (((T + 1) + 1) + 1) (v14 &&& 255)) ((((T + 1) + 1) + 1) + 1) (v17 &&& 255))))] := hD
              refine lv_iinc (v := 16) (lv' := [(3, .int 16), (0, .ref h0), (1, .long v)]) hx hb dX11_feed_50 hl (k := 0) rfl (by decide) (by decide) rfl (fun ls hl => ?_)
              refine lv_goto (tgt := 19) hx hb dX11_feed_53 (by decide) ?_
              refine lv_iload_n hx hb dX11_feed_19 rfl (lv_at hl 0 rfl) ?_
              refine lv_if_lt (tgt := 56) hx hb dX11_feed_20 (by decide) (fun c18 => ?_) (fun c18 => ?_)
              · skip
                exact absurd c18 (by decide)
              · skip
                refine lv_aload_n hx hb dX11_feed_23 rfl (lv_at hl 1 rfl) ?_
                refine va_get (D := (dC, dI)) (ci := 11) (v := .ref tp) (C := RX11) (T := TX11) (N := 35) hx hb hg inG11 hown hK.1 hP 0 rfl rfl 10 (by decide) (hg _ wt_888) (fun _ h9 => h9) rfl dX11_feed_24 ?_
                refine lv_aload_n hx hb dX11_feed_27 rfl (lv_at hl 1 rfl) ?_
                refine va_get (D := (dC, dI)) (ci := 11) (v := .int (nI (((((T + 1) + 1) + 1) + 1) + 1))) (C := RX11) (T := TX11) (N := 35) hx hb hg inG11 hown hK.1 hP 0 rfl rfl 11 (by decide) (hg _ wt_889) (fun _ h9 => h9) rfl dX11_feed_28 ?_
                refine lv_lload_n hx hb dX11_feed_31 rfl (lv_at hl 2 rfl) ?_
                refine lv_iload_n hx hb dX11_feed_32 rfl (lv_at hl 0 rfl) ?_
                refine lv_lshr (v := _) hx hb dX11_feed_33 rfl ?_
                refine lv_topl (fun v19 ev19 => ?_)
                refine lv_l2i (v := _) hx hb dX11_feed_34 rfl ?_
                refine lv_topi (fun v20 ev20 => ?_)
                refine lv_sipush (v := 255) hx hb dX11_feed_35 (by decide) ?_
                refine lv_iand hx hb dX11_feed_38 ?_
                refine va_iast hx hb hK.1 hP hD hS 1 0 rfl rfl (vp_in_nI (by have t_n2 := n2; have t_c3 := nltI c3; have t_c6 := nltI c6; have t_c9 := nltI c9; have t_c12 := nltI c12; have t_c15 := nltI c15; have t_c18 := nltI c18; have : (0 : Int32).toInt = 0 := (by decide); have : (16 : Int32).toInt = 16 := (by decide); have : (24 : Int32).toInt = 24 := (by decide); have : (32 : Int32).toInt = 32 := (by decide); have : (40 : Int32).toInt = 40 := (by decide); have : (48 : Int32).toInt = 48 := (by decide); have : (56 : Int32).toInt = 56 := (by decide); have t_n0 : (nI N).toInt = (N : Int) := nI_toInt (by omega); have t_n1 : (nI B).toInt = (B : Int) := nI_toInt (by omega); have t_n2 : (nI T).toInt = (T : Int) := nI_toInt (by omega); have t_n3 : (nI S).toInt = (S : Int) := nI_toInt (by omega); have t_n4 : (nI M).toInt = (M : Int) := nI_toInt (by omega); omega) (by decide)) dX11_feed_39 (fun H locs hP hD hS => ?_)
                rw [nI_clamp (by omega)] at hP hD
                have hP : va_P (dC, dI) vwCl [(h0, .inr (11, [.ref st, .int (nI N), .int (nI B), .ref rp, .int vrs, .int vrb, .int vhs, .int vca, .int vxs, .int vxb, .ref tp, .int (nI (((((T + 1) + 1) + 1) + 1) + 1)), .int vfa, .int vbr, .int vba, .int vsp, .int vhe, .int vtk, .int vva, .ref cu, .ref lt, .ref od, .ref th, .ref be, .ref ln, .int (nI S), .ref ma, .int (nI M), .ref ah, .ref bh, .ref ik, .ref la, .ref lg, .ref ce, .int vto])), (tp, .inl (G 0, 320, .inl (upd (upd (upd (upd (upd (upd ftp T (v5 &&& 255)) (T + 1) (v8 &&& 255)) ((T + 1) + 1) (v11 &&& 255)) (((T + 1) + 1) + 1) (v14 &&& 255)) ((((T + 1) + 1) + 1) + 1) (v17 &&& 255)) (((((T + 1) + 1) + 1) + 1) + 1) (v20 &&& 255))))] H := hP
                have hD : va_D A [(h0, .inr (11, [.ref st, .int (nI N), .int (nI B), .ref rp, .int vrs, .int vrb, .int vhs, .int vca, .int vxs, .int vxb, .ref tp, .int (nI (((((T + 1) + 1) + 1) + 1) + 1)), .int vfa, .int vbr, .int vba, .int vsp, .int vhe, .int vtk, .int vva, .ref cu, .ref lt, .ref od, .ref th, .ref be, .ref ln, .int (nI S), .ref ma, .int (nI M), .ref ah, .ref bh, .ref ik, .ref la, .ref lg, .ref ce, .int vto])), (tp, .inl (G 0, 320, .inl (upd (upd (upd (upd (upd (upd ftp T (v5 &&& 255)) (T + 1) (v8 &&& 255)) ((T + 1) + 1) (v11 &&& 255)) (((T + 1) + 1) + 1) (v14 &&& 255)) ((((T + 1) + 1) + 1) + 1) (v17 &&& 255)) (((((T + 1) + 1) + 1) + 1) + 1) (v20 &&& 255))))] := hD
                refine lv_aload_n hx hb dX11_feed_40 rfl (lv_at hl 1 rfl) ?_
                refine lv_dup hx hb dX11_feed_41 rfl ?_
                refine va_get (D := (dC, dI)) (ci := 11) (v := .int (nI (((((T + 1) + 1) + 1) + 1) + 1))) (C := RX11) (T := TX11) (N := 35) hx hb hg inG11 hown hK.1 hP 0 rfl rfl 11 (by decide) (hg _ wt_889) (fun _ h9 => h9) rfl dX11_feed_42 ?_
                refine lv_iconst (v := 1) hx hb dX11_feed_45 (by decide) ?_
                refine lv_iadd hx hb dX11_feed_46 ?_
                refine lv_cg (y := nI ((((((T + 1) + 1) + 1) + 1) + 1) + 1)) (by rw [show (1 : Int32) = nI 1 from rfl]; exact nI_add _ _) ?_
                refine va_put (D := (dC, dI)) (ci := 11) (v := .int (nI ((((((T + 1) + 1) + 1) + 1) + 1) + 1))) (ty := .int) (C := RX11) (T := TX11) (N := 35) hx hb hg inG11 tyX11 tyX11_ok nmX11 hown hK.1 hP hD hS 0 rfl rfl 11 (by decide) (hg _ wt_889) (fun _ h9 => h9) rfl (by decide +kernel) rfl rfl (Nat.le_of_ble_eq_true rfl) dX11_feed_47 (fun H locs hP hD hS => ?_)
                have hP : va_P (dC, dI) vwCl [(h0, .inr (11, [.ref st, .int (nI N), .int (nI B), .ref rp, .int vrs, .int vrb, .int vhs, .int vca, .int vxs, .int vxb, .ref tp, .int (nI ((((((T + 1) + 1) + 1) + 1) + 1) + 1)), .int vfa, .int vbr, .int vba, .int vsp, .int vhe, .int vtk, .int vva, .ref cu, .ref lt, .ref od, .ref th, .ref be, .ref ln, .int (nI S), .ref ma, .int (nI M), .ref ah, .ref bh, .ref ik, .ref la, .ref lg, .ref ce, .int vto])), (tp, .inl (G 0, 320, .inl (upd (upd (upd (upd (upd (upd ftp T (v5 &&& 255)) (T + 1) (v8 &&& 255)) ((T + 1) + 1) (v11 &&& 255)) (((T + 1) + 1) + 1) (v14 &&& 255)) ((((T + 1) + 1) + 1) + 1) (v17 &&& 255)) (((((T + 1) + 1) + 1) + 1) + 1) (v20 &&& 255))))] H := hP
                have hD : va_D A [(h0, .inr (11, [.ref st, .int (nI N), .int (nI B), .ref rp, .int vrs, .int vrb, .int vhs, .int vca, .int vxs, .int vxb, .ref tp, .int (nI ((((((T + 1) + 1) + 1) + 1) + 1) + 1)), .int vfa, .int vbr, .int vba, .int vsp, .int vhe, .int vtk, .int vva, .ref cu, .ref lt, .ref od, .ref th, .ref be, .ref ln, .int (nI S), .ref ma, .int (nI M), .ref ah, .ref bh, .ref ik, .ref la, .ref lg, .ref ce, .int vto])), (tp, .inl (G 0, 320, .inl (upd (upd (upd (upd (upd (upd ftp T (v5 &&& 255)) (T + 1) (v8 &&& 255)) ((T + 1) + 1) (v11 &&& 255)) (((T + 1) + 1) + 1) (v14 &&& 255)) ((((T + 1) + 1) + 1) + 1) (v17 &&& 255)) (((((T + 1) + 1) + 1) + 1) + 1) (v20 &&& 255))))] := hD
                refine lv_iinc (v := 8) (lv' := [(3, .int 8), (0, .ref h0), (1, .long v)]) hx hb dX11_feed_50 hl (k := 0) rfl (by decide) (by decide) rfl (fun ls hl => ?_)
                refine lv_goto (tgt := 19) hx hb dX11_feed_53 (by decide) ?_
                refine lv_iload_n hx hb dX11_feed_19 rfl (lv_at hl 0 rfl) ?_
                refine lv_if_lt (tgt := 56) hx hb dX11_feed_20 (by decide) (fun c21 => ?_) (fun c21 => ?_)
                · skip
                  exact absurd c21 (by decide)
                · skip
                  refine lv_aload_n hx hb dX11_feed_23 rfl (lv_at hl 1 rfl) ?_
                  refine va_get (D := (dC, dI)) (ci := 11) (v := .ref tp) (C := RX11) (T := TX11) (N := 35) hx hb hg inG11 hown hK.1 hP 0 rfl rfl 10 (by decide) (hg _ wt_888) (fun _ h9 => h9) rfl dX11_feed_24 ?_
                  refine lv_aload_n hx hb dX11_feed_27 rfl (lv_at hl 1 rfl) ?_
                  refine va_get (D := (dC, dI)) (ci := 11) (v := .int (nI ((((((T + 1) + 1) + 1) + 1) + 1) + 1))) (C := RX11) (T := TX11) (N := 35) hx hb hg inG11 hown hK.1 hP 0 rfl rfl 11 (by decide) (hg _ wt_889) (fun _ h9 => h9) rfl dX11_feed_28 ?_
                  refine lv_lload_n hx hb dX11_feed_31 rfl (lv_at hl 2 rfl) ?_
                  refine lv_iload_n hx hb dX11_feed_32 rfl (lv_at hl 0 rfl) ?_
                  refine lv_lshr (v := _) hx hb dX11_feed_33 rfl ?_
                  refine lv_topl (fun v22 ev22 => ?_)
                  refine lv_l2i (v := _) hx hb dX11_feed_34 rfl ?_
                  refine lv_topi (fun v23 ev23 => ?_)
                  refine lv_sipush (v := 255) hx hb dX11_feed_35 (by decide) ?_
                  refine lv_iand hx hb dX11_feed_38 ?_
                  refine va_iast hx hb hK.1 hP hD hS 1 0 rfl rfl (vp_in_nI (by have t_n2 := n2; have t_c3 := nltI c3; have t_c6 := nltI c6; have t_c9 := nltI c9; have t_c12 := nltI c12; have t_c15 := nltI c15; have t_c18 := nltI c18; have t_c21 := nltI c21; have : (0 : Int32).toInt = 0 := (by decide); have : (8 : Int32).toInt = 8 := (by decide); have : (16 : Int32).toInt = 16 := (by decide); have : (24 : Int32).toInt = 24 := (by decide); have : (32 : Int32).toInt = 32 := (by decide); have : (40 : Int32).toInt = 40 := (by decide); have : (48 : Int32).toInt = 48 := (by decide); have : (56 : Int32).toInt = 56 := (by decide); have t_n0 : (nI N).toInt = (N : Int) := nI_toInt (by omega); have t_n1 : (nI B).toInt = (B : Int) := nI_toInt (by omega); have t_n2 : (nI T).toInt = (T : Int) := nI_toInt (by omega); have t_n3 : (nI S).toInt = (S : Int) := nI_toInt (by omega); have t_n4 : (nI M).toInt = (M : Int) := nI_toInt (by omega); omega) (by decide)) dX11_feed_39 (fun H locs hP hD hS => ?_)
                  rw [nI_clamp (by omega)] at hP hD
                  have hP : va_P (dC, dI) vwCl [(h0, .inr (11, [.ref st, .int (nI N), .int (nI B), .ref rp, .int vrs, .int vrb, .int vhs, .int vca, .int vxs, .int vxb, .ref tp, .int (nI ((((((T + 1) + 1) + 1) + 1) + 1) + 1)), .int vfa, .int vbr, .int vba, .int vsp, .int vhe, .int vtk, .int vva, .ref cu, .ref lt, .ref od, .ref th, .ref be, .ref ln, .int (nI S), .ref ma, .int (nI M), .ref ah, .ref bh, .ref ik, .ref la, .ref lg, .ref ce, .int vto])), (tp, .inl (G 0, 320, .inl (upd (upd (upd (upd (upd (upd (upd ftp T (v5 &&& 255)) (T + 1) (v8 &&& 255)) ((T + 1) + 1) (v11 &&& 255)) (((T + 1) + 1) + 1) (v14 &&& 255)) ((((T + 1) + 1) + 1) + 1) (v17 &&& 255)) (((((T + 1) + 1) + 1) + 1) + 1) (v20 &&& 255)) ((((((T + 1) + 1) + 1) + 1) + 1) + 1) (v23 &&& 255))))] H := hP
                  have hD : va_D A [(h0, .inr (11, [.ref st, .int (nI N), .int (nI B), .ref rp, .int vrs, .int vrb, .int vhs, .int vca, .int vxs, .int vxb, .ref tp, .int (nI ((((((T + 1) + 1) + 1) + 1) + 1) + 1)), .int vfa, .int vbr, .int vba, .int vsp, .int vhe, .int vtk, .int vva, .ref cu, .ref lt, .ref od, .ref th, .ref be, .ref ln, .int (nI S), .ref ma, .int (nI M), .ref ah, .ref bh, .ref ik, .ref la, .ref lg, .ref ce, .int vto])), (tp, .inl (G 0, 320, .inl (upd (upd (upd (upd (upd (upd (upd ftp T (v5 &&& 255)) (T + 1) (v8 &&& 255)) ((T + 1) + 1) (v11 &&& 255)) (((T + 1) + 1) + 1) (v14 &&& 255)) ((((T + 1) + 1) + 1) + 1) (v17 &&& 255)) (((((T + 1) + 1) + 1) + 1) + 1) (v20 &&& 255)) ((((((T + 1) + 1) + 1) + 1) + 1) + 1) (v23 &&& 255))))] := hD
                  refine lv_aload_n hx hb dX11_feed_40 rfl (lv_at hl 1 rfl) ?_
                  refine lv_dup hx hb dX11_feed_41 rfl ?_
                  refine va_get (D := (dC, dI)) (ci := 11) (v := .int (nI ((((((T + 1) + 1) + 1) + 1) + 1) + 1))) (C := RX11) (T := TX11) (N := 35) hx hb hg inG11 hown hK.1 hP 0 rfl rfl 11 (by decide) (hg _ wt_889) (fun _ h9 => h9) rfl dX11_feed_42 ?_
                  refine lv_iconst (v := 1) hx hb dX11_feed_45 (by decide) ?_
                  refine lv_iadd hx hb dX11_feed_46 ?_
                  refine lv_cg (y := nI (((((((T + 1) + 1) + 1) + 1) + 1) + 1) + 1)) (by rw [show (1 : Int32) = nI 1 from rfl]; exact nI_add _ _) ?_
                  refine va_put (D := (dC, dI)) (ci := 11) (v := .int (nI (((((((T + 1) + 1) + 1) + 1) + 1) + 1) + 1))) (ty := .int) (C := RX11) (T := TX11) (N := 35) hx hb hg inG11 tyX11 tyX11_ok nmX11 hown hK.1 hP hD hS 0 rfl rfl 11 (by decide) (hg _ wt_889) (fun _ h9 => h9) rfl (by decide +kernel) rfl rfl (Nat.le_of_ble_eq_true rfl) dX11_feed_47 (fun H locs hP hD hS => ?_)
                  have hP : va_P (dC, dI) vwCl [(h0, .inr (11, [.ref st, .int (nI N), .int (nI B), .ref rp, .int vrs, .int vrb, .int vhs, .int vca, .int vxs, .int vxb, .ref tp, .int (nI (((((((T + 1) + 1) + 1) + 1) + 1) + 1) + 1)), .int vfa, .int vbr, .int vba, .int vsp, .int vhe, .int vtk, .int vva, .ref cu, .ref lt, .ref od, .ref th, .ref be, .ref ln, .int (nI S), .ref ma, .int (nI M), .ref ah, .ref bh, .ref ik, .ref la, .ref lg, .ref ce, .int vto])), (tp, .inl (G 0, 320, .inl (upd (upd (upd (upd (upd (upd (upd ftp T (v5 &&& 255)) (T + 1) (v8 &&& 255)) ((T + 1) + 1) (v11 &&& 255)) (((T + 1) + 1) + 1) (v14 &&& 255)) ((((T + 1) + 1) + 1) + 1) (v17 &&& 255)) (((((T + 1) + 1) + 1) + 1) + 1) (v20 &&& 255)) ((((((T + 1) + 1) + 1) + 1) + 1) + 1) (v23 &&& 255))))] H := hP
                  have hD : va_D A [(h0, .inr (11, [.ref st, .int (nI N), .int (nI B), .ref rp, .int vrs, .int vrb, .int vhs, .int vca, .int vxs, .int vxb, .ref tp, .int (nI (((((((T + 1) + 1) + 1) + 1) + 1) + 1) + 1)), .int vfa, .int vbr, .int vba, .int vsp, .int vhe, .int vtk, .int vva, .ref cu, .ref lt, .ref od, .ref th, .ref be, .ref ln, .int (nI S), .ref ma, .int (nI M), .ref ah, .ref bh, .ref ik, .ref la, .ref lg, .ref ce, .int vto])), (tp, .inl (G 0, 320, .inl (upd (upd (upd (upd (upd (upd (upd ftp T (v5 &&& 255)) (T + 1) (v8 &&& 255)) ((T + 1) + 1) (v11 &&& 255)) (((T + 1) + 1) + 1) (v14 &&& 255)) ((((T + 1) + 1) + 1) + 1) (v17 &&& 255)) (((((T + 1) + 1) + 1) + 1) + 1) (v20 &&& 255)) ((((((T + 1) + 1) + 1) + 1) + 1) + 1) (v23 &&& 255))))] := hD
                  refine lv_iinc (v := 0) (lv' := [(3, .int 0), (0, .ref h0), (1, .long v)]) hx hb dX11_feed_50 hl (k := 0) rfl (by decide) (by decide) rfl (fun ls hl => ?_)
                  refine lv_goto (tgt := 19) hx hb dX11_feed_53 (by decide) ?_
                  refine lv_iload_n hx hb dX11_feed_19 rfl (lv_at hl 0 rfl) ?_
                  refine lv_if_lt (tgt := 56) hx hb dX11_feed_20 (by decide) (fun c24 => ?_) (fun c24 => ?_)
                  · skip
                    exact absurd c24 (by decide)
                  · skip
                    refine lv_aload_n hx hb dX11_feed_23 rfl (lv_at hl 1 rfl) ?_
                    refine va_get (D := (dC, dI)) (ci := 11) (v := .ref tp) (C := RX11) (T := TX11) (N := 35) hx hb hg inG11 hown hK.1 hP 0 rfl rfl 10 (by decide) (hg _ wt_888) (fun _ h9 => h9) rfl dX11_feed_24 ?_
                    refine lv_aload_n hx hb dX11_feed_27 rfl (lv_at hl 1 rfl) ?_
                    refine va_get (D := (dC, dI)) (ci := 11) (v := .int (nI (((((((T + 1) + 1) + 1) + 1) + 1) + 1) + 1))) (C := RX11) (T := TX11) (N := 35) hx hb hg inG11 hown hK.1 hP 0 rfl rfl 11 (by decide) (hg _ wt_889) (fun _ h9 => h9) rfl dX11_feed_28 ?_
                    refine lv_lload_n hx hb dX11_feed_31 rfl (lv_at hl 2 rfl) ?_
                    refine lv_iload_n hx hb dX11_feed_32 rfl (lv_at hl 0 rfl) ?_
                    refine lv_lshr (v := _) hx hb dX11_feed_33 rfl ?_
                    refine lv_topl (fun v25 ev25 => ?_)
                    refine lv_l2i (v := _) hx hb dX11_feed_34 rfl ?_
                    refine lv_topi (fun v26 ev26 => ?_)
                    refine lv_sipush (v := 255) hx hb dX11_feed_35 (by decide) ?_
                    refine lv_iand hx hb dX11_feed_38 ?_
                    refine va_iast hx hb hK.1 hP hD hS 1 0 rfl rfl (vp_in_nI (by have t_n2 := n2; have t_c3 := nltI c3; have t_c6 := nltI c6; have t_c9 := nltI c9; have t_c12 := nltI c12; have t_c15 := nltI c15; have t_c18 := nltI c18; have t_c21 := nltI c21; have t_c24 := nltI c24; have : (0 : Int32).toInt = 0 := (by decide); have : (8 : Int32).toInt = 8 := (by decide); have : (16 : Int32).toInt = 16 := (by decide); have : (24 : Int32).toInt = 24 := (by decide); have : (32 : Int32).toInt = 32 := (by decide); have : (40 : Int32).toInt = 40 := (by decide); have : (48 : Int32).toInt = 48 := (by decide); have : (56 : Int32).toInt = 56 := (by decide); have t_n0 : (nI N).toInt = (N : Int) := nI_toInt (by omega); have t_n1 : (nI B).toInt = (B : Int) := nI_toInt (by omega); have t_n2 : (nI T).toInt = (T : Int) := nI_toInt (by omega); have t_n3 : (nI S).toInt = (S : Int) := nI_toInt (by omega); have t_n4 : (nI M).toInt = (M : Int) := nI_toInt (by omega); omega) (by decide)) dX11_feed_39 (fun H locs hP hD hS => ?_)
                    rw [nI_clamp (by omega)] at hP hD
                    have hP : va_P (dC, dI) vwCl [(h0, .inr (11, [.ref st, .int (nI N), .int (nI B), .ref rp, .int vrs, .int vrb, .int vhs, .int vca, .int vxs, .int vxb, .ref tp, .int (nI (((((((T + 1) + 1) + 1) + 1) + 1) + 1) + 1)), .int vfa, .int vbr, .int vba, .int vsp, .int vhe, .int vtk, .int vva, .ref cu, .ref lt, .ref od, .ref th, .ref be, .ref ln, .int (nI S), .ref ma, .int (nI M), .ref ah, .ref bh, .ref ik, .ref la, .ref lg, .ref ce, .int vto])), (tp, .inl (G 0, 320, .inl (upd (upd (upd (upd (upd (upd (upd (upd ftp T (v5 &&& 255)) (T + 1) (v8 &&& 255)) ((T + 1) + 1) (v11 &&& 255)) (((T + 1) + 1) + 1) (v14 &&& 255)) ((((T + 1) + 1) + 1) + 1) (v17 &&& 255)) (((((T + 1) + 1) + 1) + 1) + 1) (v20 &&& 255)) ((((((T + 1) + 1) + 1) + 1) + 1) + 1) (v23 &&& 255)) (((((((T + 1) + 1) + 1) + 1) + 1) + 1) + 1) (v26 &&& 255))))] H := hP
                    have hD : va_D A [(h0, .inr (11, [.ref st, .int (nI N), .int (nI B), .ref rp, .int vrs, .int vrb, .int vhs, .int vca, .int vxs, .int vxb, .ref tp, .int (nI (((((((T + 1) + 1) + 1) + 1) + 1) + 1) + 1)), .int vfa, .int vbr, .int vba, .int vsp, .int vhe, .int vtk, .int vva, .ref cu, .ref lt, .ref od, .ref th, .ref be, .ref ln, .int (nI S), .ref ma, .int (nI M), .ref ah, .ref bh, .ref ik, .ref la, .ref lg, .ref ce, .int vto])), (tp, .inl (G 0, 320, .inl (upd (upd (upd (upd (upd (upd (upd (upd ftp T (v5 &&& 255)) (T + 1) (v8 &&& 255)) ((T + 1) + 1) (v11 &&& 255)) (((T + 1) + 1) + 1) (v14 &&& 255)) ((((T + 1) + 1) + 1) + 1) (v17 &&& 255)) (((((T + 1) + 1) + 1) + 1) + 1) (v20 &&& 255)) ((((((T + 1) + 1) + 1) + 1) + 1) + 1) (v23 &&& 255)) (((((((T + 1) + 1) + 1) + 1) + 1) + 1) + 1) (v26 &&& 255))))] := hD
                    refine lv_aload_n hx hb dX11_feed_40 rfl (lv_at hl 1 rfl) ?_
                    refine lv_dup hx hb dX11_feed_41 rfl ?_
                    refine va_get (D := (dC, dI)) (ci := 11) (v := .int (nI (((((((T + 1) + 1) + 1) + 1) + 1) + 1) + 1))) (C := RX11) (T := TX11) (N := 35) hx hb hg inG11 hown hK.1 hP 0 rfl rfl 11 (by decide) (hg _ wt_889) (fun _ h9 => h9) rfl dX11_feed_42 ?_
                    refine lv_iconst (v := 1) hx hb dX11_feed_45 (by decide) ?_
                    refine lv_iadd hx hb dX11_feed_46 ?_
                    refine lv_cg (y := nI ((((((((T + 1) + 1) + 1) + 1) + 1) + 1) + 1) + 1)) (by rw [show (1 : Int32) = nI 1 from rfl]; exact nI_add _ _) ?_
                    refine va_put (D := (dC, dI)) (ci := 11) (v := .int (nI ((((((((T + 1) + 1) + 1) + 1) + 1) + 1) + 1) + 1))) (ty := .int) (C := RX11) (T := TX11) (N := 35) hx hb hg inG11 tyX11 tyX11_ok nmX11 hown hK.1 hP hD hS 0 rfl rfl 11 (by decide) (hg _ wt_889) (fun _ h9 => h9) rfl (by decide +kernel) rfl rfl (Nat.le_of_ble_eq_true rfl) dX11_feed_47 (fun H locs hP hD hS => ?_)
                    have hP : va_P (dC, dI) vwCl [(h0, .inr (11, [.ref st, .int (nI N), .int (nI B), .ref rp, .int vrs, .int vrb, .int vhs, .int vca, .int vxs, .int vxb, .ref tp, .int (nI ((((((((T + 1) + 1) + 1) + 1) + 1) + 1) + 1) + 1)), .int vfa, .int vbr, .int vba, .int vsp, .int vhe, .int vtk, .int vva, .ref cu, .ref lt, .ref od, .ref th, .ref be, .ref ln, .int (nI S), .ref ma, .int (nI M), .ref ah, .ref bh, .ref ik, .ref la, .ref lg, .ref ce, .int vto])), (tp, .inl (G 0, 320, .inl (upd (upd (upd (upd (upd (upd (upd (upd ftp T (v5 &&& 255)) (T + 1) (v8 &&& 255)) ((T + 1) + 1) (v11 &&& 255)) (((T + 1) + 1) + 1) (v14 &&& 255)) ((((T + 1) + 1) + 1) + 1) (v17 &&& 255)) (((((T + 1) + 1) + 1) + 1) + 1) (v20 &&& 255)) ((((((T + 1) + 1) + 1) + 1) + 1) + 1) (v23 &&& 255)) (((((((T + 1) + 1) + 1) + 1) + 1) + 1) + 1) (v26 &&& 255))))] H := hP
                    have hD : va_D A [(h0, .inr (11, [.ref st, .int (nI N), .int (nI B), .ref rp, .int vrs, .int vrb, .int vhs, .int vca, .int vxs, .int vxb, .ref tp, .int (nI ((((((((T + 1) + 1) + 1) + 1) + 1) + 1) + 1) + 1)), .int vfa, .int vbr, .int vba, .int vsp, .int vhe, .int vtk, .int vva, .ref cu, .ref lt, .ref od, .ref th, .ref be, .ref ln, .int (nI S), .ref ma, .int (nI M), .ref ah, .ref bh, .ref ik, .ref la, .ref lg, .ref ce, .int vto])), (tp, .inl (G 0, 320, .inl (upd (upd (upd (upd (upd (upd (upd (upd ftp T (v5 &&& 255)) (T + 1) (v8 &&& 255)) ((T + 1) + 1) (v11 &&& 255)) (((T + 1) + 1) + 1) (v14 &&& 255)) ((((T + 1) + 1) + 1) + 1) (v17 &&& 255)) (((((T + 1) + 1) + 1) + 1) + 1) (v20 &&& 255)) ((((((T + 1) + 1) + 1) + 1) + 1) + 1) (v23 &&& 255)) (((((((T + 1) + 1) + 1) + 1) + 1) + 1) + 1) (v26 &&& 255))))] := hD
                    refine lv_iinc (v := (-8)) (lv' := [(3, .int (-8)), (0, .ref h0), (1, .long v)]) hx hb dX11_feed_50 hl (k := 0) rfl (by decide) (by decide) rfl (fun ls hl => ?_)
                    refine lv_goto (tgt := 19) hx hb dX11_feed_53 (by decide) ?_
                    refine lv_iload_n hx hb dX11_feed_19 rfl (lv_at hl 0 rfl) ?_
                    refine lv_if_lt (tgt := 56) hx hb dX11_feed_20 (by decide) (fun c27 => ?_) (fun c27 => ?_)
                    · skip
                      refine lv_aload_n hx hb dX11_feed_56 rfl (lv_at hl 1 rfl) ?_
                      refine va_get (D := (dC, dI)) (ci := 11) (v := .int (nI ((((((((T + 1) + 1) + 1) + 1) + 1) + 1) + 1) + 1))) (C := RX11) (T := TX11) (N := 35) hx hb hg inG11 hown hK.1 hP 0 rfl rfl 11 (by decide) (hg _ wt_889) (fun _ h9 => h9) rfl dX11_feed_57 ?_
                      have hpost : (nI ((((((((T + 1) + 1) + 1) + 1) + 1) + 1) + 1) + 1) : Int32) = if T + 8 ≤ 320 then nI (T + 8) else -3 := by
                        have t_n2 := n2
                        have t_c3 := nltI c3
                        have t_c6 := nltI c6
                        have t_c9 := nltI c9
                        have t_c12 := nltI c12
                        have t_c15 := nltI c15
                        have t_c18 := nltI c18
                        have t_c21 := nltI c21
                        have t_c24 := nltI c24
                        have t_c27 := ltI c27
                        have : ((-8) : Int32).toInt = -8 := (by decide)
                        have : (0 : Int32).toInt = 0 := (by decide)
                        have : (8 : Int32).toInt = 8 := (by decide)
                        have : (16 : Int32).toInt = 16 := (by decide)
                        have : (24 : Int32).toInt = 24 := (by decide)
                        have : (32 : Int32).toInt = 32 := (by decide)
                        have : (40 : Int32).toInt = 40 := (by decide)
                        have : (48 : Int32).toInt = 48 := (by decide)
                        have : (56 : Int32).toInt = 56 := (by decide)
                        have t_n0 : (nI N).toInt = (N : Int) := nI_toInt (by omega)
                        have t_n1 : (nI B).toInt = (B : Int) := nI_toInt (by omega)
                        have t_n2 : (nI T).toInt = (T : Int) := nI_toInt (by omega)
                        have t_n3 : (nI S).toInt = (S : Int) := nI_toInt (by omega)
                        have t_n4 : (nI M).toInt = (M : Int) := nI_toInt (by omega)
                        have t_n0 : (nI N).toInt = (N : Int) := nI_toInt (by omega)
                        have t_n1 : (nI B).toInt = (B : Int) := nI_toInt (by omega)
                        have t_n2 : (nI T).toInt = (T : Int) := nI_toInt (by omega)
                        have t_n3 : (nI S).toInt = (S : Int) := nI_toInt (by omega)
                        have t_n4 : (nI M).toInt = (M : Int) := nI_toInt (by omega)
                        first | rfl | ((repeat' split) <;> first | rfl | omega)
                      have hP9 := hP.sub (ws' := [(h0, .inr (11, [.ref st, .int (nI N), .int (nI B), .ref rp, .int vrs, .int vrb, .int vhs, .int vca, .int vxs, .int vxb, .ref tp, .int (nI ((((((((T + 1) + 1) + 1) + 1) + 1) + 1) + 1) + 1)), .int vfa, .int vbr, .int vba, .int vsp, .int vhe, .int vtk, .int vva, .ref cu, .ref lt, .ref od, .ref th, .ref be, .ref ln, .int (nI S), .ref ma, .int (nI M), .ref ah, .ref bh, .ref ik, .ref la, .ref lg, .ref ce, .int vto])), (tp, .inl (G 0, 320, .inl (upd (upd (upd (upd (upd (upd (upd (upd ftp T (v5 &&& 255)) (T + 1) (v8 &&& 255)) ((T + 1) + 1) (v11 &&& 255)) (((T + 1) + 1) + 1) (v14 &&& 255)) ((((T + 1) + 1) + 1) + 1) (v17 &&& 255)) (((((T + 1) + 1) + 1) + 1) + 1) (v20 &&& 255)) ((((((T + 1) + 1) + 1) + 1) + 1) + 1) (v23 &&& 255)) (((((((T + 1) + 1) + 1) + 1) + 1) + 1) + 1) (v26 &&& 255))))]) [0, 1] rfl
                      have hD9 := hD.sub (ws' := [(h0, .inr (11, [.ref st, .int (nI N), .int (nI B), .ref rp, .int vrs, .int vrb, .int vhs, .int vca, .int vxs, .int vxb, .ref tp, .int (nI ((((((((T + 1) + 1) + 1) + 1) + 1) + 1) + 1) + 1)), .int vfa, .int vbr, .int vba, .int vsp, .int vhe, .int vtk, .int vva, .ref cu, .ref lt, .ref od, .ref th, .ref be, .ref ln, .int (nI S), .ref ma, .int (nI M), .ref ah, .ref bh, .ref ik, .ref la, .ref lg, .ref ce, .int vto])), (tp, .inl (G 0, 320, .inl (upd (upd (upd (upd (upd (upd (upd (upd ftp T (v5 &&& 255)) (T + 1) (v8 &&& 255)) ((T + 1) + 1) (v11 &&& 255)) (((T + 1) + 1) + 1) (v14 &&& 255)) ((((T + 1) + 1) + 1) + 1) (v17 &&& 255)) (((((T + 1) + 1) + 1) + 1) + 1) (v20 &&& 255)) ((((((T + 1) + 1) + 1) + 1) + 1) + 1) (v23 &&& 255)) (((((((T + 1) + 1) + 1) + 1) + 1) + 1) + 1) (v26 &&& 255))))]) [0, 1] (by decide) rfl
                      refine W.widen (k := 0) (n := 0) (by omega) (by omega) ?_
                      exact W.iret (v := nI ((((((((T + 1) + 1) + 1) + 1) + 1) + 1) + 1) + 1)) hx hb hr (fun t ht hW => ⟨⟨nI ((((((((T + 1) + 1) + 1) + 1) + 1) + 1) + 1) + 1), (((((((((T + 1) + 1) + 1) + 1) + 1) + 1) + 1) + 1), (upd (upd (upd (upd (upd (upd (upd (upd ftp T (v5 &&& 255)) (T + 1) (v8 &&& 255)) ((T + 1) + 1) (v11 &&& 255)) (((T + 1) + 1) + 1) (v14 &&& 255)) ((((T + 1) + 1) + 1) + 1) (v17 &&& 255)) (((((T + 1) + 1) + 1) + 1) + 1) (v20 &&& 255)) ((((((T + 1) + 1) + 1) + 1) + 1) + 1) (v23 &&& 255)) (((((((T + 1) + 1) + 1) + 1) + 1) + 1) + 1) (v26 &&& 255))), rfl, ⟨hpost, (by have t_n2 := n2; have t_c3 := nltI c3; have t_c6 := nltI c6; have t_c9 := nltI c9; have t_c12 := nltI c12; have t_c15 := nltI c15; have t_c18 := nltI c18; have t_c21 := nltI c21; have t_c24 := nltI c24; have t_c27 := ltI c27; have : ((-8) : Int32).toInt = -8 := (by decide); have : (0 : Int32).toInt = 0 := (by decide); have : (8 : Int32).toInt = 8 := (by decide); have : (16 : Int32).toInt = 16 := (by decide); have : (24 : Int32).toInt = 24 := (by decide); have : (32 : Int32).toInt = 32 := (by decide); have : (40 : Int32).toInt = 40 := (by decide); have : (48 : Int32).toInt = 48 := (by decide); have : (56 : Int32).toInt = 56 := (by decide); have t_n0 : (nI N).toInt = (N : Int) := nI_toInt (by omega); have t_n1 : (nI B).toInt = (B : Int) := nI_toInt (by omega); have t_n2 : (nI T).toInt = (T : Int) := nI_toInt (by omega); have t_n3 : (nI S).toInt = (S : Int) := nI_toInt (by omega); have t_n4 : (nI M).toInt = (M : Int) := nI_toInt (by omega); refine ⟨⟨by split <;> omega, by omega⟩, ?_⟩; rw [if_pos (by omega), fdC_R]; (try rw [ev26]); (try rw [ev25]); (try rw [ev23]); (try rw [ev22]); (try rw [ev20]); (try rw [ev19]); (try rw [ev17]); (try rw [ev16]); (try rw [ev14]); (try rw [ev13]); (try rw [ev11]); (try rw [ev10]); (try rw [ev8]); (try rw [ev7]); (try rw [ev5]); (try rw [ev4]); rfl)⟩, ⟨by rw [ht]; exact hP9, hD9⟩⟩, hS.F ht⟩) hS.2.2 dX11_feed_60
                    · skip
                      exact absurd c27 (by decide)
  · skip
    have n28 : 320 < (T + 8) := by have t := nleI c1; rw [nI_toInt (n := (T + 8)) (by omega)] at t; have : (320 : Int32).toInt = 320 := (by decide); omega
    refine lv_bipush (v := (-3)) hx hb dX11_feed_13 (by decide) ?_
    have hpost : ((-3) : Int32) = if T + 8 ≤ 320 then nI (T + 8) else -3 := by
      have t_n28 := n28
      have t_n0 : (nI N).toInt = (N : Int) := nI_toInt (by omega)
      have t_n1 : (nI B).toInt = (B : Int) := nI_toInt (by omega)
      have t_n2 : (nI T).toInt = (T : Int) := nI_toInt (by omega)
      have t_n3 : (nI S).toInt = (S : Int) := nI_toInt (by omega)
      have t_n4 : (nI M).toInt = (M : Int) := nI_toInt (by omega)
      have t_n0 : (nI N).toInt = (N : Int) := nI_toInt (by omega)
      have t_n1 : (nI B).toInt = (B : Int) := nI_toInt (by omega)
      have t_n2 : (nI T).toInt = (T : Int) := nI_toInt (by omega)
      have t_n3 : (nI S).toInt = (S : Int) := nI_toInt (by omega)
      have t_n4 : (nI M).toInt = (M : Int) := nI_toInt (by omega)
      first | rfl | ((repeat' split) <;> first | rfl | omega)
    have hP9 := hP.sub (ws' := [(h0, .inr (11, [.ref st, .int (nI N), .int (nI B), .ref rp, .int vrs, .int vrb, .int vhs, .int vca, .int vxs, .int vxb, .ref tp, .int (nI T), .int vfa, .int vbr, .int vba, .int vsp, .int vhe, .int vtk, .int vva, .ref cu, .ref lt, .ref od, .ref th, .ref be, .ref ln, .int (nI S), .ref ma, .int (nI M), .ref ah, .ref bh, .ref ik, .ref la, .ref lg, .ref ce, .int vto])), (tp, .inl (G 0, 320, .inl ftp))]) [0, 1] rfl
    have hD9 := hD.sub (ws' := [(h0, .inr (11, [.ref st, .int (nI N), .int (nI B), .ref rp, .int vrs, .int vrb, .int vhs, .int vca, .int vxs, .int vxb, .ref tp, .int (nI T), .int vfa, .int vbr, .int vba, .int vsp, .int vhe, .int vtk, .int vva, .ref cu, .ref lt, .ref od, .ref th, .ref be, .ref ln, .int (nI S), .ref ma, .int (nI M), .ref ah, .ref bh, .ref ik, .ref la, .ref lg, .ref ce, .int vto])), (tp, .inl (G 0, 320, .inl ftp))]) [0, 1] (by decide) rfl
    refine W.widen (k := 0) (n := 0) (by omega) (by omega) ?_
    exact W.iret (v := (-3)) hx hb hr (fun t ht hW => ⟨⟨(-3), (T, ftp), rfl, ⟨hpost, (by have t_n28 := n28; have t_n0 : (nI N).toInt = (N : Int) := nI_toInt (by omega); have t_n1 : (nI B).toInt = (B : Int) := nI_toInt (by omega); have t_n2 : (nI T).toInt = (T : Int) := nI_toInt (by omega); have t_n3 : (nI S).toInt = (S : Int) := nI_toInt (by omega); have t_n4 : (nI M).toInt = (M : Int) := nI_toInt (by omega); refine ⟨⟨by split <;> omega, by omega⟩, ?_⟩; rw [if_neg (by omega)])⟩, ⟨by rw [ht]; exact hP9, hD9⟩⟩, hS.F ht⟩) hS.2.2 dX11_feed_15

set_option maxHeartbeats 1000000 in
set_option maxRecDepth 100000 in
theorem c_X11_faultE (l : Launch) (dC : Nat → ClassId) (dI : Nat → Nat → Nat) (G : Nat → ClassId) (sz : Nat) (h0 st N B rp tp T cu lt od th be ln S ma M ah bh ik la lg ce : Nat) (vrs vrb vhs vca vxs vxb vfa vbr vba vsp vhe vtk vva vto : Int32) (hN : N ≤ 10) (hB : B ≤ 6) (hT : T ≤ 320) (hS0 : S ≤ 8) (hM : M ≤ 6) : Met l yX11_fault (Cond.code yX11_fault cX11_fault 1 (some .int) :: GT) ({ frames := 0, cells := 0, slots := 0, locals := 0 } : Room) (PcR [.ref h0] dC dI G [(h0, .inr (11, [.ref st, .int (nI N), .int (nI B), .ref rp, .int vrs, .int vrb, .int vhs, .int vca, .int vxs, .int vxb, .ref tp, .int (nI T), .int vfa, .int vbr, .int vba, .int vsp, .int vhe, .int vtk, .int vva, .ref cu, .ref lt, .ref od, .ref th, .ref be, .ref ln, .int (nI S), .ref ma, .int (nI M), .ref ah, .ref bh, .ref ik, .ref la, .ref lg, .ref ce, .int vto]))] sz) (va_Qi (fun (r : Int32) (u : Unit) => match u with | _ => (r = vfa) ∧ True) (fun _ _ => True) (fun q : Nat => sz ≤ q)) 0 0 (fun q : Nat => sz ≤ q) := by
  refine Met.ofW (cc := cX11_fault) (maxL := 1) (ret := (some .int)) (by decide) rfl ?_
  intro p e s m args below meth c s₁ Bd hml hv
  obtain ⟨rfl, hsz, hP, hK⟩ := hv
  have hx := Bd.exec
  have hb := Bd.bytes
  have hr := Bd.returns
  have hg : ∀ w ∈ GT, w.before ([.ref h0] : List Value).toArray s = true := fun w h => atoms_spec (ws := Cond.code yX11_fault cX11_fault 1 (some .int) :: GT) Bd.pre w (List.mem_cons_of_mem _ h)
  have hown : s.vm.findClass RX11 = some m.cls := findClass_of_methodNamed Bd.named
  have hlocks := Bd.notSynchronized
  subst hsz
  have hA : ∀ q : Nat, s.heap.size ≤ q → (fun q : Nat => s.heap.size ≤ q) q := fun _ h => h
  have hS : va_S (fun q : Nat => s.heap.size ≤ q) s.heap s.heap [] := va_S.rf
  have hl := lv_entry ([.ref h0]) (n := 1) (Nat.le_of_ble_eq_true rfl)
  rw [lg_entry_eq]
  generalize (lg_sl ([.ref h0]) ++ List.replicate (1 - (lg_sl ([.ref h0])).length) Slot.unset).toArray = ls at hl ⊢
  have hl : lv_has ls 1 [(0, .ref h0)] := hl
  refine lv_aload_n hx hb dX11_fault_0 rfl (lv_at hl 0 rfl) ?_
  refine va_get (D := (dC, dI)) (ci := 11) (v := .int vfa) (C := RX11) (T := TX11) (N := 35) hx hb hg inG11 hown hK.1 hP 0 rfl rfl 12 (by decide) (hg _ wt_890) (fun _ h9 => h9) rfl dX11_fault_1 ?_
  have hpost : (vfa : Int32) = vfa := by
    rfl
  refine W.widen (k := 0) (n := 0) (by omega) (by omega) ?_
  exact W.iret (v := vfa) hx hb hr (fun t ht hW => ⟨⟨vfa, (), rfl, ⟨hpost, trivial⟩, trivial⟩, hS.F ht⟩) hS.2.2 dX11_fault_4
