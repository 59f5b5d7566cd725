set_option maxHeartbeats 1000000 in
set_option maxRecDepth 100000 in
theorem c_X11_feedE (l : Launch) (dC : Nat → ClassId) (dI : Nat → Nat → Nat) (G : Nat → ClassId) (sz : Nat) (h0 st N B rp tp T cu lt od th be ln S ma M ah bh ik la lg ce : Nat) (vrs vrb vhs vca vxs vxb vfa vbr vba vsp vhe vtk vva vto : Int32) (v : Int64) (ftp : Nat → Int32) (hN : N ≤ 10) (hB : B ≤ 6) (hT : T ≤ 320) (hS0 : S ≤ 8) (hM : M ≤ 6) : Met l yX11_feed (Cond.code yX11_feed cX11_feed 4 (some .int) :: GT) ({ frames := 0, cells := 0, slots := 0, locals := 0 } : Room) (PcW [.ref h0, .long v] dC dI G [(h0, .inr (11, [.ref st, .int (nI N), .int (nI B), .ref rp, .int vrs, .int vrb, .int vhs, .int vca, .int vxs, .int vxb, .ref tp, .int (nI T), .int vfa, .int vbr, .int vba, .int vsp, .int vhe, .int vtk, .int vva, .ref cu, .ref lt, .ref od, .ref th, .ref be, .ref ln, .int (nI S), .ref ma, .int (nI M), .ref ah, .ref bh, .ref ik, .ref la, .ref lg, .ref ce, .int vto])), (tp, .inl (G 0, 320, .inl ftp))] sz) (va_Qi (fun (r : Int32) (u : Nat × (Nat → Int32)) => match u with | (oT, otp) => (r = if T + 8 ≤ 320 then nI (T + 8) else -3) ∧ (oT = (if T + 8 ≤ 320 then T + 8 else T) ∧ oT ≤ 320) ∧ otp = (if T + 8 ≤ 320 then fdC ftp T v else ftp)) (fun (u : Nat × (Nat → Int32)) (t : State) => match u with | (oT, otp) => va_P (dC, dI) vwCl [(h0, .inr (11, [.ref st, .int (nI N), .int (nI B), .ref rp, .int vrs, .int vrb, .int vhs, .int vca, .int vxs, .int vxb, .ref tp, .int (nI oT), .int vfa, .int vbr, .int vba, .int vsp, .int vhe, .int vtk, .int vva, .ref cu, .ref lt, .ref od, .ref th, .ref be, .ref ln, .int (nI S), .ref ma, .int (nI M), .ref ah, .ref bh, .ref ik, .ref la, .ref lg, .ref ce, .int vto])), (tp, .inl (G 0, 320, .inl otp))] t.heap ∧ va_D (va_A [(h0, .inr (11, [.ref st, .int (nI N), .int (nI B), .ref rp, .int vrs, .int vrb, .int vhs, .int vca, .int vxs, .int vxb, .ref tp, .int (nI T), .int vfa, .int vbr, .int vba, .int vsp, .int vhe, .int vtk, .int vva, .ref cu, .ref lt, .ref od, .ref th, .ref be, .ref ln, .int (nI S), .ref ma, .int (nI M), .ref ah, .ref bh, .ref ik, .ref la, .ref lg, .ref ce, .int vto])), (tp, .inl (G 0, 320, .inl ftp))] sz) [(h0, .inr (11, [.ref st, .int (nI N), .int (nI B), .ref rp, .int vrs, .int vrb, .int vhs, .int vca, .int vxs, .int vxb, .ref tp, .int (nI oT), .int vfa, .int vbr, .int vba, .int vsp, .int vhe, .int vtk, .int vva, .ref cu, .ref lt, .ref od, .ref th, .ref be, .ref ln, .int (nI S), .ref ma, .int (nI M), .ref ah, .ref bh, .ref ik, .ref la, .ref lg, .ref ce, .int vto])), (tp, .inl (G 0, 320, .inl otp))]) (va_A [(h0, .inr (11, [.ref st, .int (nI N), .int (nI B), .ref rp, .int vrs, .int vrb, .int vhs, .int vca, .int vxs, .int vxb, .ref tp, .int (nI T), .int vfa, .int vbr, .int vba, .int vsp, .int vhe, .int vtk, .int vva, .ref cu, .ref lt, .ref od, .ref th, .ref be, .ref ln, .int (nI S), .ref ma, .int (nI M), .ref ah, .ref bh, .ref ik, .ref la, .ref lg, .ref ce, .int vto])), (tp, .inl (G 0, 320, .inl ftp))] sz)) 0 0 (va_A [(h0, .inr (11, [.ref st, .int (nI N), .int (nI B), .ref rp, .int vrs, .int vrb, .int vhs, .int vca, .int vxs, .int vxb, .ref tp, .int (nI T), .int vfa, .int vbr, .int vba, .int vsp, .int vhe, .int vtk, .int vva, .ref cu, .ref lt, .ref od, .ref th, .ref be, .ref ln, .int (nI S), .ref ma, .int (nI M), .ref ah, .ref bh, .ref ik, .ref la, .ref lg, .ref ce, .int vto])), (tp, .inl (G 0, 320, .inl ftp))] sz) := by
  refine Met.ofW (cc := cX11_feed) (maxL := 4) (ret := (some .int)) (by decide) rfl ?_
  intro p e s m args below meth c s₁ Bd hml hv
  obtain ⟨rfl, hsz, hP, hK, hD0⟩ := hv
  have hx := Bd.exec
  have hb := Bd.bytes
  have hr := Bd.returns
  have hg : ∀ w ∈ GT, w.before ([.ref h0, .long v] : List Value).toArray s = true := fun w h => atoms_spec (ws := Cond.code yX11_feed cX11_feed 4 (some .int) :: GT) Bd.pre w (List.mem_cons_of_mem _ h)
  have hown : s.vm.findClass RX11 = some m.cls := findClass_of_methodNamed Bd.named
  have hlocks := Bd.notSynchronized
  subst hsz
  have hD := hD0.self (sz := s.heap.size)
  generalize hAe : va_A [(h0, .inr (11, [.ref st, .int (nI N), .int (nI B), .ref rp, .int vrs, .int vrb, .int vhs, .int vca, .int vxs, .int vxb, .ref tp, .int (nI T), .int vfa, .int vbr, .int vba, .int vsp, .int vhe, .int vtk, .int vva, .ref cu, .ref lt, .ref od, .ref th, .ref be, .ref ln, .int (nI S), .ref ma, .int (nI M), .ref ah, .ref bh, .ref ik, .ref la, .ref lg, .ref ce, .int vto])), (tp, .inl (G 0, 320, .inl ftp))] s.heap.size = A at hD ⊢
  have hA : ∀ q : Nat, s.heap.size ≤ q → A q := fun q h => by rw [← hAe]; exact Or.inr h
  have hS : va_S A s.heap s.heap [] := va_S.rf
  have hl := lv_entry ([.ref h0, .long v]) (n := 4) (Nat.le_of_ble_eq_true rfl)
  rw [lg_entry_eq]
  generalize (lg_sl ([.ref h0, .long v]) ++ List.replicate (4 - (lg_sl ([.ref h0, .long v])).length) Slot.unset).toArray = ls at hl ⊢
  have hl : lv_has ls 4 [(0, .ref h0), (1, .long v)] := hl
  refine lv_aload_n hx hb dX11_feed_0 rfl (lv_at hl 0 rfl) ?_
  refine va_get (D := (dC, dI)) (ci := 11) (v := .int (nI T)) (C := RX11) (T := TX11) (N := 35) hx hb hg inG11 hown hK.1 hP 0 rfl rfl 11 (by decide) (hg _ wt_889) (fun _ h9 => h9) rfl dX11_feed_1 ?_
  refine lv_bipush (v := 8) hx hb dX11_feed_4 (by decide) ?_
  refine lv_iadd hx hb dX11_feed_6 ?_
  refine lv_cg (y := nI (T + 8)) (by rw [show (8 : Int32) = nI 8 from rfl]; exact nI_add _ _) ?_
  refine lv_sipush (v := 320) hx hb dX11_feed_7 (by decide) ?_
  refine lv_icmp_le (tgt := 16) hx hb dX11_feed_10 (by decide) (fun c1 => ?_) (fun c1 => ?_)
  · skip
    have n2 : (T + 8) ≤ 320 := by have t := leI c1; rw [nI_toInt (n := (T + 8)) (by omega)] at t; have : (320 : Int32).toInt = 320 := (by decide); omega
    refine lv_bipush (v := 56) hx hb dX11_feed_16 (by decide) ?_
    refine lv_istore_n (lv' := [(3, .int 56), (0, .ref h0), (1, .long v)]) hx hb dX11_feed_18 rfl hl (by decide) rfl (fun ls hl => ?_)
    refine lv_iload_n hx hb dX11_feed_19 rfl (lv_at hl 0 rfl) ?_
    refine lv_if_lt (tgt := 56) hx hb dX11_feed_20 (by decide) (fun c3 => ?_) (fun c3 => ?_)
    · skip
      exact absurd c3 (by decide)
    · skip
      refine lv_aload_n hx hb dX11_feed_23 rfl (lv_at hl 1 rfl) ?_
      refine va_get (D := (dC, dI)) (ci := 11) (v := .ref tp) (C := RX11) (T := TX11) (N := 35) hx hb hg inG11 hown hK.1 hP 0 rfl rfl 10 (by decide) (hg _ wt_888) (fun _ h9 => h9) rfl dX11_feed_24 ?_
      refine lv_aload_n hx hb dX11_feed_27 rfl (lv_at hl 1 rfl) ?_
      refine va_get (D := (dC, dI)) (ci := 11) (v := .int (nI T)) (C := RX11) (T := TX11) (N := 35) hx hb hg inG11 hown hK.1 hP 0 rfl rfl 11 (by decide) (hg _ wt_889) (fun _ h9 => h9) rfl dX11_feed_28 ?_
      refine lv_lload_n hx hb dX11_feed_31 rfl (lv_at hl 2 rfl) ?_
      refine lv_iload_n hx hb dX11_feed_32 rfl (lv_at hl 0 rfl) ?_
      refine lv_lshr (v := _) hx hb dX11_feed_33 rfl ?_
      refine lv_topl (fun v4 ev4 => ?_)
      refine lv_l2i (v := _) hx hb dX11_feed_34 rfl ?_
      refine lv_topi (fun v5 ev5 => ?_)
      refine lv_sipush (v := 255) hx hb dX11_feed_35 (by decide) ?_
      refine lv_iand hx hb dX11_feed_38 ?_
      refine va_iast hx hb hK.1 hP hD hS 1 0 rfl rfl (vp_in_nI (by have t_n2 := n2; have t_c3 := nltI c3; have : (0 : Int32).toInt = 0 := (by decide); have : (56 : Int32).toInt = 56 := (by decide); have t_n0 : (nI N).toInt = (N : Int) := nI_toInt (by omega); have t_n1 : (nI B).toInt = (B : Int) := nI_toInt (by omega); have t_n2 : (nI T).toInt = (T : Int) := nI_toInt (by omega); have t_n3 : (nI S).toInt = (S : Int) := nI_toInt (by omega); have t_n4 : (nI M).toInt = (M : Int) := nI_toInt (by omega); omega) (by decide)) dX11_feed_39 (fun H locs hP hD hS => ?_)
      rw [nI_clamp (by omega)] at hP hD
      have hP : va_P (dC, dI) vwCl [(h0, .inr (11, [.ref st, .int (nI N), .int (nI B), .ref rp, .int vrs, .int vrb, .int vhs, .int vca, .int vxs, .int vxb, .ref tp, .int (nI T), .int vfa, .int vbr, .int vba, .int vsp, .int vhe, .int vtk, .int vva, .ref cu, .ref lt, .ref od, .ref th, .ref be, .ref ln, .int (nI S), .ref ma, .int (nI M), .ref ah, .ref bh, .ref ik, .ref la, .ref lg, .ref ce, .int vto])), (tp, .inl (G 0, 320, .inl (upd ftp T (v5 &&& 255))))] H := hP
      have hD : va_D A [(h0, .inr (11, [.ref st, .int (nI N), .int (nI B), .ref rp, .int vrs, .int vrb, .int vhs, .int vca, .int vxs, .int vxb, .ref tp, .int (nI T), .int vfa, .int vbr, .int vba, .int vsp, .int vhe, .int vtk, .int vva, .ref cu, .ref lt, .ref od, .ref th, .ref be, .ref ln, .int (nI S), .ref ma, .int (nI M), .ref ah, .ref bh, .ref ik, .ref la, .ref lg, .ref ce, .int vto])), (tp, .inl (G 0, 320, .inl (upd ftp T (v5 &&& 255))))] := hD
      refine lv_aload_n hx hb dX11_feed_40 rfl (lv_at hl 1 rfl) ?_
      refine lv_dup hx hb dX11_feed_41 rfl ?_
      refine va_get (D := (dC, dI)) (ci := 11) (v := .int (nI T)) (C := RX11) (T := TX11) (N := 35) hx hb hg inG11 hown hK.1 hP 0 rfl rfl 11 (by decide) (hg _ wt_889) (fun _ h9 => h9) rfl dX11_feed_42 ?_
      refine lv_iconst (v := 1) hx hb dX11_feed_45 (by decide) ?_
      refine lv_iadd hx hb dX11_feed_46 ?_
      refine lv_cg (y := nI (T + 1)) (by rw [show (1 : Int32) = nI 1 from rfl]; exact nI_add _ _) ?_
      refine va_put (D := (dC, dI)) (ci := 11) (v := .int (nI (T + 1))) (ty := .int) (C := RX11) (T := TX11) (N := 35) hx hb hg inG11 tyX11 tyX11_ok nmX11 hown hK.1 hP hD hS 0 rfl rfl 11 (by decide) (hg _ wt_889) (fun _ h9 => h9) rfl (by decide +kernel) rfl rfl (Nat.le_of_ble_eq_true rfl) dX11_feed_47 (fun H locs hP hD hS => ?_)
      have hP : va_P (dC, dI) vwCl [(h0, .inr (11, [.ref st, .int (nI N), .int (nI B), .ref rp, .int vrs, .int vrb, .int vhs, .int vca, .int vxs, .int vxb, .ref tp, .int (nI (T + 1)), .int vfa, .int vbr, .int vba, .int vsp, .int vhe, .int vtk, .int vva, .ref cu, .ref lt, .ref od, .ref th, .ref be, .ref ln, .int (nI S), .ref ma, .int (nI M), .ref ah, .ref bh, .ref ik, .ref la, .ref lg, .ref ce, .int vto])), (tp, .inl (G 0, 320, .inl (upd ftp T (v5 &&& 255))))] H := hP
      have hD : va_D A [(h0, .inr (11, [.ref st, .int (nI N), .int (nI B), .ref rp, .int vrs, .int vrb, .int vhs, .int vca, .int vxs, .int vxb, .ref tp, .int (nI (T + 1)), .int vfa, .int vbr, .int vba, .int vsp, .int vhe, .int vtk, .int vva, .ref cu, .ref lt, .ref od, .ref th, .ref be, .ref ln, .int (nI S), .ref ma, .int (nI M), .ref ah, .ref bh, .ref ik, .ref la, .ref lg, .ref ce, .int vto])), (tp, .inl (G 0, 320, .inl (upd ftp T (v5 &&& 255))))] := hD
      refine lv_iinc (v := 48) (lv' := [(3, .int 48), (0, .ref h0), (1, .long v)]) hx hb dX11_feed_50 hl (k := 0) rfl (by decide) (by decide) rfl (fun ls hl => ?_)
      refine lv_goto (tgt := 19) hx hb dX11_feed_53 (by decide) ?_
      refine lv_iload_n hx hb dX11_feed_19 rfl (lv_at hl 0 rfl) ?_
      refine lv_if_lt (tgt := 56) hx hb dX11_feed_20 (by decide) (fun c6 => ?_) (fun c6 => ?_)
      · skip
        exact absurd c6 (by decide)
      · skip
        refine lv_aload_n hx hb dX11_feed_23 rfl (lv_at hl 1 rfl) ?_
        refine va_get (D := (dC, dI)) (ci := 11) (v := .ref tp) (C := RX11) (T := TX11) (N := 35) hx hb hg inG11 hown hK.1 hP 0 rfl rfl 10 (by decide) (hg _ wt_888) (fun _ h9 => h9) rfl dX11_feed_24 ?_
        refine lv_aload_n hx hb dX11_feed_27 rfl (lv_at hl 1 rfl) ?_
        refine va_get (D := (dC, dI)) (ci := 11) (v := .int (nI (T + 1))) (C := RX11) (T := TX11) (N := 35) hx hb hg inG11 hown hK.1 hP 0 rfl rfl 11 (by decide) (hg _ wt_889) (fun _ h9 => h9) rfl dX11_feed_28 ?_
        refine lv_lload_n hx hb dX11_feed_31 rfl (lv_at hl 2 rfl) ?_
        refine lv_iload_n hx hb dX11_feed_32 rfl (lv_at hl 0 rfl) ?_
        refine lv_lshr (v := _) hx hb dX11_feed_33 rfl ?_
        refine lv_topl (fun v7 ev7 => ?_)
        refine lv_l2i (v := _) hx hb dX11_feed_34 rfl ?_
        refine lv_topi (fun v8 ev8 => ?_)
        refine lv_sipush (v := 255) hx hb dX11_feed_35 (by decide) ?_
        refine lv_iand hx hb dX11_feed_38 ?_
        refine va_iast hx hb hK.1 hP hD hS 1 0 rfl rfl (vp_in_nI (by have t_n2 := n2; have t_c3 := nltI c3; have t_c6 := nltI c6; have : (0 : Int32).toInt = 0 := (by decide); have : (48 : Int32).toInt = 48 := (by decide); have : (56 : Int32).toInt = 56 := (by decide); have t_n0 : (nI N).toInt = (N : Int) := nI_toInt (by omega); have t_n1 : (nI B).toInt = (B : Int) := nI_toInt (by omega); have t_n2 : (nI T).toInt = (T : Int) := nI_toInt (by omega); have t_n3 : (nI S).toInt = (S : Int) := nI_toInt (by omega); have t_n4 : (nI M).toInt = (M : Int) := nI_toInt (by omega); omega) (by decide)) dX11_feed_39 (fun H locs hP hD hS => ?_)
        rw [nI_clamp (by omega)] at hP hD
        have hP : va_P (dC, dI) vwCl [(h0, .inr (11, [.ref st, .int (nI N), .int (nI B), .ref rp, .int vrs, .int vrb, .int vhs, .int vca, .int vxs, .int vxb, .ref tp, .int (nI (T + 1)), .int vfa, .int vbr, .int vba, .int vsp, .int vhe, .int vtk, .int vva, .ref cu, .ref lt, .ref od, .ref th, .ref be, .ref ln, .int (nI S), .ref ma, .int (nI M), .ref ah, .ref bh, .ref ik, .ref la, .ref lg, .ref ce, .int vto])), (tp, .inl (G 0, 320, .inl (upd (upd ftp T (v5 &&& 255)) (T + 1) (v8 &&& 255))))] H := hP
        have hD : va_D A [(h0, .inr (11, [.ref st, .int (nI N), .int (nI B), .ref rp, .int vrs, .int vrb, .int vhs, .int vca, .int vxs, .int vxb, .ref tp, .int (nI (T + 1)), .int vfa, .int vbr, .int vba, .int vsp, .int vhe, .int vtk, .int vva, .ref cu, .ref lt, .ref od, .ref th, .ref be, .ref ln, .int (nI S), .ref ma, .int (nI M), .ref ah, .ref bh, .ref ik, .ref la, .ref lg, .ref ce, .int vto])), (tp, .inl (G 0, 320, .inl (upd (upd ftp T (v5 &&& 255)) (T + 1) (v8 &&& 255))))] := hD
        refine lv_aload_n hx hb dX11_feed_40 rfl (lv_at hl 1 rfl) ?_
        refine lv_dup hx hb dX11_feed_41 rfl ?_
        refine va_get (D := (dC, dI)) (ci := 11) (v := .int (nI (T + 1))) (C := RX11) (T := TX11) (N := 35) hx hb hg inG11 hown hK.1 hP 0 rfl rfl 11 (by decide) (hg _ wt_889) (fun _ h9 => h9) rfl dX11_feed_42 ?_
        refine lv_iconst (v := 1) hx hb dX11_feed_45 (by decide) ?_
        refine lv_iadd hx hb dX11_feed_46 ?_
        refine lv_cg (y := nI ((T + 1) + 1)) (by rw [show (1 : Int32) = nI 1 from rfl]; exact nI_add _ _) ?_
        refine va_put (D := (dC, dI)) (ci := 11) (v := .int (nI ((T + 1) + 1))) (ty := .int) (C := RX11) (T := TX11) (N := 35) hx hb hg inG11 tyX11 tyX11_ok nmX11 hown hK.1 hP hD hS 0 rfl rfl 11 (by decide) (hg _ wt_889) (fun _ h9 => h9) rfl (by decide +kernel) rfl rfl (Nat.le_of_ble_eq_true rfl) dX11_feed_47 (fun H locs hP hD hS => ?_)
        have hP : va_P (dC, dI) vwCl [(h0, .inr (11, [.ref st, .int (nI N), .int (nI B), .ref rp, .int vrs, .int vrb, .int vhs, .int vca, .int vxs, .int vxb, .ref tp, .int (nI ((T + 1) + 1)), .int vfa, .int vbr, .int vba, .int vsp, .int vhe, .int vtk, .int vva, .ref cu, .ref lt, .ref od, .ref th, .ref be, .ref ln, .int (nI S), .ref ma, .int (nI M), .ref ah, .ref bh, .ref ik, .ref la, .ref lg, .ref ce, .int vto])), (tp, .inl (G 0, 320, .inl (upd (upd ftp T (v5 &&& 255)) (T + 1) (v8 &&& 255))))] H := hP
        have hD : va_D A [(h0, .inr (11, [.ref st, .int (nI N), .int (nI B), .ref rp, .int vrs, .int vrb, .int vhs, .int vca, .int vxs, .int vxb, .ref tp, .int (nI ((T + 1) + 1)), .int vfa, .int vbr, .int vba, .int vsp, .int vhe, .int vtk, .int vva, .ref cu, .ref lt, .ref od, .ref th, .ref be, .ref ln, .int (nI S), .ref ma, .int (nI M), .ref ah, .ref bh, .ref ik, .ref la, .ref lg, .ref ce, .int vto])), (tp, .inl (G 0, 320, .inl (upd (upd ftp T (v5 &&& 255)) (T + 1) (v8 &&& 255))))] := hD
        refine lv_iinc (v := 40) (lv' := [(3, .int 40), (0, .ref h0), (1, .long v)]) hx hb dX11_feed_50 hl (k := 0) rfl (by decide) (by decide) rfl (fun ls hl => ?_)
        refine lv_goto (tgt := 19) hx hb dX11_feed_53 (by decide) ?_
        refine lv_iload_n hx hb dX11_feed_19 rfl (lv_at hl 0 rfl) ?_
        refine lv_if_lt (tgt := 56) hx hb dX11_feed_20 (by decide) (fun c9 => ?_) (fun c9 => ?_)
        · skip
          exact absurd c9 (by decide)
        · skip
          refine lv_aload_n hx hb dX11_feed_23 rfl (lv_at hl 1 rfl) ?_
          refine va_get (D := (dC, dI)) (ci := 11) (v := .ref tp) (C := RX11) (T := TX11) (N := 35) hx hb hg inG11 hown hK.1 hP 0 rfl rfl 10 (by decide) (hg _ wt_888) (fun _ h9 => h9) rfl dX11_feed_24 ?_
          refine lv_aload_n hx hb dX11_feed_27 rfl (lv_at hl 1 rfl) ?_
          refine va_get (D := (dC, dI)) (ci := 11) (v := .int (nI ((T + 1) + 1))) (C := RX11) (T := TX11) (N := 35) hx hb hg inG11 hown hK.1 hP 0 rfl rfl 11 (by decide) (hg _ wt_889) (fun _ h9 => h9) rfl dX11_feed_28 ?_
          refine lv_lload_n hx hb dX11_feed_31 rfl (lv_at hl 2 rfl) ?_
          refine lv_iload_n hx hb dX11_feed_32 rfl (lv_at hl 0 rfl) ?_
          refine lv_lshr (v := _) hx hb dX11_feed_33 rfl ?_
          refine lv_topl (fun v10 ev10 => ?_)
          refine lv_l2i (v := _) hx hb dX11_feed_34 rfl ?_
          refine lv_topi (fun v11 ev11 => ?_)
          refine lv_sipush (v := 255) hx hb dX11_feed_35 (by decide) ?_
          refine lv_iand hx hb dX11_feed_38 ?_
          refine va_iast hx hb hK.1 hP hD hS 1 0 rfl rfl (vp_in_nI (by have t_n2 := n2; have t_c3 := nltI c3; have t_c6 := nltI c6; have t_c9 := nltI c9; have : (0 : Int32).toInt = 0 := (by decide); have : (40 : Int32).toInt = 40 := (by decide); have : (48 : Int32).toInt = 48 := (by decide); have : (56 : Int32).toInt = 56 := (by decide); have t_n0 : (nI N).toInt = (N : Int) := nI_toInt (by omega); have t_n1 : (nI B).toInt = (B : Int) := nI_toInt (by omega); have t_n2 : (nI T).toInt = (T : Int) := nI_toInt (by omega); have t_n3 : (nI S).toInt = (S : Int) := nI_toInt (by omega); have t_n4 : (nI M).toInt = (M : Int) := nI_toInt (by omega); omega) (by decide)) dX11_feed_39 (fun H locs hP hD hS => ?_)
          rw [nI_clamp (by omega)] at hP hD
          have hP : va_P (dC, dI) vwCl [(h0, .inr (11, [.ref st, .int (nI N), .int (nI B), .ref rp, .int vrs, .int vrb, .int vhs, .int vca, .int vxs, .int vxb, .ref tp, .int (nI ((T + 1) + 1)), .int vfa, .int vbr, .int vba, .int vsp, .int vhe, .int vtk, .int vva, .ref cu, .ref lt, .ref od, .ref th, .ref be, .ref ln, .int (nI S), .ref ma, .int (nI M), .ref ah, .ref bh, .ref ik, .ref la, .ref lg, .ref ce, .int vto])), (tp, .inl (G 0, 320, .inl (upd (upd (upd ftp T (v5 &&& 255)) (T + 1) (v8 &&& 255)) ((T + 1) + 1) (v11 &&& 255))))] H := hP
          have hD : va_D A [(h0, .inr (11, [.ref st, .int (nI N), .int (nI B), .ref rp, .int vrs, .int vrb, .int vhs, .int vca, .int vxs, .int vxb, .ref tp, .int (nI ((T + 1) + 1)), .int vfa, .int vbr, .int vba, .int vsp, .int vhe, .int vtk, .int vva, .ref cu, .ref lt, .ref od, .ref th, .ref be, .ref ln, .int (nI S), .ref ma, .int (nI M), .ref ah, .ref bh, .ref ik, .ref la, .ref lg, .ref ce, .int vto])), (tp, .inl (G 0, 320, .inl (upd (upd (upd ftp T (v5 &&& 255)) (T + 1) (v8 &&& 255)) ((T + 1) + 1) (v11 &&& 255))))] := hD
          refine lv_aload_n hx hb dX11_feed_40 rfl (lv_at hl 1 rfl) ?_
          refine lv_dup hx hb dX11_feed_41 rfl ?_
          refine va_get (D := (dC, dI)) (ci := 11) (v := .int (nI ((T + 1) + 1))) (C := RX11) (T := TX11) (N := 35) hx hb hg inG11 hown hK.1 hP 0 rfl rfl 11 (by decide) (hg _ wt_889) (fun _ h9 => h9) rfl dX11_feed_42 ?_
          refine lv_iconst (v := 1) hx hb dX11_feed_45 (by decide) ?_
          refine lv_iadd hx hb dX11_feed_46 ?_
          refine lv_cg (y := nI (((T + 1) + 1) + 1)) (by rw [show (1 : Int32) = nI 1 from rfl]; exact nI_add _ _) ?_
          refine va_put (D := (dC, dI)) (ci := 11) (v := .int (nI (((T + 1) + 1) + 1))) (ty := .int) (C := RX11) (T := TX11) (N := 35) hx hb hg inG11 tyX11 tyX11_ok nmX11 hown hK.1 hP hD hS 0 rfl rfl 11 (by decide) (hg _ wt_889) (fun _ h9 => h9) rfl (by decide +kernel) rfl rfl (Nat.le_of_ble_eq_true rfl) dX11_feed_47 (fun H locs hP hD hS => ?_)
          have hP : va_P (dC, dI) vwCl [(h0, .inr (11, [.ref st, .int (nI N), .int (nI B), .ref rp, .int vrs, .int vrb, .int vhs, .int vca, .int vxs, .int vxb, .ref tp, .int (nI (((T + 1) + 1) + 1)), .int vfa, .int vbr, .int vba, .int vsp, .int vhe, .int vtk, .int vva, .ref cu, .ref lt, .ref od, .ref th, .ref be, .ref ln, .int (nI S), .ref ma, .int (nI M), .ref ah, .ref bh, .ref ik, .ref la, .ref lg, .ref ce, .int vto])), (tp, .inl (G 0, 320, .inl (upd (upd (upd ftp T (v5 &&& 255)) (T + 1) (v8 &&& 255)) ((T + 1) + 1) (v11 &&& 255))))] H := hP
          have hD : va_D A [(h0, .inr (11, [.ref st, .int (nI N), .int (nI B), .ref rp, .int vrs, .int vrb, .int vhs, .int vca, .int vxs, .int vxb, .ref tp, .int (nI (((T + 1) + 1) + 1)), .int vfa, .int vbr, .int vba, .int vsp, .int vhe, .int vtk, .int vva, .ref cu, .ref lt, .ref od, .ref th, .ref be, .ref ln, .int (nI S), .ref ma, .int (nI M), .ref ah, .ref bh, .ref ik, .ref la, .ref lg, .ref ce, .int vto])), (tp, .inl (G 0, 320, .inl (upd (upd (upd ftp T (v5 &&& 255)) (T + 1) (v8 &&& 255)) ((T + 1) + 1) (v11 &&& 255))))] := hD
          refine lv_iinc (v := 32) (lv' := [(3, .int 32), (0, .ref h0), (1, .long v)]) hx hb dX11_feed_50 hl (k := 0) rfl (by decide) (by decide) rfl (fun ls hl => ?_)
          refine lv_goto (tgt := 19) hx hb dX11_feed_53 (by decide) ?_
          refine lv_iload_n hx hb dX11_feed_19 rfl (lv_at hl 0 rfl) ?_
          refine lv_if_lt (tgt := 56) hx hb dX11_feed_20 (by decide) (fun c12 => ?_) (fun c12 => ?_)
          · skip
            exact absurd c12 (by decide)
          · skip
            refine lv_aload_n hx hb dX11_feed_23 rfl (lv_at hl 1 rfl) ?_
            refine va_get (D := (dC, dI)) (ci := 11) (v := .ref tp) (C := RX11) (T := TX11) (N := 35) hx hb hg inG11 hown hK.1 hP 0 rfl rfl 10 (by decide) (hg _ wt_888) (fun _ h9 => h9) rfl dX11_feed_24 ?_
            refine lv_aload_n hx hb dX11_feed_27 rfl (lv_at hl 1 rfl) ?_
            refine va_get (D := (dC, dI)) (ci := 11) (v := .int (nI (((T + 1) + 1) + 1))) (C := RX11) (T := TX11) (N := 35) hx hb hg inG11 hown hK.1 hP 0 rfl rfl 11 (by decide) (hg _ wt_889) (fun _ h9 => h9) rfl dX11_feed_28 ?_
            refine lv_lload_n hx hb dX11_feed_31 rfl (lv_at hl 2 rfl) ?_
            refine lv_iload_n hx hb dX11_feed_32 rfl (lv_at hl 0 rfl) ?_
            refine lv_lshr (v := _) hx hb dX11_feed_33 rfl ?_
            refine lv_topl (fun v13 ev13 => ?_)
            refine lv_l2i (v := _) hx hb dX11_feed_34 rfl ?_
            refine lv_topi (fun v14 ev14 => ?_)
            refine lv_sipush (v := 255) hx hb dX11_feed_35 (by decide) ?_
            refine lv_iand hx hb dX11_feed_38 ?_
            refine va_iast hx hb hK.1 hP hD hS 1 0 rfl rfl (vp_in_nI (by have t_n2 := n2; have t_c3 := nltI c3; have t_c6 := nltI c6; have t_c9 := nltI c9; have t_c12 := nltI c12; have : (0 : Int32).toInt = 0 := (by decide); have : (32 : Int32).toInt = 32 := (by decide); have : (40 : Int32).toInt = 40 := (by decide); have : (48 : Int32).toInt = 48 := (by decide); have : (56 : Int32).toInt = 56 := (by decide); have t_n0 : (nI N).toInt = (N : Int) := nI_toInt (by omega); have t_n1 : (nI B).toInt = (B : Int) := nI_toInt (by omega); have t_n2 : (nI T).toInt = (T : Int) := nI_toInt (by omega); have t_n3 : (nI S).toInt = (S : Int) := nI_toInt (by omega); have t_n4 : (nI M).toInt = (M : Int) := nI_toInt (by omega); omega) (by decide)) dX11_feed_39 (fun H locs hP hD hS => ?_)
            rw [nI_clamp (by omega)] at hP hD
            have hP : va_P (dC, dI) vwCl [(h0, .inr (11, [.ref st, .int (nI N), .int (nI B), .ref rp, .int vrs, .int vrb, .int vhs, .int vca, .int vxs, .int vxb, .ref tp, .int (nI (((T + 1) + 1) + 1)), .int vfa, .int vbr, .int vba, .int vsp, .int vhe, .int vtk, .int vva, .ref cu, .ref lt, .ref od, .ref th, .ref be, .ref ln, .int (nI S), .ref ma, .int (nI M), .ref ah, .ref bh, .ref ik, .ref la, .ref lg, .ref ce, .int vto])), (tp, .inl (G 0, 320, .inl (upd (upd (upd (upd ftp T (v5 &&& 255)) (T + 1) (v8 &&& 255)) ((T + 1) + 1) (v11 &&& 255)) (((T + 1) + 1) + 1) (v14 &&& 255))))] H := hP
            have hD : va_D A [(h0, .inr (11, [.ref st, .int (nI N), .int (nI B), .ref rp, .int vrs, .int vrb, .int vhs, .int vca, .int vxs, .int vxb, .ref tp, .int (nI (((T + 1) + 1) + 1)), .int vfa, .int vbr, .int vba, .int vsp, .int vhe, .int vtk, .int vva, .ref cu, .ref lt, .ref od, .ref th, .ref be, .ref ln, .int (nI S), .ref ma, .int (nI M), .ref ah, .ref bh, .ref ik, .ref la, .ref lg, .ref ce, .int vto])), (tp, .inl (G 0, 320, .inl (upd (upd (upd (upd ftp T (v5 &&& 255)) (T + 1) (v8 &&& 255)) ((T + 1) + 1) (v11 &&& 255)) (((T + 1) + 1) + 1) (v14 &&& 255))))] := hD
            refine lv_aload_n hx hb dX11_feed_40 rfl (lv_at hl 1 rfl) ?_
            refine lv_dup hx hb dX11_feed_41 rfl ?_
            refine va_get (D := (dC, dI)) (ci := 11) (v := .int (nI (((T + 1) + 1) + 1))) (C := RX11) (T := TX11) (N := 35) hx hb hg inG11 hown hK.1 hP 0 rfl rfl 11 (by decide) (hg _ wt_889) (fun _ h9 => h9) rfl dX11_feed_42 ?_
            refine lv_iconst (v := 1) hx hb dX11_feed_45 (by decide) ?_
            refine lv_iadd hx hb dX11_feed_46 ?_
            refine lv_cg (y := nI ((((T + 1) + 1) + 1) + 1)) (by rw [show (1 : Int32) = nI 1 from rfl]; exact nI_add _ _) ?_
            refine va_put (D := (dC, dI)) (ci := 11) (v := .int (nI ((((T + 1) + 1) + 1) + 1))) (ty := .int) (C := RX11) (T := TX11) (N := 35) hx hb hg inG11 tyX11 tyX11_ok nmX11 hown hK.1 hP hD hS 0 rfl rfl 11 (by decide) (hg _ wt_889) (fun _ h9 => h9) rfl (by decide +kernel) rfl rfl (Nat.le_of_ble_eq_true rfl) dX11_feed_47 (fun H locs hP hD hS => ?_)
            have hP : va_P (dC, dI) vwCl [(h0, .inr (11, [.ref st, .int (nI N), .int (nI B), .ref rp, .int vrs, .int vrb, .int vhs, .int vca, .int vxs, .int vxb, .ref tp, .int (nI ((((T + 1) + 1) + 1) + 1)), .int vfa, .int vbr, .int vba, .int vsp, .int vhe, .int vtk, .int vva, .ref cu, .ref lt, .ref od, .ref th, .ref be, .ref ln, .int (nI S), .ref ma, .int (nI M), .ref ah, .ref bh, .ref ik, .ref la, .ref lg, .ref ce, .int vto])), (tp, .inl (G 0, 320, .inl (upd (upd (upd (upd ftp T (v5 &&& 255)) (T + 1) (v8 &&& 255)) ((T + 1) + 1) (v11 &&& 255)) (((T + 1) + 1) + 1) (v14 &&& 255))))] H := hP
            have hD : va_D A [(h0, .inr (11, [.ref st, .int (nI N), .int (nI B), .ref rp, .int vrs, .int vrb, .int vhs, .int vca, .int vxs, .int vxb, .ref tp, .int (nI ((((T + 1) + 1) + 1) + 1)), .int vfa, .int vbr, .int vba, .int vsp, .int vhe, .int vtk, .int vva, .ref cu, .ref lt, .ref od, .ref th, .ref be, .ref ln, .int (nI S), .ref ma, .int (nI M), .ref ah, .ref bh, .ref ik, .ref la, .ref lg, .ref ce, .int vto])), (tp, .inl (G 0, 320, .inl (upd (upd (upd (upd ftp T (v5 &&& 255)) (T + 1) (v8 &&& 255)) ((T + 1) + 1) (v11 &&& 255)) (((T + 1) + 1) + 1) (v14 &&& 255))))] := hD
            refine lv_iinc (v := 24) (lv' := [(3, .int 24), (0, .ref h0), (1, .long v)]) hx hb dX11_feed_50 hl (k := 0) rfl (by decide) (by decide) rfl (fun ls hl => ?_)
            refine lv_goto (tgt := 19) hx hb dX11_feed_53 (by decide) ?_
            refine lv_iload_n hx hb dX11_feed_19 rfl (lv_at hl 0 rfl) ?_
            refine lv_if_lt (tgt := 56) hx hb dX11_feed_20 (by decide) (fun c15 => ?_) (fun c15 => ?_)
            · skip
              exact absurd c15 (by decide)
            · skip
              refine lv_aload_n hx hb dX11_feed_23 rfl (lv_at hl 1 rfl) ?_
              refine va_get (D := (dC, dI)) (ci := 11) (v := .ref tp) (C := RX11) (T := TX11) (N := 35) hx hb hg inG11 hown hK.1 hP 0 rfl rfl 10 (by decide) (hg _ wt_888) (fun _ h9 => h9) rfl dX11_feed_24 ?_
              refine lv_aload_n hx hb dX11_feed_27 rfl (lv_at hl 1 rfl) ?_
              refine va_get (D := (dC, dI)) (ci := 11) (v := .int (nI ((((T + 1) + 1) + 1) + 1))) (C := RX11) (T := TX11) (N := 35) hx hb hg inG11 hown hK.1 hP 0 rfl rfl 11 (by decide) (hg _ wt_889) (fun _ h9 => h9) rfl dX11_feed_28 ?_
              refine lv_lload_n hx hb dX11_feed_31 rfl (lv_at hl 2 rfl) ?_
              refine lv_iload_n hx hb dX11_feed_32 rfl (lv_at hl 0 rfl) ?_
              refine lv_lshr (v := _) hx hb dX11_feed_33 rfl ?_
              refine lv_topl (fun v16 ev16 => ?_)
              refine lv_l2i (v := _) hx hb dX11_feed_34 rfl ?_
              refine lv_topi (fun v17 ev17 => ?_)
              refine lv_sipush (v := 255) hx hb dX11_feed_35 (by decide) ?_
              refine lv_iand hx hb dX11_feed_38 ?_
              refine va_iast hx hb hK.1 hP hD hS 1 0 rfl rfl (vp_in_nI (by have t_n2 := n2; have t_c3 := nltI c3; have t_c6 := nltI c6; have t_c9 := nltI c9; have t_c12 := nltI c12; have t_c15 := nltI c15; have : (0 : Int32).toInt = 0 := (by decide); have : (24 : Int32).toInt = 24 := (by decide); have : (32 : Int32).toInt = 32 := (by decide); have : (40 : Int32).toInt = 40 := (by decide); have : (48 : Int32).toInt = 48 := (by decide); have : (56 : Int32).toInt = 56 := (by decide); have t_n0 : (nI N).toInt = (N : Int) := nI_toInt (by omega); have t_n1 : (nI B).toInt = (B : Int) := nI_toInt (by omega); have t_n2 : (nI T).toInt = (T : Int) := nI_toInt (by omega); have t_n3 : (nI S).toInt = (S : Int) := nI_toInt (by omega); have t_n4 : (nI M).toInt = (M : Int) := nI_toInt (by omega); omega) (by decide)) dX11_feed_39 (fun H locs hP hD hS => ?_)
              rw [nI_clamp (by omega)] at hP hD
              have hP : va_P (dC, dI) vwCl [(h0, .inr (11, [.ref st, .int (nI N), .int (nI B), .ref rp, .int vrs, .int vrb, .int vhs, .int vca, .int vxs, .int vxb, .ref tp, .int (nI ((((T + 1) + 1) + 1) + 1)), .int vfa, .int vbr, .int vba, .int vsp, .int vhe, .int vtk, .int vva, .ref cu, .ref lt, .ref od, .ref th, .ref be, .ref ln, .int (nI S), .ref ma, .int (nI M), .ref ah, .ref bh, .ref ik, .ref la, .ref lg, .ref ce, .int vto])), (tp, .inl (G 0, 320, .inl (upd (upd (upd (upd (upd ftp T (v5 &&& 255)) (T + 1) (v8 &&& 255)) ((T + 1) + 1) (v11 &&& 255)) (((T + 1) + 1) + 1) (v14 &&& 255)) ((((T + 1) + 1) + 1) + 1) (v17 &&& 255))))] H := hP
              have hD : va_D A [(h0, .inr (11, [.ref st, .int (nI N), .int (nI B), .ref rp, .int vrs, .int vrb, .int vhs, .int vca, .int vxs, .int vxb, .ref tp, .int (nI ((((T + 1) + 1) + 1) + 1)), .int vfa, .int vbr, .int vba, .int vsp, .int vhe, .int vtk, .int vva, .ref cu, .ref lt, .ref od, .ref th, .ref be, .ref ln, .int (nI S), .ref ma, .int (nI M), .ref ah, .ref bh, .ref ik, .ref la, .ref lg, .ref ce, .int vto])), (tp, .inl (G 0, 320, .inl (upd (upd (upd (upd (upd ftp T (v5 &&& 255)) (T + 1) (v8 &&& 255)) ((T + 1) + 1) (v11 &&& 255)) (((T + 1) + 1) + 1) (v14 &&& 255)) ((((T + 1) + 1) + 1) + 1) (v17 &&& 255))))] := hD
              refine lv_aload_n hx hb dX11_feed_40 rfl (lv_at hl 1 rfl) ?_
              refine lv_dup hx hb dX11_feed_41 rfl ?_
              refine va_get (D := (dC, dI)) (ci := 11) (v := .int (nI ((((T + 1) + 1) + 1) + 1))) (C := RX11) (T := TX11) (N := 35) hx hb hg inG11 hown hK.1 hP 0 rfl rfl 11 (by decide) (hg _ wt_889) (fun _ h9 => h9) rfl dX11_feed_42 ?_
              refine lv_iconst (v := 1) hx hb dX11_feed_45 (by decide) ?_
              refine lv_iadd hx hb dX11_feed_46 ?_
              refine lv_cg (y := nI (((((T + 1) + 1) + 1) + 1) + 1)) (by rw [show (1 : Int32) = nI 1 from rfl]; exact nI_add _ _) ?_
              refine va_put (D := (dC, dI)) (ci := 11) (v := .int (nI (((((T + 1) + 1) + 1) + 1) + 1))) (ty := .int) (C := RX11) (T := TX11) (N := 35) hx hb hg inG11 tyX11 tyX11_ok nmX11 hown hK.1 hP hD hS 0 rfl rfl 11 (by decide) (hg _ wt_889) (fun _ h9 => h9) rfl (by decide +kernel) rfl rfl (Nat.le_of_ble_eq_true rfl) dX11_feed_47 (fun H locs hP hD hS => ?_)
              have hP : va_P (dC, dI) vwCl [(h0, .inr (11, [.ref st, .int (nI N), .int (nI B), .ref rp, .int vrs, .int vrb, .int vhs, .int vca, .int vxs, .int vxb, .ref tp, .int (nI (((((T + 1) + 1) + 1) + 1) + 1)), .int vfa, .int vbr, .int vba, .int vsp, .int vhe, .int vtk, .int vva, .ref cu, .ref lt, .ref od, .ref th, .ref be, .ref ln, .int (nI S), .ref ma, .int (nI M), .ref ah, .ref bh, .ref ik, .ref la, .ref lg, .ref ce, .int vto])), (tp, .inl (G 0, 320, .inl (upd (upd (upd (upd (upd ftp T (v5 &&& 255)) (T + 1) (v8 &&& 255)) ((T + 1) + 1) (v11 &&& 255)) (((T + 1) + 1) + 1) (v14 &&& 255)) ((((T + 1) + 1) + 1) + 1) (v17 &&& 255))))] H := hP
              have hD : va_D A [(h0, .inr (11, [.ref st, .int (nI N), .int (nI B), .ref rp, .int vrs, .int vrb, .int vhs, .int vca, .int vxs, .int vxb, .ref tp, .int (nI (((((T + 1) + 1) + 1) + 1) + 1)), .int vfa, .int vbr, .int vba, .int vsp, .int vhe, .int vtk, .int vva, .ref cu, .ref lt, .ref od, .ref th, .ref be, .ref ln, .int (nI S), .ref ma, .int (nI M), .ref ah, .ref bh, .ref ik, .ref la, .ref lg, .ref ce, .int vto])), (tp, .inl (G 0, 320, .inl (upd (upd (upd (upd (upd ftp T (v5 &&& 255)) (T + 1) (v8 &&& 255)) ((T + 1) + 1) (v11 &&& 255)) (((T + 1) + 1) + 1) (v14 &&& 255)) ((((T + 1) + 1) + 1) + 1) (v17 &&& 255))))] := hD
              refine lv_iinc (v := 16) (lv' := [(3, .int 16), (0, .ref h0), (1, .long v)]) hx hb dX11_feed_50 hl (k := 0) rfl (by decide) (by decide) rfl (fun ls hl => ?_)
              refine lv_goto (tgt := 19) hx hb dX11_feed_53 (by decide) ?_
              refine lv_iload_n hx hb dX11_feed_19 rfl (lv_at hl 0 rfl) ?_
              refine lv_if_lt (tgt := 56) hx hb dX11_feed_20 (by decide) (fun c18 => ?_) (fun c18 => ?_)
              · skip
                exact absurd c18 (by decide)
              · skip
                refine lv_aload_n hx hb dX11_feed_23 rfl (lv_at hl 1 rfl) ?_
                refine va_get (D := (dC, dI)) (ci := 11) (v := .ref tp) (C := RX11) (T := TX11) (N := 35) hx hb hg inG11 hown hK.1 hP 0 rfl rfl 10 (by decide) (hg _ wt_888) (fun _ h9 => h9) rfl dX11_feed_24 ?_
                refine lv_aload_n hx hb dX11_feed_27 rfl (lv_at hl 1 rfl) ?_
                refine va_get (D := (dC, dI)) (ci := 11) (v := .int (nI (((((T + 1) + 1) + 1) + 1) + 1))) (C := RX11) (T := TX11) (N := 35) hx hb hg inG11 hown hK.1 hP 0 rfl rfl 11 (by decide) (hg _ wt_889) (fun _ h9 => h9) rfl dX11_feed_28 ?_
                refine lv_lload_n hx hb dX11_feed_31 rfl (lv_at hl 2 rfl) ?_
                refine lv_iload_n hx hb dX11_feed_32 rfl (lv_at hl 0 rfl) ?_
                refine lv_lshr (v := _) hx hb dX11_feed_33 rfl ?_
                refine lv_topl (fun v19 ev19 => ?_)
                refine lv_l2i (v := _) hx hb dX11_feed_34 rfl ?_
                refine lv_topi (fun v20 ev20 => ?_)
                refine lv_sipush (v := 255) hx hb dX11_feed_35 (by decide) ?_
                refine lv_iand hx hb dX11_feed_38 ?_
                refine va_iast hx hb hK.1 hP hD hS 1 0 rfl rfl (vp_in_nI (by have t_n2 := n2; have t_c3 := nltI c3; have t_c6 := nltI c6; have t_c9 := nltI c9; have t_c12 := nltI c12; have t_c15 := nltI c15; have t_c18 := nltI c18; have : (0 : Int32).toInt = 0 := (by decide); have : (16 : Int32).toInt = 16 := (by decide); have : (24 : Int32).toInt = 24 := (by decide); have : (32 : Int32).toInt = 32 := (by decide); have : (40 : Int32).toInt = 40 := (by decide); have : (48 : Int32).toInt = 48 := (by decide); have : (56 : Int32).toInt = 56 := (by decide); have t_n0 : (nI N).toInt = (N : Int) := nI_toInt (by omega); have t_n1 : (nI B).toInt = (B : Int) := nI_toInt (by omega); have t_n2 : (nI T).toInt = (T : Int) := nI_toInt (by omega); have t_n3 : (nI S).toInt = (S : Int) := nI_toInt (by omega); have t_n4 : (nI M).toInt = (M : Int) := nI_toInt (by omega); omega) (by decide)) dX11_feed_39 (fun H locs hP hD hS => ?_)
                rw [nI_clamp (by omega)] at hP hD
                have hP : va_P (dC, dI) vwCl [(h0, .inr (11, [.ref st, .int (nI N), .int (nI B), .ref rp, .int vrs, .int vrb, .int vhs, .int vca, .int vxs, .int vxb, .ref tp, .int (nI (((((T + 1) + 1) + 1) + 1) + 1)), .int vfa, .int vbr, .int vba, .int vsp, .int vhe, .int vtk, .int vva, .ref cu, .ref lt, .ref od, .ref th, .ref be, .ref ln, .int (nI S), .ref ma, .int (nI M), .ref ah, .ref bh, .ref ik, .ref la, .ref lg, .ref ce, .int vto])), (tp, .inl (G 0, 320, .inl (upd (upd (upd (upd (upd (upd ftp T (v5 &&& 255)) (T + 1) (v8 &&& 255)) ((T + 1) + 1) (v11 &&& 255)) (((T + 1) + 1) + 1) (v14 &&& 255)) ((((T + 1) + 1) + 1) + 1) (v17 &&& 255)) (((((T + 1) + 1) + 1) + 1) + 1) (v20 &&& 255))))] H := hP
                have hD : va_D A [(h0, .inr (11, [.ref st, .int (nI N), .int (nI B), .ref rp, .int vrs, .int vrb, .int vhs, .int vca, .int vxs, .int vxb, .ref tp, .int (nI (((((T + 1) + 1) + 1) + 1) + 1)), .int vfa, .int vbr, .int vba, .int vsp, .int vhe, .int vtk, .int vva, .ref cu, .ref lt, .ref od, .ref th, .ref be, .ref ln, .int (nI S), .ref ma, .int (nI M), .ref ah, .ref bh, .ref ik, .ref la, .ref lg, .ref ce, .int vto])), (tp, .inl (G 0, 320, .inl (upd (upd (upd (upd (upd (upd ftp T (v5 &&& 255)) (T + 1) (v8 &&& 255)) ((T + 1) + 1) (v11 &&& 255)) (((T + 1) + 1) + 1) (v14 &&& 255)) ((((T + 1) + 1) + 1) + 1) (v17 &&& 255)) (((((T + 1) + 1) + 1) + 1) + 1) (v20 &&& 255))))] := hD
                refine lv_aload_n hx hb dX11_feed_40 rfl (lv_at hl 1 rfl) ?_
                refine lv_dup hx hb dX11_feed_41 rfl ?_
                refine va_get (D := (dC, dI)) (ci := 11) (v := .int (nI (((((T + 1) + 1) + 1) + 1) + 1))) (C := RX11) (T := TX11) (N := 35) hx hb hg inG11 hown hK.1 hP 0 rfl rfl 11 (by decide) (hg _ wt_889) (fun _ h9 => h9) rfl dX11_feed_42 ?_
                refine lv_iconst (v := 1) hx hb dX11_feed_45 (by decide) ?_
                refine lv_iadd hx hb dX11_feed_46 ?_
                refine lv_cg (y := nI ((((((T + 1) + 1) + 1) + 1) + 1) + 1)) (by rw [show (1 : Int32) = nI 1 from rfl]; exact nI_add _ _) ?_
                refine va_put (D := (dC, dI)) (ci := 11) (v := .int (nI ((((((T + 1) + 1) + 1) + 1) + 1) + 1))) (ty := .int) (C := RX11) (T := TX11) (N := 35) hx hb hg inG11 tyX11 tyX11_ok nmX11 hown hK.1 hP hD hS 0 rfl rfl 11 (by decide) (hg _ wt_889) (fun _ h9 => h9) rfl (by decide +kernel) rfl rfl (Nat.le_of_ble_eq_true rfl) dX11_feed_47 (fun H locs hP hD hS => ?_)
                have hP : va_P (dC, dI) vwCl [(h0, .inr (11, [.ref st, .int (nI N), .int (nI B), .ref rp, .int vrs, .int vrb, .int vhs, .int vca, .int vxs, .int vxb, .ref tp, .int (nI ((((((T + 1) + 1) + 1) + 1) + 1) + 1)), .int vfa, .int vbr, .int vba, .int vsp, .int vhe, .int vtk, .int vva, .ref cu, .ref lt, .ref od, .ref th, .ref be, .ref ln, .int (nI S), .ref ma, .int (nI M), .ref ah, .ref bh, .ref ik, .ref la, .ref lg, .ref ce, .int vto])), (tp, .inl (G 0, 320, .inl (upd (upd (upd (upd (upd (upd ftp T (v5 &&& 255)) (T + 1) (v8 &&& 255)) ((T + 1) + 1) (v11 &&& 255)) (((T + 1) + 1) + 1) (v14 &&& 255)) ((((T + 1) + 1) + 1) + 1) (v17 &&& 255)) (((((T + 1) + 1) + 1) + 1) + 1) (v20 &&& 255))))] H := hP
                have hD : va_D A [(h0, .inr (11, [.ref st, .int (nI N), .int (nI B), .ref rp, .int vrs, .int vrb, .int vhs, .int vca, .int vxs, .int vxb, .ref tp, .int (nI ((((((T + 1) + 1) + 1) + 1) + 1) + 1)), .int vfa, .int vbr, .int vba, .int vsp, .int vhe, .int vtk, .int vva, .ref cu, .ref lt, .ref od, .ref th, .ref be, .ref ln, .int (nI S), .ref ma, .int (nI M), .ref ah, .ref bh, .ref ik, .ref la, .ref lg, .ref ce, .int vto])), (tp, .inl (G 0, 320, .inl (upd (upd (upd (upd (upd (upd ftp T (v5 &&& 255)) (T + 1) (v8 &&& 255)) ((T + 1) + 1) (v11 &&& 255)) (((T + 1) + 1) + 1) (v14 &&& 255)) ((((T + 1) + 1) + 1) + 1) (v17 &&& 255)) (((((T + 1) + 1) + 1) + 1) + 1) (v20 &&& 255))))] := hD
                refine lv_iinc (v := 8) (lv' := [(3, .int 8), (0, .ref h0), (1, .long v)]) hx hb dX11_feed_50 hl (k := 0) rfl (by decide) (by decide) rfl (fun ls hl => ?_)
                refine lv_goto (tgt := 19) hx hb dX11_feed_53 (by decide) ?_
                refine lv_iload_n hx hb dX11_feed_19 rfl (lv_at hl 0 rfl) ?_
                refine lv_if_lt (tgt := 56) hx hb dX11_feed_20 (by decide) (fun c21 => ?_) (fun c21 => ?_)
                · skip
                  exact absurd c21 (by decide)
                · skip
                  refine lv_aload_n hx hb dX11_feed_23 rfl (lv_at hl 1 rfl) ?_
                  refine va_get (D := (dC, dI)) (ci := 11) (v := .ref tp) (C := RX11) (T := TX11) (N := 35) hx hb hg inG11 hown hK.1 hP 0 rfl rfl 10 (by decide) (hg _ wt_888) (fun _ h9 => h9) rfl dX11_feed_24 ?_
                  refine lv_aload_n hx hb dX11_feed_27 rfl (lv_at hl 1 rfl) ?_
                  refine va_get (D := (dC, dI)) (ci := 11) (v := .int (nI ((((((T + 1) + 1) + 1) + 1) + 1) + 1))) (C := RX11) (T := TX11) (N := 35) hx hb hg inG11 hown hK.1 hP 0 rfl rfl 11 (by decide) (hg _ wt_889) (fun _ h9 => h9) rfl dX11_feed_28 ?_
                  refine lv_lload_n hx hb dX11_feed_31 rfl (lv_at hl 2 rfl) ?_
                  refine lv_iload_n hx hb dX11_feed_32 rfl (lv_at hl 0 rfl) ?_
                  refine lv_lshr (v := _) hx hb dX11_feed_33 rfl ?_
                  refine lv_topl (fun v22 ev22 => ?_)
                  refine lv_l2i (v := _) hx hb dX11_feed_34 rfl ?_
                  refine lv_topi (fun v23 ev23 => ?_)
                  refine lv_sipush (v := 255) hx hb dX11_feed_35 (by decide) ?_
                  refine lv_iand hx hb dX11_feed_38 ?_
                  refine va_iast hx hb hK.1 hP hD hS 1 0 rfl rfl (vp_in_nI (by have t_n2 := n2; have t_c3 := nltI c3; have t_c6 := nltI c6; have t_c9 := nltI c9; have t_c12 := nltI c12; have t_c15 := nltI c15; have t_c18 := nltI c18; have t_c21 := nltI c21; have : (0 : Int32).toInt = 0 := (by decide); have : (8 : Int32).toInt = 8 := (by decide); have : (16 : Int32).toInt = 16 := (by decide); have : (24 : Int32).toInt = 24 := (by decide); have : (32 : Int32).toInt = 32 := (by decide); have : (40 : Int32).toInt = 40 := (by decide); have : (48 : Int32).toInt = 48 := (by decide); have : (56 : Int32).toInt = 56 := (by decide); have t_n0 : (nI N).toInt = (N : Int) := nI_toInt (by omega); have t_n1 : (nI B).toInt = (B : Int) := nI_toInt (by omega); have t_n2 : (nI T).toInt = (T : Int) := nI_toInt (by omega); have t_n3 : (nI S).toInt = (S : Int) := nI_toInt (by omega); have t_n4 : (nI M).toInt = (M : Int) := nI_toInt (by omega); omega) (by decide)) dX11_feed_39 (fun H locs hP hD hS => ?_)
                  rw [nI_clamp (by omega)] at hP hD
                  have hP : va_P (dC, dI) vwCl [(h0, .inr (11, [.ref st, .int (nI N), .int (nI B), .ref rp, .int vrs, .int vrb, .int vhs, .int vca, .int vxs, .int vxb, .ref tp, .int (nI ((((((T + 1) + 1) + 1) + 1) + 1) + 1)), .int vfa, .int vbr, .int vba, .int vsp, .int vhe, .int vtk, .int vva, .ref cu, .ref lt, .ref od, .ref th, .ref be, .ref ln, .int (nI S), .ref ma, .int (nI M), .ref ah, .ref bh, .ref ik, .ref la, .ref lg, .ref ce, .int vto])), (tp, .inl (G 0, 320, .inl (upd (upd (upd (upd (upd (upd (upd ftp T (v5 &&& 255)) (T + 1) (v8 &&& 255)) ((T + 1) + 1) (v11 &&& 255)) (((T + 1) + 1) + 1) (v14 &&& 255)) ((((T + 1) + 1) + 1) + 1) (v17 &&& 255)) (((((T + 1) + 1) + 1) + 1) + 1) (v20 &&& 255)) ((((((T + 1) + 1) + 1) + 1) + 1) + 1) (v23 &&& 255))))] H := hP
                  have hD : va_D A [(h0, .inr (11, [.ref st, .int (nI N), .int (nI B), .ref rp, .int vrs, .int vrb, .int vhs, .int vca, .int vxs, .int vxb, .ref tp, .int (nI ((((((T + 1) + 1) + 1) + 1) + 1) + 1)), .int vfa, .int vbr, .int vba, .int vsp, .int vhe, .int vtk, .int vva, .ref cu, .ref lt, .ref od, .ref th, .ref be, .ref ln, .int (nI S), .ref ma, .int (nI M), .ref ah, .ref bh, .ref ik, .ref la, .ref lg, .ref ce, .int vto])), (tp, .inl (G 0, 320, .inl (upd (upd (upd (upd (upd (upd (upd ftp T (v5 &&& 255)) (T + 1) (v8 &&& 255)) ((T + 1) + 1) (v11 &&& 255)) (((T + 1) + 1) + 1) (v14 &&& 255)) ((((T + 1) + 1) + 1) + 1) (v17 &&& 255)) (((((T + 1) + 1) + 1) + 1) + 1) (v20 &&& 255)) ((((((T + 1) + 1) + 1) + 1) + 1) + 1) (v23 &&& 255))))] := hD
                  refine lv_aload_n hx hb dX11_feed_40 rfl (lv_at hl 1 rfl) ?_
                  refine lv_dup hx hb dX11_feed_41 rfl ?_
                  refine va_get (D := (dC, dI)) (ci := 11) (v := .int (nI ((((((T + 1) + 1) + 1) + 1) + 1) + 1))) (C := RX11) (T := TX11) (N := 35) hx hb hg inG11 hown hK.1 hP 0 rfl rfl 11 (by decide) (hg _ wt_889) (fun _ h9 => h9) rfl dX11_feed_42 ?_
                  refine lv_iconst (v := 1) hx hb dX11_feed_45 (by decide) ?_
                  refine lv_iadd hx hb dX11_feed_46 ?_
                  refine lv_cg (y := nI (((((((T + 1) + 1) + 1) + 1) + 1) + 1) + 1)) (by rw [show (1 : Int32) = nI 1 from rfl]; exact nI_add _ _) ?_
                  refine va_put (D := (dC, dI)) (ci := 11) (v := .int (nI (((((((T + 1) + 1) + 1) + 1) + 1) + 1) + 1))) (ty := .int) (C := RX11) (T := TX11) (N := 35) hx hb hg inG11 tyX11 tyX11_ok nmX11 hown hK.1 hP hD hS 0 rfl rfl 11 (by decide) (hg _ wt_889) (fun _ h9 => h9) rfl (by decide +kernel) rfl rfl (Nat.le_of_ble_eq_true rfl) dX11_feed_47 (fun H locs hP hD hS => ?_)
                  have hP : va_P (dC, dI) vwCl [(h0, .inr (11, [.ref st, .int (nI N), .int (nI B), .ref rp, .int vrs, .int vrb, .int vhs, .int vca, .int vxs, .int vxb, .ref tp, .int (nI (((((((T + 1) + 1) + 1) + 1) + 1) + 1) + 1)), .int vfa, .int vbr, .int vba, .int vsp, .int vhe, .int vtk, .int vva, .ref cu, .ref lt, .ref od, .ref th, .ref be, .ref ln, .int (nI S), .ref ma, .int (nI M), .ref ah, .ref bh, .ref ik, .ref la, .ref lg, .ref ce, .int vto])), (tp, .inl (G 0, 320, .inl (upd (upd (upd (upd (upd (upd (upd ftp T (v5 &&& 255)) (T + 1) (v8 &&& 255)) ((T + 1) + 1) (v11 &&& 255)) (((T + 1) + 1) + 1) (v14 &&& 255)) ((((T + 1) + 1) + 1) + 1) (v17 &&& 255)) (((((T + 1) + 1) + 1) + 1) + 1) (v20 &&& 255)) ((((((T + 1) + 1) + 1) + 1) + 1) + 1) (v23 &&& 255))))] H := hP
                  have hD : va_D A [(h0, .inr (11, [.ref st, .int (nI N), .int (nI B), .ref rp, .int vrs, .int vrb, .int vhs, .int vca, .int vxs, .int vxb, .ref tp, .int (nI (((((((T + 1) + 1) + 1) + 1) + 1) + 1) + 1)), .int vfa, .int vbr, .int vba, .int vsp, .int vhe, .int vtk, .int vva, .ref cu, .ref lt, .ref od, .ref th, .ref be, .ref ln, .int (nI S), .ref ma, .int (nI M), .ref ah, .ref bh, .ref ik, .ref la, .ref lg, .ref ce, .int vto])), (tp, .inl (G 0, 320, .inl (upd (upd (upd (upd (upd (upd (upd ftp T (v5 &&& 255)) (T + 1) (v8 &&& 255)) ((T + 1) + 1) (v11 &&& 255)) (((T + 1) + 1) + 1) (v14 &&& 255)) ((((T + 1) + 1) + 1) + 1) (v17 &&& 255)) (((((T + 1) + 1) + 1) + 1) + 1) (v20 &&& 255)) ((((((T + 1) + 1) + 1) + 1) + 1) + 1) (v23 &&& 255))))] := hD
                  refine lv_iinc (v := 0) (lv' := [(3, .int 0), (0, .ref h0), (1, .long v)]) hx hb dX11_feed_50 hl (k := 0) rfl (by decide) (by decide) rfl (fun ls hl => ?_)
                  refine lv_goto (tgt := 19) hx hb dX11_feed_53 (by decide) ?_
                  refine lv_iload_n hx hb dX11_feed_19 rfl (lv_at hl 0 rfl) ?_
                  refine lv_if_lt (tgt := 56) hx hb dX11_feed_20 (by decide) (fun c24 => ?_) (fun c24 => ?_)
                  · skip
                    exact absurd c24 (by decide)
                  · skip
                    refine lv_aload_n hx hb dX11_feed_23 rfl (lv_at hl 1 rfl) ?_
                    refine va_get (D := (dC, dI)) (ci := 11) (v := .ref tp) (C := RX11) (T := TX11) (N := 35) hx hb hg inG11 hown hK.1 hP 0 rfl rfl 10 (by decide) (hg _ wt_888) (fun _ h9 => h9) rfl dX11_feed_24 ?_
                    refine lv_aload_n hx hb dX11_feed_27 rfl (lv_at hl 1 rfl) ?_
                    refine va_get (D := (dC, dI)) (ci := 11) (v := .int (nI (((((((T + 1) + 1) + 1) + 1) + 1) + 1) + 1))) (C := RX11) (T := TX11) (N := 35) hx hb hg inG11 hown hK.1 hP 0 rfl rfl 11 (by decide) (hg _ wt_889) (fun _ h9 => h9) rfl dX11_feed_28 ?_
                    refine lv_lload_n hx hb dX11_feed_31 rfl (lv_at hl 2 rfl) ?_
                    refine lv_iload_n hx hb dX11_feed_32 rfl (lv_at hl 0 rfl) ?_
                    refine lv_lshr (v := _) hx hb dX11_feed_33 rfl ?_
                    refine lv_topl (fun v25 ev25 => ?_)
                    refine lv_l2i (v := _) hx hb dX11_feed_34 rfl ?_
                    refine lv_topi (fun v26 ev26 => ?_)
                    refine lv_sipush (v := 255) hx hb dX11_feed_35 (by decide) ?_
                    refine lv_iand hx hb dX11_feed_38 ?_
                    refine va_iast hx hb hK.1 hP hD hS 1 0 rfl rfl (vp_in_nI (by have t_n2 := n2; have t_c3 := nltI c3; have t_c6 := nltI c6; have t_c9 := nltI c9; have t_c12 := nltI c12; have t_c15 := nltI c15; have t_c18 := nltI c18; have t_c21 := nltI c21; have t_c24 := nltI c24; have : (0 : Int32).toInt = 0 := (by decide); have : (8 : Int32).toInt = 8 := (by decide); have : (16 : Int32).toInt = 16 := (by decide); have : (24 : Int32).toInt = 24 := (by decide); have : (32 : Int32).toInt = 32 := (by decide); have : (40 : Int32).toInt = 40 := (by decide); have : (48 : Int32).toInt = 48 := (by decide); have : (56 : Int32).toInt = 56 := (by decide); have t_n0 : (nI N).toInt = (N : Int) := nI_toInt (by omega); have t_n1 : (nI B).toInt = (B : Int) := nI_toInt (by omega); have t_n2 : (nI T).toInt = (T : Int) := nI_toInt (by omega); have t_n3 : (nI S).toInt = (S : Int) := nI_toInt (by omega); have t_n4 : (nI M).toInt = (M : Int) := nI_toInt (by omega); omega) (by decide)) dX11_feed_39 (fun H locs hP hD hS => ?_)
                    rw [nI_clamp (by omega)] at hP hD
                    have hP : va_P (dC, dI) vwCl [(h0, .inr (11, [.ref st, .int (nI N), .int (nI B), .ref rp, .int vrs, .int vrb, .int vhs, .int vca, .int vxs, .int vxb, .ref tp, .int (nI (((((((T + 1) + 1) + 1) + 1) + 1) + 1) + 1)), .int vfa, .int vbr, .int vba, .int vsp, .int vhe, .int vtk, .int vva, .ref cu, .ref lt, .ref od, .ref th, .ref be, .ref ln, .int (nI S), .ref ma, .int (nI M), .ref ah, .ref bh, .ref ik, .ref la, .ref lg, .ref ce, .int vto])), (tp, .inl (G 0, 320, .inl (upd (upd (upd (upd (upd (upd (upd (upd ftp T (v5 &&& 255)) (T + 1) (v8 &&& 255)) ((T + 1) + 1) (v11 &&& 255)) (((T + 1) + 1) + 1) (v14 &&& 255)) ((((T + 1) + 1) + 1) + 1) (v17 &&& 255)) (((((T + 1) + 1) + 1) + 1) + 1) (v20 &&& 255)) ((((((T + 1) + 1) + 1) + 1) + 1) + 1) (v23 &&& 255)) (((((((T + 1) + 1) + 1) + 1) + 1) + 1) + 1) (v26 &&& 255))))] H := hP
                    have hD : va_D A [(h0, .inr (11, [.ref st, .int (nI N), .int (nI B), .ref rp, .int vrs, .int vrb, .int vhs, .int vca, .int vxs, .int vxb, .ref tp, .int (nI (((((((T + 1) + 1) + 1) + 1) + 1) + 1) + 1)), .int vfa, .int vbr, .int vba, .int vsp, .int vhe, .int vtk, .int vva, .ref cu, .ref lt, .ref od, .ref th, .ref be, .ref ln, .int (nI S), .ref ma, .int (nI M), .ref ah, .ref bh, .ref ik, .ref la, .ref lg, .ref ce, .int vto])), (tp, .inl (G 0, 320, .inl (upd (upd (upd (upd (upd (upd (upd (upd ftp T (v5 &&& 255)) (T + 1) (v8 &&& 255)) ((T + 1) + 1) (v11 &&& 255)) (((T + 1) + 1) + 1) (v14 &&& 255)) ((((T + 1) + 1) + 1) + 1) (v17 &&& 255)) (((((T + 1) + 1) + 1) + 1) + 1) (v20 &&& 255)) ((((((T + 1) + 1) + 1) + 1) + 1) + 1) (v23 &&& 255)) (((((((T + 1) + 1) + 1) + 1) + 1) + 1) + 1) (v26 &&& 255))))] := hD
                    refine lv_aload_n hx hb dX11_feed_40 rfl (lv_at hl 1 rfl) ?_
                    refine lv_dup hx hb dX11_feed_41 rfl ?_
                    refine va_get (D := (dC, dI)) (ci := 11) (v := .int (nI (((((((T + 1) + 1) + 1) + 1) + 1) + 1) + 1))) (C := RX11) (T := TX11) (N := 35) hx hb hg inG11 hown hK.1 hP 0 rfl rfl 11 (by decide) (hg _ wt_889) (fun _ h9 => h9) rfl dX11_feed_42 ?_
                    refine lv_iconst (v := 1) hx hb dX11_feed_45 (by decide) ?_
                    refine lv_iadd hx hb dX11_feed_46 ?_
                    refine lv_cg (y := nI ((((((((T + 1) + 1) + 1) + 1) + 1) + 1) + 1) + 1)) (by rw [show (1 : Int32) = nI 1 from rfl]; exact nI_add _ _) ?_
                    refine va_put (D := (dC, dI)) (ci := 11) (v := .int (nI ((((((((T + 1) + 1) + 1) + 1) + 1) + 1) + 1) + 1))) (ty := .int) (C := RX11) (T := TX11) (N := 35) hx hb hg inG11 tyX11 tyX11_ok nmX11 hown hK.1 hP hD hS 0 rfl rfl 11 (by decide) (hg _ wt_889) (fun _ h9 => h9) rfl (by decide +kernel) rfl rfl (Nat.le_of_ble_eq_true rfl) dX11_feed_47 (fun H locs hP hD hS => ?_)
                    have hP : va_P (dC, dI) vwCl [(h0, .inr (11, [.ref st, .int (nI N), .int (nI B), .ref rp, .int vrs, .int vrb, .int vhs, .int vca, .int vxs, .int vxb, .ref tp, .int (nI ((((((((T + 1) + 1) + 1) + 1) + 1) + 1) + 1) + 1)), .int vfa, .int vbr, .int vba, .int vsp, .int vhe, .int vtk, .int vva, .ref cu, .ref lt, .ref od, .ref th, .ref be, .ref ln, .int (nI S), .ref ma, .int (nI M), .ref ah, .ref bh, .ref ik, .ref la, .ref lg, .ref ce, .int vto])), (tp, .inl (G 0, 320, .inl (upd (upd (upd (upd (upd (upd (upd (upd ftp T (v5 &&& 255)) (T + 1) (v8 &&& 255)) ((T + 1) + 1) (v11 &&& 255)) (((T + 1) + 1) + 1) (v14 &&& 255)) ((((T + 1) + 1) + 1) + 1) (v17 &&& 255)) (((((T + 1) + 1) + 1) + 1) + 1) (v20 &&& 255)) ((((((T + 1) + 1) + 1) + 1) + 1) + 1) (v23 &&& 255)) (((((((T + 1) + 1) + 1) + 1) + 1) + 1) + 1) (v26 &&& 255))))] H := hP
                    have hD : va_D A [(h0, .inr (11, [.ref st, .int (nI N), .int (nI B), .ref rp, .int vrs, .int vrb, .int vhs, .int vca, .int vxs, .int vxb, .ref tp, .int (nI ((((((((T + 1) + 1) + 1) + 1) + 1) + 1) + 1) + 1)), .int vfa, .int vbr, .int vba, .int vsp, .int vhe, .int vtk, .int vva, .ref cu, .ref lt, .ref od, .ref th, .ref be, .ref ln, .int (nI S), .ref ma, .int (nI M), .ref ah, .ref bh, .ref ik, .ref la, .ref lg, .ref ce, .int vto])), (tp, .inl (G 0, 320, .inl (upd (upd (upd (upd (upd (upd (upd (upd ftp T (v5 &&& 255)) (T + 1) (v8 &&& 255)) ((T + 1) + 1) (v11 &&& 255)) (((T + 1) + 1) + 1) (v14 &&& 255)) ((((T + 1) + 1) + 1) + 1) (v17 &&& 255)) (((((T + 1) + 1) + 1) + 1) + 1) (v20 &&& 255)) ((((((T + 1) + 1) + 1) + 1) + 1) + 1) (v23 &&& 255)) (((((((T + 1) + 1) + 1) + 1) + 1) + 1) + 1) (v26 &&& 255))))] := hD
                    refine lv_iinc (v := (-8)) (lv' := [(3, .int (-8)), (0, .ref h0), (1, .long v)]) hx hb dX11_feed_50 hl (k := 0) rfl (by decide) (by decide) rfl (fun ls hl => ?_)
                    refine lv_goto (tgt := 19) hx hb dX11_feed_53 (by decide) ?_
                    refine lv_iload_n hx hb dX11_feed_19 rfl (lv_at hl 0 rfl) ?_
                    refine lv_if_lt (tgt := 56) hx hb dX11_feed_20 (by decide) (fun c27 => ?_) (fun c27 => ?_)
                    · skip
                      refine lv_aload_n hx hb dX11_feed_56 rfl (lv_at hl 1 rfl) ?_
                      refine va_get (D := (dC, dI)) (ci := 11) (v := .int (nI ((((((((T + 1) + 1) + 1) + 1) + 1) + 1) + 1) + 1))) (C := RX11) (T := TX11) (N := 35) hx hb hg inG11 hown hK.1 hP 0 rfl rfl 11 (by decide) (hg _ wt_889) (fun _ h9 => h9) rfl dX11_feed_57 ?_
                      have hpost : (nI ((((((((T + 1) + 1) + 1) + 1) + 1) + 1) + 1) + 1) : Int32) = if T + 8 ≤ 320 then nI (T + 8) else -3 := by
                        have t_n2 := n2
                        have t_c3 := nltI c3
                        have t_c6 := nltI c6
                        have t_c9 := nltI c9
                        have t_c12 := nltI c12
                        have t_c15 := nltI c15
                        have t_c18 := nltI c18
                        have t_c21 := nltI c21
                        have t_c24 := nltI c24
                        have t_c27 := ltI c27
                        have : ((-8) : Int32).toInt = -8 := (by decide)
                        have : (0 : Int32).toInt = 0 := (by decide)
                        have : (8 : Int32).toInt = 8 := (by decide)
                        have : (16 : Int32).toInt = 16 := (by decide)
                        have : (24 : Int32).toInt = 24 := (by decide)
                        have : (32 : Int32).toInt = 32 := (by decide)
                        have : (40 : Int32).toInt = 40 := (by decide)
                        have : (48 : Int32).toInt = 48 := (by decide)
                        have : (56 : Int32).toInt = 56 := (by decide)
                        have t_n0 : (nI N).toInt = (N : Int) := nI_toInt (by omega)
                        have t_n1 : (nI B).toInt = (B : Int) := nI_toInt (by omega)
                        have t_n2 : (nI T).toInt = (T : Int) := nI_toInt (by omega)
                        have t_n3 : (nI S).toInt = (S : Int) := nI_toInt (by omega)
                        have t_n4 : (nI M).toInt = (M : Int) := nI_toInt (by omega)
                        have t_n0 : (nI N).toInt = (N : Int) := nI_toInt (by omega)
                        have t_n1 : (nI B).toInt = (B : Int) := nI_toInt (by omega)
                        have t_n2 : (nI T).toInt = (T : Int) := nI_toInt (by omega)
                        have t_n3 : (nI S).toInt = (S : Int) := nI_toInt (by omega)
                        have t_n4 : (nI M).toInt = (M : Int) := nI_toInt (by omega)
                        first | rfl | ((repeat' split) <;> first | rfl | omega)
                      have hP9 := hP.sub (ws' := [(h0, .inr (11, [.ref st, .int (nI N), .int (nI B), .ref rp, .int vrs, .int vrb, .int vhs, .int vca, .int vxs, .int vxb, .ref tp, .int (nI ((((((((T + 1) + 1) + 1) + 1) + 1) + 1) + 1) + 1)), .int vfa, .int vbr, .int vba, .int vsp, .int vhe, .int vtk, .int vva, .ref cu, .ref lt, .ref od, .ref th, .ref be, .ref ln, .int (nI S), .ref ma, .int (nI M), .ref ah, .ref bh, .ref ik, .ref la, .ref lg, .ref ce, .int vto])), (tp, .inl (G 0, 320, .inl (upd (upd (upd (upd (upd (upd (upd (upd ftp T (v5 &&& 255)) (T + 1) (v8 &&& 255)) ((T + 1) + 1) (v11 &&& 255)) (((T + 1) + 1) + 1) (v14 &&& 255)) ((((T + 1) + 1) + 1) + 1) (v17 &&& 255)) (((((T + 1) + 1) + 1) + 1) + 1) (v20 &&& 255)) ((((((T + 1) + 1) + 1) + 1) + 1) + 1) (v23 &&& 255)) (((((((T + 1) + 1) + 1) + 1) + 1) + 1) + 1) (v26 &&& 255))))]) [0, 1] rfl
                      have hD9 := hD.sub (ws' := [(h0, .inr (11, [.ref st, .int (nI N), .int (nI B), .ref rp, .int vrs, .int vrb, .int vhs, .int vca, .int vxs, .int vxb, .ref tp, .int (nI ((((((((T + 1) + 1) + 1) + 1) + 1) + 1) + 1) + 1)), .int vfa, .int vbr, .int vba, .int vsp, .int vhe, .int vtk, .int vva, .ref cu, .ref lt, .ref od, .ref th, .ref be, .ref ln, .int (nI S), .ref ma, .int (nI M), .ref ah, .ref bh, .ref ik, .ref la, .ref lg, .ref ce, .int vto])), (tp, .inl (G 0, 320, .inl (upd (upd (upd (upd (upd (upd (upd (upd ftp T (v5 &&& 255)) (T + 1) (v8 &&& 255)) ((T + 1) + 1) (v11 &&& 255)) (((T + 1) + 1) + 1) (v14 &&& 255)) ((((T + 1) + 1) + 1) + 1) (v17 &&& 255)) (((((T + 1) + 1) + 1) + 1) + 1) (v20 &&& 255)) ((((((T + 1) + 1) + 1) + 1) + 1) + 1) (v23 &&& 255)) (((((((T + 1) + 1) + 1) + 1) + 1) + 1) + 1) (v26 &&& 255))))]) [0, 1] (by decide) rfl
                      refine W.widen (k := 0) (n := 0) (by omega) (by omega) ?_
                      exact W.iret (v := nI ((((((((T + 1) + 1) + 1) + 1) + 1) + 1) + 1) + 1)) hx hb hr (fun t ht hW => ⟨⟨nI ((((((((T + 1) + 1) + 1) + 1) + 1) + 1) + 1) + 1), (((((((((T + 1) + 1) + 1) + 1) + 1) + 1) + 1) + 1), (upd (upd (upd (upd (upd (upd (upd (upd ftp T (v5 &&& 255)) (T + 1) (v8 &&& 255)) ((T + 1) + 1) (v11 &&& 255)) (((T + 1) + 1) + 1) (v14 &&& 255)) ((((T + 1) + 1) + 1) + 1) (v17 &&& 255)) (((((T + 1) + 1) + 1) + 1) + 1) (v20 &&& 255)) ((((((T + 1) + 1) + 1) + 1) + 1) + 1) (v23 &&& 255)) (((((((T + 1) + 1) + 1) + 1) + 1) + 1) + 1) (v26 &&& 255))), rfl, ⟨hpost, (by have t_n2 := n2; have t_c3 := nltI c3; have t_c6 := nltI c6; have t_c9 := nltI c9; have t_c12 := nltI c12; have t_c15 := nltI c15; have t_c18 := nltI c18; have t_c21 := nltI c21; have t_c24 := nltI c24; have t_c27 := ltI c27; have : ((-8) : Int32).toInt = -8 := (by decide); have : (0 : Int32).toInt = 0 := (by decide); have : (8 : Int32).toInt = 8 := (by decide); have : (16 : Int32).toInt = 16 := (by decide); have : (24 : Int32).toInt = 24 := (by decide); have : (32 : Int32).toInt = 32 := (by decide); have : (40 : Int32).toInt = 40 := (by decide); have : (48 : Int32).toInt = 48 := (by decide); have : (56 : Int32).toInt = 56 := (by decide); have t_n0 : (nI N).toInt = (N : Int) := nI_toInt (by omega); have t_n1 : (nI B).toInt = (B : Int) := nI_toInt (by omega); have t_n2 : (nI T).toInt = (T : Int) := nI_toInt (by omega); have t_n3 : (nI S).toInt = (S : Int) := nI_toInt (by omega); have t_n4 : (nI M).toInt = (M : Int) := nI_toInt (by omega); refine ⟨⟨by split <;> omega, by omega⟩, ?_⟩; rw [if_pos (by omega), fdC_R]; (try rw [ev26]); (try rw [ev25]); (try rw [ev23]); (try rw [ev22]); (try rw [ev20]); (try rw [ev19]); (try rw [ev17]); (try rw [ev16]); (try rw [ev14]); (try rw [ev13]); (try rw [ev11]); (try rw [ev10]); (try rw [ev8]); (try rw [ev7]); (try rw [ev5]); (try rw [ev4]); rfl)⟩, ⟨by rw [ht]; exact hP9, hD9⟩⟩, hS.F ht⟩) hS.2.2 dX11_feed_60
                    · skip
                      exact absurd c27 (by decide)
  · skip
    have n28 : 320 < (T + 8) := by have t := nleI c1; rw [nI_toInt (n := (T + 8)) (by omega)] at t; have : (320 : Int32).toInt = 320 := (by decide); omega
    refine lv_bipush (v := (-3)) hx hb dX11_feed_13 (by decide) ?_
    have hpost : ((-3) : Int32) = if T + 8 ≤ 320 then nI (T + 8) else -3 := by
      have t_n28 := n28
      have t_n0 : (nI N).toInt = (N : Int) := nI_toInt (by omega)
      have t_n1 : (nI B).toInt = (B : Int) := nI_toInt (by omega)
      have t_n2 : (nI T).toInt = (T : Int) := nI_toInt (by omega)
      have t_n3 : (nI S).toInt = (S : Int) := nI_toInt (by omega)
      have t_n4 : (nI M).toInt = (M : Int) := nI_toInt (by omega)
      have t_n0 : (nI N).toInt = (N : Int) := nI_toInt (by omega)
      have t_n1 : (nI B).toInt = (B : Int) := nI_toInt (by omega)
      have t_n2 : (nI T).toInt = (T : Int) := nI_toInt (by omega)
      have t_n3 : (nI S).toInt = (S : Int) := nI_toInt (by omega)
      have t_n4 : (nI M).toInt = (M : Int) := nI_toInt (by omega)
      first | rfl | ((repeat' split) <;> first | rfl | omega)
    have hP9 := hP.sub (ws' := [(h0, .inr (11, [.ref st, .int (nI N), .int (nI B), .ref rp, .int vrs, .int vrb, .int vhs, .int vca, .int vxs, .int vxb, .ref tp, .int (nI T), .int vfa, .int vbr, .int vba, .int vsp, .int vhe, .int vtk, .int vva, .ref cu, .ref lt, .ref od, .ref th, .ref be, .ref ln, .int (nI S), .ref ma, .int (nI M), .ref ah, .ref bh, .ref ik, .ref la, .ref lg, .ref ce, .int vto])), (tp, .inl (G 0, 320, .inl ftp))]) [0, 1] rfl
    have hD9 := hD.sub (ws' := [(h0, .inr (11, [.ref st, .int (nI N), .int (nI B), .ref rp, .int vrs, .int vrb, .int vhs, .int vca, .int vxs, .int vxb, .ref tp, .int (nI T), .int vfa, .int vbr, .int vba, .int vsp, .int vhe, .int vtk, .int vva, .ref cu, .ref lt, .ref od, .ref th, .ref be, .ref ln, .int (nI S), .ref ma, .int (nI M), .ref ah, .ref bh, .ref ik, .ref la, .ref lg, .ref ce, .int vto])), (tp, .inl (G 0, 320, .inl ftp))]) [0, 1] (by decide) rfl
    refine W.widen (k := 0) (n := 0) (by omega) (by omega) ?_
    exact W.iret (v := (-3)) hx hb hr (fun t ht hW => ⟨⟨(-3), (T, ftp), rfl, ⟨hpost, (by have t_n28 := n28; have t_n0 : (nI N).toInt = (N : Int) := nI_toInt (by omega); have t_n1 : (nI B).toInt = (B : Int) := nI_toInt (by omega); have t_n2 : (nI T).toInt = (T : Int) := nI_toInt (by omega); have t_n3 : (nI S).toInt = (S : Int) := nI_toInt (by omega); have t_n4 : (nI M).toInt = (M : Int) := nI_toInt (by omega); refine ⟨⟨by split <;> omega, by omega⟩, ?_⟩; rw [if_neg (by omega)])⟩, ⟨by rw [ht]; exact hP9, hD9⟩⟩, hS.F ht⟩) hS.2.2 dX11_feed_15

set_option maxHeartbeats 1000000 in
set_option maxRecDepth 100000 in
theorem c_X11_faultE (l : Launch) (dC : Nat → ClassId) (dI : Nat → Nat → Nat) (G : Nat → ClassId) (sz : Nat) (h0 st N B rp tp T cu lt od th be ln S ma M ah bh ik la lg ce : Nat) (vrs vrb vhs vca vxs vxb vfa vbr vba vsp vhe vtk vva vto : Int32) (hN : N ≤ 10) (hB : B ≤ 6) (hT : T ≤ 320) (hS0 : S ≤ 8) (hM : M ≤ 6) : Met l yX11_fault (Cond.code yX11_fault cX11_fault 1 (some .int) :: GT) ({ frames := 0, cells := 0, slots := 0, locals := 0 } : Room) (PcR [.ref h0] dC dI G [(h0, .inr (11, [.ref st, .int (nI N), .int (nI B), .ref rp, .int vrs, .int vrb, .int vhs, .int vca, .int vxs, .int vxb, .ref tp, .int (nI T), .int vfa, .int vbr, .int vba, .int vsp, .int vhe, .int vtk, .int vva, .ref cu, .ref lt, .ref od, .ref th, .ref be, .ref ln, .int (nI S), .ref ma, .int (nI M), .ref ah, .ref bh, .ref ik, .ref la, .ref lg, .ref ce, .int vto]))] sz) (va_Qi (fun (r : Int32) (u : Unit) => match u with | _ => (r = vfa) ∧ True) (fun _ _ => True) (fun q : Nat => sz ≤ q)) 0 0 (fun q : Nat => sz ≤ q) := by
  refine Met.ofW (cc := cX11_fault) (maxL := 1) (ret := (some .int)) (by decide) rfl ?_
  intro p e s m args below meth c s₁ Bd hml hv
  obtain ⟨rfl, hsz, hP, hK⟩ := hv
  have hx := Bd.exec
  have hb := Bd.bytes
  have hr := Bd.returns
  have hg : ∀ w ∈ GT, w.before ([.ref h0] : List Value).toArray s = true := fun w h => atoms_spec (ws := Cond.code yX11_fault cX11_fault 1 (some .int) :: GT) Bd.pre w (List.mem_cons_of_mem _ h)
  have hown : s.vm.findClass RX11 = some m.cls := findClass_of_methodNamed Bd.named
  have hlocks := Bd.notSynchronized
  subst hsz
  have hA : ∀ q : Nat, s.heap.size ≤ q → (fun q : Nat => s.heap.size ≤ q) q := fun _ h => h
  have hS : va_S (fun q : Nat => s.heap.size ≤ q) s.heap s.heap [] := va_S.rf
  have hl := lv_entry ([.ref h0]) (n := 1) (Nat.le_of_ble_eq_true rfl)
  rw [lg_entry_eq]
  generalize (lg_sl ([.ref h0]) ++ List.replicate (1 - (lg_sl ([.ref h0])).length) Slot.unset).toArray = ls at hl ⊢
  have hl : lv_has ls 1 [(0, .ref h0)] := hl
  refine lv_aload_n hx hb dX11_fault_0 rfl (lv_at hl 0 rfl) ?_
  refine va_get (D := (dC, dI)) (ci := 11) (v := .int vfa) (C := RX11) (T := TX11) (N := 35) hx hb hg inG11 hown hK.1 hP 0 rfl rfl 12 (by decide) (hg _ wt_890) (fun _ h9 => h9) rfl dX11_fault_1 ?_
  have hpost : (vfa : Int32) = vfa := by
    rfl
  refine W.widen (k := 0) (n := 0) (by omega) (by omega) ?_
  exact W.iret (v := vfa) hx hb hr (fun t ht hW => ⟨⟨vfa, (), rfl, ⟨hpost, trivial⟩, trivial⟩, hS.F ht⟩) hS.2.2 dX11_fault_4

set_option maxHeartbeats 1000000 in
set_option maxRecDepth 100000 in
theorem c_X10_learnE (l : Launch) (dC : Nat → ClassId) (dI : Nat → Nat → Nat) (G : Nat → ClassId) (sz : Nat) (h0 rd wy tr im kp od ch cr le mk tl sh a1 a2 a3 a4 a5 a6 N B D l1 l2 l3 l4 S : Nat) (tf rf i g k hm : Int32) (z1 z2 z3 z4 : Nat → Int32) (hN_N : N ≤ 10) (hB_B : B ≤ 6) (hD_D : 1 ≤ D ∧ D ≤ 9) (hS0 : S ≤ 8) : Met l yX10_learn (Cond.code yX10_learn cX10_learn 5 (some .int) :: GT) ({ frames := 2, cells := 0, slots := 0, locals := 44 } : Room) (PcW [.ref h0, .int i, .int g, .int k, .int hm] dC dI G [(h0, .inr (10, [.ref rd, .ref wy, .ref tr, .ref im, .ref kp, .ref od, .ref ch, .ref cr, .ref le, .ref mk, .ref tl, .ref sh, .int tf, .int rf])), (wy, .inr (9, [.int (nI N), .int (nI B), .int (nI D), .ref a1, .ref a2, .ref a3, .ref a4, .ref a5, .ref a6])), (le, .inr (2, [.int (nI S), .ref l1, .ref l2, .ref l3, .ref l4])), (l1, .inl (G 0, 8, .inl z1)), (l2, .inl (G 0, 8, .inl z2)), (l3, .inl (G 0, 8, .inl z3)), (l4, .inl (G 0, 8, .inl z4))] sz) (va_Qi (fun (r : Int32) (u : Nat × (Nat → Int32) × (Nat → Int32) × (Nat → Int32) × (Nat → Int32)) => match u with | (u0, u1, u2, u3, u4) => (r = if ((0 ≤ i.toInt ∧ i.toInt < ((N : Nat) : Int)) ∧ (g.toInt = -4 ∨ (0 ≤ g.toInt ∧ g.toInt < ((B : Nat) : Int))) ∧ (0 ≤ k.toInt ∧ k.toInt < ((B : Nat) : Int)) ∧ 0 ≤ hm.toInt ∧ hm.toInt ≤ 20) then (if S < 8 then nI (S + 1) else -3) else -1) ∧ u0 = (if ((0 ≤ i.toInt ∧ i.toInt < ((N : Nat) : Int)) ∧ (g.toInt = -4 ∨ (0 ≤ g.toInt ∧ g.toInt < ((B : Nat) : Int))) ∧ (0 ≤ k.toInt ∧ k.toInt < ((B : Nat) : Int)) ∧ 0 ≤ hm.toInt ∧ hm.toInt ≤ 20) ∧ S < 8 then S + 1 else S) ∧ u0 ≤ 8) (fun (u : Nat × (Nat → Int32) × (Nat → Int32) × (Nat → Int32) × (Nat → Int32)) (t : State) => match u with | (u0, u1, u2, u3, u4) => va_P (dC, dI) vwCl [(h0, .inr (10, [.ref rd, .ref wy, .ref tr, .ref im, .ref kp, .ref od, .ref ch, .ref cr, .ref le, .ref mk, .ref tl, .ref sh, .int tf, .int rf])), (wy, .inr (9, [.int (nI N), .int (nI B), .int (nI D), .ref a1, .ref a2, .ref a3, .ref a4, .ref a5, .ref a6])), (le, .inr (2, [.int (nI u0), .ref l1, .ref l2, .ref l3, .ref l4])), (l1, .inl (G 0, 8, .inl u1)), (l2, .inl (G 0, 8, .inl u2)), (l3, .inl (G 0, 8, .inl u3)), (l4, .inl (G 0, 8, .inl u4))] t.heap ∧ va_D (va_A [(h0, .inr (10, [.ref rd, .ref wy, .ref tr, .ref im, .ref kp, .ref od, .ref ch, .ref cr, .ref le, .ref mk, .ref tl, .ref sh, .int tf, .int rf])), (wy, .inr (9, [.int (nI N), .int (nI B), .int (nI D), .ref a1, .ref a2, .ref a3, .ref a4, .ref a5, .ref a6])), (le, .inr (2, [.int (nI S), .ref l1, .ref l2, .ref l3, .ref l4])), (l1, .inl (G 0, 8, .inl z1)), (l2, .inl (G 0, 8, .inl z2)), (l3, .inl (G 0, 8, .inl z3)), (l4, .inl (G 0, 8, .inl z4))] sz) [(h0, .inr (10, [.ref rd, .ref wy, .ref tr, .ref im, .ref kp, .ref od, .ref ch, .ref cr, .ref le, .ref mk, .ref tl, .ref sh, .int tf, .int rf])), (wy, .inr (9, [.int (nI N), .int (nI B), .int (nI D), .ref a1, .ref a2, .ref a3, .ref a4, .ref a5, .ref a6])), (le, .inr (2, [.int (nI u0), .ref l1, .ref l2, .ref l3, .ref l4])), (l1, .inl (G 0, 8, .inl u1)), (l2, .inl (G 0, 8, .inl u2)), (l3, .inl (G 0, 8, .inl u3)), (l4, .inl (G 0, 8, .inl u4))]) (va_A [(h0, .inr (10, [.ref rd, .ref wy, .ref tr, .ref im, .ref kp, .ref od, .ref ch, .ref cr, .ref le, .ref mk, .ref tl, .ref sh, .int tf, .int rf])), (wy, .inr (9, [.int (nI N), .int (nI B), .int (nI D), .ref a1, .ref a2, .ref a3, .ref a4, .ref a5, .ref a6])), (le, .inr (2, [.int (nI S), .ref l1, .ref l2, .ref l3, .ref l4])), (l1, .inl (G 0, 8, .inl z1)), (l2, .inl (G 0, 8, .inl z2)), (l3, .inl (G 0, 8, .inl z3)), (l4, .inl (G 0, 8, .inl z4))] sz)) 0 0 (va_A [(h0, .inr (10, [.ref rd, .ref wy, .ref tr, .ref im, .ref kp, .ref od, .ref ch, .ref cr, .ref le, .ref mk, .ref tl, .ref sh, .int tf, .int rf])), (wy, .inr (9, [.int (nI N), .int (nI B), .int (nI D), .ref a1, .ref a2, .ref a3, .ref a4, .ref a5, .ref a6])), (le, .inr (2, [.int (nI S), .ref l1, .ref l2, .ref l3, .ref l4])), (l1, .inl (G 0, 8, .inl z1)), (l2, .inl (G 0, 8, .inl z2)), (l3, .inl (G 0, 8, .inl z3)), (l4, .inl (G 0, 8, .inl z4))] sz) := by
  refine Met.ofW (cc := cX10_learn) (maxL := 5) (ret := (some .int)) (by decide) rfl ?_
  intro p e s m args below meth c s₁ Bd hml hv
  obtain ⟨rfl, hsz, hP, hK, hD0⟩ := hv
  have hx := Bd.exec
  have hb := Bd.bytes
  have hr := Bd.returns
  have hg : ∀ w ∈ GT, w.before ([.ref h0, .int i, .int g, .int k, .int hm] : List Value).toArray s = true := fun w h => atoms_spec (ws := Cond.code yX10_learn cX10_learn 5 (some .int) :: GT) Bd.pre w (List.mem_cons_of_mem _ h)
  have hown : s.vm.findClass RX10 = some m.cls := findClass_of_methodNamed Bd.named
  have hlocks := Bd.notSynchronized
  subst hsz
  have hD := hD0.self (sz := s.heap.size)
  generalize hAe : va_A [(h0, .inr (10, [.ref rd, .ref wy, .ref tr, .ref im, .ref kp, .ref od, .ref ch, .ref cr, .ref le, .ref mk, .ref tl, .ref sh, .int tf, .int rf])), (wy, .inr (9, [.int (nI N), .int (nI B), .int (nI D), .ref a1, .ref a2, .ref a3, .ref a4, .ref a5, .ref a6])), (le, .inr (2, [.int (nI S), .ref l1, .ref l2, .ref l3, .ref l4])), (l1, .inl (G 0, 8, .inl z1)), (l2, .inl (G 0, 8, .inl z2)), (l3, .inl (G 0, 8, .inl z3)), (l4, .inl (G 0, 8, .inl z4))] s.heap.size = A at hD ⊢
  have hA : ∀ q : Nat, s.heap.size ≤ q → A q := fun q h => by rw [← hAe]; exact Or.inr h
  have hS : va_S A s.heap s.heap [] := va_S.rf
  have hl := lv_entry ([.ref h0, .int i, .int g, .int k, .int hm]) (n := 5) (Nat.le_of_ble_eq_true rfl)
  rw [lg_entry_eq]
  generalize (lg_sl ([.ref h0, .int i, .int g, .int k, .int hm]) ++ List.replicate (5 - (lg_sl ([.ref h0, .int i, .int g, .int k, .int hm])).length) Slot.unset).toArray = ls at hl ⊢
  have hl : lv_has ls 5 [(0, .ref h0), (1, .int i), (2, .int g), (3, .int k), (4, .int hm)] := hl
  refine lv_aload_n hx hb dX10_learn_0 rfl (lv_at hl 0 rfl) ?_
  refine va_get (D := (dC, dI)) (ci := 10) (v := .ref wy) (C := RX10) (T := TX10) (N := 14) hx hb hg inG10 hown hK.1 hP 0 rfl rfl 1 (by decide) (hg _ wt_303) (fun _ h9 => h9) rfl dX10_learn_1 ?_
  refine lv_iload_n hx hb dX10_learn_4 rfl (lv_at hl 1 rfl) ?_
  refine lv_iload_n hx hb dX10_learn_5 rfl (lv_at hl 2 rfl) ?_
  refine lv_iload_n hx hb dX10_learn_6 rfl (lv_at hl 3 rfl) ?_
  have hPc := hP.sub (ws' := [(wy, .inr (9, [.int (nI N), .int (nI B), .int (nI D), .ref a1, .ref a2, .ref a3, .ref a4, .ref a5, .ref a6]))]) [1] rfl
  refine va_calli (va_runVN (As := [.int i, .int g, .int k]) (rest := []) ⟨hx, hb, hml, hown, hg⟩ (c_X9_canHand l dC dI G _ wy a1 a2 a3 a4 a5 a6 N B D i g k (by have t_n0 : (nI N).toInt = (N : Int) := nI_toInt (by omega); have t_n1 : (nI B).toInt = (B : Int) := nI_toInt (by omega); have t_n2 : (nI D).toInt = (D : Int) := nI_toInt (by omega); have t_n3 : (nI S).toInt = (S : Int) := nI_toInt (by omega); omega) (by have t_n0 : (nI N).toInt = (N : Int) := nI_toInt (by omega); have t_n1 : (nI B).toInt = (B : Int) := nI_toInt (by omega); have t_n2 : (nI D).toInt = (D : Int) := nI_toInt (by omega); have t_n3 : (nI S).toInt = (S : Int) := nI_toInt (by omega); omega) (by have t_n0 : (nI N).toInt = (N : Int) := nI_toInt (by omega); have t_n1 : (nI B).toInt = (B : Int) := nI_toInt (by omega); have t_n2 : (nI D).toInt = (D : Int) := nI_toInt (by omega); have t_n3 : (nI S).toInt = (S : Int) := nI_toInt (by omega); omega)) (kwVN hg hK mfX9_canHand wn_570 ⟨Nat.le_of_ble_eq_true rfl, Nat.le_of_ble_eq_true rfl⟩) (preVR hK hPc (ci := 9) rfl rfl) rfl rfl hl.1 rfl (lv_room (Nat.le_of_ble_eq_true rfl)) dX10_learn_7 ⟨Nat.le_of_ble_eq_true rfl, Nat.le_of_ble_eq_true rfl⟩) hS (fun q h1 h2 => absurd h2 (Nat.not_le.mpr h1)) (fun q h => hA q (Nat.le_trans hS.1 h)) (fun r1 ur1 t H1 locs ht hvm w2 hB hz1 hk1 hS => ?_)
  have hP := keepR hP hk1
  obtain ⟨w2, w2x⟩ := w2
  try simp only [l_ii] at w2
  subst w2
  refine lv_if_eq (tgt := 25) hx hb dX10_learn_10 (by decide) (fun c3 => ?_) (fun c3 => ?_)
  · skip
    have b4 := if10_n c3
    refine lv_iconst (v := (-1)) hx hb dX10_learn_25 (by decide) ?_
    have hpost : ((-1) : Int32) = if ((0 ≤ i.toInt ∧ i.toInt < ((N : Nat) : Int)) ∧ (g.toInt = -4 ∨ (0 ≤ g.toInt ∧ g.toInt < ((B : Nat) : Int))) ∧ (0 ≤ k.toInt ∧ k.toInt < ((B : Nat) : Int)) ∧ 0 ≤ hm.toInt ∧ hm.toInt ≤ 20) then (if S < 8 then nI (S + 1) else -3) else -1 := by
      have t_b4 := b4
      have t_n0 : (nI N).toInt = (N : Int) := nI_toInt (by omega)
      have t_n1 : (nI B).toInt = (B : Int) := nI_toInt (by omega)
      have t_n2 : (nI D).toInt = (D : Int) := nI_toInt (by omega)
      have t_n3 : (nI S).toInt = (S : Int) := nI_toInt (by omega)
      have z0 : (0 : Int32).toInt = 0 := (by decide)
      have z1 : (1 : Int32).toInt = 1 := (by decide)
      have z2 : (2 : Int32).toInt = 2 := (by decide)
      have z3 : (3 : Int32).toInt = 3 := (by decide)
      have z5 : (5 : Int32).toInt = 5 := (by decide)
      have z9 : (9 : Int32).toInt = 9 := (by decide)
      have z20 : (20 : Int32).toInt = 20 := (by decide)
      have z4 : (-4 : Int32).toInt = -4 := (by decide)
      have z10 : (10 : Int32).toInt = 10 := (by decide)
      rw [if_neg (by omega)]
    have hP9 := hP.sub (ws' := [(h0, .inr (10, [.ref rd, .ref wy, .ref tr, .ref im, .ref kp, .ref od, .ref ch, .ref cr, .ref le, .ref mk, .ref tl, .ref sh, .int tf, .int rf])), (wy, .inr (9, [.int (nI N), .int (nI B), .int (nI D), .ref a1, .ref a2, .ref a3, .ref a4, .ref a5, .ref a6])), (le, .inr (2, [.int (nI S), .ref l1, .ref l2, .ref l3, .ref l4])), (l1, .inl (G 0, 8, .inl z1)), (l2, .inl (G 0, 8, .inl z2)), (l3, .inl (G 0, 8, .inl z3)), (l4, .inl (G 0, 8, .inl z4))]) [0, 1, 2, 3, 4, 5, 6] rfl
    have hD9 := hD.sub (ws' := [(h0, .inr (10, [.ref rd, .ref wy, .ref tr, .ref im, .ref kp, .ref od, .ref ch, .ref cr, .ref le, .ref mk, .ref tl, .ref sh, .int tf, .int rf])), (wy, .inr (9, [.int (nI N), .int (nI B), .int (nI D), .ref a1, .ref a2, .ref a3, .ref a4, .ref a5, .ref a6])), (le, .inr (2, [.int (nI S), .ref l1, .ref l2, .ref l3, .ref l4])), (l1, .inl (G 0, 8, .inl z1)), (l2, .inl (G 0, 8, .inl z2)), (l3, .inl (G 0, 8, .inl z3)), (l4, .inl (G 0, 8, .inl z4))]) [0, 1, 2, 3, 4, 5, 6] (by decide) rfl
    refine W.widen (k := 0) (n := 0) (by omega) (by omega) ?_
    exact W.iret (v := (-1)) hx hb hr (fun t ht hW => ⟨⟨(-1), (S, z1, z2, z3, z4), rfl, ⟨hpost, (by have t_b4 := b4; have t_n0 : (nI N).toInt = (N : Int) := nI_toInt (by omega); have t_n1 : (nI B).toInt = (B : Int) := nI_toInt (by omega); have t_n2 : (nI D).toInt = (D : Int) := nI_toInt (by omega); have t_n3 : (nI S).toInt = (S : Int) := nI_toInt (by omega); have z0 : (0 : Int32).toInt = 0 := (by decide); have z1 : (1 : Int32).toInt = 1 := (by decide); have z2 : (2 : Int32).toInt = 2 := (by decide); have z3 : (3 : Int32).toInt = 3 := (by decide); have z5 : (5 : Int32).toInt = 5 := (by decide); have z9 : (9 : Int32).toInt = 9 := (by decide); have z20 : (20 : Int32).toInt = 20 := (by decide); have z4 : (-4 : Int32).toInt = -4 := (by decide); have z10 : (10 : Int32).toInt = 10 := (by decide); refine ⟨?_, by omega⟩; rw [if_neg (by omega)])⟩, ⟨by rw [ht]; exact hP9, hD9⟩⟩, hS.F ht⟩) hS.2.2 dX10_learn_26
  · skip
    have b5 := if10_p c3
    refine lv_iload hx hb dX10_learn_13 (lv_at hl 4 rfl) ?_
    refine lv_if_lt (tgt := 25) hx hb dX10_learn_15 (by decide) (fun c6 => ?_) (fun c6 => ?_)
    · skip
      refine lv_iconst (v := (-1)) hx hb dX10_learn_25 (by decide) ?_
      have hpost : ((-1) : Int32) = if ((0 ≤ i.toInt ∧ i.toInt < ((N : Nat) : Int)) ∧ (g.toInt = -4 ∨ (0 ≤ g.toInt ∧ g.toInt < ((B : Nat) : Int))) ∧ (0 ≤ k.toInt ∧ k.toInt < ((B : Nat) : Int)) ∧ 0 ≤ hm.toInt ∧ hm.toInt ≤ 20) then (if S < 8 then nI (S + 1) else -3) else -1 := by
        have t_b5 := b5
        have t_c6 := ltI c6
        have : (0 : Int32).toInt = 0 := (by decide)
        have t_n0 : (nI N).toInt = (N : Int) := nI_toInt (by omega)
        have t_n1 : (nI B).toInt = (B : Int) := nI_toInt (by omega)
        have t_n2 : (nI D).toInt = (D : Int) := nI_toInt (by omega)
        have t_n3 : (nI S).toInt = (S : Int) := nI_toInt (by omega)
        have z0 : (0 : Int32).toInt = 0 := (by decide)
        have z1 : (1 : Int32).toInt = 1 := (by decide)
        have z2 : (2 : Int32).toInt = 2 := (by decide)
        have z3 : (3 : Int32).toInt = 3 := (by decide)
        have z5 : (5 : Int32).toInt = 5 := (by decide)
        have z9 : (9 : Int32).toInt = 9 := (by decide)
        have z20 : (20 : Int32).toInt = 20 := (by decide)
        have z4 : (-4 : Int32).toInt = -4 := (by decide)
        have z10 : (10 : Int32).toInt = 10 := (by decide)
        rw [if_neg (by omega)]
      have hP9 := hP.sub (ws' := [(h0, .inr (10, [.ref rd, .ref wy, .ref tr, .ref im, .ref kp, .ref od, .ref ch, .ref cr, .ref le, .ref mk, .ref tl, .ref sh, .int tf, .int rf])), (wy, .inr (9, [.int (nI N), .int (nI B), .int (nI D), .ref a1, .ref a2, .ref a3, .ref a4, .ref a5, .ref a6])), (le, .inr (2, [.int (nI S), .ref l1, .ref l2, .ref l3, .ref l4])), (l1, .inl (G 0, 8, .inl z1)), (l2, .inl (G 0, 8, .inl z2)), (l3, .inl (G 0, 8, .inl z3)), (l4, .inl (G 0, 8, .inl z4))]) [0, 1, 2, 3, 4, 5, 6] rfl
      have hD9 := hD.sub (ws' := [(h0, .inr (10, [.ref rd, .ref wy, .ref tr, .ref im, .ref kp, .ref od, .ref ch, .ref cr, .ref le, .ref mk, .ref tl, .ref sh, .int tf, .int rf])), (wy, .inr (9, [.int (nI N), .int (nI B), .int (nI D), .ref a1, .ref a2, .ref a3, .ref a4, .ref a5, .ref a6])), (le, .inr (2, [.int (nI S), .ref l1, .ref l2, .ref l3, .ref l4])), (l1, .inl (G 0, 8, .inl z1)), (l2, .inl (G 0, 8, .inl z2)), (l3, .inl (G 0, 8, .inl z3)), (l4, .inl (G 0, 8, .inl z4))]) [0, 1, 2, 3, 4, 5, 6] (by decide) rfl
      refine W.widen (k := 0) (n := 0) (by omega) (by omega) ?_
      exact W.iret (v := (-1)) hx hb hr (fun t ht hW => ⟨⟨(-1), (S, z1, z2, z3, z4), rfl, ⟨hpost, (by have t_b5 := b5; have t_c6 := ltI c6; have : (0 : Int32).toInt = 0 := (by decide); have t_n0 : (nI N).toInt = (N : Int) := nI_toInt (by omega); have t_n1 : (nI B).toInt = (B : Int) := nI_toInt (by omega); have t_n2 : (nI D).toInt = (D : Int) := nI_toInt (by omega); have t_n3 : (nI S).toInt = (S : Int) := nI_toInt (by omega); have z0 : (0 : Int32).toInt = 0 := (by decide); have z1 : (1 : Int32).toInt = 1 := (by decide); have z2 : (2 : Int32).toInt = 2 := (by decide); have z3 : (3 : Int32).toInt = 3 := (by decide); have z5 : (5 : Int32).toInt = 5 := (by decide); have z9 : (9 : Int32).toInt = 9 := (by decide); have z20 : (20 : Int32).toInt = 20 := (by decide); have z4 : (-4 : Int32).toInt = -4 := (by decide); have z10 : (10 : Int32).toInt = 10 := (by decide); refine ⟨?_, by omega⟩; rw [if_neg (by omega)])⟩, ⟨by rw [ht]; exact hP9, hD9⟩⟩, hS.F ht⟩) hS.2.2 dX10_learn_26
    · skip
      refine lv_iload hx hb dX10_learn_18 (lv_at hl 4 rfl) ?_
      refine lv_bipush (v := 20) hx hb dX10_learn_20 (by decide) ?_
      refine lv_icmp_le (tgt := 27) hx hb dX10_learn_22 (by decide) (fun c7 => ?_) (fun c7 => ?_)
      · skip
        refine lv_aload_n hx hb dX10_learn_27 rfl (lv_at hl 0 rfl) ?_
        refine va_get (D := (dC, dI)) (ci := 10) (v := .ref le) (C := RX10) (T := TX10) (N := 14) hx hb hg inG10 hown hK.1 hP 0 rfl rfl 8 (by decide) (hg _ wt_310) (fun _ h9 => h9) rfl dX10_learn_28 ?_
        refine lv_iload_n hx hb dX10_learn_31 rfl (lv_at hl 1 rfl) ?_
        refine lv_iload_n hx hb dX10_learn_32 rfl (lv_at hl 2 rfl) ?_
        refine lv_iload_n hx hb dX10_learn_33 rfl (lv_at hl 3 rfl) ?_
        refine lv_iload hx hb dX10_learn_34 (lv_at hl 4 rfl) ?_
        have hPc := hP.sub (ws' := [(le, .inr (2, [.int (nI S), .ref l1, .ref l2, .ref l3, .ref l4])), (l1, .inl (G 0, 8, .inl z1)), (l2, .inl (G 0, 8, .inl z2)), (l3, .inl (G 0, 8, .inl z3)), (l4, .inl (G 0, 8, .inl z4))]) [2, 3, 4, 5, 6] rfl
        have hDc := hD.sub (ws' := [(le, .inr (2, [.int (nI S), .ref l1, .ref l2, .ref l3, .ref l4])), (l1, .inl (G 0, 8, .inl z1)), (l2, .inl (G 0, 8, .inl z2)), (l3, .inl (G 0, 8, .inl z3)), (l4, .inl (G 0, 8, .inl z4))]) [2, 3, 4, 5, 6] (by decide) rfl
        have hFc := va_free (wc := [(le, .inr (2, [.int (nI S), .ref l1, .ref l2, .ref l3, .ref l4])), (l1, .inl (G 0, 8, .inl z1)), (l2, .inl (G 0, 8, .inl z2)), (l3, .inl (G 0, 8, .inl z3)), (l4, .inl (G 0, 8, .inl z4))]) hD hS hA [2, 3, 4, 5, 6] rfl
        refine va_calli (va_runVN (As := [.int i, .int g, .int k, .int hm]) (rest := []) ⟨hx, hb, hml, hown, hg⟩ (c_X2_add l dC dI G _ le l1 l2 l3 l4 S i g k hm z1 z2 z3 z4 (by have t_b5 := b5; have t_c6 := nltI c6; have t_c7 := leI c7; have : (0 : Int32).toInt = 0 := (by decide); have : (20 : Int32).toInt = 20 := (by decide); have t_n0 : (nI N).toInt = (N : Int) := nI_toInt (by omega); have t_n1 : (nI B).toInt = (B : Int) := nI_toInt (by omega); have t_n2 : (nI D).toInt = (D : Int) := nI_toInt (by omega); have t_n3 : (nI S).toInt = (S : Int) := nI_toInt (by omega); omega)) (kwVN hg hK mfX2_add wn_734 ⟨Nat.le_of_ble_eq_true rfl, Nat.le_of_ble_eq_true rfl⟩) (preVW hK hPc hDc (ci := 2) rfl rfl) rfl rfl hl.1 rfl (lv_room (Nat.le_of_ble_eq_true rfl)) dX10_learn_36 ⟨Nat.le_of_ble_eq_true rfl, Nat.le_of_ble_eq_true rfl⟩) hS (fun q _ h => hFc q h) hFc (fun r8 ur8 t H1 locs ht hvm w9 hB hz1 hk1 hS => ?_)
        obtain ⟨u10, u11, u12, u13, u14⟩ := ur8
        obtain ⟨hP1, hD1⟩ := hB
        rw [ht] at hP1
        obtain ⟨hP, hD⟩ := va_join (wr := [(h0, .inr (10, [.ref rd, .ref wy, .ref tr, .ref im, .ref kp, .ref od, .ref ch, .ref cr, .ref le, .ref mk, .ref tl, .ref sh, .int tf, .int rf])), (wy, .inr (9, [.int (nI N), .int (nI B), .int (nI D), .ref a1, .ref a2, .ref a3, .ref a4, .ref a5, .ref a6]))]) (w1 := [(le, .inr (2, [.int (nI u10), .ref l1, .ref l2, .ref l3, .ref l4])), (l1, .inl (G 0, 8, .inl u11)), (l2, .inl (G 0, 8, .inl u12)), (l3, .inl (G 0, 8, .inl u13)), (l4, .inl (G 0, 8, .inl u14))]) hP hD [2, 3, 4, 5, 6] [0, 1] rfl rfl (by decide) (by decide) hk1 hFc hP1 hD1
        generalize H1 = H at hP hS ⊢
        have hP : va_P (dC, dI) vwCl [(h0, .inr (10, [.ref rd, .ref wy, .ref tr, .ref im, .ref kp, .ref od, .ref ch, .ref cr, .ref le, .ref mk, .ref tl, .ref sh, .int tf, .int rf])), (wy, .inr (9, [.int (nI N), .int (nI B), .int (nI D), .ref a1, .ref a2, .ref a3, .ref a4, .ref a5, .ref a6])), (le, .inr (2, [.int (nI u10), .ref l1, .ref l2, .ref l3, .ref l4])), (l1, .inl (G 0, 8, .inl u11)), (l2, .inl (G 0, 8, .inl u12)), (l3, .inl (G 0, 8, .inl u13)), (l4, .inl (G 0, 8, .inl u14))] H := hP
        have hD : va_D A [(h0, .inr (10, [.ref rd, .ref wy, .ref tr, .ref im, .ref kp, .ref od, .ref ch, .ref cr, .ref le, .ref mk, .ref tl, .ref sh, .int tf, .int rf])), (wy, .inr (9, [.int (nI N), .int (nI B), .int (nI D), .ref a1, .ref a2, .ref a3, .ref a4, .ref a5, .ref a6])), (le, .inr (2, [.int (nI u10), .ref l1, .ref l2, .ref l3, .ref l4])), (l1, .inl (G 0, 8, .inl u11)), (l2, .inl (G 0, 8, .inl u12)), (l3, .inl (G 0, 8, .inl u13)), (l4, .inl (G 0, 8, .inl u14))] := hD
        obtain ⟨w9, w9x⟩ := w9
        refine lv_if_eq (tgt := 52) hx hb dX10_learn_39 (by decide) (fun c15 => ?_) (fun c15 => ?_)
        · skip
          refine lv_bipush (v := (-3)) hx hb dX10_learn_52 (by decide) ?_
          have hpost : ((-3) : Int32) = if ((0 ≤ i.toInt ∧ i.toInt < ((N : Nat) : Int)) ∧ (g.toInt = -4 ∨ (0 ≤ g.toInt ∧ g.toInt < ((B : Nat) : Int))) ∧ (0 ≤ k.toInt ∧ k.toInt < ((B : Nat) : Int)) ∧ 0 ≤ hm.toInt ∧ hm.toInt ≤ 20) then (if S < 8 then nI (S + 1) else -3) else -1 := by
            have t_b5 := b5
            have t_c6 := nltI c6
            have t_c7 := leI c7
            have t_c15 := eqI c15
            have : (0 : Int32).toInt = 0 := (by decide)
            have : (20 : Int32).toInt = 20 := (by decide)
            have t_n0 : (nI N).toInt = (N : Int) := nI_toInt (by omega)
            have t_n1 : (nI B).toInt = (B : Int) := nI_toInt (by omega)
            have t_n2 : (nI D).toInt = (D : Int) := nI_toInt (by omega)
            have t_n3 : (nI S).toInt = (S : Int) := nI_toInt (by omega)
            have z0 : (0 : Int32).toInt = 0 := (by decide)
            have z1 : (1 : Int32).toInt = 1 := (by decide)
            have z2 : (2 : Int32).toInt = 2 := (by decide)
            have z3 : (3 : Int32).toInt = 3 := (by decide)
            have z5 : (5 : Int32).toInt = 5 := (by decide)
            have z9 : (9 : Int32).toInt = 9 := (by decide)
            have z20 : (20 : Int32).toInt = 20 := (by decide)
            have z4 : (-4 : Int32).toInt = -4 := (by decide)
            have z10 : (10 : Int32).toInt = 10 := (by decide)
            rw [if_pos (by omega)]
            have q9 := w9
            have q7 := w9x
            by_cases h8 : S < 8
            · rw [if_pos h8] at q9 q7; rw [if_pos h8]; first | done | (rw [q7]; done) | (exfalso; exact absurd q9 (by assumption)) | (exfalso; simp_all; done)
            · rw [if_neg h8] at q9 q7; rw [if_neg h8]; first | done | rfl | (exfalso; exact absurd q9 (by assumption)) | (exfalso; simp_all; done)
          have hP9 := hP.sub (ws' := [(h0, .inr (10, [.ref rd, .ref wy, .ref tr, .ref im, .ref kp, .ref od, .ref ch, .ref cr, .ref le, .ref mk, .ref tl, .ref sh, .int tf, .int rf])), (wy, .inr (9, [.int (nI N), .int (nI B), .int (nI D), .ref a1, .ref a2, .ref a3, .ref a4, .ref a5, .ref a6])), (le, .inr (2, [.int (nI u10), .ref l1, .ref l2, .ref l3, .ref l4])), (l1, .inl (G 0, 8, .inl u11)), (l2, .inl (G 0, 8, .inl u12)), (l3, .inl (G 0, 8, .inl u13)), (l4, .inl (G 0, 8, .inl u14))]) [0, 1, 2, 3, 4, 5, 6] rfl
          have hD9 := hD.sub (ws' := [(h0, .inr (10, [.ref rd, .ref wy, .ref tr, .ref im, .ref kp, .ref od, .ref ch, .ref cr, .ref le, .ref mk, .ref tl, .ref sh, .int tf, .int rf])), (wy, .inr (9, [.int (nI N), .int (nI B), .int (nI D), .ref a1, .ref a2, .ref a3, .ref a4, .ref a5, .ref a6])), (le, .inr (2, [.int (nI u10), .ref l1, .ref l2, .ref l3, .ref l4])), (l1, .inl (G 0, 8, .inl u11)), (l2, .inl (G 0, 8, .inl u12)), (l3, .inl (G 0, 8, .inl u13)), (l4, .inl (G 0, 8, .inl u14))]) [0, 1, 2, 3, 4, 5, 6] (by decide) rfl
          refine W.widen (k := 0) (n := 0) (by omega) (by omega) ?_
          exact W.iret (v := (-3)) hx hb hr (fun t ht hW => ⟨⟨(-3), (u10, u11, u12, u13, u14), rfl, ⟨hpost, (by have t_b5 := b5; have t_c6 := nltI c6; have t_c7 := leI c7; have t_c15 := eqI c15; have : (0 : Int32).toInt = 0 := (by decide); have : (20 : Int32).toInt = 20 := (by decide); have t_n0 : (nI N).toInt = (N : Int) := nI_toInt (by omega); have t_n1 : (nI B).toInt = (B : Int) := nI_toInt (by omega); have t_n2 : (nI D).toInt = (D : Int) := nI_toInt (by omega); have t_n3 : (nI S).toInt = (S : Int) := nI_toInt (by omega); have z0 : (0 : Int32).toInt = 0 := (by decide); have z1 : (1 : Int32).toInt = 1 := (by decide); have z2 : (2 : Int32).toInt = 2 := (by decide); have z3 : (3 : Int32).toInt = 3 := (by decide); have z5 : (5 : Int32).toInt = 5 := (by decide); have z9 : (9 : Int32).toInt = 9 := (by decide); have z20 : (20 : Int32).toInt = 20 := (by decide); have z4 : (-4 : Int32).toInt = -4 := (by decide); have z10 : (10 : Int32).toInt = 10 := (by decide); have q7 := w9x; by_cases h8 : S < 8; (rw [if_pos h8] at q7; exact ⟨by rw [if_pos ⟨by omega, h8⟩]; exact q7, by omega⟩); (rw [if_neg h8] at q7; exact ⟨by rw [if_neg (fun h9 => h8 h9.2)]; exact q7, by omega⟩))⟩, ⟨by rw [ht]; exact hP9, hD9⟩⟩, hS.F ht⟩) hS.2.2 dX10_learn_54
        · skip
          refine lv_aload_n hx hb dX10_learn_42 rfl (lv_at hl 0 rfl) ?_
          refine va_get (D := (dC, dI)) (ci := 10) (v := .ref le) (C := RX10) (T := TX10) (N := 14) hx hb hg inG10 hown hK.1 hP 0 rfl rfl 8 (by decide) (hg _ wt_310) (fun _ h9 => h9) rfl dX10_learn_43 ?_
          refine va_getN (D := (dC, dI)) (ci := 2) (v := .int (nI u10)) (C := RX2) (T := TX2) (N := 5) hx hb hg inG2 hown hK.1 hP 2 rfl rfl 0 (by decide) (hK.nest wn_218) (fun _ h9 => h9) rfl dX10_learn_46 ?_
          refine lv_goto (tgt := 54) hx hb dX10_learn_49 (by decide) ?_
          have hpost : (nI u10 : Int32) = if ((0 ≤ i.toInt ∧ i.toInt < ((N : Nat) : Int)) ∧ (g.toInt = -4 ∨ (0 ≤ g.toInt ∧ g.toInt < ((B : Nat) : Int))) ∧ (0 ≤ k.toInt ∧ k.toInt < ((B : Nat) : Int)) ∧ 0 ≤ hm.toInt ∧ hm.toInt ≤ 20) then (if S < 8 then nI (S + 1) else -3) else -1 := by
            have t_b5 := b5
            have t_c6 := nltI c6
            have t_c7 := leI c7
            have t_c15 := neI c15
            have : (0 : Int32).toInt = 0 := (by decide)
            have : (20 : Int32).toInt = 20 := (by decide)
            have t_n0 : (nI N).toInt = (N : Int) := nI_toInt (by omega)
            have t_n1 : (nI B).toInt = (B : Int) := nI_toInt (by omega)
            have t_n2 : (nI D).toInt = (D : Int) := nI_toInt (by omega)
            have t_n3 : (nI S).toInt = (S : Int) := nI_toInt (by omega)
            have z0 : (0 : Int32).toInt = 0 := (by decide)
            have z1 : (1 : Int32).toInt = 1 := (by decide)
            have z2 : (2 : Int32).toInt = 2 := (by decide)
            have z3 : (3 : Int32).toInt = 3 := (by decide)
            have z5 : (5 : Int32).toInt = 5 := (by decide)
            have z9 : (9 : Int32).toInt = 9 := (by decide)
            have z20 : (20 : Int32).toInt = 20 := (by decide)
            have z4 : (-4 : Int32).toInt = -4 := (by decide)
            have z10 : (10 : Int32).toInt = 10 := (by decide)
            rw [if_pos (by omega)]
            have q9 := w9
            have q7 := w9x
            by_cases h8 : S < 8
            · rw [if_pos h8] at q9 q7; rw [if_pos h8]; first | done | (rw [q7]; done) | (exfalso; exact absurd q9 (by assumption)) | (exfalso; simp_all; done)
            · rw [if_neg h8] at q9 q7; rw [if_neg h8]; first | done | rfl | (exfalso; exact absurd q9 (by assumption)) | (exfalso; simp_all; done)
          have hP9 := hP.sub (ws' := [(h0, .inr (10, [.ref rd, .ref wy, .ref tr, .ref im, .ref kp, .ref od, .ref ch, .ref cr, .ref le, .ref mk, .ref tl, .ref sh, .int tf, .int rf])), (wy, .inr (9, [.int (nI N), .int (nI B), .int (nI D), .ref a1, .ref a2, .ref a3, .ref a4, .ref a5, .ref a6])), (le, .inr (2, [.int (nI u10), .ref l1, .ref l2, .ref l3, .ref l4])), (l1, .inl (G 0, 8, .inl u11)), (l2, .inl (G 0, 8, .inl u12)), (l3, .inl (G 0, 8, .inl u13)), (l4, .inl (G 0, 8, .inl u14))]) [0, 1, 2, 3, 4, 5, 6] rfl
          have hD9 := hD.sub (ws' := [(h0, .inr (10, [.ref rd, .ref wy, .ref tr, .ref im, .ref kp, .ref od, .ref ch, .ref cr, .ref le, .ref mk, .ref tl, .ref sh, .int tf, .int rf])), (wy, .inr (9, [.int (nI N), .int (nI B), .int (nI D), .ref a1, .ref a2, .ref a3, .ref a4, .ref a5, .ref a6])), (le, .inr (2, [.int (nI u10), .ref l1, .ref l2, .ref l3, .ref l4])), (l1, .inl (G 0, 8, .inl u11)), (l2, .inl (G 0, 8, .inl u12)), (l3, .inl (G 0, 8, .inl u13)), (l4, .inl (G 0, 8, .inl u14))]) [0, 1, 2, 3, 4, 5, 6] (by decide) rfl
          refine W.widen (k := 0) (n := 0) (by omega) (by omega) ?_
          exact W.iret (v := nI u10) hx hb hr (fun t ht hW => ⟨⟨nI u10, (u10, u11, u12, u13, u14), rfl, ⟨hpost, (by have t_b5 := b5; have t_c6 := nltI c6; have t_c7 := leI c7; have t_c15 := neI c15; have : (0 : Int32).toInt = 0 := (by decide); have : (20 : Int32).toInt = 20 := (by decide); have t_n0 : (nI N).toInt = (N : Int) := nI_toInt (by omega); have t_n1 : (nI B).toInt = (B : Int) := nI_toInt (by omega); have t_n2 : (nI D).toInt = (D : Int) := nI_toInt (by omega); have t_n3 : (nI S).toInt = (S : Int) := nI_toInt (by omega); have z0 : (0 : Int32).toInt = 0 := (by decide); have z1 : (1 : Int32).toInt = 1 := (by decide); have z2 : (2 : Int32).toInt = 2 := (by decide); have z3 : (3 : Int32).toInt = 3 := (by decide); have z5 : (5 : Int32).toInt = 5 := (by decide); have z9 : (9 : Int32).toInt = 9 := (by decide); have z20 : (20 : Int32).toInt = 20 := (by decide); have z4 : (-4 : Int32).toInt = -4 := (by decide); have z10 : (10 : Int32).toInt = 10 := (by decide); have q7 := w9x; by_cases h8 : S < 8; (rw [if_pos h8] at q7; exact ⟨by rw [if_pos ⟨by omega, h8⟩]; exact q7, by omega⟩); (rw [if_neg h8] at q7; exact ⟨by rw [if_neg (fun h9 => h8 h9.2)]; exact q7, by omega⟩))⟩, ⟨by rw [ht]; exact hP9, hD9⟩⟩, hS.F ht⟩) hS.2.2 dX10_learn_54
      · skip
        refine lv_iconst (v := (-1)) hx hb dX10_learn_25 (by decide) ?_
        have hpost : ((-1) : Int32) = if ((0 ≤ i.toInt ∧ i.toInt < ((N : Nat) : Int)) ∧ (g.toInt = -4 ∨ (0 ≤ g.toInt ∧ g.toInt < ((B : Nat) : Int))) ∧ (0 ≤ k.toInt ∧ k.toInt < ((B : Nat) : Int)) ∧ 0 ≤ hm.toInt ∧ hm.toInt ≤ 20) then (if S < 8 then nI (S + 1) else -3) else -1 := by
          have t_b5 := b5
          have t_c6 := nltI c6
          have t_c7 := nleI c7
          have : (0 : Int32).toInt = 0 := (by decide)
          have : (20 : Int32).toInt = 20 := (by decide)
          have t_n0 : (nI N).toInt = (N : Int) := nI_toInt (by omega)
          have t_n1 : (nI B).toInt = (B : Int) := nI_toInt (by omega)
          have t_n2 : (nI D).toInt = (D : Int) := nI_toInt (by omega)
          have t_n3 : (nI S).toInt = (S : Int) := nI_toInt (by omega)
          have z0 : (0 : Int32).toInt = 0 := (by decide)
          have z1 : (1 : Int32).toInt = 1 := (by decide)
          have z2 : (2 : Int32).toInt = 2 := (by decide)
          have z3 : (3 : Int32).toInt = 3 := (by decide)
          have z5 : (5 : Int32).toInt = 5 := (by decide)
          have z9 : (9 : Int32).toInt = 9 := (by decide)
          have z20 : (20 : Int32).toInt = 20 := (by decide)
          have z4 : (-4 : Int32).toInt = -4 := (by decide)
          have z10 : (10 : Int32).toInt = 10 := (by decide)
          rw [if_neg (by omega)]
        have hP9 := hP.sub (ws' := [(h0, .inr (10, [.ref rd, .ref wy, .ref tr, .ref im, .ref kp, .ref od, .ref ch, .ref cr, .ref le, .ref mk, .ref tl, .ref sh, .int tf, .int rf])), (wy, .inr (9, [.int (nI N), .int (nI B), .int (nI D), .ref a1, .ref a2, .ref a3, .ref a4, .ref a5, .ref a6])), (le, .inr (2, [.int (nI S), .ref l1, .ref l2, .ref l3, .ref l4])), (l1, .inl (G 0, 8, .inl z1)), (l2, .inl (G 0, 8, .inl z2)), (l3, .inl (G 0, 8, .inl z3)), (l4, .inl (G 0, 8, .inl z4))]) [0, 1, 2, 3, 4, 5, 6] rfl
        have hD9 := hD.sub (ws' := [(h0, .inr (10, [.ref rd, .ref wy, .ref tr, .ref im, .ref kp, .ref od, .ref ch, .ref cr, .ref le, .ref mk, .ref tl, .ref sh, .int tf, .int rf])), (wy, .inr (9, [.int (nI N), .int (nI B), .int (nI D), .ref a1, .ref a2, .ref a3, .ref a4, .ref a5, .ref a6])), (le, .inr (2, [.int (nI S), .ref l1, .ref l2, .ref l3, .ref l4])), (l1, .inl (G 0, 8, .inl z1)), (l2, .inl (G 0, 8, .inl z2)), (l3, .inl (G 0, 8, .inl z3)), (l4, .inl (G 0, 8, .inl z4))]) [0, 1, 2, 3, 4, 5, 6] (by decide) rfl
        refine W.widen (k := 0) (n := 0) (by omega) (by omega) ?_
        exact W.iret (v := (-1)) hx hb hr (fun t ht hW => ⟨⟨(-1), (S, z1, z2, z3, z4), rfl, ⟨hpost, (by have t_b5 := b5; have t_c6 := nltI c6; have t_c7 := nleI c7; have : (0 : Int32).toInt = 0 := (by decide); have : (20 : Int32).toInt = 20 := (by decide); have t_n0 : (nI N).toInt = (N : Int) := nI_toInt (by omega); have t_n1 : (nI B).toInt = (B : Int) := nI_toInt (by omega); have t_n2 : (nI D).toInt = (D : Int) := nI_toInt (by omega); have t_n3 : (nI S).toInt = (S : Int) := nI_toInt (by omega); have z0 : (0 : Int32).toInt = 0 := (by decide); have z1 : (1 : Int32).toInt = 1 := (by decide); have z2 : (2 : Int32).toInt = 2 := (by decide); have z3 : (3 : Int32).toInt = 3 := (by decide); have z5 : (5 : Int32).toInt = 5 := (by decide); have z9 : (9 : Int32).toInt = 9 := (by decide); have z20 : (20 : Int32).toInt = 20 := (by decide); have z4 : (-4 : Int32).toInt = -4 := (by decide); have z10 : (10 : Int32).toInt = 10 := (by decide); refine ⟨?_, by omega⟩; rw [if_neg (by omega)])⟩, ⟨by rw [ht]; exact hP9, hD9⟩⟩, hS.F ht⟩) hS.2.2 dX10_learn_26

set_option maxHeartbeats 1000000 in
set_option maxRecDepth 100000 in
theorem c_X10_forgetE (l : Launch) (dC : Nat → ClassId) (dI : Nat → Nat → Nat) (G : Nat → ClassId) (sz : Nat) (h0 rd wy tr im kp od ch cr le mk tl sh l1 l2 l3 l4 S : Nat) (tf rf n : Int32) (hS0 : S ≤ 8) : Met l yX10_forget (Cond.code yX10_forget cX10_forget 3 (some .int) :: GT) ({ frames := 0, cells := 0, slots := 0, locals := 0 } : Room) (PcW [.ref h0, .int n] dC dI G [(h0, .inr (10, [.ref rd, .ref wy, .ref tr, .ref im, .ref kp, .ref od, .ref ch, .ref cr, .ref le, .ref mk, .ref tl, .ref sh, .int tf, .int rf])), (le, .inr (2, [.int (nI S), .ref l1, .ref l2, .ref l3, .ref l4]))] sz) (va_Qi (fun (r : Int32) (u : Nat) => match u with | u1 => (r = if 0 ≤ n.toInt ∧ n.toInt ≤ ((S : Nat) : Int) then nI S else -1) ∧ u1 = (if 0 ≤ n.toInt ∧ n.toInt ≤ ((S : Nat) : Int) then n.toNatClampNeg else S) ∧ u1 ≤ 8) (fun (u : Nat) (t : State) => match u with | u1 => va_P (dC, dI) vwCl [(h0, .inr (10, [.ref rd, .ref wy, .ref tr, .ref im, .ref kp, .ref od, .ref ch, .ref cr, .ref le, .ref mk, .ref tl, .ref sh, .int tf, .int rf])), (le, .inr (2, [.int (nI u1), .ref l1, .ref l2, .ref l3, .ref l4]))] t.heap ∧ va_D (va_A [(h0, .inr (10, [.ref rd, .ref wy, .ref tr, .ref im, .ref kp, .ref od, .ref ch, .ref cr, .ref le, .ref mk, .ref tl, .ref sh, .int tf, .int rf])), (le, .inr (2, [.int (nI S), .ref l1, .ref l2, .ref l3, .ref l4]))] sz) [(h0, .inr (10, [.ref rd, .ref wy, .ref tr, .ref im, .ref kp, .ref od, .ref ch, .ref cr, .ref le, .ref mk, .ref tl, .ref sh, .int tf, .int rf])), (le, .inr (2, [.int (nI u1), .ref l1, .ref l2, .ref l3, .ref l4]))]) (va_A [(h0, .inr (10, [.ref rd, .ref wy, .ref tr, .ref im, .ref kp, .ref od, .ref ch, .ref cr, .ref le, .ref mk, .ref tl, .ref sh, .int tf, .int rf])), (le, .inr (2, [.int (nI S), .ref l1, .ref l2, .ref l3, .ref l4]))] sz)) 0 0 (va_A [(h0, .inr (10, [.ref rd, .ref wy, .ref tr, .ref im, .ref kp, .ref od, .ref ch, .ref cr, .ref le, .ref mk, .ref tl, .ref sh, .int tf, .int rf])), (le, .inr (2, [.int (nI S), .ref l1, .ref l2, .ref l3, .ref l4]))] sz) := by
  refine Met.ofW (cc := cX10_forget) (maxL := 3) (ret := (some .int)) (by decide) rfl ?_
  intro p e s m args below meth c s₁ Bd hml hv
  obtain ⟨rfl, hsz, hP, hK, hD0⟩ := hv
  have hx := Bd.exec
  have hb := Bd.bytes
  have hr := Bd.returns
  have hg : ∀ w ∈ GT, w.before ([.ref h0, .int n] : List Value).toArray s = true := fun w h => atoms_spec (ws := Cond.code yX10_forget cX10_forget 3 (some .int) :: GT) Bd.pre w (List.mem_cons_of_mem _ h)
  have hown : s.vm.findClass RX10 = some m.cls := findClass_of_methodNamed Bd.named
  have hlocks := Bd.notSynchronized
  subst hsz
  have hD := hD0.self (sz := s.heap.size)
  generalize hAe : va_A [(h0, .inr (10, [.ref rd, .ref wy, .ref tr, .ref im, .ref kp, .ref od, .ref ch, .ref cr, .ref le, .ref mk, .ref tl, .ref sh, .int tf, .int rf])), (le, .inr (2, [.int (nI S), .ref l1, .ref l2, .ref l3, .ref l4]))] s.heap.size = A at hD ⊢
  have hA : ∀ q : Nat, s.heap.size ≤ q → A q := fun q h => by rw [← hAe]; exact Or.inr h
  have hS : va_S A s.heap s.heap [] := va_S.rf
  have hl := lv_entry ([.ref h0, .int n]) (n := 3) (Nat.le_of_ble_eq_true rfl)
  rw [lg_entry_eq]
  generalize (lg_sl ([.ref h0, .int n]) ++ List.replicate (3 - (lg_sl ([.ref h0, .int n])).length) Slot.unset).toArray = ls at hl ⊢
  have hl : lv_has ls 3 [(0, .ref h0), (1, .int n)] := hl
  refine lv_iload_n hx hb dX10_forget_0 rfl (lv_at hl 1 rfl) ?_
  refine lv_if_lt (tgt := 15) hx hb dX10_forget_1 (by decide) (fun c1 => ?_) (fun c1 => ?_)
  · skip
    refine lv_iconst (v := (-1)) hx hb dX10_forget_15 (by decide) ?_
    have hpost : ((-1) : Int32) = if 0 ≤ n.toInt ∧ n.toInt ≤ ((S : Nat) : Int) then nI S else -1 := by
      have t_c1 := ltI c1
      have : (0 : Int32).toInt = 0 := (by decide)
      have t_n0 : (nI S).toInt = (S : Int) := nI_toInt (by omega)
      have t_n0 : (nI S).toInt = (S : Int) := nI_toInt (by omega)
      first | rfl | ((repeat' split) <;> first | rfl | omega)
    have hP9 := hP.sub (ws' := [(h0, .inr (10, [.ref rd, .ref wy, .ref tr, .ref im, .ref kp, .ref od, .ref ch, .ref cr, .ref le, .ref mk, .ref tl, .ref sh, .int tf, .int rf])), (le, .inr (2, [.int (nI S), .ref l1, .ref l2, .ref l3, .ref l4]))]) [0, 1] rfl
    have hD9 := hD.sub (ws' := [(h0, .inr (10, [.ref rd, .ref wy, .ref tr, .ref im, .ref kp, .ref od, .ref ch, .ref cr, .ref le, .ref mk, .ref tl, .ref sh, .int tf, .int rf])), (le, .inr (2, [.int (nI S), .ref l1, .ref l2, .ref l3, .ref l4]))]) [0, 1] (by decide) rfl
    refine W.widen (k := 0) (n := 0) (by omega) (by omega) ?_
    exact W.iret (v := (-1)) hx hb hr (fun t ht hW => ⟨⟨(-1), S, rfl, ⟨hpost, (by have t_c1 := ltI c1; have : (0 : Int32).toInt = 0 := (by decide); have t_n0 : (nI S).toInt = (S : Int) := nI_toInt (by omega); refine ⟨?_, by omega⟩; split <;> first | exact (nI_clamp (by omega)).symm | rfl | omega)⟩, ⟨by rw [ht]; exact hP9, hD9⟩⟩, hS.F ht⟩) hS.2.2 dX10_forget_16
  · skip
    refine lv_iload_n hx hb dX10_forget_4 rfl (lv_at hl 1 rfl) ?_
    refine lv_aload_n hx hb dX10_forget_5 rfl (lv_at hl 0 rfl) ?_
    refine va_get (D := (dC, dI)) (ci := 10) (v := .ref le) (C := RX10) (T := TX10) (N := 14) hx hb hg inG10 hown hK.1 hP 0 rfl rfl 8 (by decide) (hg _ wt_310) (fun _ h9 => h9) rfl dX10_forget_6 ?_
    refine va_getN (D := (dC, dI)) (ci := 2) (v := .int (nI S)) (C := RX2) (T := TX2) (N := 5) hx hb hg inG2 hown hK.1 hP 1 rfl rfl 0 (by decide) (hK.nest wn_218) (fun _ h9 => h9) rfl dX10_forget_9 ?_
    refine lv_icmp_le (tgt := 17) hx hb dX10_forget_12 (by decide) (fun c2 => ?_) (fun c2 => ?_)
    · skip
      obtain ⟨nn, hnn, rfl⟩ : ∃ j : Nat, j < 9 ∧ n = nI j := by
        have t_c1 := nltI c1
        have t_c2 := leI c2
        have : (0 : Int32).toInt = 0 := (by decide)
        have t_n0 : (nI S).toInt = (S : Int) := nI_toInt (by omega)
        exact i32_nat (by omega) (by omega)
      refine lv_aload_n hx hb dX10_forget_17 rfl (lv_at hl 0 rfl) ?_
      refine va_get (D := (dC, dI)) (ci := 10) (v := .ref le) (C := RX10) (T := TX10) (N := 14) hx hb hg inG10 hown hK.1 hP 0 rfl rfl 8 (by decide) (hg _ wt_310) (fun _ h9 => h9) rfl dX10_forget_18 ?_
      refine va_getN (D := (dC, dI)) (ci := 2) (v := .int (nI S)) (C := RX2) (T := TX2) (N := 5) hx hb hg inG2 hown hK.1 hP 1 rfl rfl 0 (by decide) (hK.nest wn_218) (fun _ h9 => h9) rfl dX10_forget_21 ?_
      refine lv_istore_n (lv' := [(2, .int (nI S)), (0, .ref h0), (1, .int (nI nn))]) hx hb dX10_forget_24 rfl hl (by decide) rfl (fun ls hl => ?_)
      refine lv_aload_n hx hb dX10_forget_25 rfl (lv_at hl 1 rfl) ?_
      refine va_get (D := (dC, dI)) (ci := 10) (v := .ref le) (C := RX10) (T := TX10) (N := 14) hx hb hg inG10 hown hK.1 hP 0 rfl rfl 8 (by decide) (hg _ wt_310) (fun _ h9 => h9) rfl dX10_forget_26 ?_
      refine lv_iload_n hx hb dX10_forget_29 rfl (lv_at hl 2 rfl) ?_
      refine va_putN (D := (dC, dI)) (ci := 2) (v := .int (nI nn)) (ty := .int) (C := RX2) (T := TX2) (N := 5) hx hb hg inG2 tyX2 tyX2_ok nmX2 hown hK.1 hP hD hS 1 rfl rfl 0 (by decide) (hK.nest wn_218) (fun _ h9 => h9) rfl (by decide +kernel) rfl rfl (Nat.le_of_ble_eq_true rfl) dX10_forget_30 (fun H locs hP hD hS => ?_)
      have hP : va_P (dC, dI) vwCl [(h0, .inr (10, [.ref rd, .ref wy, .ref tr, .ref im, .ref kp, .ref od, .ref ch, .ref cr, .ref le, .ref mk, .ref tl, .ref sh, .int tf, .int rf])), (le, .inr (2, [.int (nI nn), .ref l1, .ref l2, .ref l3, .ref l4]))] H := hP
      have hD : va_D A [(h0, .inr (10, [.ref rd, .ref wy, .ref tr, .ref im, .ref kp, .ref od, .ref ch, .ref cr, .ref le, .ref mk, .ref tl, .ref sh, .int tf, .int rf])), (le, .inr (2, [.int (nI nn), .ref l1, .ref l2, .ref l3, .ref l4]))] := hD
      refine lv_iload_n hx hb dX10_forget_33 rfl (lv_at hl 0 rfl) ?_
      have hpost : (nI S : Int32) = if 0 ≤ (nI nn).toInt ∧ (nI nn).toInt ≤ ((S : Nat) : Int) then nI S else -1 := by
        have t_c1 := nltI c1
        have t_c2 := leI c2
        have t_hnn := hnn
        have : (0 : Int32).toInt = 0 := (by decide)
        have t_n0 : (nI S).toInt = (S : Int) := nI_toInt (by omega)
        have t_n1 : (nI nn).toInt = (nn : Int) := nI_toInt (by omega)
        have t_n0 : (nI S).toInt = (S : Int) := nI_toInt (by omega)
        have t_n1 : (nI nn).toInt = (nn : Int) := nI_toInt (by omega)
        first | rfl | ((repeat' split) <;> first | rfl | omega)
      have hP9 := hP.sub (ws' := [(h0, .inr (10, [.ref rd, .ref wy, .ref tr, .ref im, .ref kp, .ref od, .ref ch, .ref cr, .ref le, .ref mk, .ref tl, .ref sh, .int tf, .int rf])), (le, .inr (2, [.int (nI nn), .ref l1, .ref l2, .ref l3, .ref l4]))]) [0, 1] rfl
      have hD9 := hD.sub (ws' := [(h0, .inr (10, [.ref rd, .ref wy, .ref tr, .ref im, .ref kp, .ref od, .ref ch, .ref cr, .ref le, .ref mk, .ref tl, .ref sh, .int tf, .int rf])), (le, .inr (2, [.int (nI nn), .ref l1, .ref l2, .ref l3, .ref l4]))]) [0, 1] (by decide) rfl
      refine W.widen (k := 0) (n := 0) (by omega) (by omega) ?_
      exact W.iret (v := nI S) hx hb hr (fun t ht hW => ⟨⟨nI S, nn, rfl, ⟨hpost, (by have t_c1 := nltI c1; have t_c2 := leI c2; have t_hnn := hnn; have : (0 : Int32).toInt = 0 := (by decide); have t_n0 : (nI S).toInt = (S : Int) := nI_toInt (by omega); have t_n1 : (nI nn).toInt = (nn : Int) := nI_toInt (by omega); refine ⟨?_, by omega⟩; split <;> first | exact (nI_clamp (by omega)).symm | rfl | omega)⟩, ⟨by rw [ht]; exact hP9, hD9⟩⟩, hS.F ht⟩) hS.2.2 dX10_forget_34
    · skip
      refine lv_iconst (v := (-1)) hx hb dX10_forget_15 (by decide) ?_
      have hpost : ((-1) : Int32) = if 0 ≤ n.toInt ∧ n.toInt ≤ ((S : Nat) : Int) then nI S else -1 := by
        have t_c1 := nltI c1
        have t_c2 := nleI c2
        have : (0 : Int32).toInt = 0 := (by decide)
        have t_n0 : (nI S).toInt = (S : Int) := nI_toInt (by omega)
        have t_n0 : (nI S).toInt = (S : Int) := nI_toInt (by omega)
        first | rfl | ((repeat' split) <;> first | rfl | omega)
      have hP9 := hP.sub (ws' := [(h0, .inr (10, [.ref rd, .ref wy, .ref tr, .ref im, .ref kp, .ref od, .ref ch, .ref cr, .ref le, .ref mk, .ref tl, .ref sh, .int tf, .int rf])), (le, .inr (2, [.int (nI S), .ref l1, .ref l2, .ref l3, .ref l4]))]) [0, 1] rfl
      have hD9 := hD.sub (ws' := [(h0, .inr (10, [.ref rd, .ref wy, .ref tr, .ref im, .ref kp, .ref od, .ref ch, .ref cr, .ref le, .ref mk, .ref tl, .ref sh, .int tf, .int rf])), (le, .inr (2, [.int (nI S), .ref l1, .ref l2, .ref l3, .ref l4]))]) [0, 1] (by decide) rfl
      refine W.widen (k := 0) (n := 0) (by omega) (by omega) ?_
      exact W.iret (v := (-1)) hx hb hr (fun t ht hW => ⟨⟨(-1), S, rfl, ⟨hpost, (by have t_c1 := nltI c1; have t_c2 := nleI c2; have : (0 : Int32).toInt = 0 := (by decide); have t_n0 : (nI S).toInt = (S : Int) := nI_toInt (by omega); refine ⟨?_, by omega⟩; split <;> first | exact (nI_clamp (by omega)).symm | rfl | omega)⟩, ⟨by rw [ht]; exact hP9, hD9⟩⟩, hS.F ht⟩) hS.2.2 dX10_forget_16

set_option maxHeartbeats 1000000 in
set_option maxRecDepth 100000 in
theorem c_X10_markE (l : Launch) (dC : Nat → ClassId) (dI : Nat → Nat → Nat) (G : Nat → ClassId) (sz : Nat) (h0 rd wy tr im kp od ch cr le mk tl sh a1 a2 a3 a4 a5 a6 N B D m1 m2 S : Nat) (tf rf i d : Int32) (z1 z2 : Nat → Int32) (hN_N : N ≤ 10) (hB_B : B ≤ 6) (hD_D : 1 ≤ D ∧ D ≤ 9) (hS0 : S ≤ 6) : Met l yX10_mark (Cond.code yX10_mark cX10_mark 3 (some .int) :: GT) ({ frames := 1, cells := 0, slots := 0, locals := 22 } : Room) (PcW [.ref h0, .int i, .int d] dC dI G [(h0, .inr (10, [.ref rd, .ref wy, .ref tr, .ref im, .ref kp, .ref od, .ref ch, .ref cr, .ref le, .ref mk, .ref tl, .ref sh, .int tf, .int rf])), (wy, .inr (9, [.int (nI N), .int (nI B), .int (nI D), .ref a1, .ref a2, .ref a3, .ref a4, .ref a5, .ref a6])), (mk, .inr (3, [.int (nI S), .ref m1, .ref m2])), (m1, .inl (G 0, 6, .inl z1)), (m2, .inl (G 0, 6, .inl z2))] sz) (va_Qi (fun (r : Int32) (u : Nat × (Nat → Int32) × (Nat → Int32)) => match u with | (u0, u1, u2) => (r = if ((0 ≤ i.toInt ∧ i.toInt < ((N : Nat) : Int)) ∧ 0 ≤ d.toInt ∧ d.toInt ≤ 9) then (if S < 6 then nI (S + 1) else -3) else -1) ∧ u0 = (if ((0 ≤ i.toInt ∧ i.toInt < ((N : Nat) : Int)) ∧ 0 ≤ d.toInt ∧ d.toInt ≤ 9) ∧ S < 6 then S + 1 else S) ∧ u0 ≤ 6) (fun (u : Nat × (Nat → Int32) × (Nat → Int32)) (t : State) => match u with | (u0, u1, u2) => va_P (dC, dI) vwCl [(h0, .inr (10, [.ref rd, .ref wy, .ref tr, .ref im, .ref kp, .ref od, .ref ch, .ref cr, .ref le, .ref mk, .ref tl, .ref sh, .int tf, .int rf])), (wy, .inr (9, [.int (nI N), .int (nI B), .int (nI D), .ref a1, .ref a2, .ref a3, .ref a4, .ref a5, .ref a6])), (mk, .inr (3, [.int (nI u0), .ref m1, .ref m2])), (m1, .inl (G 0, 6, .inl u1)), (m2, .inl (G 0, 6, .inl u2))] t.heap ∧ va_D (va_A [(h0, .inr (10, [.ref rd, .ref wy, .ref tr, .ref im, .ref kp, .ref od, .ref ch, .ref cr, .ref le, .ref mk, .ref tl, .ref sh, .int tf, .int rf])), (wy, .inr (9, [.int (nI N), .int (nI B), .int (nI D), .ref a1, .ref a2, .ref a3, .ref a4, .ref a5, .ref a6])), (mk, .inr (3, [.int (nI S), .ref m1, .ref m2])), (m1, .inl (G 0, 6, .inl z1)), (m2, .inl (G 0, 6, .inl z2))] sz) [(h0, .inr (10, [.ref rd, .ref wy, .ref tr, .ref im, .ref kp, .ref od, .ref ch, .ref cr, .ref le, .ref mk, .ref tl, .ref sh, .int tf, .int rf])), (wy, .inr (9, [.int (nI N), .int (nI B), .int (nI D), .ref a1, .ref a2, .ref a3, .ref a4, .ref a5, .ref a6])), (mk, .inr (3, [.int (nI u0), .ref m1, .ref m2])), (m1, .inl (G 0, 6, .inl u1)), (m2, .inl (G 0, 6, .inl u2))]) (va_A [(h0, .inr (10, [.ref rd, .ref wy, .ref tr, .ref im, .ref kp, .ref od, .ref ch, .ref cr, .ref le, .ref mk, .ref tl, .ref sh, .int tf, .int rf])), (wy, .inr (9, [.int (nI N), .int (nI B), .int (nI D), .ref a1, .ref a2, .ref a3, .ref a4, .ref a5, .ref a6])), (mk, .inr (3, [.int (nI S), .ref m1, .ref m2])), (m1, .inl (G 0, 6, .inl z1)), (m2, .inl (G 0, 6, .inl z2))] sz)) 0 0 (va_A [(h0, .inr (10, [.ref rd, .ref wy, .ref tr, .ref im, .ref kp, .ref od, .ref ch, .ref cr, .ref le, .ref mk, .ref tl, .ref sh, .int tf, .int rf])), (wy, .inr (9, [.int (nI N), .int (nI B), .int (nI D), .ref a1, .ref a2, .ref a3, .ref a4, .ref a5, .ref a6])), (mk, .inr (3, [.int (nI S), .ref m1, .ref m2])), (m1, .inl (G 0, 6, .inl z1)), (m2, .inl (G 0, 6, .inl z2))] sz) := by
  refine Met.ofW (cc := cX10_mark) (maxL := 3) (ret := (some .int)) (by decide) rfl ?_
  intro p e s m args below meth c s₁ Bd hml hv
  obtain ⟨rfl, hsz, hP, hK, hD0⟩ := hv
  have hx := Bd.exec
  have hb := Bd.bytes
  have hr := Bd.returns
  have hg : ∀ w ∈ GT, w.before ([.ref h0, .int i, .int d] : List Value).toArray s = true := fun w h => atoms_spec (ws := Cond.code yX10_mark cX10_mark 3 (some .int) :: GT) Bd.pre w (List.mem_cons_of_mem _ h)
  have hown : s.vm.findClass RX10 = some m.cls := findClass_of_methodNamed Bd.named
  have hlocks := Bd.notSynchronized
  subst hsz
  have hD := hD0.self (sz := s.heap.size)
  generalize hAe : va_A [(h0, .inr (10, [.ref rd, .ref wy, .ref tr, .ref im, .ref kp, .ref od, .ref ch, .ref cr, .ref le, .ref mk, .ref tl, .ref sh, .int tf, .int rf])), (wy, .inr (9, [.int (nI N), .int (nI B), .int (nI D), .ref a1, .ref a2, .ref a3, .ref a4, .ref a5, .ref a6])), (mk, .inr (3, [.int (nI S), .ref m1, .ref m2])), (m1, .inl (G 0, 6, .inl z1)), (m2, .inl (G 0, 6, .inl z2))] s.heap.size = A at hD ⊢
  have hA : ∀ q : Nat, s.heap.size ≤ q → A q := fun q h => by rw [← hAe]; exact Or.inr h
  have hS : va_S A s.heap s.heap [] := va_S.rf
  have hl := lv_entry ([.ref h0, .int i, .int d]) (n := 3) (Nat.le_of_ble_eq_true rfl)
  rw [lg_entry_eq]
  generalize (lg_sl ([.ref h0, .int i, .int d]) ++ List.replicate (3 - (lg_sl ([.ref h0, .int i, .int d])).length) Slot.unset).toArray = ls at hl ⊢
  have hl : lv_has ls 3 [(0, .ref h0), (1, .int i), (2, .int d)] := hl
  refine lv_aload_n hx hb dX10_mark_0 rfl (lv_at hl 0 rfl) ?_
  refine va_get (D := (dC, dI)) (ci := 10) (v := .ref wy) (C := RX10) (T := TX10) (N := 14) hx hb hg inG10 hown hK.1 hP 0 rfl rfl 1 (by decide) (hg _ wt_303) (fun _ h9 => h9) rfl dX10_mark_1 ?_
  refine lv_iload_n hx hb dX10_mark_4 rfl (lv_at hl 1 rfl) ?_
  have hPc := hP.sub (ws' := [(wy, .inr (9, [.int (nI N), .int (nI B), .int (nI D), .ref a1, .ref a2, .ref a3, .ref a4, .ref a5, .ref a6]))]) [1] rfl
  refine va_calli (va_runVN (As := [.int i]) (rest := []) ⟨hx, hb, hml, hown, hg⟩ (c_X9_hasStretch l dC dI G _ wy a1 a2 a3 a4 a5 a6 N B D i (by have t_n0 : (nI N).toInt = (N : Int) := nI_toInt (by omega); have t_n1 : (nI B).toInt = (B : Int) := nI_toInt (by omega); have t_n2 : (nI D).toInt = (D : Int) := nI_toInt (by omega); have t_n3 : (nI S).toInt = (S : Int) := nI_toInt (by omega); omega) (by have t_n0 : (nI N).toInt = (N : Int) := nI_toInt (by omega); have t_n1 : (nI B).toInt = (B : Int) := nI_toInt (by omega); have t_n2 : (nI D).toInt = (D : Int) := nI_toInt (by omega); have t_n3 : (nI S).toInt = (S : Int) := nI_toInt (by omega); omega) (by have t_n0 : (nI N).toInt = (N : Int) := nI_toInt (by omega); have t_n1 : (nI B).toInt = (B : Int) := nI_toInt (by omega); have t_n2 : (nI D).toInt = (D : Int) := nI_toInt (by omega); have t_n3 : (nI S).toInt = (S : Int) := nI_toInt (by omega); omega)) (kwVN hg hK mfX9_hasStretch wn_527 ⟨Nat.le_of_ble_eq_true rfl, Nat.le_of_ble_eq_true rfl⟩) (preVR hK hPc (ci := 9) rfl rfl) rfl rfl hl.1 rfl (lv_room (Nat.le_of_ble_eq_true rfl)) dX10_mark_5 ⟨Nat.le_of_ble_eq_true rfl, Nat.le_of_ble_eq_true rfl⟩) hS (fun q h1 h2 => absurd h2 (Nat.not_le.mpr h1)) (fun q h => hA q (Nat.le_trans hS.1 h)) (fun r1 ur1 t H1 locs ht hvm w2 hB hz1 hk1 hS => ?_)
  have hP := keepR hP hk1
  obtain ⟨w2, w2x⟩ := w2
  try simp only [l_ii, show (0 : Int32).toInt = 0 from by decide] at w2
  try rw [nI_toInt (n := N) (by omega)] at w2
  subst w2
  refine lv_if_eq (tgt := 18) hx hb dX10_mark_8 (by decide) (fun c3 => ?_) (fun c3 => ?_)
  · skip
    have b4 := if10_n c3
    refine lv_iconst (v := (-1)) hx hb dX10_mark_18 (by decide) ?_
    have hpost : ((-1) : Int32) = if ((0 ≤ i.toInt ∧ i.toInt < ((N : Nat) : Int)) ∧ 0 ≤ d.toInt ∧ d.toInt ≤ 9) then (if S < 6 then nI (S + 1) else -3) else -1 := by
      have t_b4 := b4
      have t_n0 : (nI N).toInt = (N : Int) := nI_toInt (by omega)
      have t_n1 : (nI B).toInt = (B : Int) := nI_toInt (by omega)
      have t_n2 : (nI D).toInt = (D : Int) := nI_toInt (by omega)
      have t_n3 : (nI S).toInt = (S : Int) := nI_toInt (by omega)
      have z0 : (0 : Int32).toInt = 0 := (by decide)
      have z1 : (1 : Int32).toInt = 1 := (by decide)
      have z2 : (2 : Int32).toInt = 2 := (by decide)
      have z3 : (3 : Int32).toInt = 3 := (by decide)
      have z5 : (5 : Int32).toInt = 5 := (by decide)
      have z9 : (9 : Int32).toInt = 9 := (by decide)
      have z20 : (20 : Int32).toInt = 20 := (by decide)
      have z4 : (-4 : Int32).toInt = -4 := (by decide)
      have z10 : (10 : Int32).toInt = 10 := (by decide)
      rw [if_neg (by omega)]
    have hP9 := hP.sub (ws' := [(h0, .inr (10, [.ref rd, .ref wy, .ref tr, .ref im, .ref kp, .ref od, .ref ch, .ref cr, .ref le, .ref mk, .ref tl, .ref sh, .int tf, .int rf])), (wy, .inr (9, [.int (nI N), .int (nI B), .int (nI D), .ref a1, .ref a2, .ref a3, .ref a4, .ref a5, .ref a6])), (mk, .inr (3, [.int (nI S), .ref m1, .ref m2])), (m1, .inl (G 0, 6, .inl z1)), (m2, .inl (G 0, 6, .inl z2))]) [0, 1, 2, 3, 4] rfl
    have hD9 := hD.sub (ws' := [(h0, .inr (10, [.ref rd, .ref wy, .ref tr, .ref im, .ref kp, .ref od, .ref ch, .ref cr, .ref le, .ref mk, .ref tl, .ref sh, .int tf, .int rf])), (wy, .inr (9, [.int (nI N), .int (nI B), .int (nI D), .ref a1, .ref a2, .ref a3, .ref a4, .ref a5, .ref a6])), (mk, .inr (3, [.int (nI S), .ref m1, .ref m2])), (m1, .inl (G 0, 6, .inl z1)), (m2, .inl (G 0, 6, .inl z2))]) [0, 1, 2, 3, 4] (by decide) rfl
    refine W.widen (k := 0) (n := 0) (by omega) (by omega) ?_
    exact W.iret (v := (-1)) hx hb hr (fun t ht hW => ⟨⟨(-1), (S, z1, z2), rfl, ⟨hpost, (by have t_b4 := b4; have t_n0 : (nI N).toInt = (N : Int) := nI_toInt (by omega); have t_n1 : (nI B).toInt = (B : Int) := nI_toInt (by omega); have t_n2 : (nI D).toInt = (D : Int) := nI_toInt (by omega); have t_n3 : (nI S).toInt = (S : Int) := nI_toInt (by omega); have z0 : (0 : Int32).toInt = 0 := (by decide); have z1 : (1 : Int32).toInt = 1 := (by decide); have z2 : (2 : Int32).toInt = 2 := (by decide); have z3 : (3 : Int32).toInt = 3 := (by decide); have z5 : (5 : Int32).toInt = 5 := (by decide); have z9 : (9 : Int32).toInt = 9 := (by decide); have z20 : (20 : Int32).toInt = 20 := (by decide); have z4 : (-4 : Int32).toInt = -4 := (by decide); have z10 : (10 : Int32).toInt = 10 := (by decide); refine ⟨?_, by omega⟩; rw [if_neg (by omega)])⟩, ⟨by rw [ht]; exact hP9, hD9⟩⟩, hS.F ht⟩) hS.2.2 dX10_mark_19
  · skip
    have b5 := if10_p c3
    refine lv_iload_n hx hb dX10_mark_11 rfl (lv_at hl 2 rfl) ?_
    have hPc := hP.sub (ws' := []) [] rfl
    refine va_calli (va_runS (As := [.int d]) (rest := []) ⟨hx, hb, hml, hown, hg⟩ (c_X10_isDepth l dC dI G _ d ) (kwS hg mfX10_isDepth wt_649 ⟨Nat.le_of_ble_eq_true rfl, Nat.le_of_ble_eq_true rfl⟩) (preSR hK hPc) rfl rfl hl.1 rfl (lv_room (Nat.le_of_ble_eq_true rfl)) dX10_mark_12 ⟨Nat.le_of_ble_eq_true rfl, Nat.le_of_ble_eq_true rfl⟩) hS (fun q h1 h2 => absurd h2 (Nat.not_le.mpr h1)) (fun q h => hA q (Nat.le_trans hS.1 h)) (fun r6 ur6 t H1 locs ht hvm w7 hB hz1 hk1 hS => ?_)
    have hP := keepR hP hk1
    obtain ⟨w7, w7x⟩ := w7
    try simp only [l_ii, show (0 : Int32).toInt = 0 from by decide, show (9 : Int32).toInt = 9 from by decide] at w7
    subst w7
    refine lv_if_ne (tgt := 20) hx hb dX10_mark_15 (by decide) (fun c8 => ?_) (fun c8 => ?_)
    · skip
      have b9 := if10_p c8
      refine lv_aload_n hx hb dX10_mark_20 rfl (lv_at hl 0 rfl) ?_
      refine va_get (D := (dC, dI)) (ci := 10) (v := .ref mk) (C := RX10) (T := TX10) (N := 14) hx hb hg inG10 hown hK.1 hP 0 rfl rfl 9 (by decide) (hg _ wt_311) (fun _ h9 => h9) rfl dX10_mark_21 ?_
      refine lv_iload_n hx hb dX10_mark_24 rfl (lv_at hl 1 rfl) ?_
      refine lv_iload_n hx hb dX10_mark_25 rfl (lv_at hl 2 rfl) ?_
      have hPc := hP.sub (ws' := [(mk, .inr (3, [.int (nI S), .ref m1, .ref m2])), (m1, .inl (G 0, 6, .inl z1)), (m2, .inl (G 0, 6, .inl z2))]) [2, 3, 4] rfl
      have hDc := hD.sub (ws' := [(mk, .inr (3, [.int (nI S), .ref m1, .ref m2])), (m1, .inl (G 0, 6, .inl z1)), (m2, .inl (G 0, 6, .inl z2))]) [2, 3, 4] (by decide) rfl
      have hFc := va_free (wc := [(mk, .inr (3, [.int (nI S), .ref m1, .ref m2])), (m1, .inl (G 0, 6, .inl z1)), (m2, .inl (G 0, 6, .inl z2))]) hD hS hA [2, 3, 4] rfl
      refine va_calli (va_runVN (As := [.int i, .int d]) (rest := []) ⟨hx, hb, hml, hown, hg⟩ (c_X3_add l dC dI G _ mk m1 m2 S i d z1 z2 (by have t_b5 := b5; have t_b9 := b9; have t_n0 : (nI N).toInt = (N : Int) := nI_toInt (by omega); have t_n1 : (nI B).toInt = (B : Int) := nI_toInt (by omega); have t_n2 : (nI D).toInt = (D : Int) := nI_toInt (by omega); have t_n3 : (nI S).toInt = (S : Int) := nI_toInt (by omega); omega)) (kwVN hg hK mfX3_add wn_755 ⟨Nat.le_of_ble_eq_true rfl, Nat.le_of_ble_eq_true rfl⟩) (preVW hK hPc hDc (ci := 3) rfl rfl) rfl rfl hl.1 rfl (lv_room (Nat.le_of_ble_eq_true rfl)) dX10_mark_26 ⟨Nat.le_of_ble_eq_true rfl, Nat.le_of_ble_eq_true rfl⟩) hS (fun q _ h => hFc q h) hFc (fun r10 ur10 t H1 locs ht hvm w11 hB hz1 hk1 hS => ?_)
      obtain ⟨u12, u13, u14⟩ := ur10
      obtain ⟨hP1, hD1⟩ := hB
      rw [ht] at hP1
      obtain ⟨hP, hD⟩ := va_join (wr := [(h0, .inr (10, [.ref rd, .ref wy, .ref tr, .ref im, .ref kp, .ref od, .ref ch, .ref cr, .ref le, .ref mk, .ref tl, .ref sh, .int tf, .int rf])), (wy, .inr (9, [.int (nI N), .int (nI B), .int (nI D), .ref a1, .ref a2, .ref a3, .ref a4, .ref a5, .ref a6]))]) (w1 := [(mk, .inr (3, [.int (nI u12), .ref m1, .ref m2])), (m1, .inl (G 0, 6, .inl u13)), (m2, .inl (G 0, 6, .inl u14))]) hP hD [2, 3, 4] [0, 1] rfl rfl (by decide) (by decide) hk1 hFc hP1 hD1
      generalize H1 = H at hP hS ⊢
      have hP : va_P (dC, dI) vwCl [(h0, .inr (10, [.ref rd, .ref wy, .ref tr, .ref im, .ref kp, .ref od, .ref ch, .ref cr, .ref le, .ref mk, .ref tl, .ref sh, .int tf, .int rf])), (wy, .inr (9, [.int (nI N), .int (nI B), .int (nI D), .ref a1, .ref a2, .ref a3, .ref a4, .ref a5, .ref a6])), (mk, .inr (3, [.int (nI u12), .ref m1, .ref m2])), (m1, .inl (G 0, 6, .inl u13)), (m2, .inl (G 0, 6, .inl u14))] H := hP
      have hD : va_D A [(h0, .inr (10, [.ref rd, .ref wy, .ref tr, .ref im, .ref kp, .ref od, .ref ch, .ref cr, .ref le, .ref mk, .ref tl, .ref sh, .int tf, .int rf])), (wy, .inr (9, [.int (nI N), .int (nI B), .int (nI D), .ref a1, .ref a2, .ref a3, .ref a4, .ref a5, .ref a6])), (mk, .inr (3, [.int (nI u12), .ref m1, .ref m2])), (m1, .inl (G 0, 6, .inl u13)), (m2, .inl (G 0, 6, .inl u14))] := hD
      obtain ⟨w11, w11x⟩ := w11
      refine lv_if_eq (tgt := 42) hx hb dX10_mark_29 (by decide) (fun c15 => ?_) (fun c15 => ?_)
      · skip
        refine lv_bipush (v := (-3)) hx hb dX10_mark_42 (by decide) ?_
        have hpost : ((-3) : Int32) = if ((0 ≤ i.toInt ∧ i.toInt < ((N : Nat) : Int)) ∧ 0 ≤ d.toInt ∧ d.toInt ≤ 9) then (if S < 6 then nI (S + 1) else -3) else -1 := by
          have t_b5 := b5
          have t_b9 := b9
          have t_c15 := eqI c15
          have : (0 : Int32).toInt = 0 := (by decide)
          have t_n0 : (nI N).toInt = (N : Int) := nI_toInt (by omega)
          have t_n1 : (nI B).toInt = (B : Int) := nI_toInt (by omega)
          have t_n2 : (nI D).toInt = (D : Int) := nI_toInt (by omega)
          have t_n3 : (nI S).toInt = (S : Int) := nI_toInt (by omega)
          have z0 : (0 : Int32).toInt = 0 := (by decide)
          have z1 : (1 : Int32).toInt = 1 := (by decide)
          have z2 : (2 : Int32).toInt = 2 := (by decide)
          have z3 : (3 : Int32).toInt = 3 := (by decide)
          have z5 : (5 : Int32).toInt = 5 := (by decide)
          have z9 : (9 : Int32).toInt = 9 := (by decide)
          have z20 : (20 : Int32).toInt = 20 := (by decide)
          have z4 : (-4 : Int32).toInt = -4 := (by decide)
          have z10 : (10 : Int32).toInt = 10 := (by decide)
          rw [if_pos (by omega)]
          have q9 := w11
          have q7 := w11x
          by_cases h8 : S < 6
          · rw [if_pos h8] at q9 q7; rw [if_pos h8]; first | done | (rw [q7]; done) | (exfalso; exact absurd q9 (by assumption)) | (exfalso; simp_all; done)
          · rw [if_neg h8] at q9 q7; rw [if_neg h8]; first | done | rfl | (exfalso; exact absurd q9 (by assumption)) | (exfalso; simp_all; done)
        have hP9 := hP.sub (ws' := [(h0, .inr (10, [.ref rd, .ref wy, .ref tr, .ref im, .ref kp, .ref od, .ref ch, .ref cr, .ref le, .ref mk, .ref tl, .ref sh, .int tf, .int rf])), (wy, .inr (9, [.int (nI N), .int (nI B), .int (nI D), .ref a1, .ref a2, .ref a3, .ref a4, .ref a5, .ref a6])), (mk, .inr (3, [.int (nI u12), .ref m1, .ref m2])), (m1, .inl (G 0, 6, .inl u13)), (m2, .inl (G 0, 6, .inl u14))]) [0, 1, 2, 3, 4] rfl
        have hD9 := hD.sub (ws' := [(h0, .inr (10, [.ref rd, .ref wy, .ref tr, .ref im, .ref kp, .ref od, .ref ch, .ref cr, .ref le, .ref mk, .ref tl, .ref sh, .int tf, .int rf])), (wy, .inr (9, [.int (nI N), .int (nI B), .int (nI D), .ref a1, .ref a2, .ref a3, .ref a4, .ref a5, .ref a6])), (mk, .inr (3, [.int (nI u12), .ref m1, .ref m2])), (m1, .inl (G 0, 6, .inl u13)), (m2, .inl (G 0, 6, .inl u14))]) [0, 1, 2, 3, 4] (by decide) rfl
        refine W.widen (k := 0) (n := 0) (by omega) (by omega) ?_
        exact W.iret (v := (-3)) hx hb hr (fun t ht hW => ⟨⟨(-3), (u12, u13, u14), rfl, ⟨hpost, (by have t_b5 := b5; have t_b9 := b9; have t_c15 := eqI c15; have : (0 : Int32).toInt = 0 := (by decide); have t_n0 : (nI N).toInt = (N : Int) := nI_toInt (by omega); have t_n1 : (nI B).toInt = (B : Int) := nI_toInt (by omega); have t_n2 : (nI D).toInt = (D : Int) := nI_toInt (by omega); have t_n3 : (nI S).toInt = (S : Int) := nI_toInt (by omega); have z0 : (0 : Int32).toInt = 0 := (by decide); have z1 : (1 : Int32).toInt = 1 := (by decide); have z2 : (2 : Int32).toInt = 2 := (by decide); have z3 : (3 : Int32).toInt = 3 := (by decide); have z5 : (5 : Int32).toInt = 5 := (by decide); have z9 : (9 : Int32).toInt = 9 := (by decide); have z20 : (20 : Int32).toInt = 20 := (by decide); have z4 : (-4 : Int32).toInt = -4 := (by decide); have z10 : (10 : Int32).toInt = 10 := (by decide); have q7 := w11x; by_cases h8 : S < 6; (rw [if_pos h8] at q7; exact ⟨by rw [if_pos ⟨by omega, h8⟩]; exact q7, by omega⟩); (rw [if_neg h8] at q7; exact ⟨by rw [if_neg (fun h9 => h8 h9.2)]; exact q7, by omega⟩))⟩, ⟨by rw [ht]; exact hP9, hD9⟩⟩, hS.F ht⟩) hS.2.2 dX10_mark_44
      · skip
        refine lv_aload_n hx hb dX10_mark_32 rfl (lv_at hl 0 rfl) ?_
        refine va_get (D := (dC, dI)) (ci := 10) (v := .ref mk) (C := RX10) (T := TX10) (N := 14) hx hb hg inG10 hown hK.1 hP 0 rfl rfl 9 (by decide) (hg _ wt_311) (fun _ h9 => h9) rfl dX10_mark_33 ?_
        refine va_getN (D := (dC, dI)) (ci := 3) (v := .int (nI u12)) (C := RX3) (T := TX3) (N := 3) hx hb hg inG3 hown hK.1 hP 2 rfl rfl 0 (by decide) (hK.nest wn_241) (fun _ h9 => h9) rfl dX10_mark_36 ?_
        refine lv_goto (tgt := 44) hx hb dX10_mark_39 (by decide) ?_
        have hpost : (nI u12 : Int32) = if ((0 ≤ i.toInt ∧ i.toInt < ((N : Nat) : Int)) ∧ 0 ≤ d.toInt ∧ d.toInt ≤ 9) then (if S < 6 then nI (S + 1) else -3) else -1 := by
          have t_b5 := b5
          have t_b9 := b9
          have t_c15 := neI c15
          have : (0 : Int32).toInt = 0 := (by decide)
          have t_n0 : (nI N).toInt = (N : Int) := nI_toInt (by omega)
          have t_n1 : (nI B).toInt = (B : Int) := nI_toInt (by omega)
          have t_n2 : (nI D).toInt = (D : Int) := nI_toInt (by omega)
          have t_n3 : (nI S).toInt = (S : Int) := nI_toInt (by omega)
          have z0 : (0 : Int32).toInt = 0 := (by decide)
          have z1 : (1 : Int32).toInt = 1 := (by decide)
          have z2 : (2 : Int32).toInt = 2 := (by decide)
          have z3 : (3 : Int32).toInt = 3 := (by decide)
          have z5 : (5 : Int32).toInt = 5 := (by decide)
          have z9 : (9 : Int32).toInt = 9 := (by decide)
          have z20 : (20 : Int32).toInt = 20 := (by decide)
          have z4 : (-4 : Int32).toInt = -4 := (by decide)
          have z10 : (10 : Int32).toInt = 10 := (by decide)
          rw [if_pos (by omega)]
          have q9 := w11
          have q7 := w11x
          by_cases h8 : S < 6
          · rw [if_pos h8] at q9 q7; rw [if_pos h8]; first | done | (rw [q7]; done) | (exfalso; exact absurd q9 (by assumption)) | (exfalso; simp_all; done)
          · rw [if_neg h8] at q9 q7; rw [if_neg h8]; first | done | rfl | (exfalso; exact absurd q9 (by assumption)) | (exfalso; simp_all; done)
        have hP9 := hP.sub (ws' := [(h0, .inr (10, [.ref rd, .ref wy, .ref tr, .ref im, .ref kp, .ref od, .ref ch, .ref cr, .ref le, .ref mk, .ref tl, .ref sh, .int tf, .int rf])), (wy, .inr (9, [.int (nI N), .int (nI B), .int (nI D), .ref a1, .ref a2, .ref a3, .ref a4, .ref a5, .ref a6])), (mk, .inr (3, [.int (nI u12), .ref m1, .ref m2])), (m1, .inl (G 0, 6, .inl u13)), (m2, .inl (G 0, 6, .inl u14))]) [0, 1, 2, 3, 4] rfl
        have hD9 := hD.sub (ws' := [(h0, .inr (10, [.ref rd, .ref wy, .ref tr, .ref im, .ref kp, .ref od, .ref ch, .ref cr, .ref le, .ref mk, .ref tl, .ref sh, .int tf, .int rf])), (wy, .inr (9, [.int (nI N), .int (nI B), .int (nI D), .ref a1, .ref a2, .ref a3, .ref a4, .ref a5, .ref a6])), (mk, .inr (3, [.int (nI u12), .ref m1, .ref m2])), (m1, .inl (G 0, 6, .inl u13)), (m2, .inl (G 0, 6, .inl u14))]) [0, 1, 2, 3, 4] (by decide) rfl
        refine W.widen (k := 0) (n := 0) (by omega) (by omega) ?_
        exact W.iret (v := nI u12) hx hb hr (fun t ht hW => ⟨⟨nI u12, (u12, u13, u14), rfl, ⟨hpost, (by have t_b5 := b5; have t_b9 := b9; have t_c15 := neI c15; have : (0 : Int32).toInt = 0 := (by decide); have t_n0 : (nI N).toInt = (N : Int) := nI_toInt (by omega); have t_n1 : (nI B).toInt = (B : Int) := nI_toInt (by omega); have t_n2 : (nI D).toInt = (D : Int) := nI_toInt (by omega); have t_n3 : (nI S).toInt = (S : Int) := nI_toInt (by omega); have z0 : (0 : Int32).toInt = 0 := (by decide); have z1 : (1 : Int32).toInt = 1 := (by decide); have z2 : (2 : Int32).toInt = 2 := (by decide); have z3 : (3 : Int32).toInt = 3 := (by decide); have z5 : (5 : Int32).toInt = 5 := (by decide); have z9 : (9 : Int32).toInt = 9 := (by decide); have z20 : (20 : Int32).toInt = 20 := (by decide); have z4 : (-4 : Int32).toInt = -4 := (by decide); have z10 : (10 : Int32).toInt = 10 := (by decide); have q7 := w11x; by_cases h8 : S < 6; (rw [if_pos h8] at q7; exact ⟨by rw [if_pos ⟨by omega, h8⟩]; exact q7, by omega⟩); (rw [if_neg h8] at q7; exact ⟨by rw [if_neg (fun h9 => h8 h9.2)]; exact q7, by omega⟩))⟩, ⟨by rw [ht]; exact hP9, hD9⟩⟩, hS.F ht⟩) hS.2.2 dX10_mark_44
    · skip
      have b16 := if10_n c8
      refine lv_iconst (v := (-1)) hx hb dX10_mark_18 (by decide) ?_
      have hpost : ((-1) : Int32) = if ((0 ≤ i.toInt ∧ i.toInt < ((N : Nat) : Int)) ∧ 0 ≤ d.toInt ∧ d.toInt ≤ 9) then (if S < 6 then nI (S + 1) else -3) else -1 := by
        have t_b5 := b5
        have t_b16 := b16
        have t_n0 : (nI N).toInt = (N : Int) := nI_toInt (by omega)
        have t_n1 : (nI B).toInt = (B : Int) := nI_toInt (by omega)
        have t_n2 : (nI D).toInt = (D : Int) := nI_toInt (by omega)
        have t_n3 : (nI S).toInt = (S : Int) := nI_toInt (by omega)
        have z0 : (0 : Int32).toInt = 0 := (by decide)
        have z1 : (1 : Int32).toInt = 1 := (by decide)
        have z2 : (2 : Int32).toInt = 2 := (by decide)
        have z3 : (3 : Int32).toInt = 3 := (by decide)
        have z5 : (5 : Int32).toInt = 5 := (by decide)
        have z9 : (9 : Int32).toInt = 9 := (by decide)
        have z20 : (20 : Int32).toInt = 20 := (by decide)
        have z4 : (-4 : Int32).toInt = -4 := (by decide)
        have z10 : (10 : Int32).toInt = 10 := (by decide)
        rw [if_neg (by omega)]
      have hP9 := hP.sub (ws' := [(h0, .inr (10, [.ref rd, .ref wy, .ref tr, .ref im, .ref kp, .ref od, .ref ch, .ref cr, .ref le, .ref mk, .ref tl, .ref sh, .int tf, .int rf])), (wy, .inr (9, [.int (nI N), .int (nI B), .int (nI D), .ref a1, .ref a2, .ref a3, .ref a4, .ref a5, .ref a6])), (mk, .inr (3, [.int (nI S), .ref m1, .ref m2])), (m1, .inl (G 0, 6, .inl z1)), (m2, .inl (G 0, 6, .inl z2))]) [0, 1, 2, 3, 4] rfl
      have hD9 := hD.sub (ws' := [(h0, .inr (10, [.ref rd, .ref wy, .ref tr, .ref im, .ref kp, .ref od, .ref ch, .ref cr, .ref le, .ref mk, .ref tl, .ref sh, .int tf, .int rf])), (wy, .inr (9, [.int (nI N), .int (nI B), .int (nI D), .ref a1, .ref a2, .ref a3, .ref a4, .ref a5, .ref a6])), (mk, .inr (3, [.int (nI S), .ref m1, .ref m2])), (m1, .inl (G 0, 6, .inl z1)), (m2, .inl (G 0, 6, .inl z2))]) [0, 1, 2, 3, 4] (by decide) rfl
      refine W.widen (k := 0) (n := 0) (by omega) (by omega) ?_
      exact W.iret (v := (-1)) hx hb hr (fun t ht hW => ⟨⟨(-1), (S, z1, z2), rfl, ⟨hpost, (by have t_b5 := b5; have t_b16 := b16; have t_n0 : (nI N).toInt = (N : Int) := nI_toInt (by omega); have t_n1 : (nI B).toInt = (B : Int) := nI_toInt (by omega); have t_n2 : (nI D).toInt = (D : Int) := nI_toInt (by omega); have t_n3 : (nI S).toInt = (S : Int) := nI_toInt (by omega); have z0 : (0 : Int32).toInt = 0 := (by decide); have z1 : (1 : Int32).toInt = 1 := (by decide); have z2 : (2 : Int32).toInt = 2 := (by decide); have z3 : (3 : Int32).toInt = 3 := (by decide); have z5 : (5 : Int32).toInt = 5 := (by decide); have z9 : (9 : Int32).toInt = 9 := (by decide); have z20 : (20 : Int32).toInt = 20 := (by decide); have z4 : (-4 : Int32).toInt = -4 := (by decide); have z10 : (10 : Int32).toInt = 10 := (by decide); refine ⟨?_, by omega⟩; rw [if_neg (by omega)])⟩, ⟨by rw [ht]; exact hP9, hD9⟩⟩, hS.F ht⟩) hS.2.2 dX10_mark_19

set_option maxHeartbeats 1000000 in
set_option maxRecDepth 100000 in
theorem c_X10_wipeE (l : Launch) (dC : Nat → ClassId) (dI : Nat → Nat → Nat) (G : Nat → ClassId) (sz : Nat) (h0 rd wy tr im kp od ch cr le mk tl sh m1 m2 S : Nat) (tf rf n : Int32) (hS0 : S ≤ 6) : Met l yX10_wipe (Cond.code yX10_wipe cX10_wipe 3 (some .int) :: GT) ({ frames := 0, cells := 0, slots := 0, locals := 0 } : Room) (PcW [.ref h0, .int n] dC dI G [(h0, .inr (10, [.ref rd, .ref wy, .ref tr, .ref im, .ref kp, .ref od, .ref ch, .ref cr, .ref le, .ref mk, .ref tl, .ref sh, .int tf, .int rf])), (mk, .inr (3, [.int (nI S), .ref m1, .ref m2]))] sz) (va_Qi (fun (r : Int32) (u : Nat) => match u with | u1 => (r = if 0 ≤ n.toInt ∧ n.toInt ≤ ((S : Nat) : Int) then nI S else -1) ∧ u1 = (if 0 ≤ n.toInt ∧ n.toInt ≤ ((S : Nat) : Int) then n.toNatClampNeg else S) ∧ u1 ≤ 6) (fun (u : Nat) (t : State) => match u with | u1 => va_P (dC, dI) vwCl [(h0, .inr (10, [.ref rd, .ref wy, .ref tr, .ref im, .ref kp, .ref od, .ref ch, .ref cr, .ref le, .ref mk, .ref tl, .ref sh, .int tf, .int rf])), (mk, .inr (3, [.int (nI u1), .ref m1, .ref m2]))] t.heap ∧ va_D (va_A [(h0, .inr (10, [.ref rd, .ref wy, .ref tr, .ref im, .ref kp, .ref od, .ref ch, .ref cr, .ref le, .ref mk, .ref tl, .ref sh, .int tf, .int rf])), (mk, .inr (3, [.int (nI S), .ref m1, .ref m2]))] sz) [(h0, .inr (10, [.ref rd, .ref wy, .ref tr, .ref im, .ref kp, .ref od, .ref ch, .ref cr, .ref le, .ref mk, .ref tl, .ref sh, .int tf, .int rf])), (mk, .inr (3, [.int (nI u1), .ref m1, .ref m2]))]) (va_A [(h0, .inr (10, [.ref rd, .ref wy, .ref tr, .ref im, .ref kp, .ref od, .ref ch, .ref cr, .ref le, .ref mk, .ref tl, .ref sh, .int tf, .int rf])), (mk, .inr (3, [.int (nI S), .ref m1, .ref m2]))] sz)) 0 0 (va_A [(h0, .inr (10, [.ref rd, .ref wy, .ref tr, .ref im, .ref kp, .ref od, .ref ch, .ref cr, .ref le, .ref mk, .ref tl, .ref sh, .int tf, .int rf])), (mk, .inr (3, [.int (nI S), .ref m1, .ref m2]))] sz) := by
  refine Met.ofW (cc := cX10_wipe) (maxL := 3) (ret := (some .int)) (by decide) rfl ?_
  intro p e s m args below meth c s₁ Bd hml hv
  obtain ⟨rfl, hsz, hP, hK, hD0⟩ := hv
  have hx := Bd.exec
  have hb := Bd.bytes
  have hr := Bd.returns
  have hg : ∀ w ∈ GT, w.before ([.ref h0, .int n] : List Value).toArray s = true := fun w h => atoms_spec (ws := Cond.code yX10_wipe cX10_wipe 3 (some .int) :: GT) Bd.pre w (List.mem_cons_of_mem _ h)
  have hown : s.vm.findClass RX10 = some m.cls := findClass_of_methodNamed Bd.named
  have hlocks := Bd.notSynchronized
  subst hsz
  have hD := hD0.self (sz := s.heap.size)
  generalize hAe : va_A [(h0, .inr (10, [.ref rd, .ref wy, .ref tr, .ref im, .ref kp, .ref od, .ref ch, .ref cr, .ref le, .ref mk, .ref tl, .ref sh, .int tf, .int rf])), (mk, .inr (3, [.int (nI S), .ref m1, .ref m2]))] s.heap.size = A at hD ⊢
  have hA : ∀ q : Nat, s.heap.size ≤ q → A q := fun q h => by rw [← hAe]; exact Or.inr h
  have hS : va_S A s.heap s.heap [] := va_S.rf
  have hl := lv_entry ([.ref h0, .int n]) (n := 3) (Nat.le_of_ble_eq_true rfl)
  rw [lg_entry_eq]
  generalize (lg_sl ([.ref h0, .int n]) ++ List.replicate (3 - (lg_sl ([.ref h0, .int n])).length) Slot.unset).toArray = ls at hl ⊢
  have hl : lv_has ls 3 [(0, .ref h0), (1, .int n)] := hl
  refine lv_iload_n hx hb dX10_wipe_0 rfl (lv_at hl 1 rfl) ?_
  refine lv_if_lt (tgt := 15) hx hb dX10_wipe_1 (by decide) (fun c1 => ?_) (fun c1 => ?_)
  · skip
    refine lv_iconst (v := (-1)) hx hb dX10_wipe_15 (by decide) ?_
    have hpost : ((-1) : Int32) = if 0 ≤ n.toInt ∧ n.toInt ≤ ((S : Nat) : Int) then nI S else -1 := by
      have t_c1 := ltI c1
      have : (0 : Int32).toInt = 0 := (by decide)
      have t_n0 : (nI S).toInt = (S : Int) := nI_toInt (by omega)
      have t_n0 : (nI S).toInt = (S : Int) := nI_toInt (by omega)
      first | rfl | ((repeat' split) <;> first | rfl | omega)
    have hP9 := hP.sub (ws' := [(h0, .inr (10, [.ref rd, .ref wy, .ref tr, .ref im, .ref kp, .ref od, .ref ch, .ref cr, .ref le, .ref mk, .ref tl, .ref sh, .int tf, .int rf])), (mk, .inr (3, [.int (nI S), .ref m1, .ref m2]))]) [0, 1] rfl
    have hD9 := hD.sub (ws' := [(h0, .inr (10, [.ref rd, .ref wy, .ref tr, .ref im, .ref kp, .ref od, .ref ch, .ref cr, .ref le, .ref mk, .ref tl, .ref sh, .int tf, .int rf])), (mk, .inr (3, [.int (nI S), .ref m1, .ref m2]))]) [0, 1] (by decide) rfl
    refine W.widen (k := 0) (n := 0) (by omega) (by omega) ?_
    exact W.iret (v := (-1)) hx hb hr (fun t ht hW => ⟨⟨(-1), S, rfl, ⟨hpost, (by have t_c1 := ltI c1; have : (0 : Int32).toInt = 0 := (by decide); have t_n0 : (nI S).toInt = (S : Int) := nI_toInt (by omega); refine ⟨?_, by omega⟩; split <;> first | exact (nI_clamp (by omega)).symm | rfl | omega)⟩, ⟨by rw [ht]; exact hP9, hD9⟩⟩, hS.F ht⟩) hS.2.2 dX10_wipe_16
  · skip
    refine lv_iload_n hx hb dX10_wipe_4 rfl (lv_at hl 1 rfl) ?_
    refine lv_aload_n hx hb dX10_wipe_5 rfl (lv_at hl 0 rfl) ?_
    refine va_get (D := (dC, dI)) (ci := 10) (v := .ref mk) (C := RX10) (T := TX10) (N := 14) hx hb hg inG10 hown hK.1 hP 0 rfl rfl 9 (by decide) (hg _ wt_311) (fun _ h9 => h9) rfl dX10_wipe_6 ?_
    refine va_getN (D := (dC, dI)) (ci := 3) (v := .int (nI S)) (C := RX3) (T := TX3) (N := 3) hx hb hg inG3 hown hK.1 hP 1 rfl rfl 0 (by decide) (hK.nest wn_241) (fun _ h9 => h9) rfl dX10_wipe_9 ?_
    refine lv_icmp_le (tgt := 17) hx hb dX10_wipe_12 (by decide) (fun c2 => ?_) (fun c2 => ?_)
    · skip
      obtain ⟨nn, hnn, rfl⟩ : ∃ j : Nat, j < 7 ∧ n = nI j := by
        have t_c1 := nltI c1
        have t_c2 := leI c2
        have : (0 : Int32).toInt = 0 := (by decide)
        have t_n0 : (nI S).toInt = (S : Int) := nI_toInt (by omega)
        exact i32_nat (by omega) (by omega)
      refine lv_aload_n hx hb dX10_wipe_17 rfl (lv_at hl 0 rfl) ?_
      refine va_get (D := (dC, dI)) (ci := 10) (v := .ref mk) (C := RX10) (T := TX10) (N := 14) hx hb hg inG10 hown hK.1 hP 0 rfl rfl 9 (by decide) (hg _ wt_311) (fun _ h9 => h9) rfl dX10_wipe_18 ?_
      refine va_getN (D := (dC, dI)) (ci := 3) (v := .int (nI S)) (C := RX3) (T := TX3) (N := 3) hx hb hg inG3 hown hK.1 hP 1 rfl rfl 0 (by decide) (hK.nest wn_241) (fun _ h9 => h9) rfl dX10_wipe_21 ?_
      refine lv_istore_n (lv' := [(2, .int (nI S)), (0, .ref h0), (1, .int (nI nn))]) hx hb dX10_wipe_24 rfl hl (by decide) rfl (fun ls hl => ?_)
      refine lv_aload_n hx hb dX10_wipe_25 rfl (lv_at hl 1 rfl) ?_
      refine va_get (D := (dC, dI)) (ci := 10) (v := .ref mk) (C := RX10) (T := TX10) (N := 14) hx hb hg inG10 hown hK.1 hP 0 rfl rfl 9 (by decide) (hg _ wt_311) (fun _ h9 => h9) rfl dX10_wipe_26 ?_
      refine lv_iload_n hx hb dX10_wipe_29 rfl (lv_at hl 2 rfl) ?_
      refine va_putN (D := (dC, dI)) (ci := 3) (v := .int (nI nn)) (ty := .int) (C := RX3) (T := TX3) (N := 3) hx hb hg inG3 tyX3 tyX3_ok nmX3 hown hK.1 hP hD hS 1 rfl rfl 0 (by decide) (hK.nest wn_241) (fun _ h9 => h9) rfl (by decide +kernel) rfl rfl (Nat.le_of_ble_eq_true rfl) dX10_wipe_30 (fun H locs hP hD hS => ?_)
      have hP : va_P (dC, dI) vwCl [(h0, .inr (10, [.ref rd, .ref wy, .ref tr, .ref im, .ref kp, .ref od, .ref ch, .ref cr, .ref le, .ref mk, .ref tl, .ref sh, .int tf, .int rf])), (mk, .inr (3, [.int (nI nn), .ref m1, .ref m2]))] H := hP
      have hD : va_D A [(h0, .inr (10, [.ref rd, .ref wy, .ref tr, .ref im, .ref kp, .ref od, .ref ch, .ref cr, .ref le, .ref mk, .ref tl, .ref sh, .int tf, .int rf])), (mk, .inr (3, [.int (nI nn), .ref m1, .ref m2]))] := hD
      refine lv_iload_n hx hb dX10_wipe_33 rfl (lv_at hl 0 rfl) ?_
      have hpost : (nI S : Int32) = if 0 ≤ (nI nn).toInt ∧ (nI nn).toInt ≤ ((S : Nat) : Int) then nI S else -1 := by
        have t_c1 := nltI c1
        have t_c2 := leI c2
        have t_hnn := hnn
        have : (0 : Int32).toInt = 0 := (by decide)
        have t_n0 : (nI S).toInt = (S : Int) := nI_toInt (by omega)
        have t_n1 : (nI nn).toInt = (nn : Int) := nI_toInt (by omega)
        have t_n0 : (nI S).toInt = (S : Int) := nI_toInt (by omega)
        have t_n1 : (nI nn).toInt = (nn : Int) := nI_toInt (by omega)
        first | rfl | ((repeat' split) <;> first | rfl | omega)
      have hP9 := hP.sub (ws' := [(h0, .inr (10, [.ref rd, .ref wy, .ref tr, .ref im, .ref kp, .ref od, .ref ch, .ref cr, .ref le, .ref mk, .ref tl, .ref sh, .int tf, .int rf])), (mk, .inr (3, [.int (nI nn), .ref m1, .ref m2]))]) [0, 1] rfl
      have hD9 := hD.sub (ws' := [(h0, .inr (10, [.ref rd, .ref wy, .ref tr, .ref im, .ref kp, .ref od, .ref ch, .ref cr, .ref le, .ref mk, .ref tl, .ref sh, .int tf, .int rf])), (mk, .inr (3, [.int (nI nn), .ref m1, .ref m2]))]) [0, 1] (by decide) rfl
      refine W.widen (k := 0) (n := 0) (by omega) (by omega) ?_
      exact W.iret (v := nI S) hx hb hr (fun t ht hW => ⟨⟨nI S, nn, rfl, ⟨hpost, (by have t_c1 := nltI c1; have t_c2 := leI c2; have t_hnn := hnn; have : (0 : Int32).toInt = 0 := (by decide); have t_n0 : (nI S).toInt = (S : Int) := nI_toInt (by omega); have t_n1 : (nI nn).toInt = (nn : Int) := nI_toInt (by omega); refine ⟨?_, by omega⟩; split <;> first | exact (nI_clamp (by omega)).symm | rfl | omega)⟩, ⟨by rw [ht]; exact hP9, hD9⟩⟩, hS.F ht⟩) hS.2.2 dX10_wipe_34
    · skip
      refine lv_iconst (v := (-1)) hx hb dX10_wipe_15 (by decide) ?_
      have hpost : ((-1) : Int32) = if 0 ≤ n.toInt ∧ n.toInt ≤ ((S : Nat) : Int) then nI S else -1 := by
        have t_c1 := nltI c1
        have t_c2 := nleI c2
        have : (0 : Int32).toInt = 0 := (by decide)
        have t_n0 : (nI S).toInt = (S : Int) := nI_toInt (by omega)
        have t_n0 : (nI S).toInt = (S : Int) := nI_toInt (by omega)
        first | rfl | ((repeat' split) <;> first | rfl | omega)
      have hP9 := hP.sub (ws' := [(h0, .inr (10, [.ref rd, .ref wy, .ref tr, .ref im, .ref kp, .ref od, .ref ch, .ref cr, .ref le, .ref mk, .ref tl, .ref sh, .int tf, .int rf])), (mk, .inr (3, [.int (nI S), .ref m1, .ref m2]))]) [0, 1] rfl
      have hD9 := hD.sub (ws' := [(h0, .inr (10, [.ref rd, .ref wy, .ref tr, .ref im, .ref kp, .ref od, .ref ch, .ref cr, .ref le, .ref mk, .ref tl, .ref sh, .int tf, .int rf])), (mk, .inr (3, [.int (nI S), .ref m1, .ref m2]))]) [0, 1] (by decide) rfl
      refine W.widen (k := 0) (n := 0) (by omega) (by omega) ?_
      exact W.iret (v := (-1)) hx hb hr (fun t ht hW => ⟨⟨(-1), S, rfl, ⟨hpost, (by have t_c1 := nltI c1; have t_c2 := nleI c2; have : (0 : Int32).toInt = 0 := (by decide); have t_n0 : (nI S).toInt = (S : Int) := nI_toInt (by omega); refine ⟨?_, by omega⟩; split <;> first | exact (nI_clamp (by omega)).symm | rfl | omega)⟩, ⟨by rw [ht]; exact hP9, hD9⟩⟩, hS.F ht⟩) hS.2.2 dX10_wipe_16

set_option maxHeartbeats 1000000 in
set_option maxRecDepth 100000 in
theorem c_X10_keepE (l : Launch) (dC : Nat → ClassId) (dI : Nat → Nat → Nat) (G : Nat → ClassId) (sz : Nat) (h0 rd wy tr im kp od ch cr le mk tl sh a1 a2 a3 a4 a5 a6 N B D i0 i1 ib1 ib2 ib3 ib4 ib5 ib6 id1 id2 id3 id4 id5 id6 N0 B0 D0 N1 B1 D1 : Nat) (tf rf k : Int32) (f1 f2 f3 f4 f5 f6 fk ibf1 ibf2 ibf3 ibf4 ibf5 ibf6 idf1 idf2 idf3 idf4 idf5 idf6 : Nat → Int32) (hN_N : N ≤ 10) (hB_B : B ≤ 6) (hD_D : 1 ≤ D ∧ D ≤ 9) (hN_N0 : N0 ≤ 10) (hB_B0 : B0 ≤ 6) (hD_D0 : 1 ≤ D0 ∧ D0 ≤ 9) (hN_N1 : N1 ≤ 10) (hB_B1 : B1 ≤ 6) (hD_D1 : 1 ≤ D1 ∧ D1 ≤ 9) : Met l yX10_keep (Cond.code yX10_keep cX10_keep 3 (some .int) :: GT) ({ frames := 2, cells := 0, slots := 0, locals := 121 } : Room) (PcW [.ref h0, .int k] dC dI G [(h0, .inr (10, [.ref rd, .ref wy, .ref tr, .ref im, .ref kp, .ref od, .ref ch, .ref cr, .ref le, .ref mk, .ref tl, .ref sh, .int tf, .int rf])), (wy, .inr (9, [.int (nI N), .int (nI B), .int (nI D), .ref a1, .ref a2, .ref a3, .ref a4, .ref a5, .ref a6])), (a1, .inl (G 0, 10, .inl f1)), (a2, .inl (G 0, 10, .inl f2)), (a3, .inl (G 0, 10, .inl f3)), (a4, .inl (G 0, 6, .inl f4)), (a5, .inl (G 0, 6, .inl f5)), (a6, .inl (G 0, 6, .inl f6)), (im, .inl (G 3, 2, .inr (.inr (.inr (.inr (va_up (va_up (fun _ => none) 0 (some i0)) 1 (some i1))))))), (kp, .inl (G 2, 2, .inl fk)), (i0, .inr (9, [.int (nI N0), .int (nI B0), .int (nI D0), .ref ib1, .ref ib2, .ref ib3, .ref ib4, .ref ib5, .ref ib6])), (ib1, .inl (G 0, 10, .inl ibf1)), (ib2, .inl (G 0, 10, .inl ibf2)), (ib3, .inl (G 0, 10, .inl ibf3)), (ib4, .inl (G 0, 6, .inl ibf4)), (ib5, .inl (G 0, 6, .inl ibf5)), (ib6, .inl (G 0, 6, .inl ibf6)), (i1, .inr (9, [.int (nI N1), .int (nI B1), .int (nI D1), .ref id1, .ref id2, .ref id3, .ref id4, .ref id5, .ref id6])), (id1, .inl (G 0, 10, .inl idf1)), (id2, .inl (G 0, 10, .inl idf2)), (id3, .inl (G 0, 10, .inl idf3)), (id4, .inl (G 0, 6, .inl idf4)), (id5, .inl (G 0, 6, .inl idf5)), (id6, .inl (G 0, 6, .inl idf6))] sz) (va_Qi (fun (r : Int32) (u : Nat × Nat × Nat × (Nat → Int32) × (Nat → Int32) × (Nat → Int32) × (Nat → Int32) × (Nat → Int32) × (Nat → Int32) × Nat × Nat × Nat × (Nat → Int32) × (Nat → Int32) × (Nat → Int32) × (Nat → Int32) × (Nat → Int32) × (Nat → Int32) × (Nat → Int32)) => match u with | (u0, u1, u2, u3, u4, u5, u6, u7, u8, u9, u10, u11, u12, u13, u14, u15, u16, u17, u18) => (r = if (0 ≤ k.toInt ∧ k.toInt < 2) then (if fk k.toNatClampNeg = 0 then 0 else 1) else -1) ∧ ((u0 ≤ 10 ∧ u1 ≤ 6 ∧ (1 ≤ u2 ∧ u2 ≤ 9)) ∧ (u9 ≤ 10 ∧ u10 ≤ 6 ∧ (1 ≤ u11 ∧ u11 ≤ 9))) ∧ u18 = (if (0 ≤ k.toInt ∧ k.toInt < 2) then upd fk k.toNatClampNeg 1 else fk) ∧ u0 = (if k = 0 then N else N0) ∧ u1 = (if k = 0 then B else B0) ∧ u9 = (if k = 1 then N else N1) ∧ u10 = (if k = 1 then B else B1)) (fun (u : Nat × Nat × Nat × (Nat → Int32) × (Nat → Int32) × (Nat → Int32) × (Nat → Int32) × (Nat → Int32) × (Nat → Int32) × Nat × Nat × Nat × (Nat → Int32) × (Nat → Int32) × (Nat → Int32) × (Nat → Int32) × (Nat → Int32) × (Nat → Int32) × (Nat → Int32)) (t : State) => match u with | (u0, u1, u2, u3, u4, u5, u6, u7, u8, u9, u10, u11, u12, u13, u14, u15, u16, u17, u18) => va_P (dC, dI) vwCl [(h0, .inr (10, [.ref rd, .ref wy, .ref tr, .ref im, .ref kp, .ref od, .ref ch, .ref cr, .ref le, .ref mk, .ref tl, .ref sh, .int tf, .int rf])), (wy, .inr (9, [.int (nI N), .int (nI B), .int (nI D), .ref a1, .ref a2, .ref a3, .ref a4, .ref a5, .ref a6])), (a1, .inl (G 0, 10, .inl f1)), (a2, .inl (G 0, 10, .inl f2)), (a3, .inl (G 0, 10, .inl f3)), (a4, .inl (G 0, 6, .inl f4)), (a5, .inl (G 0, 6, .inl f5)), (a6, .inl (G 0, 6, .inl f6)), (im, .inl (G 3, 2, .inr (.inr (.inr (.inr (va_up (va_up (fun _ => none) 0 (some i0)) 1 (some i1))))))), (kp, .inl (G 2, 2, .inl u18)), (i0, .inr (9, [.int (nI u0), .int (nI u1), .int (nI u2), .ref ib1, .ref ib2, .ref ib3, .ref ib4, .ref ib5, .ref ib6])), (ib1, .inl (G 0, 10, .inl u3)), (ib2, .inl (G 0, 10, .inl u4)), (ib3, .inl (G 0, 10, .inl u5)), (ib4, .inl (G 0, 6, .inl u6)), (ib5, .inl (G 0, 6, .inl u7)), (ib6, .inl (G 0, 6, .inl u8)), (i1, .inr (9, [.int (nI u9), .int (nI u10), .int (nI u11), .ref id1, .ref id2, .ref id3, .ref id4, .ref id5, .ref id6])), (id1, .inl (G 0, 10, .inl u12)), (id2, .inl (G 0, 10, .inl u13)), (id3, .inl (G 0, 10, .inl u14)), (id4, .inl (G 0, 6, .inl u15)), (id5, .inl (G 0, 6, .inl u16)), (id6, .inl (G 0, 6, .inl u17))] t.heap ∧ va_D (va_A [(h0, .inr (10, [.ref rd, .ref wy, .ref tr, .ref im, .ref kp, .ref od, .ref ch, .ref cr, .ref le, .ref mk, .ref tl, .ref sh, .int tf, .int rf])), (wy, .inr (9, [.int (nI N), .int (nI B), .int (nI D), .ref a1, .ref a2, .ref a3, .ref a4, .ref a5, .ref a6])), (a1, .inl (G 0, 10, .inl f1)), (a2, .inl (G 0, 10, .inl f2)), (a3, .inl (G 0, 10, .inl f3)), (a4, .inl (G 0, 6, .inl f4)), (a5, .inl (G 0, 6, .inl f5)), (a6, .inl (G 0, 6, .inl f6)), (im, .inl (G 3, 2, .inr (.inr (.inr (.inr (va_up (va_up (fun _ => none) 0 (some i0)) 1 (some i1))))))), (kp, .inl (G 2, 2, .inl fk)), (i0, .inr (9, [.int (nI N0), .int (nI B0), .int (nI D0), .ref ib1, .ref ib2, .ref ib3, .ref ib4, .ref ib5, .ref ib6])), (ib1, .inl (G 0, 10, .inl ibf1)), (ib2, .inl (G 0, 10, .inl ibf2)), (ib3, .inl (G 0, 10, .inl ibf3)), (ib4, .inl (G 0, 6, .inl ibf4)), (ib5, .inl (G 0, 6, .inl ibf5)), (ib6, .inl (G 0, 6, .inl ibf6)), (i1, .inr (9, [.int (nI N1), .int (nI B1), .int (nI D1), .ref id1, .ref id2, .ref id3, .ref id4, .ref id5, .ref id6])), (id1, .inl (G 0, 10, .inl idf1)), (id2, .inl (G 0, 10, .inl idf2)), (id3, .inl (G 0, 10, .inl idf3)), (id4, .inl (G 0, 6, .inl idf4)), (id5, .inl (G 0, 6, .inl idf5)), (id6, .inl (G 0, 6, .inl idf6))] sz) [(h0, .inr (10, [.ref rd, .ref wy, .ref tr, .ref im, .ref kp, .ref od, .ref ch, .ref cr, .ref le, .ref mk, .ref tl, .ref sh, .int tf, .int rf])), (wy, .inr (9, [.int (nI N), .int (nI B), .int (nI D), .ref a1, .ref a2, .ref a3, .ref a4, .ref a5, .ref a6])), (a1, .inl (G 0, 10, .inl f1)), (a2, .inl (G 0, 10, .inl f2)), (a3, .inl (G 0, 10, .inl f3)), (a4, .inl (G 0, 6, .inl f4)), (a5, .inl (G 0, 6, .inl f5)), (a6, .inl (G 0, 6, .inl f6)), (im, .inl (G 3, 2, .inr (.inr (.inr (.inr (va_up (va_up (fun _ => none) 0 (some i0)) 1 (some i1))))))), (kp, .inl (G 2, 2, .inl u18)), (i0, .inr (9, [.int (nI u0), .int (nI u1), .int (nI u2), .ref ib1, .ref ib2, .ref ib3, .ref ib4, .ref ib5, .ref ib6])), (ib1, .inl (G 0, 10, .inl u3)), (ib2, .inl (G 0, 10, .inl u4)), (ib3, .inl (G 0, 10, .inl u5)), (ib4, .inl (G 0, 6, .inl u6)), (ib5, .inl (G 0, 6, .inl u7)), (ib6, .inl (G 0, 6, .inl u8)), (i1, .inr (9, [.int (nI u9), .int (nI u10), .int (nI u11), .ref id1, .ref id2, .ref id3, .ref id4, .ref id5, .ref id6])), (id1, .inl (G 0, 10, .inl u12)), (id2, .inl (G 0, 10, .inl u13)), (id3, .inl (G 0, 10, .inl u14)), (id4, .inl (G 0, 6, .inl u15)), (id5, .inl (G 0, 6, .inl u16)), (id6, .inl (G 0, 6, .inl u17))]) (va_A [(h0, .inr (10, [.ref rd, .ref wy, .ref tr, .ref im, .ref kp, .ref od, .ref ch, .ref cr, .ref le, .ref mk, .ref tl, .ref sh, .int tf, .int rf])), (wy, .inr (9, [.int (nI N), .int (nI B), .int (nI D), .ref a1, .ref a2, .ref a3, .ref a4, .ref a5, .ref a6])), (a1, .inl (G 0, 10, .inl f1)), (a2, .inl (G 0, 10, .inl f2)), (a3, .inl (G 0, 10, .inl f3)), (a4, .inl (G 0, 6, .inl f4)), (a5, .inl (G 0, 6, .inl f5)), (a6, .inl (G 0, 6, .inl f6)), (im, .inl (G 3, 2, .inr (.inr (.inr (.inr (va_up (va_up (fun _ => none) 0 (some i0)) 1 (some i1))))))), (kp, .inl (G 2, 2, .inl fk)), (i0, .inr (9, [.int (nI N0), .int (nI B0), .int (nI D0), .ref ib1, .ref ib2, .ref ib3, .ref ib4, .ref ib5, .ref ib6])), (ib1, .inl (G 0, 10, .inl ibf1)), (ib2, .inl (G 0, 10, .inl ibf2)), (ib3, .inl (G 0, 10, .inl ibf3)), (ib4, .inl (G 0, 6, .inl ibf4)), (ib5, .inl (G 0, 6, .inl ibf5)), (ib6, .inl (G 0, 6, .inl ibf6)), (i1, .inr (9, [.int (nI N1), .int (nI B1), .int (nI D1), .ref id1, .ref id2, .ref id3, .ref id4, .ref id5, .ref id6])), (id1, .inl (G 0, 10, .inl idf1)), (id2, .inl (G 0, 10, .inl idf2)), (id3, .inl (G 0, 10, .inl idf3)), (id4, .inl (G 0, 6, .inl idf4)), (id5, .inl (G 0, 6, .inl idf5)), (id6, .inl (G 0, 6, .inl idf6))] sz)) 0 0 (va_A [(h0, .inr (10, [.ref rd, .ref wy, .ref tr, .ref im, .ref kp, .ref od, .ref ch, .ref cr, .ref le, .ref mk, .ref tl, .ref sh, .int tf, .int rf])), (wy, .inr (9, [.int (nI N), .int (nI B), .int (nI D), .ref a1, .ref a2, .ref a3, .ref a4, .ref a5, .ref a6])), (a1, .inl (G 0, 10, .inl f1)), (a2, .inl (G 0, 10, .inl f2)), (a3, .inl (G 0, 10, .inl f3)), (a4, .inl (G 0, 6, .inl f4)), (a5, .inl (G 0, 6, .inl f5)), (a6, .inl (G 0, 6, .inl f6)), (im, .inl (G 3, 2, .inr (.inr (.inr (.inr (va_up (va_up (fun _ => none) 0 (some i0)) 1 (some i1))))))), (kp, .inl (G 2, 2, .inl fk)), (i0, .inr (9, [.int (nI N0), .int (nI B0), .int (nI D0), .ref ib1, .ref ib2, .ref ib3, .ref ib4, .ref ib5, .ref ib6])), (ib1, .inl (G 0, 10, .inl ibf1)), (ib2, .inl (G 0, 10, .inl ibf2)), (ib3, .inl (G 0, 10, .inl ibf3)), (ib4, .inl (G 0, 6, .inl ibf4)), (ib5, .inl (G 0, 6, .inl ibf5)), (ib6, .inl (G 0, 6, .inl ibf6)), (i1, .inr (9, [.int (nI N1), .int (nI B1), .int (nI D1), .ref id1, .ref id2, .ref id3, .ref id4, .ref id5, .ref id6])), (id1, .inl (G 0, 10, .inl idf1)), (id2, .inl (G 0, 10, .inl idf2)), (id3, .inl (G 0, 10, .inl idf3)), (id4, .inl (G 0, 6, .inl idf4)), (id5, .inl (G 0, 6, .inl idf5)), (id6, .inl (G 0, 6, .inl idf6))] sz) := by
  refine Met.ofW (cc := cX10_keep) (maxL := 3) (ret := (some .int)) (by decide) rfl ?_
  intro p e s m args below meth c s₁ Bd hml hv
  obtain ⟨rfl, hsz, hP, hK, hD0⟩ := hv
  have hx := Bd.exec
  have hb := Bd.bytes
  have hr := Bd.returns
  have hg : ∀ w ∈ GT, w.before ([.ref h0, .int k] : List Value).toArray s = true := fun w h => atoms_spec (ws := Cond.code yX10_keep cX10_keep 3 (some .int) :: GT) Bd.pre w (List.mem_cons_of_mem _ h)
  have hown : s.vm.findClass RX10 = some m.cls := findClass_of_methodNamed Bd.named
  have hlocks := Bd.notSynchronized
  subst hsz
  have hD := hD0.self (sz := s.heap.size)
  generalize hAe : va_A [(h0, .inr (10, [.ref rd, .ref wy, .ref tr, .ref im, .ref kp, .ref od, .ref ch, .ref cr, .ref le, .ref mk, .ref tl, .ref sh, .int tf, .int rf])), (wy, .inr (9, [.int (nI N), .int (nI B), .int (nI D), .ref a1, .ref a2, .ref a3, .ref a4, .ref a5, .ref a6])), (a1, .inl (G 0, 10, .inl f1)), (a2, .inl (G 0, 10, .inl f2)), (a3, .inl (G 0, 10, .inl f3)), (a4, .inl (G 0, 6, .inl f4)), (a5, .inl (G 0, 6, .inl f5)), (a6, .inl (G 0, 6, .inl f6)), (im, .inl (G 3, 2, .inr (.inr (.inr (.inr (va_up (va_up (fun _ => none) 0 (some i0)) 1 (some i1))))))), (kp, .inl (G 2, 2, .inl fk)), (i0, .inr (9, [.int (nI N0), .int (nI B0), .int (nI D0), .ref ib1, .ref ib2, .ref ib3, .ref ib4, .ref ib5, .ref ib6])), (ib1, .inl (G 0, 10, .inl ibf1)), (ib2, .inl (G 0, 10, .inl ibf2)), (ib3, .inl (G 0, 10, .inl ibf3)), (ib4, .inl (G 0, 6, .inl ibf4)), (ib5, .inl (G 0, 6, .inl ibf5)), (ib6, .inl (G 0, 6, .inl ibf6)), (i1, .inr (9, [.int (nI N1), .int (nI B1), .int (nI D1), .ref id1, .ref id2, .ref id3, .ref id4, .ref id5, .ref id6])), (id1, .inl (G 0, 10, .inl idf1)), (id2, .inl (G 0, 10, .inl idf2)), (id3, .inl (G 0, 10, .inl idf3)), (id4, .inl (G 0, 6, .inl idf4)), (id5, .inl (G 0, 6, .inl idf5)), (id6, .inl (G 0, 6, .inl idf6))] s.heap.size = A at hD ⊢
  have hA : ∀ q : Nat, s.heap.size ≤ q → A q := fun q h => by rw [← hAe]; exact Or.inr h
  have hS : va_S A s.heap s.heap [] := va_S.rf
  have hl := lv_entry ([.ref h0, .int k]) (n := 3) (Nat.le_of_ble_eq_true rfl)
  rw [lg_entry_eq]
  generalize (lg_sl ([.ref h0, .int k]) ++ List.replicate (3 - (lg_sl ([.ref h0, .int k])).length) Slot.unset).toArray = ls at hl ⊢
  have hl : lv_has ls 3 [(0, .ref h0), (1, .int k)] := hl
  refine lv_iload_n hx hb dX10_keep_0 rfl (lv_at hl 1 rfl) ?_
  have hPc := hP.sub (ws' := []) [] rfl
  refine va_calli (va_runS (As := [.int k]) (rest := []) ⟨hx, hb, hml, hown, hg⟩ (c_X10_isImage l dC dI G _ k ) (kwS hg mfX10_isImage wt_812 ⟨Nat.le_of_ble_eq_true rfl, Nat.le_of_ble_eq_true rfl⟩) (preSR hK hPc) rfl rfl hl.1 rfl (lv_room (Nat.le_of_ble_eq_true rfl)) dX10_keep_1 ⟨Nat.le_of_ble_eq_true rfl, Nat.le_of_ble_eq_true rfl⟩) hS (fun q h1 h2 => absurd h2 (Nat.not_le.mpr h1)) (fun q h => hA q (Nat.le_trans hS.1 h)) (fun r1 ur1 t H1 locs ht hvm w2 hB hz1 hk1 hS => ?_)
  have hP := keepR hP hk1
  obtain ⟨w2, w2x⟩ := w2
  try simp only [l_ii, show (0 : Int32).toInt = 0 from by decide, show (2 : Int32).toInt = 2 from by decide] at w2
  subst w2
  refine lv_if_ne (tgt := 9) hx hb dX10_keep_4 (by decide) (fun c3 => ?_) (fun c3 => ?_)
  · skip
    have b4 := if10_p c3
    have hsp : k = 0 ∨ k = 1 := by
      have t_b4 := b4
      have t_n0 : (nI N).toInt = (N : Int) := nI_toInt (by omega)
      have t_n1 : (nI B).toInt = (B : Int) := nI_toInt (by omega)
      have t_n2 : (nI D).toInt = (D : Int) := nI_toInt (by omega)
      have t_n3 : (nI N0).toInt = (N0 : Int) := nI_toInt (by omega)
      have t_n4 : (nI B0).toInt = (B0 : Int) := nI_toInt (by omega)
      have t_n5 : (nI D0).toInt = (D0 : Int) := nI_toInt (by omega)
      have t_n6 : (nI N1).toInt = (N1 : Int) := nI_toInt (by omega)
      have t_n7 : (nI B1).toInt = (B1 : Int) := nI_toInt (by omega)
      have t_n8 : (nI D1).toInt = (D1 : Int) := nI_toInt (by omega)
      have : (0 : Int32).toInt = 0 := by decide
      have : (1 : Int32).toInt = 1 := by decide
      rcases (show k.toInt = 0 ∨ k.toInt = 1 by omega) with q | q
      · exact Or.inl (Int32.toInt_inj.mp (by rw [q]; rfl))
      · exact Or.inr ((Int32.toInt_inj.mp (by rw [q]; rfl)))
    rcases hsp with rfl | rfl
    · skip
      refine lv_aload_n hx hb dX10_keep_9 rfl (lv_at hl 0 rfl) ?_
      refine va_get (D := (dC, dI)) (ci := 10) (v := .ref kp) (C := RX10) (T := TX10) (N := 14) hx hb hg inG10 hown hK.1 hP 0 rfl rfl 4 (by decide) (hg _ wt_306) (fun _ h9 => h9) rfl dX10_keep_10 ?_
      refine lv_iload_n hx hb dX10_keep_13 rfl (lv_at hl 1 rfl) ?_
      refine va_zald hx hb hK.1 hP 9 2 rfl rfl (vp_in_iff.mpr ⟨by decide, by decide⟩) dX10_keep_14 ?_
      refine lv_cg (y := fk 0) (by rfl) ?_
      refine lv_if_eq (tgt := 22) hx hb dX10_keep_15 (by decide) (fun c5 => ?_) (fun c5 => ?_)
      · skip
        refine lv_iconst (v := 0) hx hb dX10_keep_22 (by decide) ?_
        refine lv_istore_n (lv' := [(2, .int 0), (0, .ref h0), (1, .int 0)]) hx hb dX10_keep_23 rfl hl (by decide) rfl (fun ls hl => ?_)
        refine lv_aload_n hx hb dX10_keep_24 rfl (lv_at hl 1 rfl) ?_
        refine va_get (D := (dC, dI)) (ci := 10) (v := .ref im) (C := RX10) (T := TX10) (N := 14) hx hb hg inG10 hown hK.1 hP 0 rfl rfl 3 (by decide) (hg _ wt_305) (fun _ h9 => h9) rfl dX10_keep_25 ?_
        refine lv_iload_n hx hb dX10_keep_28 rfl (lv_at hl 2 rfl) ?_
        refine va_aldq hx hb hK.1 hP 8 3 rfl rfl (vp_in_iff.mpr ⟨by decide, by decide⟩) dX10_keep_29 ?_
        refine lv_cgv (y := .ref i0) (by rfl) ?_
        refine lv_aload_n hx hb dX10_keep_30 rfl (lv_at hl 1 rfl) ?_
        refine va_get (D := (dC, dI)) (ci := 10) (v := .ref wy) (C := RX10) (T := TX10) (N := 14) hx hb hg inG10 hown hK.1 hP 0 rfl rfl 1 (by decide) (hg _ wt_303) (fun _ h9 => h9) rfl dX10_keep_31 ?_
        have hPc := hP.sub (ws' := [(i0, .inr (9, [.int (nI N0), .int (nI B0), .int (nI D0), .ref ib1, .ref ib2, .ref ib3, .ref ib4, .ref ib5, .ref ib6])), (ib1, .inl (G 0, 10, .inl ibf1)), (ib2, .inl (G 0, 10, .inl ibf2)), (ib3, .inl (G 0, 10, .inl ibf3)), (ib4, .inl (G 0, 6, .inl ibf4)), (ib5, .inl (G 0, 6, .inl ibf5)), (ib6, .inl (G 0, 6, .inl ibf6)), (wy, .inr (9, [.int (nI N), .int (nI B), .int (nI D), .ref a1, .ref a2, .ref a3, .ref a4, .ref a5, .ref a6])), (a1, .inl (G 0, 10, .inl f1)), (a2, .inl (G 0, 10, .inl f2)), (a3, .inl (G 0, 10, .inl f3)), (a4, .inl (G 0, 6, .inl f4)), (a5, .inl (G 0, 6, .inl f5)), (a6, .inl (G 0, 6, .inl f6))]) [10, 11, 12, 13, 14, 15, 16, 1, 2, 3, 4, 5, 6, 7] rfl
        have hDc := hD.sub (ws' := [(i0, .inr (9, [.int (nI N0), .int (nI B0), .int (nI D0), .ref ib1, .ref ib2, .ref ib3, .ref ib4, .ref ib5, .ref ib6])), (ib1, .inl (G 0, 10, .inl ibf1)), (ib2, .inl (G 0, 10, .inl ibf2)), (ib3, .inl (G 0, 10, .inl ibf3)), (ib4, .inl (G 0, 6, .inl ibf4)), (ib5, .inl (G 0, 6, .inl ibf5)), (ib6, .inl (G 0, 6, .inl ibf6)), (wy, .inr (9, [.int (nI N), .int (nI B), .int (nI D), .ref a1, .ref a2, .ref a3, .ref a4, .ref a5, .ref a6])), (a1, .inl (G 0, 10, .inl f1)), (a2, .inl (G 0, 10, .inl f2)), (a3, .inl (G 0, 10, .inl f3)), (a4, .inl (G 0, 6, .inl f4)), (a5, .inl (G 0, 6, .inl f5)), (a6, .inl (G 0, 6, .inl f6))]) [10, 11, 12, 13, 14, 15, 16, 1, 2, 3, 4, 5, 6, 7] (by decide) rfl
        have hFc := va_free (wc := [(i0, .inr (9, [.int (nI N0), .int (nI B0), .int (nI D0), .ref ib1, .ref ib2, .ref ib3, .ref ib4, .ref ib5, .ref ib6])), (ib1, .inl (G 0, 10, .inl ibf1)), (ib2, .inl (G 0, 10, .inl ibf2)), (ib3, .inl (G 0, 10, .inl ibf3)), (ib4, .inl (G 0, 6, .inl ibf4)), (ib5, .inl (G 0, 6, .inl ibf5)), (ib6, .inl (G 0, 6, .inl ibf6)), (wy, .inr (9, [.int (nI N), .int (nI B), .int (nI D), .ref a1, .ref a2, .ref a3, .ref a4, .ref a5, .ref a6])), (a1, .inl (G 0, 10, .inl f1)), (a2, .inl (G 0, 10, .inl f2)), (a3, .inl (G 0, 10, .inl f3)), (a4, .inl (G 0, 6, .inl f4)), (a5, .inl (G 0, 6, .inl f5)), (a6, .inl (G 0, 6, .inl f6))]) hD hS hA [10, 11, 12, 13, 14, 15, 16, 1, 2, 3, 4, 5, 6, 7] rfl
        refine va_callv (va_runVN (As := [.ref wy]) (rest := []) ⟨hx, hb, hml, hown, hg⟩ (c_X9_copyOf l dC dI G _ i0 wy ib1 ib2 ib3 ib4 ib5 ib6 a1 a2 a3 a4 a5 a6 (nI N0) (nI B0) (nI D0) (nI N) (nI B) (nI D) ibf1 ibf2 ibf3 ibf4 ibf5 ibf6 f1 f2 f3 f4 f5 f6 ) (kwVN hg hK mfX9_copyOf wn_507 ⟨Nat.le_of_ble_eq_true rfl, Nat.le_of_ble_eq_true rfl⟩) (preVW hK hPc hDc (ci := 9) rfl rfl) rfl rfl hl.1 rfl (lv_room (Nat.le_of_ble_eq_true rfl)) dX10_keep_34 ⟨Nat.le_of_ble_eq_true rfl, Nat.le_of_ble_eq_true rfl⟩) hS (fun q _ h => hFc q h) hFc (fun ur6 t H1 locs ht hvm w7 hB hz1 hk1 hS => ?_)
        obtain ⟨u8, u9, u10, u11, u12, u13⟩ := ur6
        obtain ⟨hP1, hD1⟩ := hB
        rw [ht] at hP1
        obtain ⟨hP, hD⟩ := va_join (wr := [(h0, .inr (10, [.ref rd, .ref wy, .ref tr, .ref im, .ref kp, .ref od, .ref ch, .ref cr, .ref le, .ref mk, .ref tl, .ref sh, .int tf, .int rf])), (im, .inl (G 3, 2, .inr (.inr (.inr (.inr (va_up (va_up (fun _ => none) 0 (some i0)) 1 (some i1))))))), (kp, .inl (G 2, 2, .inl fk)), (i1, .inr (9, [.int (nI N1), .int (nI B1), .int (nI D1), .ref id1, .ref id2, .ref id3, .ref id4, .ref id5, .ref id6])), (id1, .inl (G 0, 10, .inl idf1)), (id2, .inl (G 0, 10, .inl idf2)), (id3, .inl (G 0, 10, .inl idf3)), (id4, .inl (G 0, 6, .inl idf4)), (id5, .inl (G 0, 6, .inl idf5)), (id6, .inl (G 0, 6, .inl idf6))]) (w1 := [(i0, .inr (9, [.int (nI N), .int (nI B), .int (nI D), .ref ib1, .ref ib2, .ref ib3, .ref ib4, .ref ib5, .ref ib6])), (ib1, .inl (G 0, 10, .inl u8)), (ib2, .inl (G 0, 10, .inl u9)), (ib3, .inl (G 0, 10, .inl u10)), (ib4, .inl (G 0, 6, .inl u11)), (ib5, .inl (G 0, 6, .inl u12)), (ib6, .inl (G 0, 6, .inl u13)), (wy, .inr (9, [.int (nI N), .int (nI B), .int (nI D), .ref a1, .ref a2, .ref a3, .ref a4, .ref a5, .ref a6])), (a1, .inl (G 0, 10, .inl f1)), (a2, .inl (G 0, 10, .inl f2)), (a3, .inl (G 0, 10, .inl f3)), (a4, .inl (G 0, 6, .inl f4)), (a5, .inl (G 0, 6, .inl f5)), (a6, .inl (G 0, 6, .inl f6))]) hP hD [10, 11, 12, 13, 14, 15, 16, 1, 2, 3, 4, 5, 6, 7] [0, 8, 9, 17, 18, 19, 20, 21, 22, 23] rfl rfl (by decide) (by decide) hk1 hFc hP1 hD1
        generalize H1 = H at hP hS ⊢
        have hP : va_P (dC, dI) vwCl [(h0, .inr (10, [.ref rd, .ref wy, .ref tr, .ref im, .ref kp, .ref od, .ref ch, .ref cr, .ref le, .ref mk, .ref tl, .ref sh, .int tf, .int rf])), (im, .inl (G 3, 2, .inr (.inr (.inr (.inr (va_up (va_up (fun _ => none) 0 (some i0)) 1 (some i1))))))), (kp, .inl (G 2, 2, .inl fk)), (i1, .inr (9, [.int (nI N1), .int (nI B1), .int (nI D1), .ref id1, .ref id2, .ref id3, .ref id4, .ref id5, .ref id6])), (id1, .inl (G 0, 10, .inl idf1)), (id2, .inl (G 0, 10, .inl idf2)), (id3, .inl (G 0, 10, .inl idf3)), (id4, .inl (G 0, 6, .inl idf4)), (id5, .inl (G 0, 6, .inl idf5)), (id6, .inl (G 0, 6, .inl idf6)), (i0, .inr (9, [.int (nI N), .int (nI B), .int (nI D), .ref ib1, .ref ib2, .ref ib3, .ref ib4, .ref ib5, .ref ib6])), (ib1, .inl (G 0, 10, .inl u8)), (ib2, .inl (G 0, 10, .inl u9)), (ib3, .inl (G 0, 10, .inl u10)), (ib4, .inl (G 0, 6, .inl u11)), (ib5, .inl (G 0, 6, .inl u12)), (ib6, .inl (G 0, 6, .inl u13)), (wy, .inr (9, [.int (nI N), .int (nI B), .int (nI D), .ref a1, .ref a2, .ref a3, .ref a4, .ref a5, .ref a6])), (a1, .inl (G 0, 10, .inl f1)), (a2, .inl (G 0, 10, .inl f2)), (a3, .inl (G 0, 10, .inl f3)), (a4, .inl (G 0, 6, .inl f4)), (a5, .inl (G 0, 6, .inl f5)), (a6, .inl (G 0, 6, .inl f6))] H := hP
        have hD : va_D A [(h0, .inr (10, [.ref rd, .ref wy, .ref tr, .ref im, .ref kp, .ref od, .ref ch, .ref cr, .ref le, .ref mk, .ref tl, .ref sh, .int tf, .int rf])), (im, .inl (G 3, 2, .inr (.inr (.inr (.inr (va_up (va_up (fun _ => none) 0 (some i0)) 1 (some i1))))))), (kp, .inl (G 2, 2, .inl fk)), (i1, .inr (9, [.int (nI N1), .int (nI B1), .int (nI D1), .ref id1, .ref id2, .ref id3, .ref id4, .ref id5, .ref id6])), (id1, .inl (G 0, 10, .inl idf1)), (id2, .inl (G 0, 10, .inl idf2)), (id3, .inl (G 0, 10, .inl idf3)), (id4, .inl (G 0, 6, .inl idf4)), (id5, .inl (G 0, 6, .inl idf5)), (id6, .inl (G 0, 6, .inl idf6)), (i0, .inr (9, [.int (nI N), .int (nI B), .int (nI D), .ref ib1, .ref ib2, .ref ib3, .ref ib4, .ref ib5, .ref ib6])), (ib1, .inl (G 0, 10, .inl u8)), (ib2, .inl (G 0, 10, .inl u9)), (ib3, .inl (G 0, 10, .inl u10)), (ib4, .inl (G 0, 6, .inl u11)), (ib5, .inl (G 0, 6, .inl u12)), (ib6, .inl (G 0, 6, .inl u13)), (wy, .inr (9, [.int (nI N), .int (nI B), .int (nI D), .ref a1, .ref a2, .ref a3, .ref a4, .ref a5, .ref a6])), (a1, .inl (G 0, 10, .inl f1)), (a2, .inl (G 0, 10, .inl f2)), (a3, .inl (G 0, 10, .inl f3)), (a4, .inl (G 0, 6, .inl f4)), (a5, .inl (G 0, 6, .inl f5)), (a6, .inl (G 0, 6, .inl f6))] := hD
        refine lv_aload_n hx hb dX10_keep_37 rfl (lv_at hl 1 rfl) ?_
        refine va_get (D := (dC, dI)) (ci := 10) (v := .ref kp) (C := RX10) (T := TX10) (N := 14) hx hb hg inG10 hown hK.1 hP 0 rfl rfl 4 (by decide) (hg _ wt_306) (fun _ h9 => h9) rfl dX10_keep_38 ?_
        refine lv_iload_n hx hb dX10_keep_41 rfl (lv_at hl 2 rfl) ?_
        refine lv_iconst (v := 1) hx hb dX10_keep_42 (by decide) ?_
        refine va_zast hx hb hK.1 hP hD hS 2 2 rfl rfl (vp_in_iff.mpr ⟨by decide, by decide⟩) dX10_keep_43 (fun H locs hP hD hS => ?_)
        have hP : va_P (dC, dI) vwCl [(h0, .inr (10, [.ref rd, .ref wy, .ref tr, .ref im, .ref kp, .ref od, .ref ch, .ref cr, .ref le, .ref mk, .ref tl, .ref sh, .int tf, .int rf])), (im, .inl (G 3, 2, .inr (.inr (.inr (.inr (va_up (va_up (fun _ => none) 0 (some i0)) 1 (some i1))))))), (kp, .inl (G 2, 2, .inl (upd fk 0 (vp_nar .boolean 1)))), (i1, .inr (9, [.int (nI N1), .int (nI B1), .int (nI D1), .ref id1, .ref id2, .ref id3, .ref id4, .ref id5, .ref id6])), (id1, .inl (G 0, 10, .inl idf1)), (id2, .inl (G 0, 10, .inl idf2)), (id3, .inl (G 0, 10, .inl idf3)), (id4, .inl (G 0, 6, .inl idf4)), (id5, .inl (G 0, 6, .inl idf5)), (id6, .inl (G 0, 6, .inl idf6)), (i0, .inr (9, [.int (nI N), .int (nI B), .int (nI D), .ref ib1, .ref ib2, .ref ib3, .ref ib4, .ref ib5, .ref ib6])), (ib1, .inl (G 0, 10, .inl u8)), (ib2, .inl (G 0, 10, .inl u9)), (ib3, .inl (G 0, 10, .inl u10)), (ib4, .inl (G 0, 6, .inl u11)), (ib5, .inl (G 0, 6, .inl u12)), (ib6, .inl (G 0, 6, .inl u13)), (wy, .inr (9, [.int (nI N), .int (nI B), .int (nI D), .ref a1, .ref a2, .ref a3, .ref a4, .ref a5, .ref a6])), (a1, .inl (G 0, 10, .inl f1)), (a2, .inl (G 0, 10, .inl f2)), (a3, .inl (G 0, 10, .inl f3)), (a4, .inl (G 0, 6, .inl f4)), (a5, .inl (G 0, 6, .inl f5)), (a6, .inl (G 0, 6, .inl f6))] H := hP
        have hD : va_D A [(h0, .inr (10, [.ref rd, .ref wy, .ref tr, .ref im, .ref kp, .ref od, .ref ch, .ref cr, .ref le, .ref mk, .ref tl, .ref sh, .int tf, .int rf])), (im, .inl (G 3, 2, .inr (.inr (.inr (.inr (va_up (va_up (fun _ => none) 0 (some i0)) 1 (some i1))))))), (kp, .inl (G 2, 2, .inl (upd fk 0 (vp_nar .boolean 1)))), (i1, .inr (9, [.int (nI N1), .int (nI B1), .int (nI D1), .ref id1, .ref id2, .ref id3, .ref id4, .ref id5, .ref id6])), (id1, .inl (G 0, 10, .inl idf1)), (id2, .inl (G 0, 10, .inl idf2)), (id3, .inl (G 0, 10, .inl idf3)), (id4, .inl (G 0, 6, .inl idf4)), (id5, .inl (G 0, 6, .inl idf5)), (id6, .inl (G 0, 6, .inl idf6)), (i0, .inr (9, [.int (nI N), .int (nI B), .int (nI D), .ref ib1, .ref ib2, .ref ib3, .ref ib4, .ref ib5, .ref ib6])), (ib1, .inl (G 0, 10, .inl u8)), (ib2, .inl (G 0, 10, .inl u9)), (ib3, .inl (G 0, 10, .inl u10)), (ib4, .inl (G 0, 6, .inl u11)), (ib5, .inl (G 0, 6, .inl u12)), (ib6, .inl (G 0, 6, .inl u13)), (wy, .inr (9, [.int (nI N), .int (nI B), .int (nI D), .ref a1, .ref a2, .ref a3, .ref a4, .ref a5, .ref a6])), (a1, .inl (G 0, 10, .inl f1)), (a2, .inl (G 0, 10, .inl f2)), (a3, .inl (G 0, 10, .inl f3)), (a4, .inl (G 0, 6, .inl f4)), (a5, .inl (G 0, 6, .inl f5)), (a6, .inl (G 0, 6, .inl f6))] := hD
        refine lv_iload_n hx hb dX10_keep_44 rfl (lv_at hl 0 rfl) ?_
        have hpost : (0 : Int32) = if (0 ≤ (0 : Int32).toInt ∧ (0 : Int32).toInt < 2) then (if fk (0 : Int32).toNatClampNeg = 0 then 0 else 1) else -1 := by
          have t_c5 := eqI c5
          have : (0 : Int32).toInt = 0 := (by decide)
          have t_n0 : (nI N).toInt = (N : Int) := nI_toInt (by omega)
          have t_n1 : (nI B).toInt = (B : Int) := nI_toInt (by omega)
          have t_n2 : (nI D).toInt = (D : Int) := nI_toInt (by omega)
          have t_n3 : (nI N0).toInt = (N0 : Int) := nI_toInt (by omega)
          have t_n4 : (nI B0).toInt = (B0 : Int) := nI_toInt (by omega)
          have t_n5 : (nI D0).toInt = (D0 : Int) := nI_toInt (by omega)
          have t_n6 : (nI N1).toInt = (N1 : Int) := nI_toInt (by omega)
          have t_n7 : (nI B1).toInt = (B1 : Int) := nI_toInt (by omega)
          have t_n8 : (nI D1).toInt = (D1 : Int) := nI_toInt (by omega)
          have z0 : (0 : Int32).toInt = 0 := (by decide)
          have z1 : (1 : Int32).toInt = 1 := (by decide)
          have z2 : (2 : Int32).toInt = 2 := (by decide)
          have z3 : (3 : Int32).toInt = 3 := (by decide)
          have z5 : (5 : Int32).toInt = 5 := (by decide)
          have z9 : (9 : Int32).toInt = 9 := (by decide)
          have z20 : (20 : Int32).toInt = 20 := (by decide)
          have z4 : (-4 : Int32).toInt = -4 := (by decide)
          have z10 : (10 : Int32).toInt = 10 := (by decide)
          have k0 : (0 : Int32).toNatClampNeg = 0 := (by decide)
          have k1 : (1 : Int32).toNatClampNeg = 1 := (by decide)
          first | (rw [if_neg (by omega)]; done) | (rw [if_pos (by decide)]; (try rw [k0]); (try rw [k1]); first | (rw [if_pos (by assumption)]; done) | (rw [if_neg (by assumption)]; done))
        have hP9 := hP.sub (ws' := [(h0, .inr (10, [.ref rd, .ref wy, .ref tr, .ref im, .ref kp, .ref od, .ref ch, .ref cr, .ref le, .ref mk, .ref tl, .ref sh, .int tf, .int rf])), (wy, .inr (9, [.int (nI N), .int (nI B), .int (nI D), .ref a1, .ref a2, .ref a3, .ref a4, .ref a5, .ref a6])), (a1, .inl (G 0, 10, .inl f1)), (a2, .inl (G 0, 10, .inl f2)), (a3, .inl (G 0, 10, .inl f3)), (a4, .inl (G 0, 6, .inl f4)), (a5, .inl (G 0, 6, .inl f5)), (a6, .inl (G 0, 6, .inl f6)), (im, .inl (G 3, 2, .inr (.inr (.inr (.inr (va_up (va_up (fun _ => none) 0 (some i0)) 1 (some i1))))))), (kp, .inl (G 2, 2, .inl (upd fk 0 (vp_nar .boolean 1)))), (i0, .inr (9, [.int (nI N), .int (nI B), .int (nI D), .ref ib1, .ref ib2, .ref ib3, .ref ib4, .ref ib5, .ref ib6])), (ib1, .inl (G 0, 10, .inl u8)), (ib2, .inl (G 0, 10, .inl u9)), (ib3, .inl (G 0, 10, .inl u10)), (ib4, .inl (G 0, 6, .inl u11)), (ib5, .inl (G 0, 6, .inl u12)), (ib6, .inl (G 0, 6, .inl u13)), (i1, .inr (9, [.int (nI N1), .int (nI B1), .int (nI D1), .ref id1, .ref id2, .ref id3, .ref id4, .ref id5, .ref id6])), (id1, .inl (G 0, 10, .inl idf1)), (id2, .inl (G 0, 10, .inl idf2)), (id3, .inl (G 0, 10, .inl idf3)), (id4, .inl (G 0, 6, .inl idf4)), (id5, .inl (G 0, 6, .inl idf5)), (id6, .inl (G 0, 6, .inl idf6))]) [0, 17, 18, 19, 20, 21, 22, 23, 1, 2, 10, 11, 12, 13, 14, 15, 16, 3, 4, 5, 6, 7, 8, 9] rfl
        have hD9 := hD.sub (ws' := [(h0, .inr (10, [.ref rd, .ref wy, .ref tr, .ref im, .ref kp, .ref od, .ref ch, .ref cr, .ref le, .ref mk, .ref tl, .ref sh, .int tf, .int rf])), (wy, .inr (9, [.int (nI N), .int (nI B), .int (nI D), .ref a1, .ref a2, .ref a3, .ref a4, .ref a5, .ref a6])), (a1, .inl (G 0, 10, .inl f1)), (a2, .inl (G 0, 10, .inl f2)), (a3, .inl (G 0, 10, .inl f3)), (a4, .inl (G 0, 6, .inl f4)), (a5, .inl (G 0, 6, .inl f5)), (a6, .inl (G 0, 6, .inl f6)), (im, .inl (G 3, 2, .inr (.inr (.inr (.inr (va_up (va_up (fun _ => none) 0 (some i0)) 1 (some i1))))))), (kp, .inl (G 2, 2, .inl (upd fk 0 (vp_nar .boolean 1)))), (i0, .inr (9, [.int (nI N), .int (nI B), .int (nI D), .ref ib1, .ref ib2, .ref ib3, .ref ib4, .ref ib5, .ref ib6])), (ib1, .inl (G 0, 10, .inl u8)), (ib2, .inl (G 0, 10, .inl u9)), (ib3, .inl (G 0, 10, .inl u10)), (ib4, .inl (G 0, 6, .inl u11)), (ib5, .inl (G 0, 6, .inl u12)), (ib6, .inl (G 0, 6, .inl u13)), (i1, .inr (9, [.int (nI N1), .int (nI B1), .int (nI D1), .ref id1, .ref id2, .ref id3, .ref id4, .ref id5, .ref id6])), (id1, .inl (G 0, 10, .inl idf1)), (id2, .inl (G 0, 10, .inl idf2)), (id3, .inl (G 0, 10, .inl idf3)), (id4, .inl (G 0, 6, .inl idf4)), (id5, .inl (G 0, 6, .inl idf5)), (id6, .inl (G 0, 6, .inl idf6))]) [0, 17, 18, 19, 20, 21, 22, 23, 1, 2, 10, 11, 12, 13, 14, 15, 16, 3, 4, 5, 6, 7, 8, 9] (by decide) rfl
        refine W.widen (k := 0) (n := 0) (by omega) (by omega) ?_
        exact W.iret (v := 0) hx hb hr (fun t ht hW => ⟨⟨0, (N, B, D, u8, u9, u10, u11, u12, u13, N1, B1, D1, idf1, idf2, idf3, idf4, idf5, idf6, (upd fk 0 (vp_nar .boolean 1))), rfl, ⟨hpost, (by have t_c5 := eqI c5; have : (0 : Int32).toInt = 0 := (by decide); have t_n0 : (nI N).toInt = (N : Int) := nI_toInt (by omega); have t_n1 : (nI B).toInt = (B : Int) := nI_toInt (by omega); have t_n2 : (nI D).toInt = (D : Int) := nI_toInt (by omega); have t_n3 : (nI N0).toInt = (N0 : Int) := nI_toInt (by omega); have t_n4 : (nI B0).toInt = (B0 : Int) := nI_toInt (by omega); have t_n5 : (nI D0).toInt = (D0 : Int) := nI_toInt (by omega); have t_n6 : (nI N1).toInt = (N1 : Int) := nI_toInt (by omega); have t_n7 : (nI B1).toInt = (B1 : Int) := nI_toInt (by omega); have t_n8 : (nI D1).toInt = (D1 : Int) := nI_toInt (by omega); have z0 : (0 : Int32).toInt = 0 := (by decide); have z1 : (1 : Int32).toInt = 1 := (by decide); have z2 : (2 : Int32).toInt = 2 := (by decide); have z3 : (3 : Int32).toInt = 3 := (by decide); have z5 : (5 : Int32).toInt = 5 := (by decide); have z9 : (9 : Int32).toInt = 9 := (by decide); have z20 : (20 : Int32).toInt = 20 := (by decide); have z4 : (-4 : Int32).toInt = -4 := (by decide); have z10 : (10 : Int32).toInt = 10 := (by decide); have k0 : (0 : Int32).toNatClampNeg = 0 := (by decide); have k1 : (1 : Int32).toNatClampNeg = 1 := (by decide); refine ⟨⟨⟨by omega, by omega, by omega, by omega⟩, ⟨by omega, by omega, by omega, by omega⟩⟩, ?_, ?_, ?_, ?_, ?_⟩ <;> (first | done | rfl | omega | (rw [if_neg (by assumption)]; done) | (rw [if_neg (by decide)]; done) | (rw [if_pos (by decide)]; first | done | rfl | (rw [k0]; rfl) | (rw [k1]; rfl)) | (rw [if_pos rfl]; done) | (rw [if_neg (by omega)]; done) | (rw [if_neg (fun e9 => by have e8 := congrArg Int32.toInt e9; omega)]; done)))⟩, ⟨by rw [ht]; exact hP9, hD9⟩⟩, hS.F ht⟩) hS.2.2 dX10_keep_45
      · skip
        refine lv_iconst (v := 1) hx hb dX10_keep_18 (by decide) ?_
        refine lv_goto (tgt := 23) hx hb dX10_keep_19 (by decide) ?_
        refine lv_istore_n (lv' := [(2, .int 1), (0, .ref h0), (1, .int 0)]) hx hb dX10_keep_23 rfl hl (by decide) rfl (fun ls hl => ?_)
        refine lv_aload_n hx hb dX10_keep_24 rfl (lv_at hl 1 rfl) ?_
        refine va_get (D := (dC, dI)) (ci := 10) (v := .ref im) (C := RX10) (T := TX10) (N := 14) hx hb hg inG10 hown hK.1 hP 0 rfl rfl 3 (by decide) (hg _ wt_305) (fun _ h9 => h9) rfl dX10_keep_25 ?_
        refine lv_iload_n hx hb dX10_keep_28 rfl (lv_at hl 2 rfl) ?_
        refine va_aldq hx hb hK.1 hP 8 3 rfl rfl (vp_in_iff.mpr ⟨by decide, by decide⟩) dX10_keep_29 ?_
        refine lv_cgv (y := .ref i0) (by rfl) ?_
        refine lv_aload_n hx hb dX10_keep_30 rfl (lv_at hl 1 rfl) ?_
        refine va_get (D := (dC, dI)) (ci := 10) (v := .ref wy) (C := RX10) (T := TX10) (N := 14) hx hb hg inG10 hown hK.1 hP 0 rfl rfl 1 (by decide) (hg _ wt_303) (fun _ h9 => h9) rfl dX10_keep_31 ?_
        have hPc := hP.sub (ws' := [(i0, .inr (9, [.int (nI N0), .int (nI B0), .int (nI D0), .ref ib1, .ref ib2, .ref ib3, .ref ib4, .ref ib5, .ref ib6])), (ib1, .inl (G 0, 10, .inl ibf1)), (ib2, .inl (G 0, 10, .inl ibf2)), (ib3, .inl (G 0, 10, .inl ibf3)), (ib4, .inl (G 0, 6, .inl ibf4)), (ib5, .inl (G 0, 6, .inl ibf5)), (ib6, .inl (G 0, 6, .inl ibf6)), (wy, .inr (9, [.int (nI N), .int (nI B), .int (nI D), .ref a1, .ref a2, .ref a3, .ref a4, .ref a5, .ref a6])), (a1, .inl (G 0, 10, .inl f1)), (a2, .inl (G 0, 10, .inl f2)), (a3, .inl (G 0, 10, .inl f3)), (a4, .inl (G 0, 6, .inl f4)), (a5, .inl (G 0, 6, .inl f5)), (a6, .inl (G 0, 6, .inl f6))]) [10, 11, 12, 13, 14, 15, 16, 1, 2, 3, 4, 5, 6, 7] rfl
        have hDc := hD.sub (ws' := [(i0, .inr (9, [.int (nI N0), .int (nI B0), .int (nI D0), .ref ib1, .ref ib2, .ref ib3, .ref ib4, .ref ib5, .ref ib6])), (ib1, .inl (G 0, 10, .inl ibf1)), (ib2, .inl (G 0, 10, .inl ibf2)), (ib3, .inl (G 0, 10, .inl ibf3)), (ib4, .inl (G 0, 6, .inl ibf4)), (ib5, .inl (G 0, 6, .inl ibf5)), (ib6, .inl (G 0, 6, .inl ibf6)), (wy, .inr (9, [.int (nI N), .int (nI B), .int (nI D), .ref a1, .ref a2, .ref a3, .ref a4, .ref a5, .ref a6])), (a1, .inl (G 0, 10, .inl f1)), (a2, .inl (G 0, 10, .inl f2)), (a3, .inl (G 0, 10, .inl f3)), (a4, .inl (G 0, 6, .inl f4)), (a5, .inl (G 0, 6, .inl f5)), (a6, .inl (G 0, 6, .inl f6))]) [10, 11, 12, 13, 14, 15, 16, 1, 2, 3, 4, 5, 6, 7] (by decide) rfl
        have hFc := va_free (wc := [(i0, .inr (9, [.int (nI N0), .int (nI B0), .int (nI D0), .ref ib1, .ref ib2, .ref ib3, .ref ib4, .ref ib5, .ref ib6])), (ib1, .inl (G 0, 10, .inl ibf1)), (ib2, .inl (G 0, 10, .inl ibf2)), (ib3, .inl (G 0, 10, .inl ibf3)), (ib4, .inl (G 0, 6, .inl ibf4)), (ib5, .inl (G 0, 6, .inl ibf5)), (ib6, .inl (G 0, 6, .inl ibf6)), (wy, .inr (9, [.int (nI N), .int (nI B), .int (nI D), .ref a1, .ref a2, .ref a3, .ref a4, .ref a5, .ref a6])), (a1, .inl (G 0, 10, .inl f1)), (a2, .inl (G 0, 10, .inl f2)), (a3, .inl (G 0, 10, .inl f3)), (a4, .inl (G 0, 6, .inl f4)), (a5, .inl (G 0, 6, .inl f5)), (a6, .inl (G 0, 6, .inl f6))]) hD hS hA [10, 11, 12, 13, 14, 15, 16, 1, 2, 3, 4, 5, 6, 7] rfl
        refine va_callv (va_runVN (As := [.ref wy]) (rest := []) ⟨hx, hb, hml, hown, hg⟩ (c_X9_copyOf l dC dI G _ i0 wy ib1 ib2 ib3 ib4 ib5 ib6 a1 a2 a3 a4 a5 a6 (nI N0) (nI B0) (nI D0) (nI N) (nI B) (nI D) ibf1 ibf2 ibf3 ibf4 ibf5 ibf6 f1 f2 f3 f4 f5 f6 ) (kwVN hg hK mfX9_copyOf wn_507 ⟨Nat.le_of_ble_eq_true rfl, Nat.le_of_ble_eq_true rfl⟩) (preVW hK hPc hDc (ci := 9) rfl rfl) rfl rfl hl.1 rfl (lv_room (Nat.le_of_ble_eq_true rfl)) dX10_keep_34 ⟨Nat.le_of_ble_eq_true rfl, Nat.le_of_ble_eq_true rfl⟩) hS (fun q _ h => hFc q h) hFc (fun ur14 t H1 locs ht hvm w15 hB hz1 hk1 hS => ?_)
        obtain ⟨u16, u17, u18, u19, u20, u21⟩ := ur14
        obtain ⟨hP1, hD1⟩ := hB
        rw [ht] at hP1
        obtain ⟨hP, hD⟩ := va_join (wr := [(h0, .inr (10, [.ref rd, .ref wy, .ref tr, .ref im, .ref kp, .ref od, .ref ch, .ref cr, .ref le, .ref mk, .ref tl, .ref sh, .int tf, .int rf])), (im, .inl (G 3, 2, .inr (.inr (.inr (.inr (va_up (va_up (fun _ => none) 0 (some i0)) 1 (some i1))))))), (kp, .inl (G 2, 2, .inl fk)), (i1, .inr (9, [.int (nI N1), .int (nI B1), .int (nI D1), .ref id1, .ref id2, .ref id3, .ref id4, .ref id5, .ref id6])), (id1, .inl (G 0, 10, .inl idf1)), (id2, .inl (G 0, 10, .inl idf2)), (id3, .inl (G 0, 10, .inl idf3)), (id4, .inl (G 0, 6, .inl idf4)), (id5, .inl (G 0, 6, .inl idf5)), (id6, .inl (G 0, 6, .inl idf6))]) (w1 := [(i0, .inr (9, [.int (nI N), .int (nI B), .int (nI D), .ref ib1, .ref ib2, .ref ib3, .ref ib4, .ref ib5, .ref ib6])), (ib1, .inl (G 0, 10, .inl u16)), (ib2, .inl (G 0, 10, .inl u17)), (ib3, .inl (G 0, 10, .inl u18)), (ib4, .inl (G 0, 6, .inl u19)), (ib5, .inl (G 0, 6, .inl u20)), (ib6, .inl (G 0, 6, .inl u21)), (wy, .inr (9, [.int (nI N), .int (nI B), .int (nI D), .ref a1, .ref a2, .ref a3, .ref a4, .ref a5, .ref a6])), (a1, .inl (G 0, 10, .inl f1)), (a2, .inl (G 0, 10, .inl f2)), (a3, .inl (G 0, 10, .inl f3)), (a4, .inl (G 0, 6, .inl f4)), (a5, .inl (G 0, 6, .inl f5)), (a6, .inl (G 0, 6, .inl f6))]) hP hD [10, 11, 12, 13, 14, 15, 16, 1, 2, 3, 4, 5, 6, 7] [0, 8, 9, 17, 18, 19, 20, 21, 22, 23] rfl rfl (by decide) (by decide) hk1 hFc hP1 hD1
        generalize H1 = H at hP hS ⊢
        have hP : va_P (dC, dI) vwCl [(h0, .inr (10, [.ref rd, .ref wy, .ref tr, .ref im, .ref kp, .ref od, .ref ch, .ref cr, .ref le, .ref mk, .ref tl, .ref sh, .int tf, .int rf])), (im, .inl (G 3, 2, .inr (.inr (.inr (.inr (va_up (va_up (fun _ => none) 0 (some i0)) 1 (some i1))))))), (kp, .inl (G 2, 2, .inl fk)), (i1, .inr (9, [.int (nI N1), .int (nI B1), .int (nI D1), .ref id1, .ref id2, .ref id3, .ref id4, .ref id5, .ref id6])), (id1, .inl (G 0, 10, .inl idf1)), (id2, .inl (G 0, 10, .inl idf2)), (id3, .inl (G 0, 10, .inl idf3)), (id4, .inl (G 0, 6, .inl idf4)), (id5, .inl (G 0, 6, .inl idf5)), (id6, .inl (G 0, 6, .inl idf6)), (i0, .inr (9, [.int (nI N), .int (nI B), .int (nI D), .ref ib1, .ref ib2, .ref ib3, .ref ib4, .ref ib5, .ref ib6])), (ib1, .inl (G 0, 10, .inl u16)), (ib2, .inl (G 0, 10, .inl u17)), (ib3, .inl (G 0, 10, .inl u18)), (ib4, .inl (G 0, 6, .inl u19)), (ib5, .inl (G 0, 6, .inl u20)), (ib6, .inl (G 0, 6, .inl u21)), (wy, .inr (9, [.int (nI N), .int (nI B), .int (nI D), .ref a1, .ref a2, .ref a3, .ref a4, .ref a5, .ref a6])), (a1, .inl (G 0, 10, .inl f1)), (a2, .inl (G 0, 10, .inl f2)), (a3, .inl (G 0, 10, .inl f3)), (a4, .inl (G 0, 6, .inl f4)), (a5, .inl (G 0, 6, .inl f5)), (a6, .inl (G 0, 6, .inl f6))] H := hP
        have hD : va_D A [(h0, .inr (10, [.ref rd, .ref wy, .ref tr, .ref im, .ref kp, .ref od, .ref ch, .ref cr, .ref le, .ref mk, .ref tl, .ref sh, .int tf, .int rf])), (im, .inl (G 3, 2, .inr (.inr (.inr (.inr (va_up (va_up (fun _ => none) 0 (some i0)) 1 (some i1))))))), (kp, .inl (G 2, 2, .inl fk)), (i1, .inr (9, [.int (nI N1), .int (nI B1), .int (nI D1), .ref id1, .ref id2, .ref id3, .ref id4, .ref id5, .ref id6])), (id1, .inl (G 0, 10, .inl idf1)), (id2, .inl (G 0, 10, .inl idf2)), (id3, .inl (G 0, 10, .inl idf3)), (id4, .inl (G 0, 6, .inl idf4)), (id5, .inl (G 0, 6, .inl idf5)), (id6, .inl (G 0, 6, .inl idf6)), (i0, .inr (9, [.int (nI N), .int (nI B), .int (nI D), .ref ib1, .ref ib2, .ref ib3, .ref ib4, .ref ib5, .ref ib6])), (ib1, .inl (G 0, 10, .inl u16)), (ib2, .inl (G 0, 10, .inl u17)), (ib3, .inl (G 0, 10, .inl u18)), (ib4, .inl (G 0, 6, .inl u19)), (ib5, .inl (G 0, 6, .inl u20)), (ib6, .inl (G 0, 6, .inl u21)), (wy, .inr (9, [.int (nI N), .int (nI B), .int (nI D), .ref a1, .ref a2, .ref a3, .ref a4, .ref a5, .ref a6])), (a1, .inl (G 0, 10, .inl f1)), (a2, .inl (G 0, 10, .inl f2)), (a3, .inl (G 0, 10, .inl f3)), (a4, .inl (G 0, 6, .inl f4)), (a5, .inl (G 0, 6, .inl f5)), (a6, .inl (G 0, 6, .inl f6))] := hD
        refine lv_aload_n hx hb dX10_keep_37 rfl (lv_at hl 1 rfl) ?_
        refine va_get (D := (dC, dI)) (ci := 10) (v := .ref kp) (C := RX10) (T := TX10) (N := 14) hx hb hg inG10 hown hK.1 hP 0 rfl rfl 4 (by decide) (hg _ wt_306) (fun _ h9 => h9) rfl dX10_keep_38 ?_
        refine lv_iload_n hx hb dX10_keep_41 rfl (lv_at hl 2 rfl) ?_
        refine lv_iconst (v := 1) hx hb dX10_keep_42 (by decide) ?_
        refine va_zast hx hb hK.1 hP hD hS 2 2 rfl rfl (vp_in_iff.mpr ⟨by decide, by decide⟩) dX10_keep_43 (fun H locs hP hD hS => ?_)
        have hP : va_P (dC, dI) vwCl [(h0, .inr (10, [.ref rd, .ref wy, .ref tr, .ref im, .ref kp, .ref od, .ref ch, .ref cr, .ref le, .ref mk, .ref tl, .ref sh, .int tf, .int rf])), (im, .inl (G 3, 2, .inr (.inr (.inr (.inr (va_up (va_up (fun _ => none) 0 (some i0)) 1 (some i1))))))), (kp, .inl (G 2, 2, .inl (upd fk 0 (vp_nar .boolean 1)))), (i1, .inr (9, [.int (nI N1), .int (nI B1), .int (nI D1), .ref id1, .ref id2, .ref id3, .ref id4, .ref id5, .ref id6])), (id1, .inl (G 0, 10, .inl idf1)), (id2, .inl (G 0, 10, .inl idf2)), (id3, .inl (G 0, 10, .inl idf3)), (id4, .inl (G 0, 6, .inl idf4)), (id5, .inl (G 0, 6, .inl idf5)), (id6, .inl (G 0, 6, .inl idf6)), (i0, .inr (9, [.int (nI N), .int (nI B), .int (nI D), .ref ib1, .ref ib2, .ref ib3, .ref ib4, .ref ib5, .ref ib6])), (ib1, .inl (G 0, 10, .inl u16)), (ib2, .inl (G 0, 10, .inl u17)), (ib3, .inl (G 0, 10, .inl u18)), (ib4, .inl (G 0, 6, .inl u19)), (ib5, .inl (G 0, 6, .inl u20)), (ib6, .inl (G 0, 6, .inl u21)), (wy, .inr (9, [.int (nI N), .int (nI B), .int (nI D), .ref a1, .ref a2, .ref a3, .ref a4, .ref a5, .ref a6])), (a1, .inl (G 0, 10, .inl f1)), (a2, .inl (G 0, 10, .inl f2)), (a3, .inl (G 0, 10, .inl f3)), (a4, .inl (G 0, 6, .inl f4)), (a5, .inl (G 0, 6, .inl f5)), (a6, .inl (G 0, 6, .inl f6))] H := hP
        have hD : va_D A [(h0, .inr (10, [.ref rd, .ref wy, .ref tr, .ref im, .ref kp, .ref od, .ref ch, .ref cr, .ref le, .ref mk, .ref tl, .ref sh, .int tf, .int rf])), (im, .inl (G 3, 2, .inr (.inr (.inr (.inr (va_up (va_up (fun _ => none) 0 (some i0)) 1 (some i1))))))), (kp, .inl (G 2, 2, .inl (upd fk 0 (vp_nar .boolean 1)))), (i1, .inr (9, [.int (nI N1), .int (nI B1), .int (nI D1), .ref id1, .ref id2, .ref id3, .ref id4, .ref id5, .ref id6])), (id1, .inl (G 0, 10, .inl idf1)), (id2, .inl (G 0, 10, .inl idf2)), (id3, .inl (G 0, 10, .inl idf3)), (id4, .inl (G 0, 6, .inl idf4)), (id5, .inl (G 0, 6, .inl idf5)), (id6, .inl (G 0, 6, .inl idf6)), (i0, .inr (9, [.int (nI N), .int (nI B), .int (nI D), .ref ib1, .ref ib2, .ref ib3, .ref ib4, .ref ib5, .ref ib6])), (ib1, .inl (G 0, 10, .inl u16)), (ib2, .inl (G 0, 10, .inl u17)), (ib3, .inl (G 0, 10, .inl u18)), (ib4, .inl (G 0, 6, .inl u19)), (ib5, .inl (G 0, 6, .inl u20)), (ib6, .inl (G 0, 6, .inl u21)), (wy, .inr (9, [.int (nI N), .int (nI B), .int (nI D), .ref a1, .ref a2, .ref a3, .ref a4, .ref a5, .ref a6])), (a1, .inl (G 0, 10, .inl f1)), (a2, .inl (G 0, 10, .inl f2)), (a3, .inl (G 0, 10, .inl f3)), (a4, .inl (G 0, 6, .inl f4)), (a5, .inl (G 0, 6, .inl f5)), (a6, .inl (G 0, 6, .inl f6))] := hD
        refine lv_iload_n hx hb dX10_keep_44 rfl (lv_at hl 0 rfl) ?_
        have hpost : (1 : Int32) = if (0 ≤ (0 : Int32).toInt ∧ (0 : Int32).toInt < 2) then (if fk (0 : Int32).toNatClampNeg = 0 then 0 else 1) else -1 := by
          have t_c5 := neI c5
          have : (0 : Int32).toInt = 0 := (by decide)
          have t_n0 : (nI N).toInt = (N : Int) := nI_toInt (by omega)
          have t_n1 : (nI B).toInt = (B : Int) := nI_toInt (by omega)
          have t_n2 : (nI D).toInt = (D : Int) := nI_toInt (by omega)
          have t_n3 : (nI N0).toInt = (N0 : Int) := nI_toInt (by omega)
          have t_n4 : (nI B0).toInt = (B0 : Int) := nI_toInt (by omega)
          have t_n5 : (nI D0).toInt = (D0 : Int) := nI_toInt (by omega)
          have t_n6 : (nI N1).toInt = (N1 : Int) := nI_toInt (by omega)
          have t_n7 : (nI B1).toInt = (B1 : Int) := nI_toInt (by omega)
          have t_n8 : (nI D1).toInt = (D1 : Int) := nI_toInt (by omega)
          have z0 : (0 : Int32).toInt = 0 := (by decide)
          have z1 : (1 : Int32).toInt = 1 := (by decide)
          have z2 : (2 : Int32).toInt = 2 := (by decide)
          have z3 : (3 : Int32).toInt = 3 := (by decide)
          have z5 : (5 : Int32).toInt = 5 := (by decide)
          have z9 : (9 : Int32).toInt = 9 := (by decide)
          have z20 : (20 : Int32).toInt = 20 := (by decide)
          have z4 : (-4 : Int32).toInt = -4 := (by decide)
          have z10 : (10 : Int32).toInt = 10 := (by decide)
          have k0 : (0 : Int32).toNatClampNeg = 0 := (by decide)
          have k1 : (1 : Int32).toNatClampNeg = 1 := (by decide)
          first | (rw [if_neg (by omega)]; done) | (rw [if_pos (by decide)]; (try rw [k0]); (try rw [k1]); first | (rw [if_pos (by assumption)]; done) | (rw [if_neg (by assumption)]; done))
        have hP9 := hP.sub (ws' := [(h0, .inr (10, [.ref rd, .ref wy, .ref tr, .ref im, .ref kp, .ref od, .ref ch, .ref cr, .ref le, .ref mk, .ref tl, .ref sh, .int tf, .int rf])), (wy, .inr (9, [.int (nI N), .int (nI B), .int (nI D), .ref a1, .ref a2, .ref a3, .ref a4, .ref a5, .ref a6])), (a1, .inl (G 0, 10, .inl f1)), (a2, .inl (G 0, 10, .inl f2)), (a3, .inl (G 0, 10, .inl f3)), (a4, .inl (G 0, 6, .inl f4)), (a5, .inl (G 0, 6, .inl f5)), (a6, .inl (G 0, 6, .inl f6)), (im, .inl (G 3, 2, .inr (.inr (.inr (.inr (va_up (va_up (fun _ => none) 0 (some i0)) 1 (some i1))))))), (kp, .inl (G 2, 2, .inl (upd fk 0 (vp_nar .boolean 1)))), (i0, .inr (9, [.int (nI N), .int (nI B), .int (nI D), .ref ib1, .ref ib2, .ref ib3, .ref ib4, .ref ib5, .ref ib6])), (ib1, .inl (G 0, 10, .inl u16)), (ib2, .inl (G 0, 10, .inl u17)), (ib3, .inl (G 0, 10, .inl u18)), (ib4, .inl (G 0, 6, .inl u19)), (ib5, .inl (G 0, 6, .inl u20)), (ib6, .inl (G 0, 6, .inl u21)), (i1, .inr (9, [.int (nI N1), .int (nI B1), .int (nI D1), .ref id1, .ref id2, .ref id3, .ref id4, .ref id5, .ref id6])), (id1, .inl (G 0, 10, .inl idf1)), (id2, .inl (G 0, 10, .inl idf2)), (id3, .inl (G 0, 10, .inl idf3)), (id4, .inl (G 0, 6, .inl idf4)), (id5, .inl (G 0, 6, .inl idf5)), (id6, .inl (G 0, 6, .inl idf6))]) [0, 17, 18, 19, 20, 21, 22, 23, 1, 2, 10, 11, 12, 13, 14, 15, 16, 3, 4, 5, 6, 7, 8, 9] rfl
        have hD9 := hD.sub (ws' := [(h0, .inr (10, [.ref rd, .ref wy, .ref tr, .ref im, .ref kp, .ref od, .ref ch, .ref cr, .ref le, .ref mk, .ref tl, .ref sh, .int tf, .int rf])), (wy, .inr (9, [.int (nI N), .int (nI B), .int (nI D), .ref a1, .ref a2, .ref a3, .ref a4, .ref a5, .ref a6])), (a1, .inl (G 0, 10, .inl f1)), (a2, .inl (G 0, 10, .inl f2)), (a3, .inl (G 0, 10, .inl f3)), (a4, .inl (G 0, 6, .inl f4)), (a5, .inl (G 0, 6, .inl f5)), (a6, .inl (G 0, 6, .inl f6)), (im, .inl (G 3, 2, .inr (.inr (.inr (.inr (va_up (va_up (fun _ => none) 0 (some i0)) 1 (some i1))))))), (kp, .inl (G 2, 2, .inl (upd fk 0 (vp_nar .boolean 1)))), (i0, .inr (9, [.int (nI N), .int (nI B), .int (nI D), .ref ib1, .ref ib2, .ref ib3, .ref ib4, .ref ib5, .ref ib6])), (ib1, .inl (G 0, 10, .inl u16)), (ib2, .inl (G 0, 10, .inl u17)), (ib3, .inl (G 0, 10, .inl u18)), (ib4, .inl (G 0, 6, .inl u19)), (ib5, .inl (G 0, 6, .inl u20)), (ib6, .inl (G 0, 6, .inl u21)), (i1, .inr (9, [.int (nI N1), .int (nI B1), .int (nI D1), .ref id1, .ref id2, .ref id3, .ref id4, .ref id5, .ref id6])), (id1, .inl (G 0, 10, .inl idf1)), (id2, .inl (G 0, 10, .inl idf2)), (id3, .inl (G 0, 10, .inl idf3)), (id4, .inl (G 0, 6, .inl idf4)), (id5, .inl (G 0, 6, .inl idf5)), (id6, .inl (G 0, 6, .inl idf6))]) [0, 17, 18, 19, 20, 21, 22, 23, 1, 2, 10, 11, 12, 13, 14, 15, 16, 3, 4, 5, 6, 7, 8, 9] (by decide) rfl
        refine W.widen (k := 0) (n := 0) (by omega) (by omega) ?_
        exact W.iret (v := 1) hx hb hr (fun t ht hW => ⟨⟨1, (N, B, D, u16, u17, u18, u19, u20, u21, N1, B1, D1, idf1, idf2, idf3, idf4, idf5, idf6, (upd fk 0 (vp_nar .boolean 1))), rfl, ⟨hpost, (by have t_c5 := neI c5; have : (0 : Int32).toInt = 0 := (by decide); have t_n0 : (nI N).toInt = (N : Int) := nI_toInt (by omega); have t_n1 : (nI B).toInt = (B : Int) := nI_toInt (by omega); have t_n2 : (nI D).toInt = (D : Int) := nI_toInt (by omega); have t_n3 : (nI N0).toInt = (N0 : Int) := nI_toInt (by omega); have t_n4 : (nI B0).toInt = (B0 : Int) := nI_toInt (by omega); have t_n5 : (nI D0).toInt = (D0 : Int) := nI_toInt (by omega); have t_n6 : (nI N1).toInt = (N1 : Int) := nI_toInt (by omega); have t_n7 : (nI B1).toInt = (B1 : Int) := nI_toInt (by omega); have t_n8 : (nI D1).toInt = (D1 : Int) := nI_toInt (by omega); have z0 : (0 : Int32).toInt = 0 := (by decide); have z1 : (1 : Int32).toInt = 1 := (by decide); have z2 : (2 : Int32).toInt = 2 := (by decide); have z3 : (3 : Int32).toInt = 3 := (by decide); have z5 : (5 : Int32).toInt = 5 := (by decide); have z9 : (9 : Int32).toInt = 9 := (by decide); have z20 : (20 : Int32).toInt = 20 := (by decide); have z4 : (-4 : Int32).toInt = -4 := (by decide); have z10 : (10 : Int32).toInt = 10 := (by decide); have k0 : (0 : Int32).toNatClampNeg = 0 := (by decide); have k1 : (1 : Int32).toNatClampNeg = 1 := (by decide); refine ⟨⟨⟨by omega, by omega, by omega, by omega⟩, ⟨by omega, by omega, by omega, by omega⟩⟩, ?_, ?_, ?_, ?_, ?_⟩ <;> (first | done | rfl | omega | (rw [if_neg (by assumption)]; done) | (rw [if_neg (by decide)]; done) | (rw [if_pos (by decide)]; first | done | rfl | (rw [k0]; rfl) | (rw [k1]; rfl)) | (rw [if_pos rfl]; done) | (rw [if_neg (by omega)]; done) | (rw [if_neg (fun e9 => by have e8 := congrArg Int32.toInt e9; omega)]; done)))⟩, ⟨by rw [ht]; exact hP9, hD9⟩⟩, hS.F ht⟩) hS.2.2 dX10_keep_45
    · skip
      refine lv_aload_n hx hb dX10_keep_9 rfl (lv_at hl 0 rfl) ?_
      refine va_get (D := (dC, dI)) (ci := 10) (v := .ref kp) (C := RX10) (T := TX10) (N := 14) hx hb hg inG10 hown hK.1 hP 0 rfl rfl 4 (by decide) (hg _ wt_306) (fun _ h9 => h9) rfl dX10_keep_10 ?_
      refine lv_iload_n hx hb dX10_keep_13 rfl (lv_at hl 1 rfl) ?_
      refine va_zald hx hb hK.1 hP 9 2 rfl rfl (vp_in_iff.mpr ⟨by decide, by decide⟩) dX10_keep_14 ?_
      refine lv_cg (y := fk 1) (by rfl) ?_
      refine lv_if_eq (tgt := 22) hx hb dX10_keep_15 (by decide) (fun c22 => ?_) (fun c22 => ?_)
      · skip
        refine lv_iconst (v := 0) hx hb dX10_keep_22 (by decide) ?_
        refine lv_istore_n (lv' := [(2, .int 0), (0, .ref h0), (1, .int 1)]) hx hb dX10_keep_23 rfl hl (by decide) rfl (fun ls hl => ?_)
        refine lv_aload_n hx hb dX10_keep_24 rfl (lv_at hl 1 rfl) ?_
        refine va_get (D := (dC, dI)) (ci := 10) (v := .ref im) (C := RX10) (T := TX10) (N := 14) hx hb hg inG10 hown hK.1 hP 0 rfl rfl 3 (by decide) (hg _ wt_305) (fun _ h9 => h9) rfl dX10_keep_25 ?_
        refine lv_iload_n hx hb dX10_keep_28 rfl (lv_at hl 2 rfl) ?_
        refine va_aldq hx hb hK.1 hP 8 3 rfl rfl (vp_in_iff.mpr ⟨by decide, by decide⟩) dX10_keep_29 ?_
        refine lv_cgv (y := .ref i1) (by rfl) ?_
        refine lv_aload_n hx hb dX10_keep_30 rfl (lv_at hl 1 rfl) ?_
        refine va_get (D := (dC, dI)) (ci := 10) (v := .ref wy) (C := RX10) (T := TX10) (N := 14) hx hb hg inG10 hown hK.1 hP 0 rfl rfl 1 (by decide) (hg _ wt_303) (fun _ h9 => h9) rfl dX10_keep_31 ?_
        have hPc := hP.sub (ws' := [(i1, .inr (9, [.int (nI N1), .int (nI B1), .int (nI D1), .ref id1, .ref id2, .ref id3, .ref id4, .ref id5, .ref id6])), (id1, .inl (G 0, 10, .inl idf1)), (id2, .inl (G 0, 10, .inl idf2)), (id3, .inl (G 0, 10, .inl idf3)), (id4, .inl (G 0, 6, .inl idf4)), (id5, .inl (G 0, 6, .inl idf5)), (id6, .inl (G 0, 6, .inl idf6)), (wy, .inr (9, [.int (nI N), .int (nI B), .int (nI D), .ref a1, .ref a2, .ref a3, .ref a4, .ref a5, .ref a6])), (a1, .inl (G 0, 10, .inl f1)), (a2, .inl (G 0, 10, .inl f2)), (a3, .inl (G 0, 10, .inl f3)), (a4, .inl (G 0, 6, .inl f4)), (a5, .inl (G 0, 6, .inl f5)), (a6, .inl (G 0, 6, .inl f6))]) [17, 18, 19, 20, 21, 22, 23, 1, 2, 3, 4, 5, 6, 7] rfl
        have hDc := hD.sub (ws' := [(i1, .inr (9, [.int (nI N1), .int (nI B1), .int (nI D1), .ref id1, .ref id2, .ref id3, .ref id4, .ref id5, .ref id6])), (id1, .inl (G 0, 10, .inl idf1)), (id2, .inl (G 0, 10, .inl idf2)), (id3, .inl (G 0, 10, .inl idf3)), (id4, .inl (G 0, 6, .inl idf4)), (id5, .inl (G 0, 6, .inl idf5)), (id6, .inl (G 0, 6, .inl idf6)), (wy, .inr (9, [.int (nI N), .int (nI B), .int (nI D), .ref a1, .ref a2, .ref a3, .ref a4, .ref a5, .ref a6])), (a1, .inl (G 0, 10, .inl f1)), (a2, .inl (G 0, 10, .inl f2)), (a3, .inl (G 0, 10, .inl f3)), (a4, .inl (G 0, 6, .inl f4)), (a5, .inl (G 0, 6, .inl f5)), (a6, .inl (G 0, 6, .inl f6))]) [17, 18, 19, 20, 21, 22, 23, 1, 2, 3, 4, 5, 6, 7] (by decide) rfl
        have hFc := va_free (wc := [(i1, .inr (9, [.int (nI N1), .int (nI B1), .int (nI D1), .ref id1, .ref id2, .ref id3, .ref id4, .ref id5, .ref id6])), (id1, .inl (G 0, 10, .inl idf1)), (id2, .inl (G 0, 10, .inl idf2)), (id3, .inl (G 0, 10, .inl idf3)), (id4, .inl (G 0, 6, .inl idf4)), (id5, .inl (G 0, 6, .inl idf5)), (id6, .inl (G 0, 6, .inl idf6)), (wy, .inr (9, [.int (nI N), .int (nI B), .int (nI D), .ref a1, .ref a2, .ref a3, .ref a4, .ref a5, .ref a6])), (a1, .inl (G 0, 10, .inl f1)), (a2, .inl (G 0, 10, .inl f2)), (a3, .inl (G 0, 10, .inl f3)), (a4, .inl (G 0, 6, .inl f4)), (a5, .inl (G 0, 6, .inl f5)), (a6, .inl (G 0, 6, .inl f6))]) hD hS hA [17, 18, 19, 20, 21, 22, 23, 1, 2, 3, 4, 5, 6, 7] rfl
        refine va_callv (va_runVN (As := [.ref wy]) (rest := []) ⟨hx, hb, hml, hown, hg⟩ (c_X9_copyOf l dC dI G _ i1 wy id1 id2 id3 id4 id5 id6 a1 a2 a3 a4 a5 a6 (nI N1) (nI B1) (nI D1) (nI N) (nI B) (nI D) idf1 idf2 idf3 idf4 idf5 idf6 f1 f2 f3 f4 f5 f6 ) (kwVN hg hK mfX9_copyOf wn_507 ⟨Nat.le_of_ble_eq_true rfl, Nat.le_of_ble_eq_true rfl⟩) (preVW hK hPc hDc (ci := 9) rfl rfl) rfl rfl hl.1 rfl (lv_room (Nat.le_of_ble_eq_true rfl)) dX10_keep_34 ⟨Nat.le_of_ble_eq_true rfl, Nat.le_of_ble_eq_true rfl⟩) hS (fun q _ h => hFc q h) hFc (fun ur23 t H1 locs ht hvm w24 hB hz1 hk1 hS => ?_)
        obtain ⟨u25, u26, u27, u28, u29, u30⟩ := ur23
        obtain ⟨hP1, hD1⟩ := hB
        rw [ht] at hP1
        obtain ⟨hP, hD⟩ := va_join (wr := [(h0, .inr (10, [.ref rd, .ref wy, .ref tr, .ref im, .ref kp, .ref od, .ref ch, .ref cr, .ref le, .ref mk, .ref tl, .ref sh, .int tf, .int rf])), (im, .inl (G 3, 2, .inr (.inr (.inr (.inr (va_up (va_up (fun _ => none) 0 (some i0)) 1 (some i1))))))), (kp, .inl (G 2, 2, .inl fk)), (i0, .inr (9, [.int (nI N0), .int (nI B0), .int (nI D0), .ref ib1, .ref ib2, .ref ib3, .ref ib4, .ref ib5, .ref ib6])), (ib1, .inl (G 0, 10, .inl ibf1)), (ib2, .inl (G 0, 10, .inl ibf2)), (ib3, .inl (G 0, 10, .inl ibf3)), (ib4, .inl (G 0, 6, .inl ibf4)), (ib5, .inl (G 0, 6, .inl ibf5)), (ib6, .inl (G 0, 6, .inl ibf6))]) (w1 := [(i1, .inr (9, [.int (nI N), .int (nI B), .int (nI D), .ref id1, .ref id2, .ref id3, .ref id4, .ref id5, .ref id6])), (id1, .inl (G 0, 10, .inl u25)), (id2, .inl (G 0, 10, .inl u26)), (id3, .inl (G 0, 10, .inl u27)), (id4, .inl (G 0, 6, .inl u28)), (id5, .inl (G 0, 6, .inl u29)), (id6, .inl (G 0, 6, .inl u30)), (wy, .inr (9, [.int (nI N), .int (nI B), .int (nI D), .ref a1, .ref a2, .ref a3, .ref a4, .ref a5, .ref a6])), (a1, .inl (G 0, 10, .inl f1)), (a2, .inl (G 0, 10, .inl f2)), (a3, .inl (G 0, 10, .inl f3)), (a4, .inl (G 0, 6, .inl f4)), (a5, .inl (G 0, 6, .inl f5)), (a6, .inl (G 0, 6, .inl f6))]) hP hD [17, 18, 19, 20, 21, 22, 23, 1, 2, 3, 4, 5, 6, 7] [0, 8, 9, 10, 11, 12, 13, 14, 15, 16] rfl rfl (by decide) (by decide) hk1 hFc hP1 hD1
        generalize H1 = H at hP hS ⊢
        have hP : va_P (dC, dI) vwCl [(h0, .inr (10, [.ref rd, .ref wy, .ref tr, .ref im, .ref kp, .ref od, .ref ch, .ref cr, .ref le, .ref mk, .ref tl, .ref sh, .int tf, .int rf])), (im, .inl (G 3, 2, .inr (.inr (.inr (.inr (va_up (va_up (fun _ => none) 0 (some i0)) 1 (some i1))))))), (kp, .inl (G 2, 2, .inl fk)), (i0, .inr (9, [.int (nI N0), .int (nI B0), .int (nI D0), .ref ib1, .ref ib2, .ref ib3, .ref ib4, .ref ib5, .ref ib6])), (ib1, .inl (G 0, 10, .inl ibf1)), (ib2, .inl (G 0, 10, .inl ibf2)), (ib3, .inl (G 0, 10, .inl ibf3)), (ib4, .inl (G 0, 6, .inl ibf4)), (ib5, .inl (G 0, 6, .inl ibf5)), (ib6, .inl (G 0, 6, .inl ibf6)), (i1, .inr (9, [.int (nI N), .int (nI B), .int (nI D), .ref id1, .ref id2, .ref id3, .ref id4, .ref id5, .ref id6])), (id1, .inl (G 0, 10, .inl u25)), (id2, .inl (G 0, 10, .inl u26)), (id3, .inl (G 0, 10, .inl u27)), (id4, .inl (G 0, 6, .inl u28)), (id5, .inl (G 0, 6, .inl u29)), (id6, .inl (G 0, 6, .inl u30)), (wy, .inr (9, [.int (nI N), .int (nI B), .int (nI D), .ref a1, .ref a2, .ref a3, .ref a4, .ref a5, .ref a6])), (a1, .inl (G 0, 10, .inl f1)), (a2, .inl (G 0, 10, .inl f2)), (a3, .inl (G 0, 10, .inl f3)), (a4, .inl (G 0, 6, .inl f4)), (a5, .inl (G 0, 6, .inl f5)), (a6, .inl (G 0, 6, .inl f6))] H := hP
        have hD : va_D A [(h0, .inr (10, [.ref rd, .ref wy, .ref tr, .ref im, .ref kp, .ref od, .ref ch, .ref cr, .ref le, .ref mk, .ref tl, .ref sh, .int tf, .int rf])), (im, .inl (G 3, 2, .inr (.inr (.inr (.inr (va_up (va_up (fun _ => none) 0 (some i0)) 1 (some i1))))))), (kp, .inl (G 2, 2, .inl fk)), (i0, .inr (9, [.int (nI N0), .int (nI B0), .int (nI D0), .ref ib1, .ref ib2, .ref ib3, .ref ib4, .ref ib5, .ref ib6])), (ib1, .inl (G 0, 10, .inl ibf1)), (ib2, .inl (G 0, 10, .inl ibf2)), (ib3, .inl (G 0, 10, .inl ibf3)), (ib4, .inl (G 0, 6, .inl ibf4)), (ib5, .inl (G 0, 6, .inl ibf5)), (ib6, .inl (G 0, 6, .inl ibf6)), (i1, .inr (9, [.int (nI N), .int (nI B), .int (nI D), .ref id1, .ref id2, .ref id3, .ref id4, .ref id5, .ref id6])), (id1, .inl (G 0, 10, .inl u25)), (id2, .inl (G 0, 10, .inl u26)), (id3, .inl (G 0, 10, .inl u27)), (id4, .inl (G 0, 6, .inl u28)), (id5, .inl (G 0, 6, .inl u29)), (id6, .inl (G 0, 6, .inl u30)), (wy, .inr (9, [.int (nI N), .int (nI B), .int (nI D), .ref a1, .ref a2, .ref a3, .ref a4, .ref a5, .ref a6])), (a1, .inl (G 0, 10, .inl f1)), (a2, .inl (G 0, 10, .inl f2)), (a3, .inl (G 0, 10, .inl f3)), (a4, .inl (G 0, 6, .inl f4)), (a5, .inl (G 0, 6, .inl f5)), (a6, .inl (G 0, 6, .inl f6))] := hD
        refine lv_aload_n hx hb dX10_keep_37 rfl (lv_at hl 1 rfl) ?_
        refine va_get (D := (dC, dI)) (ci := 10) (v := .ref kp) (C := RX10) (T := TX10) (N := 14) hx hb hg inG10 hown hK.1 hP 0 rfl rfl 4 (by decide) (hg _ wt_306) (fun _ h9 => h9) rfl dX10_keep_38 ?_
        refine lv_iload_n hx hb dX10_keep_41 rfl (lv_at hl 2 rfl) ?_
        refine lv_iconst (v := 1) hx hb dX10_keep_42 (by decide) ?_
        refine va_zast hx hb hK.1 hP hD hS 2 2 rfl rfl (vp_in_iff.mpr ⟨by decide, by decide⟩) dX10_keep_43 (fun H locs hP hD hS => ?_)
        have hP : va_P (dC, dI) vwCl [(h0, .inr (10, [.ref rd, .ref wy, .ref tr, .ref im, .ref kp, .ref od, .ref ch, .ref cr, .ref le, .ref mk, .ref tl, .ref sh, .int tf, .int rf])), (im, .inl (G 3, 2, .inr (.inr (.inr (.inr (va_up (va_up (fun _ => none) 0 (some i0)) 1 (some i1))))))), (kp, .inl (G 2, 2, .inl (upd fk 1 (vp_nar .boolean 1)))), (i0, .inr (9, [.int (nI N0), .int (nI B0), .int (nI D0), .ref ib1, .ref ib2, .ref ib3, .ref ib4, .ref ib5, .ref ib6])), (ib1, .inl (G 0, 10, .inl ibf1)), (ib2, .inl (G 0, 10, .inl ibf2)), (ib3, .inl (G 0, 10, .inl ibf3)), (ib4, .inl (G 0, 6, .inl ibf4)), (ib5, .inl (G 0, 6, .inl ibf5)), (ib6, .inl (G 0, 6, .inl ibf6)), (i1, .inr (9, [.int (nI N), .int (nI B), .int (nI D), .ref id1, .ref id2, .ref id3, .ref id4, .ref id5, .ref id6])), (id1, .inl (G 0, 10, .inl u25)), (id2, .inl (G 0, 10, .inl u26)), (id3, .inl (G 0, 10, .inl u27)), (id4, .inl (G 0, 6, .inl u28)), (id5, .inl (G 0, 6, .inl u29)), (id6, .inl (G 0, 6, .inl u30)), (wy, .inr (9, [.int (nI N), .int (nI B), .int (nI D), .ref a1, .ref a2, .ref a3, .ref a4, .ref a5, .ref a6])), (a1, .inl (G 0, 10, .inl f1)), (a2, .inl (G 0, 10, .inl f2)), (a3, .inl (G 0, 10, .inl f3)), (a4, .inl (G 0, 6, .inl f4)), (a5, .inl (G 0, 6, .inl f5)), (a6, .inl (G 0, 6, .inl f6))] H := hP
        have hD : va_D A [(h0, .inr (10, [.ref rd, .ref wy, .ref tr, .ref im, .ref kp, .ref od, .ref ch, .ref cr, .ref le, .ref mk, .ref tl, .ref sh, .int tf, .int rf])), (im, .inl (G 3, 2, .inr (.inr (.inr (.inr (va_up (va_up (fun _ => none) 0 (some i0)) 1 (some i1))))))), (kp, .inl (G 2, 2, .inl (upd fk 1 (vp_nar .boolean 1)))), (i0, .inr (9, [.int (nI N0), .int (nI B0), .int (nI D0), .ref ib1, .ref ib2, .ref ib3, .ref ib4, .ref ib5, .ref ib6])), (ib1, .inl (G 0, 10, .inl ibf1)), (ib2, .inl (G 0, 10, .inl ibf2)), (ib3, .inl (G 0, 10, .inl ibf3)), (ib4, .inl (G 0, 6, .inl ibf4)), (ib5, .inl (G 0, 6, .inl ibf5)), (ib6, .inl (G 0, 6, .inl ibf6)), (i1, .inr (9, [.int (nI N), .int (nI B), .int (nI D), .ref id1, .ref id2, .ref id3, .ref id4, .ref id5, .ref id6])), (id1, .inl (G 0, 10, .inl u25)), (id2, .inl (G 0, 10, .inl u26)), (id3, .inl (G 0, 10, .inl u27)), (id4, .inl (G 0, 6, .inl u28)), (id5, .inl (G 0, 6, .inl u29)), (id6, .inl (G 0, 6, .inl u30)), (wy, .inr (9, [.int (nI N), .int (nI B), .int (nI D), .ref a1, .ref a2, .ref a3, .ref a4, .ref a5, .ref a6])), (a1, .inl (G 0, 10, .inl f1)), (a2, .inl (G 0, 10, .inl f2)), (a3, .inl (G 0, 10, .inl f3)), (a4, .inl (G 0, 6, .inl f4)), (a5, .inl (G 0, 6, .inl f5)), (a6, .inl (G 0, 6, .inl f6))] := hD
        refine lv_iload_n hx hb dX10_keep_44 rfl (lv_at hl 0 rfl) ?_
        have hpost : (0 : Int32) = if (0 ≤ (1 : Int32).toInt ∧ (1 : Int32).toInt < 2) then (if fk (1 : Int32).toNatClampNeg = 0 then 0 else 1) else -1 := by
          have t_c22 := eqI c22
          have : (0 : Int32).toInt = 0 := (by decide)
          have t_n0 : (nI N).toInt = (N : Int) := nI_toInt (by omega)
          have t_n1 : (nI B).toInt = (B : Int) := nI_toInt (by omega)
          have t_n2 : (nI D).toInt = (D : Int) := nI_toInt (by omega)
          have t_n3 : (nI N0).toInt = (N0 : Int) := nI_toInt (by omega)
          have t_n4 : (nI B0).toInt = (B0 : Int) := nI_toInt (by omega)
          have t_n5 : (nI D0).toInt = (D0 : Int) := nI_toInt (by omega)
          have t_n6 : (nI N1).toInt = (N1 : Int) := nI_toInt (by omega)
          have t_n7 : (nI B1).toInt = (B1 : Int) := nI_toInt (by omega)
          have t_n8 : (nI D1).toInt = (D1 : Int) := nI_toInt (by omega)
          have z0 : (0 : Int32).toInt = 0 := (by decide)
          have z1 : (1 : Int32).toInt = 1 := (by decide)
          have z2 : (2 : Int32).toInt = 2 := (by decide)
          have z3 : (3 : Int32).toInt = 3 := (by decide)
          have z5 : (5 : Int32).toInt = 5 := (by decide)
          have z9 : (9 : Int32).toInt = 9 := (by decide)
          have z20 : (20 : Int32).toInt = 20 := (by decide)
          have z4 : (-4 : Int32).toInt = -4 := (by decide)
          have z10 : (10 : Int32).toInt = 10 := (by decide)
          have k0 : (0 : Int32).toNatClampNeg = 0 := (by decide)
          have k1 : (1 : Int32).toNatClampNeg = 1 := (by decide)
          first | (rw [if_neg (by omega)]; done) | (rw [if_pos (by decide)]; (try rw [k0]); (try rw [k1]); first | (rw [if_pos (by assumption)]; done) | (rw [if_neg (by assumption)]; done))
        have hP9 := hP.sub (ws' := [(h0, .inr (10, [.ref rd, .ref wy, .ref tr, .ref im, .ref kp, .ref od, .ref ch, .ref cr, .ref le, .ref mk, .ref tl, .ref sh, .int tf, .int rf])), (wy, .inr (9, [.int (nI N), .int (nI B), .int (nI D), .ref a1, .ref a2, .ref a3, .ref a4, .ref a5, .ref a6])), (a1, .inl (G 0, 10, .inl f1)), (a2, .inl (G 0, 10, .inl f2)), (a3, .inl (G 0, 10, .inl f3)), (a4, .inl (G 0, 6, .inl f4)), (a5, .inl (G 0, 6, .inl f5)), (a6, .inl (G 0, 6, .inl f6)), (im, .inl (G 3, 2, .inr (.inr (.inr (.inr (va_up (va_up (fun _ => none) 0 (some i0)) 1 (some i1))))))), (kp, .inl (G 2, 2, .inl (upd fk 1 (vp_nar .boolean 1)))), (i0, .inr (9, [.int (nI N0), .int (nI B0), .int (nI D0), .ref ib1, .ref ib2, .ref ib3, .ref ib4, .ref ib5, .ref ib6])), (ib1, .inl (G 0, 10, .inl ibf1)), (ib2, .inl (G 0, 10, .inl ibf2)), (ib3, .inl (G 0, 10, .inl ibf3)), (ib4, .inl (G 0, 6, .inl ibf4)), (ib5, .inl (G 0, 6, .inl ibf5)), (ib6, .inl (G 0, 6, .inl ibf6)), (i1, .inr (9, [.int (nI N), .int (nI B), .int (nI D), .ref id1, .ref id2, .ref id3, .ref id4, .ref id5, .ref id6])), (id1, .inl (G 0, 10, .inl u25)), (id2, .inl (G 0, 10, .inl u26)), (id3, .inl (G 0, 10, .inl u27)), (id4, .inl (G 0, 6, .inl u28)), (id5, .inl (G 0, 6, .inl u29)), (id6, .inl (G 0, 6, .inl u30))]) [0, 17, 18, 19, 20, 21, 22, 23, 1, 2, 3, 4, 5, 6, 7, 8, 9, 10, 11, 12, 13, 14, 15, 16] rfl
        have hD9 := hD.sub (ws' := [(h0, .inr (10, [.ref rd, .ref wy, .ref tr, .ref im, .ref kp, .ref od, .ref ch, .ref cr, .ref le, .ref mk, .ref tl, .ref sh, .int tf, .int rf])), (wy, .inr (9, [.int (nI N), .int (nI B), .int (nI D), .ref a1, .ref a2, .ref a3, .ref a4, .ref a5, .ref a6])), (a1, .inl (G 0, 10, .inl f1)), (a2, .inl (G 0, 10, .inl f2)), (a3, .inl (G 0, 10, .inl f3)), (a4, .inl (G 0, 6, .inl f4)), (a5, .inl (G 0, 6, .inl f5)), (a6, .inl (G 0, 6, .inl f6)), (im, .inl (G 3, 2, .inr (.inr (.inr (.inr (va_up (va_up (fun _ => none) 0 (some i0)) 1 (some i1))))))), (kp, .inl (G 2, 2, .inl (upd fk 1 (vp_nar .boolean 1)))), (i0, .inr (9, [.int (nI N0), .int (nI B0), .int (nI D0), .ref ib1, .ref ib2, .ref ib3, .ref ib4, .ref ib5, .ref ib6])), (ib1, .inl (G 0, 10, .inl ibf1)), (ib2, .inl (G 0, 10, .inl ibf2)), (ib3, .inl (G 0, 10, .inl ibf3)), (ib4, .inl (G 0, 6, .inl ibf4)), (ib5, .inl (G 0, 6, .inl ibf5)), (ib6, .inl (G 0, 6, .inl ibf6)), (i1, .inr (9, [.int (nI N), .int (nI B), .int (nI D), .ref id1, .ref id2, .ref id3, .ref id4, .ref id5, .ref id6])), (id1, .inl (G 0, 10, .inl u25)), (id2, .inl (G 0, 10, .inl u26)), (id3, .inl (G 0, 10, .inl u27)), (id4, .inl (G 0, 6, .inl u28)), (id5, .inl (G 0, 6, .inl u29)), (id6, .inl (G 0, 6, .inl u30))]) [0, 17, 18, 19, 20, 21, 22, 23, 1, 2, 3, 4, 5, 6, 7, 8, 9, 10, 11, 12, 13, 14, 15, 16] (by decide) rfl
        refine W.widen (k := 0) (n := 0) (by omega) (by omega) ?_
        exact W.iret (v := 0) hx hb hr (fun t ht hW => ⟨⟨0, (N0, B0, D0, ibf1, ibf2, ibf3, ibf4, ibf5, ibf6, N, B, D, u25, u26, u27, u28, u29, u30, (upd fk 1 (vp_nar .boolean 1))), rfl, ⟨hpost, (by have t_c22 := eqI c22; have : (0 : Int32).toInt = 0 := (by decide); have t_n0 : (nI N).toInt = (N : Int) := nI_toInt (by omega); have t_n1 : (nI B).toInt = (B : Int) := nI_toInt (by omega); have t_n2 : (nI D).toInt = (D : Int) := nI_toInt (by omega); have t_n3 : (nI N0).toInt = (N0 : Int) := nI_toInt (by omega); have t_n4 : (nI B0).toInt = (B0 : Int) := nI_toInt (by omega); have t_n5 : (nI D0).toInt = (D0 : Int) := nI_toInt (by omega); have t_n6 : (nI N1).toInt = (N1 : Int) := nI_toInt (by omega); have t_n7 : (nI B1).toInt = (B1 : Int) := nI_toInt (by omega); have t_n8 : (nI D1).toInt = (D1 : Int) := nI_toInt (by omega); have z0 : (0 : Int32).toInt = 0 := (by decide); have z1 : (1 : Int32).toInt = 1 := (by decide); have z2 : (2 : Int32).toInt = 2 := (by decide); have z3 : (3 : Int32).toInt = 3 := (by decide); have z5 : (5 : Int32).toInt = 5 := (by decide); have z9 : (9 : Int32).toInt = 9 := (by decide); have z20 : (20 : Int32).toInt = 20 := (by decide); have z4 : (-4 : Int32).toInt = -4 := (by decide); have z10 : (10 : Int32).toInt = 10 := (by decide); have k0 : (0 : Int32).toNatClampNeg = 0 := (by decide); have k1 : (1 : Int32).toNatClampNeg = 1 := (by decide); refine ⟨⟨⟨by omega, by omega, by omega, by omega⟩, ⟨by omega, by omega, by omega, by omega⟩⟩, ?_, ?_, ?_, ?_, ?_⟩ <;> (first | done | rfl | omega | (rw [if_neg (by assumption)]; done) | (rw [if_neg (by decide)]; done) | (rw [if_pos (by decide)]; first | done | rfl | (rw [k0]; rfl) | (rw [k1]; rfl)) | (rw [if_pos rfl]; done) | (rw [if_neg (by omega)]; done) | (rw [if_neg (fun e9 => by have e8 := congrArg Int32.toInt e9; omega)]; done)))⟩, ⟨by rw [ht]; exact hP9, hD9⟩⟩, hS.F ht⟩) hS.2.2 dX10_keep_45
      · skip
        refine lv_iconst (v := 1) hx hb dX10_keep_18 (by decide) ?_
        refine lv_goto (tgt := 23) hx hb dX10_keep_19 (by decide) ?_
        refine lv_istore_n (lv' := [(2, .int 1), (0, .ref h0), (1, .int 1)]) hx hb dX10_keep_23 rfl hl (by decide) rfl (fun ls hl => ?_)
        refine lv_aload_n hx hb dX10_keep_24 rfl (lv_at hl 1 rfl) ?_
        refine va_get (D := (dC, dI)) (ci := 10) (v := .ref im) (C := RX10) (T := TX10) (N := 14) hx hb hg inG10 hown hK.1 hP 0 rfl rfl 3 (by decide) (hg _ wt_305) (fun _ h9 => h9) rfl dX10_keep_25 ?_
        refine lv_iload_n hx hb dX10_keep_28 rfl (lv_at hl 2 rfl) ?_
        refine va_aldq hx hb hK.1 hP 8 3 rfl rfl (vp_in_iff.mpr ⟨by decide, by decide⟩) dX10_keep_29 ?_
        refine lv_cgv (y := .ref i1) (by rfl) ?_
        refine lv_aload_n hx hb dX10_keep_30 rfl (lv_at hl 1 rfl) ?_
        refine va_get (D := (dC, dI)) (ci := 10) (v := .ref wy) (C := RX10) (T := TX10) (N := 14) hx hb hg inG10 hown hK.1 hP 0 rfl rfl 1 (by decide) (hg _ wt_303) (fun _ h9 => h9) rfl dX10_keep_31 ?_
        have hPc := hP.sub (ws' := [(i1, .inr (9, [.int (nI N1), .int (nI B1), .int (nI D1), .ref id1, .ref id2, .ref id3, .ref id4, .ref id5, .ref id6])), (id1, .inl (G 0, 10, .inl idf1)), (id2, .inl (G 0, 10, .inl idf2)), (id3, .inl (G 0, 10, .inl idf3)), (id4, .inl (G 0, 6, .inl idf4)), (id5, .inl (G 0, 6, .inl idf5)), (id6, .inl (G 0, 6, .inl idf6)), (wy, .inr (9, [.int (nI N), .int (nI B), .int (nI D), .ref a1, .ref a2, .ref a3, .ref a4, .ref a5, .ref a6])), (a1, .inl (G 0, 10, .inl f1)), (a2, .inl (G 0, 10, .inl f2)), (a3, .inl (G 0, 10, .inl f3)), (a4, .inl (G 0, 6, .inl f4)), (a5, .inl (G 0, 6, .inl f5)), (a6, .inl (G 0, 6, .inl f6))]) [17, 18, 19, 20, 21, 22, 23, 1, 2, 3, 4, 5, 6, 7] rfl
        have hDc := hD.sub (ws' := [(i1, .inr (9, [.int (nI N1), .int (nI B1), .int (nI D1), .ref id1, .ref id2, .ref id3, .ref id4, .ref id5, .ref id6])), (id1, .inl (G 0, 10, .inl idf1)), (id2, .inl (G 0, 10, .inl idf2)), (id3, .inl (G 0, 10, .inl idf3)), (id4, .inl (G 0, 6, .inl idf4)), (id5, .inl (G 0, 6, .inl idf5)), (id6, .inl (G 0, 6, .inl idf6)), (wy, .inr (9, [.int (nI N), .int (nI B), .int (nI D), .ref a1, .ref a2, .ref a3, .ref a4, .ref a5, .ref a6])), (a1, .inl (G 0, 10, .inl f1)), (a2, .inl (G 0, 10, .inl f2)), (a3, .inl (G 0, 10, .inl f3)), (a4, .inl (G 0, 6, .inl f4)), (a5, .inl (G 0, 6, .inl f5)), (a6, .inl (G 0, 6, .inl f6))]) [17, 18, 19, 20, 21, 22, 23, 1, 2, 3, 4, 5, 6, 7] (by decide) rfl
        have hFc := va_free (wc := [(i1, .inr (9, [.int (nI N1), .int (nI B1), .int (nI D1), .ref id1, .ref id2, .ref id3, .ref id4, .ref id5, .ref id6])), (id1, .inl (G 0, 10, .inl idf1)), (id2, .inl (G 0, 10, .inl idf2)), (id3, .inl (G 0, 10, .inl idf3)), (id4, .inl (G 0, 6, .inl idf4)), (id5, .inl (G 0, 6, .inl idf5)), (id6, .inl (G 0, 6, .inl idf6)), (wy, .inr (9, [.int (nI N), .int (nI B), .int (nI D), .ref a1, .ref a2, .ref a3, .ref a4, .ref a5, .ref a6])), (a1, .inl (G 0, 10, .inl f1)), (a2, .inl (G 0, 10, .inl f2)), (a3, .inl (G 0, 10, .inl f3)), (a4, .inl (G 0, 6, .inl f4)), (a5, .inl (G 0, 6, .inl f5)), (a6, .inl (G 0, 6, .inl f6))]) hD hS hA [17, 18, 19, 20, 21, 22, 23, 1, 2, 3, 4, 5, 6, 7] rfl
        refine va_callv (va_runVN (As := [.ref wy]) (rest := []) ⟨hx, hb, hml, hown, hg⟩ (c_X9_copyOf l dC dI G _ i1 wy id1 id2 id3 id4 id5 id6 a1 a2 a3 a4 a5 a6 (nI N1) (nI B1) (nI D1) (nI N) (nI B) (nI D) idf1 idf2 idf3 idf4 idf5 idf6 f1 f2 f3 f4 f5 f6 ) (kwVN hg hK mfX9_copyOf wn_507 ⟨Nat.le_of_ble_eq_true rfl, Nat.le_of_ble_eq_true rfl⟩) (preVW hK hPc hDc (ci := 9) rfl rfl) rfl rfl hl.1 rfl (lv_room (Nat.le_of_ble_eq_true rfl)) dX10_keep_34 ⟨Nat.le_of_ble_eq_true rfl, Nat.le_of_ble_eq_true rfl⟩) hS (fun q _ h => hFc q h) hFc (fun ur31 t H1 locs ht hvm w32 hB hz1 hk1 hS => ?_)
        obtain ⟨u33, u34, u35, u36, u37, u38⟩ := ur31
        obtain ⟨hP1, hD1⟩ := hB
        rw [ht] at hP1
        obtain ⟨hP, hD⟩ := va_join (wr := [(h0, .inr (10, [.ref rd, .ref wy, .ref tr, .ref im, .ref kp, .ref od, .ref ch, .ref cr, .ref le, .ref mk, .ref tl, .ref sh, .int tf, .int rf])), (im, .inl (G 3, 2, .inr (.inr (.inr (.inr (va_up (va_up (fun _ => none) 0 (some i0)) 1 (some i1))))))), (kp, .inl (G 2, 2, .inl fk)), (i0, .inr (9, [.int (nI N0), .int (nI B0), .int (nI D0), .ref ib1, .ref ib2, .ref ib3, .ref ib4, .ref ib5, .ref ib6])), (ib1, .inl (G 0, 10, .inl ibf1)), (ib2, .inl (G 0, 10, .inl ibf2)), (ib3, .inl (G 0, 10, .inl ibf3)), (ib4, .inl (G 0, 6, .inl ibf4)), (ib5, .inl (G 0, 6, .inl ibf5)), (ib6, .inl (G 0, 6, .inl ibf6))]) (w1 := [(i1, .inr (9, [.int (nI N), .int (nI B), .int (nI D), .ref id1, .ref id2, .ref id3, .ref id4, .ref id5, .ref id6])), (id1, .inl (G 0, 10, .inl u33)), (id2, .inl (G 0, 10, .inl u34)), (id3, .inl (G 0, 10, .inl u35)), (id4, .inl (G 0, 6, .inl u36)), (id5, .inl (G 0, 6, .inl u37)), (id6, .inl (G 0, 6, .inl u38)), (wy, .inr (9, [.int (nI N), .int (nI B), .int (nI D), .ref a1, .ref a2, .ref a3, .ref a4, .ref a5, .ref a6])), (a1, .inl (G 0, 10, .inl f1)), (a2, .inl (G 0, 10, .inl f2)), (a3, .inl (G 0, 10, .inl f3)), (a4, .inl (G 0, 6, .inl f4)), (a5, .inl (G 0, 6, .inl f5)), (a6, .inl (G 0, 6, .inl f6))]) hP hD [17, 18, 19, 20, 21, 22, 23, 1, 2, 3, 4, 5, 6, 7] [0, 8, 9, 10, 11, 12, 13, 14, 15, 16] rfl rfl (by decide) (by decide) hk1 hFc hP1 hD1
        generalize H1 = H at hP hS ⊢
        have hP : va_P (dC, dI) vwCl [(h0, .inr (10, [.ref rd, .ref wy, .ref tr, .ref im, .ref kp, .ref od, .ref ch, .ref cr, .ref le, .ref mk, .ref tl, .ref sh, .int tf, .int rf])), (im, .inl (G 3, 2, .inr (.inr (.inr (.inr (va_up (va_up (fun _ => none) 0 (some i0)) 1 (some i1))))))), (kp, .inl (G 2, 2, .inl fk)), (i0, .inr (9, [.int (nI N0), .int (nI B0), .int (nI D0), .ref ib1, .ref ib2, .ref ib3, .ref ib4, .ref ib5, .ref ib6])), (ib1, .inl (G 0, 10, .inl ibf1)), (ib2, .inl (G 0, 10, .inl ibf2)), (ib3, .inl (G 0, 10, .inl ibf3)), (ib4, .inl (G 0, 6, .inl ibf4)), (ib5, .inl (G 0, 6, .inl ibf5)), (ib6, .inl (G 0, 6, .inl ibf6)), (i1, .inr (9, [.int (nI N), .int (nI B), .int (nI D), .ref id1, .ref id2, .ref id3, .ref id4, .ref id5, .ref id6])), (id1, .inl (G 0, 10, .inl u33)), (id2, .inl (G 0, 10, .inl u34)), (id3, .inl (G 0, 10, .inl u35)), (id4, .inl (G 0, 6, .inl u36)), (id5, .inl (G 0, 6, .inl u37)), (id6, .inl (G 0, 6, .inl u38)), (wy, .inr (9, [.int (nI N), .int (nI B), .int (nI D), .ref a1, .ref a2, .ref a3, .ref a4, .ref a5, .ref a6])), (a1, .inl (G 0, 10, .inl f1)), (a2, .inl (G 0, 10, .inl f2)), (a3, .inl (G 0, 10, .inl f3)), (a4, .inl (G 0, 6, .inl f4)), (a5, .inl (G 0, 6, .inl f5)), (a6, .inl (G 0, 6, .inl f6))] H := hP
        have hD : va_D A [(h0, .inr (10, [.ref rd, .ref wy, .ref tr, .ref im, .ref kp, .ref od, .ref ch, .ref cr, .ref le, .ref mk, .ref tl, .ref sh, .int tf, .int rf])), (im, .inl (G 3, 2, .inr (.inr (.inr (.inr (va_up (va_up (fun _ => none) 0 (some i0)) 1 (some i1))))))), (kp, .inl (G 2, 2, .inl fk)), (i0, .inr (9, [.int (nI N0), .int (nI B0), .int (nI D0), .ref ib1, .ref ib2, .ref ib3, .ref ib4, .ref ib5, .ref ib6])), (ib1, .inl (G 0, 10, .inl ibf1)), (ib2, .inl (G 0, 10, .inl ibf2)), (ib3, .inl (G 0, 10, .inl ibf3)), (ib4, .inl (G 0, 6, .inl ibf4)), (ib5, .inl (G 0, 6, .inl ibf5)), (ib6, .inl (G 0, 6, .inl ibf6)), (i1, .inr (9, [.int (nI N), .int (nI B), .int (nI D), .ref id1, .ref id2, .ref id3, .ref id4, .ref id5, .ref id6])), (id1, .inl (G 0, 10, .inl u33)), (id2, .inl (G 0, 10, .inl u34)), (id3, .inl (G 0, 10, .inl u35)), (id4, .inl (G 0, 6, .inl u36)), (id5, .inl (G 0, 6, .inl u37)), (id6, .inl (G 0, 6, .inl u38)), (wy, .inr (9, [.int (nI N), .int (nI B), .int (nI D), .ref a1, .ref a2, .ref a3, .ref a4, .ref a5, .ref a6])), (a1, .inl (G 0, 10, .inl f1)), (a2, .inl (G 0, 10, .inl f2)), (a3, .inl (G 0, 10, .inl f3)), (a4, .inl (G 0, 6, .inl f4)), (a5, .inl (G 0, 6, .inl f5)), (a6, .inl (G 0, 6, .inl f6))] := hD
        refine lv_aload_n hx hb dX10_keep_37 rfl (lv_at hl 1 rfl) ?_
        refine va_get (D := (dC, dI)) (ci := 10) (v := .ref kp) (C := RX10) (T := TX10) (N := 14) hx hb hg inG10 hown hK.1 hP 0 rfl rfl 4 (by decide) (hg _ wt_306) (fun _ h9 => h9) rfl dX10_keep_38 ?_
        refine lv_iload_n hx hb dX10_keep_41 rfl (lv_at hl 2 rfl) ?_
        refine lv_iconst (v := 1) hx hb dX10_keep_42 (by decide) ?_
        refine va_zast hx hb hK.1 hP hD hS 2 2 rfl rfl (vp_in_iff.mpr ⟨by decide, by decide⟩) dX10_keep_43 (fun H locs hP hD hS => ?_)
        have hP : va_P (dC, dI) vwCl [(h0, .inr (10, [.ref rd, .ref wy, .ref tr, .ref im, .ref kp, .ref od, .ref ch, .ref cr, .ref le, .ref mk, .ref tl, .ref sh, .int tf, .int rf])), (im, .inl (G 3, 2, .inr (.inr (.inr (.inr (va_up (va_up (fun _ => none) 0 (some i0)) 1 (some i1))))))), (kp, .inl (G 2, 2, .inl (upd fk 1 (vp_nar .boolean 1)))), (i0, .inr (9, [.int (nI N0), .int (nI B0), .int (nI D0), .ref ib1, .ref ib2, .ref ib3, .ref ib4, .ref ib5, .ref ib6])), (ib1, .inl (G 0, 10, .inl ibf1)), (ib2, .inl (G 0, 10, .inl ibf2)), (ib3, .inl (G 0, 10, .inl ibf3)), (ib4, .inl (G 0, 6, .inl ibf4)), (ib5, .inl (G 0, 6, .inl ibf5)), (ib6, .inl (G 0, 6, .inl ibf6)), (i1, .inr (9, [.int (nI N), .int (nI B), .int (nI D), .ref id1, .ref id2, .ref id3, .ref id4, .ref id5, .ref id6])), (id1, .inl (G 0, 10, .inl u33)), (id2, .inl (G 0, 10, .inl u34)), (id3, .inl (G 0, 10, .inl u35)), (id4, .inl (G 0, 6, .inl u36)), (id5, .inl (G 0, 6, .inl u37)), (id6, .inl (G 0, 6, .inl u38)), (wy, .inr (9, [.int (nI N), .int (nI B), .int (nI D), .ref a1, .ref a2, .ref a3, .ref a4, .ref a5, .ref a6])), (a1, .inl (G 0, 10, .inl f1)), (a2, .inl (G 0, 10, .inl f2)), (a3, .inl (G 0, 10, .inl f3)), (a4, .inl (G 0, 6, .inl f4)), (a5, .inl (G 0, 6, .inl f5)), (a6, .inl (G 0, 6, .inl f6))] H := hP
        have hD : va_D A [(h0, .inr (10, [.ref rd, .ref wy, .ref tr, .ref im, .ref kp, .ref od, .ref ch, .ref cr, .ref le, .ref mk, .ref tl, .ref sh, .int tf, .int rf])), (im, .inl (G 3, 2, .inr (.inr (.inr (.inr (va_up (va_up (fun _ => none) 0 (some i0)) 1 (some i1))))))), (kp, .inl (G 2, 2, .inl (upd fk 1 (vp_nar .boolean 1)))), (i0, .inr (9, [.int (nI N0), .int (nI B0), .int (nI D0), .ref ib1, .ref ib2, .ref ib3, .ref ib4, .ref ib5, .ref ib6])), (ib1, .inl (G 0, 10, .inl ibf1)), (ib2, .inl (G 0, 10, .inl ibf2)), (ib3, .inl (G 0, 10, .inl ibf3)), (ib4, .inl (G 0, 6, .inl ibf4)), (ib5, .inl (G 0, 6, .inl ibf5)), (ib6, .inl (G 0, 6, .inl ibf6)), (i1, .inr (9, [.int (nI N), .int (nI B), .int (nI D), .ref id1, .ref id2, .ref id3, .ref id4, .ref id5, .ref id6])), (id1, .inl (G 0, 10, .inl u33)), (id2, .inl (G 0, 10, .inl u34)), (id3, .inl (G 0, 10, .inl u35)), (id4, .inl (G 0, 6, .inl u36)), (id5, .inl (G 0, 6, .inl u37)), (id6, .inl (G 0, 6, .inl u38)), (wy, .inr (9, [.int (nI N), .int (nI B), .int (nI D), .ref a1, .ref a2, .ref a3, .ref a4, .ref a5, .ref a6])), (a1, .inl (G 0, 10, .inl f1)), (a2, .inl (G 0, 10, .inl f2)), (a3, .inl (G 0, 10, .inl f3)), (a4, .inl (G 0, 6, .inl f4)), (a5, .inl (G 0, 6, .inl f5)), (a6, .inl (G 0, 6, .inl f6))] := hD
        refine lv_iload_n hx hb dX10_keep_44 rfl (lv_at hl 0 rfl) ?_
        have hpost : (1 : Int32) = if (0 ≤ (1 : Int32).toInt ∧ (1 : Int32).toInt < 2) then (if fk (1 : Int32).toNatClampNeg = 0 then 0 else 1) else -1 := by
          have t_c22 := neI c22
          have : (0 : Int32).toInt = 0 := (by decide)
          have t_n0 : (nI N).toInt = (N : Int) := nI_toInt (by omega)
          have t_n1 : (nI B).toInt = (B : Int) := nI_toInt (by omega)
          have t_n2 : (nI D).toInt = (D : Int) := nI_toInt (by omega)
          have t_n3 : (nI N0).toInt = (N0 : Int) := nI_toInt (by omega)
          have t_n4 : (nI B0).toInt = (B0 : Int) := nI_toInt (by omega)
          have t_n5 : (nI D0).toInt = (D0 : Int) := nI_toInt (by omega)
          have t_n6 : (nI N1).toInt = (N1 : Int) := nI_toInt (by omega)
          have t_n7 : (nI B1).toInt = (B1 : Int) := nI_toInt (by omega)
          have t_n8 : (nI D1).toInt = (D1 : Int) := nI_toInt (by omega)
          have z0 : (0 : Int32).toInt = 0 := (by decide)
          have z1 : (1 : Int32).toInt = 1 := (by decide)
          have z2 : (2 : Int32).toInt = 2 := (by decide)
          have z3 : (3 : Int32).toInt = 3 := (by decide)
          have z5 : (5 : Int32).toInt = 5 := (by decide)
          have z9 : (9 : Int32).toInt = 9 := (by decide)
          have z20 : (20 : Int32).toInt = 20 := (by decide)
          have z4 : (-4 : Int32).toInt = -4 := (by decide)
          have z10 : (10 : Int32).toInt = 10 := (by decide)
          have k0 : (0 : Int32).toNatClampNeg = 0 := (by decide)
          have k1 : (1 : Int32).toNatClampNeg = 1 := (by decide)
          first | (rw [if_neg (by omega)]; done) | (rw [if_pos (by decide)]; (try rw [k0]); (try rw [k1]); first | (rw [if_pos (by assumption)]; done) | (rw [if_neg (by assumption)]; done))
        have hP9 := hP.sub (ws' := [(h0, .inr (10, [.ref rd, .ref wy, .ref tr, .ref im, .ref kp, .ref od, .ref ch, .ref cr, .ref le, .ref mk, .ref tl, .ref sh, .int tf, .int rf])), (wy, .inr (9, [.int (nI N), .int (nI B), .int (nI D), .ref a1, .ref a2, .ref a3, .ref a4, .ref a5, .ref a6])), (a1, .inl (G 0, 10, .inl f1)), (a2, .inl (G 0, 10, .inl f2)), (a3, .inl (G 0, 10, .inl f3)), (a4, .inl (G 0, 6, .inl f4)), (a5, .inl (G 0, 6, .inl f5)), (a6, .inl (G 0, 6, .inl f6)), (im, .inl (G 3, 2, .inr (.inr (.inr (.inr (va_up (va_up (fun _ => none) 0 (some i0)) 1 (some i1))))))), (kp, .inl (G 2, 2, .inl (upd fk 1 (vp_nar .boolean 1)))), (i0, .inr (9, [.int (nI N0), .int (nI B0), .int (nI D0), .ref ib1, .ref ib2, .ref ib3, .ref ib4, .ref ib5, .ref ib6])), (ib1, .inl (G 0, 10, .inl ibf1)), (ib2, .inl (G 0, 10, .inl ibf2)), (ib3, .inl (G 0, 10, .inl ibf3)), (ib4, .inl (G 0, 6, .inl ibf4)), (ib5, .inl (G 0, 6, .inl ibf5)), (ib6, .inl (G 0, 6, .inl ibf6)), (i1, .inr (9, [.int (nI N), .int (nI B), .int (nI D), .ref id1, .ref id2, .ref id3, .ref id4, .ref id5, .ref id6])), (id1, .inl (G 0, 10, .inl u33)), (id2, .inl (G 0, 10, .inl u34)), (id3, .inl (G 0, 10, .inl u35)), (id4, .inl (G 0, 6, .inl u36)), (id5, .inl (G 0, 6, .inl u37)), (id6, .inl (G 0, 6, .inl u38))]) [0, 17, 18, 19, 20, 21, 22, 23, 1, 2, 3, 4, 5, 6, 7, 8, 9, 10, 11, 12, 13, 14, 15, 16] rfl
        have hD9 := hD.sub (ws' := [(h0, .inr (10, [.ref rd, .ref wy, .ref tr, .ref im, .ref kp, .ref od, .ref ch, .ref cr, .ref le, .ref mk, .ref tl, .ref sh, .int tf, .int rf])), (wy, .inr (9, [.int (nI N), .int (nI B), .int (nI D), .ref a1, .ref a2, .ref a3, .ref a4, .ref a5, .ref a6])), (a1, .inl (G 0, 10, .inl f1)), (a2, .inl (G 0, 10, .inl f2)), (a3, .inl (G 0, 10, .inl f3)), (a4, .inl (G 0, 6, .inl f4)), (a5, .inl (G 0, 6, .inl f5)), (a6, .inl (G 0, 6, .inl f6)), (im, .inl (G 3, 2, .inr (.inr (.inr (.inr (va_up (va_up (fun _ => none) 0 (some i0)) 1 (some i1))))))), (kp, .inl (G 2, 2, .inl (upd fk 1 (vp_nar .boolean 1)))), (i0, .inr (9, [.int (nI N0), .int (nI B0), .int (nI D0), .ref ib1, .ref ib2, .ref ib3, .ref ib4, .ref ib5, .ref ib6])), (ib1, .inl (G 0, 10, .inl ibf1)), (ib2, .inl (G 0, 10, .inl ibf2)), (ib3, .inl (G 0, 10, .inl ibf3)), (ib4, .inl (G 0, 6, .inl ibf4)), (ib5, .inl (G 0, 6, .inl ibf5)), (ib6, .inl (G 0, 6, .inl ibf6)), (i1, .inr (9, [.int (nI N), .int (nI B), .int (nI D), .ref id1, .ref id2, .ref id3, .ref id4, .ref id5, .ref id6])), (id1, .inl (G 0, 10, .inl u33)), (id2, .inl (G 0, 10, .inl u34)), (id3, .inl (G 0, 10, .inl u35)), (id4, .inl (G 0, 6, .inl u36)), (id5, .inl (G 0, 6, .inl u37)), (id6, .inl (G 0, 6, .inl u38))]) [0, 17, 18, 19, 20, 21, 22, 23, 1, 2, 3, 4, 5, 6, 7, 8, 9, 10, 11, 12, 13, 14, 15, 16] (by decide) rfl
        refine W.widen (k := 0) (n := 0) (by omega) (by omega) ?_
        exact W.iret (v := 1) hx hb hr (fun t ht hW => ⟨⟨1, (N0, B0, D0, ibf1, ibf2, ibf3, ibf4, ibf5, ibf6, N, B, D, u33, u34, u35, u36, u37, u38, (upd fk 1 (vp_nar .boolean 1))), rfl, ⟨hpost, (by have t_c22 := neI c22; have : (0 : Int32).toInt = 0 := (by decide); have t_n0 : (nI N).toInt = (N : Int) := nI_toInt (by omega); have t_n1 : (nI B).toInt = (B : Int) := nI_toInt (by omega); have t_n2 : (nI D).toInt = (D : Int) := nI_toInt (by omega); have t_n3 : (nI N0).toInt = (N0 : Int) := nI_toInt (by omega); have t_n4 : (nI B0).toInt = (B0 : Int) := nI_toInt (by omega); have t_n5 : (nI D0).toInt = (D0 : Int) := nI_toInt (by omega); have t_n6 : (nI N1).toInt = (N1 : Int) := nI_toInt (by omega); have t_n7 : (nI B1).toInt = (B1 : Int) := nI_toInt (by omega); have t_n8 : (nI D1).toInt = (D1 : Int) := nI_toInt (by omega); have z0 : (0 : Int32).toInt = 0 := (by decide); have z1 : (1 : Int32).toInt = 1 := (by decide); have z2 : (2 : Int32).toInt = 2 := (by decide); have z3 : (3 : Int32).toInt = 3 := (by decide); have z5 : (5 : Int32).toInt = 5 := (by decide); have z9 : (9 : Int32).toInt = 9 := (by decide); have z20 : (20 : Int32).toInt = 20 := (by decide); have z4 : (-4 : Int32).toInt = -4 := (by decide); have z10 : (10 : Int32).toInt = 10 := (by decide); have k0 : (0 : Int32).toNatClampNeg = 0 := (by decide); have k1 : (1 : Int32).toNatClampNeg = 1 := (by decide); refine ⟨⟨⟨by omega, by omega, by omega, by omega⟩, ⟨by omega, by omega, by omega, by omega⟩⟩, ?_, ?_, ?_, ?_, ?_⟩ <;> (first | done | rfl | omega | (rw [if_neg (by assumption)]; done) | (rw [if_neg (by decide)]; done) | (rw [if_pos (by decide)]; first | done | rfl | (rw [k0]; rfl) | (rw [k1]; rfl)) | (rw [if_pos rfl]; done) | (rw [if_neg (by omega)]; done) | (rw [if_neg (fun e9 => by have e8 := congrArg Int32.toInt e9; omega)]; done)))⟩, ⟨by rw [ht]; exact hP9, hD9⟩⟩, hS.F ht⟩) hS.2.2 dX10_keep_45
  · skip
    have b39 := if10_n c3
    refine lv_iconst (v := (-1)) hx hb dX10_keep_7 (by decide) ?_
    have hpost : ((-1) : Int32) = if (0 ≤ k.toInt ∧ k.toInt < 2) then (if fk k.toNatClampNeg = 0 then 0 else 1) else -1 := by
      have t_b39 := b39
      have t_n0 : (nI N).toInt = (N : Int) := nI_toInt (by omega)
      have t_n1 : (nI B).toInt = (B : Int) := nI_toInt (by omega)
      have t_n2 : (nI D).toInt = (D : Int) := nI_toInt (by omega)
      have t_n3 : (nI N0).toInt = (N0 : Int) := nI_toInt (by omega)
      have t_n4 : (nI B0).toInt = (B0 : Int) := nI_toInt (by omega)
      have t_n5 : (nI D0).toInt = (D0 : Int) := nI_toInt (by omega)
      have t_n6 : (nI N1).toInt = (N1 : Int) := nI_toInt (by omega)
      have t_n7 : (nI B1).toInt = (B1 : Int) := nI_toInt (by omega)
      have t_n8 : (nI D1).toInt = (D1 : Int) := nI_toInt (by omega)
      have z0 : (0 : Int32).toInt = 0 := (by decide)
      have z1 : (1 : Int32).toInt = 1 := (by decide)
      have z2 : (2 : Int32).toInt = 2 := (by decide)
      have z3 : (3 : Int32).toInt = 3 := (by decide)
      have z5 : (5 : Int32).toInt = 5 := (by decide)
      have z9 : (9 : Int32).toInt = 9 := (by decide)
      have z20 : (20 : Int32).toInt = 20 := (by decide)
      have z4 : (-4 : Int32).toInt = -4 := (by decide)
      have z10 : (10 : Int32).toInt = 10 := (by decide)
      have k0 : (0 : Int32).toNatClampNeg = 0 := (by decide)
      have k1 : (1 : Int32).toNatClampNeg = 1 := (by decide)
      first | (rw [if_neg (by omega)]; done) | (rw [if_pos (by decide)]; (try rw [k0]); (try rw [k1]); first | (rw [if_pos (by assumption)]; done) | (rw [if_neg (by assumption)]; done))
    have hP9 := hP.sub (ws' := [(h0, .inr (10, [.ref rd, .ref wy, .ref tr, .ref im, .ref kp, .ref od, .ref ch, .ref cr, .ref le, .ref mk, .ref tl, .ref sh, .int tf, .int rf])), (wy, .inr (9, [.int (nI N), .int (nI B), .int (nI D), .ref a1, .ref a2, .ref a3, .ref a4, .ref a5, .ref a6])), (a1, .inl (G 0, 10, .inl f1)), (a2, .inl (G 0, 10, .inl f2)), (a3, .inl (G 0, 10, .inl f3)), (a4, .inl (G 0, 6, .inl f4)), (a5, .inl (G 0, 6, .inl f5)), (a6, .inl (G 0, 6, .inl f6)), (im, .inl (G 3, 2, .inr (.inr (.inr (.inr (va_up (va_up (fun _ => none) 0 (some i0)) 1 (some i1))))))), (kp, .inl (G 2, 2, .inl fk)), (i0, .inr (9, [.int (nI N0), .int (nI B0), .int (nI D0), .ref ib1, .ref ib2, .ref ib3, .ref ib4, .ref ib5, .ref ib6])), (ib1, .inl (G 0, 10, .inl ibf1)), (ib2, .inl (G 0, 10, .inl ibf2)), (ib3, .inl (G 0, 10, .inl ibf3)), (ib4, .inl (G 0, 6, .inl ibf4)), (ib5, .inl (G 0, 6, .inl ibf5)), (ib6, .inl (G 0, 6, .inl ibf6)), (i1, .inr (9, [.int (nI N1), .int (nI B1), .int (nI D1), .ref id1, .ref id2, .ref id3, .ref id4, .ref id5, .ref id6])), (id1, .inl (G 0, 10, .inl idf1)), (id2, .inl (G 0, 10, .inl idf2)), (id3, .inl (G 0, 10, .inl idf3)), (id4, .inl (G 0, 6, .inl idf4)), (id5, .inl (G 0, 6, .inl idf5)), (id6, .inl (G 0, 6, .inl idf6))]) [0, 1, 2, 3, 4, 5, 6, 7, 8, 9, 10, 11, 12, 13, 14, 15, 16, 17, 18, 19, 20, 21, 22, 23] rfl
    have hD9 := hD.sub (ws' := [(h0, .inr (10, [.ref rd, .ref wy, .ref tr, .ref im, .ref kp, .ref od, .ref ch, .ref cr, .ref le, .ref mk, .ref tl, .ref sh, .int tf, .int rf])), (wy, .inr (9, [.int (nI N), .int (nI B), .int (nI D), .ref a1, .ref a2, .ref a3, .ref a4, .ref a5, .ref a6])), (a1, .inl (G 0, 10, .inl f1)), (a2, .inl (G 0, 10, .inl f2)), (a3, .inl (G 0, 10, .inl f3)), (a4, .inl (G 0, 6, .inl f4)), (a5, .inl (G 0, 6, .inl f5)), (a6, .inl (G 0, 6, .inl f6)), (im, .inl (G 3, 2, .inr (.inr (.inr (.inr (va_up (va_up (fun _ => none) 0 (some i0)) 1 (some i1))))))), (kp, .inl (G 2, 2, .inl fk)), (i0, .inr (9, [.int (nI N0), .int (nI B0), .int (nI D0), .ref ib1, .ref ib2, .ref ib3, .ref ib4, .ref ib5, .ref ib6])), (ib1, .inl (G 0, 10, .inl ibf1)), (ib2, .inl (G 0, 10, .inl ibf2)), (ib3, .inl (G 0, 10, .inl ibf3)), (ib4, .inl (G 0, 6, .inl ibf4)), (ib5, .inl (G 0, 6, .inl ibf5)), (ib6, .inl (G 0, 6, .inl ibf6)), (i1, .inr (9, [.int (nI N1), .int (nI B1), .int (nI D1), .ref id1, .ref id2, .ref id3, .ref id4, .ref id5, .ref id6])), (id1, .inl (G 0, 10, .inl idf1)), (id2, .inl (G 0, 10, .inl idf2)), (id3, .inl (G 0, 10, .inl idf3)), (id4, .inl (G 0, 6, .inl idf4)), (id5, .inl (G 0, 6, .inl idf5)), (id6, .inl (G 0, 6, .inl idf6))]) [0, 1, 2, 3, 4, 5, 6, 7, 8, 9, 10, 11, 12, 13, 14, 15, 16, 17, 18, 19, 20, 21, 22, 23] (by decide) rfl
    refine W.widen (k := 0) (n := 0) (by omega) (by omega) ?_
    exact W.iret (v := (-1)) hx hb hr (fun t ht hW => ⟨⟨(-1), (N0, B0, D0, ibf1, ibf2, ibf3, ibf4, ibf5, ibf6, N1, B1, D1, idf1, idf2, idf3, idf4, idf5, idf6, fk), rfl, ⟨hpost, (by have t_b39 := b39; have t_n0 : (nI N).toInt = (N : Int) := nI_toInt (by omega); have t_n1 : (nI B).toInt = (B : Int) := nI_toInt (by omega); have t_n2 : (nI D).toInt = (D : Int) := nI_toInt (by omega); have t_n3 : (nI N0).toInt = (N0 : Int) := nI_toInt (by omega); have t_n4 : (nI B0).toInt = (B0 : Int) := nI_toInt (by omega); have t_n5 : (nI D0).toInt = (D0 : Int) := nI_toInt (by omega); have t_n6 : (nI N1).toInt = (N1 : Int) := nI_toInt (by omega); have t_n7 : (nI B1).toInt = (B1 : Int) := nI_toInt (by omega); have t_n8 : (nI D1).toInt = (D1 : Int) := nI_toInt (by omega); have z0 : (0 : Int32).toInt = 0 := (by decide); have z1 : (1 : Int32).toInt = 1 := (by decide); have z2 : (2 : Int32).toInt = 2 := (by decide); have z3 : (3 : Int32).toInt = 3 := (by decide); have z5 : (5 : Int32).toInt = 5 := (by decide); have z9 : (9 : Int32).toInt = 9 := (by decide); have z20 : (20 : Int32).toInt = 20 := (by decide); have z4 : (-4 : Int32).toInt = -4 := (by decide); have z10 : (10 : Int32).toInt = 10 := (by decide); have k0 : (0 : Int32).toNatClampNeg = 0 := (by decide); have k1 : (1 : Int32).toNatClampNeg = 1 := (by decide); refine ⟨⟨⟨by omega, by omega, by omega, by omega⟩, ⟨by omega, by omega, by omega, by omega⟩⟩, ?_, ?_, ?_, ?_, ?_⟩ <;> (first | done | rfl | omega | (rw [if_neg (by assumption)]; done) | (rw [if_neg (by decide)]; done) | (rw [if_pos (by decide)]; first | done | rfl | (rw [k0]; rfl) | (rw [k1]; rfl)) | (rw [if_pos rfl]; done) | (rw [if_neg (by omega)]; done) | (rw [if_neg (fun e9 => by have e8 := congrArg Int32.toInt e9; omega)]; done)))⟩, ⟨by rw [ht]; exact hP9, hD9⟩⟩, hS.F ht⟩) hS.2.2 dX10_keep_8

set_option maxHeartbeats 1000000 in
set_option maxRecDepth 100000 in
theorem c_X10_backE (l : Launch) (dC : Nat → ClassId) (dI : Nat → Nat → Nat) (G : Nat → ClassId) (sz : Nat) (h0 rd wy tr im kp od ch cr le mk tl sh a1 a2 a3 a4 a5 a6 N B D i0 i1 ib1 ib2 ib3 ib4 ib5 ib6 id1 id2 id3 id4 id5 id6 N0 B0 D0 N1 B1 D1 : Nat) (tf rf k : Int32) (f1 f2 f3 f4 f5 f6 fk ibf1 ibf2 ibf3 ibf4 ibf5 ibf6 idf1 idf2 idf3 idf4 idf5 idf6 : Nat → Int32) (hN_N : N ≤ 10) (hB_B : B ≤ 6) (hD_D : 1 ≤ D ∧ D ≤ 9) (hN_N0 : N0 ≤ 10) (hB_B0 : B0 ≤ 6) (hD_D0 : 1 ≤ D0 ∧ D0 ≤ 9) (hN_N1 : N1 ≤ 10) (hB_B1 : B1 ≤ 6) (hD_D1 : 1 ≤ D1 ∧ D1 ≤ 9) : Met l yX10_back (Cond.code yX10_back cX10_back 2 (some .int) :: GT) ({ frames := 2, cells := 0, slots := 0, locals := 121 } : Room) (PcW [.ref h0, .int k] dC dI G [(h0, .inr (10, [.ref rd, .ref wy, .ref tr, .ref im, .ref kp, .ref od, .ref ch, .ref cr, .ref le, .ref mk, .ref tl, .ref sh, .int tf, .int rf])), (wy, .inr (9, [.int (nI N), .int (nI B), .int (nI D), .ref a1, .ref a2, .ref a3, .ref a4, .ref a5, .ref a6])), (a1, .inl (G 0, 10, .inl f1)), (a2, .inl (G 0, 10, .inl f2)), (a3, .inl (G 0, 10, .inl f3)), (a4, .inl (G 0, 6, .inl f4)), (a5, .inl (G 0, 6, .inl f5)), (a6, .inl (G 0, 6, .inl f6)), (im, .inl (G 3, 2, .inr (.inr (.inr (.inr (va_up (va_up (fun _ => none) 0 (some i0)) 1 (some i1))))))), (kp, .inl (G 2, 2, .inl fk)), (i0, .inr (9, [.int (nI N0), .int (nI B0), .int (nI D0), .ref ib1, .ref ib2, .ref ib3, .ref ib4, .ref ib5, .ref ib6])), (ib1, .inl (G 0, 10, .inl ibf1)), (ib2, .inl (G 0, 10, .inl ibf2)), (ib3, .inl (G 0, 10, .inl ibf3)), (ib4, .inl (G 0, 6, .inl ibf4)), (ib5, .inl (G 0, 6, .inl ibf5)), (ib6, .inl (G 0, 6, .inl ibf6)), (i1, .inr (9, [.int (nI N1), .int (nI B1), .int (nI D1), .ref id1, .ref id2, .ref id3, .ref id4, .ref id5, .ref id6])), (id1, .inl (G 0, 10, .inl idf1)), (id2, .inl (G 0, 10, .inl idf2)), (id3, .inl (G 0, 10, .inl idf3)), (id4, .inl (G 0, 6, .inl idf4)), (id5, .inl (G 0, 6, .inl idf5)), (id6, .inl (G 0, 6, .inl idf6))] sz) (va_Qi (fun (r : Int32) (u : Nat × Nat × Nat × (Nat → Int32) × (Nat → Int32) × (Nat → Int32) × (Nat → Int32) × (Nat → Int32) × (Nat → Int32)) => match u with | (u0, u1, u2, u3, u4, u5, u6, u7, u8) => (r = if (0 ≤ k.toInt ∧ k.toInt < 2) then (if fk k.toNatClampNeg = 0 then -2 else if k = 0 then nI N0 else nI N1) else -1) ∧ (u0 ≤ 10 ∧ u1 ≤ 6 ∧ (1 ≤ u2 ∧ u2 ≤ 9)) ∧ u0 = (if k = 0 ∧ ¬ fk 0 = 0 then N0 else if k = 1 ∧ ¬ fk 1 = 0 then N1 else N) ∧ u1 = (if k = 0 ∧ ¬ fk 0 = 0 then B0 else if k = 1 ∧ ¬ fk 1 = 0 then B1 else B)) (fun (u : Nat × Nat × Nat × (Nat → Int32) × (Nat → Int32) × (Nat → Int32) × (Nat → Int32) × (Nat → Int32) × (Nat → Int32)) (t : State) => match u with | (u0, u1, u2, u3, u4, u5, u6, u7, u8) => va_P (dC, dI) vwCl [(h0, .inr (10, [.ref rd, .ref wy, .ref tr, .ref im, .ref kp, .ref od, .ref ch, .ref cr, .ref le, .ref mk, .ref tl, .ref sh, .int tf, .int rf])), (wy, .inr (9, [.int (nI u0), .int (nI u1), .int (nI u2), .ref a1, .ref a2, .ref a3, .ref a4, .ref a5, .ref a6])), (a1, .inl (G 0, 10, .inl u3)), (a2, .inl (G 0, 10, .inl u4)), (a3, .inl (G 0, 10, .inl u5)), (a4, .inl (G 0, 6, .inl u6)), (a5, .inl (G 0, 6, .inl u7)), (a6, .inl (G 0, 6, .inl u8)), (im, .inl (G 3, 2, .inr (.inr (.inr (.inr (va_up (va_up (fun _ => none) 0 (some i0)) 1 (some i1))))))), (kp, .inl (G 2, 2, .inl fk)), (i0, .inr (9, [.int (nI N0), .int (nI B0), .int (nI D0), .ref ib1, .ref ib2, .ref ib3, .ref ib4, .ref ib5, .ref ib6])), (ib1, .inl (G 0, 10, .inl ibf1)), (ib2, .inl (G 0, 10, .inl ibf2)), (ib3, .inl (G 0, 10, .inl ibf3)), (ib4, .inl (G 0, 6, .inl ibf4)), (ib5, .inl (G 0, 6, .inl ibf5)), (ib6, .inl (G 0, 6, .inl ibf6)), (i1, .inr (9, [.int (nI N1), .int (nI B1), .int (nI D1), .ref id1, .ref id2, .ref id3, .ref id4, .ref id5, .ref id6])), (id1, .inl (G 0, 10, .inl idf1)), (id2, .inl (G 0, 10, .inl idf2)), (id3, .inl (G 0, 10, .inl idf3)), (id4, .inl (G 0, 6, .inl idf4)), (id5, .inl (G 0, 6, .inl idf5)), (id6, .inl (G 0, 6, .inl idf6))] t.heap ∧ va_D (va_A [(h0, .inr (10, [.ref rd, .ref wy, .ref tr, .ref im, .ref kp, .ref od, .ref ch, .ref cr, .ref le, .ref mk, .ref tl, .ref sh, .int tf, .int rf])), (wy, .inr (9, [.int (nI N), .int (nI B), .int (nI D), .ref a1, .ref a2, .ref a3, .ref a4, .ref a5, .ref a6])), (a1, .inl (G 0, 10, .inl f1)), (a2, .inl (G 0, 10, .inl f2)), (a3, .inl (G 0, 10, .inl f3)), (a4, .inl (G 0, 6, .inl f4)), (a5, .inl (G 0, 6, .inl f5)), (a6, .inl (G 0, 6, .inl f6)), (im, .inl (G 3, 2, .inr (.inr (.inr (.inr (va_up (va_up (fun _ => none) 0 (some i0)) 1 (some i1))))))), (kp, .inl (G 2, 2, .inl fk)), (i0, .inr (9, [.int (nI N0), .int (nI B0), .int (nI D0), .ref ib1, .ref ib2, .ref ib3, .ref ib4, .ref ib5, .ref ib6])), (ib1, .inl (G 0, 10, .inl ibf1)), (ib2, .inl (G 0, 10, .inl ibf2)), (ib3, .inl (G 0, 10, .inl ibf3)), (ib4, .inl (G 0, 6, .inl ibf4)), (ib5, .inl (G 0, 6, .inl ibf5)), (ib6, .inl (G 0, 6, .inl ibf6)), (i1, .inr (9, [.int (nI N1), .int (nI B1), .int (nI D1), .ref id1, .ref id2, .ref id3, .ref id4, .ref id5, .ref id6])), (id1, .inl (G 0, 10, .inl idf1)), (id2, .inl (G 0, 10, .inl idf2)), (id3, .inl (G 0, 10, .inl idf3)), (id4, .inl (G 0, 6, .inl idf4)), (id5, .inl (G 0, 6, .inl idf5)), (id6, .inl (G 0, 6, .inl idf6))] sz) [(h0, .inr (10, [.ref rd, .ref wy, .ref tr, .ref im, .ref kp, .ref od, .ref ch, .ref cr, .ref le, .ref mk, .ref tl, .ref sh, .int tf, .int rf])), (wy, .inr (9, [.int (nI u0), .int (nI u1), .int (nI u2), .ref a1, .ref a2, .ref a3, .ref a4, .ref a5, .ref a6])), (a1, .inl (G 0, 10, .inl u3)), (a2, .inl (G 0, 10, .inl u4)), (a3, .inl (G 0, 10, .inl u5)), (a4, .inl (G 0, 6, .inl u6)), (a5, .inl (G 0, 6, .inl u7)), (a6, .inl (G 0, 6, .inl u8)), (im, .inl (G 3, 2, .inr (.inr (.inr (.inr (va_up (va_up (fun _ => none) 0 (some i0)) 1 (some i1))))))), (kp, .inl (G 2, 2, .inl fk)), (i0, .inr (9, [.int (nI N0), .int (nI B0), .int (nI D0), .ref ib1, .ref ib2, .ref ib3, .ref ib4, .ref ib5, .ref ib6])), (ib1, .inl (G 0, 10, .inl ibf1)), (ib2, .inl (G 0, 10, .inl ibf2)), (ib3, .inl (G 0, 10, .inl ibf3)), (ib4, .inl (G 0, 6, .inl ibf4)), (ib5, .inl (G 0, 6, .inl ibf5)), (ib6, .inl (G 0, 6, .inl ibf6)), (i1, .inr (9, [.int (nI N1), .int (nI B1), .int (nI D1), .ref id1, .ref id2, .ref id3, .ref id4, .ref id5, .ref id6])), (id1, .inl (G 0, 10, .inl idf1)), (id2, .inl (G 0, 10, .inl idf2)), (id3, .inl (G 0, 10, .inl idf3)), (id4, .inl (G 0, 6, .inl idf4)), (id5, .inl (G 0, 6, .inl idf5)), (id6, .inl (G 0, 6, .inl idf6))]) (va_A [(h0, .inr (10, [.ref rd, .ref wy, .ref tr, .ref im, .ref kp, .ref od, .ref ch, .ref cr, .ref le, .ref mk, .ref tl, .ref sh, .int tf, .int rf])), (wy, .inr (9, [.int (nI N), .int (nI B), .int (nI D), .ref a1, .ref a2, .ref a3, .ref a4, .ref a5, .ref a6])), (a1, .inl (G 0, 10, .inl f1)), (a2, .inl (G 0, 10, .inl f2)), (a3, .inl (G 0, 10, .inl f3)), (a4, .inl (G 0, 6, .inl f4)), (a5, .inl (G 0, 6, .inl f5)), (a6, .inl (G 0, 6, .inl f6)), (im, .inl (G 3, 2, .inr (.inr (.inr (.inr (va_up (va_up (fun _ => none) 0 (some i0)) 1 (some i1))))))), (kp, .inl (G 2, 2, .inl fk)), (i0, .inr (9, [.int (nI N0), .int (nI B0), .int (nI D0), .ref ib1, .ref ib2, .ref ib3, .ref ib4, .ref ib5, .ref ib6])), (ib1, .inl (G 0, 10, .inl ibf1)), (ib2, .inl (G 0, 10, .inl ibf2)), (ib3, .inl (G 0, 10, .inl ibf3)), (ib4, .inl (G 0, 6, .inl ibf4)), (ib5, .inl (G 0, 6, .inl ibf5)), (ib6, .inl (G 0, 6, .inl ibf6)), (i1, .inr (9, [.int (nI N1), .int (nI B1), .int (nI D1), .ref id1, .ref id2, .ref id3, .ref id4, .ref id5, .ref id6])), (id1, .inl (G 0, 10, .inl idf1)), (id2, .inl (G 0, 10, .inl idf2)), (id3, .inl (G 0, 10, .inl idf3)), (id4, .inl (G 0, 6, .inl idf4)), (id5, .inl (G 0, 6, .inl idf5)), (id6, .inl (G 0, 6, .inl idf6))] sz)) 0 0 (va_A [(h0, .inr (10, [.ref rd, .ref wy, .ref tr, .ref im, .ref kp, .ref od, .ref ch, .ref cr, .ref le, .ref mk, .ref tl, .ref sh, .int tf, .int rf])), (wy, .inr (9, [.int (nI N), .int (nI B), .int (nI D), .ref a1, .ref a2, .ref a3, .ref a4, .ref a5, .ref a6])), (a1, .inl (G 0, 10, .inl f1)), (a2, .inl (G 0, 10, .inl f2)), (a3, .inl (G 0, 10, .inl f3)), (a4, .inl (G 0, 6, .inl f4)), (a5, .inl (G 0, 6, .inl f5)), (a6, .inl (G 0, 6, .inl f6)), (im, .inl (G 3, 2, .inr (.inr (.inr (.inr (va_up (va_up (fun _ => none) 0 (some i0)) 1 (some i1))))))), (kp, .inl (G 2, 2, .inl fk)), (i0, .inr (9, [.int (nI N0), .int (nI B0), .int (nI D0), .ref ib1, .ref ib2, .ref ib3, .ref ib4, .ref ib5, .ref ib6])), (ib1, .inl (G 0, 10, .inl ibf1)), (ib2, .inl (G 0, 10, .inl ibf2)), (ib3, .inl (G 0, 10, .inl ibf3)), (ib4, .inl (G 0, 6, .inl ibf4)), (ib5, .inl (G 0, 6, .inl ibf5)), (ib6, .inl (G 0, 6, .inl ibf6)), (i1, .inr (9, [.int (nI N1), .int (nI B1), .int (nI D1), .ref id1, .ref id2, .ref id3, .ref id4, .ref id5, .ref id6])), (id1, .inl (G 0, 10, .inl idf1)), (id2, .inl (G 0, 10, .inl idf2)), (id3, .inl (G 0, 10, .inl idf3)), (id4, .inl (G 0, 6, .inl idf4)), (id5, .inl (G 0, 6, .inl idf5)), (id6, .inl (G 0, 6, .inl idf6))] sz) := by
  refine Met.ofW (cc := cX10_back) (maxL := 2) (ret := (some .int)) (by decide) rfl ?_
  intro p e s m args below meth c s₁ Bd hml hv
  obtain ⟨rfl, hsz, hP, hK, hD0⟩ := hv
  have hx := Bd.exec
  have hb := Bd.bytes
  have hr := Bd.returns
  have hg : ∀ w ∈ GT, w.before ([.ref h0, .int k] : List Value).toArray s = true := fun w h => atoms_spec (ws := Cond.code yX10_back cX10_back 2 (some .int) :: GT) Bd.pre w (List.mem_cons_of_mem _ h)
  have hown : s.vm.findClass RX10 = some m.cls := findClass_of_methodNamed Bd.named
  have hlocks := Bd.notSynchronized
  subst hsz
  have hD := hD0.self (sz := s.heap.size)
  generalize hAe : va_A [(h0, .inr (10, [.ref rd, .ref wy, .ref tr, .ref im, .ref kp, .ref od, .ref ch, .ref cr, .ref le, .ref mk, .ref tl, .ref sh, .int tf, .int rf])), (wy, .inr (9, [.int (nI N), .int (nI B), .int (nI D), .ref a1, .ref a2, .ref a3, .ref a4, .ref a5, .ref a6])), (a1, .inl (G 0, 10, .inl f1)), (a2, .inl (G 0, 10, .inl f2)), (a3, .inl (G 0, 10, .inl f3)), (a4, .inl (G 0, 6, .inl f4)), (a5, .inl (G 0, 6, .inl f5)), (a6, .inl (G 0, 6, .inl f6)), (im, .inl (G 3, 2, .inr (.inr (.inr (.inr (va_up (va_up (fun _ => none) 0 (some i0)) 1 (some i1))))))), (kp, .inl (G 2, 2, .inl fk)), (i0, .inr (9, [.int (nI N0), .int (nI B0), .int (nI D0), .ref ib1, .ref ib2, .ref ib3, .ref ib4, .ref ib5, .ref ib6])), (ib1, .inl (G 0, 10, .inl ibf1)), (ib2, .inl (G 0, 10, .inl ibf2)), (ib3, .inl (G 0, 10, .inl ibf3)), (ib4, .inl (G 0, 6, .inl ibf4)), (ib5, .inl (G 0, 6, .inl ibf5)), (ib6, .inl (G 0, 6, .inl ibf6)), (i1, .inr (9, [.int (nI N1), .int (nI B1), .int (nI D1), .ref id1, .ref id2, .ref id3, .ref id4, .ref id5, .ref id6])), (id1, .inl (G 0, 10, .inl idf1)), (id2, .inl (G 0, 10, .inl idf2)), (id3, .inl (G 0, 10, .inl idf3)), (id4, .inl (G 0, 6, .inl idf4)), (id5, .inl (G 0, 6, .inl idf5)), (id6, .inl (G 0, 6, .inl idf6))] s.heap.size = A at hD ⊢
  have hA : ∀ q : Nat, s.heap.size ≤ q → A q := fun q h => by rw [← hAe]; exact Or.inr h
  have hS : va_S A s.heap s.heap [] := va_S.rf
  have hl := lv_entry ([.ref h0, .int k]) (n := 2) (Nat.le_of_ble_eq_true rfl)
  rw [lg_entry_eq]
  generalize (lg_sl ([.ref h0, .int k]) ++ List.replicate (2 - (lg_sl ([.ref h0, .int k])).length) Slot.unset).toArray = ls at hl ⊢
  have hl : lv_has ls 2 [(0, .ref h0), (1, .int k)] := hl
  refine lv_iload_n hx hb dX10_back_0 rfl (lv_at hl 1 rfl) ?_
  have hPc := hP.sub (ws' := []) [] rfl
  refine va_calli (va_runS (As := [.int k]) (rest := []) ⟨hx, hb, hml, hown, hg⟩ (c_X10_isImage l dC dI G _ k ) (kwS hg mfX10_isImage wt_812 ⟨Nat.le_of_ble_eq_true rfl, Nat.le_of_ble_eq_true rfl⟩) (preSR hK hPc) rfl rfl hl.1 rfl (lv_room (Nat.le_of_ble_eq_true rfl)) dX10_back_1 ⟨Nat.le_of_ble_eq_true rfl, Nat.le_of_ble_eq_true rfl⟩) hS (fun q h1 h2 => absurd h2 (Nat.not_le.mpr h1)) (fun q h => hA q (Nat.le_trans hS.1 h)) (fun r1 ur1 t H1 locs ht hvm w2 hB hz1 hk1 hS => ?_)
  have hP := keepR hP hk1
  obtain ⟨w2, w2x⟩ := w2
  try simp only [l_ii, show (0 : Int32).toInt = 0 from by decide, show (2 : Int32).toInt = 2 from by decide] at w2
  subst w2
  refine lv_if_ne (tgt := 9) hx hb dX10_back_4 (by decide) (fun c3 => ?_) (fun c3 => ?_)
  · skip
    have b4 := if10_p c3
    have hsp : k = 0 ∨ k = 1 := by
      have t_b4 := b4
      have t_n0 : (nI N).toInt = (N : Int) := nI_toInt (by omega)
      have t_n1 : (nI B).toInt = (B : Int) := nI_toInt (by omega)
      have t_n2 : (nI D).toInt = (D : Int) := nI_toInt (by omega)
      have t_n3 : (nI N0).toInt = (N0 : Int) := nI_toInt (by omega)
      have t_n4 : (nI B0).toInt = (B0 : Int) := nI_toInt (by omega)
      have t_n5 : (nI D0).toInt = (D0 : Int) := nI_toInt (by omega)
      have t_n6 : (nI N1).toInt = (N1 : Int) := nI_toInt (by omega)
      have t_n7 : (nI B1).toInt = (B1 : Int) := nI_toInt (by omega)
      have t_n8 : (nI D1).toInt = (D1 : Int) := nI_toInt (by omega)
      have : (0 : Int32).toInt = 0 := by decide
      have : (1 : Int32).toInt = 1 := by decide
      rcases (show k.toInt = 0 ∨ k.toInt = 1 by omega) with q | q
      · exact Or.inl (Int32.toInt_inj.mp (by rw [q]; rfl))
      · exact Or.inr ((Int32.toInt_inj.mp (by rw [q]; rfl)))
    rcases hsp with rfl | rfl
    · skip
      refine lv_aload_n hx hb dX10_back_9 rfl (lv_at hl 0 rfl) ?_
      refine va_get (D := (dC, dI)) (ci := 10) (v := .ref kp) (C := RX10) (T := TX10) (N := 14) hx hb hg inG10 hown hK.1 hP 0 rfl rfl 4 (by decide) (hg _ wt_306) (fun _ h9 => h9) rfl dX10_back_10 ?_
      refine lv_iload_n hx hb dX10_back_13 rfl (lv_at hl 1 rfl) ?_
      refine va_zald hx hb hK.1 hP 9 2 rfl rfl (vp_in_iff.mpr ⟨by decide, by decide⟩) dX10_back_14 ?_
      refine lv_cg (y := fk 0) (by rfl) ?_
      refine lv_if_ne (tgt := 21) hx hb dX10_back_15 (by decide) (fun c5 => ?_) (fun c5 => ?_)
      · skip
        refine lv_aload_n hx hb dX10_back_21 rfl (lv_at hl 0 rfl) ?_
        refine va_get (D := (dC, dI)) (ci := 10) (v := .ref wy) (C := RX10) (T := TX10) (N := 14) hx hb hg inG10 hown hK.1 hP 0 rfl rfl 1 (by decide) (hg _ wt_303) (fun _ h9 => h9) rfl dX10_back_22 ?_
        refine lv_aload_n hx hb dX10_back_25 rfl (lv_at hl 0 rfl) ?_
        refine va_get (D := (dC, dI)) (ci := 10) (v := .ref im) (C := RX10) (T := TX10) (N := 14) hx hb hg inG10 hown hK.1 hP 0 rfl rfl 3 (by decide) (hg _ wt_305) (fun _ h9 => h9) rfl dX10_back_26 ?_
        refine lv_iload_n hx hb dX10_back_29 rfl (lv_at hl 1 rfl) ?_
        refine va_aldq hx hb hK.1 hP 8 3 rfl rfl (vp_in_iff.mpr ⟨by decide, by decide⟩) dX10_back_30 ?_
        refine lv_cgv (y := .ref i0) (by rfl) ?_
        have hPc := hP.sub (ws' := [(wy, .inr (9, [.int (nI N), .int (nI B), .int (nI D), .ref a1, .ref a2, .ref a3, .ref a4, .ref a5, .ref a6])), (a1, .inl (G 0, 10, .inl f1)), (a2, .inl (G 0, 10, .inl f2)), (a3, .inl (G 0, 10, .inl f3)), (a4, .inl (G 0, 6, .inl f4)), (a5, .inl (G 0, 6, .inl f5)), (a6, .inl (G 0, 6, .inl f6)), (i0, .inr (9, [.int (nI N0), .int (nI B0), .int (nI D0), .ref ib1, .ref ib2, .ref ib3, .ref ib4, .ref ib5, .ref ib6])), (ib1, .inl (G 0, 10, .inl ibf1)), (ib2, .inl (G 0, 10, .inl ibf2)), (ib3, .inl (G 0, 10, .inl ibf3)), (ib4, .inl (G 0, 6, .inl ibf4)), (ib5, .inl (G 0, 6, .inl ibf5)), (ib6, .inl (G 0, 6, .inl ibf6))]) [1, 2, 3, 4, 5, 6, 7, 10, 11, 12, 13, 14, 15, 16] rfl
        have hDc := hD.sub (ws' := [(wy, .inr (9, [.int (nI N), .int (nI B), .int (nI D), .ref a1, .ref a2, .ref a3, .ref a4, .ref a5, .ref a6])), (a1, .inl (G 0, 10, .inl f1)), (a2, .inl (G 0, 10, .inl f2)), (a3, .inl (G 0, 10, .inl f3)), (a4, .inl (G 0, 6, .inl f4)), (a5, .inl (G 0, 6, .inl f5)), (a6, .inl (G 0, 6, .inl f6)), (i0, .inr (9, [.int (nI N0), .int (nI B0), .int (nI D0), .ref ib1, .ref ib2, .ref ib3, .ref ib4, .ref ib5, .ref ib6])), (ib1, .inl (G 0, 10, .inl ibf1)), (ib2, .inl (G 0, 10, .inl ibf2)), (ib3, .inl (G 0, 10, .inl ibf3)), (ib4, .inl (G 0, 6, .inl ibf4)), (ib5, .inl (G 0, 6, .inl ibf5)), (ib6, .inl (G 0, 6, .inl ibf6))]) [1, 2, 3, 4, 5, 6, 7, 10, 11, 12, 13, 14, 15, 16] (by decide) rfl
        have hFc := va_free (wc := [(wy, .inr (9, [.int (nI N), .int (nI B), .int (nI D), .ref a1, .ref a2, .ref a3, .ref a4, .ref a5, .ref a6])), (a1, .inl (G 0, 10, .inl f1)), (a2, .inl (G 0, 10, .inl f2)), (a3, .inl (G 0, 10, .inl f3)), (a4, .inl (G 0, 6, .inl f4)), (a5, .inl (G 0, 6, .inl f5)), (a6, .inl (G 0, 6, .inl f6)), (i0, .inr (9, [.int (nI N0), .int (nI B0), .int (nI D0), .ref ib1, .ref ib2, .ref ib3, .ref ib4, .ref ib5, .ref ib6])), (ib1, .inl (G 0, 10, .inl ibf1)), (ib2, .inl (G 0, 10, .inl ibf2)), (ib3, .inl (G 0, 10, .inl ibf3)), (ib4, .inl (G 0, 6, .inl ibf4)), (ib5, .inl (G 0, 6, .inl ibf5)), (ib6, .inl (G 0, 6, .inl ibf6))]) hD hS hA [1, 2, 3, 4, 5, 6, 7, 10, 11, 12, 13, 14, 15, 16] rfl
        refine va_callv (va_runVN (As := [.ref i0]) (rest := []) ⟨hx, hb, hml, hown, hg⟩ (c_X9_copyOf l dC dI G _ wy i0 a1 a2 a3 a4 a5 a6 ib1 ib2 ib3 ib4 ib5 ib6 (nI N) (nI B) (nI D) (nI N0) (nI B0) (nI D0) f1 f2 f3 f4 f5 f6 ibf1 ibf2 ibf3 ibf4 ibf5 ibf6 ) (kwVN hg hK mfX9_copyOf wn_507 ⟨Nat.le_of_ble_eq_true rfl, Nat.le_of_ble_eq_true rfl⟩) (preVW hK hPc hDc (ci := 9) rfl rfl) rfl rfl hl.1 rfl (lv_room (Nat.le_of_ble_eq_true rfl)) dX10_back_31 ⟨Nat.le_of_ble_eq_true rfl, Nat.le_of_ble_eq_true rfl⟩) hS (fun q _ h => hFc q h) hFc (fun ur6 t H1 locs ht hvm w7 hB hz1 hk1 hS => ?_)
        obtain ⟨u8, u9, u10, u11, u12, u13⟩ := ur6
        obtain ⟨hP1, hD1⟩ := hB
        rw [ht] at hP1
        obtain ⟨hP, hD⟩ := va_join (wr := [(h0, .inr (10, [.ref rd, .ref wy, .ref tr, .ref im, .ref kp, .ref od, .ref ch, .ref cr, .ref le, .ref mk, .ref tl, .ref sh, .int tf, .int rf])), (im, .inl (G 3, 2, .inr (.inr (.inr (.inr (va_up (va_up (fun _ => none) 0 (some i0)) 1 (some i1))))))), (kp, .inl (G 2, 2, .inl fk)), (i1, .inr (9, [.int (nI N1), .int (nI B1), .int (nI D1), .ref id1, .ref id2, .ref id3, .ref id4, .ref id5, .ref id6])), (id1, .inl (G 0, 10, .inl idf1)), (id2, .inl (G 0, 10, .inl idf2)), (id3, .inl (G 0, 10, .inl idf3)), (id4, .inl (G 0, 6, .inl idf4)), (id5, .inl (G 0, 6, .inl idf5)), (id6, .inl (G 0, 6, .inl idf6))]) (w1 := [(wy, .inr (9, [.int (nI N0), .int (nI B0), .int (nI D0), .ref a1, .ref a2, .ref a3, .ref a4, .ref a5, .ref a6])), (a1, .inl (G 0, 10, .inl u8)), (a2, .inl (G 0, 10, .inl u9)), (a3, .inl (G 0, 10, .inl u10)), (a4, .inl (G 0, 6, .inl u11)), (a5, .inl (G 0, 6, .inl u12)), (a6, .inl (G 0, 6, .inl u13)), (i0, .inr (9, [.int (nI N0), .int (nI B0), .int (nI D0), .ref ib1, .ref ib2, .ref ib3, .ref ib4, .ref ib5, .ref ib6])), (ib1, .inl (G 0, 10, .inl ibf1)), (ib2, .inl (G 0, 10, .inl ibf2)), (ib3, .inl (G 0, 10, .inl ibf3)), (ib4, .inl (G 0, 6, .inl ibf4)), (ib5, .inl (G 0, 6, .inl ibf5)), (ib6, .inl (G 0, 6, .inl ibf6))]) hP hD [1, 2, 3, 4, 5, 6, 7, 10, 11, 12, 13, 14, 15, 16] [0, 8, 9, 17, 18, 19, 20, 21, 22, 23] rfl rfl (by decide) (by decide) hk1 hFc hP1 hD1
        generalize H1 = H at hP hS ⊢
        have hP : va_P (dC, dI) vwCl [(h0, .inr (10, [.ref rd, .ref wy, .ref tr, .ref im, .ref kp, .ref od, .ref ch, .ref cr, .ref le, .ref mk, .ref tl, .ref sh, .int tf, .int rf])), (im, .inl (G 3, 2, .inr (.inr (.inr (.inr (va_up (va_up (fun _ => none) 0 (some i0)) 1 (some i1))))))), (kp, .inl (G 2, 2, .inl fk)), (i1, .inr (9, [.int (nI N1), .int (nI B1), .int (nI D1), .ref id1, .ref id2, .ref id3, .ref id4, .ref id5, .ref id6])), (id1, .inl (G 0, 10, .inl idf1)), (id2, .inl (G 0, 10, .inl idf2)), (id3, .inl (G 0, 10, .inl idf3)), (id4, .inl (G 0, 6, .inl idf4)), (id5, .inl (G 0, 6, .inl idf5)), (id6, .inl (G 0, 6, .inl idf6)), (wy, .inr (9, [.int (nI N0), .int (nI B0), .int (nI D0), .ref a1, .ref a2, .ref a3, .ref a4, .ref a5, .ref a6])), (a1, .inl (G 0, 10, .inl u8)), (a2, .inl (G 0, 10, .inl u9)), (a3, .inl (G 0, 10, .inl u10)), (a4, .inl (G 0, 6, .inl u11)), (a5, .inl (G 0, 6, .inl u12)), (a6, .inl (G 0, 6, .inl u13)), (i0, .inr (9, [.int (nI N0), .int (nI B0), .int (nI D0), .ref ib1, .ref ib2, .ref ib3, .ref ib4, .ref ib5, .ref ib6])), (ib1, .inl (G 0, 10, .inl ibf1)), (ib2, .inl (G 0, 10, .inl ibf2)), (ib3, .inl (G 0, 10, .inl ibf3)), (ib4, .inl (G 0, 6, .inl ibf4)), (ib5, .inl (G 0, 6, .inl ibf5)), (ib6, .inl (G 0, 6, .inl ibf6))] H := hP
        have hD : va_D A [(h0, .inr (10, [.ref rd, .ref wy, .ref tr, .ref im, .ref kp, .ref od, .ref ch, .ref cr, .ref le, .ref mk, .ref tl, .ref sh, .int tf, .int rf])), (im, .inl (G 3, 2, .inr (.inr (.inr (.inr (va_up (va_up (fun _ => none) 0 (some i0)) 1 (some i1))))))), (kp, .inl (G 2, 2, .inl fk)), (i1, .inr (9, [.int (nI N1), .int (nI B1), .int (nI D1), .ref id1, .ref id2, .ref id3, .ref id4, .ref id5, .ref id6])), (id1, .inl (G 0, 10, .inl idf1)), (id2, .inl (G 0, 10, .inl idf2)), (id3, .inl (G 0, 10, .inl idf3)), (id4, .inl (G 0, 6, .inl idf4)), (id5, .inl (G 0, 6, .inl idf5)), (id6, .inl (G 0, 6, .inl idf6)), (wy, .inr (9, [.int (nI N0), .int (nI B0), .int (nI D0), .ref a1, .ref a2, .ref a3, .ref a4, .ref a5, .ref a6])), (a1, .inl (G 0, 10, .inl u8)), (a2, .inl (G 0, 10, .inl u9)), (a3, .inl (G 0, 10, .inl u10)), (a4, .inl (G 0, 6, .inl u11)), (a5, .inl (G 0, 6, .inl u12)), (a6, .inl (G 0, 6, .inl u13)), (i0, .inr (9, [.int (nI N0), .int (nI B0), .int (nI D0), .ref ib1, .ref ib2, .ref ib3, .ref ib4, .ref ib5, .ref ib6])), (ib1, .inl (G 0, 10, .inl ibf1)), (ib2, .inl (G 0, 10, .inl ibf2)), (ib3, .inl (G 0, 10, .inl ibf3)), (ib4, .inl (G 0, 6, .inl ibf4)), (ib5, .inl (G 0, 6, .inl ibf5)), (ib6, .inl (G 0, 6, .inl ibf6))] := hD
        refine lv_aload_n hx hb dX10_back_34 rfl (lv_at hl 0 rfl) ?_
        refine va_get (D := (dC, dI)) (ci := 10) (v := .ref wy) (C := RX10) (T := TX10) (N := 14) hx hb hg inG10 hown hK.1 hP 0 rfl rfl 1 (by decide) (hg _ wt_303) (fun _ h9 => h9) rfl dX10_back_35 ?_
        refine va_getN (D := (dC, dI)) (ci := 9) (v := .int (nI N0)) (C := RX9) (T := TX9) (N := 9) hx hb hg inG9 hown hK.1 hP 10 rfl rfl 0 (by decide) (hK.nest wn_60) (fun _ h9 => h9) rfl dX10_back_38 ?_
        have hpost : (nI N0 : Int32) = if (0 ≤ (0 : Int32).toInt ∧ (0 : Int32).toInt < 2) then (if fk (0 : Int32).toNatClampNeg = 0 then -2 else if (0 : Int32) = 0 then nI N0 else nI N1) else -1 := by
          have t_c5 := neI c5
          have : (0 : Int32).toInt = 0 := (by decide)
          have t_n0 : (nI N).toInt = (N : Int) := nI_toInt (by omega)
          have t_n1 : (nI B).toInt = (B : Int) := nI_toInt (by omega)
          have t_n2 : (nI D).toInt = (D : Int) := nI_toInt (by omega)
          have t_n3 : (nI N0).toInt = (N0 : Int) := nI_toInt (by omega)
          have t_n4 : (nI B0).toInt = (B0 : Int) := nI_toInt (by omega)
          have t_n5 : (nI D0).toInt = (D0 : Int) := nI_toInt (by omega)
          have t_n6 : (nI N1).toInt = (N1 : Int) := nI_toInt (by omega)
          have t_n7 : (nI B1).toInt = (B1 : Int) := nI_toInt (by omega)
          have t_n8 : (nI D1).toInt = (D1 : Int) := nI_toInt (by omega)
          have z0 : (0 : Int32).toInt = 0 := (by decide)
          have z1 : (1 : Int32).toInt = 1 := (by decide)
          have z2 : (2 : Int32).toInt = 2 := (by decide)
          have z3 : (3 : Int32).toInt = 3 := (by decide)
          have z5 : (5 : Int32).toInt = 5 := (by decide)
          have z9 : (9 : Int32).toInt = 9 := (by decide)
          have z20 : (20 : Int32).toInt = 20 := (by decide)
          have z4 : (-4 : Int32).toInt = -4 := (by decide)
          have z10 : (10 : Int32).toInt = 10 := (by decide)
          have k0 : (0 : Int32).toNatClampNeg = 0 := (by decide)
          have k1 : (1 : Int32).toNatClampNeg = 1 := (by decide)
          first | (rw [if_neg (by omega)]; done) | (rw [if_pos (by decide)]; (try rw [k0]); (try rw [k1]); first | (rw [if_pos (by assumption)]; done) | (rw [if_neg (by assumption)]; first | (rw [if_pos rfl]; done) | (rw [if_neg (by decide)]; done)))
        have hP9 := hP.sub (ws' := [(h0, .inr (10, [.ref rd, .ref wy, .ref tr, .ref im, .ref kp, .ref od, .ref ch, .ref cr, .ref le, .ref mk, .ref tl, .ref sh, .int tf, .int rf])), (wy, .inr (9, [.int (nI N0), .int (nI B0), .int (nI D0), .ref a1, .ref a2, .ref a3, .ref a4, .ref a5, .ref a6])), (a1, .inl (G 0, 10, .inl u8)), (a2, .inl (G 0, 10, .inl u9)), (a3, .inl (G 0, 10, .inl u10)), (a4, .inl (G 0, 6, .inl u11)), (a5, .inl (G 0, 6, .inl u12)), (a6, .inl (G 0, 6, .inl u13)), (im, .inl (G 3, 2, .inr (.inr (.inr (.inr (va_up (va_up (fun _ => none) 0 (some i0)) 1 (some i1))))))), (kp, .inl (G 2, 2, .inl fk)), (i0, .inr (9, [.int (nI N0), .int (nI B0), .int (nI D0), .ref ib1, .ref ib2, .ref ib3, .ref ib4, .ref ib5, .ref ib6])), (ib1, .inl (G 0, 10, .inl ibf1)), (ib2, .inl (G 0, 10, .inl ibf2)), (ib3, .inl (G 0, 10, .inl ibf3)), (ib4, .inl (G 0, 6, .inl ibf4)), (ib5, .inl (G 0, 6, .inl ibf5)), (ib6, .inl (G 0, 6, .inl ibf6)), (i1, .inr (9, [.int (nI N1), .int (nI B1), .int (nI D1), .ref id1, .ref id2, .ref id3, .ref id4, .ref id5, .ref id6])), (id1, .inl (G 0, 10, .inl idf1)), (id2, .inl (G 0, 10, .inl idf2)), (id3, .inl (G 0, 10, .inl idf3)), (id4, .inl (G 0, 6, .inl idf4)), (id5, .inl (G 0, 6, .inl idf5)), (id6, .inl (G 0, 6, .inl idf6))]) [0, 10, 11, 12, 13, 14, 15, 16, 1, 2, 17, 18, 19, 20, 21, 22, 23, 3, 4, 5, 6, 7, 8, 9] rfl
        have hD9 := hD.sub (ws' := [(h0, .inr (10, [.ref rd, .ref wy, .ref tr, .ref im, .ref kp, .ref od, .ref ch, .ref cr, .ref le, .ref mk, .ref tl, .ref sh, .int tf, .int rf])), (wy, .inr (9, [.int (nI N0), .int (nI B0), .int (nI D0), .ref a1, .ref a2, .ref a3, .ref a4, .ref a5, .ref a6])), (a1, .inl (G 0, 10, .inl u8)), (a2, .inl (G 0, 10, .inl u9)), (a3, .inl (G 0, 10, .inl u10)), (a4, .inl (G 0, 6, .inl u11)), (a5, .inl (G 0, 6, .inl u12)), (a6, .inl (G 0, 6, .inl u13)), (im, .inl (G 3, 2, .inr (.inr (.inr (.inr (va_up (va_up (fun _ => none) 0 (some i0)) 1 (some i1))))))), (kp, .inl (G 2, 2, .inl fk)), (i0, .inr (9, [.int (nI N0), .int (nI B0), .int (nI D0), .ref ib1, .ref ib2, .ref ib3, .ref ib4, .ref ib5, .ref ib6])), (ib1, .inl (G 0, 10, .inl ibf1)), (ib2, .inl (G 0, 10, .inl ibf2)), (ib3, .inl (G 0, 10, .inl ibf3)), (ib4, .inl (G 0, 6, .inl ibf4)), (ib5, .inl (G 0, 6, .inl ibf5)), (ib6, .inl (G 0, 6, .inl ibf6)), (i1, .inr (9, [.int (nI N1), .int (nI B1), .int (nI D1), .ref id1, .ref id2, .ref id3, .ref id4, .ref id5, .ref id6])), (id1, .inl (G 0, 10, .inl idf1)), (id2, .inl (G 0, 10, .inl idf2)), (id3, .inl (G 0, 10, .inl idf3)), (id4, .inl (G 0, 6, .inl idf4)), (id5, .inl (G 0, 6, .inl idf5)), (id6, .inl (G 0, 6, .inl idf6))]) [0, 10, 11, 12, 13, 14, 15, 16, 1, 2, 17, 18, 19, 20, 21, 22, 23, 3, 4, 5, 6, 7, 8, 9] (by decide) rfl
        refine W.widen (k := 0) (n := 0) (by omega) (by omega) ?_
        exact W.iret (v := nI N0) hx hb hr (fun t ht hW => ⟨⟨nI N0, (N0, B0, D0, u8, u9, u10, u11, u12, u13), rfl, ⟨hpost, (by have t_c5 := neI c5; have : (0 : Int32).toInt = 0 := (by decide); have t_n0 : (nI N).toInt = (N : Int) := nI_toInt (by omega); have t_n1 : (nI B).toInt = (B : Int) := nI_toInt (by omega); have t_n2 : (nI D).toInt = (D : Int) := nI_toInt (by omega); have t_n3 : (nI N0).toInt = (N0 : Int) := nI_toInt (by omega); have t_n4 : (nI B0).toInt = (B0 : Int) := nI_toInt (by omega); have t_n5 : (nI D0).toInt = (D0 : Int) := nI_toInt (by omega); have t_n6 : (nI N1).toInt = (N1 : Int) := nI_toInt (by omega); have t_n7 : (nI B1).toInt = (B1 : Int) := nI_toInt (by omega); have t_n8 : (nI D1).toInt = (D1 : Int) := nI_toInt (by omega); have z0 : (0 : Int32).toInt = 0 := (by decide); have z1 : (1 : Int32).toInt = 1 := (by decide); have z2 : (2 : Int32).toInt = 2 := (by decide); have z3 : (3 : Int32).toInt = 3 := (by decide); have z5 : (5 : Int32).toInt = 5 := (by decide); have z9 : (9 : Int32).toInt = 9 := (by decide); have z20 : (20 : Int32).toInt = 20 := (by decide); have z4 : (-4 : Int32).toInt = -4 := (by decide); have z10 : (10 : Int32).toInt = 10 := (by decide); have k0 : (0 : Int32).toNatClampNeg = 0 := (by decide); have k1 : (1 : Int32).toNatClampNeg = 1 := (by decide); refine ⟨⟨by omega, by omega, by omega, by omega⟩, ?_, ?_⟩ <;> (first | (rw [if_pos ⟨rfl, by assumption⟩]; done) | (rw [if_neg (fun h9 => absurd h9.1 (by decide)), if_pos ⟨rfl, by assumption⟩]; done) | (rw [if_neg (fun h9 => h9.2 (by assumption)), if_neg (fun h9 => absurd h9.1 (by decide))]; done) | (rw [if_neg (fun h9 => absurd h9.1 (by decide)), if_neg (fun h9 => h9.2 (by assumption))]; done) | (rw [if_neg (fun h9 => by have e8 := congrArg Int32.toInt h9.1; omega), if_neg (fun h9 => by have e8 := congrArg Int32.toInt h9.1; omega)]; done)))⟩, ⟨by rw [ht]; exact hP9, hD9⟩⟩, hS.F ht⟩) hS.2.2 dX10_back_41
      · skip
        refine lv_bipush (v := (-2)) hx hb dX10_back_18 (by decide) ?_
        have hpost : ((-2) : Int32) = if (0 ≤ (0 : Int32).toInt ∧ (0 : Int32).toInt < 2) then (if fk (0 : Int32).toNatClampNeg = 0 then -2 else if (0 : Int32) = 0 then nI N0 else nI N1) else -1 := by
          have t_c5 := eqI c5
          have : (0 : Int32).toInt = 0 := (by decide)
          have t_n0 : (nI N).toInt = (N : Int) := nI_toInt (by omega)
          have t_n1 : (nI B).toInt = (B : Int) := nI_toInt (by omega)
          have t_n2 : (nI D).toInt = (D : Int) := nI_toInt (by omega)
          have t_n3 : (nI N0).toInt = (N0 : Int) := nI_toInt (by omega)
          have t_n4 : (nI B0).toInt = (B0 : Int) := nI_toInt (by omega)
          have t_n5 : (nI D0).toInt = (D0 : Int) := nI_toInt (by omega)
          have t_n6 : (nI N1).toInt = (N1 : Int) := nI_toInt (by omega)
          have t_n7 : (nI B1).toInt = (B1 : Int) := nI_toInt (by omega)
          have t_n8 : (nI D1).toInt = (D1 : Int) := nI_toInt (by omega)
          have z0 : (0 : Int32).toInt = 0 := (by decide)
          have z1 : (1 : Int32).toInt = 1 := (by decide)
          have z2 : (2 : Int32).toInt = 2 := (by decide)
          have z3 : (3 : Int32).toInt = 3 := (by decide)
          have z5 : (5 : Int32).toInt = 5 := (by decide)
          have z9 : (9 : Int32).toInt = 9 := (by decide)
          have z20 : (20 : Int32).toInt = 20 := (by decide)
          have z4 : (-4 : Int32).toInt = -4 := (by decide)
          have z10 : (10 : Int32).toInt = 10 := (by decide)
          have k0 : (0 : Int32).toNatClampNeg = 0 := (by decide)
          have k1 : (1 : Int32).toNatClampNeg = 1 := (by decide)
          first | (rw [if_neg (by omega)]; done) | (rw [if_pos (by decide)]; (try rw [k0]); (try rw [k1]); first | (rw [if_pos (by assumption)]; done) | (rw [if_neg (by assumption)]; first | (rw [if_pos rfl]; done) | (rw [if_neg (by decide)]; done)))
        have hP9 := hP.sub (ws' := [(h0, .inr (10, [.ref rd, .ref wy, .ref tr, .ref im, .ref kp, .ref od, .ref ch, .ref cr, .ref le, .ref mk, .ref tl, .ref sh, .int tf, .int rf])), (wy, .inr (9, [.int (nI N), .int (nI B), .int (nI D), .ref a1, .ref a2, .ref a3, .ref a4, .ref a5, .ref a6])), (a1, .inl (G 0, 10, .inl f1)), (a2, .inl (G 0, 10, .inl f2)), (a3, .inl (G 0, 10, .inl f3)), (a4, .inl (G 0, 6, .inl f4)), (a5, .inl (G 0, 6, .inl f5)), (a6, .inl (G 0, 6, .inl f6)), (im, .inl (G 3, 2, .inr (.inr (.inr (.inr (va_up (va_up (fun _ => none) 0 (some i0)) 1 (some i1))))))), (kp, .inl (G 2, 2, .inl fk)), (i0, .inr (9, [.int (nI N0), .int (nI B0), .int (nI D0), .ref ib1, .ref ib2, .ref ib3, .ref ib4, .ref ib5, .ref ib6])), (ib1, .inl (G 0, 10, .inl ibf1)), (ib2, .inl (G 0, 10, .inl ibf2)), (ib3, .inl (G 0, 10, .inl ibf3)), (ib4, .inl (G 0, 6, .inl ibf4)), (ib5, .inl (G 0, 6, .inl ibf5)), (ib6, .inl (G 0, 6, .inl ibf6)), (i1, .inr (9, [.int (nI N1), .int (nI B1), .int (nI D1), .ref id1, .ref id2, .ref id3, .ref id4, .ref id5, .ref id6])), (id1, .inl (G 0, 10, .inl idf1)), (id2, .inl (G 0, 10, .inl idf2)), (id3, .inl (G 0, 10, .inl idf3)), (id4, .inl (G 0, 6, .inl idf4)), (id5, .inl (G 0, 6, .inl idf5)), (id6, .inl (G 0, 6, .inl idf6))]) [0, 1, 2, 3, 4, 5, 6, 7, 8, 9, 10, 11, 12, 13, 14, 15, 16, 17, 18, 19, 20, 21, 22, 23] rfl
        have hD9 := hD.sub (ws' := [(h0, .inr (10, [.ref rd, .ref wy, .ref tr, .ref im, .ref kp, .ref od, .ref ch, .ref cr, .ref le, .ref mk, .ref tl, .ref sh, .int tf, .int rf])), (wy, .inr (9, [.int (nI N), .int (nI B), .int (nI D), .ref a1, .ref a2, .ref a3, .ref a4, .ref a5, .ref a6])), (a1, .inl (G 0, 10, .inl f1)), (a2, .inl (G 0, 10, .inl f2)), (a3, .inl (G 0, 10, .inl f3)), (a4, .inl (G 0, 6, .inl f4)), (a5, .inl (G 0, 6, .inl f5)), (a6, .inl (G 0, 6, .inl f6)), (im, .inl (G 3, 2, .inr (.inr (.inr (.inr (va_up (va_up (fun _ => none) 0 (some i0)) 1 (some i1))))))), (kp, .inl (G 2, 2, .inl fk)), (i0, .inr (9, [.int (nI N0), .int (nI B0), .int (nI D0), .ref ib1, .ref ib2, .ref ib3, .ref ib4, .ref ib5, .ref ib6])), (ib1, .inl (G 0, 10, .inl ibf1)), (ib2, .inl (G 0, 10, .inl ibf2)), (ib3, .inl (G 0, 10, .inl ibf3)), (ib4, .inl (G 0, 6, .inl ibf4)), (ib5, .inl (G 0, 6, .inl ibf5)), (ib6, .inl (G 0, 6, .inl ibf6)), (i1, .inr (9, [.int (nI N1), .int (nI B1), .int (nI D1), .ref id1, .ref id2, .ref id3, .ref id4, .ref id5, .ref id6])), (id1, .inl (G 0, 10, .inl idf1)), (id2, .inl (G 0, 10, .inl idf2)), (id3, .inl (G 0, 10, .inl idf3)), (id4, .inl (G 0, 6, .inl idf4)), (id5, .inl (G 0, 6, .inl idf5)), (id6, .inl (G 0, 6, .inl idf6))]) [0, 1, 2, 3, 4, 5, 6, 7, 8, 9, 10, 11, 12, 13, 14, 15, 16, 17, 18, 19, 20, 21, 22, 23] (by decide) rfl
        refine W.widen (k := 0) (n := 0) (by omega) (by omega) ?_
        exact W.iret (v := (-2)) hx hb hr (fun t ht hW => ⟨⟨(-2), (N, B, D, f1, f2, f3, f4, f5, f6), rfl, ⟨hpost, (by have t_c5 := eqI c5; have : (0 : Int32).toInt = 0 := (by decide); have t_n0 : (nI N).toInt = (N : Int) := nI_toInt (by omega); have t_n1 : (nI B).toInt = (B : Int) := nI_toInt (by omega); have t_n2 : (nI D).toInt = (D : Int) := nI_toInt (by omega); have t_n3 : (nI N0).toInt = (N0 : Int) := nI_toInt (by omega); have t_n4 : (nI B0).toInt = (B0 : Int) := nI_toInt (by omega); have t_n5 : (nI D0).toInt = (D0 : Int) := nI_toInt (by omega); have t_n6 : (nI N1).toInt = (N1 : Int) := nI_toInt (by omega); have t_n7 : (nI B1).toInt = (B1 : Int) := nI_toInt (by omega); have t_n8 : (nI D1).toInt = (D1 : Int) := nI_toInt (by omega); have z0 : (0 : Int32).toInt = 0 := (by decide); have z1 : (1 : Int32).toInt = 1 := (by decide); have z2 : (2 : Int32).toInt = 2 := (by decide); have z3 : (3 : Int32).toInt = 3 := (by decide); have z5 : (5 : Int32).toInt = 5 := (by decide); have z9 : (9 : Int32).toInt = 9 := (by decide); have z20 : (20 : Int32).toInt = 20 := (by decide); have z4 : (-4 : Int32).toInt = -4 := (by decide); have z10 : (10 : Int32).toInt = 10 := (by decide); have k0 : (0 : Int32).toNatClampNeg = 0 := (by decide); have k1 : (1 : Int32).toNatClampNeg = 1 := (by decide); refine ⟨⟨by omega, by omega, by omega, by omega⟩, ?_, ?_⟩ <;> (first | (rw [if_pos ⟨rfl, by assumption⟩]; done) | (rw [if_neg (fun h9 => absurd h9.1 (by decide)), if_pos ⟨rfl, by assumption⟩]; done) | (rw [if_neg (fun h9 => h9.2 (by assumption)), if_neg (fun h9 => absurd h9.1 (by decide))]; done) | (rw [if_neg (fun h9 => absurd h9.1 (by decide)), if_neg (fun h9 => h9.2 (by assumption))]; done) | (rw [if_neg (fun h9 => by have e8 := congrArg Int32.toInt h9.1; omega), if_neg (fun h9 => by have e8 := congrArg Int32.toInt h9.1; omega)]; done)))⟩, ⟨by rw [ht]; exact hP9, hD9⟩⟩, hS.F ht⟩) hS.2.2 dX10_back_20
    · skip
      refine lv_aload_n hx hb dX10_back_9 rfl (lv_at hl 0 rfl) ?_
      refine va_get (D := (dC, dI)) (ci := 10) (v := .ref kp) (C := RX10) (T := TX10) (N := 14) hx hb hg inG10 hown hK.1 hP 0 rfl rfl 4 (by decide) (hg _ wt_306) (fun _ h9 => h9) rfl dX10_back_10 ?_
      refine lv_iload_n hx hb dX10_back_13 rfl (lv_at hl 1 rfl) ?_
      refine va_zald hx hb hK.1 hP 9 2 rfl rfl (vp_in_iff.mpr ⟨by decide, by decide⟩) dX10_back_14 ?_
      refine lv_cg (y := fk 1) (by rfl) ?_
      refine lv_if_ne (tgt := 21) hx hb dX10_back_15 (by decide) (fun c14 => ?_) (fun c14 => ?_)
      · skip
        refine lv_aload_n hx hb dX10_back_21 rfl (lv_at hl 0 rfl) ?_
        refine va_get (D := (dC, dI)) (ci := 10) (v := .ref wy) (C := RX10) (T := TX10) (N := 14) hx hb hg inG10 hown hK.1 hP 0 rfl rfl 1 (by decide) (hg _ wt_303) (fun _ h9 => h9) rfl dX10_back_22 ?_
        refine lv_aload_n hx hb dX10_back_25 rfl (lv_at hl 0 rfl) ?_
        refine va_get (D := (dC, dI)) (ci := 10) (v := .ref im) (C := RX10) (T := TX10) (N := 14) hx hb hg inG10 hown hK.1 hP 0 rfl rfl 3 (by decide) (hg _ wt_305) (fun _ h9 => h9) rfl dX10_back_26 ?_
        refine lv_iload_n hx hb dX10_back_29 rfl (lv_at hl 1 rfl) ?_
        refine va_aldq hx hb hK.1 hP 8 3 rfl rfl (vp_in_iff.mpr ⟨by decide, by decide⟩) dX10_back_30 ?_
        refine lv_cgv (y := .ref i1) (by rfl) ?_
        have hPc := hP.sub (ws' := [(wy, .inr (9, [.int (nI N), .int (nI B), .int (nI D), .ref a1, .ref a2, .ref a3, .ref a4, .ref a5, .ref a6])), (a1, .inl (G 0, 10, .inl f1)), (a2, .inl (G 0, 10, .inl f2)), (a3, .inl (G 0, 10, .inl f3)), (a4, .inl (G 0, 6, .inl f4)), (a5, .inl (G 0, 6, .inl f5)), (a6, .inl (G 0, 6, .inl f6)), (i1, .inr (9, [.int (nI N1), .int (nI B1), .int (nI D1), .ref id1, .ref id2, .ref id3, .ref id4, .ref id5, .ref id6])), (id1, .inl (G 0, 10, .inl idf1)), (id2, .inl (G 0, 10, .inl idf2)), (id3, .inl (G 0, 10, .inl idf3)), (id4, .inl (G 0, 6, .inl idf4)), (id5, .inl (G 0, 6, .inl idf5)), (id6, .inl (G 0, 6, .inl idf6))]) [1, 2, 3, 4, 5, 6, 7, 17, 18, 19, 20, 21, 22, 23] rfl
        have hDc := hD.sub (ws' := [(wy, .inr (9, [.int (nI N), .int (nI B), .int (nI D), .ref a1, .ref a2, .ref a3, .ref a4, .ref a5, .ref a6])), (a1, .inl (G 0, 10, .inl f1)), (a2, .inl (G 0, 10, .inl f2)), (a3, .inl (G 0, 10, .inl f3)), (a4, .inl (G 0, 6, .inl f4)), (a5, .inl (G 0, 6, .inl f5)), (a6, .inl (G 0, 6, .inl f6)), (i1, .inr (9, [.int (nI N1), .int (nI B1), .int (nI D1), .ref id1, .ref id2, .ref id3, .ref id4, .ref id5, .ref id6])), (id1, .inl (G 0, 10, .inl idf1)), (id2, .inl (G 0, 10, .inl idf2)), (id3, .inl (G 0, 10, .inl idf3)), (id4, .inl (G 0, 6, .inl idf4)), (id5, .inl (G 0, 6, .inl idf5)), (id6, .inl (G 0, 6, .inl idf6))]) [1, 2, 3, 4, 5, 6, 7, 17, 18, 19, 20, 21, 22, 23] (by decide) rfl
        have hFc := va_free (wc := [(wy, .inr (9, [.int (nI N), .int (nI B), .int (nI D), .ref a1, .ref a2, .ref a3, .ref a4, .ref a5, .ref a6])), (a1, .inl (G 0, 10, .inl f1)), (a2, .inl (G 0, 10, .inl f2)), (a3, .inl (G 0, 10, .inl f3)), (a4, .inl (G 0, 6, .inl f4)), (a5, .inl (G 0, 6, .inl f5)), (a6, .inl (G 0, 6, .inl f6)), (i1, .inr (9, [.int (nI N1), .int (nI B1), .int (nI D1), .ref id1, .ref id2, .ref id3, .ref id4, .ref id5, .ref id6])), (id1, .inl (G 0, 10, .inl idf1)), (id2, .inl (G 0, 10, .inl idf2)), (id3, .inl (G 0, 10, .inl idf3)), (id4, .inl (G 0, 6, .inl idf4)), (id5, .inl (G 0, 6, .inl idf5)), (id6, .inl (G 0, 6, .inl idf6))]) hD hS hA [1, 2, 3, 4, 5, 6, 7, 17, 18, 19, 20, 21, 22, 23] rfl
        refine va_callv (va_runVN (As := [.ref i1]) (rest := []) ⟨hx, hb, hml, hown, hg⟩ (c_X9_copyOf l dC dI G _ wy i1 a1 a2 a3 a4 a5 a6 id1 id2 id3 id4 id5 id6 (nI N) (nI B) (nI D) (nI N1) (nI B1) (nI D1) f1 f2 f3 f4 f5 f6 idf1 idf2 idf3 idf4 idf5 idf6 ) (kwVN hg hK mfX9_copyOf wn_507 ⟨Nat.le_of_ble_eq_true rfl, Nat.le_of_ble_eq_true rfl⟩) (preVW hK hPc hDc (ci := 9) rfl rfl) rfl rfl hl.1 rfl (lv_room (Nat.le_of_ble_eq_true rfl)) dX10_back_31 ⟨Nat.le_of_ble_eq_true rfl, Nat.le_of_ble_eq_true rfl⟩) hS (fun q _ h => hFc q h) hFc (fun ur15 t H1 locs ht hvm w16 hB hz1 hk1 hS => ?_)
        obtain ⟨u17, u18, u19, u20, u21, u22⟩ := ur15
        obtain ⟨hP1, hD1⟩ := hB
        rw [ht] at hP1
        obtain ⟨hP, hD⟩ := va_join (wr := [(h0, .inr (10, [.ref rd, .ref wy, .ref tr, .ref im, .ref kp, .ref od, .ref ch, .ref cr, .ref le, .ref mk, .ref tl, .ref sh, .int tf, .int rf])), (im, .inl (G 3, 2, .inr (.inr (.inr (.inr (va_up (va_up (fun _ => none) 0 (some i0)) 1 (some i1))))))), (kp, .inl (G 2, 2, .inl fk)), (i0, .inr (9, [.int (nI N0), .int (nI B0), .int (nI D0), .ref ib1, .ref ib2, .ref ib3, .ref ib4, .ref ib5, .ref ib6])), (ib1, .inl (G 0, 10, .inl ibf1)), (ib2, .inl (G 0, 10, .inl ibf2)), (ib3, .inl (G 0, 10, .inl ibf3)), (ib4, .inl (G 0, 6, .inl ibf4)), (ib5, .inl (G 0, 6, .inl ibf5)), (ib6, .inl (G 0, 6, .inl ibf6))]) (w1 := [(wy, .inr (9, [.int (nI N1), .int (nI B1), .int (nI D1), .ref a1, .ref a2, .ref a3, .ref a4, .ref a5, .ref a6])), (a1, .inl (G 0, 10, .inl u17)), (a2, .inl (G 0, 10, .inl u18)), (a3, .inl (G 0, 10, .inl u19)), (a4, .inl (G 0, 6, .inl u20)), (a5, .inl (G 0, 6, .inl u21)), (a6, .inl (G 0, 6, .inl u22)), (i1, .inr (9, [.int (nI N1), .int (nI B1), .int (nI D1), .ref id1, .ref id2, .ref id3, .ref id4, .ref id5, .ref id6])), (id1, .inl (G 0, 10, .inl idf1)), (id2, .inl (G 0, 10, .inl idf2)), (id3, .inl (G 0, 10, .inl idf3)), (id4, .inl (G 0, 6, .inl idf4)), (id5, .inl (G 0, 6, .inl idf5)), (id6, .inl (G 0, 6, .inl idf6))]) hP hD [1, 2, 3, 4, 5, 6, 7, 17, 18, 19, 20, 21, 22, 23] [0, 8, 9, 10, 11, 12, 13, 14, 15, 16] rfl rfl (by decide) (by decide) hk1 hFc hP1 hD1
        generalize H1 = H at hP hS ⊢
        have hP : va_P (dC, dI) vwCl [(h0, .inr (10, [.ref rd, .ref wy, .ref tr, .ref im, .ref kp, .ref od, .ref ch, .ref cr, .ref le, .ref mk, .ref tl, .ref sh, .int tf, .int rf])), (im, .inl (G 3, 2, .inr (.inr (.inr (.inr (va_up (va_up (fun _ => none) 0 (some i0)) 1 (some i1))))))), (kp, .inl (G 2, 2, .inl fk)), (i0, .inr (9, [.int (nI N0), .int (nI B0), .int (nI D0), .ref ib1, .ref ib2, .ref ib3, .ref ib4, .ref ib5, .ref ib6])), (ib1, .inl (G 0, 10, .inl ibf1)), (ib2, .inl (G 0, 10, .inl ibf2)), (ib3, .inl (G 0, 10, .inl ibf3)), (ib4, .inl (G 0, 6, .inl ibf4)), (ib5, .inl (G 0, 6, .inl ibf5)), (ib6, .inl (G 0, 6, .inl ibf6)), (wy, .inr (9, [.int (nI N1), .int (nI B1), .int (nI D1), .ref a1, .ref a2, .ref a3, .ref a4, .ref a5, .ref a6])), (a1, .inl (G 0, 10, .inl u17)), (a2, .inl (G 0, 10, .inl u18)), (a3, .inl (G 0, 10, .inl u19)), (a4, .inl (G 0, 6, .inl u20)), (a5, .inl (G 0, 6, .inl u21)), (a6, .inl (G 0, 6, .inl u22)), (i1, .inr (9, [.int (nI N1), .int (nI B1), .int (nI D1), .ref id1, .ref id2, .ref id3, .ref id4, .ref id5, .ref id6])), (id1, .inl (G 0, 10, .inl idf1)), (id2, .inl (G 0, 10, .inl idf2)), (id3, .inl (G 0, 10, .inl idf3)), (id4, .inl (G 0, 6, .inl idf4)), (id5, .inl (G 0, 6, .inl idf5)), (id6, .inl (G 0, 6, .inl idf6))] H := hP
        have hD : va_D A [(h0, .inr (10, [.ref rd, .ref wy, .ref tr, .ref im, .ref kp, .ref od, .ref ch, .ref cr, .ref le, .ref mk, .ref tl, .ref sh, .int tf, .int rf])), (im, .inl (G 3, 2, .inr (.inr (.inr (.inr (va_up (va_up (fun _ => none) 0 (some i0)) 1 (some i1))))))), (kp, .inl (G 2, 2, .inl fk)), (i0, .inr (9, [.int (nI N0), .int (nI B0), .int (nI D0), .ref ib1, .ref ib2, .ref ib3, .ref ib4, .ref ib5, .ref ib6])), (ib1, .inl (G 0, 10, .inl ibf1)), (ib2, .inl (G 0, 10, .inl ibf2)), (ib3, .inl (G 0, 10, .inl ibf3)), (ib4, .inl (G 0, 6, .inl ibf4)), (ib5, .inl (G 0, 6, .inl ibf5)), (ib6, .inl (G 0, 6, .inl ibf6)), (wy, .inr (9, [.int (nI N1), .int (nI B1), .int (nI D1), .ref a1, .ref a2, .ref a3, .ref a4, .ref a5, .ref a6])), (a1, .inl (G 0, 10, .inl u17)), (a2, .inl (G 0, 10, .inl u18)), (a3, .inl (G 0, 10, .inl u19)), (a4, .inl (G 0, 6, .inl u20)), (a5, .inl (G 0, 6, .inl u21)), (a6, .inl (G 0, 6, .inl u22)), (i1, .inr (9, [.int (nI N1), .int (nI B1), .int (nI D1), .ref id1, .ref id2, .ref id3, .ref id4, .ref id5, .ref id6])), (id1, .inl (G 0, 10, .inl idf1)), (id2, .inl (G 0, 10, .inl idf2)), (id3, .inl (G 0, 10, .inl idf3)), (id4, .inl (G 0, 6, .inl idf4)), (id5, .inl (G 0, 6, .inl idf5)), (id6, .inl (G 0, 6, .inl idf6))] := hD
        refine lv_aload_n hx hb dX10_back_34 rfl (lv_at hl 0 rfl) ?_
        refine va_get (D := (dC, dI)) (ci := 10) (v := .ref wy) (C := RX10) (T := TX10) (N := 14) hx hb hg inG10 hown hK.1 hP 0 rfl rfl 1 (by decide) (hg _ wt_303) (fun _ h9 => h9) rfl dX10_back_35 ?_
        refine va_getN (D := (dC, dI)) (ci := 9) (v := .int (nI N1)) (C := RX9) (T := TX9) (N := 9) hx hb hg inG9 hown hK.1 hP 10 rfl rfl 0 (by decide) (hK.nest wn_60) (fun _ h9 => h9) rfl dX10_back_38 ?_
        have hpost : (nI N1 : Int32) = if (0 ≤ (1 : Int32).toInt ∧ (1 : Int32).toInt < 2) then (if fk (1 : Int32).toNatClampNeg = 0 then -2 else if (1 : Int32) = 0 then nI N0 else nI N1) else -1 := by
          have t_c14 := neI c14
          have : (0 : Int32).toInt = 0 := (by decide)
          have t_n0 : (nI N).toInt = (N : Int) := nI_toInt (by omega)
          have t_n1 : (nI B).toInt = (B : Int) := nI_toInt (by omega)
          have t_n2 : (nI D).toInt = (D : Int) := nI_toInt (by omega)
          have t_n3 : (nI N0).toInt = (N0 : Int) := nI_toInt (by omega)
          have t_n4 : (nI B0).toInt = (B0 : Int) := nI_toInt (by omega)
          have t_n5 : (nI D0).toInt = (D0 : Int) := nI_toInt (by omega)
          have t_n6 : (nI N1).toInt = (N1 : Int) := nI_toInt (by omega)
          have t_n7 : (nI B1).toInt = (B1 : Int) := nI_toInt (by omega)
          have t_n8 : (nI D1).toInt = (D1 : Int) := nI_toInt (by omega)
          have z0 : (0 : Int32).toInt = 0 := (by decide)
          have z1 : (1 : Int32).toInt = 1 := (by decide)
          have z2 : (2 : Int32).toInt = 2 := (by decide)
          have z3 : (3 : Int32).toInt = 3 := (by decide)
          have z5 : (5 : Int32).toInt = 5 := (by decide)
          have z9 : (9 : Int32).toInt = 9 := (by decide)
          have z20 : (20 : Int32).toInt = 20 := (by decide)
          have z4 : (-4 : Int32).toInt = -4 := (by decide)
          have z10 : (10 : Int32).toInt = 10 := (by decide)
          have k0 : (0 : Int32).toNatClampNeg = 0 := (by decide)
          have k1 : (1 : Int32).toNatClampNeg = 1 := (by decide)
          first | (rw [if_neg (by omega)]; done) | (rw [if_pos (by decide)]; (try rw [k0]); (try rw [k1]); first | (rw [if_pos (by assumption)]; done) | (rw [if_neg (by assumption)]; first | (rw [if_pos rfl]; done) | (rw [if_neg (by decide)]; done)))
        have hP9 := hP.sub (ws' := [(h0, .inr (10, [.ref rd, .ref wy, .ref tr, .ref im, .ref kp, .ref od, .ref ch, .ref cr, .ref le, .ref mk, .ref tl, .ref sh, .int tf, .int rf])), (wy, .inr (9, [.int (nI N1), .int (nI B1), .int (nI D1), .ref a1, .ref a2, .ref a3, .ref a4, .ref a5, .ref a6])), (a1, .inl (G 0, 10, .inl u17)), (a2, .inl (G 0, 10, .inl u18)), (a3, .inl (G 0, 10, .inl u19)), (a4, .inl (G 0, 6, .inl u20)), (a5, .inl (G 0, 6, .inl u21)), (a6, .inl (G 0, 6, .inl u22)), (im, .inl (G 3, 2, .inr (.inr (.inr (.inr (va_up (va_up (fun _ => none) 0 (some i0)) 1 (some i1))))))), (kp, .inl (G 2, 2, .inl fk)), (i0, .inr (9, [.int (nI N0), .int (nI B0), .int (nI D0), .ref ib1, .ref ib2, .ref ib3, .ref ib4, .ref ib5, .ref ib6])), (ib1, .inl (G 0, 10, .inl ibf1)), (ib2, .inl (G 0, 10, .inl ibf2)), (ib3, .inl (G 0, 10, .inl ibf3)), (ib4, .inl (G 0, 6, .inl ibf4)), (ib5, .inl (G 0, 6, .inl ibf5)), (ib6, .inl (G 0, 6, .inl ibf6)), (i1, .inr (9, [.int (nI N1), .int (nI B1), .int (nI D1), .ref id1, .ref id2, .ref id3, .ref id4, .ref id5, .ref id6])), (id1, .inl (G 0, 10, .inl idf1)), (id2, .inl (G 0, 10, .inl idf2)), (id3, .inl (G 0, 10, .inl idf3)), (id4, .inl (G 0, 6, .inl idf4)), (id5, .inl (G 0, 6, .inl idf5)), (id6, .inl (G 0, 6, .inl idf6))]) [0, 10, 11, 12, 13, 14, 15, 16, 1, 2, 3, 4, 5, 6, 7, 8, 9, 17, 18, 19, 20, 21, 22, 23] rfl
        have hD9 := hD.sub (ws' := [(h0, .inr (10, [.ref rd, .ref wy, .ref tr, .ref im, .ref kp, .ref od, .ref ch, .ref cr, .ref le, .ref mk, .ref tl, .ref sh, .int tf, .int rf])), (wy, .inr (9, [.int (nI N1), .int (nI B1), .int (nI D1), .ref a1, .ref a2, .ref a3, .ref a4, .ref a5, .ref a6])), (a1, .inl (G 0, 10, .inl u17)), (a2, .inl (G 0, 10, .inl u18)), (a3, .inl (G 0, 10, .inl u19)), (a4, .inl (G 0, 6, .inl u20)), (a5, .inl (G 0, 6, .inl u21)), (a6, .inl (G 0, 6, .inl u22)), (im, .inl (G 3, 2, .inr (.inr (.inr (.inr (va_up (va_up (fun _ => none) 0 (some i0)) 1 (some i1))))))), (kp, .inl (G 2, 2, .inl fk)), (i0, .inr (9, [.int (nI N0), .int (nI B0), .int (nI D0), .ref ib1, .ref ib2, .ref ib3, .ref ib4, .ref ib5, .ref ib6])), (ib1, .inl (G 0, 10, .inl ibf1)), (ib2, .inl (G 0, 10, .inl ibf2)), (ib3, .inl (G 0, 10, .inl ibf3)), (ib4, .inl (G 0, 6, .inl ibf4)), (ib5, .inl (G 0, 6, .inl ibf5)), (ib6, .inl (G 0, 6, .inl ibf6)), (i1, .inr (9, [.int (nI N1), .int (nI B1), .int (nI D1), .ref id1, .ref id2, .ref id3, .ref id4, .ref id5, .ref id6])), (id1, .inl (G 0, 10, .inl idf1)), (id2, .inl (G 0, 10, .inl idf2)), (id3, .inl (G 0, 10, .inl idf3)), (id4, .inl (G 0, 6, .inl idf4)), (id5, .inl (G 0, 6, .inl idf5)), (id6, .inl (G 0, 6, .inl idf6))]) [0, 10, 11, 12, 13, 14, 15, 16, 1, 2, 3, 4, 5, 6, 7, 8, 9, 17, 18, 19, 20, 21, 22, 23] (by decide) rfl
        refine W.widen (k := 0) (n := 0) (by omega) (by omega) ?_
        exact W.iret (v := nI N1) hx hb hr (fun t ht hW => ⟨⟨nI N1, (N1, B1, D1, u17, u18, u19, u20, u21, u22), rfl, ⟨hpost, (by have t_c14 := neI c14; have : (0 : Int32).toInt = 0 := (by decide); have t_n0 : (nI N).toInt = (N : Int) := nI_toInt (by omega); have t_n1 : (nI B).toInt = (B : Int) := nI_toInt (by omega); have t_n2 : (nI D).toInt = (D : Int) := nI_toInt (by omega); have t_n3 : (nI N0).toInt = (N0 : Int) := nI_toInt (by omega); have t_n4 : (nI B0).toInt = (B0 : Int) := nI_toInt (by omega); have t_n5 : (nI D0).toInt = (D0 : Int) := nI_toInt (by omega); have t_n6 : (nI N1).toInt = (N1 : Int) := nI_toInt (by omega); have t_n7 : (nI B1).toInt = (B1 : Int) := nI_toInt (by omega); have t_n8 : (nI D1).toInt = (D1 : Int) := nI_toInt (by omega); have z0 : (0 : Int32).toInt = 0 := (by decide); have z1 : (1 : Int32).toInt = 1 := (by decide); have z2 : (2 : Int32).toInt = 2 := (by decide); have z3 : (3 : Int32).toInt = 3 := (by decide); have z5 : (5 : Int32).toInt = 5 := (by decide); have z9 : (9 : Int32).toInt = 9 := (by decide); have z20 : (20 : Int32).toInt = 20 := (by decide); have z4 : (-4 : Int32).toInt = -4 := (by decide); have z10 : (10 : Int32).toInt = 10 := (by decide); have k0 : (0 : Int32).toNatClampNeg = 0 := (by decide); have k1 : (1 : Int32).toNatClampNeg = 1 := (by decide); refine ⟨⟨by omega, by omega, by omega, by omega⟩, ?_, ?_⟩ <;> (first | (rw [if_pos ⟨rfl, by assumption⟩]; done) | (rw [if_neg (fun h9 => absurd h9.1 (by decide)), if_pos ⟨rfl, by assumption⟩]; done) | (rw [if_neg (fun h9 => h9.2 (by assumption)), if_neg (fun h9 => absurd h9.1 (by decide))]; done) | (rw [if_neg (fun h9 => absurd h9.1 (by decide)), if_neg (fun h9 => h9.2 (by assumption))]; done) | (rw [if_neg (fun h9 => by have e8 := congrArg Int32.toInt h9.1; omega), if_neg (fun h9 => by have e8 := congrArg Int32.toInt h9.1; omega)]; done)))⟩, ⟨by rw [ht]; exact hP9, hD9⟩⟩, hS.F ht⟩) hS.2.2 dX10_back_41
      · skip
        refine lv_bipush (v := (-2)) hx hb dX10_back_18 (by decide) ?_
        have hpost : ((-2) : Int32) = if (0 ≤ (1 : Int32).toInt ∧ (1 : Int32).toInt < 2) then (if fk (1 : Int32).toNatClampNeg = 0 then -2 else if (1 : Int32) = 0 then nI N0 else nI N1) else -1 := by
          have t_c14 := eqI c14
          have : (0 : Int32).toInt = 0 := (by decide)
          have t_n0 : (nI N).toInt = (N : Int) := nI_toInt (by omega)
          have t_n1 : (nI B).toInt = (B : Int) := nI_toInt (by omega)
          have t_n2 : (nI D).toInt = (D : Int) := nI_toInt (by omega)
          have t_n3 : (nI N0).toInt = (N0 : Int) := nI_toInt (by omega)
          have t_n4 : (nI B0).toInt = (B0 : Int) := nI_toInt (by omega)
          have t_n5 : (nI D0).toInt = (D0 : Int) := nI_toInt (by omega)
          have t_n6 : (nI N1).toInt = (N1 : Int) := nI_toInt (by omega)
          have t_n7 : (nI B1).toInt = (B1 : Int) := nI_toInt (by omega)
          have t_n8 : (nI D1).toInt = (D1 : Int) := nI_toInt (by omega)
          have z0 : (0 : Int32).toInt = 0 := (by decide)
          have z1 : (1 : Int32).toInt = 1 := (by decide)
          have z2 : (2 : Int32).toInt = 2 := (by decide)
          have z3 : (3 : Int32).toInt = 3 := (by decide)
          have z5 : (5 : Int32).toInt = 5 := (by decide)
          have z9 : (9 : Int32).toInt = 9 := (by decide)
          have z20 : (20 : Int32).toInt = 20 := (by decide)
          have z4 : (-4 : Int32).toInt = -4 := (by decide)
          have z10 : (10 : Int32).toInt = 10 := (by decide)
          have k0 : (0 : Int32).toNatClampNeg = 0 := (by decide)
          have k1 : (1 : Int32).toNatClampNeg = 1 := (by decide)
          first | (rw [if_neg (by omega)]; done) | (rw [if_pos (by decide)]; (try rw [k0]); (try rw [k1]); first | (rw [if_pos (by assumption)]; done) | (rw [if_neg (by assumption)]; first | (rw [if_pos rfl]; done) | (rw [if_neg (by decide)]; done)))
        have hP9 := hP.sub (ws' := [(h0, .inr (10, [.ref rd, .ref wy, .ref tr, .ref im, .ref kp, .ref od, .ref ch, .ref cr, .ref le, .ref mk, .ref tl, .ref sh, .int tf, .int rf])), (wy, .inr (9, [.int (nI N), .int (nI B), .int (nI D), .ref a1, .ref a2, .ref a3, .ref a4, .ref a5, .ref a6])), (a1, .inl (G 0, 10, .inl f1)), (a2, .inl (G 0, 10, .inl f2)), (a3, .inl (G 0, 10, .inl f3)), (a4, .inl (G 0, 6, .inl f4)), (a5, .inl (G 0, 6, .inl f5)), (a6, .inl (G 0, 6, .inl f6)), (im, .inl (G 3, 2, .inr (.inr (.inr (.inr (va_up (va_up (fun _ => none) 0 (some i0)) 1 (some i1))))))), (kp, .inl (G 2, 2, .inl fk)), (i0, .inr (9, [.int (nI N0), .int (nI B0), .int (nI D0), .ref ib1, .ref ib2, .ref ib3, .ref ib4, .ref ib5, .ref ib6])), (ib1, .inl (G 0, 10, .inl ibf1)), (ib2, .inl (G 0, 10, .inl ibf2)), (ib3, .inl (G 0, 10, .inl ibf3)), (ib4, .inl (G 0, 6, .inl ibf4)), (ib5, .inl (G 0, 6, .inl ibf5)), (ib6, .inl (G 0, 6, .inl ibf6)), (i1, .inr (9, [.int (nI N1), .int (nI B1), .int (nI D1), .ref id1, .ref id2, .ref id3, .ref id4, .ref id5, .ref id6])), (id1, .inl (G 0, 10, .inl idf1)), (id2, .inl (G 0, 10, .inl idf2)), (id3, .inl (G 0, 10, .inl idf3)), (id4, .inl (G 0, 6, .inl idf4)), (id5, .inl (G 0, 6, .inl idf5)), (id6, .inl (G 0, 6, .inl idf6))]) [0, 1, 2, 3, 4, 5, 6, 7, 8, 9, 10, 11, 12, 13, 14, 15, 16, 17, 18, 19, 20, 21, 22, 23] rfl
        have hD9 := hD.sub (ws' := [(h0, .inr (10, [.ref rd, .ref wy, .ref tr, .ref im, .ref kp, .ref od, .ref ch, .ref cr, .ref le, .ref mk, .ref tl, .ref sh, .int tf, .int rf])), (wy, .inr (9, [.int (nI N), .int (nI B), .int (nI D), .ref a1, .ref a2, .ref a3, .ref a4, .ref a5, .ref a6])), (a1, .inl (G 0, 10, .inl f1)), (a2, .inl (G 0, 10, .inl f2)), (a3, .inl (G 0, 10, .inl f3)), (a4, .inl (G 0, 6, .inl f4)), (a5, .inl (G 0, 6, .inl f5)), (a6, .inl (G 0, 6, .inl f6)), (im, .inl (G 3, 2, .inr (.inr (.inr (.inr (va_up (va_up (fun _ => none) 0 (some i0)) 1 (some i1))))))), (kp, .inl (G 2, 2, .inl fk)), (i0, .inr (9, [.int (nI N0), .int (nI B0), .int (nI D0), .ref ib1, .ref ib2, .ref ib3, .ref ib4, .ref ib5, .ref ib6])), (ib1, .inl (G 0, 10, .inl ibf1)), (ib2, .inl (G 0, 10, .inl ibf2)), (ib3, .inl (G 0, 10, .inl ibf3)), (ib4, .inl (G 0, 6, .inl ibf4)), (ib5, .inl (G 0, 6, .inl ibf5)), (ib6, .inl (G 0, 6, .inl ibf6)), (i1, .inr (9, [.int (nI N1), .int (nI B1), .int (nI D1), .ref id1, .ref id2, .ref id3, .ref id4, .ref id5, .ref id6])), (id1, .inl (G 0, 10, .inl idf1)), (id2, .inl (G 0, 10, .inl idf2)), (id3, .inl (G 0, 10, .inl idf3)), (id4, .inl (G 0, 6, .inl idf4)), (id5, .inl (G 0, 6, .inl idf5)), (id6, .inl (G 0, 6, .inl idf6))]) [0, 1, 2, 3, 4, 5, 6, 7, 8, 9, 10, 11, 12, 13, 14, 15, 16, 17, 18, 19, 20, 21, 22, 23] (by decide) rfl
        refine W.widen (k := 0) (n := 0) (by omega) (by omega) ?_
        exact W.iret (v := (-2)) hx hb hr (fun t ht hW => ⟨⟨(-2), (N, B, D, f1, f2, f3, f4, f5, f6), rfl, ⟨hpost, (by have t_c14 := eqI c14; have : (0 : Int32).toInt = 0 := (by decide); have t_n0 : (nI N).toInt = (N : Int) := nI_toInt (by omega); have t_n1 : (nI B).toInt = (B : Int) := nI_toInt (by omega); have t_n2 : (nI D).toInt = (D : Int) := nI_toInt (by omega); have t_n3 : (nI N0).toInt = (N0 : Int) := nI_toInt (by omega); have t_n4 : (nI B0).toInt = (B0 : Int) := nI_toInt (by omega); have t_n5 : (nI D0).toInt = (D0 : Int) := nI_toInt (by omega); have t_n6 : (nI N1).toInt = (N1 : Int) := nI_toInt (by omega); have t_n7 : (nI B1).toInt = (B1 : Int) := nI_toInt (by omega); have t_n8 : (nI D1).toInt = (D1 : Int) := nI_toInt (by omega); have z0 : (0 : Int32).toInt = 0 := (by decide); have z1 : (1 : Int32).toInt = 1 := (by decide); have z2 : (2 : Int32).toInt = 2 := (by decide); have z3 : (3 : Int32).toInt = 3 := (by decide); have z5 : (5 : Int32).toInt = 5 := (by decide); have z9 : (9 : Int32).toInt = 9 := (by decide); have z20 : (20 : Int32).toInt = 20 := (by decide); have z4 : (-4 : Int32).toInt = -4 := (by decide); have z10 : (10 : Int32).toInt = 10 := (by decide); have k0 : (0 : Int32).toNatClampNeg = 0 := (by decide); have k1 : (1 : Int32).toNatClampNeg = 1 := (by decide); refine ⟨⟨by omega, by omega, by omega, by omega⟩, ?_, ?_⟩ <;> (first | (rw [if_pos ⟨rfl, by assumption⟩]; done) | (rw [if_neg (fun h9 => absurd h9.1 (by decide)), if_pos ⟨rfl, by assumption⟩]; done) | (rw [if_neg (fun h9 => h9.2 (by assumption)), if_neg (fun h9 => absurd h9.1 (by decide))]; done) | (rw [if_neg (fun h9 => absurd h9.1 (by decide)), if_neg (fun h9 => h9.2 (by assumption))]; done) | (rw [if_neg (fun h9 => by have e8 := congrArg Int32.toInt h9.1; omega), if_neg (fun h9 => by have e8 := congrArg Int32.toInt h9.1; omega)]; done)))⟩, ⟨by rw [ht]; exact hP9, hD9⟩⟩, hS.F ht⟩) hS.2.2 dX10_back_20
  · skip
    have b23 := if10_n c3
    refine lv_iconst (v := (-1)) hx hb dX10_back_7 (by decide) ?_
    have hpost : ((-1) : Int32) = if (0 ≤ k.toInt ∧ k.toInt < 2) then (if fk k.toNatClampNeg = 0 then -2 else if k = 0 then nI N0 else nI N1) else -1 := by
      have t_b23 := b23
      have t_n0 : (nI N).toInt = (N : Int) := nI_toInt (by omega)
      have t_n1 : (nI B).toInt = (B : Int) := nI_toInt (by omega)
      have t_n2 : (nI D).toInt = (D : Int) := nI_toInt (by omega)
      have t_n3 : (nI N0).toInt = (N0 : Int) := nI_toInt (by omega)
      have t_n4 : (nI B0).toInt = (B0 : Int) := nI_toInt (by omega)
      have t_n5 : (nI D0).toInt = (D0 : Int) := nI_toInt (by omega)
      have t_n6 : (nI N1).toInt = (N1 : Int) := nI_toInt (by omega)
      have t_n7 : (nI B1).toInt = (B1 : Int) := nI_toInt (by omega)
      have t_n8 : (nI D1).toInt = (D1 : Int) := nI_toInt (by omega)
      have z0 : (0 : Int32).toInt = 0 := (by decide)
      have z1 : (1 : Int32).toInt = 1 := (by decide)
      have z2 : (2 : Int32).toInt = 2 := (by decide)
      have z3 : (3 : Int32).toInt = 3 := (by decide)
      have z5 : (5 : Int32).toInt = 5 := (by decide)
      have z9 : (9 : Int32).toInt = 9 := (by decide)
      have z20 : (20 : Int32).toInt = 20 := (by decide)
      have z4 : (-4 : Int32).toInt = -4 := (by decide)
      have z10 : (10 : Int32).toInt = 10 := (by decide)
      have k0 : (0 : Int32).toNatClampNeg = 0 := (by decide)
      have k1 : (1 : Int32).toNatClampNeg = 1 := (by decide)
      first | (rw [if_neg (by omega)]; done) | (rw [if_pos (by decide)]; (try rw [k0]); (try rw [k1]); first | (rw [if_pos (by assumption)]; done) | (rw [if_neg (by assumption)]; first | (rw [if_pos rfl]; done) | (rw [if_neg (by decide)]; done)))
    have hP9 := hP.sub (ws' := [(h0, .inr (10, [.ref rd, .ref wy, .ref tr, .ref im, .ref kp, .ref od, .ref ch, .ref cr, .ref le, .ref mk, .ref tl, .ref sh, .int tf, .int rf])), (wy, .inr (9, [.int (nI N), .int (nI B), .int (nI D), .ref a1, .ref a2, .ref a3, .ref a4, .ref a5, .ref a6])), (a1, .inl (G 0, 10, .inl f1)), (a2, .inl (G 0, 10, .inl f2)), (a3, .inl (G 0, 10, .inl f3)), (a4, .inl (G 0, 6, .inl f4)), (a5, .inl (G 0, 6, .inl f5)), (a6, .inl (G 0, 6, .inl f6)), (im, .inl (G 3, 2, .inr (.inr (.inr (.inr (va_up (va_up (fun _ => none) 0 (some i0)) 1 (some i1))))))), (kp, .inl (G 2, 2, .inl fk)), (i0, .inr (9, [.int (nI N0), .int (nI B0), .int (nI D0), .ref ib1, .ref ib2, .ref ib3, .ref ib4, .ref ib5, .ref ib6])), (ib1, .inl (G 0, 10, .inl ibf1)), (ib2, .inl (G 0, 10, .inl ibf2)), (ib3, .inl (G 0, 10, .inl ibf3)), (ib4, .inl (G 0, 6, .inl ibf4)), (ib5, .inl (G 0, 6, .inl ibf5)), (ib6, .inl (G 0, 6, .inl ibf6)), (i1, .inr (9, [.int (nI N1), .int (nI B1), .int (nI D1), .ref id1, .ref id2, .ref id3, .ref id4, .ref id5, .ref id6])), (id1, .inl (G 0, 10, .inl idf1)), (id2, .inl (G 0, 10, .inl idf2)), (id3, .inl (G 0, 10, .inl idf3)), (id4, .inl (G 0, 6, .inl idf4)), (id5, .inl (G 0, 6, .inl idf5)), (id6, .inl (G 0, 6, .inl idf6))]) [0, 1, 2, 3, 4, 5, 6, 7, 8, 9, 10, 11, 12, 13, 14, 15, 16, 17, 18, 19, 20, 21, 22, 23] rfl
    have hD9 := hD.sub (ws' := [(h0, .inr (10, [.ref rd, .ref wy, .ref tr, .ref im, .ref kp, .ref od, .ref ch, .ref cr, .ref le, .ref mk, .ref tl, .ref sh, .int tf, .int rf])), (wy, .inr (9, [.int (nI N), .int (nI B), .int (nI D), .ref a1, .ref a2, .ref a3, .ref a4, .ref a5, .ref a6])), (a1, .inl (G 0, 10, .inl f1)), (a2, .inl (G 0, 10, .inl f2)), (a3, .inl (G 0, 10, .inl f3)), (a4, .inl (G 0, 6, .inl f4)), (a5, .inl (G 0, 6, .inl f5)), (a6, .inl (G 0, 6, .inl f6)), (im, .inl (G 3, 2, .inr (.inr (.inr (.inr (va_up (va_up (fun _ => none) 0 (some i0)) 1 (some i1))))))), (kp, .inl (G 2, 2, .inl fk)), (i0, .inr (9, [.int (nI N0), .int (nI B0), .int (nI D0), .ref ib1, .ref ib2, .ref ib3, .ref ib4, .ref ib5, .ref ib6])), (ib1, .inl (G 0, 10, .inl ibf1)), (ib2, .inl (G 0, 10, .inl ibf2)), (ib3, .inl (G 0, 10, .inl ibf3)), (ib4, .inl (G 0, 6, .inl ibf4)), (ib5, .inl (G 0, 6, .inl ibf5)), (ib6, .inl (G 0, 6, .inl ibf6)), (i1, .inr (9, [.int (nI N1), .int (nI B1), .int (nI D1), .ref id1, .ref id2, .ref id3, .ref id4, .ref id5, .ref id6])), (id1, .inl (G 0, 10, .inl idf1)), (id2, .inl (G 0, 10, .inl idf2)), (id3, .inl (G 0, 10, .inl idf3)), (id4, .inl (G 0, 6, .inl idf4)), (id5, .inl (G 0, 6, .inl idf5)), (id6, .inl (G 0, 6, .inl idf6))]) [0, 1, 2, 3, 4, 5, 6, 7, 8, 9, 10, 11, 12, 13, 14, 15, 16, 17, 18, 19, 20, 21, 22, 23] (by decide) rfl
    refine W.widen (k := 0) (n := 0) (by omega) (by omega) ?_
    exact W.iret (v := (-1)) hx hb hr (fun t ht hW => ⟨⟨(-1), (N, B, D, f1, f2, f3, f4, f5, f6), rfl, ⟨hpost, (by have t_b23 := b23; have t_n0 : (nI N).toInt = (N : Int) := nI_toInt (by omega); have t_n1 : (nI B).toInt = (B : Int) := nI_toInt (by omega); have t_n2 : (nI D).toInt = (D : Int) := nI_toInt (by omega); have t_n3 : (nI N0).toInt = (N0 : Int) := nI_toInt (by omega); have t_n4 : (nI B0).toInt = (B0 : Int) := nI_toInt (by omega); have t_n5 : (nI D0).toInt = (D0 : Int) := nI_toInt (by omega); have t_n6 : (nI N1).toInt = (N1 : Int) := nI_toInt (by omega); have t_n7 : (nI B1).toInt = (B1 : Int) := nI_toInt (by omega); have t_n8 : (nI D1).toInt = (D1 : Int) := nI_toInt (by omega); have z0 : (0 : Int32).toInt = 0 := (by decide); have z1 : (1 : Int32).toInt = 1 := (by decide); have z2 : (2 : Int32).toInt = 2 := (by decide); have z3 : (3 : Int32).toInt = 3 := (by decide); have z5 : (5 : Int32).toInt = 5 := (by decide); have z9 : (9 : Int32).toInt = 9 := (by decide); have z20 : (20 : Int32).toInt = 20 := (by decide); have z4 : (-4 : Int32).toInt = -4 := (by decide); have z10 : (10 : Int32).toInt = 10 := (by decide); have k0 : (0 : Int32).toNatClampNeg = 0 := (by decide); have k1 : (1 : Int32).toNatClampNeg = 1 := (by decide); refine ⟨⟨by omega, by omega, by omega, by omega⟩, ?_, ?_⟩ <;> (first | (rw [if_pos ⟨rfl, by assumption⟩]; done) | (rw [if_neg (fun h9 => absurd h9.1 (by decide)), if_pos ⟨rfl, by assumption⟩]; done) | (rw [if_neg (fun h9 => h9.2 (by assumption)), if_neg (fun h9 => absurd h9.1 (by decide))]; done) | (rw [if_neg (fun h9 => absurd h9.1 (by decide)), if_neg (fun h9 => h9.2 (by assumption))]; done) | (rw [if_neg (fun h9 => by have e8 := congrArg Int32.toInt h9.1; omega), if_neg (fun h9 => by have e8 := congrArg Int32.toInt h9.1; omega)]; done)))⟩, ⟨by rw [ht]; exact hP9, hD9⟩⟩, hS.F ht⟩) hS.2.2 dX10_back_8
