set_option maxHeartbeats 1000000 in
set_option maxRecDepth 100000 in
theorem c_X11_best (l : Launch) (dC : Nat → ClassId) (dI : Nat → Nat → Nat) (G : Nat → ClassId) (sz : Nat) (h0 st N B rp tp T cu lt od th be ln S ma M ah bh ik la lg ce : Nat) (what vrs vrb vhs vca vxs vxb vfa vbr vba vsp vhe vtk vva vto : Int32) (fst : Nat → Int32) (fbe : Nat → Int64) (hN : N ≤ 10) (hB : B ≤ 6) (hT : T ≤ 320) (hS0 : S ≤ 8) (hM : M ≤ 6) (hst : OKS fst) (hNB : N = 0 ∨ 0 < B) : Met l yX11_best (Cond.code yX11_best cX11_best 2 (some .long) :: GT) ({ frames := 4, cells := 0, slots := 0, locals := 102 } : Room) (PcW [.ref h0, .int what] dC dI G [(h0, .inr (11, [.ref st, .int (nI N), .int (nI B), .ref rp, .int vrs, .int vrb, .int vhs, .int vca, .int vxs, .int vxb, .ref tp, .int (nI T), .int vfa, .int vbr, .int vba, .int vsp, .int vhe, .int vtk, .int vva, .ref cu, .ref lt, .ref od, .ref th, .ref be, .ref ln, .int (nI S), .ref ma, .int (nI M), .ref ah, .ref bh, .ref ik, .ref la, .ref lg, .ref ce, .int vto])), (st, .inl (G 0, 196, .inl fst)), (be, .inl (G 1, 770, .inr (.inl fbe)))] sz) (va_Ql (fun (r : Int64) (u : (Nat → Int64)) => match u with | obe => (True) ∧ True) (fun (u : (Nat → Int64)) (t : State) => match u with | obe => va_P (dC, dI) vwCl [(h0, .inr (11, [.ref st, .int (nI N), .int (nI B), .ref rp, .int vrs, .int vrb, .int vhs, .int vca, .int vxs, .int vxb, .ref tp, .int (nI T), .int vfa, .int vbr, .int vba, .int vsp, .int vhe, .int vtk, .int vva, .ref cu, .ref lt, .ref od, .ref th, .ref be, .ref ln, .int (nI S), .ref ma, .int (nI M), .ref ah, .ref bh, .ref ik, .ref la, .ref lg, .ref ce, .int vto])), (st, .inl (G 0, 196, .inl fst)), (be, .inl (G 1, 770, .inr (.inl obe)))] t.heap ∧ va_D (va_A [(h0, .inr (11, [.ref st, .int (nI N), .int (nI B), .ref rp, .int vrs, .int vrb, .int vhs, .int vca, .int vxs, .int vxb, .ref tp, .int (nI T), .int vfa, .int vbr, .int vba, .int vsp, .int vhe, .int vtk, .int vva, .ref cu, .ref lt, .ref od, .ref th, .ref be, .ref ln, .int (nI S), .ref ma, .int (nI M), .ref ah, .ref bh, .ref ik, .ref la, .ref lg, .ref ce, .int vto])), (st, .inl (G 0, 196, .inl fst)), (be, .inl (G 1, 770, .inr (.inl fbe)))] sz) [(h0, .inr (11, [.ref st, .int (nI N), .int (nI B), .ref rp, .int vrs, .int vrb, .int vhs, .int vca, .int vxs, .int vxb, .ref tp, .int (nI T), .int vfa, .int vbr, .int vba, .int vsp, .int vhe, .int vtk, .int vva, .ref cu, .ref lt, .ref od, .ref th, .ref be, .ref ln, .int (nI S), .ref ma, .int (nI M), .ref ah, .ref bh, .ref ik, .ref la, .ref lg, .ref ce, .int vto])), (st, .inl (G 0, 196, .inl fst)), (be, .inl (G 1, 770, .inr (.inl obe)))]) (va_A [(h0, .inr (11, [.ref st, .int (nI N), .int (nI B), .ref rp, .int vrs, .int vrb, .int vhs, .int vca, .int vxs, .int vxb, .ref tp, .int (nI T), .int vfa, .int vbr, .int vba, .int vsp, .int vhe, .int vtk, .int vva, .ref cu, .ref lt, .ref od, .ref th, .ref be, .ref ln, .int (nI S), .ref ma, .int (nI M), .ref ah, .ref bh, .ref ik, .ref la, .ref lg, .ref ce, .int vto])), (st, .inl (G 0, 196, .inl fst)), (be, .inl (G 1, 770, .inr (.inl fbe)))] sz)) 0 0 (va_A [(h0, .inr (11, [.ref st, .int (nI N), .int (nI B), .ref rp, .int vrs, .int vrb, .int vhs, .int vca, .int vxs, .int vxb, .ref tp, .int (nI T), .int vfa, .int vbr, .int vba, .int vsp, .int vhe, .int vtk, .int vva, .ref cu, .ref lt, .ref od, .ref th, .ref be, .ref ln, .int (nI S), .ref ma, .int (nI M), .ref ah, .ref bh, .ref ik, .ref la, .ref lg, .ref ce, .int vto])), (st, .inl (G 0, 196, .inl fst)), (be, .inl (G 1, 770, .inr (.inl fbe)))] sz) := by
  have hB_ := hB
  have hM_ := hM
  have hT_ := hT
  have tn1220_ : nIT N := fun _ => nI_toInt (by omega)
  have tn1221_ : nIT B := fun _ => nI_toInt (by omega)
  have tn1222_ : nIT T := fun _ => nI_toInt (by omega)
  have tn1223_ : nIT S := fun _ => nI_toInt (by omega)
  have tn1224_ : nIT M := fun _ => nI_toInt (by omega)
  refine Met.ofW (cc := cX11_best) (maxL := 2) (ret := (some .long)) (by decide) rfl ?_
  intro p e s m args below meth c s₁ Bd hml hv
  obtain ⟨rfl, hsz, hP, hK, hD0⟩ := hv
  have hx := Bd.exec
  have hb := Bd.bytes
  have hr := Bd.returns
  have hg : ∀ w ∈ GT, w.before ([.ref h0, .int what] : List Value).toArray s = true := fun w h => atoms_spec (ws := Cond.code yX11_best cX11_best 2 (some .long) :: GT) Bd.pre w (List.mem_cons_of_mem _ h)
  have hown : s.vm.findClass RX11 = some m.cls := findClass_of_methodNamed Bd.named
  have hlocks := Bd.notSynchronized
  subst hsz
  have hD := hD0.self (sz := s.heap.size)
  generalize hAe : va_A [(h0, .inr (11, [.ref st, .int (nI N), .int (nI B), .ref rp, .int vrs, .int vrb, .int vhs, .int vca, .int vxs, .int vxb, .ref tp, .int (nI T), .int vfa, .int vbr, .int vba, .int vsp, .int vhe, .int vtk, .int vva, .ref cu, .ref lt, .ref od, .ref th, .ref be, .ref ln, .int (nI S), .ref ma, .int (nI M), .ref ah, .ref bh, .ref ik, .ref la, .ref lg, .ref ce, .int vto])), (st, .inl (G 0, 196, .inl fst)), (be, .inl (G 1, 770, .inr (.inl fbe)))] s.heap.size = A at hD ⊢
  have hA : ∀ q : Nat, s.heap.size ≤ q → A q := fun q h => by rw [← hAe]; exact Or.inr h
  have hS : va_S A s.heap s.heap [] := va_S.rf
  have hl := lv_entry ([.ref h0, .int what]) (n := 2) (Nat.le_of_ble_eq_true rfl)
  rw [lg_entry_eq]
  generalize (lg_sl ([.ref h0, .int what]) ++ List.replicate (2 - (lg_sl ([.ref h0, .int what])).length) Slot.unset).toArray = ls at hl ⊢
  have hl : lv_has ls 2 [(0, .ref h0), (1, .int what)] := hl
  refine lv_iload_n hx hb dX11_best_0 rfl (lv_at hl 1 rfl) ?_
  refine lv_i2l (v := what.toInt64) hx hb dX11_best_1 rfl ?_
  refine lv_lconst (v := 0) hx hb dX11_best_2 (by decide) ?_
  refine lv_lconst (v := 1) hx hb dX11_best_3 (by decide) ?_
  have hPc := hP.sub (ws' := []) [] rfl
  refine va_calli (va_runS (As := [.long what.toInt64, .long 0, .long 1]) (rest := []) ⟨hx, hb, hml, hown, hg⟩ (c_X11_in l dC dI G _ what.toInt64 0 1) (kwS hg mfX11_in wt_992 ⟨Nat.le_of_ble_eq_true rfl, Nat.le_of_ble_eq_true rfl⟩) (preSR hK hPc) rfl rfl hl.1 rfl (lv_room (Nat.le_of_ble_eq_true rfl)) dX11_best_4 ⟨Nat.le_of_ble_eq_true rfl, Nat.le_of_ble_eq_true rfl⟩) hS (fun q h1 h2 => absurd h2 (Nat.not_le.mpr h1)) (fun q h => hA q (Nat.le_trans hS.1 h)) (fun r1 ur1 t H1 locs ht hvm w2 hB hz1 hk1 hS => ?_)
  have hP := keepR hP hk1
  obtain ⟨w2, w2x⟩ := w2
  try simp only [l_ii, show (0 : Int64).toInt = 0 from by decide, show (1 : Int64).toInt = 1 from by decide] at w2
  subst w2
  refine lv_if_ne (tgt := 14) hx hb dX11_best_7 rfl (fun c3 => ?_) (fun c3 => ?_)
  · skip
    have b4 := if10_p c3
    refine lv_aload_n hx hb dX11_best_14 rfl (lv_at hl 0 rfl) ?_
    refine lv_bipush (v := (-4)) hx hb dX11_best_15 rfl ?_
    obtain ⟨hPc, hDc, hFc⟩ := va_sub3 (ws' := [(h0, .inr (11, [.ref st, .int (nI N), .int (nI B), .ref rp, .int vrs, .int vrb, .int vhs, .int vca, .int vxs, .int vxb, .ref tp, .int (nI T), .int vfa, .int vbr, .int vba, .int vsp, .int vhe, .int vtk, .int vva, .ref cu, .ref lt, .ref od, .ref th, .ref be, .ref ln, .int (nI S), .ref ma, .int (nI M), .ref ah, .ref bh, .ref ik, .ref la, .ref lg, .ref ce, .int vto])), (st, .inl (G 0, 196, .inl fst)), (be, .inl (G 1, 770, .inr (.inl fbe)))]) hP hD hS hA [0, 1, 2] (by decide) rfl
    refine va_callv (va_runV (As := [.int (-4)]) (rest := []) ⟨hx, hb, hml, hown, hg⟩ (c_X11_layBestN l dC dI G _ h0 st N B rp tp T cu lt od th be ln S ma M ah bh ik la lg ce vrs vrb vhs vca vxs vxb vfa vbr vba vsp vhe vtk vva vto fst fbe hN hB_ hT_ hS0 hM_ hst hNB) (kwV hg mfX11_layBest wt_1150 ⟨Nat.le_of_ble_eq_true rfl, Nat.le_of_ble_eq_true rfl⟩) (preVW hK hPc hDc (ci := 11) rfl rfl) rfl rfl hl.1 rfl (lv_room (Nat.le_of_ble_eq_true rfl)) dX11_best_17 ⟨Nat.le_of_ble_eq_true rfl, Nat.le_of_ble_eq_true rfl⟩) hS (fun q _ h => hFc q h) hFc (fun ur5 t H1 locs ht hvm w6 hB hz1 hk1 hS => ?_)
    obtain ⟨u7, rfl⟩ : ∃ z, z = ur5 := ⟨_, rfl⟩
    obtain ⟨hP1, hD1⟩ := hB
    rw [ht] at hP1
    obtain ⟨hP, hD⟩ := va_join (wr := []) (w1 := [(h0, .inr (11, [.ref st, .int (nI N), .int (nI B), .ref rp, .int vrs, .int vrb, .int vhs, .int vca, .int vxs, .int vxb, .ref tp, .int (nI T), .int vfa, .int vbr, .int vba, .int vsp, .int vhe, .int vtk, .int vva, .ref cu, .ref lt, .ref od, .ref th, .ref be, .ref ln, .int (nI S), .ref ma, .int (nI M), .ref ah, .ref bh, .ref ik, .ref la, .ref lg, .ref ce, .int vto])), (st, .inl (G 0, 196, .inl fst)), (be, .inl (G 1, 770, .inr (.inl u7)))]) hP hD [0, 1, 2] [] rfl rfl (by decide) (by decide) hk1 hFc hP1 hD1
    have w6 : RI fst N B 0 u7 := w6
    generalize H1 = H at hP hS ⊢
    refine lv_aload_n hx hb dX11_best_20 rfl (lv_at hl 0 rfl) ?_
    refine va_get (D := (dC, dI)) (ci := 11) (v := .ref be) (C := RX11) (T := TX11) (N := 35) hx hb hg inG11 hown hK.1 hP 0 rfl rfl 23 (Nat.le_of_ble_eq_true rfl) (hg _ wt_901) (fun _ h9 => h9) rfl dX11_best_21 ?_
    refine lv_iconst (v := 0) hx hb dX11_best_24 rfl ?_
    refine lv_bipush (v := (-4)) hx hb dX11_best_25 rfl ?_
    refine lv_aload_n hx hb dX11_best_27 rfl (lv_at hl 0 rfl) ?_
    have hPc := hP.sub (ws' := [(h0, .inr (11, [.ref st, .int (nI N), .int (nI B), .ref rp, .int vrs, .int vrb, .int vhs, .int vca, .int vxs, .int vxb, .ref tp, .int (nI T), .int vfa, .int vbr, .int vba, .int vsp, .int vhe, .int vtk, .int vva, .ref cu, .ref lt, .ref od, .ref th, .ref be, .ref ln, .int (nI S), .ref ma, .int (nI M), .ref ah, .ref bh, .ref ik, .ref la, .ref lg, .ref ce, .int vto])), (st, .inl (G 0, 196, .inl fst))]) [0, 1] rfl
    refine va_calli (va_runV (As := []) (rest := [.int (-4), .int 0, .ref be]) ⟨hx, hb, hml, hown, hg⟩ (c_X11_startNow l dC dI G _ h0 st N B rp tp T cu lt od th be ln S ma M ah bh ik la lg ce vrs vrb vhs vca vxs vxb vfa vbr vba vsp vhe vtk vva vto fst hN hB_ hT_ hS0 hM_ hst) (kwV hg mfX11_startNow wt_1044 ⟨Nat.le_of_ble_eq_true rfl, Nat.le_of_ble_eq_true rfl⟩) (preVR hK hPc (ci := 11) rfl rfl) rfl rfl hl.1 rfl (lv_room (Nat.le_of_ble_eq_true rfl)) dX11_best_28 ⟨Nat.le_of_ble_eq_true rfl, Nat.le_of_ble_eq_true rfl⟩) hS (fun q h1 h2 => absurd h2 (Nat.not_le.mpr h1)) (fun q h => hA q (Nat.le_trans hS.1 h)) (fun r8 ur8 t H1 locs ht hvm w9 hB hz1 hk1 hS => ?_)
    have hP := keepR hP hk1
    obtain ⟨w9, w9x⟩ := w9
    obtain ⟨k10, w9, w9a, w9b⟩ := w9
    subst w9
    have hPc := hP.sub (ws' := []) [] rfl
    have tn1225_ : nIT k10 := fun _ => nI_toInt (by first | omega | (have t_b4 := b4; have t_w9a := w9a; have t_w9b := w9b; omega))
    refine va_calli (va_runS (As := [.int 0, .int (-4), .int (nI k10)]) (rest := [.ref be]) ⟨hx, hb, hml, hown, hg⟩ (c_X11_bestAtN l dC dI G _ 0 k10 (by first | omega | (have t_b4 := b4; have t_w9a := w9a; have t_w9b := w9b; have t_n0 : (nI N).toInt = (N : Int) := tn1220_ (); have t_n1 : (nI B).toInt = (B : Int) := tn1221_ (); have t_n2 : (nI T).toInt = (T : Int) := tn1222_ (); have t_n3 : (nI S).toInt = (S : Int) := tn1223_ (); have t_n4 : (nI M).toInt = (M : Int) := tn1224_ (); have t_n5 : (nI k10).toInt = (k10 : Int) := tn1225_ (); have : (0 : Int32).toInt = 0 := qI_0; have : ((-4) : Int32).toInt = -4 := qI_m4; omega)) (by first | omega | (have t_b4 := b4; have t_w9a := w9a; have t_w9b := w9b; have t_n0 : (nI N).toInt = (N : Int) := tn1220_ (); have t_n1 : (nI B).toInt = (B : Int) := tn1221_ (); have t_n2 : (nI T).toInt = (T : Int) := tn1222_ (); have t_n3 : (nI S).toInt = (S : Int) := tn1223_ (); have t_n4 : (nI M).toInt = (M : Int) := tn1224_ (); have t_n5 : (nI k10).toInt = (k10 : Int) := tn1225_ (); have : (0 : Int32).toInt = 0 := qI_0; have : ((-4) : Int32).toInt = -4 := qI_m4; omega))) (kwS hg mfX11_bestAt wt_1159 ⟨Nat.le_of_ble_eq_true rfl, Nat.le_of_ble_eq_true rfl⟩) (preSR hK hPc) rfl rfl hl.1 rfl (lv_room (Nat.le_of_ble_eq_true rfl)) dX11_best_31 ⟨Nat.le_of_ble_eq_true rfl, Nat.le_of_ble_eq_true rfl⟩) hS (fun q h1 h2 => absurd h2 (Nat.not_le.mpr h1)) (fun q h => hA q (Nat.le_trans hS.1 h)) (fun r11 ur11 t H1 locs ht hvm w12 hB hz1 hk1 hS => ?_)
    have hP := keepR hP hk1
    obtain ⟨w12, w12x⟩ := w12
    subst w12
    refine va_lald hx hb hK.1 hP 2 1 rfl rfl (vp_in_nI (by first | omega | (have t_b4 := b4; have t_w9a := w9a; have t_w9b := w9b; have t_n0 : (nI N).toInt = (N : Int) := tn1220_ (); have t_n1 : (nI B).toInt = (B : Int) := tn1221_ (); have t_n2 : (nI T).toInt = (T : Int) := tn1222_ (); have t_n3 : (nI S).toInt = (S : Int) := tn1223_ (); have t_n4 : (nI M).toInt = (M : Int) := tn1224_ (); have t_n5 : (nI k10).toInt = (k10 : Int) := tn1225_ (); omega)) (by decide)) dX11_best_34 ?_
    refine lv_cgl (y := u7 (70 * 0 + k10)) (by rw [nI_clamp (by omega)]) ?_
    refine lv_aload_n hx hb dX11_best_35 rfl (lv_at hl 0 rfl) ?_
    refine va_get (D := (dC, dI)) (ci := 11) (v := .int (nI N)) (C := RX11) (T := TX11) (N := 35) hx hb hg inG11 hown hK.1 hP 0 rfl rfl 1 (Nat.le_of_ble_eq_true rfl) (hg _ wt_879) (fun _ h9 => h9) rfl dX11_best_36 ?_
    have hPc := hP.sub (ws' := []) [] rfl
    refine va_calll (va_runS (As := [.int (nI N)]) (rest := [.long (u7 (70 * 0 + k10))]) ⟨hx, hb, hml, hown, hg⟩ (c_X11_power l dC dI G _ N hN) (kwS hg mfX11_power wt_1131 ⟨Nat.le_of_ble_eq_true rfl, Nat.le_of_ble_eq_true rfl⟩) (preSR hK hPc) rfl rfl hl.1 rfl (lv_room (Nat.le_of_ble_eq_true rfl)) dX11_best_39 ⟨Nat.le_of_ble_eq_true rfl, Nat.le_of_ble_eq_true rfl⟩) hS (fun q h1 h2 => absurd h2 (Nat.not_le.mpr h1)) (fun q h => hA q (Nat.le_trans hS.1 h)) (fun r13 ur13 t H1 locs ht hvm w14 hB hz1 hk1 hS => ?_)
    have hP := keepR hP hk1
    obtain ⟨w14, w14x⟩ := w14
    subst w14
    refine lv_iload_n hx hb dX11_best_42 rfl (lv_at hl 1 rfl) ?_
    have hPc := hP.sub (ws' := []) [] rfl
    refine va_calll (va_runS (As := [.long (u7 (70 * 0 + k10)), .long (powF N), .int what]) (rest := []) ⟨hx, hb, hml, hown, hg⟩ (c_X11_lowest l dC dI G _ what (u7 (70 * 0 + k10)) (powF N) (powF_ne (by have t_b4 := b4; have t_w9a := w9a; have t_w9b := w9b; have t_n0 : (nI N).toInt = (N : Int) := tn1220_ (); have t_n1 : (nI B).toInt = (B : Int) := tn1221_ (); have t_n2 : (nI T).toInt = (T : Int) := tn1222_ (); have t_n3 : (nI S).toInt = (S : Int) := tn1223_ (); have t_n4 : (nI M).toInt = (M : Int) := tn1224_ (); have t_n5 : (nI k10).toInt = (k10 : Int) := tn1225_ (); omega))) (kwS hg mfX11_lowest wt_1134 ⟨Nat.le_of_ble_eq_true rfl, Nat.le_of_ble_eq_true rfl⟩) (preSR hK hPc) rfl rfl hl.1 rfl (lv_room (Nat.le_of_ble_eq_true rfl)) dX11_best_43 ⟨Nat.le_of_ble_eq_true rfl, Nat.le_of_ble_eq_true rfl⟩) hS (fun q h1 h2 => absurd h2 (Nat.not_le.mpr h1)) (fun q h => hA q (Nat.le_trans hS.1 h)) (fun r15 ur15 t H1 locs ht hvm w16 hB hz1 hk1 hS => ?_)
    have hP := keepR hP hk1
    obtain ⟨w16, w16x⟩ := w16
    have hpost : True := by
      trivial
    obtain ⟨hP9, hD9⟩ := va_sub2 (ws' := [(h0, .inr (11, [.ref st, .int (nI N), .int (nI B), .ref rp, .int vrs, .int vrb, .int vhs, .int vca, .int vxs, .int vxb, .ref tp, .int (nI T), .int vfa, .int vbr, .int vba, .int vsp, .int vhe, .int vtk, .int vva, .ref cu, .ref lt, .ref od, .ref th, .ref be, .ref ln, .int (nI S), .ref ma, .int (nI M), .ref ah, .ref bh, .ref ik, .ref la, .ref lg, .ref ce, .int vto])), (st, .inl (G 0, 196, .inl fst)), (be, .inl (G 1, 770, .inr (.inl u7)))]) hP hD [0, 1, 2] (by decide) rfl
    refine W.widen (k := 0) (n := 0) (Nat.le_of_ble_eq_true rfl) (Nat.le_of_ble_eq_true rfl) ?_
    exact W.lret (v := r15) hx hb hr (fun t ht hW => ⟨⟨r15, u7, rfl, ⟨hpost, trivial⟩, ⟨by rw [ht]; exact hP9, hD9⟩⟩, hS.F ht⟩) hS.2.2 dX11_best_46
  · skip
    have b17 := if10_n c3
    refine lv_ldc2 (v := (-1)) hx hb hown (hg _ wt_1118) dX11_best_10 ?_
    have hpost : True := by
      trivial
    obtain ⟨hP9, hD9⟩ := va_sub2 (ws' := [(h0, .inr (11, [.ref st, .int (nI N), .int (nI B), .ref rp, .int vrs, .int vrb, .int vhs, .int vca, .int vxs, .int vxb, .ref tp, .int (nI T), .int vfa, .int vbr, .int vba, .int vsp, .int vhe, .int vtk, .int vva, .ref cu, .ref lt, .ref od, .ref th, .ref be, .ref ln, .int (nI S), .ref ma, .int (nI M), .ref ah, .ref bh, .ref ik, .ref la, .ref lg, .ref ce, .int vto])), (st, .inl (G 0, 196, .inl fst)), (be, .inl (G 1, 770, .inr (.inl fbe)))]) hP hD [0, 1, 2] (by decide) rfl
    refine W.widen (k := 0) (n := 0) (Nat.le_of_ble_eq_true rfl) (Nat.le_of_ble_eq_true rfl) ?_
    exact W.lret (v := (-1)) hx hb hr (fun t ht hW => ⟨⟨(-1), fbe, rfl, ⟨hpost, trivial⟩, ⟨by rw [ht]; exact hP9, hD9⟩⟩, hS.F ht⟩) hS.2.2 dX11_best_13

set_option maxHeartbeats 1000000 in
set_option maxRecDepth 100000 in
theorem c_X11_without (l : Launch) (dC : Nat → ClassId) (dI : Nat → Nat → Nat) (G : Nat → ClassId) (sz : Nat) (h0 st N B rp tp T cu lt od th be ln S ma M ah bh ik la lg ce : Nat) (i what vrs vrb vhs vca vxs vxb vfa vbr vba vsp vhe vtk vva vto : Int32) (fst : Nat → Int32) (fbe : Nat → Int64) (hN : N ≤ 10) (hB : B ≤ 6) (hT : T ≤ 320) (hS0 : S ≤ 8) (hM : M ≤ 6) (hst : OKS fst) (hNB : N = 0 ∨ 0 < B) : Met l yX11_without (Cond.code yX11_without cX11_without 3 (some .long) :: GT) ({ frames := 4, cells := 0, slots := 0, locals := 102 } : Room) (PcW [.ref h0, .int i, .int what] dC dI G [(h0, .inr (11, [.ref st, .int (nI N), .int (nI B), .ref rp, .int vrs, .int vrb, .int vhs, .int vca, .int vxs, .int vxb, .ref tp, .int (nI T), .int vfa, .int vbr, .int vba, .int vsp, .int vhe, .int vtk, .int vva, .ref cu, .ref lt, .ref od, .ref th, .ref be, .ref ln, .int (nI S), .ref ma, .int (nI M), .ref ah, .ref bh, .ref ik, .ref la, .ref lg, .ref ce, .int vto])), (st, .inl (G 0, 196, .inl fst)), (be, .inl (G 1, 770, .inr (.inl fbe)))] sz) (va_Ql (fun (r : Int64) (u : (Nat → Int64)) => match u with | obe => (True) ∧ True) (fun (u : (Nat → Int64)) (t : State) => match u with | obe => va_P (dC, dI) vwCl [(h0, .inr (11, [.ref st, .int (nI N), .int (nI B), .ref rp, .int vrs, .int vrb, .int vhs, .int vca, .int vxs, .int vxb, .ref tp, .int (nI T), .int vfa, .int vbr, .int vba, .int vsp, .int vhe, .int vtk, .int vva, .ref cu, .ref lt, .ref od, .ref th, .ref be, .ref ln, .int (nI S), .ref ma, .int (nI M), .ref ah, .ref bh, .ref ik, .ref la, .ref lg, .ref ce, .int vto])), (st, .inl (G 0, 196, .inl fst)), (be, .inl (G 1, 770, .inr (.inl obe)))] t.heap ∧ va_D (va_A [(h0, .inr (11, [.ref st, .int (nI N), .int (nI B), .ref rp, .int vrs, .int vrb, .int vhs, .int vca, .int vxs, .int vxb, .ref tp, .int (nI T), .int vfa, .int vbr, .int vba, .int vsp, .int vhe, .int vtk, .int vva, .ref cu, .ref lt, .ref od, .ref th, .ref be, .ref ln, .int (nI S), .ref ma, .int (nI M), .ref ah, .ref bh, .ref ik, .ref la, .ref lg, .ref ce, .int vto])), (st, .inl (G 0, 196, .inl fst)), (be, .inl (G 1, 770, .inr (.inl fbe)))] sz) [(h0, .inr (11, [.ref st, .int (nI N), .int (nI B), .ref rp, .int vrs, .int vrb, .int vhs, .int vca, .int vxs, .int vxb, .ref tp, .int (nI T), .int vfa, .int vbr, .int vba, .int vsp, .int vhe, .int vtk, .int vva, .ref cu, .ref lt, .ref od, .ref th, .ref be, .ref ln, .int (nI S), .ref ma, .int (nI M), .ref ah, .ref bh, .ref ik, .ref la, .ref lg, .ref ce, .int vto])), (st, .inl (G 0, 196, .inl fst)), (be, .inl (G 1, 770, .inr (.inl obe)))]) (va_A [(h0, .inr (11, [.ref st, .int (nI N), .int (nI B), .ref rp, .int vrs, .int vrb, .int vhs, .int vca, .int vxs, .int vxb, .ref tp, .int (nI T), .int vfa, .int vbr, .int vba, .int vsp, .int vhe, .int vtk, .int vva, .ref cu, .ref lt, .ref od, .ref th, .ref be, .ref ln, .int (nI S), .ref ma, .int (nI M), .ref ah, .ref bh, .ref ik, .ref la, .ref lg, .ref ce, .int vto])), (st, .inl (G 0, 196, .inl fst)), (be, .inl (G 1, 770, .inr (.inl fbe)))] sz)) 0 0 (va_A [(h0, .inr (11, [.ref st, .int (nI N), .int (nI B), .ref rp, .int vrs, .int vrb, .int vhs, .int vca, .int vxs, .int vxb, .ref tp, .int (nI T), .int vfa, .int vbr, .int vba, .int vsp, .int vhe, .int vtk, .int vva, .ref cu, .ref lt, .ref od, .ref th, .ref be, .ref ln, .int (nI S), .ref ma, .int (nI M), .ref ah, .ref bh, .ref ik, .ref la, .ref lg, .ref ce, .int vto])), (st, .inl (G 0, 196, .inl fst)), (be, .inl (G 1, 770, .inr (.inl fbe)))] sz) := by
  have hB_ := hB
  have hM_ := hM
  have hT_ := hT
  have tn1226_ : nIT N := fun _ => nI_toInt (by omega)
  have tn1227_ : nIT B := fun _ => nI_toInt (by omega)
  have tn1228_ : nIT T := fun _ => nI_toInt (by omega)
  have tn1229_ : nIT S := fun _ => nI_toInt (by omega)
  have tn1230_ : nIT M := fun _ => nI_toInt (by omega)
  refine Met.ofW (cc := cX11_without) (maxL := 3) (ret := (some .long)) (by decide) rfl ?_
  intro p e s m args below meth c s₁ Bd hml hv
  obtain ⟨rfl, hsz, hP, hK, hD0⟩ := hv
  have hx := Bd.exec
  have hb := Bd.bytes
  have hr := Bd.returns
  have hg : ∀ w ∈ GT, w.before ([.ref h0, .int i, .int what] : List Value).toArray s = true := fun w h => atoms_spec (ws := Cond.code yX11_without cX11_without 3 (some .long) :: GT) Bd.pre w (List.mem_cons_of_mem _ h)
  have hown : s.vm.findClass RX11 = some m.cls := findClass_of_methodNamed Bd.named
  have hlocks := Bd.notSynchronized
  subst hsz
  have hD := hD0.self (sz := s.heap.size)
  generalize hAe : va_A [(h0, .inr (11, [.ref st, .int (nI N), .int (nI B), .ref rp, .int vrs, .int vrb, .int vhs, .int vca, .int vxs, .int vxb, .ref tp, .int (nI T), .int vfa, .int vbr, .int vba, .int vsp, .int vhe, .int vtk, .int vva, .ref cu, .ref lt, .ref od, .ref th, .ref be, .ref ln, .int (nI S), .ref ma, .int (nI M), .ref ah, .ref bh, .ref ik, .ref la, .ref lg, .ref ce, .int vto])), (st, .inl (G 0, 196, .inl fst)), (be, .inl (G 1, 770, .inr (.inl fbe)))] s.heap.size = A at hD ⊢
  have hA : ∀ q : Nat, s.heap.size ≤ q → A q := fun q h => by rw [← hAe]; exact Or.inr h
  have hS : va_S A s.heap s.heap [] := va_S.rf
  have hl := lv_entry ([.ref h0, .int i, .int what]) (n := 3) (Nat.le_of_ble_eq_true rfl)
  rw [lg_entry_eq]
  generalize (lg_sl ([.ref h0, .int i, .int what]) ++ List.replicate (3 - (lg_sl ([.ref h0, .int i, .int what])).length) Slot.unset).toArray = ls at hl ⊢
  have hl : lv_has ls 3 [(0, .ref h0), (1, .int i), (2, .int what)] := hl
  refine lv_aload_n hx hb dX11_without_0 rfl (lv_at hl 0 rfl) ?_
  refine lv_iload_n hx hb dX11_without_1 rfl (lv_at hl 1 rfl) ?_
  have hPc := hP.sub (ws' := [(h0, .inr (11, [.ref st, .int (nI N), .int (nI B), .ref rp, .int vrs, .int vrb, .int vhs, .int vca, .int vxs, .int vxb, .ref tp, .int (nI T), .int vfa, .int vbr, .int vba, .int vsp, .int vhe, .int vtk, .int vva, .ref cu, .ref lt, .ref od, .ref th, .ref be, .ref ln, .int (nI S), .ref ma, .int (nI M), .ref ah, .ref bh, .ref ik, .ref la, .ref lg, .ref ce, .int vto]))]) [0] rfl
  refine va_calli (va_runV (As := [.int i]) (rest := []) ⟨hx, hb, hml, hown, hg⟩ (c_X11_isBearer l dC dI G _ h0 st N B rp tp T cu lt od th be ln S ma M ah bh ik la lg ce i vrs vrb vhs vca vxs vxb vfa vbr vba vsp vhe vtk vva vto hN hB_ hT_ hS0 hM_) (kwV hg mfX11_isBearer wt_1061 ⟨Nat.le_of_ble_eq_true rfl, Nat.le_of_ble_eq_true rfl⟩) (preVR hK hPc (ci := 11) rfl rfl) rfl rfl hl.1 rfl (lv_room (Nat.le_of_ble_eq_true rfl)) dX11_without_2 ⟨Nat.le_of_ble_eq_true rfl, Nat.le_of_ble_eq_true rfl⟩) hS (fun q h1 h2 => absurd h2 (Nat.not_le.mpr h1)) (fun q h => hA q (Nat.le_trans hS.1 h)) (fun r1 ur1 t H1 locs ht hvm w2 hB hz1 hk1 hS => ?_)
  have hP := keepR hP hk1
  obtain ⟨w2, w2x⟩ := w2
  try simp only [l_ii, show (0 : Int32).toInt = 0 from by decide] at w2
  try rw [show (nI (B)).toInt = ((B : Nat) : Int) from tn1227_ ()] at w2
  subst w2
  refine lv_if_eq (tgt := 18) hx hb dX11_without_5 rfl (fun c3 => ?_) (fun c3 => ?_)
  · skip
    have b4 := if10_n c3
    refine lv_ldc2 (v := (-1)) hx hb hown (hg _ wt_1118) dX11_without_18 ?_
    have hpost : True := by
      trivial
    obtain ⟨hP9, hD9⟩ := va_sub2 (ws' := [(h0, .inr (11, [.ref st, .int (nI N), .int (nI B), .ref rp, .int vrs, .int vrb, .int vhs, .int vca, .int vxs, .int vxb, .ref tp, .int (nI T), .int vfa, .int vbr, .int vba, .int vsp, .int vhe, .int vtk, .int vva, .ref cu, .ref lt, .ref od, .ref th, .ref be, .ref ln, .int (nI S), .ref ma, .int (nI M), .ref ah, .ref bh, .ref ik, .ref la, .ref lg, .ref ce, .int vto])), (st, .inl (G 0, 196, .inl fst)), (be, .inl (G 1, 770, .inr (.inl fbe)))]) hP hD [0, 1, 2] (by decide) rfl
    refine W.widen (k := 0) (n := 0) (Nat.le_of_ble_eq_true rfl) (Nat.le_of_ble_eq_true rfl) ?_
    exact W.lret (v := (-1)) hx hb hr (fun t ht hW => ⟨⟨(-1), fbe, rfl, ⟨hpost, trivial⟩, ⟨by rw [ht]; exact hP9, hD9⟩⟩, hS.F ht⟩) hS.2.2 dX11_without_21
  · skip
    have b5 := if10_p c3
    refine lv_iload_n hx hb dX11_without_8 rfl (lv_at hl 2 rfl) ?_
    refine lv_i2l (v := what.toInt64) hx hb dX11_without_9 rfl ?_
    refine lv_lconst (v := 0) hx hb dX11_without_10 (by decide) ?_
    refine lv_lconst (v := 1) hx hb dX11_without_11 (by decide) ?_
    have hPc := hP.sub (ws' := []) [] rfl
    refine va_calli (va_runS (As := [.long what.toInt64, .long 0, .long 1]) (rest := []) ⟨hx, hb, hml, hown, hg⟩ (c_X11_in l dC dI G _ what.toInt64 0 1) (kwS hg mfX11_in wt_992 ⟨Nat.le_of_ble_eq_true rfl, Nat.le_of_ble_eq_true rfl⟩) (preSR hK hPc) rfl rfl hl.1 rfl (lv_room (Nat.le_of_ble_eq_true rfl)) dX11_without_12 ⟨Nat.le_of_ble_eq_true rfl, Nat.le_of_ble_eq_true rfl⟩) hS (fun q h1 h2 => absurd h2 (Nat.not_le.mpr h1)) (fun q h => hA q (Nat.le_trans hS.1 h)) (fun r6 ur6 t H1 locs ht hvm w7 hB hz1 hk1 hS => ?_)
    have hP := keepR hP hk1
    obtain ⟨w7, w7x⟩ := w7
    try simp only [l_ii, show (0 : Int64).toInt = 0 from by decide, show (1 : Int64).toInt = 1 from by decide] at w7
    subst w7
    refine lv_if_ne (tgt := 22) hx hb dX11_without_15 rfl (fun c8 => ?_) (fun c8 => ?_)
    · skip
      have b9 := if10_p c8
      refine lv_aload_n hx hb dX11_without_22 rfl (lv_at hl 0 rfl) ?_
      refine va_get (D := (dC, dI)) (ci := 11) (v := .int (nI B)) (C := RX11) (T := TX11) (N := 35) hx hb hg inG11 hown hK.1 hP 0 rfl rfl 2 (Nat.le_of_ble_eq_true rfl) (hg _ wt_880) (fun _ h9 => h9) rfl dX11_without_23 ?_
      refine lv_iconst (v := 1) hx hb dX11_without_26 rfl ?_
      refine lv_icmp_ne (tgt := 34) hx hb dX11_without_27 rfl (fun c10 => ?_) (fun c10 => ?_)
      · skip
        have n11 : B ≠ 1 := by have t := neI c10; rw [show (nI (B)).toInt = ((B : Nat) : Int) from tn1227_ ()] at t; have : (1 : Int32).toInt = 1 := qI_1; omega
        refine lv_aload_n hx hb dX11_without_34 rfl (lv_at hl 0 rfl) ?_
        refine lv_iload_n hx hb dX11_without_35 rfl (lv_at hl 1 rfl) ?_
        obtain ⟨hPc, hDc, hFc⟩ := va_sub3 (ws' := [(h0, .inr (11, [.ref st, .int (nI N), .int (nI B), .ref rp, .int vrs, .int vrb, .int vhs, .int vca, .int vxs, .int vxb, .ref tp, .int (nI T), .int vfa, .int vbr, .int vba, .int vsp, .int vhe, .int vtk, .int vva, .ref cu, .ref lt, .ref od, .ref th, .ref be, .ref ln, .int (nI S), .ref ma, .int (nI M), .ref ah, .ref bh, .ref ik, .ref la, .ref lg, .ref ce, .int vto])), (st, .inl (G 0, 196, .inl fst)), (be, .inl (G 1, 770, .inr (.inl fbe)))]) hP hD hS hA [0, 1, 2] (by decide) rfl
        refine va_callv (va_runV (As := [.int i]) (rest := []) ⟨hx, hb, hml, hown, hg⟩ (c_X11_layBestS l dC dI G _ h0 st N B rp tp T cu lt od th be ln S ma M ah bh ik la lg ce i vrs vrb vhs vca vxs vxb vfa vbr vba vsp vhe vtk vva vto fst fbe hN hB_ hT_ hS0 hM_) (kwV hg mfX11_layBest wt_1150 ⟨Nat.le_of_ble_eq_true rfl, Nat.le_of_ble_eq_true rfl⟩) (preVW hK hPc hDc (ci := 11) rfl rfl) rfl rfl hl.1 rfl (lv_room (Nat.le_of_ble_eq_true rfl)) dX11_without_36 ⟨Nat.le_of_ble_eq_true rfl, Nat.le_of_ble_eq_true rfl⟩) hS (fun q _ h => hFc q h) hFc (fun ur12 t H1 locs ht hvm w13 hB hz1 hk1 hS => ?_)
        obtain ⟨u14, rfl⟩ : ∃ z, z = ur12 := ⟨_, rfl⟩
        obtain ⟨hP1, hD1⟩ := hB
        rw [ht] at hP1
        obtain ⟨hP, hD⟩ := va_join (wr := []) (w1 := [(h0, .inr (11, [.ref st, .int (nI N), .int (nI B), .ref rp, .int vrs, .int vrb, .int vhs, .int vca, .int vxs, .int vxb, .ref tp, .int (nI T), .int vfa, .int vbr, .int vba, .int vsp, .int vhe, .int vtk, .int vva, .ref cu, .ref lt, .ref od, .ref th, .ref be, .ref ln, .int (nI S), .ref ma, .int (nI M), .ref ah, .ref bh, .ref ik, .ref la, .ref lg, .ref ce, .int vto])), (st, .inl (G 0, 196, .inl fst)), (be, .inl (G 1, 770, .inr (.inl u14)))]) hP hD [0, 1, 2] [] rfl rfl (by decide) (by decide) hk1 hFc hP1 hD1
        generalize H1 = H at hP hS ⊢
        refine lv_aload_n hx hb dX11_without_39 rfl (lv_at hl 0 rfl) ?_
        refine va_get (D := (dC, dI)) (ci := 11) (v := .ref be) (C := RX11) (T := TX11) (N := 35) hx hb hg inG11 hown hK.1 hP 0 rfl rfl 23 (Nat.le_of_ble_eq_true rfl) (hg _ wt_901) (fun _ h9 => h9) rfl dX11_without_40 ?_
        refine lv_iconst (v := 0) hx hb dX11_without_43 rfl ?_
        refine lv_bipush (v := (-4)) hx hb dX11_without_44 rfl ?_
        refine lv_aload_n hx hb dX11_without_46 rfl (lv_at hl 0 rfl) ?_
        have hPc := hP.sub (ws' := [(h0, .inr (11, [.ref st, .int (nI N), .int (nI B), .ref rp, .int vrs, .int vrb, .int vhs, .int vca, .int vxs, .int vxb, .ref tp, .int (nI T), .int vfa, .int vbr, .int vba, .int vsp, .int vhe, .int vtk, .int vva, .ref cu, .ref lt, .ref od, .ref th, .ref be, .ref ln, .int (nI S), .ref ma, .int (nI M), .ref ah, .ref bh, .ref ik, .ref la, .ref lg, .ref ce, .int vto])), (st, .inl (G 0, 196, .inl fst))]) [0, 1] rfl
        refine va_calli (va_runV (As := []) (rest := [.int (-4), .int 0, .ref be]) ⟨hx, hb, hml, hown, hg⟩ (c_X11_startNow l dC dI G _ h0 st N B rp tp T cu lt od th be ln S ma M ah bh ik la lg ce vrs vrb vhs vca vxs vxb vfa vbr vba vsp vhe vtk vva vto fst hN hB_ hT_ hS0 hM_ hst) (kwV hg mfX11_startNow wt_1044 ⟨Nat.le_of_ble_eq_true rfl, Nat.le_of_ble_eq_true rfl⟩) (preVR hK hPc (ci := 11) rfl rfl) rfl rfl hl.1 rfl (lv_room (Nat.le_of_ble_eq_true rfl)) dX11_without_47 ⟨Nat.le_of_ble_eq_true rfl, Nat.le_of_ble_eq_true rfl⟩) hS (fun q h1 h2 => absurd h2 (Nat.not_le.mpr h1)) (fun q h => hA q (Nat.le_trans hS.1 h)) (fun r15 ur15 t H1 locs ht hvm w16 hB hz1 hk1 hS => ?_)
        have hP := keepR hP hk1
        obtain ⟨w16, w16x⟩ := w16
        obtain ⟨k17, w16, w16a, w16b⟩ := w16
        subst w16
        have hPc := hP.sub (ws' := []) [] rfl
        have tn1231_ : nIT k17 := fun _ => nI_toInt (by first | omega | (have t_b5 := b5; have t_b9 := b9; have t_n11 := n11; have t_w16a := w16a; have t_w16b := w16b; omega))
        refine va_calli (va_runS (As := [.int 0, .int (-4), .int (nI k17)]) (rest := [.ref be]) ⟨hx, hb, hml, hown, hg⟩ (c_X11_bestAtN l dC dI G _ 0 k17 (by first | omega | (have t_b5 := b5; have t_b9 := b9; have t_n11 := n11; have t_w16a := w16a; have t_w16b := w16b; have t_n0 : (nI N).toInt = (N : Int) := tn1226_ (); have t_n1 : (nI B).toInt = (B : Int) := tn1227_ (); have t_n2 : (nI T).toInt = (T : Int) := tn1228_ (); have t_n3 : (nI S).toInt = (S : Int) := tn1229_ (); have t_n4 : (nI M).toInt = (M : Int) := tn1230_ (); have t_n5 : (nI k17).toInt = (k17 : Int) := tn1231_ (); have : (0 : Int32).toInt = 0 := qI_0; have : ((-4) : Int32).toInt = -4 := qI_m4; omega)) (by first | omega | (have t_b5 := b5; have t_b9 := b9; have t_n11 := n11; have t_w16a := w16a; have t_w16b := w16b; have t_n0 : (nI N).toInt = (N : Int) := tn1226_ (); have t_n1 : (nI B).toInt = (B : Int) := tn1227_ (); have t_n2 : (nI T).toInt = (T : Int) := tn1228_ (); have t_n3 : (nI S).toInt = (S : Int) := tn1229_ (); have t_n4 : (nI M).toInt = (M : Int) := tn1230_ (); have t_n5 : (nI k17).toInt = (k17 : Int) := tn1231_ (); have : (0 : Int32).toInt = 0 := qI_0; have : ((-4) : Int32).toInt = -4 := qI_m4; omega))) (kwS hg mfX11_bestAt wt_1159 ⟨Nat.le_of_ble_eq_true rfl, Nat.le_of_ble_eq_true rfl⟩) (preSR hK hPc) rfl rfl hl.1 rfl (lv_room (Nat.le_of_ble_eq_true rfl)) dX11_without_50 ⟨Nat.le_of_ble_eq_true rfl, Nat.le_of_ble_eq_true rfl⟩) hS (fun q h1 h2 => absurd h2 (Nat.not_le.mpr h1)) (fun q h => hA q (Nat.le_trans hS.1 h)) (fun r18 ur18 t H1 locs ht hvm w19 hB hz1 hk1 hS => ?_)
        have hP := keepR hP hk1
        obtain ⟨w19, w19x⟩ := w19
        subst w19
        refine va_lald hx hb hK.1 hP 2 1 rfl rfl (vp_in_nI (by first | omega | (have t_b5 := b5; have t_b9 := b9; have t_n11 := n11; have t_w16a := w16a; have t_w16b := w16b; have t_n0 : (nI N).toInt = (N : Int) := tn1226_ (); have t_n1 : (nI B).toInt = (B : Int) := tn1227_ (); have t_n2 : (nI T).toInt = (T : Int) := tn1228_ (); have t_n3 : (nI S).toInt = (S : Int) := tn1229_ (); have t_n4 : (nI M).toInt = (M : Int) := tn1230_ (); have t_n5 : (nI k17).toInt = (k17 : Int) := tn1231_ (); omega)) (by decide)) dX11_without_53 ?_
        refine lv_cgl (y := u14 (70 * 0 + k17)) (by rw [nI_clamp (by omega)]) ?_
        refine lv_aload_n hx hb dX11_without_54 rfl (lv_at hl 0 rfl) ?_
        refine va_get (D := (dC, dI)) (ci := 11) (v := .int (nI N)) (C := RX11) (T := TX11) (N := 35) hx hb hg inG11 hown hK.1 hP 0 rfl rfl 1 (Nat.le_of_ble_eq_true rfl) (hg _ wt_879) (fun _ h9 => h9) rfl dX11_without_55 ?_
        have hPc := hP.sub (ws' := []) [] rfl
        refine va_calll (va_runS (As := [.int (nI N)]) (rest := [.long (u14 (70 * 0 + k17))]) ⟨hx, hb, hml, hown, hg⟩ (c_X11_power l dC dI G _ N hN) (kwS hg mfX11_power wt_1131 ⟨Nat.le_of_ble_eq_true rfl, Nat.le_of_ble_eq_true rfl⟩) (preSR hK hPc) rfl rfl hl.1 rfl (lv_room (Nat.le_of_ble_eq_true rfl)) dX11_without_58 ⟨Nat.le_of_ble_eq_true rfl, Nat.le_of_ble_eq_true rfl⟩) hS (fun q h1 h2 => absurd h2 (Nat.not_le.mpr h1)) (fun q h => hA q (Nat.le_trans hS.1 h)) (fun r20 ur20 t H1 locs ht hvm w21 hB hz1 hk1 hS => ?_)
        have hP := keepR hP hk1
        obtain ⟨w21, w21x⟩ := w21
        subst w21
        refine lv_iload_n hx hb dX11_without_61 rfl (lv_at hl 2 rfl) ?_
        have hPc := hP.sub (ws' := []) [] rfl
        refine va_calll (va_runS (As := [.long (u14 (70 * 0 + k17)), .long (powF N), .int what]) (rest := []) ⟨hx, hb, hml, hown, hg⟩ (c_X11_lowest l dC dI G _ what (u14 (70 * 0 + k17)) (powF N) (powF_ne (by have t_b5 := b5; have t_b9 := b9; have t_n11 := n11; have t_w16a := w16a; have t_w16b := w16b; have t_n0 : (nI N).toInt = (N : Int) := tn1226_ (); have t_n1 : (nI B).toInt = (B : Int) := tn1227_ (); have t_n2 : (nI T).toInt = (T : Int) := tn1228_ (); have t_n3 : (nI S).toInt = (S : Int) := tn1229_ (); have t_n4 : (nI M).toInt = (M : Int) := tn1230_ (); have t_n5 : (nI k17).toInt = (k17 : Int) := tn1231_ (); omega))) (kwS hg mfX11_lowest wt_1134 ⟨Nat.le_of_ble_eq_true rfl, Nat.le_of_ble_eq_true rfl⟩) (preSR hK hPc) rfl rfl hl.1 rfl (lv_room (Nat.le_of_ble_eq_true rfl)) dX11_without_62 ⟨Nat.le_of_ble_eq_true rfl, Nat.le_of_ble_eq_true rfl⟩) hS (fun q h1 h2 => absurd h2 (Nat.not_le.mpr h1)) (fun q h => hA q (Nat.le_trans hS.1 h)) (fun r22 ur22 t H1 locs ht hvm w23 hB hz1 hk1 hS => ?_)
        have hP := keepR hP hk1
        obtain ⟨w23, w23x⟩ := w23
        have hpost : True := by
          trivial
        obtain ⟨hP9, hD9⟩ := va_sub2 (ws' := [(h0, .inr (11, [.ref st, .int (nI N), .int (nI B), .ref rp, .int vrs, .int vrb, .int vhs, .int vca, .int vxs, .int vxb, .ref tp, .int (nI T), .int vfa, .int vbr, .int vba, .int vsp, .int vhe, .int vtk, .int vva, .ref cu, .ref lt, .ref od, .ref th, .ref be, .ref ln, .int (nI S), .ref ma, .int (nI M), .ref ah, .ref bh, .ref ik, .ref la, .ref lg, .ref ce, .int vto])), (st, .inl (G 0, 196, .inl fst)), (be, .inl (G 1, 770, .inr (.inl u14)))]) hP hD [0, 1, 2] (by decide) rfl
        refine W.widen (k := 0) (n := 0) (Nat.le_of_ble_eq_true rfl) (Nat.le_of_ble_eq_true rfl) ?_
        exact W.lret (v := r22) hx hb hr (fun t ht hW => ⟨⟨r22, u14, rfl, ⟨hpost, trivial⟩, ⟨by rw [ht]; exact hP9, hD9⟩⟩, hS.F ht⟩) hS.2.2 dX11_without_65
      · skip
        have n24 : B = 1 := by have t := eqI c10; rw [show (nI (B)).toInt = ((B : Nat) : Int) from tn1227_ ()] at t; have : (1 : Int32).toInt = 1 := qI_1; omega
        refine lv_ldc2 (v := (-2)) hx hb hown (hg _ wt_1170) dX11_without_30 ?_
        have hpost : True := by
          trivial
        obtain ⟨hP9, hD9⟩ := va_sub2 (ws' := [(h0, .inr (11, [.ref st, .int (nI N), .int (nI B), .ref rp, .int vrs, .int vrb, .int vhs, .int vca, .int vxs, .int vxb, .ref tp, .int (nI T), .int vfa, .int vbr, .int vba, .int vsp, .int vhe, .int vtk, .int vva, .ref cu, .ref lt, .ref od, .ref th, .ref be, .ref ln, .int (nI S), .ref ma, .int (nI M), .ref ah, .ref bh, .ref ik, .ref la, .ref lg, .ref ce, .int vto])), (st, .inl (G 0, 196, .inl fst)), (be, .inl (G 1, 770, .inr (.inl fbe)))]) hP hD [0, 1, 2] (by decide) rfl
        refine W.widen (k := 0) (n := 0) (Nat.le_of_ble_eq_true rfl) (Nat.le_of_ble_eq_true rfl) ?_
        exact W.lret (v := (-2)) hx hb hr (fun t ht hW => ⟨⟨(-2), fbe, rfl, ⟨hpost, trivial⟩, ⟨by rw [ht]; exact hP9, hD9⟩⟩, hS.F ht⟩) hS.2.2 dX11_without_33
    · skip
      have b25 := if10_n c8
      refine lv_ldc2 (v := (-1)) hx hb hown (hg _ wt_1118) dX11_without_18 ?_
      have hpost : True := by
        trivial
      obtain ⟨hP9, hD9⟩ := va_sub2 (ws' := [(h0, .inr (11, [.ref st, .int (nI N), .int (nI B), .ref rp, .int vrs, .int vrb, .int vhs, .int vca, .int vxs, .int vxb, .ref tp, .int (nI T), .int vfa, .int vbr, .int vba, .int vsp, .int vhe, .int vtk, .int vva, .ref cu, .ref lt, .ref od, .ref th, .ref be, .ref ln, .int (nI S), .ref ma, .int (nI M), .ref ah, .ref bh, .ref ik, .ref la, .ref lg, .ref ce, .int vto])), (st, .inl (G 0, 196, .inl fst)), (be, .inl (G 1, 770, .inr (.inl fbe)))]) hP hD [0, 1, 2] (by decide) rfl
      refine W.widen (k := 0) (n := 0) (Nat.le_of_ble_eq_true rfl) (Nat.le_of_ble_eq_true rfl) ?_
      exact W.lret (v := (-1)) hx hb hr (fun t ht hW => ⟨⟨(-1), fbe, rfl, ⟨hpost, trivial⟩, ⟨by rw [ht]; exact hP9, hD9⟩⟩, hS.F ht⟩) hS.2.2 dX11_without_21

set_option maxHeartbeats 1000000 in
set_option maxRecDepth 100000 in
theorem c_X11_next (l : Launch) (dC : Nat → ClassId) (dI : Nat → Nat → Nat) (G : Nat → ClassId) (sz : Nat) (h0 st N B rp tp T cu lt od th be ln S ma M ah bh ik la lg ce : Nat) (i g d vrs vrb vhs vca vxs vxb vfa vbr vba vsp vhe vtk vva vto : Int32) (fst : Nat → Int32) (fbe : Nat → Int64) (hN : N ≤ 10) (hB : B ≤ 6) (hT : T ≤ 320) (hS0 : S ≤ 8) (hM : M ≤ 6) (hst : OKS fst) (hNB : N = 0 ∨ 0 < B) : Met l yX11_next (Cond.code yX11_next cX11_next 5 (some .int) :: GT) ({ frames := 4, cells := 0, slots := 0, locals := 102 } : Room) (PcW [.ref h0, .int i, .int g, .int d] dC dI G [(h0, .inr (11, [.ref st, .int (nI N), .int (nI B), .ref rp, .int vrs, .int vrb, .int vhs, .int vca, .int vxs, .int vxb, .ref tp, .int (nI T), .int vfa, .int vbr, .int vba, .int vsp, .int vhe, .int vtk, .int vva, .ref cu, .ref lt, .ref od, .ref th, .ref be, .ref ln, .int (nI S), .ref ma, .int (nI M), .ref ah, .ref bh, .ref ik, .ref la, .ref lg, .ref ce, .int vto])), (st, .inl (G 0, 196, .inl fst)), (be, .inl (G 1, 770, .inr (.inl fbe)))] sz) (va_Qi (fun (r : Int32) (u : (Nat → Int64)) => match u with | obe => (True) ∧ True) (fun (u : (Nat → Int64)) (t : State) => match u with | obe => va_P (dC, dI) vwCl [(h0, .inr (11, [.ref st, .int (nI N), .int (nI B), .ref rp, .int vrs, .int vrb, .int vhs, .int vca, .int vxs, .int vxb, .ref tp, .int (nI T), .int vfa, .int vbr, .int vba, .int vsp, .int vhe, .int vtk, .int vva, .ref cu, .ref lt, .ref od, .ref th, .ref be, .ref ln, .int (nI S), .ref ma, .int (nI M), .ref ah, .ref bh, .ref ik, .ref la, .ref lg, .ref ce, .int vto])), (st, .inl (G 0, 196, .inl fst)), (be, .inl (G 1, 770, .inr (.inl obe)))] t.heap ∧ va_D (va_A [(h0, .inr (11, [.ref st, .int (nI N), .int (nI B), .ref rp, .int vrs, .int vrb, .int vhs, .int vca, .int vxs, .int vxb, .ref tp, .int (nI T), .int vfa, .int vbr, .int vba, .int vsp, .int vhe, .int vtk, .int vva, .ref cu, .ref lt, .ref od, .ref th, .ref be, .ref ln, .int (nI S), .ref ma, .int (nI M), .ref ah, .ref bh, .ref ik, .ref la, .ref lg, .ref ce, .int vto])), (st, .inl (G 0, 196, .inl fst)), (be, .inl (G 1, 770, .inr (.inl fbe)))] sz) [(h0, .inr (11, [.ref st, .int (nI N), .int (nI B), .ref rp, .int vrs, .int vrb, .int vhs, .int vca, .int vxs, .int vxb, .ref tp, .int (nI T), .int vfa, .int vbr, .int vba, .int vsp, .int vhe, .int vtk, .int vva, .ref cu, .ref lt, .ref od, .ref th, .ref be, .ref ln, .int (nI S), .ref ma, .int (nI M), .ref ah, .ref bh, .ref ik, .ref la, .ref lg, .ref ce, .int vto])), (st, .inl (G 0, 196, .inl fst)), (be, .inl (G 1, 770, .inr (.inl obe)))]) (va_A [(h0, .inr (11, [.ref st, .int (nI N), .int (nI B), .ref rp, .int vrs, .int vrb, .int vhs, .int vca, .int vxs, .int vxb, .ref tp, .int (nI T), .int vfa, .int vbr, .int vba, .int vsp, .int vhe, .int vtk, .int vva, .ref cu, .ref lt, .ref od, .ref th, .ref be, .ref ln, .int (nI S), .ref ma, .int (nI M), .ref ah, .ref bh, .ref ik, .ref la, .ref lg, .ref ce, .int vto])), (st, .inl (G 0, 196, .inl fst)), (be, .inl (G 1, 770, .inr (.inl fbe)))] sz)) 0 0 (va_A [(h0, .inr (11, [.ref st, .int (nI N), .int (nI B), .ref rp, .int vrs, .int vrb, .int vhs, .int vca, .int vxs, .int vxb, .ref tp, .int (nI T), .int vfa, .int vbr, .int vba, .int vsp, .int vhe, .int vtk, .int vva, .ref cu, .ref lt, .ref od, .ref th, .ref be, .ref ln, .int (nI S), .ref ma, .int (nI M), .ref ah, .ref bh, .ref ik, .ref la, .ref lg, .ref ce, .int vto])), (st, .inl (G 0, 196, .inl fst)), (be, .inl (G 1, 770, .inr (.inl fbe)))] sz) := by
  have hB_ := hB
  have hM_ := hM
  have hT_ := hT
  have tn1232_ : nIT N := fun _ => nI_toInt (by omega)
  have tn1233_ : nIT B := fun _ => nI_toInt (by omega)
  have tn1234_ : nIT T := fun _ => nI_toInt (by omega)
  have tn1235_ : nIT S := fun _ => nI_toInt (by omega)
  have tn1236_ : nIT M := fun _ => nI_toInt (by omega)
  refine Met.ofW (cc := cX11_next) (maxL := 5) (ret := (some .int)) (by decide) rfl ?_
  intro p e s m args below meth c s₁ Bd hml hv
  obtain ⟨rfl, hsz, hP, hK, hD0⟩ := hv
  have hx := Bd.exec
  have hb := Bd.bytes
  have hr := Bd.returns
  have hg : ∀ w ∈ GT, w.before ([.ref h0, .int i, .int g, .int d] : List Value).toArray s = true := fun w h => atoms_spec (ws := Cond.code yX11_next cX11_next 5 (some .int) :: GT) Bd.pre w (List.mem_cons_of_mem _ h)
  have hown : s.vm.findClass RX11 = some m.cls := findClass_of_methodNamed Bd.named
  have hlocks := Bd.notSynchronized
  subst hsz
  have hD := hD0.self (sz := s.heap.size)
  generalize hAe : va_A [(h0, .inr (11, [.ref st, .int (nI N), .int (nI B), .ref rp, .int vrs, .int vrb, .int vhs, .int vca, .int vxs, .int vxb, .ref tp, .int (nI T), .int vfa, .int vbr, .int vba, .int vsp, .int vhe, .int vtk, .int vva, .ref cu, .ref lt, .ref od, .ref th, .ref be, .ref ln, .int (nI S), .ref ma, .int (nI M), .ref ah, .ref bh, .ref ik, .ref la, .ref lg, .ref ce, .int vto])), (st, .inl (G 0, 196, .inl fst)), (be, .inl (G 1, 770, .inr (.inl fbe)))] s.heap.size = A at hD ⊢
  have hA : ∀ q : Nat, s.heap.size ≤ q → A q := fun q h => by rw [← hAe]; exact Or.inr h
  have hS : va_S A s.heap s.heap [] := va_S.rf
  have hl := lv_entry ([.ref h0, .int i, .int g, .int d]) (n := 5) (Nat.le_of_ble_eq_true rfl)
  rw [lg_entry_eq]
  generalize (lg_sl ([.ref h0, .int i, .int g, .int d]) ++ List.replicate (5 - (lg_sl ([.ref h0, .int i, .int g, .int d])).length) Slot.unset).toArray = ls at hl ⊢
  have hl : lv_has ls 5 [(0, .ref h0), (1, .int i), (2, .int g), (3, .int d)] := hl
  refine lv_aload_n hx hb dX11_next_0 rfl (lv_at hl 0 rfl) ?_
  refine lv_iload_n hx hb dX11_next_1 rfl (lv_at hl 1 rfl) ?_
  have hPc := hP.sub (ws' := [(h0, .inr (11, [.ref st, .int (nI N), .int (nI B), .ref rp, .int vrs, .int vrb, .int vhs, .int vca, .int vxs, .int vxb, .ref tp, .int (nI T), .int vfa, .int vbr, .int vba, .int vsp, .int vhe, .int vtk, .int vva, .ref cu, .ref lt, .ref od, .ref th, .ref be, .ref ln, .int (nI S), .ref ma, .int (nI M), .ref ah, .ref bh, .ref ik, .ref la, .ref lg, .ref ce, .int vto]))]) [0] rfl
  refine va_calli (va_runV (As := [.int i]) (rest := []) ⟨hx, hb, hml, hown, hg⟩ (c_X11_isStretch l dC dI G _ h0 st N B rp tp T cu lt od th be ln S ma M ah bh ik la lg ce i vrs vrb vhs vca vxs vxb vfa vbr vba vsp vhe vtk vva vto hN hB_ hT_ hS0 hM_) (kwV hg mfX11_isStretch wt_1052 ⟨Nat.le_of_ble_eq_true rfl, Nat.le_of_ble_eq_true rfl⟩) (preVR hK hPc (ci := 11) rfl rfl) rfl rfl hl.1 rfl (lv_room (Nat.le_of_ble_eq_true rfl)) dX11_next_2 ⟨Nat.le_of_ble_eq_true rfl, Nat.le_of_ble_eq_true rfl⟩) hS (fun q h1 h2 => absurd h2 (Nat.not_le.mpr h1)) (fun q h => hA q (Nat.le_trans hS.1 h)) (fun r1 ur1 t H1 locs ht hvm w2 hB hz1 hk1 hS => ?_)
  have hP := keepR hP hk1
  obtain ⟨w2, w2x⟩ := w2
  try simp only [l_ii, show (0 : Int32).toInt = 0 from by decide] at w2
  try rw [show (nI (N)).toInt = ((N : Nat) : Int) from tn1232_ ()] at w2
  subst w2
  refine lv_if_eq (tgt := 38) hx hb dX11_next_5 rfl (fun c3 => ?_) (fun c3 => ?_)
  · skip
    have b4 := if10_n c3
    refine lv_iconst (v := (-1)) hx hb dX11_next_38 rfl ?_
    have hpost : True := by
      trivial
    obtain ⟨hP9, hD9⟩ := va_sub2 (ws' := [(h0, .inr (11, [.ref st, .int (nI N), .int (nI B), .ref rp, .int vrs, .int vrb, .int vhs, .int vca, .int vxs, .int vxb, .ref tp, .int (nI T), .int vfa, .int vbr, .int vba, .int vsp, .int vhe, .int vtk, .int vva, .ref cu, .ref lt, .ref od, .ref th, .ref be, .ref ln, .int (nI S), .ref ma, .int (nI M), .ref ah, .ref bh, .ref ik, .ref la, .ref lg, .ref ce, .int vto])), (st, .inl (G 0, 196, .inl fst)), (be, .inl (G 1, 770, .inr (.inl fbe)))]) hP hD [0, 1, 2] (by decide) rfl
    refine W.widen (k := 0) (n := 0) (Nat.le_of_ble_eq_true rfl) (Nat.le_of_ble_eq_true rfl) ?_
    exact W.iret (v := (-1)) hx hb hr (fun t ht hW => ⟨⟨(-1), fbe, rfl, ⟨hpost, trivial⟩, ⟨by rw [ht]; exact hP9, hD9⟩⟩, hS.F ht⟩) hS.2.2 dX11_next_39
  · skip
    have b5 := if10_p c3
    refine lv_aload_n hx hb dX11_next_8 rfl (lv_at hl 0 rfl) ?_
    refine lv_iload_n hx hb dX11_next_9 rfl (lv_at hl 2 rfl) ?_
    have hPc := hP.sub (ws' := [(h0, .inr (11, [.ref st, .int (nI N), .int (nI B), .ref rp, .int vrs, .int vrb, .int vhs, .int vca, .int vxs, .int vxb, .ref tp, .int (nI T), .int vfa, .int vbr, .int vba, .int vsp, .int vhe, .int vtk, .int vva, .ref cu, .ref lt, .ref od, .ref th, .ref be, .ref ln, .int (nI S), .ref ma, .int (nI M), .ref ah, .ref bh, .ref ik, .ref la, .ref lg, .ref ce, .int vto]))]) [0] rfl
    refine va_calli (va_runV (As := [.int g]) (rest := []) ⟨hx, hb, hml, hown, hg⟩ (c_X11_isBearer l dC dI G _ h0 st N B rp tp T cu lt od th be ln S ma M ah bh ik la lg ce g vrs vrb vhs vca vxs vxb vfa vbr vba vsp vhe vtk vva vto hN hB_ hT_ hS0 hM_) (kwV hg mfX11_isBearer wt_1061 ⟨Nat.le_of_ble_eq_true rfl, Nat.le_of_ble_eq_true rfl⟩) (preVR hK hPc (ci := 11) rfl rfl) rfl rfl hl.1 rfl (lv_room (Nat.le_of_ble_eq_true rfl)) dX11_next_10 ⟨Nat.le_of_ble_eq_true rfl, Nat.le_of_ble_eq_true rfl⟩) hS (fun q h1 h2 => absurd h2 (Nat.not_le.mpr h1)) (fun q h => hA q (Nat.le_trans hS.1 h)) (fun r6 ur6 t H1 locs ht hvm w7 hB hz1 hk1 hS => ?_)
    have hP := keepR hP hk1
    obtain ⟨w7, w7x⟩ := w7
    try simp only [l_ii, show (0 : Int32).toInt = 0 from by decide] at w7
    try rw [show (nI (B)).toInt = ((B : Nat) : Int) from tn1233_ ()] at w7
    subst w7
    refine lv_if_ne (tgt := 26) hx hb dX11_next_13 rfl (fun c8 => ?_) (fun c8 => ?_)
    · skip
      have b9 := if10_p c8
      refine lv_iload_n hx hb dX11_next_26 rfl (lv_at hl 3 rfl) ?_
      refine lv_i2l (v := d.toInt64) hx hb dX11_next_27 rfl ?_
      refine lv_lconst (v := 1) hx hb dX11_next_28 (by decide) ?_
      refine lv_ldc2 (v := 9) hx hb hown (hg _ wt_1069) dX11_next_29 ?_
      have hPc := hP.sub (ws' := []) [] rfl
      refine va_calli (va_runS (As := [.long d.toInt64, .long 1, .long 9]) (rest := []) ⟨hx, hb, hml, hown, hg⟩ (c_X11_in l dC dI G _ d.toInt64 1 9) (kwS hg mfX11_in wt_992 ⟨Nat.le_of_ble_eq_true rfl, Nat.le_of_ble_eq_true rfl⟩) (preSR hK hPc) rfl rfl hl.1 rfl (lv_room (Nat.le_of_ble_eq_true rfl)) dX11_next_32 ⟨Nat.le_of_ble_eq_true rfl, Nat.le_of_ble_eq_true rfl⟩) hS (fun q h1 h2 => absurd h2 (Nat.not_le.mpr h1)) (fun q h => hA q (Nat.le_trans hS.1 h)) (fun r10 ur10 t H1 locs ht hvm w11 hB hz1 hk1 hS => ?_)
      have hP := keepR hP hk1
      obtain ⟨w11, w11x⟩ := w11
      try simp only [l_ii, show (1 : Int64).toInt = 1 from by decide, show (9 : Int64).toInt = 9 from by decide] at w11
      subst w11
      refine lv_if_ne (tgt := 40) hx hb dX11_next_35 rfl (fun c12 => ?_) (fun c12 => ?_)
      · skip
        have b13 := if10_p c12
        obtain ⟨ii, hii, rfl⟩ : ∃ j : Nat, j < 10 ∧ i = nI j := by
          have t_b5 := b5
          have t_b9 := b9
          have t_b13 := b13
          have t_n0 : (nI N).toInt = (N : Int) := tn1232_ ()
          have t_n1 : (nI B).toInt = (B : Int) := tn1233_ ()
          have t_n2 : (nI T).toInt = (T : Int) := tn1234_ ()
          have t_n3 : (nI S).toInt = (S : Int) := tn1235_ ()
          have t_n4 : (nI M).toInt = (M : Int) := tn1236_ ()
          exact i32_nat (by omega) (by omega)
        obtain ⟨dd, hdd, rfl⟩ : ∃ j : Nat, j < 10 ∧ d = nI j := by
          have t_b5 := b5
          have t_b9 := b9
          have t_b13 := b13
          have t_hii := hii
          have t_n0 : (nI N).toInt = (N : Int) := tn1232_ ()
          have t_n1 : (nI B).toInt = (B : Int) := tn1233_ ()
          have t_n2 : (nI T).toInt = (T : Int) := tn1234_ ()
          have t_n3 : (nI S).toInt = (S : Int) := tn1235_ ()
          have t_n4 : (nI M).toInt = (M : Int) := tn1236_ ()
          have tn1237_ : nIT ii := fun _ => nI_toInt (by omega)
          have t_n5 : (nI ii).toInt = (ii : Int) := tn1237_ ()
          exact i32_nat (by omega) (by omega)
        obtain ⟨gg, hgg, rfl⟩ : ∃ j : Nat, j < 6 ∧ g = nI j := by
          have t_b5 := b5
          have t_b9 := b9
          have t_b13 := b13
          have t_hii := hii
          have t_hdd := hdd
          have t_n0 : (nI N).toInt = (N : Int) := tn1232_ ()
          have t_n1 : (nI B).toInt = (B : Int) := tn1233_ ()
          have t_n2 : (nI T).toInt = (T : Int) := tn1234_ ()
          have t_n3 : (nI S).toInt = (S : Int) := tn1235_ ()
          have t_n4 : (nI M).toInt = (M : Int) := tn1236_ ()
          have tn1238_ : nIT ii := fun _ => nI_toInt (by omega)
          have t_n5 : (nI ii).toInt = (ii : Int) := tn1238_ ()
          have tn1239_ : nIT dd := fun _ => nI_toInt (by omega)
          have t_n6 : (nI dd).toInt = (dd : Int) := tn1239_ ()
          exact i32_nat (by omega) (by omega)
        refine lv_aload_n hx hb dX11_next_40 rfl (lv_at hl 0 rfl) ?_
        refine lv_bipush (v := (-4)) hx hb dX11_next_41 rfl ?_
        obtain ⟨hPc, hDc, hFc⟩ := va_sub3 (ws' := [(h0, .inr (11, [.ref st, .int (nI N), .int (nI B), .ref rp, .int vrs, .int vrb, .int vhs, .int vca, .int vxs, .int vxb, .ref tp, .int (nI T), .int vfa, .int vbr, .int vba, .int vsp, .int vhe, .int vtk, .int vva, .ref cu, .ref lt, .ref od, .ref th, .ref be, .ref ln, .int (nI S), .ref ma, .int (nI M), .ref ah, .ref bh, .ref ik, .ref la, .ref lg, .ref ce, .int vto])), (st, .inl (G 0, 196, .inl fst)), (be, .inl (G 1, 770, .inr (.inl fbe)))]) hP hD hS hA [0, 1, 2] (by decide) rfl
        have tn1240_ : nIT ii := fun _ => nI_toInt (by first | omega | (have t_b5 := b5; have t_b9 := b9; have t_b13 := b13; have t_hii := hii; have t_hdd := hdd; have t_hgg := hgg; omega))
        have tn1241_ : nIT dd := fun _ => nI_toInt (by first | omega | (have t_b5 := b5; have t_b9 := b9; have t_b13 := b13; have t_hii := hii; have t_hdd := hdd; have t_hgg := hgg; omega))
        have tn1242_ : nIT gg := fun _ => nI_toInt (by first | omega | (have t_b5 := b5; have t_b9 := b9; have t_b13 := b13; have t_hii := hii; have t_hdd := hdd; have t_hgg := hgg; omega))
        refine va_callv (va_runV (As := [.int (-4)]) (rest := []) ⟨hx, hb, hml, hown, hg⟩ (c_X11_layBestN l dC dI G _ h0 st N B rp tp T cu lt od th be ln S ma M ah bh ik la lg ce vrs vrb vhs vca vxs vxb vfa vbr vba vsp vhe vtk vva vto fst fbe hN hB_ hT_ hS0 hM_ hst hNB) (kwV hg mfX11_layBest wt_1150 ⟨Nat.le_of_ble_eq_true rfl, Nat.le_of_ble_eq_true rfl⟩) (preVW hK hPc hDc (ci := 11) rfl rfl) rfl rfl hl.1 rfl (lv_room (Nat.le_of_ble_eq_true rfl)) dX11_next_43 ⟨Nat.le_of_ble_eq_true rfl, Nat.le_of_ble_eq_true rfl⟩) hS (fun q _ h => hFc q h) hFc (fun ur14 t H1 locs ht hvm w15 hB hz1 hk1 hS => ?_)
        obtain ⟨u16, rfl⟩ : ∃ z, z = ur14 := ⟨_, rfl⟩
        obtain ⟨hP1, hD1⟩ := hB
        rw [ht] at hP1
        obtain ⟨hP, hD⟩ := va_join (wr := []) (w1 := [(h0, .inr (11, [.ref st, .int (nI N), .int (nI B), .ref rp, .int vrs, .int vrb, .int vhs, .int vca, .int vxs, .int vxb, .ref tp, .int (nI T), .int vfa, .int vbr, .int vba, .int vsp, .int vhe, .int vtk, .int vva, .ref cu, .ref lt, .ref od, .ref th, .ref be, .ref ln, .int (nI S), .ref ma, .int (nI M), .ref ah, .ref bh, .ref ik, .ref la, .ref lg, .ref ce, .int vto])), (st, .inl (G 0, 196, .inl fst)), (be, .inl (G 1, 770, .inr (.inl u16)))]) hP hD [0, 1, 2] [] rfl rfl (by decide) (by decide) hk1 hFc hP1 hD1
        have w15 : RI fst N B 0 u16 := w15
        generalize H1 = H at hP hS ⊢
        refine lv_iconst (v := 0) hx hb dX11_next_46 rfl ?_
        refine lv_istore (lv' := [(4, .int 0), (0, .ref h0), (1, .int (nI ii)), (2, .int (nI gg)), (3, .int (nI dd))]) hx hb dX11_next_47 hl (by decide) rfl (fun ls hl => ?_)
        have loop49_18 : ∀ (nf j17 : Nat), B + 1 ≤ j17 + nf → j17 ≤ B → ∀ (H : Heap) (locs : List Loc), (∃ b9 : Nat, j17 ≤ b9 ∧ b9 < B ∧ b1B fst u16 ii gg dd b9 = u16 (70 * ii + 10 * (gg + 1) + dd)) → va_P (dC, dI) vwCl [(h0, .inr (11, [.ref st, .int (nI N), .int (nI B), .ref rp, .int vrs, .int vrb, .int vhs, .int vca, .int vxs, .int vxb, .ref tp, .int (nI T), .int vfa, .int vbr, .int vba, .int vsp, .int vhe, .int vtk, .int vva, .ref cu, .ref lt, .ref od, .ref th, .ref be, .ref ln, .int (nI S), .ref ma, .int (nI M), .ref ah, .ref bh, .ref ik, .ref la, .ref lg, .ref ce, .int vto])), (st, .inl (G 0, 196, .inl fst)), (be, .inl (G 1, 770, .inr (.inl u16)))] H → va_D A [(h0, .inr (11, [.ref st, .int (nI N), .int (nI B), .ref rp, .int vrs, .int vrb, .int vhs, .int vca, .int vxs, .int vxb, .ref tp, .int (nI T), .int vfa, .int vbr, .int vba, .int vsp, .int vhe, .int vtk, .int vva, .ref cu, .ref lt, .ref od, .ref th, .ref be, .ref ln, .int (nI S), .ref ma, .int (nI M), .ref ah, .ref bh, .ref ik, .ref la, .ref lg, .ref ce, .int vto])), (st, .inl (G 0, 196, .inl fst)), (be, .inl (G 1, 770, .inr (.inl u16)))] → va_S A s.heap H locs → ∀ (ls : Array Slot), lv_has ls 5 [(4, .int (nI j17)), (0, .ref h0), (1, .int (nI ii)), (2, .int (nI gg)), (3, .int (nI dd))] → W p l e (headSpec (Cond.code yX11_next cX11_next 5 (some .int) :: GT) ({ frames := 4, cells := 0, slots := 0, locals := 102 } : Room)).room s m ([.ref h0, .int (nI ii), .int (nI gg), .int (nI dd)] : List Value).toArray below meth c H locs 0 0 (MQ below (va_Qi (fun (r : Int32) (u : (Nat → Int64)) => match u with | obe => (True) ∧ True) (fun (u : (Nat → Int64)) (t : State) => match u with | obe => va_P (dC, dI) vwCl [(h0, .inr (11, [.ref st, .int (nI N), .int (nI B), .ref rp, .int vrs, .int vrb, .int vhs, .int vca, .int vxs, .int vxb, .ref tp, .int (nI T), .int vfa, .int vbr, .int vba, .int vsp, .int vhe, .int vtk, .int vva, .ref cu, .ref lt, .ref od, .ref th, .ref be, .ref ln, .int (nI S), .ref ma, .int (nI M), .ref ah, .ref bh, .ref ik, .ref la, .ref lg, .ref ce, .int vto])), (st, .inl (G 0, 196, .inl fst)), (be, .inl (G 1, 770, .inr (.inl obe)))] t.heap ∧ va_D A [(h0, .inr (11, [.ref st, .int (nI N), .int (nI B), .ref rp, .int vrs, .int vrb, .int vhs, .int vca, .int vxs, .int vxb, .ref tp, .int (nI T), .int vfa, .int vbr, .int vba, .int vsp, .int vhe, .int vtk, .int vva, .ref cu, .ref lt, .ref od, .ref th, .ref be, .ref ln, .int (nI S), .ref ma, .int (nI M), .ref ah, .ref bh, .ref ik, .ref la, .ref lg, .ref ce, .int vto])), (st, .inl (G 0, 196, .inl fst)), (be, .inl (G 1, 770, .inr (.inl obe)))]) A) ([.ref h0, .int (nI ii), .int (nI gg), .int (nI dd)] : List Value).toArray s 0 0 A) (F0 m 49 ls []) := by
          intro nf
          induction nf with
          | zero => intro j17 h1 h2; exact absurd h1 (by omega)
          | succ nf ih49_18 =>
            intro j17 hn19 hj20  H locs hinv hP hD hS ls hl
            refine lv_aload_n hx hb dX11_next_49 rfl (lv_at hl 1 rfl) ?_
            have hjB := nx_lt hinv
            refine lv_iload_n hx hb dX11_next_50 rfl (lv_at hl 2 rfl) ?_
            refine lv_iload_n hx hb dX11_next_51 rfl (lv_at hl 3 rfl) ?_
            refine lv_iload_n hx hb dX11_next_52 rfl (lv_at hl 4 rfl) ?_
            refine lv_iload hx hb dX11_next_53 (lv_at hl 0 rfl) ?_
            have hPc := hP.sub (ws' := [(h0, .inr (11, [.ref st, .int (nI N), .int (nI B), .ref rp, .int vrs, .int vrb, .int vhs, .int vca, .int vxs, .int vxb, .ref tp, .int (nI T), .int vfa, .int vbr, .int vba, .int vsp, .int vhe, .int vtk, .int vva, .ref cu, .ref lt, .ref od, .ref th, .ref be, .ref ln, .int (nI S), .ref ma, .int (nI M), .ref ah, .ref bh, .ref ik, .ref la, .ref lg, .ref ce, .int vto])), (st, .inl (G 0, 196, .inl fst)), (be, .inl (G 1, 770, .inr (.inl u16)))]) [0, 1, 2] rfl
            have tn1243_ : nIT j17 := fun _ => nI_toInt (by first | omega | (have t_b5 := b5; have t_b9 := b9; have t_b13 := b13; have t_hii := hii; have t_hdd := hdd; have t_hgg := hgg; have t_hj20 := hj20; have t_hinvf := (nx_lt hinv); omega))
            refine va_calll (va_runV (As := [.int (nI ii), .int (nI gg), .int (nI dd), .int (nI j17)]) (rest := []) ⟨hx, hb, hml, hown, hg⟩ (c_X11_byOneB l dC dI G _ h0 ii gg dd j17 st N B rp tp T cu lt od th be ln S ma M ah bh ik la lg ce vrs vrb vhs vca vxs vxb vfa vbr vba vsp vhe vtk vva vto fst u16 hN hB_ hT_ hS0 hM_ (by first | omega | (have t_b5 := b5; have t_b9 := b9; have t_b13 := b13; have t_hii := hii; have t_hdd := hdd; have t_hgg := hgg; have t_hj20 := hj20; have t_hinvf := (nx_lt hinv); have t_n0 : (nI N).toInt = (N : Int) := tn1232_ (); have t_n1 : (nI B).toInt = (B : Int) := tn1233_ (); have t_n2 : (nI T).toInt = (T : Int) := tn1234_ (); have t_n3 : (nI S).toInt = (S : Int) := tn1235_ (); have t_n4 : (nI M).toInt = (M : Int) := tn1236_ (); have t_n5 : (nI ii).toInt = (ii : Int) := tn1240_ (); have t_n6 : (nI dd).toInt = (dd : Int) := tn1241_ (); have t_n7 : (nI gg).toInt = (gg : Int) := tn1242_ (); have t_n8 : (nI j17).toInt = (j17 : Int) := tn1243_ (); omega)) (by first | omega | (have t_b5 := b5; have t_b9 := b9; have t_b13 := b13; have t_hii := hii; have t_hdd := hdd; have t_hgg := hgg; have t_hj20 := hj20; have t_hinvf := (nx_lt hinv); have t_n0 : (nI N).toInt = (N : Int) := tn1232_ (); have t_n1 : (nI B).toInt = (B : Int) := tn1233_ (); have t_n2 : (nI T).toInt = (T : Int) := tn1234_ (); have t_n3 : (nI S).toInt = (S : Int) := tn1235_ (); have t_n4 : (nI M).toInt = (M : Int) := tn1236_ (); have t_n5 : (nI ii).toInt = (ii : Int) := tn1240_ (); have t_n6 : (nI dd).toInt = (dd : Int) := tn1241_ (); have t_n7 : (nI gg).toInt = (gg : Int) := tn1242_ (); have t_n8 : (nI j17).toInt = (j17 : Int) := tn1243_ (); omega)) (by first | omega | (have t_b5 := b5; have t_b9 := b9; have t_b13 := b13; have t_hii := hii; have t_hdd := hdd; have t_hgg := hgg; have t_hj20 := hj20; have t_hinvf := (nx_lt hinv); have t_n0 : (nI N).toInt = (N : Int) := tn1232_ (); have t_n1 : (nI B).toInt = (B : Int) := tn1233_ (); have t_n2 : (nI T).toInt = (T : Int) := tn1234_ (); have t_n3 : (nI S).toInt = (S : Int) := tn1235_ (); have t_n4 : (nI M).toInt = (M : Int) := tn1236_ (); have t_n5 : (nI ii).toInt = (ii : Int) := tn1240_ (); have t_n6 : (nI dd).toInt = (dd : Int) := tn1241_ (); have t_n7 : (nI gg).toInt = (gg : Int) := tn1242_ (); have t_n8 : (nI j17).toInt = (j17 : Int) := tn1243_ (); omega)) (by first | omega | (have t_b5 := b5; have t_b9 := b9; have t_b13 := b13; have t_hii := hii; have t_hdd := hdd; have t_hgg := hgg; have t_hj20 := hj20; have t_hinvf := (nx_lt hinv); have t_n0 : (nI N).toInt = (N : Int) := tn1232_ (); have t_n1 : (nI B).toInt = (B : Int) := tn1233_ (); have t_n2 : (nI T).toInt = (T : Int) := tn1234_ (); have t_n3 : (nI S).toInt = (S : Int) := tn1235_ (); have t_n4 : (nI M).toInt = (M : Int) := tn1236_ (); have t_n5 : (nI ii).toInt = (ii : Int) := tn1240_ (); have t_n6 : (nI dd).toInt = (dd : Int) := tn1241_ (); have t_n7 : (nI gg).toInt = (gg : Int) := tn1242_ (); have t_n8 : (nI j17).toInt = (j17 : Int) := tn1243_ (); omega))) (kwV hg mfX11_byOne wt_1155 ⟨Nat.le_of_ble_eq_true rfl, Nat.le_of_ble_eq_true rfl⟩) (preVR hK hPc (ci := 11) rfl rfl) rfl rfl hl.1 rfl (lv_room (Nat.le_of_ble_eq_true rfl)) dX11_next_55 ⟨Nat.le_of_ble_eq_true rfl, Nat.le_of_ble_eq_true rfl⟩) hS (fun q h1 h2 => absurd h2 (Nat.not_le.mpr h1)) (fun q h => hA q (Nat.le_trans hS.1 h)) (fun r21 ur21 t H1 locs ht hvm w22 hB hz1 hk1 hS => ?_)
            have hP := keepR hP hk1
            obtain ⟨w22, w22x⟩ := w22
            subst w22
            refine lv_aload_n hx hb dX11_next_58 rfl (lv_at hl 1 rfl) ?_
            refine va_get (D := (dC, dI)) (ci := 11) (v := .ref be) (C := RX11) (T := TX11) (N := 35) hx hb hg inG11 hown hK.1 hP 0 rfl rfl 23 (Nat.le_of_ble_eq_true rfl) (hg _ wt_901) (fun _ h9 => h9) rfl dX11_next_59 ?_
            refine lv_iload_n hx hb dX11_next_62 rfl (lv_at hl 2 rfl) ?_
            refine lv_iload_n hx hb dX11_next_63 rfl (lv_at hl 3 rfl) ?_
            refine lv_iload_n hx hb dX11_next_64 rfl (lv_at hl 4 rfl) ?_
            have hPc := hP.sub (ws' := []) [] rfl
            refine va_calli (va_runS (As := [.int (nI ii), .int (nI gg), .int (nI dd)]) (rest := [.ref be, .long (b1B fst u16 ii gg dd j17)]) ⟨hx, hb, hml, hown, hg⟩ (c_X11_bestAtB l dC dI G _ ii gg dd (by first | omega | (have t_b5 := b5; have t_b9 := b9; have t_b13 := b13; have t_hii := hii; have t_hdd := hdd; have t_hgg := hgg; have t_hj20 := hj20; have t_hinvf := (nx_lt hinv); have t_n0 : (nI N).toInt = (N : Int) := tn1232_ (); have t_n1 : (nI B).toInt = (B : Int) := tn1233_ (); have t_n2 : (nI T).toInt = (T : Int) := tn1234_ (); have t_n3 : (nI S).toInt = (S : Int) := tn1235_ (); have t_n4 : (nI M).toInt = (M : Int) := tn1236_ (); have t_n5 : (nI ii).toInt = (ii : Int) := tn1240_ (); have t_n6 : (nI dd).toInt = (dd : Int) := tn1241_ (); have t_n7 : (nI gg).toInt = (gg : Int) := tn1242_ (); have t_n8 : (nI j17).toInt = (j17 : Int) := tn1243_ (); omega)) (by first | omega | (have t_b5 := b5; have t_b9 := b9; have t_b13 := b13; have t_hii := hii; have t_hdd := hdd; have t_hgg := hgg; have t_hj20 := hj20; have t_hinvf := (nx_lt hinv); have t_n0 : (nI N).toInt = (N : Int) := tn1232_ (); have t_n1 : (nI B).toInt = (B : Int) := tn1233_ (); have t_n2 : (nI T).toInt = (T : Int) := tn1234_ (); have t_n3 : (nI S).toInt = (S : Int) := tn1235_ (); have t_n4 : (nI M).toInt = (M : Int) := tn1236_ (); have t_n5 : (nI ii).toInt = (ii : Int) := tn1240_ (); have t_n6 : (nI dd).toInt = (dd : Int) := tn1241_ (); have t_n7 : (nI gg).toInt = (gg : Int) := tn1242_ (); have t_n8 : (nI j17).toInt = (j17 : Int) := tn1243_ (); omega)) (by first | omega | (have t_b5 := b5; have t_b9 := b9; have t_b13 := b13; have t_hii := hii; have t_hdd := hdd; have t_hgg := hgg; have t_hj20 := hj20; have t_hinvf := (nx_lt hinv); have t_n0 : (nI N).toInt = (N : Int) := tn1232_ (); have t_n1 : (nI B).toInt = (B : Int) := tn1233_ (); have t_n2 : (nI T).toInt = (T : Int) := tn1234_ (); have t_n3 : (nI S).toInt = (S : Int) := tn1235_ (); have t_n4 : (nI M).toInt = (M : Int) := tn1236_ (); have t_n5 : (nI ii).toInt = (ii : Int) := tn1240_ (); have t_n6 : (nI dd).toInt = (dd : Int) := tn1241_ (); have t_n7 : (nI gg).toInt = (gg : Int) := tn1242_ (); have t_n8 : (nI j17).toInt = (j17 : Int) := tn1243_ (); omega))) (kwS hg mfX11_bestAt wt_1159 ⟨Nat.le_of_ble_eq_true rfl, Nat.le_of_ble_eq_true rfl⟩) (preSR hK hPc) rfl rfl hl.1 rfl (lv_room (Nat.le_of_ble_eq_true rfl)) dX11_next_65 ⟨Nat.le_of_ble_eq_true rfl, Nat.le_of_ble_eq_true rfl⟩) hS (fun q h1 h2 => absurd h2 (Nat.not_le.mpr h1)) (fun q h => hA q (Nat.le_trans hS.1 h)) (fun r23 ur23 t H1 locs ht hvm w24 hB hz1 hk1 hS => ?_)
            have hP := keepR hP hk1
            obtain ⟨w24, w24x⟩ := w24
            subst w24
            refine va_lald hx hb hK.1 hP 2 1 rfl rfl (vp_in_nI (by first | omega | (have t_b5 := b5; have t_b9 := b9; have t_b13 := b13; have t_hii := hii; have t_hdd := hdd; have t_hgg := hgg; have t_hj20 := hj20; have t_hinvf := (nx_lt hinv); have t_n0 : (nI N).toInt = (N : Int) := tn1232_ (); have t_n1 : (nI B).toInt = (B : Int) := tn1233_ (); have t_n2 : (nI T).toInt = (T : Int) := tn1234_ (); have t_n3 : (nI S).toInt = (S : Int) := tn1235_ (); have t_n4 : (nI M).toInt = (M : Int) := tn1236_ (); have t_n5 : (nI ii).toInt = (ii : Int) := tn1240_ (); have t_n6 : (nI dd).toInt = (dd : Int) := tn1241_ (); have t_n7 : (nI gg).toInt = (gg : Int) := tn1242_ (); have t_n8 : (nI j17).toInt = (j17 : Int) := tn1243_ (); omega)) (by decide)) dX11_next_68 ?_
            refine lv_cgl (y := u16 (70 * ii + 10 * (gg + 1) + dd)) (by rw [nI_clamp (by omega)]) ?_
            refine W.lcmp hx hb dX11_next_69 ?_
            refine lv_if_eq (tgt := 79) hx hb dX11_next_70 rfl (fun c25 => ?_) (fun c25 => ?_)
            · skip
              refine lv_iload hx hb dX11_next_79 (lv_at hl 0 rfl) ?_
              have hpost : True := by
                trivial
              obtain ⟨hP9, hD9⟩ := va_sub2 (ws' := [(h0, .inr (11, [.ref st, .int (nI N), .int (nI B), .ref rp, .int vrs, .int vrb, .int vhs, .int vca, .int vxs, .int vxb, .ref tp, .int (nI T), .int vfa, .int vbr, .int vba, .int vsp, .int vhe, .int vtk, .int vva, .ref cu, .ref lt, .ref od, .ref th, .ref be, .ref ln, .int (nI S), .ref ma, .int (nI M), .ref ah, .ref bh, .ref ik, .ref la, .ref lg, .ref ce, .int vto])), (st, .inl (G 0, 196, .inl fst)), (be, .inl (G 1, 770, .inr (.inl u16)))]) hP hD [0, 1, 2] (by decide) rfl
              refine W.widen (k := 0) (n := 0) (Nat.le_of_ble_eq_true rfl) (Nat.le_of_ble_eq_true rfl) ?_
              exact W.iret (v := nI j17) hx hb hr (fun t ht hW => ⟨⟨nI j17, u16, rfl, ⟨hpost, trivial⟩, ⟨by rw [ht]; exact hP9, hD9⟩⟩, hS.F ht⟩) hS.2.2 dX11_next_81
            · skip
              refine lv_iinc (v := nI (j17 + 1)) (lv' := [(4, .int (nI (j17 + 1))), (0, .ref h0), (1, .int (nI ii)), (2, .int (nI gg)), (3, .int (nI dd))]) hx hb dX11_next_73 hl (k := 0) rfl (by rw [show Int32.ofInt 1 = nI 1 from by decide]; exact nI_add _ _) (by decide) rfl (fun ls hl => ?_)
              refine lv_goto (tgt := 49) hx hb dX11_next_76 rfl ?_
              exact ih49_18 (j17 + 1) (by omega) (by omega)  _ _ (nx_step hinv (lcm_eq_f c25)) hP hD hS ls (lv_sub hl [0, 1, 2, 3, 4] rfl)
        exact loop49_18 (B + 1) 0 (by omega) (by omega)  _ _ (RI.getB w15 (by have t_b5 := b5; have t_b9 := b9; have t_b13 := b13; have t_hii := hii; have t_hdd := hdd; have t_hgg := hgg; have t_n0 : (nI N).toInt = (N : Int) := tn1232_ (); have t_n1 : (nI B).toInt = (B : Int) := tn1233_ (); have t_n2 : (nI T).toInt = (T : Int) := tn1234_ (); have t_n3 : (nI S).toInt = (S : Int) := tn1235_ (); have t_n4 : (nI M).toInt = (M : Int) := tn1236_ (); have t_n5 : (nI ii).toInt = (ii : Int) := tn1240_ (); have t_n6 : (nI dd).toInt = (dd : Int) := tn1241_ (); have t_n7 : (nI gg).toInt = (gg : Int) := tn1242_ (); omega) (by have t_b5 := b5; have t_b9 := b9; have t_b13 := b13; have t_hii := hii; have t_hdd := hdd; have t_hgg := hgg; have t_n0 : (nI N).toInt = (N : Int) := tn1232_ (); have t_n1 : (nI B).toInt = (B : Int) := tn1233_ (); have t_n2 : (nI T).toInt = (T : Int) := tn1234_ (); have t_n3 : (nI S).toInt = (S : Int) := tn1235_ (); have t_n4 : (nI M).toInt = (M : Int) := tn1236_ (); have t_n5 : (nI ii).toInt = (ii : Int) := tn1240_ (); have t_n6 : (nI dd).toInt = (dd : Int) := tn1241_ (); have t_n7 : (nI gg).toInt = (gg : Int) := tn1242_ (); omega) (by have t_b5 := b5; have t_b9 := b9; have t_b13 := b13; have t_hii := hii; have t_hdd := hdd; have t_hgg := hgg; have t_n0 : (nI N).toInt = (N : Int) := tn1232_ (); have t_n1 : (nI B).toInt = (B : Int) := tn1233_ (); have t_n2 : (nI T).toInt = (T : Int) := tn1234_ (); have t_n3 : (nI S).toInt = (S : Int) := tn1235_ (); have t_n4 : (nI M).toInt = (M : Int) := tn1236_ (); have t_n5 : (nI ii).toInt = (ii : Int) := tn1240_ (); have t_n6 : (nI dd).toInt = (dd : Int) := tn1241_ (); have t_n7 : (nI gg).toInt = (gg : Int) := tn1242_ (); omega) (by have t_b5 := b5; have t_b9 := b9; have t_b13 := b13; have t_hii := hii; have t_hdd := hdd; have t_hgg := hgg; have t_n0 : (nI N).toInt = (N : Int) := tn1232_ (); have t_n1 : (nI B).toInt = (B : Int) := tn1233_ (); have t_n2 : (nI T).toInt = (T : Int) := tn1234_ (); have t_n3 : (nI S).toInt = (S : Int) := tn1235_ (); have t_n4 : (nI M).toInt = (M : Int) := tn1236_ (); have t_n5 : (nI ii).toInt = (ii : Int) := tn1240_ (); have t_n6 : (nI dd).toInt = (dd : Int) := tn1241_ (); have t_n7 : (nI gg).toInt = (gg : Int) := tn1242_ (); omega) (by have t_b5 := b5; have t_b9 := b9; have t_b13 := b13; have t_hii := hii; have t_hdd := hdd; have t_hgg := hgg; have t_n0 : (nI N).toInt = (N : Int) := tn1232_ (); have t_n1 : (nI B).toInt = (B : Int) := tn1233_ (); have t_n2 : (nI T).toInt = (T : Int) := tn1234_ (); have t_n3 : (nI S).toInt = (S : Int) := tn1235_ (); have t_n4 : (nI M).toInt = (M : Int) := tn1236_ (); have t_n5 : (nI ii).toInt = (ii : Int) := tn1240_ (); have t_n6 : (nI dd).toInt = (dd : Int) := tn1241_ (); have t_n7 : (nI gg).toInt = (gg : Int) := tn1242_ (); omega)) hP hD hS ls (lv_sub hl [0, 1, 2, 3, 4] rfl)
      · skip
        have b26 := if10_n c12
        refine lv_iconst (v := (-1)) hx hb dX11_next_38 rfl ?_
        have hpost : True := by
          trivial
        obtain ⟨hP9, hD9⟩ := va_sub2 (ws' := [(h0, .inr (11, [.ref st, .int (nI N), .int (nI B), .ref rp, .int vrs, .int vrb, .int vhs, .int vca, .int vxs, .int vxb, .ref tp, .int (nI T), .int vfa, .int vbr, .int vba, .int vsp, .int vhe, .int vtk, .int vva, .ref cu, .ref lt, .ref od, .ref th, .ref be, .ref ln, .int (nI S), .ref ma, .int (nI M), .ref ah, .ref bh, .ref ik, .ref la, .ref lg, .ref ce, .int vto])), (st, .inl (G 0, 196, .inl fst)), (be, .inl (G 1, 770, .inr (.inl fbe)))]) hP hD [0, 1, 2] (by decide) rfl
        refine W.widen (k := 0) (n := 0) (Nat.le_of_ble_eq_true rfl) (Nat.le_of_ble_eq_true rfl) ?_
        exact W.iret (v := (-1)) hx hb hr (fun t ht hW => ⟨⟨(-1), fbe, rfl, ⟨hpost, trivial⟩, ⟨by rw [ht]; exact hP9, hD9⟩⟩, hS.F ht⟩) hS.2.2 dX11_next_39
    · skip
      have b27 := if10_n c8
      refine lv_iload_n hx hb dX11_next_16 rfl (lv_at hl 2 rfl) ?_
      refine lv_bipush (v := (-4)) hx hb dX11_next_17 rfl ?_
      refine lv_icmp_ne (tgt := 38) hx hb dX11_next_19 rfl (fun c28 => ?_) (fun c28 => ?_)
      · skip
        refine lv_iconst (v := (-1)) hx hb dX11_next_38 rfl ?_
        have hpost : True := by
          trivial
        obtain ⟨hP9, hD9⟩ := va_sub2 (ws' := [(h0, .inr (11, [.ref st, .int (nI N), .int (nI B), .ref rp, .int vrs, .int vrb, .int vhs, .int vca, .int vxs, .int vxb, .ref tp, .int (nI T), .int vfa, .int vbr, .int vba, .int vsp, .int vhe, .int vtk, .int vva, .ref cu, .ref lt, .ref od, .ref th, .ref be, .ref ln, .int (nI S), .ref ma, .int (nI M), .ref ah, .ref bh, .ref ik, .ref la, .ref lg, .ref ce, .int vto])), (st, .inl (G 0, 196, .inl fst)), (be, .inl (G 1, 770, .inr (.inl fbe)))]) hP hD [0, 1, 2] (by decide) rfl
        refine W.widen (k := 0) (n := 0) (Nat.le_of_ble_eq_true rfl) (Nat.le_of_ble_eq_true rfl) ?_
        exact W.iret (v := (-1)) hx hb hr (fun t ht hW => ⟨⟨(-1), fbe, rfl, ⟨hpost, trivial⟩, ⟨by rw [ht]; exact hP9, hD9⟩⟩, hS.F ht⟩) hS.2.2 dX11_next_39
      · skip
        refine lv_iload_n hx hb dX11_next_22 rfl (lv_at hl 1 rfl) ?_
        refine lv_if_ne (tgt := 38) hx hb dX11_next_23 rfl (fun c29 => ?_) (fun c29 => ?_)
        · skip
          refine lv_iconst (v := (-1)) hx hb dX11_next_38 rfl ?_
          have hpost : True := by
            trivial
          obtain ⟨hP9, hD9⟩ := va_sub2 (ws' := [(h0, .inr (11, [.ref st, .int (nI N), .int (nI B), .ref rp, .int vrs, .int vrb, .int vhs, .int vca, .int vxs, .int vxb, .ref tp, .int (nI T), .int vfa, .int vbr, .int vba, .int vsp, .int vhe, .int vtk, .int vva, .ref cu, .ref lt, .ref od, .ref th, .ref be, .ref ln, .int (nI S), .ref ma, .int (nI M), .ref ah, .ref bh, .ref ik, .ref la, .ref lg, .ref ce, .int vto])), (st, .inl (G 0, 196, .inl fst)), (be, .inl (G 1, 770, .inr (.inl fbe)))]) hP hD [0, 1, 2] (by decide) rfl
          refine W.widen (k := 0) (n := 0) (Nat.le_of_ble_eq_true rfl) (Nat.le_of_ble_eq_true rfl) ?_
          exact W.iret (v := (-1)) hx hb hr (fun t ht hW => ⟨⟨(-1), fbe, rfl, ⟨hpost, trivial⟩, ⟨by rw [ht]; exact hP9, hD9⟩⟩, hS.F ht⟩) hS.2.2 dX11_next_39
        · skip
          refine lv_iload_n hx hb dX11_next_26 rfl (lv_at hl 3 rfl) ?_
          refine lv_i2l (v := d.toInt64) hx hb dX11_next_27 rfl ?_
          refine lv_lconst (v := 1) hx hb dX11_next_28 (by decide) ?_
          refine lv_ldc2 (v := 9) hx hb hown (hg _ wt_1069) dX11_next_29 ?_
          have hPc := hP.sub (ws' := []) [] rfl
          refine va_calli (va_runS (As := [.long d.toInt64, .long 1, .long 9]) (rest := []) ⟨hx, hb, hml, hown, hg⟩ (c_X11_in l dC dI G _ d.toInt64 1 9) (kwS hg mfX11_in wt_992 ⟨Nat.le_of_ble_eq_true rfl, Nat.le_of_ble_eq_true rfl⟩) (preSR hK hPc) rfl rfl hl.1 rfl (lv_room (Nat.le_of_ble_eq_true rfl)) dX11_next_32 ⟨Nat.le_of_ble_eq_true rfl, Nat.le_of_ble_eq_true rfl⟩) hS (fun q h1 h2 => absurd h2 (Nat.not_le.mpr h1)) (fun q h => hA q (Nat.le_trans hS.1 h)) (fun r30 ur30 t H1 locs ht hvm w31 hB hz1 hk1 hS => ?_)
          have hP := keepR hP hk1
          obtain ⟨w31, w31x⟩ := w31
          try simp only [l_ii, show (1 : Int64).toInt = 1 from by decide, show (9 : Int64).toInt = 9 from by decide] at w31
          subst w31
          refine lv_if_ne (tgt := 40) hx hb dX11_next_35 rfl (fun c32 => ?_) (fun c32 => ?_)
          · skip
            have b33 := if10_p c32
            obtain ⟨ii, hii, rfl⟩ : ∃ j : Nat, j < 10 ∧ i = nI j := by
              have t_b5 := b5
              have t_b27 := b27
              have t_c28 := eqI c28
              have t_c29 := eqI c29
              have t_b33 := b33
              have : ((-4) : Int32).toInt = -4 := qI_m4
              have : (0 : Int32).toInt = 0 := qI_0
              have t_n0 : (nI N).toInt = (N : Int) := tn1232_ ()
              have t_n1 : (nI B).toInt = (B : Int) := tn1233_ ()
              have t_n2 : (nI T).toInt = (T : Int) := tn1234_ ()
              have t_n3 : (nI S).toInt = (S : Int) := tn1235_ ()
              have t_n4 : (nI M).toInt = (M : Int) := tn1236_ ()
              exact i32_nat (by omega) (by omega)
            obtain ⟨dd, hdd, rfl⟩ : ∃ j : Nat, j < 10 ∧ d = nI j := by
              have t_b5 := b5
              have t_b27 := b27
              have t_c28 := eqI c28
              have t_c29 := eqI c29
              have t_b33 := b33
              have t_hii := hii
              have : ((-4) : Int32).toInt = -4 := qI_m4
              have : (0 : Int32).toInt = 0 := qI_0
              have t_n0 : (nI N).toInt = (N : Int) := tn1232_ ()
              have t_n1 : (nI B).toInt = (B : Int) := tn1233_ ()
              have t_n2 : (nI T).toInt = (T : Int) := tn1234_ ()
              have t_n3 : (nI S).toInt = (S : Int) := tn1235_ ()
              have t_n4 : (nI M).toInt = (M : Int) := tn1236_ ()
              have tn1244_ : nIT ii := fun _ => nI_toInt (by omega)
              have t_n5 : (nI ii).toInt = (ii : Int) := tn1244_ ()
              exact i32_nat (by omega) (by omega)
            by_cases ha34 : g = -4
            · skip
              subst ha34
              refine lv_aload_n hx hb dX11_next_40 rfl (lv_at hl 0 rfl) ?_
              refine lv_bipush (v := (-4)) hx hb dX11_next_41 rfl ?_
              obtain ⟨hPc, hDc, hFc⟩ := va_sub3 (ws' := [(h0, .inr (11, [.ref st, .int (nI N), .int (nI B), .ref rp, .int vrs, .int vrb, .int vhs, .int vca, .int vxs, .int vxb, .ref tp, .int (nI T), .int vfa, .int vbr, .int vba, .int vsp, .int vhe, .int vtk, .int vva, .ref cu, .ref lt, .ref od, .ref th, .ref be, .ref ln, .int (nI S), .ref ma, .int (nI M), .ref ah, .ref bh, .ref ik, .ref la, .ref lg, .ref ce, .int vto])), (st, .inl (G 0, 196, .inl fst)), (be, .inl (G 1, 770, .inr (.inl fbe)))]) hP hD hS hA [0, 1, 2] (by decide) rfl
              have tn1245_ : nIT ii := fun _ => nI_toInt (by first | omega | (have t_b5 := b5; have t_b27 := b27; have t_c28 := eqI c28; have t_c29 := eqI c29; have t_b33 := b33; have t_hii := hii; have t_hdd := hdd; have : ((-4) : Int32).toInt = -4 := qI_m4; have : (0 : Int32).toInt = 0 := qI_0; omega))
              have tn1246_ : nIT dd := fun _ => nI_toInt (by first | omega | (have t_b5 := b5; have t_b27 := b27; have t_c28 := eqI c28; have t_c29 := eqI c29; have t_b33 := b33; have t_hii := hii; have t_hdd := hdd; have : ((-4) : Int32).toInt = -4 := qI_m4; have : (0 : Int32).toInt = 0 := qI_0; omega))
              refine va_callv (va_runV (As := [.int (-4)]) (rest := []) ⟨hx, hb, hml, hown, hg⟩ (c_X11_layBestN l dC dI G _ h0 st N B rp tp T cu lt od th be ln S ma M ah bh ik la lg ce vrs vrb vhs vca vxs vxb vfa vbr vba vsp vhe vtk vva vto fst fbe hN hB_ hT_ hS0 hM_ hst hNB) (kwV hg mfX11_layBest wt_1150 ⟨Nat.le_of_ble_eq_true rfl, Nat.le_of_ble_eq_true rfl⟩) (preVW hK hPc hDc (ci := 11) rfl rfl) rfl rfl hl.1 rfl (lv_room (Nat.le_of_ble_eq_true rfl)) dX11_next_43 ⟨Nat.le_of_ble_eq_true rfl, Nat.le_of_ble_eq_true rfl⟩) hS (fun q _ h => hFc q h) hFc (fun ur35 t H1 locs ht hvm w36 hB hz1 hk1 hS => ?_)
              obtain ⟨u37, rfl⟩ : ∃ z, z = ur35 := ⟨_, rfl⟩
              obtain ⟨hP1, hD1⟩ := hB
              rw [ht] at hP1
              obtain ⟨hP, hD⟩ := va_join (wr := []) (w1 := [(h0, .inr (11, [.ref st, .int (nI N), .int (nI B), .ref rp, .int vrs, .int vrb, .int vhs, .int vca, .int vxs, .int vxb, .ref tp, .int (nI T), .int vfa, .int vbr, .int vba, .int vsp, .int vhe, .int vtk, .int vva, .ref cu, .ref lt, .ref od, .ref th, .ref be, .ref ln, .int (nI S), .ref ma, .int (nI M), .ref ah, .ref bh, .ref ik, .ref la, .ref lg, .ref ce, .int vto])), (st, .inl (G 0, 196, .inl fst)), (be, .inl (G 1, 770, .inr (.inl u37)))]) hP hD [0, 1, 2] [] rfl rfl (by decide) (by decide) hk1 hFc hP1 hD1
              have w36 : RI fst N B 0 u37 := w36
              generalize H1 = H at hP hS ⊢
              refine lv_iconst (v := 0) hx hb dX11_next_46 rfl ?_
              refine lv_istore (lv' := [(4, .int 0), (0, .ref h0), (1, .int (nI ii)), (2, .int (-4)), (3, .int (nI dd))]) hx hb dX11_next_47 hl (by decide) rfl (fun ls hl => ?_)
              have loop49_39 : ∀ (nf j38 : Nat), B + 1 ≤ j38 + nf → j38 ≤ B → ∀ (H : Heap) (locs : List Loc), (∃ b9 : Nat, j38 ≤ b9 ∧ b9 < B ∧ b1N fst u37 ii dd b9 = u37 (70 * ii + dd)) → va_P (dC, dI) vwCl [(h0, .inr (11, [.ref st, .int (nI N), .int (nI B), .ref rp, .int vrs, .int vrb, .int vhs, .int vca, .int vxs, .int vxb, .ref tp, .int (nI T), .int vfa, .int vbr, .int vba, .int vsp, .int vhe, .int vtk, .int vva, .ref cu, .ref lt, .ref od, .ref th, .ref be, .ref ln, .int (nI S), .ref ma, .int (nI M), .ref ah, .ref bh, .ref ik, .ref la, .ref lg, .ref ce, .int vto])), (st, .inl (G 0, 196, .inl fst)), (be, .inl (G 1, 770, .inr (.inl u37)))] H → va_D A [(h0, .inr (11, [.ref st, .int (nI N), .int (nI B), .ref rp, .int vrs, .int vrb, .int vhs, .int vca, .int vxs, .int vxb, .ref tp, .int (nI T), .int vfa, .int vbr, .int vba, .int vsp, .int vhe, .int vtk, .int vva, .ref cu, .ref lt, .ref od, .ref th, .ref be, .ref ln, .int (nI S), .ref ma, .int (nI M), .ref ah, .ref bh, .ref ik, .ref la, .ref lg, .ref ce, .int vto])), (st, .inl (G 0, 196, .inl fst)), (be, .inl (G 1, 770, .inr (.inl u37)))] → va_S A s.heap H locs → ∀ (ls : Array Slot), lv_has ls 5 [(4, .int (nI j38)), (0, .ref h0), (1, .int (nI ii)), (2, .int (-4)), (3, .int (nI dd))] → W p l e (headSpec (Cond.code yX11_next cX11_next 5 (some .int) :: GT) ({ frames := 4, cells := 0, slots := 0, locals := 102 } : Room)).room s m ([.ref h0, .int (nI ii), .int ((-4) : Int32), .int (nI dd)] : List Value).toArray below meth c H locs 0 0 (MQ below (va_Qi (fun (r : Int32) (u : (Nat → Int64)) => match u with | obe => (True) ∧ True) (fun (u : (Nat → Int64)) (t : State) => match u with | obe => va_P (dC, dI) vwCl [(h0, .inr (11, [.ref st, .int (nI N), .int (nI B), .ref rp, .int vrs, .int vrb, .int vhs, .int vca, .int vxs, .int vxb, .ref tp, .int (nI T), .int vfa, .int vbr, .int vba, .int vsp, .int vhe, .int vtk, .int vva, .ref cu, .ref lt, .ref od, .ref th, .ref be, .ref ln, .int (nI S), .ref ma, .int (nI M), .ref ah, .ref bh, .ref ik, .ref la, .ref lg, .ref ce, .int vto])), (st, .inl (G 0, 196, .inl fst)), (be, .inl (G 1, 770, .inr (.inl obe)))] t.heap ∧ va_D A [(h0, .inr (11, [.ref st, .int (nI N), .int (nI B), .ref rp, .int vrs, .int vrb, .int vhs, .int vca, .int vxs, .int vxb, .ref tp, .int (nI T), .int vfa, .int vbr, .int vba, .int vsp, .int vhe, .int vtk, .int vva, .ref cu, .ref lt, .ref od, .ref th, .ref be, .ref ln, .int (nI S), .ref ma, .int (nI M), .ref ah, .ref bh, .ref ik, .ref la, .ref lg, .ref ce, .int vto])), (st, .inl (G 0, 196, .inl fst)), (be, .inl (G 1, 770, .inr (.inl obe)))]) A) ([.ref h0, .int (nI ii), .int ((-4) : Int32), .int (nI dd)] : List Value).toArray s 0 0 A) (F0 m 49 ls []) := by
                intro nf
                induction nf with
                | zero => intro j38 h1 h2; exact absurd h1 (by omega)
                | succ nf ih49_39 =>
                  intro j38 hn40 hj41  H locs hinv hP hD hS ls hl
                  refine lv_aload_n hx hb dX11_next_49 rfl (lv_at hl 1 rfl) ?_
                  have hjB := nx_lt hinv
                  refine lv_iload_n hx hb dX11_next_50 rfl (lv_at hl 2 rfl) ?_
                  refine lv_iload_n hx hb dX11_next_51 rfl (lv_at hl 3 rfl) ?_
                  refine lv_iload_n hx hb dX11_next_52 rfl (lv_at hl 4 rfl) ?_
                  refine lv_iload hx hb dX11_next_53 (lv_at hl 0 rfl) ?_
                  have hPc := hP.sub (ws' := [(h0, .inr (11, [.ref st, .int (nI N), .int (nI B), .ref rp, .int vrs, .int vrb, .int vhs, .int vca, .int vxs, .int vxb, .ref tp, .int (nI T), .int vfa, .int vbr, .int vba, .int vsp, .int vhe, .int vtk, .int vva, .ref cu, .ref lt, .ref od, .ref th, .ref be, .ref ln, .int (nI S), .ref ma, .int (nI M), .ref ah, .ref bh, .ref ik, .ref la, .ref lg, .ref ce, .int vto])), (st, .inl (G 0, 196, .inl fst)), (be, .inl (G 1, 770, .inr (.inl u37)))]) [0, 1, 2] rfl
                  have tn1247_ : nIT j38 := fun _ => nI_toInt (by first | omega | (have t_b5 := b5; have t_b27 := b27; have t_c28 := eqI c28; have t_c29 := eqI c29; have t_b33 := b33; have t_hii := hii; have t_hdd := hdd; have t_hj41 := hj41; have t_hinvf := (nx_lt hinv); have : ((-4) : Int32).toInt = -4 := qI_m4; have : (0 : Int32).toInt = 0 := qI_0; omega))
                  refine va_calll (va_runV (As := [.int (nI ii), .int (-4), .int (nI dd), .int (nI j38)]) (rest := []) ⟨hx, hb, hml, hown, hg⟩ (c_X11_byOneN l dC dI G _ h0 ii dd j38 st N B rp tp T cu lt od th be ln S ma M ah bh ik la lg ce vrs vrb vhs vca vxs vxb vfa vbr vba vsp vhe vtk vva vto fst u37 hN hB_ hT_ hS0 hM_ (by first | omega | (have t_b5 := b5; have t_b27 := b27; have t_c28 := eqI c28; have t_c29 := eqI c29; have t_b33 := b33; have t_hii := hii; have t_hdd := hdd; have t_hj41 := hj41; have t_hinvf := (nx_lt hinv); have : ((-4) : Int32).toInt = -4 := qI_m4; have : (0 : Int32).toInt = 0 := qI_0; have t_n0 : (nI N).toInt = (N : Int) := tn1232_ (); have t_n1 : (nI B).toInt = (B : Int) := tn1233_ (); have t_n2 : (nI T).toInt = (T : Int) := tn1234_ (); have t_n3 : (nI S).toInt = (S : Int) := tn1235_ (); have t_n4 : (nI M).toInt = (M : Int) := tn1236_ (); have t_n5 : (nI ii).toInt = (ii : Int) := tn1245_ (); have t_n6 : (nI dd).toInt = (dd : Int) := tn1246_ (); have t_n7 : (nI j38).toInt = (j38 : Int) := tn1247_ (); have : ((-4) : Int32).toInt = -4 := qI_m4; omega)) (by first | omega | (have t_b5 := b5; have t_b27 := b27; have t_c28 := eqI c28; have t_c29 := eqI c29; have t_b33 := b33; have t_hii := hii; have t_hdd := hdd; have t_hj41 := hj41; have t_hinvf := (nx_lt hinv); have : ((-4) : Int32).toInt = -4 := qI_m4; have : (0 : Int32).toInt = 0 := qI_0; have t_n0 : (nI N).toInt = (N : Int) := tn1232_ (); have t_n1 : (nI B).toInt = (B : Int) := tn1233_ (); have t_n2 : (nI T).toInt = (T : Int) := tn1234_ (); have t_n3 : (nI S).toInt = (S : Int) := tn1235_ (); have t_n4 : (nI M).toInt = (M : Int) := tn1236_ (); have t_n5 : (nI ii).toInt = (ii : Int) := tn1245_ (); have t_n6 : (nI dd).toInt = (dd : Int) := tn1246_ (); have t_n7 : (nI j38).toInt = (j38 : Int) := tn1247_ (); have : ((-4) : Int32).toInt = -4 := qI_m4; omega)) (by first | omega | (have t_b5 := b5; have t_b27 := b27; have t_c28 := eqI c28; have t_c29 := eqI c29; have t_b33 := b33; have t_hii := hii; have t_hdd := hdd; have t_hj41 := hj41; have t_hinvf := (nx_lt hinv); have : ((-4) : Int32).toInt = -4 := qI_m4; have : (0 : Int32).toInt = 0 := qI_0; have t_n0 : (nI N).toInt = (N : Int) := tn1232_ (); have t_n1 : (nI B).toInt = (B : Int) := tn1233_ (); have t_n2 : (nI T).toInt = (T : Int) := tn1234_ (); have t_n3 : (nI S).toInt = (S : Int) := tn1235_ (); have t_n4 : (nI M).toInt = (M : Int) := tn1236_ (); have t_n5 : (nI ii).toInt = (ii : Int) := tn1245_ (); have t_n6 : (nI dd).toInt = (dd : Int) := tn1246_ (); have t_n7 : (nI j38).toInt = (j38 : Int) := tn1247_ (); have : ((-4) : Int32).toInt = -4 := qI_m4; omega))) (kwV hg mfX11_byOne wt_1155 ⟨Nat.le_of_ble_eq_true rfl, Nat.le_of_ble_eq_true rfl⟩) (preVR hK hPc (ci := 11) rfl rfl) rfl rfl hl.1 rfl (lv_room (Nat.le_of_ble_eq_true rfl)) dX11_next_55 ⟨Nat.le_of_ble_eq_true rfl, Nat.le_of_ble_eq_true rfl⟩) hS (fun q h1 h2 => absurd h2 (Nat.not_le.mpr h1)) (fun q h => hA q (Nat.le_trans hS.1 h)) (fun r42 ur42 t H1 locs ht hvm w43 hB hz1 hk1 hS => ?_)
                  have hP := keepR hP hk1
                  obtain ⟨w43, w43x⟩ := w43
                  subst w43
                  refine lv_aload_n hx hb dX11_next_58 rfl (lv_at hl 1 rfl) ?_
                  refine va_get (D := (dC, dI)) (ci := 11) (v := .ref be) (C := RX11) (T := TX11) (N := 35) hx hb hg inG11 hown hK.1 hP 0 rfl rfl 23 (Nat.le_of_ble_eq_true rfl) (hg _ wt_901) (fun _ h9 => h9) rfl dX11_next_59 ?_
                  refine lv_iload_n hx hb dX11_next_62 rfl (lv_at hl 2 rfl) ?_
                  refine lv_iload_n hx hb dX11_next_63 rfl (lv_at hl 3 rfl) ?_
                  refine lv_iload_n hx hb dX11_next_64 rfl (lv_at hl 4 rfl) ?_
                  have hPc := hP.sub (ws' := []) [] rfl
                  refine va_calli (va_runS (As := [.int (nI ii), .int (-4), .int (nI dd)]) (rest := [.ref be, .long (b1N fst u37 ii dd j38)]) ⟨hx, hb, hml, hown, hg⟩ (c_X11_bestAtN l dC dI G _ ii dd (by first | omega | (have t_b5 := b5; have t_b27 := b27; have t_c28 := eqI c28; have t_c29 := eqI c29; have t_b33 := b33; have t_hii := hii; have t_hdd := hdd; have t_hj41 := hj41; have t_hinvf := (nx_lt hinv); have : ((-4) : Int32).toInt = -4 := qI_m4; have : (0 : Int32).toInt = 0 := qI_0; have t_n0 : (nI N).toInt = (N : Int) := tn1232_ (); have t_n1 : (nI B).toInt = (B : Int) := tn1233_ (); have t_n2 : (nI T).toInt = (T : Int) := tn1234_ (); have t_n3 : (nI S).toInt = (S : Int) := tn1235_ (); have t_n4 : (nI M).toInt = (M : Int) := tn1236_ (); have t_n5 : (nI ii).toInt = (ii : Int) := tn1245_ (); have t_n6 : (nI dd).toInt = (dd : Int) := tn1246_ (); have t_n7 : (nI j38).toInt = (j38 : Int) := tn1247_ (); have : ((-4) : Int32).toInt = -4 := qI_m4; omega)) (by first | omega | (have t_b5 := b5; have t_b27 := b27; have t_c28 := eqI c28; have t_c29 := eqI c29; have t_b33 := b33; have t_hii := hii; have t_hdd := hdd; have t_hj41 := hj41; have t_hinvf := (nx_lt hinv); have : ((-4) : Int32).toInt = -4 := qI_m4; have : (0 : Int32).toInt = 0 := qI_0; have t_n0 : (nI N).toInt = (N : Int) := tn1232_ (); have t_n1 : (nI B).toInt = (B : Int) := tn1233_ (); have t_n2 : (nI T).toInt = (T : Int) := tn1234_ (); have t_n3 : (nI S).toInt = (S : Int) := tn1235_ (); have t_n4 : (nI M).toInt = (M : Int) := tn1236_ (); have t_n5 : (nI ii).toInt = (ii : Int) := tn1245_ (); have t_n6 : (nI dd).toInt = (dd : Int) := tn1246_ (); have t_n7 : (nI j38).toInt = (j38 : Int) := tn1247_ (); have : ((-4) : Int32).toInt = -4 := qI_m4; omega))) (kwS hg mfX11_bestAt wt_1159 ⟨Nat.le_of_ble_eq_true rfl, Nat.le_of_ble_eq_true rfl⟩) (preSR hK hPc) rfl rfl hl.1 rfl (lv_room (Nat.le_of_ble_eq_true rfl)) dX11_next_65 ⟨Nat.le_of_ble_eq_true rfl, Nat.le_of_ble_eq_true rfl⟩) hS (fun q h1 h2 => absurd h2 (Nat.not_le.mpr h1)) (fun q h => hA q (Nat.le_trans hS.1 h)) (fun r44 ur44 t H1 locs ht hvm w45 hB hz1 hk1 hS => ?_)
                  have hP := keepR hP hk1
                  obtain ⟨w45, w45x⟩ := w45
                  subst w45
                  refine va_lald hx hb hK.1 hP 2 1 rfl rfl (vp_in_nI (by first | omega | (have t_b5 := b5; have t_b27 := b27; have t_c28 := eqI c28; have t_c29 := eqI c29; have t_b33 := b33; have t_hii := hii; have t_hdd := hdd; have t_hj41 := hj41; have t_hinvf := (nx_lt hinv); have : ((-4) : Int32).toInt = -4 := qI_m4; have : (0 : Int32).toInt = 0 := qI_0; have t_n0 : (nI N).toInt = (N : Int) := tn1232_ (); have t_n1 : (nI B).toInt = (B : Int) := tn1233_ (); have t_n2 : (nI T).toInt = (T : Int) := tn1234_ (); have t_n3 : (nI S).toInt = (S : Int) := tn1235_ (); have t_n4 : (nI M).toInt = (M : Int) := tn1236_ (); have t_n5 : (nI ii).toInt = (ii : Int) := tn1245_ (); have t_n6 : (nI dd).toInt = (dd : Int) := tn1246_ (); have t_n7 : (nI j38).toInt = (j38 : Int) := tn1247_ (); omega)) (by decide)) dX11_next_68 ?_
                  refine lv_cgl (y := u37 (70 * ii + dd)) (by rw [nI_clamp (by omega)]) ?_
                  refine W.lcmp hx hb dX11_next_69 ?_
                  refine lv_if_eq (tgt := 79) hx hb dX11_next_70 rfl (fun c46 => ?_) (fun c46 => ?_)
                  · skip
                    refine lv_iload hx hb dX11_next_79 (lv_at hl 0 rfl) ?_
                    have hpost : True := by
                      trivial
                    obtain ⟨hP9, hD9⟩ := va_sub2 (ws' := [(h0, .inr (11, [.ref st, .int (nI N), .int (nI B), .ref rp, .int vrs, .int vrb, .int vhs, .int vca, .int vxs, .int vxb, .ref tp, .int (nI T), .int vfa, .int vbr, .int vba, .int vsp, .int vhe, .int vtk, .int vva, .ref cu, .ref lt, .ref od, .ref th, .ref be, .ref ln, .int (nI S), .ref ma, .int (nI M), .ref ah, .ref bh, .ref ik, .ref la, .ref lg, .ref ce, .int vto])), (st, .inl (G 0, 196, .inl fst)), (be, .inl (G 1, 770, .inr (.inl u37)))]) hP hD [0, 1, 2] (by decide) rfl
                    refine W.widen (k := 0) (n := 0) (Nat.le_of_ble_eq_true rfl) (Nat.le_of_ble_eq_true rfl) ?_
                    exact W.iret (v := nI j38) hx hb hr (fun t ht hW => ⟨⟨nI j38, u37, rfl, ⟨hpost, trivial⟩, ⟨by rw [ht]; exact hP9, hD9⟩⟩, hS.F ht⟩) hS.2.2 dX11_next_81
                  · skip
                    refine lv_iinc (v := nI (j38 + 1)) (lv' := [(4, .int (nI (j38 + 1))), (0, .ref h0), (1, .int (nI ii)), (2, .int (-4)), (3, .int (nI dd))]) hx hb dX11_next_73 hl (k := 0) rfl (by rw [show Int32.ofInt 1 = nI 1 from by decide]; exact nI_add _ _) (by decide) rfl (fun ls hl => ?_)
                    refine lv_goto (tgt := 49) hx hb dX11_next_76 rfl ?_
                    exact ih49_39 (j38 + 1) (by omega) (by omega)  _ _ (nx_step hinv (lcm_eq_f c46)) hP hD hS ls (lv_sub hl [0, 1, 2, 3, 4] rfl)
              exact loop49_39 (B + 1) 0 (by omega) (by omega)  _ _ (RI.getN w36 (by have t_b5 := b5; have t_b27 := b27; have t_c28 := eqI c28; have t_c29 := eqI c29; have t_b33 := b33; have t_hii := hii; have t_hdd := hdd; have : ((-4) : Int32).toInt = -4 := qI_m4; have : (0 : Int32).toInt = 0 := qI_0; have t_n0 : (nI N).toInt = (N : Int) := tn1232_ (); have t_n1 : (nI B).toInt = (B : Int) := tn1233_ (); have t_n2 : (nI T).toInt = (T : Int) := tn1234_ (); have t_n3 : (nI S).toInt = (S : Int) := tn1235_ (); have t_n4 : (nI M).toInt = (M : Int) := tn1236_ (); have t_n5 : (nI ii).toInt = (ii : Int) := tn1245_ (); have t_n6 : (nI dd).toInt = (dd : Int) := tn1246_ (); omega) (by have t_b5 := b5; have t_b27 := b27; have t_c28 := eqI c28; have t_c29 := eqI c29; have t_b33 := b33; have t_hii := hii; have t_hdd := hdd; have : ((-4) : Int32).toInt = -4 := qI_m4; have : (0 : Int32).toInt = 0 := qI_0; have t_n0 : (nI N).toInt = (N : Int) := tn1232_ (); have t_n1 : (nI B).toInt = (B : Int) := tn1233_ (); have t_n2 : (nI T).toInt = (T : Int) := tn1234_ (); have t_n3 : (nI S).toInt = (S : Int) := tn1235_ (); have t_n4 : (nI M).toInt = (M : Int) := tn1236_ (); have t_n5 : (nI ii).toInt = (ii : Int) := tn1245_ (); have t_n6 : (nI dd).toInt = (dd : Int) := tn1246_ (); omega) (by have t_b5 := b5; have t_b27 := b27; have t_c28 := eqI c28; have t_c29 := eqI c29; have t_b33 := b33; have t_hii := hii; have t_hdd := hdd; have : ((-4) : Int32).toInt = -4 := qI_m4; have : (0 : Int32).toInt = 0 := qI_0; have t_n0 : (nI N).toInt = (N : Int) := tn1232_ (); have t_n1 : (nI B).toInt = (B : Int) := tn1233_ (); have t_n2 : (nI T).toInt = (T : Int) := tn1234_ (); have t_n3 : (nI S).toInt = (S : Int) := tn1235_ (); have t_n4 : (nI M).toInt = (M : Int) := tn1236_ (); have t_n5 : (nI ii).toInt = (ii : Int) := tn1245_ (); have t_n6 : (nI dd).toInt = (dd : Int) := tn1246_ (); omega)) hP hD hS ls (lv_sub hl [0, 1, 2, 3, 4] rfl)
            · skip
              obtain ⟨gg, hgg, rfl⟩ : ∃ j : Nat, j < 6 ∧ g = nI j := by
                have t_b5 := b5
                have t_b27 := b27
                have t_c28 := eqI c28
                have t_c29 := eqI c29
                have t_b33 := b33
                have t_hii := hii
                have t_hdd := hdd
                have t_ha34 := neI ha34
                have : ((-4) : Int32).toInt = -4 := qI_m4
                have : (0 : Int32).toInt = 0 := qI_0
                have t_n0 : (nI N).toInt = (N : Int) := tn1232_ ()
                have t_n1 : (nI B).toInt = (B : Int) := tn1233_ ()
                have t_n2 : (nI T).toInt = (T : Int) := tn1234_ ()
                have t_n3 : (nI S).toInt = (S : Int) := tn1235_ ()
                have t_n4 : (nI M).toInt = (M : Int) := tn1236_ ()
                have tn1248_ : nIT ii := fun _ => nI_toInt (by omega)
                have t_n5 : (nI ii).toInt = (ii : Int) := tn1248_ ()
                have tn1249_ : nIT dd := fun _ => nI_toInt (by omega)
                have t_n6 : (nI dd).toInt = (dd : Int) := tn1249_ ()
                exact i32_nat (by omega) (by omega)
              refine lv_aload_n hx hb dX11_next_40 rfl (lv_at hl 0 rfl) ?_
              refine lv_bipush (v := (-4)) hx hb dX11_next_41 rfl ?_
              obtain ⟨hPc, hDc, hFc⟩ := va_sub3 (ws' := [(h0, .inr (11, [.ref st, .int (nI N), .int (nI B), .ref rp, .int vrs, .int vrb, .int vhs, .int vca, .int vxs, .int vxb, .ref tp, .int (nI T), .int vfa, .int vbr, .int vba, .int vsp, .int vhe, .int vtk, .int vva, .ref cu, .ref lt, .ref od, .ref th, .ref be, .ref ln, .int (nI S), .ref ma, .int (nI M), .ref ah, .ref bh, .ref ik, .ref la, .ref lg, .ref ce, .int vto])), (st, .inl (G 0, 196, .inl fst)), (be, .inl (G 1, 770, .inr (.inl fbe)))]) hP hD hS hA [0, 1, 2] (by decide) rfl
              have tn1250_ : nIT ii := fun _ => nI_toInt (by first | omega | (have t_b5 := b5; have t_b27 := b27; have t_c28 := eqI c28; have t_c29 := eqI c29; have t_b33 := b33; have t_hii := hii; have t_hdd := hdd; have t_ha34 := neI ha34; have t_hgg := hgg; have : ((-4) : Int32).toInt = -4 := qI_m4; have : (0 : Int32).toInt = 0 := qI_0; omega))
              have tn1251_ : nIT dd := fun _ => nI_toInt (by first | omega | (have t_b5 := b5; have t_b27 := b27; have t_c28 := eqI c28; have t_c29 := eqI c29; have t_b33 := b33; have t_hii := hii; have t_hdd := hdd; have t_ha34 := neI ha34; have t_hgg := hgg; have : ((-4) : Int32).toInt = -4 := qI_m4; have : (0 : Int32).toInt = 0 := qI_0; omega))
              have tn1252_ : nIT gg := fun _ => nI_toInt (by first | omega | (have t_b5 := b5; have t_b27 := b27; have t_c28 := eqI c28; have t_c29 := eqI c29; have t_b33 := b33; have t_hii := hii; have t_hdd := hdd; have t_ha34 := neI ha34; have t_hgg := hgg; have : ((-4) : Int32).toInt = -4 := qI_m4; have : (0 : Int32).toInt = 0 := qI_0; omega))
              refine va_callv (va_runV (As := [.int (-4)]) (rest := []) ⟨hx, hb, hml, hown, hg⟩ (c_X11_layBestN l dC dI G _ h0 st N B rp tp T cu lt od th be ln S ma M ah bh ik la lg ce vrs vrb vhs vca vxs vxb vfa vbr vba vsp vhe vtk vva vto fst fbe hN hB_ hT_ hS0 hM_ hst hNB) (kwV hg mfX11_layBest wt_1150 ⟨Nat.le_of_ble_eq_true rfl, Nat.le_of_ble_eq_true rfl⟩) (preVW hK hPc hDc (ci := 11) rfl rfl) rfl rfl hl.1 rfl (lv_room (Nat.le_of_ble_eq_true rfl)) dX11_next_43 ⟨Nat.le_of_ble_eq_true rfl, Nat.le_of_ble_eq_true rfl⟩) hS (fun q _ h => hFc q h) hFc (fun ur47 t H1 locs ht hvm w48 hB hz1 hk1 hS => ?_)
              obtain ⟨u49, rfl⟩ : ∃ z, z = ur47 := ⟨_, rfl⟩
              obtain ⟨hP1, hD1⟩ := hB
              rw [ht] at hP1
              obtain ⟨hP, hD⟩ := va_join (wr := []) (w1 := [(h0, .inr (11, [.ref st, .int (nI N), .int (nI B), .ref rp, .int vrs, .int vrb, .int vhs, .int vca, .int vxs, .int vxb, .ref tp, .int (nI T), .int vfa, .int vbr, .int vba, .int vsp, .int vhe, .int vtk, .int vva, .ref cu, .ref lt, .ref od, .ref th, .ref be, .ref ln, .int (nI S), .ref ma, .int (nI M), .ref ah, .ref bh, .ref ik, .ref la, .ref lg, .ref ce, .int vto])), (st, .inl (G 0, 196, .inl fst)), (be, .inl (G 1, 770, .inr (.inl u49)))]) hP hD [0, 1, 2] [] rfl rfl (by decide) (by decide) hk1 hFc hP1 hD1
              have w48 : RI fst N B 0 u49 := w48
              generalize H1 = H at hP hS ⊢
              refine lv_iconst (v := 0) hx hb dX11_next_46 rfl ?_
              refine lv_istore (lv' := [(4, .int 0), (0, .ref h0), (1, .int (nI ii)), (2, .int (nI gg)), (3, .int (nI dd))]) hx hb dX11_next_47 hl (by decide) rfl (fun ls hl => ?_)
              have loop49_51 : ∀ (nf j50 : Nat), B + 1 ≤ j50 + nf → j50 ≤ B → ∀ (H : Heap) (locs : List Loc), (∃ b9 : Nat, j50 ≤ b9 ∧ b9 < B ∧ b1B fst u49 ii gg dd b9 = u49 (70 * ii + 10 * (gg + 1) + dd)) → va_P (dC, dI) vwCl [(h0, .inr (11, [.ref st, .int (nI N), .int (nI B), .ref rp, .int vrs, .int vrb, .int vhs, .int vca, .int vxs, .int vxb, .ref tp, .int (nI T), .int vfa, .int vbr, .int vba, .int vsp, .int vhe, .int vtk, .int vva, .ref cu, .ref lt, .ref od, .ref th, .ref be, .ref ln, .int (nI S), .ref ma, .int (nI M), .ref ah, .ref bh, .ref ik, .ref la, .ref lg, .ref ce, .int vto])), (st, .inl (G 0, 196, .inl fst)), (be, .inl (G 1, 770, .inr (.inl u49)))] H → va_D A [(h0, .inr (11, [.ref st, .int (nI N), .int (nI B), .ref rp, .int vrs, .int vrb, .int vhs, .int vca, .int vxs, .int vxb, .ref tp, .int (nI T), .int vfa, .int vbr, .int vba, .int vsp, .int vhe, .int vtk, .int vva, .ref cu, .ref lt, .ref od, .ref th, .ref be, .ref ln, .int (nI S), .ref ma, .int (nI M), .ref ah, .ref bh, .ref ik, .ref la, .ref lg, .ref ce, .int vto])), (st, .inl (G 0, 196, .inl fst)), (be, .inl (G 1, 770, .inr (.inl u49)))] → va_S A s.heap H locs → ∀ (ls : Array Slot), lv_has ls 5 [(4, .int (nI j50)), (0, .ref h0), (1, .int (nI ii)), (2, .int (nI gg)), (3, .int (nI dd))] → W p l e (headSpec (Cond.code yX11_next cX11_next 5 (some .int) :: GT) ({ frames := 4, cells := 0, slots := 0, locals := 102 } : Room)).room s m ([.ref h0, .int (nI ii), .int (nI gg), .int (nI dd)] : List Value).toArray below meth c H locs 0 0 (MQ below (va_Qi (fun (r : Int32) (u : (Nat → Int64)) => match u with | obe => (True) ∧ True) (fun (u : (Nat → Int64)) (t : State) => match u with | obe => va_P (dC, dI) vwCl [(h0, .inr (11, [.ref st, .int (nI N), .int (nI B), .ref rp, .int vrs, .int vrb, .int vhs, .int vca, .int vxs, .int vxb, .ref tp, .int (nI T), .int vfa, .int vbr, .int vba, .int vsp, .int vhe, .int vtk, .int vva, .ref cu, .ref lt, .ref od, .ref th, .ref be, .ref ln, .int (nI S), .ref ma, .int (nI M), .ref ah, .ref bh, .ref ik, .ref la, .ref lg, .ref ce, .int vto])), (st, .inl (G 0, 196, .inl fst)), (be, .inl (G 1, 770, .inr (.inl obe)))] t.heap ∧ va_D A [(h0, .inr (11, [.ref st, .int (nI N), .int (nI B), .ref rp, .int vrs, .int vrb, .int vhs, .int vca, .int vxs, .int vxb, .ref tp, .int (nI T), .int vfa, .int vbr, .int vba, .int vsp, .int vhe, .int vtk, .int vva, .ref cu, .ref lt, .ref od, .ref th, .ref be, .ref ln, .int (nI S), .ref ma, .int (nI M), .ref ah, .ref bh, .ref ik, .ref la, .ref lg, .ref ce, .int vto])), (st, .inl (G 0, 196, .inl fst)), (be, .inl (G 1, 770, .inr (.inl obe)))]) A) ([.ref h0, .int (nI ii), .int (nI gg), .int (nI dd)] : List Value).toArray s 0 0 A) (F0 m 49 ls []) := by
                intro nf
                induction nf with
                | zero => intro j50 h1 h2; exact absurd h1 (by omega)
                | succ nf ih49_51 =>
                  intro j50 hn52 hj53  H locs hinv hP hD hS ls hl
                  refine lv_aload_n hx hb dX11_next_49 rfl (lv_at hl 1 rfl) ?_
                  have hjB := nx_lt hinv
                  refine lv_iload_n hx hb dX11_next_50 rfl (lv_at hl 2 rfl) ?_
                  refine lv_iload_n hx hb dX11_next_51 rfl (lv_at hl 3 rfl) ?_
                  refine lv_iload_n hx hb dX11_next_52 rfl (lv_at hl 4 rfl) ?_
                  refine lv_iload hx hb dX11_next_53 (lv_at hl 0 rfl) ?_
                  have hPc := hP.sub (ws' := [(h0, .inr (11, [.ref st, .int (nI N), .int (nI B), .ref rp, .int vrs, .int vrb, .int vhs, .int vca, .int vxs, .int vxb, .ref tp, .int (nI T), .int vfa, .int vbr, .int vba, .int vsp, .int vhe, .int vtk, .int vva, .ref cu, .ref lt, .ref od, .ref th, .ref be, .ref ln, .int (nI S), .ref ma, .int (nI M), .ref ah, .ref bh, .ref ik, .ref la, .ref lg, .ref ce, .int vto])), (st, .inl (G 0, 196, .inl fst)), (be, .inl (G 1, 770, .inr (.inl u49)))]) [0, 1, 2] rfl
                  have tn1253_ : nIT j50 := fun _ => nI_toInt (by first | omega | (have t_b5 := b5; have t_b27 := b27; have t_c28 := eqI c28; have t_c29 := eqI c29; have t_b33 := b33; have t_hii := hii; have t_hdd := hdd; have t_ha34 := neI ha34; have t_hgg := hgg; have t_hj53 := hj53; have t_hinvf := (nx_lt hinv); have : ((-4) : Int32).toInt = -4 := qI_m4; have : (0 : Int32).toInt = 0 := qI_0; omega))
                  refine va_calll (va_runV (As := [.int (nI ii), .int (nI gg), .int (nI dd), .int (nI j50)]) (rest := []) ⟨hx, hb, hml, hown, hg⟩ (c_X11_byOneB l dC dI G _ h0 ii gg dd j50 st N B rp tp T cu lt od th be ln S ma M ah bh ik la lg ce vrs vrb vhs vca vxs vxb vfa vbr vba vsp vhe vtk vva vto fst u49 hN hB_ hT_ hS0 hM_ (by first | omega | (have t_b5 := b5; have t_b27 := b27; have t_c28 := eqI c28; have t_c29 := eqI c29; have t_b33 := b33; have t_hii := hii; have t_hdd := hdd; have t_ha34 := neI ha34; have t_hgg := hgg; have t_hj53 := hj53; have t_hinvf := (nx_lt hinv); have : ((-4) : Int32).toInt = -4 := qI_m4; have : (0 : Int32).toInt = 0 := qI_0; have t_n0 : (nI N).toInt = (N : Int) := tn1232_ (); have t_n1 : (nI B).toInt = (B : Int) := tn1233_ (); have t_n2 : (nI T).toInt = (T : Int) := tn1234_ (); have t_n3 : (nI S).toInt = (S : Int) := tn1235_ (); have t_n4 : (nI M).toInt = (M : Int) := tn1236_ (); have t_n5 : (nI ii).toInt = (ii : Int) := tn1250_ (); have t_n6 : (nI dd).toInt = (dd : Int) := tn1251_ (); have t_n7 : (nI gg).toInt = (gg : Int) := tn1252_ (); have t_n8 : (nI j50).toInt = (j50 : Int) := tn1253_ (); omega)) (by first | omega | (have t_b5 := b5; have t_b27 := b27; have t_c28 := eqI c28; have t_c29 := eqI c29; have t_b33 := b33; have t_hii := hii; have t_hdd := hdd; have t_ha34 := neI ha34; have t_hgg := hgg; have t_hj53 := hj53; have t_hinvf := (nx_lt hinv); have : ((-4) : Int32).toInt = -4 := qI_m4; have : (0 : Int32).toInt = 0 := qI_0; have t_n0 : (nI N).toInt = (N : Int) := tn1232_ (); have t_n1 : (nI B).toInt = (B : Int) := tn1233_ (); have t_n2 : (nI T).toInt = (T : Int) := tn1234_ (); have t_n3 : (nI S).toInt = (S : Int) := tn1235_ (); have t_n4 : (nI M).toInt = (M : Int) := tn1236_ (); have t_n5 : (nI ii).toInt = (ii : Int) := tn1250_ (); have t_n6 : (nI dd).toInt = (dd : Int) := tn1251_ (); have t_n7 : (nI gg).toInt = (gg : Int) := tn1252_ (); have t_n8 : (nI j50).toInt = (j50 : Int) := tn1253_ (); omega)) (by first | omega | (have t_b5 := b5; have t_b27 := b27; have t_c28 := eqI c28; have t_c29 := eqI c29; have t_b33 := b33; have t_hii := hii; have t_hdd := hdd; have t_ha34 := neI ha34; have t_hgg := hgg; have t_hj53 := hj53; have t_hinvf := (nx_lt hinv); have : ((-4) : Int32).toInt = -4 := qI_m4; have : (0 : Int32).toInt = 0 := qI_0; have t_n0 : (nI N).toInt = (N : Int) := tn1232_ (); have t_n1 : (nI B).toInt = (B : Int) := tn1233_ (); have t_n2 : (nI T).toInt = (T : Int) := tn1234_ (); have t_n3 : (nI S).toInt = (S : Int) := tn1235_ (); have t_n4 : (nI M).toInt = (M : Int) := tn1236_ (); have t_n5 : (nI ii).toInt = (ii : Int) := tn1250_ (); have t_n6 : (nI dd).toInt = (dd : Int) := tn1251_ (); have t_n7 : (nI gg).toInt = (gg : Int) := tn1252_ (); have t_n8 : (nI j50).toInt = (j50 : Int) := tn1253_ (); omega)) (by first | omega | (have t_b5 := b5; have t_b27 := b27; have t_c28 := eqI c28; have t_c29 := eqI c29; have t_b33 := b33; have t_hii := hii; have t_hdd := hdd; have t_ha34 := neI ha34; have t_hgg := hgg; have t_hj53 := hj53; have t_hinvf := (nx_lt hinv); have : ((-4) : Int32).toInt = -4 := qI_m4; have : (0 : Int32).toInt = 0 := qI_0; have t_n0 : (nI N).toInt = (N : Int) := tn1232_ (); have t_n1 : (nI B).toInt = (B : Int) := tn1233_ (); have t_n2 : (nI T).toInt = (T : Int) := tn1234_ (); have t_n3 : (nI S).toInt = (S : Int) := tn1235_ (); have t_n4 : (nI M).toInt = (M : Int) := tn1236_ (); have t_n5 : (nI ii).toInt = (ii : Int) := tn1250_ (); have t_n6 : (nI dd).toInt = (dd : Int) := tn1251_ (); have t_n7 : (nI gg).toInt = (gg : Int) := tn1252_ (); have t_n8 : (nI j50).toInt = (j50 : Int) := tn1253_ (); omega))) (kwV hg mfX11_byOne wt_1155 ⟨Nat.le_of_ble_eq_true rfl, Nat.le_of_ble_eq_true rfl⟩) (preVR hK hPc (ci := 11) rfl rfl) rfl rfl hl.1 rfl (lv_room (Nat.le_of_ble_eq_true rfl)) dX11_next_55 ⟨Nat.le_of_ble_eq_true rfl, Nat.le_of_ble_eq_true rfl⟩) hS (fun q h1 h2 => absurd h2 (Nat.not_le.mpr h1)) (fun q h => hA q (Nat.le_trans hS.1 h)) (fun r54 ur54 t H1 locs ht hvm w55 hB hz1 hk1 hS => ?_)
                  have hP := keepR hP hk1
                  obtain ⟨w55, w55x⟩ := w55
                  subst w55
                  refine lv_aload_n hx hb dX11_next_58 rfl (lv_at hl 1 rfl) ?_
                  refine va_get (D := (dC, dI)) (ci := 11) (v := .ref be) (C := RX11) (T := TX11) (N := 35) hx hb hg inG11 hown hK.1 hP 0 rfl rfl 23 (Nat.le_of_ble_eq_true rfl) (hg _ wt_901) (fun _ h9 => h9) rfl dX11_next_59 ?_
                  refine lv_iload_n hx hb dX11_next_62 rfl (lv_at hl 2 rfl) ?_
                  refine lv_iload_n hx hb dX11_next_63 rfl (lv_at hl 3 rfl) ?_
                  refine lv_iload_n hx hb dX11_next_64 rfl (lv_at hl 4 rfl) ?_
                  have hPc := hP.sub (ws' := []) [] rfl
                  refine va_calli (va_runS (As := [.int (nI ii), .int (nI gg), .int (nI dd)]) (rest := [.ref be, .long (b1B fst u49 ii gg dd j50)]) ⟨hx, hb, hml, hown, hg⟩ (c_X11_bestAtB l dC dI G _ ii gg dd (by first | omega | (have t_b5 := b5; have t_b27 := b27; have t_c28 := eqI c28; have t_c29 := eqI c29; have t_b33 := b33; have t_hii := hii; have t_hdd := hdd; have t_ha34 := neI ha34; have t_hgg := hgg; have t_hj53 := hj53; have t_hinvf := (nx_lt hinv); have : ((-4) : Int32).toInt = -4 := qI_m4; have : (0 : Int32).toInt = 0 := qI_0; have t_n0 : (nI N).toInt = (N : Int) := tn1232_ (); have t_n1 : (nI B).toInt = (B : Int) := tn1233_ (); have t_n2 : (nI T).toInt = (T : Int) := tn1234_ (); have t_n3 : (nI S).toInt = (S : Int) := tn1235_ (); have t_n4 : (nI M).toInt = (M : Int) := tn1236_ (); have t_n5 : (nI ii).toInt = (ii : Int) := tn1250_ (); have t_n6 : (nI dd).toInt = (dd : Int) := tn1251_ (); have t_n7 : (nI gg).toInt = (gg : Int) := tn1252_ (); have t_n8 : (nI j50).toInt = (j50 : Int) := tn1253_ (); omega)) (by first | omega | (have t_b5 := b5; have t_b27 := b27; have t_c28 := eqI c28; have t_c29 := eqI c29; have t_b33 := b33; have t_hii := hii; have t_hdd := hdd; have t_ha34 := neI ha34; have t_hgg := hgg; have t_hj53 := hj53; have t_hinvf := (nx_lt hinv); have : ((-4) : Int32).toInt = -4 := qI_m4; have : (0 : Int32).toInt = 0 := qI_0; have t_n0 : (nI N).toInt = (N : Int) := tn1232_ (); have t_n1 : (nI B).toInt = (B : Int) := tn1233_ (); have t_n2 : (nI T).toInt = (T : Int) := tn1234_ (); have t_n3 : (nI S).toInt = (S : Int) := tn1235_ (); have t_n4 : (nI M).toInt = (M : Int) := tn1236_ (); have t_n5 : (nI ii).toInt = (ii : Int) := tn1250_ (); have t_n6 : (nI dd).toInt = (dd : Int) := tn1251_ (); have t_n7 : (nI gg).toInt = (gg : Int) := tn1252_ (); have t_n8 : (nI j50).toInt = (j50 : Int) := tn1253_ (); omega)) (by first | omega | (have t_b5 := b5; have t_b27 := b27; have t_c28 := eqI c28; have t_c29 := eqI c29; have t_b33 := b33; have t_hii := hii; have t_hdd := hdd; have t_ha34 := neI ha34; have t_hgg := hgg; have t_hj53 := hj53; have t_hinvf := (nx_lt hinv); have : ((-4) : Int32).toInt = -4 := qI_m4; have : (0 : Int32).toInt = 0 := qI_0; have t_n0 : (nI N).toInt = (N : Int) := tn1232_ (); have t_n1 : (nI B).toInt = (B : Int) := tn1233_ (); have t_n2 : (nI T).toInt = (T : Int) := tn1234_ (); have t_n3 : (nI S).toInt = (S : Int) := tn1235_ (); have t_n4 : (nI M).toInt = (M : Int) := tn1236_ (); have t_n5 : (nI ii).toInt = (ii : Int) := tn1250_ (); have t_n6 : (nI dd).toInt = (dd : Int) := tn1251_ (); have t_n7 : (nI gg).toInt = (gg : Int) := tn1252_ (); have t_n8 : (nI j50).toInt = (j50 : Int) := tn1253_ (); omega))) (kwS hg mfX11_bestAt wt_1159 ⟨Nat.le_of_ble_eq_true rfl, Nat.le_of_ble_eq_true rfl⟩) (preSR hK hPc) rfl rfl hl.1 rfl (lv_room (Nat.le_of_ble_eq_true rfl)) dX11_next_65 ⟨Nat.le_of_ble_eq_true rfl, Nat.le_of_ble_eq_true rfl⟩) hS (fun q h1 h2 => absurd h2 (Nat.not_le.mpr h1)) (fun q h => hA q (Nat.le_trans hS.1 h)) (fun r56 ur56 t H1 locs ht hvm w57 hB hz1 hk1 hS => ?_)
                  have hP := keepR hP hk1
                  obtain ⟨w57, w57x⟩ := w57
                  subst w57
                  refine va_lald hx hb hK.1 hP 2 1 rfl rfl (vp_in_nI (by first | omega | (have t_b5 := b5; have t_b27 := b27; have t_c28 := eqI c28; have t_c29 := eqI c29; have t_b33 := b33; have t_hii := hii; have t_hdd := hdd; have t_ha34 := neI ha34; have t_hgg := hgg; have t_hj53 := hj53; have t_hinvf := (nx_lt hinv); have : ((-4) : Int32).toInt = -4 := qI_m4; have : (0 : Int32).toInt = 0 := qI_0; have t_n0 : (nI N).toInt = (N : Int) := tn1232_ (); have t_n1 : (nI B).toInt = (B : Int) := tn1233_ (); have t_n2 : (nI T).toInt = (T : Int) := tn1234_ (); have t_n3 : (nI S).toInt = (S : Int) := tn1235_ (); have t_n4 : (nI M).toInt = (M : Int) := tn1236_ (); have t_n5 : (nI ii).toInt = (ii : Int) := tn1250_ (); have t_n6 : (nI dd).toInt = (dd : Int) := tn1251_ (); have t_n7 : (nI gg).toInt = (gg : Int) := tn1252_ (); have t_n8 : (nI j50).toInt = (j50 : Int) := tn1253_ (); omega)) (by decide)) dX11_next_68 ?_
                  refine lv_cgl (y := u49 (70 * ii + 10 * (gg + 1) + dd)) (by rw [nI_clamp (by omega)]) ?_
                  refine W.lcmp hx hb dX11_next_69 ?_
                  refine lv_if_eq (tgt := 79) hx hb dX11_next_70 rfl (fun c58 => ?_) (fun c58 => ?_)
                  · skip
                    have t_b5 := b5
                    have t_b27 := b27
                    have t_c28 := eqI c28
                    have t_c29 := eqI c29
                    have t_b33 := b33
                    have t_hii := hii
                    have t_hdd := hdd
                    have t_ha34 := neI ha34
                    have t_hgg := hgg
                    have t_hj53 := hj53
                    have t_hinvf := (nx_lt hinv)
                    have t_c58 := lcm_eq_t c58
                    have : ((-4) : Int32).toInt = -4 := qI_m4
                    have : (0 : Int32).toInt = 0 := qI_0
                    have t_n0 : (nI N).toInt = (N : Int) := tn1232_ ()
                    have t_n1 : (nI B).toInt = (B : Int) := tn1233_ ()
                    have t_n2 : (nI T).toInt = (T : Int) := tn1234_ ()
                    have t_n3 : (nI S).toInt = (S : Int) := tn1235_ ()
                    have t_n4 : (nI M).toInt = (M : Int) := tn1236_ ()
                    have t_n5 : (nI ii).toInt = (ii : Int) := tn1250_ ()
                    have t_n6 : (nI dd).toInt = (dd : Int) := tn1251_ ()
                    have t_n7 : (nI gg).toInt = (gg : Int) := tn1252_ ()
                    have t_n8 : (nI j50).toInt = (j50 : Int) := tn1253_ ()
                    exfalso; omega
                  · skip
                    have t_b5 := b5
                    have t_b27 := b27
                    have t_c28 := eqI c28
                    have t_c29 := eqI c29
                    have t_b33 := b33
                    have t_hii := hii
                    have t_hdd := hdd
                    have t_ha34 := neI ha34
                    have t_hgg := hgg
                    have t_hj53 := hj53
                    have t_hinvf := (nx_lt hinv)
                    have t_c58 := lcm_eq_f c58
                    have : ((-4) : Int32).toInt = -4 := qI_m4
                    have : (0 : Int32).toInt = 0 := qI_0
                    have t_n0 : (nI N).toInt = (N : Int) := tn1232_ ()
                    have t_n1 : (nI B).toInt = (B : Int) := tn1233_ ()
                    have t_n2 : (nI T).toInt = (T : Int) := tn1234_ ()
                    have t_n3 : (nI S).toInt = (S : Int) := tn1235_ ()
                    have t_n4 : (nI M).toInt = (M : Int) := tn1236_ ()
                    have t_n5 : (nI ii).toInt = (ii : Int) := tn1250_ ()
                    have t_n6 : (nI dd).toInt = (dd : Int) := tn1251_ ()
                    have t_n7 : (nI gg).toInt = (gg : Int) := tn1252_ ()
                    have t_n8 : (nI j50).toInt = (j50 : Int) := tn1253_ ()
                    exfalso; omega
              exact loop49_51 (B + 1) 0 (by omega) (by omega)  _ _ (RI.getB w48 (by have t_b5 := b5; have t_b27 := b27; have t_c28 := eqI c28; have t_c29 := eqI c29; have t_b33 := b33; have t_hii := hii; have t_hdd := hdd; have t_ha34 := neI ha34; have t_hgg := hgg; have : ((-4) : Int32).toInt = -4 := qI_m4; have : (0 : Int32).toInt = 0 := qI_0; have t_n0 : (nI N).toInt = (N : Int) := tn1232_ (); have t_n1 : (nI B).toInt = (B : Int) := tn1233_ (); have t_n2 : (nI T).toInt = (T : Int) := tn1234_ (); have t_n3 : (nI S).toInt = (S : Int) := tn1235_ (); have t_n4 : (nI M).toInt = (M : Int) := tn1236_ (); have t_n5 : (nI ii).toInt = (ii : Int) := tn1250_ (); have t_n6 : (nI dd).toInt = (dd : Int) := tn1251_ (); have t_n7 : (nI gg).toInt = (gg : Int) := tn1252_ (); omega) (by have t_b5 := b5; have t_b27 := b27; have t_c28 := eqI c28; have t_c29 := eqI c29; have t_b33 := b33; have t_hii := hii; have t_hdd := hdd; have t_ha34 := neI ha34; have t_hgg := hgg; have : ((-4) : Int32).toInt = -4 := qI_m4; have : (0 : Int32).toInt = 0 := qI_0; have t_n0 : (nI N).toInt = (N : Int) := tn1232_ (); have t_n1 : (nI B).toInt = (B : Int) := tn1233_ (); have t_n2 : (nI T).toInt = (T : Int) := tn1234_ (); have t_n3 : (nI S).toInt = (S : Int) := tn1235_ (); have t_n4 : (nI M).toInt = (M : Int) := tn1236_ (); have t_n5 : (nI ii).toInt = (ii : Int) := tn1250_ (); have t_n6 : (nI dd).toInt = (dd : Int) := tn1251_ (); have t_n7 : (nI gg).toInt = (gg : Int) := tn1252_ (); omega) (by have t_b5 := b5; have t_b27 := b27; have t_c28 := eqI c28; have t_c29 := eqI c29; have t_b33 := b33; have t_hii := hii; have t_hdd := hdd; have t_ha34 := neI ha34; have t_hgg := hgg; have : ((-4) : Int32).toInt = -4 := qI_m4; have : (0 : Int32).toInt = 0 := qI_0; have t_n0 : (nI N).toInt = (N : Int) := tn1232_ (); have t_n1 : (nI B).toInt = (B : Int) := tn1233_ (); have t_n2 : (nI T).toInt = (T : Int) := tn1234_ (); have t_n3 : (nI S).toInt = (S : Int) := tn1235_ (); have t_n4 : (nI M).toInt = (M : Int) := tn1236_ (); have t_n5 : (nI ii).toInt = (ii : Int) := tn1250_ (); have t_n6 : (nI dd).toInt = (dd : Int) := tn1251_ (); have t_n7 : (nI gg).toInt = (gg : Int) := tn1252_ (); omega) (by have t_b5 := b5; have t_b27 := b27; have t_c28 := eqI c28; have t_c29 := eqI c29; have t_b33 := b33; have t_hii := hii; have t_hdd := hdd; have t_ha34 := neI ha34; have t_hgg := hgg; have : ((-4) : Int32).toInt = -4 := qI_m4; have : (0 : Int32).toInt = 0 := qI_0; have t_n0 : (nI N).toInt = (N : Int) := tn1232_ (); have t_n1 : (nI B).toInt = (B : Int) := tn1233_ (); have t_n2 : (nI T).toInt = (T : Int) := tn1234_ (); have t_n3 : (nI S).toInt = (S : Int) := tn1235_ (); have t_n4 : (nI M).toInt = (M : Int) := tn1236_ (); have t_n5 : (nI ii).toInt = (ii : Int) := tn1250_ (); have t_n6 : (nI dd).toInt = (dd : Int) := tn1251_ (); have t_n7 : (nI gg).toInt = (gg : Int) := tn1252_ (); omega) (by have t_b5 := b5; have t_b27 := b27; have t_c28 := eqI c28; have t_c29 := eqI c29; have t_b33 := b33; have t_hii := hii; have t_hdd := hdd; have t_ha34 := neI ha34; have t_hgg := hgg; have : ((-4) : Int32).toInt = -4 := qI_m4; have : (0 : Int32).toInt = 0 := qI_0; have t_n0 : (nI N).toInt = (N : Int) := tn1232_ (); have t_n1 : (nI B).toInt = (B : Int) := tn1233_ (); have t_n2 : (nI T).toInt = (T : Int) := tn1234_ (); have t_n3 : (nI S).toInt = (S : Int) := tn1235_ (); have t_n4 : (nI M).toInt = (M : Int) := tn1236_ (); have t_n5 : (nI ii).toInt = (ii : Int) := tn1250_ (); have t_n6 : (nI dd).toInt = (dd : Int) := tn1251_ (); have t_n7 : (nI gg).toInt = (gg : Int) := tn1252_ (); omega)) hP hD hS ls (lv_sub hl [0, 1, 2, 3, 4] rfl)
          · skip
            have b59 := if10_n c32
            refine lv_iconst (v := (-1)) hx hb dX11_next_38 rfl ?_
            have hpost : True := by
              trivial
            obtain ⟨hP9, hD9⟩ := va_sub2 (ws' := [(h0, .inr (11, [.ref st, .int (nI N), .int (nI B), .ref rp, .int vrs, .int vrb, .int vhs, .int vca, .int vxs, .int vxb, .ref tp, .int (nI T), .int vfa, .int vbr, .int vba, .int vsp, .int vhe, .int vtk, .int vva, .ref cu, .ref lt, .ref od, .ref th, .ref be, .ref ln, .int (nI S), .ref ma, .int (nI M), .ref ah, .ref bh, .ref ik, .ref la, .ref lg, .ref ce, .int vto])), (st, .inl (G 0, 196, .inl fst)), (be, .inl (G 1, 770, .inr (.inl fbe)))]) hP hD [0, 1, 2] (by decide) rfl
            refine W.widen (k := 0) (n := 0) (Nat.le_of_ble_eq_true rfl) (Nat.le_of_ble_eq_true rfl) ?_
            exact W.iret (v := (-1)) hx hb hr (fun t ht hW => ⟨⟨(-1), fbe, rfl, ⟨hpost, trivial⟩, ⟨by rw [ht]; exact hP9, hD9⟩⟩, hS.F ht⟩) hS.2.2 dX11_next_39

abbrev RSt : Type := Int32 × Int32 × Nat × Nat × Int32 × Int32
def skp (f : Nat → Int32) (T : Nat) (lo hi : Int) : Nat → Nat → Nat
  | 0, p => p
  | n + 1, p => if p < T ∧ lo ≤ (f p).toInt ∧ (f p).toInt ≤ hi then skp f T lo hi n (p + 1) else p
def pst (f : Nat → Int32) (T : Nat) (lo hi : Int) (p : Nat) : Nat := skp f T lo hi (T - p) p
theorem pst_in {f : Nat → Int32} {T p : Nat} {lo hi : Int} (h : p < T) (h1 : lo ≤ (f p).toInt) (h2 : (f p).toInt ≤ hi) : pst f T lo hi p = pst f T lo hi (p + 1) := by
  unfold pst
  rw [show T - p = (T - (p + 1)) + 1 by omega]
  show (if p < T ∧ lo ≤ (f p).toInt ∧ (f p).toInt ≤ hi then skp f T lo hi (T - (p + 1)) (p + 1) else p) = _
  rw [if_pos ⟨h, h1, h2⟩]
theorem pst_out {f : Nat → Int32} {T p : Nat} {lo hi : Int} (h : ¬ (p < T ∧ lo ≤ (f p).toInt ∧ (f p).toInt ≤ hi)) : pst f T lo hi p = p := by
  unfold pst
  cases T - p with
  | zero => rfl
  | succ n =>
    show (if p < T ∧ lo ≤ (f p).toInt ∧ (f p).toInt ≤ hi then skp f T lo hi n (p + 1) else p) = _
    rw [if_neg h]
def flB (c br : Int32) : Int32 := if br = 0 then c else br
def flA (br ba : Int32) (he : Nat) : Int32 := if br = 0 then nI he else ba
def vlS (f : Nat → Int32) (h : Nat) : Nat → Int32
  | 0 => 0
  | n + 1 => if n < 2 then 10 * vlS f h n + f (h + n) - 48 else vlS f h n
def gOn1 (f : Nat → Int32) (T : Nat) (br ba : Int32) (h : Nat) : RSt :=
  if T ≤ h then (br, ba, h, h, 0, 0)
  else if 97 ≤ (f h).toInt ∧ (f h).toInt ≤ 122 then (br, ba, pst f T 97 122 h, h, 1, 0)
  else if 48 ≤ (f h).toInt ∧ (f h).toInt ≤ 57 then
    (if 2 < pst f T 48 57 h - h then (flB 1 br, flA br ba h, pst f T 48 57 h, h, 2, vlS f h (pst f T 48 57 h - h)) else (br, ba, pst f T 48 57 h, h, 2, vlS f h (pst f T 48 57 h - h)))
  else if f h = 59 then (br, ba, h + 1, h, 3, 0) else (flB 1 br, flA br ba h, h + 1, h, 3, 0)
def gOn (f : Nat → Int32) (T : Nat) (br ba : Int32) (sp he : Nat) (tk va : Int32) : RSt :=
  if 0 < br.toInt then (br, ba, sp, he, tk, va) else gOn1 f T br ba (pst f T 32 32 sp)
def otC (lo xh sm br tk va : Int32) : Int32 := if br = 0 then (if tk = 2 then (if lo.toInt ≤ va.toInt ∧ va.toInt ≤ xh.toInt then (if (sm >>> (va &&& 31)) &&& 1 = 1 then 4 else 0) else 3) else 2) else 0
def otB (lo xh sm br tk va : Int32) : Int32 := if otC lo xh sm br tk va = 0 then br else otC lo xh sm br tk va
def otA (lo xh sm br ba : Int32) (he : Nat) (tk va : Int32) : Int32 := if otC lo xh sm br tk va = 0 then ba else nI he
def otV (lo xh sm br tk va : Int32) : Int32 := if otB lo xh sm br tk va = 0 then va else lo
def letL : List Int32 := [115, 116, 97, 114, 116, 115, 116, 114, 101, 116, 99, 104, 98, 101, 97, 114, 101, 114, 99, 97, 114, 114, 121, 112, 108, 97, 105, 110, 104, 117, 109, 109, 101, 114, 116, 114, 101, 109, 98, 108, 101, 114, 116, 97, 108, 108, 116, 119, 105, 110, 112, 97, 105, 100]
abbrev wMt (f : Nat → Int32) (a b n : Nat) : Prop := b - a = cutL.getD (n + 1) 0 - cutL.getD n 0 ∧ ∀ k : Nat, k < b - a → f (a + k) = letL.getD (cutL.getD n 0 + k) 0
def nmF (f : Nat → Int32) (a b : Nat) : Nat → Int32
  | 0 => -4
  | j + 1 => if wMt f a b (10 - (j + 1)) then nI (10 - (j + 1)) else nmF f a b j
def nmS (f : Nat → Int32) (a b : Nat) (tk : Int32) : Int32 := if tk = 1 then nmF f a b 10 else -4
theorem nmF_y {f : Nat → Int32} {a b n : Nat} (hn : n < 10) (h : wMt f a b n) : nmF f a b (10 - n) = nI n := by
  rw [show 10 - n = (9 - n) + 1 by omega]
  show (if wMt f a b (10 - (9 - n + 1)) then nI (10 - (9 - n + 1)) else nmF f a b (9 - n)) = _
  rw [show 10 - (9 - n + 1) = n by omega, if_pos h]
theorem nmF_n {f : Nat → Int32} {a b n : Nat} (hn : n < 10) (h : ¬ wMt f a b n) : nmF f a b (10 - n) = nmF f a b (10 - (n + 1)) := by
  rw [show 10 - n = (9 - n) + 1 by omega]
  show (if wMt f a b (10 - (9 - n + 1)) then nI (10 - (9 - n + 1)) else nmF f a b (9 - n)) = _
  rw [show 10 - (9 - n + 1) = n by omega, if_neg h, show 10 - (n + 1) = 9 - n by omega]
abbrev LSt : Type := RSt × Nat × Nat × Int32 × Int32 × Int32 × Int32 × (Nat → Int32)
def gT (f : Nat → Int32) (T : Nat) (s : RSt) : RSt := gOn f T s.1 s.2.1 s.2.2.1 s.2.2.2.1 s.2.2.2.2.1 s.2.2.2.2.2
def fT (c : Int32) (s : RSt) : RSt := (flB c s.1, flA s.1 s.2.1 s.2.2.2.1, s.2.2.1, s.2.2.2.1, s.2.2.2.2.1, s.2.2.2.2.2)
def oV (lo xh sm : Int32) (s : RSt) : Int32 := otV lo xh sm s.1 s.2.2.2.2.1 s.2.2.2.2.2
def oS (f : Nat → Int32) (T : Nat) (lo xh sm : Int32) (s : RSt) : RSt := gOn f T (otB lo xh sm s.1 s.2.2.2.2.1 s.2.2.2.2.2) (otA lo xh sm s.1 s.2.1 s.2.2.2.1 s.2.2.2.2.1 s.2.2.2.2.2) s.2.2.1 s.2.2.2.1 s.2.2.2.2.1 s.2.2.2.2.2
def nT (f : Nat → Int32) (s : RSt) : Int32 := nmS f s.2.2.2.1 s.2.2.1 s.2.2.2.2.1
def rbS (f : Nat → Int32) (T : Nat) (s : RSt) (rb : Nat) (fp : Nat → Int32) : RSt × Nat × (Nat → Int32) :=
  if rb = 6 then (fT 5 s, rb, fp)
  else if (0 : Int32) ≤ nT f (gT f T s) - 4 then
    (oS f T 0 9 0 (oS f T 0 9 0 (gT f T (gT f T s))), rb + 1, upd (upd (upd fp (20 + 3 * rb) (nT f (gT f T s) - 4)) (20 + 3 * rb + 1) (oV 0 9 0 (gT f T (gT f T s)))) (20 + 3 * rb + 2) (oV 0 9 0 (oS f T 0 9 0 (gT f T (gT f T s)))))
  else (fT 2 (gT f T s), rb, fp)
def rmA (nm : Int32) (rs : Nat) (hs : Int32) (s : RSt) : RSt := if nm = 0 then (if hs = 0 then (if nm = 1 then (if rs = 10 then fT 5 s else s) else s) else fT 4 (if nm = 1 then (if rs = 10 then fT 5 s else s) else s)) else (if nm = 1 then (if rs = 10 then fT 5 s else s) else s)
def rmI (rs : Nat) (s : RSt) : Nat := if s.1 = 0 then rs else 0
def rmX (a b : Int32) : Int32 := if a ≤ b then b else a
def rmS (f : Nat → Int32) (T : Nat) (nm : Int32) (s : RSt) (rs : Nat) (hs ca xs xb : Int32) (fp : Nat → Int32) : RSt × Nat × Int32 × Int32 × Int32 × Int32 × (Nat → Int32) :=
  if nm = 0 then (oS f T 1 9 0 (gT f T (rmA nm rs hs s)), rs, 1, ca, xs, xb, upd fp 48 (oV 1 9 0 (gT f T (rmA nm rs hs s)) - 5))
  else if nm = 1 then (oS f T 0 9 0 (oS f T 0 9 0 (gT f T (rmA nm rs hs s))), rs + 1, hs, ca, xs, xb, upd (upd fp (2 * rmI rs (gT f T (rmA nm rs hs s))) (oV 0 9 0 (gT f T (rmA nm rs hs s)))) (2 * rmI rs (gT f T (rmA nm rs hs s)) + 1) (oV 0 9 0 (oS f T 0 9 0 (gT f T (rmA nm rs hs s)))))
  else (oS f T 0 5 0 (oS f T 0 9 ca (gT f T (rmA nm rs hs s))), rs, hs, ca ||| ((1 : Int32) <<< (oV 0 9 ca (gT f T (rmA nm rs hs s)) &&& 31)), rmX (oV 0 9 ca (gT f T (rmA nm rs hs s))) xs, rmX (oV 0 5 0 (oS f T 0 9 ca (gT f T (rmA nm rs hs s)))) xb, upd fp (38 + (oV 0 9 ca (gT f T (rmA nm rs hs s))).toNatClampNeg) (oV 0 5 0 (oS f T 0 9 ca (gT f T (rmA nm rs hs s)))))
def fiS (f : Nat → Int32) (T : Nat) (s : RSt) : RSt := gT f T (if s.1 = 0 then (if s.2.2.2.2.1 = 3 then s else fT 2 s) else s)
def rlS (f : Nat → Int32) (T : Nat) (s : RSt) (rs rb : Nat) (hs ca xs xb : Int32) (fp : Nat → Int32) : LSt :=
  if 0 ≤ (nT f s).toInt ∧ (nT f s).toInt ≤ 3 then
    (if nT f s = 2 then (fiS f T (rbS f T s rb fp).1, rs, (rbS f T s rb fp).2.1, hs, ca, xs, xb, (rbS f T s rb fp).2.2)
     else (fiS f T (rmS f T (nT f s) s rs hs ca xs xb fp).1, (rmS f T (nT f s) s rs hs ca xs xb fp).2.1, rb, (rmS f T (nT f s) s rs hs ca xs xb fp).2.2.1, (rmS f T (nT f s) s rs hs ca xs xb fp).2.2.2.1, (rmS f T (nT f s) s rs hs ca xs xb fp).2.2.2.2.1, (rmS f T (nT f s) s rs hs ca xs xb fp).2.2.2.2.2.1, (rmS f T (nT f s) s rs hs ca xs xb fp).2.2.2.2.2.2))
  else (fT 2 s, rs, rb, hs, ca, xs, xb, fp)
def nxS (f : Nat → Int32) (T : Nat) (q : LSt) : LSt := rlS f T q.1 q.2.1 q.2.2.1 q.2.2.2.1 q.2.2.2.2.1 q.2.2.2.2.2.1 q.2.2.2.2.2.2.1 q.2.2.2.2.2.2.2
def lpS (f : Nat → Int32) (T : Nat) : Nat → LSt → Nat → LSt × Nat
  | 0, q, n => (q, n)
  | k + 1, q, n => if q.1.1 = 0 then (if q.1.2.2.2.2.1 = 0 then (q, n) else lpS f T k (nxS f T q) (n + 1)) else (q, n)
theorem lpS_go {f : Nat → Int32} {T k n : Nat} {q : LSt} (h0 : q.1.1 = 0) (h1 : ¬ q.1.2.2.2.2.1 = 0) : lpS f T (k + 1) q n = lpS f T k (nxS f T q) (n + 1) := by
  show (if q.1.1 = 0 then (if q.1.2.2.2.2.1 = 0 then (q, n) else lpS f T k (nxS f T q) (n + 1)) else (q, n)) = _
  rw [if_pos h0, if_neg h1]
theorem lpS_e0 {f : Nat → Int32} {T k n : Nat} {q : LSt} (h : ¬ q.1.1 = 0) : lpS f T k q n = (q, n) := by
  cases k with
  | zero => rfl
  | succ k =>
    show (if q.1.1 = 0 then (if q.1.2.2.2.2.1 = 0 then (q, n) else lpS f T k (nxS f T q) (n + 1)) else (q, n)) = _
    rw [if_neg h]
theorem lpS_e1 {f : Nat → Int32} {T k n : Nat} {q : LSt} (h0 : q.1.1 = 0) (h : q.1.2.2.2.2.1 = 0) : lpS f T k q n = (q, n) := by
  cases k with
  | zero => rfl
  | succ k =>
    show (if q.1.1 = 0 then (if q.1.2.2.2.2.1 = 0 then (q, n) else lpS f T k (nxS f T q) (n + 1)) else (q, n)) = _
    rw [if_pos h0, if_pos h]
def be6 (s : RSt) (rs rb : Nat) (xs xb : Int32) : RSt := if s.1 = 0 then (if nI rs ≤ xs then fT 6 s else if xb < nI rb then s else fT 6 s) else s
def be7 (s : RSt) (rs rb : Nat) : RSt := if s.1 = 0 then (if 0 < rs then (if rb = 0 then fT 7 s else s) else s) else s
def zpF (k : Nat) (fp : Nat → Int32) : Nat → Int32 := fun q => if q < k then 0 else fp q
def cpF (k : Nat) (pg fs : Nat → Int32) : Nat → Int32 := fun q => if q < k then pg q else fs q
theorem zpF_s {k : Nat} {fp : Nat → Int32} : upd (zpF k fp) k 0 = zpF (k + 1) fp := by
  funext q
  show (if q = k then 0 else if q < k then 0 else fp q) = (if q < k + 1 then 0 else fp q)
  by_cases c : q < k + 1
  · rw [if_pos c]; split
    · rfl
    · rw [if_pos (by omega)]
  · rw [if_neg c, if_neg (by omega), if_neg (by omega)]
theorem zpF_0 {fp : Nat → Int32} : fp = zpF 0 fp := by
  funext q
  show fp q = (if q < 0 then 0 else fp q)
  rw [if_neg (by omega)]
theorem cpF_s {k : Nat} {pg fs : Nat → Int32} : upd (cpF k pg fs) k (pg k) = cpF (k + 1) pg fs := by
  funext q
  show (if q = k then pg k else if q < k then pg q else fs q) = (if q < k + 1 then pg q else fs q)
  by_cases c : q < k + 1
  · rw [if_pos c]; split
    · rename_i e; rw [e]
    · rw [if_pos (by omega)]
  · rw [if_neg c, if_neg (by omega), if_neg (by omega)]
theorem cpF_0 {pg fs : Nat → Int32} : fs = cpF 0 pg fs := by
  funext q
  show fs q = (if q < 0 then pg q else fs q)
  rw [if_neg (by omega)]
theorem OKS_cp {pg fs : Nat → Int32} (h : OKS fs) (hp : OKP pg) : OKS (cpF 49 pg fs) := by
  intro q hq
  show okS q (if q < 49 then pg q else fs q)
  split
  · rename_i c; exact hp q c
  · exact h q hq
def txQ (f : Nat → Int32) (T : Nat) (ba : Int32) (he : Nat) (tk va : Int32) (fp : Nat → Int32) : LSt × Nat := lpS f T 400 (gOn f T 0 ba 0 he tk va, 0, 0, 0, 0, -1, -1, zpF 49 fp) 0
def txE (q : LSt) : RSt := be7 (be6 q.1 q.2.1 q.2.2.1 q.2.2.2.2.2.1 q.2.2.2.2.2.2.1) q.2.1 q.2.2.1
theorem skp_ge {f : Nat → Int32} {T : Nat} {lo hi : Int} : ∀ (n p : Nat), p ≤ skp f T lo hi n p := by
  intro n
  induction n with
  | zero => intro p; exact Nat.le_refl p
  | succ n ih =>
    intro p
    show p ≤ (if p < T ∧ lo ≤ (f p).toInt ∧ (f p).toInt ≤ hi then skp f T lo hi n (p + 1) else p)
    split
    · exact Nat.le_trans (Nat.le_succ p) (ih (p + 1))
    · exact Nat.le_refl p
theorem skp_le {f : Nat → Int32} {T : Nat} {lo hi : Int} : ∀ (n p : Nat), p ≤ T → skp f T lo hi n p ≤ T := by
  intro n
  induction n with
  | zero => intro p h; exact h
  | succ n ih =>
    intro p h
    show (if p < T ∧ lo ≤ (f p).toInt ∧ (f p).toInt ≤ hi then skp f T lo hi n (p + 1) else p) ≤ T
    split
    · rename_i c; exact ih (p + 1) c.1
    · exact h
theorem pst_b {f : Nat → Int32} {T p : Nat} {lo hi : Int} (h : p ≤ T) : p ≤ pst f T lo hi p ∧ pst f T lo hi p ≤ T := ⟨skp_ge _ _, skp_le _ _ h⟩
def flP (x0 p x1 : Int32) : Int32 := if x0 = 0 then p else x1
def ntS1 (f : Nat → Int32) (T F : Nat) (x0 x1 x3 : Int32) : Int32 × Int32 × Int32 × Nat × Nat :=
  if T ≤ F then (x0, x1, 0, F, F)
  else if 97 ≤ (f F).toInt ∧ (f F).toInt ≤ 122 then (x0, x1, 1, F, pst f T 97 122 F)
  else if 48 ≤ (f F).toInt ∧ (f F).toInt ≤ 57 then
    (if pst f T 48 57 F - F ≤ 2 then (x0, x1, 2, F, pst f T 48 57 F) else (flB 1 x0, flP x0 (nI F) x1, 2, F, pst f T 48 57 F))
  else if f F = 59 then (x0, x1, 3, F, F + 1) else (flB 1 x0, flP x0 (nI F) x1, x3, F, F)
def ntG (f : Nat → Int32) (T F : Nat) : Int32 :=
  if T ≤ F then 1
  else if 97 ≤ (f F).toInt ∧ (f F).toInt ≤ 122 then 1
  else if 48 ≤ (f F).toInt ∧ (f F).toInt ≤ 57 then (if pst f T 48 57 F - F ≤ 2 then 1 else 0)
  else if f F = 59 then 1 else 0
abbrev sYs (f : Nat → Int32) (F P i : Nat) : Prop := P - F = strLen.getD i 0 ∧ ∀ q9 : Nat, q9 < strLen.getD i 0 → f (F + q9) = (strByt.getD i []).getD q9 0 &&& 255
def isN (f : Nat → Int32) (F P : Nat) (x3 : Int32) (i : Nat) : Int32 := if x3 = 1 then (if sYs f F P i then 1 else 0) else 0
def kdF (f : Nat → Int32) (F P : Nat) (x3 : Int32) : Int32 := if isN f F P x3 3 = 0 then (if isN f F P x3 4 = 0 then (if isN f F P x3 5 = 0 then (if isN f F P x3 6 = 0 then (if isN f F P x3 7 = 0 then (if isN f F P x3 8 = 0 then -4 else 5) else 4) else 3) else 2) else 1) else 0
abbrev CS5 : Type := Int32 × Int32 × Int32 × Nat × Nat
def cRF (k : Int32) (c : CS5) : CS5 := (flB k c.1, flP c.1 (nI c.2.2.2.1) c.2.1, c.2.2.1, c.2.2.2.1, c.2.2.2.2)
def cVL (f : Nat → Int32) (T : Nat) (c : CS5) : Int32 := valN f T c.2.2.2.1 (c.2.2.2.2 - c.2.2.2.1)
def cNN (f : Nat → Int32) (T : Nat) (lo hi x0 x1 x3 : Int32) (P : Nat) : Int32 × CS5 :=
  if ntG f T (pst f T 32 32 P) = 0 then (0, ntS1 f T (pst f T 32 32 P) x0 x1 x3)
  else if (ntS1 f T (pst f T 32 32 P) x0 x1 x3).2.2.1 = 2 then (if cVL f T (ntS1 f T (pst f T 32 32 P) x0 x1 x3) < lo then (0, cRF 3 (ntS1 f T (pst f T 32 32 P) x0 x1 x3)) else if cVL f T (ntS1 f T (pst f T 32 32 P) x0 x1 x3) ≤ hi then (1, ntS1 f T (pst f T 32 32 P) x0 x1 x3) else (0, cRF 3 (ntS1 f T (pst f T 32 32 P) x0 x1 x3)))
  else (0, cRF 2 (ntS1 f T (pst f T 32 32 P) x0 x1 x3))
def cNS (f : Nat → Int32) (T : Nat) (x0 x1 x3 : Int32) (P : Nat) : Int32 × CS5 :=
  if ntG f T (pst f T 32 32 P) = 0 then (0, ntS1 f T (pst f T 32 32 P) x0 x1 x3)
  else if (ntS1 f T (pst f T 32 32 P) x0 x1 x3).2.2.1 = 3 then (1, ntS1 f T (pst f T 32 32 P) x0 x1 x3) else (0, cRF 2 (ntS1 f T (pst f T 32 32 P) x0 x1 x3))
def tNN (f : Nat → Int32) (T : Nat) (lo hi : Int32) (c : CS5) : Int32 × CS5 := cNN f T lo hi c.1 c.2.1 c.2.2.1 c.2.2.2.2
def tNS (f : Nat → Int32) (T : Nat) (c : CS5) : Int32 × CS5 := cNS f T c.1 c.2.1 c.2.2.1 c.2.2.2.2
def tNG (f : Nat → Int32) (T : Nat) (c : CS5) : Int32 := ntG f T (pst f T 32 32 c.2.2.2.2)
def tNT (f : Nat → Int32) (T : Nat) (c : CS5) : CS5 := ntS1 f T (pst f T 32 32 c.2.2.2.2) c.1 c.2.1 c.2.2.1
def cKD (f : Nat → Int32) (c : CS5) : Int32 := kdF f c.2.2.2.1 c.2.2.2.2 c.2.2.1
def cST (f : Nat → Int32) (T : Nat) (c : CS5) (st : Int32) (D : Nat) : Int32 × CS5 × Int32 × Nat :=
  if st = 0 then
    (if (tNN f T 1 9 c).1 = 0 then (0, (tNN f T 1 9 c).2, 1, D)
     else ((tNS f T (tNN f T 1 9 c).2).1, (tNS f T (tNN f T 1 9 c).2).2, 1, (cVL f T (tNN f T 1 9 c).2).toNatClampNeg))
  else (0, cRF 4 c, st, D)
def cSR (f : Nat → Int32) (T : Nat) (c : CS5) (N : Nat) (g1 g2 : Nat → Int32) : Int32 × CS5 × Nat × (Nat → Int32) × (Nat → Int32) :=
  if N < 10 then
    (if (tNN f T 0 9 c).1 = 0 then (0, (tNN f T 0 9 c).2, N, g1, g2)
     else if (tNN f T 0 9 (tNN f T 0 9 c).2).1 = 0 then (0, (tNN f T 0 9 (tNN f T 0 9 c).2).2, N, g1, g2)
     else ((tNS f T (tNN f T 0 9 (tNN f T 0 9 c).2).2).1, (tNS f T (tNN f T 0 9 (tNN f T 0 9 c).2).2).2, N + 1, upd g1 N (cVL f T (tNN f T 0 9 c).2), upd g2 N (cVL f T (tNN f T 0 9 (tNN f T 0 9 c).2).2)))
  else (0, cRF 5 c, N, g1, g2)
def cBR (f : Nat → Int32) (T : Nat) (c : CS5) (B : Nat) (g4 g5 g6 : Nat → Int32) : Int32 × CS5 × Nat × (Nat → Int32) × (Nat → Int32) × (Nat → Int32) :=
  if B < 6 then
    (if tNG f T c = 0 then (0, tNT f T c, B, g4, g5, g6)
     else if cKD f (tNT f T c) = -4 then (0, cRF 2 (tNT f T c), B, g4, g5, g6)
     else if (tNN f T 0 9 (tNT f T c)).1 = 0 then (0, (tNN f T 0 9 (tNT f T c)).2, B, g4, g5, g6)
     else if (tNN f T 0 9 (tNN f T 0 9 (tNT f T c)).2).1 = 0 then (0, (tNN f T 0 9 (tNN f T 0 9 (tNT f T c)).2).2, B, g4, g5, g6)
     else ((tNS f T (tNN f T 0 9 (tNN f T 0 9 (tNT f T c)).2).2).1, (tNS f T (tNN f T 0 9 (tNN f T 0 9 (tNT f T c)).2).2).2, B + 1, upd g4 B (cKD f (tNT f T c)), upd g5 B (cVL f T (tNN f T 0 9 (tNT f T c)).2), upd g6 B (cVL f T (tNN f T 0 9 (tNN f T 0 9 (tNT f T c)).2).2)))
  else (0, cRF 5 c, B, g4, g5, g6)
def cCR (f : Nat → Int32) (T : Nat) (c : CS5) (ca xs xb : Int32) (g3 : Nat → Int32) : Int32 × CS5 × Int32 × Int32 × Int32 × (Nat → Int32) :=
  if (tNN f T 0 9 c).1 = 0 then (0, (tNN f T 0 9 c).2, ca, xs, xb, g3)
  else if (ca >>> (cVL f T (tNN f T 0 9 c).2 &&& 31)) &&& 1 = 1 then (0, cRF 4 (tNN f T 0 9 c).2, ca, xs, xb, g3)
  else if (tNN f T 0 5 (tNN f T 0 9 c).2).1 = 0 then (0, (tNN f T 0 5 (tNN f T 0 9 c).2).2, ca ||| ((1 : Int32) <<< (cVL f T (tNN f T 0 9 c).2 &&& 31)), xs, xb, g3)
  else ((tNS f T (tNN f T 0 5 (tNN f T 0 9 c).2).2).1, (tNS f T (tNN f T 0 5 (tNN f T 0 9 c).2).2).2, ca ||| ((1 : Int32) <<< (cVL f T (tNN f T 0 9 c).2 &&& 31)), mx xs (cVL f T (tNN f T 0 9 c).2), mx xb (cVL f T (tNN f T 0 5 (tNN f T 0 9 c).2).2), upd g3 (cVL f T (tNN f T 0 9 c).2).toNatClampNeg (cVL f T (tNN f T 0 5 (tNN f T 0 9 c).2).2))
abbrev CW : Type := CS5 × Int32 × Int32 × Int32 × Int32 × Nat × Nat × Nat × (Nat → Int32) × (Nat → Int32) × (Nat → Int32) × (Nat → Int32) × (Nat → Int32) × (Nat → Int32)
abbrev cIN (f : Nat → Int32) (c : CS5) (i : Nat) : Int32 := isN f c.2.2.2.1 c.2.2.2.2 c.2.2.1 i
def cLN (f : Nat → Int32) (T : Nat) (c : CS5) (st ca xs xb : Int32) (N B D : Nat) (g1 g2 g3 g4 g5 g6 : Nat → Int32) : Int32 × CW :=
  if cIN f c 0 = 0 then
    (if cIN f c 1 = 0 then
      (if cIN f c 2 = 0 then
        (if cIN f c 9 = 0 then (0, cRF 2 c, st, ca, xs, xb, N, B, D, g1, g2, g3, g4, g5, g6)
         else ((cCR f T c ca xs xb g3).1, (cCR f T c ca xs xb g3).2.1, st, (cCR f T c ca xs xb g3).2.2.1, (cCR f T c ca xs xb g3).2.2.2.1, (cCR f T c ca xs xb g3).2.2.2.2.1, N, B, D, g1, g2, (cCR f T c ca xs xb g3).2.2.2.2.2, g4, g5, g6))
       else ((cBR f T c B g4 g5 g6).1, (cBR f T c B g4 g5 g6).2.1, st, ca, xs, xb, N, (cBR f T c B g4 g5 g6).2.2.1, D, g1, g2, g3, (cBR f T c B g4 g5 g6).2.2.2.1, (cBR f T c B g4 g5 g6).2.2.2.2.1, (cBR f T c B g4 g5 g6).2.2.2.2.2))
     else ((cSR f T c N g1 g2).1, (cSR f T c N g1 g2).2.1, st, ca, xs, xb, (cSR f T c N g1 g2).2.2.1, B, D, (cSR f T c N g1 g2).2.2.2.1, (cSR f T c N g1 g2).2.2.2.2, g3, g4, g5, g6))
  else ((cST f T c st D).1, (cST f T c st D).2.1, (cST f T c st D).2.2.1, ca, xs, xb, N, B, (cST f T c st D).2.2.2, g1, g2, g3, g4, g5, g6)
def cLNq (f : Nat → Int32) (T : Nat) (q : CW) : Int32 × CW := cLN f T q.1 q.2.1 q.2.2.1 q.2.2.2.1 q.2.2.2.2.1 q.2.2.2.2.2.1 q.2.2.2.2.2.2.1 q.2.2.2.2.2.2.2.1 q.2.2.2.2.2.2.2.2.1 q.2.2.2.2.2.2.2.2.2.1 q.2.2.2.2.2.2.2.2.2.2.1 q.2.2.2.2.2.2.2.2.2.2.2.1 q.2.2.2.2.2.2.2.2.2.2.2.2.1 q.2.2.2.2.2.2.2.2.2.2.2.2.2
def cNTq (f : Nat → Int32) (T : Nat) (q : CW) : CW := (tNT f T q.1, q.2)
def cLP (f : Nat → Int32) (T : Nat) : Nat → CW → Int32 → CW × Int32
  | 0, q, n => (q, n)
  | k + 1, q, n => if q.1.1 = 0 then (if q.1.2.2.1 = 0 then (q, n) else if (cLNq f T q).1 = 0 then cLP f T k (cLNq f T q).2 n else cLP f T k (cNTq f T (cLNq f T q).2) (n + 1)) else (q, n)
theorem cLP_a {f : Nat → Int32} {T k : Nat} {n : Int32} {q : CW} (h0 : q.1.1 = 0) (h1 : ¬ q.1.2.2.1 = 0) (h2 : (cLNq f T q).1 = 0) : cLP f T (k + 1) q n = cLP f T k (cLNq f T q).2 n := by
  show (if q.1.1 = 0 then (if q.1.2.2.1 = 0 then (q, n) else if (cLNq f T q).1 = 0 then cLP f T k (cLNq f T q).2 n else cLP f T k (cNTq f T (cLNq f T q).2) (n + 1)) else (q, n)) = _
  rw [if_pos h0, if_neg h1, if_pos h2]
theorem cLP_b {f : Nat → Int32} {T k : Nat} {n : Int32} {q : CW} (h0 : q.1.1 = 0) (h1 : ¬ q.1.2.2.1 = 0) (h2 : ¬ (cLNq f T q).1 = 0) : cLP f T (k + 1) q n = cLP f T k (cNTq f T (cLNq f T q).2) (n + 1) := by
  show (if q.1.1 = 0 then (if q.1.2.2.1 = 0 then (q, n) else if (cLNq f T q).1 = 0 then cLP f T k (cLNq f T q).2 n else cLP f T k (cNTq f T (cLNq f T q).2) (n + 1)) else (q, n)) = _
  rw [if_pos h0, if_neg h1, if_neg h2]
theorem cLP_e0 {f : Nat → Int32} {T k : Nat} {n : Int32} {q : CW} (h : ¬ q.1.1 = 0) : cLP f T k q n = (q, n) := by
  cases k with
  | zero => rfl
  | succ k =>
    show (if q.1.1 = 0 then (if q.1.2.2.1 = 0 then (q, n) else if (cLNq f T q).1 = 0 then cLP f T k (cLNq f T q).2 n else cLP f T k (cNTq f T (cLNq f T q).2) (n + 1)) else (q, n)) = _
    rw [if_neg h]
theorem cLP_e1 {f : Nat → Int32} {T k : Nat} {n : Int32} {q : CW} (h0 : q.1.1 = 0) (h : q.1.2.2.1 = 0) : cLP f T k q n = (q, n) := by
  cases k with
  | zero => rfl
  | succ k =>
    show (if q.1.1 = 0 then (if q.1.2.2.1 = 0 then (q, n) else if (cLNq f T q).1 = 0 then cLP f T k (cLNq f T q).2 n else cLP f T k (cNTq f T (cLNq f T q).2) (n + 1)) else (q, n)) = _
    rw [if_pos h0, if_pos h]
def cQ0 (f : Nat → Int32) (T : Nat) (x3 : Int32) (g1 g2 g3 g4 g5 g6 : Nat → Int32) : CW := (tNT f T (0, 0, x3, 0, 0), 0, 0, -4, -4, 0, 0, 5, g1, g2, zpF 10 g3, g4, g5, g6)
def cRA (f : Nat → Int32) (T : Nat) (x3 : Int32) (g1 g2 g3 g4 g5 g6 : Nat → Int32) : CW × Int32 := cLP f T (T + 1) (cQ0 f T x3 g1 g2 g3 g4 g5 g6) 0
def cRT (k : Int32) (T : Nat) (c : CS5) : CS5 := (flB k c.1, flP c.1 (nI T) c.2.1, c.2.2.1, c.2.2.2.1, c.2.2.2.2)
def cLB (T : Nat) (c : CS5) (xs xb : Int32) (N B : Nat) : CS5 := if xs.toInt < (N : Int) then (if xb.toInt < (B : Int) then (if 0 < N then (if B = 0 then cRT 7 T c else c) else c) else cRT 6 T c) else cRT 6 T c
def cFN (T : Nat) (q : CW) : CS5 := if q.1.1 = 0 then cLB T q.1 q.2.2.2.1 q.2.2.2.2.1 q.2.2.2.2.2.1 q.2.2.2.2.2.2.1 else q.1

def R0 (f : Nat → Int32) (T : Nat) (c : CS5) (s : RSt) : Prop :=
  c.1 = 0 ∧ s.1 = 0 ∧ s.2.2.2.2.1 = c.2.2.1 ∧ s.2.2.2.1 = c.2.2.2.1 ∧ s.2.2.1 = c.2.2.2.2 ∧ c.2.2.2.1 ≤ c.2.2.2.2 ∧ c.2.2.2.2 ≤ T ∧ (c.2.2.1 = 2 → s.2.2.2.2.2 = cVL f T c) ∧ (c.2.2.1 = 0 → c.2.2.2.1 = T) ∧ (¬ c.2.2.1 = 0 → c.2.2.2.1 < c.2.2.2.2)
def RP (T : Nat) (c : CS5) (s : RSt) : Prop := c.1 = 0 ∧ s.1 = 0 ∧ s.2.2.1 = c.2.2.2.2 ∧ c.2.2.2.2 ≤ T
theorem R0.p {f : Nat → Int32} {T : Nat} {c : CS5} {s : RSt} (r : R0 f T c s) : RP T c s := ⟨r.1, r.2.1, r.2.2.2.2.1, r.2.2.2.2.2.2.1⟩
def RF (c : CS5) (s : RSt) : Prop := 0 < c.1.toInt ∧ s.1 = c.1 ∧ s.2.1 = c.2.1
theorem val_vl {f : Nat → Int32} {T F : Nat} (h3 : T ≤ 320) : ∀ n : Nat, n ≤ 2 → F + n ≤ T → valN f T F n = vlS f F n := by
  intro n
  induction n with
  | zero => intro _ _; rfl
  | succ n ih =>
    intro h1 h2
    have ih := ih (by omega) (by omega)
    have hb : byF f T (nI (F + n)) = f (F + n) := by
      unfold byF
      rw [if_pos ⟨by rw [nI_toInt (by omega)]; omega, by rw [nI_toInt (by omega)]; omega⟩, nI_clamp (by omega)]
    show valN f T F n * 10 + byF f T (nI (F + n)) - 48 = (if n < 2 then 10 * vlS f F n + f (F + n) - 48 else vlS f F n)
    rw [if_pos (by omega), ih, hb, Int32.mul_comm (vlS f F n) 10]
theorem fl_p (F : Nat) (ba x1 : Int32) : flA 0 ba F = flP 0 (nI F) x1 := by
  unfold flA flP
  rw [if_pos rfl, if_pos rfl]
theorem tokE {f : Nat → Int32} {T : Nat} (h3 : T ≤ 320) (P : Nat) (x1 x3 ba : Int32) (he : Nat) (tk va : Int32) (hT : P ≤ T) : (ntG f T (pst f T 32 32 P) = 1 ∧ R0 f T (ntS1 f T (pst f T 32 32 P) 0 x1 x3) (gOn f T 0 ba P he tk va) ∧ P ≤ (ntS1 f T (pst f T 32 32 P) 0 x1 x3).2.2.2.1) ∨ (ntG f T (pst f T 32 32 P) = 0 ∧ RF (ntS1 f T (pst f T 32 32 P) 0 x1 x3) (gOn f T 0 ba P he tk va)) := by
  have hb := pst_b (f := f) (T := T) (lo := 32) (hi := 32) hT
  have hg : gOn f T 0 ba P he tk va = gOn1 f T 0 ba (pst f T 32 32 P) := by
    unfold gOn
    rw [if_neg (by decide)]
  rw [hg]
  generalize pst f T 32 32 P = F at hb ⊢
  have f1 : (0 : Int) < (flB 1 0).toInt := by decide
  unfold ntG ntS1 gOn1
  by_cases c1 : T ≤ F
  · rw [if_pos c1, if_pos c1, if_pos c1]
    exact Or.inl ⟨rfl, ⟨rfl, rfl, rfl, rfl, rfl, Nat.le_refl _, hb.2, fun h => absurd (show (0 : Int32) = 2 from h) (by decide), fun _ => Nat.le_antisymm hb.2 c1, fun h => absurd rfl h⟩, hb.1⟩
  · rw [if_neg c1, if_neg c1, if_neg c1]
    by_cases c2 : 97 ≤ (f F).toInt ∧ (f F).toInt ≤ 122
    · rw [if_pos c2, if_pos c2, if_pos c2]
      have hq := pst_b (f := f) (T := T) (lo := 97) (hi := 122) hb.2
      have hi := pst_in (f := f) (T := T) (p := F) (lo := 97) (hi := 122) (by omega) c2.1 c2.2
      have hq1 := pst_b (f := f) (T := T) (p := F + 1) (lo := 97) (hi := 122) (by omega)
      exact Or.inl ⟨rfl, ⟨rfl, rfl, rfl, rfl, rfl, hq.1, hq.2, fun h => absurd (show (1 : Int32) = 2 from h) (by decide), fun h => absurd (show (1 : Int32) = 0 from h) (by decide), fun _ => by show F < pst f T 97 122 F; rw [hi]; omega⟩, hb.1⟩
    · rw [if_neg c2, if_neg c2, if_neg c2]
      by_cases c3 : 48 ≤ (f F).toInt ∧ (f F).toInt ≤ 57
      · rw [if_pos c3, if_pos c3, if_pos c3]
        have hq := pst_b (f := f) (T := T) (lo := 48) (hi := 57) hb.2
        have hi := pst_in (f := f) (T := T) (p := F) (lo := 48) (hi := 57) (by omega) c3.1 c3.2
        have hq1 := pst_b (f := f) (T := T) (p := F + 1) (lo := 48) (hi := 57) (by omega)
        by_cases c4 : pst f T 48 57 F - F ≤ 2
        · rw [if_pos c4, if_pos c4, if_neg (show ¬ 2 < pst f T 48 57 F - F by omega)]
          exact Or.inl ⟨rfl, ⟨rfl, rfl, rfl, rfl, rfl, hq.1, hq.2, fun _ => (val_vl h3 (pst f T 48 57 F - F) c4 (by omega)).symm, fun h => absurd (show (2 : Int32) = 0 from h) (by decide), fun _ => by show F < pst f T 48 57 F; rw [hi]; omega⟩, hb.1⟩
        · rw [if_neg c4, if_neg c4, if_pos (show 2 < pst f T 48 57 F - F by omega)]
          exact Or.inr ⟨rfl, f1, rfl, fl_p F ba x1⟩
      · rw [if_neg c3, if_neg c3, if_neg c3]
        by_cases c5 : f F = 59
        · rw [if_pos c5, if_pos c5, if_pos c5]
          exact Or.inl ⟨rfl, ⟨rfl, rfl, rfl, rfl, rfl, Nat.le_succ F, by show F + 1 ≤ T; omega, fun h => absurd (show (3 : Int32) = 2 from h) (by decide), fun h => absurd (show (3 : Int32) = 0 from h) (by decide), fun _ => Nat.lt_succ_self F⟩, hb.1⟩
        · rw [if_neg c5, if_neg c5, if_neg c5]
          exact Or.inr ⟨rfl, f1, rfl, fl_p F ba x1⟩
theorem tok {f : Nat → Int32} {T : Nat} {c : CS5} {s : RSt} (h3 : T ≤ 320) (p : RP T c s) : (tNG f T c = 1 ∧ R0 f T (tNT f T c) (gT f T s) ∧ c.2.2.2.2 ≤ (tNT f T c).2.2.2.1) ∨ (tNG f T c = 0 ∧ RF (tNT f T c) (gT f T s)) := by
  have h := tokE (f := f) h3 c.2.2.2.2 c.2.1 c.2.2.1 s.2.1 s.2.2.2.1 s.2.2.2.2.1 s.2.2.2.2.2 p.2.2.2
  unfold tNG tNT gT
  rw [p.1, p.2.1, p.2.2.1]
  exact h
def oB (lo xh sm : Int32) (s : RSt) : RSt := (otB lo xh sm s.1 s.2.2.2.2.1 s.2.2.2.2.2, otA lo xh sm s.1 s.2.1 s.2.2.2.1 s.2.2.2.2.1 s.2.2.2.2.2, s.2.2.1, s.2.2.2.1, s.2.2.2.2.1, s.2.2.2.2.2)
theorem oS_eq {f : Nat → Int32} {T : Nat} {lo xh sm : Int32} {s : RSt} : oS f T lo xh sm s = gT f T (oB lo xh sm s) := rfl
def fiP (s : RSt) : RSt := if s.1 = 0 then (if s.2.2.2.2.1 = 3 then s else fT 2 s) else s
theorem fiS_eq {f : Nat → Int32} {T : Nat} {s : RSt} : fiS f T s = gT f T (fiP s) := rfl
theorem RF.n {c : CS5} {s : RSt} (h : RF c s) : ¬ s.1 = 0 := by
  intro e
  have h1 := h.1
  rw [← h.2.1, e] at h1
  exact absurd h1 (by decide)
theorem RF.m {c : CS5} {s : RSt} (h : RF c s) : ¬ c.1 = 0 := fun e => h.n (h.2.1.trans e)
theorem RF.g {f : Nat → Int32} {T : Nat} {c : CS5} {s : RSt} (h : RF c s) : gT f T s = s := by
  show (if 0 < s.1.toInt then (s.1, s.2.1, s.2.2.1, s.2.2.2.1, s.2.2.2.2.1, s.2.2.2.2.2) else gOn1 f T s.1 s.2.1 (pst f T 32 32 s.2.2.1)) = s
  exact if_pos (by rw [h.2.1]; exact h.1)
theorem RF.f {c : CS5} {s : RSt} {k : Int32} (h : RF c s) : RF c (fT k s) := by
  refine ⟨h.1, ?_, ?_⟩
  · show (if s.1 = 0 then k else s.1) = c.1
    rw [if_neg h.n]; exact h.2.1
  · show (if s.1 = 0 then nI s.2.2.2.1 else s.2.1) = c.2.1
    rw [if_neg h.n]; exact h.2.2
theorem RF.o {c : CS5} {s : RSt} {lo xh sm : Int32} (h : RF c s) : RF c (oB lo xh sm s) := by
  have e : otC lo xh sm s.1 s.2.2.2.2.1 s.2.2.2.2.2 = 0 := by
    unfold otC
    rw [if_neg h.n]
  refine ⟨h.1, ?_, ?_⟩
  · show (if otC lo xh sm s.1 s.2.2.2.2.1 s.2.2.2.2.2 = 0 then s.1 else otC lo xh sm s.1 s.2.2.2.2.1 s.2.2.2.2.2) = c.1
    rw [if_pos e]; exact h.2.1
  · show (if otC lo xh sm s.1 s.2.2.2.2.1 s.2.2.2.2.2 = 0 then s.2.1 else nI s.2.2.2.1) = c.2.1
    rw [if_pos e]; exact h.2.2
theorem RF.i {c : CS5} {s : RSt} (h : RF c s) : RF c (fiP s) := by
  unfold fiP
  rw [if_neg h.n]
  exact h
theorem RF.s {f : Nat → Int32} {T : Nat} {c : CS5} {s : RSt} {lo xh sm : Int32} (h : RF c s) : RF c (oS f T lo xh sm s) := by
  rw [oS_eq, (h.o (lo := lo) (xh := xh) (sm := sm)).g]
  exact h.o
theorem RF.G {f : Nat → Int32} {T : Nat} {c : CS5} {s : RSt} (h : RF c s) : RF c (gT f T s) := by
  rw [h.g]; exact h
theorem fT_bad {f : Nat → Int32} {T : Nat} {c : CS5} {s : RSt} {k : Int32} (r : R0 f T c s) (hk : 0 < k.toInt) : RF (cRF k c) (fT k s) := by
  refine ⟨?_, ?_, ?_⟩
  · show 0 < (if c.1 = 0 then k else c.1).toInt
    rw [if_pos r.1]; exact hk
  · show (if s.1 = 0 then k else s.1) = (if c.1 = 0 then k else c.1)
    rw [if_pos r.1, if_pos r.2.1]
  · show (if s.1 = 0 then nI s.2.2.2.1 else s.2.1) = (if c.1 = 0 then nI c.2.2.2.1 else c.2.1)
    rw [if_pos r.1, if_pos r.2.1, r.2.2.2.1]
theorem oB_bad {f : Nat → Int32} {T : Nat} {c : CS5} {s : RSt} {lo hi sm k : Int32} (r : R0 f T c s) (hk : 0 < k.toInt) (e : otC lo hi sm s.1 s.2.2.2.2.1 s.2.2.2.2.2 = k) : RF (cRF k c) (oB lo hi sm s) := by
  have k0 : ¬ k = 0 := fun e0 => by rw [e0] at hk; exact absurd hk (by decide)
  refine ⟨?_, ?_, ?_⟩
  · show 0 < (if c.1 = 0 then k else c.1).toInt
    rw [if_pos r.1]; exact hk
  · show (if otC lo hi sm s.1 s.2.2.2.2.1 s.2.2.2.2.2 = 0 then s.1 else otC lo hi sm s.1 s.2.2.2.2.1 s.2.2.2.2.2) = (if c.1 = 0 then k else c.1)
    rw [e, if_neg k0, if_pos r.1]
  · show (if otC lo hi sm s.1 s.2.2.2.2.1 s.2.2.2.2.2 = 0 then s.2.1 else nI s.2.2.2.1) = (if c.1 = 0 then nI c.2.2.2.1 else c.2.1)
    rw [e, if_neg k0, if_pos r.1, r.2.2.2.1]
theorem otC_in {f : Nat → Int32} {T : Nat} {c : CS5} {s : RSt} {lo hi sm : Int32} (r : R0 f T c s) (k : c.2.2.1 = 2) (h1 : lo.toInt ≤ (cVL f T c).toInt) (h2 : (cVL f T c).toInt ≤ hi.toInt) : otC lo hi sm s.1 s.2.2.2.2.1 s.2.2.2.2.2 = if (sm >>> (cVL f T c &&& 31)) &&& 1 = 1 then 4 else 0 := by
  unfold otC
  rw [if_pos r.2.1, if_pos (r.2.2.1.trans k), r.2.2.2.2.2.2.2.1 k, if_pos ⟨h1, h2⟩]
theorem oB_ok {f : Nat → Int32} {T : Nat} {c : CS5} {s : RSt} {lo hi sm : Int32} (r : R0 f T c s) (k : c.2.2.1 = 2) (h1 : lo.toInt ≤ (cVL f T c).toInt) (h2 : (cVL f T c).toInt ≤ hi.toInt) (hm : ¬ (sm >>> (cVL f T c &&& 31)) &&& 1 = 1) : oB lo hi sm s = s ∧ oV lo hi sm s = cVL f T c := by
  have e := otC_in (sm := sm) r k h1 h2
  rw [if_neg hm] at e
  have eB : otB lo hi sm s.1 s.2.2.2.2.1 s.2.2.2.2.2 = s.1 := by
    unfold otB
    rw [if_pos e]
  have eA : otA lo hi sm s.1 s.2.1 s.2.2.2.1 s.2.2.2.2.1 s.2.2.2.2.2 = s.2.1 := by
    unfold otA
    rw [if_pos e]
  constructor
  · unfold oB
    rw [eB, eA]
  · show (if otB lo hi sm s.1 s.2.2.2.2.1 s.2.2.2.2.2 = 0 then s.2.2.2.2.2 else lo) = _
    rw [eB, if_pos r.2.1]
    exact r.2.2.2.2.2.2.2.1 k
theorem msk0 (x : Int32) : ¬ ((0 : Int32) >>> (x &&& 31)) &&& 1 = 1 := by
  rw [Int32.zero_shiftRight]
  decide
theorem num {f : Nat → Int32} {T : Nat} {c : CS5} {s : RSt} {lo hi : Int32} (h3 : T ≤ 320) (p : RP T c s) : ((tNN f T lo hi c).1 = 1 ∧ R0 f T (tNN f T lo hi c).2 (gT f T s) ∧ (tNN f T lo hi c).2.2.2.1 = 2 ∧ lo.toInt ≤ (cVL f T (tNN f T lo hi c).2).toInt ∧ (cVL f T (tNN f T lo hi c).2).toInt ≤ hi.toInt ∧ c.2.2.2.2 ≤ (tNN f T lo hi c).2.2.2.2.1) ∨ ((tNN f T lo hi c).1 = 0 ∧ ∀ sm : Int32, RF (tNN f T lo hi c).2 (oB lo hi sm (gT f T s))) := by
  have e : tNN f T lo hi c = (if tNG f T c = 0 then (0, tNT f T c) else if (tNT f T c).2.2.1 = 2 then (if cVL f T (tNT f T c) < lo then (0, cRF 3 (tNT f T c)) else if cVL f T (tNT f T c) ≤ hi then (1, tNT f T c) else (0, cRF 3 (tNT f T c))) else (0, cRF 2 (tNT f T c))) := rfl
  rw [e]
  rcases tok (f := f) h3 p with ⟨g, r, q⟩ | ⟨g, r⟩
  · rw [if_neg (by rw [g]; decide)]
    generalize tNT f T c = c1 at r q ⊢
    generalize gT f T s = s1 at r ⊢
    by_cases k : c1.2.2.1 = 2
    · rw [if_pos k]
      by_cases a : cVL f T c1 < lo
      · rw [if_pos a]
        refine Or.inr ⟨rfl, fun sm => oB_bad (k := 3) r (by decide) ?_⟩
        have a' := Int32.lt_iff_toInt_lt.mp a
        unfold otC
        rw [if_pos r.2.1, if_pos (r.2.2.1.trans k), r.2.2.2.2.2.2.2.1 k, if_neg (fun h => by have h1 := h.1; omega)]
      · rw [if_neg a]
        have a' : ¬ (cVL f T c1).toInt < lo.toInt := fun h => a (Int32.lt_iff_toInt_lt.mpr h)
        by_cases b : cVL f T c1 ≤ hi
        · rw [if_pos b]
          exact Or.inl ⟨rfl, r, k, by show lo.toInt ≤ (cVL f T c1).toInt; omega, Int32.le_iff_toInt_le.mp b, q⟩
        · rw [if_neg b]
          have b' : ¬ (cVL f T c1).toInt ≤ hi.toInt := fun h => b (Int32.le_iff_toInt_le.mpr h)
          refine Or.inr ⟨rfl, fun sm => oB_bad (k := 3) r (by decide) ?_⟩
          unfold otC
          rw [if_pos r.2.1, if_pos (r.2.2.1.trans k), r.2.2.2.2.2.2.2.1 k, if_neg (fun h => b' h.2)]
    · rw [if_neg k]
      refine Or.inr ⟨rfl, fun sm => oB_bad (k := 2) r (by decide) ?_⟩
      unfold otC
      rw [if_pos r.2.1, if_neg (fun h => k (r.2.2.1.symm.trans h))]
  · rw [if_pos g]
    exact Or.inr ⟨rfl, fun sm => r.o⟩
theorem fiP_ok {f : Nat → Int32} {T : Nat} {c : CS5} {s : RSt} (r : R0 f T c s) (k : c.2.2.1 = 3) : fiP s = s := by
  unfold fiP
  rw [if_pos r.2.1, if_pos (r.2.2.1.trans k)]
theorem fiP_no {f : Nat → Int32} {T : Nat} {c : CS5} {s : RSt} (r : R0 f T c s) (k : ¬ c.2.2.1 = 3) : fiP s = fT 2 s := by
  unfold fiP
  rw [if_pos r.2.1, if_neg (fun h => k (r.2.2.1.symm.trans h))]
theorem stp {f : Nat → Int32} {T : Nat} {c : CS5} {s : RSt} (h3 : T ≤ 320) (p : RP T c s) : ((tNS f T c).1 = 1 ∧ R0 f T (tNS f T c).2 (fiP (gT f T s)) ∧ c.2.2.2.2 < (tNS f T c).2.2.2.2.2) ∨ ((tNS f T c).1 = 0 ∧ RF (tNS f T c).2 (fiP (gT f T s))) := by
  have e : tNS f T c = (if tNG f T c = 0 then (0, tNT f T c) else if (tNT f T c).2.2.1 = 3 then (1, tNT f T c) else (0, cRF 2 (tNT f T c))) := rfl
  rw [e]
  rcases tok (f := f) h3 p with ⟨g, r, q⟩ | ⟨g, r⟩
  · rw [if_neg (by rw [g]; decide)]
    generalize tNT f T c = c1 at r q ⊢
    generalize gT f T s = s1 at r ⊢
    by_cases k : c1.2.2.1 = 3
    · rw [if_pos k, fiP_ok r k]
      have hl := r.2.2.2.2.2.2.2.2.2 (by rw [k]; decide)
      exact Or.inl ⟨rfl, r, Nat.lt_of_le_of_lt q hl⟩
    · rw [if_neg k, fiP_no r k]
      exact Or.inr ⟨rfl, fT_bad r (by decide)⟩
  · rw [if_pos g]
    exact Or.inr ⟨rfl, r.i⟩
theorem num0 {f : Nat → Int32} {T : Nat} {c : CS5} {s : RSt} {lo hi : Int32} (h3 : T ≤ 320) (p : RP T c s) : ((tNN f T lo hi c).1 = 1 ∧ R0 f T (tNN f T lo hi c).2 (gT f T s) ∧ oS f T lo hi 0 (gT f T s) = gT f T (gT f T s) ∧ oV lo hi 0 (gT f T s) = cVL f T (tNN f T lo hi c).2 ∧ (lo.toInt ≤ (cVL f T (tNN f T lo hi c).2).toInt ∧ (cVL f T (tNN f T lo hi c).2).toInt ≤ hi.toInt) ∧ c.2.2.2.2 ≤ (tNN f T lo hi c).2.2.2.2.2) ∨ ((tNN f T lo hi c).1 = 0 ∧ RF (tNN f T lo hi c).2 (oS f T lo hi 0 (gT f T s))) := by
  rcases num (f := f) (lo := lo) (hi := hi) h3 p with ⟨a1, a2, a3, a4, a5, a6⟩ | ⟨a1, a2⟩
  · obtain ⟨b1, b2⟩ := oB_ok (sm := 0) a2 a3 a4 a5 (msk0 _)
    exact Or.inl ⟨a1, a2, by rw [oS_eq, b1], b2, ⟨a4, a5⟩, Nat.le_trans a6 a2.2.2.2.2.2.1⟩
  · refine Or.inr ⟨a1, ?_⟩
    rw [oS_eq, (a2 0).g]
    exact a2 0
-- names
theorem wm_pair {f : Nat → Int32} {F P i n : Nat} (h1 : strLen.getD i 0 = cutL.getD (n + 1) 0 - cutL.getD n 0) (h2 : ∀ k : Nat, k < strLen.getD i 0 → (strByt.getD i []).getD k 0 &&& 255 = letL.getD (cutL.getD n 0 + k) 0) : sYs f F P i ↔ wMt f F P n := by
  constructor
  · intro h
    exact ⟨h.1.trans h1, fun k hk => (h.2 k (by rw [← h.1]; exact hk)).trans (h2 k (by rw [← h.1]; exact hk))⟩
  · intro h
    exact ⟨h.1.trans h1.symm, fun k hk => (h.2 k (by rw [h.1, ← h1]; exact hk)).trans (h2 k hk).symm⟩
abbrev Wn (f : Nat → Int32) (c : CS5) (n : Nat) : Prop := c.2.2.1 = 1 ∧ wMt f c.2.2.2.1 c.2.2.2.2 n
theorem isn0 {f : Nat → Int32} {F P i n : Nat} {x3 : Int32} (hw : sYs f F P i ↔ wMt f F P n) : isN f F P x3 i = 0 ↔ ¬ (x3 = 1 ∧ wMt f F P n) := by
  unfold isN
  by_cases a : x3 = 1
  · rw [if_pos a]
    by_cases b : sYs f F P i
    · rw [if_pos b]; exact ⟨fun h => absurd h (by decide), fun h => absurd ⟨a, hw.mp b⟩ h⟩
    · rw [if_neg b]; exact ⟨fun _ h => b (hw.mpr h.2), fun _ => rfl⟩
  · rw [if_neg a]; exact ⟨fun _ h => a h.1, fun _ => rfl⟩
theorem wm_key : ∀ n : Fin 10, ∀ m : Fin 10, n.val = m.val ∨ ¬ cutL.getD (n.val + 1) 0 - cutL.getD n.val 0 = cutL.getD (m.val + 1) 0 - cutL.getD m.val 0 ∨ ¬ ∀ k : Fin 8, (k.val < cutL.getD (n.val + 1) 0 - cutL.getD n.val 0 → letL.getD (cutL.getD n.val 0 + k.val) 0 = letL.getD (cutL.getD m.val 0 + k.val) 0) := by decide +kernel
theorem wm_ex {f : Nat → Int32} {a b n m : Nat} (hn : n < 10) (hm : m < 10) (h1 : wMt f a b n) (h2 : wMt f a b m) : n = m := by
  rcases wm_key ⟨n, hn⟩ ⟨m, hm⟩ with h | h | h
  · exact h
  · exact absurd (h1.1.symm.trans h2.1) h
  · exact absurd (fun (k : Fin 8) hk => (h1.2 k.val (by rw [h1.1]; exact hk)).symm.trans (h2.2 k.val (by rw [h1.1]; exact hk))) h
theorem nm_skip {f : Nat → Int32} {a b : Nat} : ∀ n : Nat, n ≤ 10 → (∀ m : Nat, m < n → ¬ wMt f a b m) → nmF f a b 10 = nmF f a b (10 - n) := by
  intro n
  induction n with
  | zero => intro _ _; rfl
  | succ n ih =>
    intro h1 h2
    rw [ih (by omega) (fun m hm => h2 m (by omega)), nmF_n (n := n) (by omega) (h2 n (by omega))]
theorem nm_w {f : Nat → Int32} {a b n : Nat} (hn : n < 10) (h : wMt f a b n) : nmF f a b 10 = nI n := by
  rw [nm_skip n (by omega) (fun m hm hw => by have := wm_ex (by omega) hn hw h; omega), nmF_y hn h]
theorem nm_0 {f : Nat → Int32} {a b : Nat} (h : ∀ m : Nat, m < 10 → ¬ wMt f a b m) : nmF f a b 10 = -4 := by
  rw [nm_skip 10 (by omega) h]
  rfl
theorem nT_eq {f : Nat → Int32} {T : Nat} {c : CS5} {s : RSt} (r : R0 f T c s) : nT f s = nmS f c.2.2.2.1 c.2.2.2.2 c.2.2.1 := by
  unfold nT
  rw [r.2.2.2.1, r.2.2.2.2.1, r.2.2.1]
theorem nT_w {f : Nat → Int32} {T n : Nat} {c : CS5} {s : RSt} (r : R0 f T c s) (hn : n < 10) (h : Wn f c n) : nT f s = nI n := by
  rw [nT_eq r]
  unfold nmS
  rw [if_pos h.1]
  exact nm_w hn h.2
theorem nT_0 {f : Nat → Int32} {T : Nat} {c : CS5} {s : RSt} (r : R0 f T c s) (h : ∀ m : Nat, m < 10 → ¬ Wn f c m) : nT f s = -4 := by
  rw [nT_eq r]
  unfold nmS
  by_cases a : c.2.2.1 = 1
  · rw [if_pos a]
    exact nm_0 (fun m hm hw => h m hm ⟨a, hw⟩)
  · rw [if_neg a]
theorem nT_hi {f : Nat → Int32} {T : Nat} {c : CS5} {s : RSt} (r : R0 f T c s) (h : ∀ m : Nat, m < 4 → ¬ Wn f c m) : ¬ (0 ≤ (nT f s).toInt ∧ (nT f s).toInt ≤ 3) := by
  by_cases e : ∃ n : Nat, n < 10 ∧ Wn f c n
  · obtain ⟨n, hn, hw⟩ := e
    rw [nT_w r hn hw, nI_toInt (by omega)]
    intro h9
    exact h n (by omega) hw
  · rw [nT_0 r (fun m hm hw => e ⟨m, hm, hw⟩)]
    decide
theorem nT_lo {f : Nat → Int32} {T : Nat} {c : CS5} {s : RSt} (r : R0 f T c s) (h : ∀ m : Nat, m < 10 → 4 ≤ m → ¬ Wn f c m) : ¬ (0 : Int32) ≤ nT f s - 4 := by
  by_cases e : ∃ n : Nat, n < 10 ∧ Wn f c n
  · obtain ⟨n, hn, hw⟩ := e
    rw [nT_w r hn hw]
    rcases (show n = 0 ∨ n = 1 ∨ n = 2 ∨ n = 3 ∨ 4 ≤ n by omega) with g|g|g|g|g
    · subst g; decide
    · subst g; decide
    · subst g; decide
    · subst g; decide
    · exact absurd hw (h n hn g)
  · rw [nT_0 r (fun m hm hw => e ⟨m, hm, hw⟩)]
    decide
theorem kd_sim {f : Nat → Int32} {T : Nat} {c : CS5} {s : RSt} (r : R0 f T c s) : (cKD f c = -4 ∧ ¬ (0 : Int32) ≤ nT f s - 4) ∨ (¬ cKD f c = -4 ∧ (0 : Int32) ≤ nT f s - 4 ∧ nT f s - 4 = cKD f c) := by
  unfold cKD kdF
  have i4 := isn0 (f := f) (F := c.2.2.2.1) (P := c.2.2.2.2) (x3 := c.2.2.1) (i := 3) (n := 4) (wm_pair (by decide) (by decide +kernel))
  have i5 := isn0 (f := f) (F := c.2.2.2.1) (P := c.2.2.2.2) (x3 := c.2.2.1) (i := 4) (n := 5) (wm_pair (by decide) (by decide +kernel))
  have i6 := isn0 (f := f) (F := c.2.2.2.1) (P := c.2.2.2.2) (x3 := c.2.2.1) (i := 5) (n := 6) (wm_pair (by decide) (by decide +kernel))
  have i7 := isn0 (f := f) (F := c.2.2.2.1) (P := c.2.2.2.2) (x3 := c.2.2.1) (i := 6) (n := 7) (wm_pair (by decide) (by decide +kernel))
  have i8 := isn0 (f := f) (F := c.2.2.2.1) (P := c.2.2.2.2) (x3 := c.2.2.1) (i := 7) (n := 8) (wm_pair (by decide) (by decide +kernel))
  have i9 := isn0 (f := f) (F := c.2.2.2.1) (P := c.2.2.2.2) (x3 := c.2.2.1) (i := 8) (n := 9) (wm_pair (by decide) (by decide +kernel))
  by_cases h4 : Wn f c 4
  · rw [if_neg (fun e => i4.mp e h4), nT_w r (by decide) h4]; exact Or.inr ⟨by decide, by decide, by decide⟩
  rw [if_pos (i4.mpr h4)]
  by_cases h5 : Wn f c 5
  · rw [if_neg (fun e => i5.mp e h5), nT_w r (by decide) h5]; exact Or.inr ⟨by decide, by decide, by decide⟩
  rw [if_pos (i5.mpr h5)]
  by_cases h6 : Wn f c 6
  · rw [if_neg (fun e => i6.mp e h6), nT_w r (by decide) h6]; exact Or.inr ⟨by decide, by decide, by decide⟩
  rw [if_pos (i6.mpr h6)]
  by_cases h7 : Wn f c 7
  · rw [if_neg (fun e => i7.mp e h7), nT_w r (by decide) h7]; exact Or.inr ⟨by decide, by decide, by decide⟩
  rw [if_pos (i7.mpr h7)]
  by_cases h8 : Wn f c 8
  · rw [if_neg (fun e => i8.mp e h8), nT_w r (by decide) h8]; exact Or.inr ⟨by decide, by decide, by decide⟩
  rw [if_pos (i8.mpr h8)]
  by_cases h9 : Wn f c 9
  · rw [if_neg (fun e => i9.mp e h9), nT_w r (by decide) h9]; exact Or.inr ⟨by decide, by decide, by decide⟩
  rw [if_pos (i9.mpr h9)]
  refine Or.inl ⟨rfl, nT_lo r (fun m hm h => ?_)⟩
  rcases (show m = 4 ∨ m = 5 ∨ m = 6 ∨ m = 7 ∨ m = 8 ∨ m = 9 by omega) with g|g|g|g|g|g <;> subst g <;> assumption
-- rows
def XR (a b : Int32) : Prop := (a = b ∧ 0 ≤ a.toInt) ∨ (a = -4 ∧ b = -1)
theorem XR.up {a b v : Int32} (h : XR a b) (hv : 0 ≤ v.toInt) : XR (mx a v) (rmX v b) := by
  unfold mx rmX
  rcases h with ⟨h1, h2⟩ | ⟨h1, h2⟩
  · subst h1
    by_cases q : v ≤ a
    · have q' := Int32.le_iff_toInt_le.mp q
      rw [if_pos q, if_neg (by omega)]; exact Or.inl ⟨rfl, h2⟩
    · have q' : ¬ v.toInt ≤ a.toInt := fun h => q (Int32.le_iff_toInt_le.mpr h)
      rw [if_neg q, if_pos (by omega)]; exact Or.inl ⟨rfl, hv⟩
  · subst h1 h2
    have e4 : (-4 : Int32).toInt = -4 := by decide
    have e1 : (-1 : Int32).toInt = -1 := by decide
    rw [if_pos (by omega), if_neg (fun h => by have h' := Int32.le_iff_toInt_le.mp h; omega)]
    exact Or.inl ⟨rfl, hv⟩
theorem XR.lt {a b : Int32} {n : Nat} (h : XR a b) (hn : n ≤ 10) : b.toInt < (nI n).toInt ↔ a.toInt < (n : Int) := by
  rw [nI_toInt (by omega)]
  rcases h with ⟨h1, h2⟩ | ⟨h1, h2⟩
  · rw [h1]
  · rw [h1, h2, show (-4 : Int32).toInt = -4 by decide, show (-1 : Int32).toInt = -1 by decide]
    omega
def RW (st ca xs xb : Int32) (N B D : Nat) (g1 g2 g3 g4 g5 g6 : Nat → Int32) (rs rb : Nat) (hs cb ys yb : Int32) (fp : Nat → Int32) : Prop :=
  (st = hs ∧ ca = cb ∧ XR xs ys ∧ XR xb yb ∧ N = rs ∧ B = rb) ∧ (N ≤ 10 ∧ B ≤ 6 ∧ 1 ≤ D ∧ D ≤ 9) ∧ fp 48 = nI D - 5 ∧ (∀ i : Nat, i < N → fp (2 * i) = g1 i ∧ fp (2 * i + 1) = g2 i) ∧ (∀ i : Nat, i < 10 → fp (38 + i) = g3 i) ∧ (∀ i : Nat, i < B → fp (20 + 3 * i) = g4 i ∧ fp (20 + 3 * i + 1) = g5 i ∧ fp (20 + 3 * i + 2) = g6 i)
abbrev CW2 : Type := Int32 × Int32 × Int32 × Int32 × Nat × Nat × Nat × (Nat → Int32) × (Nat → Int32) × (Nat → Int32) × (Nat → Int32) × (Nat → Int32) × (Nat → Int32)
abbrev LS2 : Type := Nat × Nat × Int32 × Int32 × Int32 × Int32 × (Nat → Int32)
def RW2 (q : CW2) (L : LS2) : Prop := RW q.1 q.2.1 q.2.2.1 q.2.2.2.1 q.2.2.2.2.1 q.2.2.2.2.2.1 q.2.2.2.2.2.2.1 q.2.2.2.2.2.2.2.1 q.2.2.2.2.2.2.2.2.1 q.2.2.2.2.2.2.2.2.2.1 q.2.2.2.2.2.2.2.2.2.2.1 q.2.2.2.2.2.2.2.2.2.2.2.1 q.2.2.2.2.2.2.2.2.2.2.2.2 L.1 L.2.1 L.2.2.1 L.2.2.2.1 L.2.2.2.2.1 L.2.2.2.2.2.1 L.2.2.2.2.2.2
theorem upd_n {f : Nat → Int32} {k j : Nat} {v : Int32} (h : ¬ j = k) : upd f k v j = f j := if_neg h
theorem upd_y {f : Nat → Int32} {k : Nat} {v : Int32} : upd f k v k = v := if_pos rfl
theorem cl_nI {x : Int32} (h : 0 ≤ x.toInt) : nI x.toNatClampNeg = x := Int32.ofNat_toNatClampNeg x (Int32.le_iff_toInt_le.mpr h)
def LOK (f : Nat → Int32) (T P : Nat) (A : Int32 × CW) (L : LSt) : Prop := (A.1 = 1 ∧ (∃ s2 : RSt, L.1 = gT f T s2 ∧ R0 f T A.2.1 s2) ∧ P < A.2.1.2.2.2.2 ∧ RW2 A.2.2 L.2) ∨ (A.1 = 0 ∧ RF A.2.1 L.1)

theorem L_start {f : Nat → Int32} {T : Nat} {c : CS5} {s : RSt} (h3 : T ≤ 320) (r : R0 f T c s) {st ca xs xb : Int32} {N B D : Nat} {g1 g2 g3 g4 g5 g6 : Nat → Int32} {rs rb : Nat} {hs cb ys yb : Int32} {fp : Nat → Int32} (w : RW st ca xs xb N B D g1 g2 g3 g4 g5 g6 rs rb hs cb ys yb fp) :
    LOK f T c.2.2.2.2 ((cST f T c st D).1, (cST f T c st D).2.1, (cST f T c st D).2.2.1, ca, xs, xb, N, B, (cST f T c st D).2.2.2, g1, g2, g3, g4, g5, g6) (fiS f T (rmS f T 0 s rs hs cb ys yb fp).1, (rmS f T 0 s rs hs cb ys yb fp).2.1, rb, (rmS f T 0 s rs hs cb ys yb fp).2.2.1, (rmS f T 0 s rs hs cb ys yb fp).2.2.2.1, (rmS f T 0 s rs hs cb ys yb fp).2.2.2.2.1, (rmS f T 0 s rs hs cb ys yb fp).2.2.2.2.2.1, (rmS f T 0 s rs hs cb ys yb fp).2.2.2.2.2.2) := by
  obtain ⟨⟨w1, w2, w3, w4, w5, w6⟩, w7, w8, w9, w10, w11⟩ := w
  have e1 : rmS f T 0 s rs hs cb ys yb fp = (oS f T 1 9 0 (gT f T (rmA 0 rs hs s)), rs, 1, cb, ys, yb, upd fp 48 (oV 1 9 0 (gT f T (rmA 0 rs hs s)) - 5)) := by
    unfold rmS
    rw [if_pos rfl]
  rw [e1]
  by_cases h : hs = 0
  · have ea : rmA 0 rs hs s = s := by
      unfold rmA
      rw [if_pos rfl, if_pos h, if_neg (by decide)]
    have ec : cST f T c st D = (if (tNN f T 1 9 c).1 = 0 then (0, (tNN f T 1 9 c).2, 1, D) else ((tNS f T (tNN f T 1 9 c).2).1, (tNS f T (tNN f T 1 9 c).2).2, 1, (cVL f T (tNN f T 1 9 c).2).toNatClampNeg)) := by
      unfold cST
      rw [if_pos (w1.trans h)]
    rw [ec, ea]
    rcases num0 (f := f) (lo := 1) (hi := 9) h3 r.p with ⟨a1, a2, a3, a4, a5, a6⟩ | ⟨a1, a2⟩
    · rw [if_neg (by rw [a1]; decide), a3, a4]
      have b1 : (1 : Int32).toInt = 1 := by decide
      have b9 : (9 : Int32).toInt = 9 := by decide
      have hd : (cVL f T (tNN f T 1 9 c).2).toNatClampNeg = (cVL f T (tNN f T 1 9 c).2).toInt.toNat := rfl
      rcases stp (f := f) h3 a2.p with ⟨p1, p2, p3⟩ | ⟨p1, p2⟩
      · unfold LOK; dsimp only; rw [fiS_eq]; refine Or.inl ⟨p1, ⟨_, rfl, p2⟩, Nat.lt_of_le_of_lt a6 p3, ?_⟩
        unfold RW2 RW; dsimp only
        refine ⟨⟨rfl, w2, w3, w4, w5, w6⟩, ⟨w7.1, w7.2.1, ?_, ?_⟩, ?_, fun i hi => ?_, fun i hi => ?_, fun i hi => ?_⟩
        · show 1 ≤ (cVL f T (tNN f T 1 9 c).2).toNatClampNeg
          omega
        · show (cVL f T (tNN f T 1 9 c).2).toNatClampNeg ≤ 9
          omega
        · show upd fp 48 (cVL f T (tNN f T 1 9 c).2 - 5) 48 = nI (cVL f T (tNN f T 1 9 c).2).toNatClampNeg - 5
          rw [upd_y, cl_nI (by omega)]
        · have hi : i < N := hi
          have q1 : upd fp 48 (cVL f T (tNN f T 1 9 c).2 - 5) (2 * i) = fp (2 * i) := upd_n (by omega)
          have q2 : upd fp 48 (cVL f T (tNN f T 1 9 c).2 - 5) (2 * i + 1) = fp (2 * i + 1) := upd_n (by omega)
          exact ⟨q1.trans (w9 i hi).1, q2.trans (w9 i hi).2⟩
        · have q1 : upd fp 48 (cVL f T (tNN f T 1 9 c).2 - 5) (38 + i) = fp (38 + i) := upd_n (by omega)
          exact q1.trans (w10 i hi)
        · have hi : i < B := hi
          have q1 : upd fp 48 (cVL f T (tNN f T 1 9 c).2 - 5) (20 + 3 * i) = fp (20 + 3 * i) := upd_n (by omega)
          have q2 : upd fp 48 (cVL f T (tNN f T 1 9 c).2 - 5) (20 + 3 * i + 1) = fp (20 + 3 * i + 1) := upd_n (by omega)
          have q3 : upd fp 48 (cVL f T (tNN f T 1 9 c).2 - 5) (20 + 3 * i + 2) = fp (20 + 3 * i + 2) := upd_n (by omega)
          exact ⟨q1.trans (w11 i hi).1, q2.trans (w11 i hi).2.1, q3.trans (w11 i hi).2.2⟩
      · unfold LOK; dsimp only; rw [fiS_eq]; exact Or.inr ⟨p1, p2.G⟩
    · rw [if_pos a1]
      unfold LOK; dsimp only; rw [fiS_eq]; exact Or.inr ⟨rfl, a2.i.G⟩
  · have ea : rmA 0 rs hs s = fT 4 s := by
      unfold rmA
      rw [if_pos rfl, if_neg h, if_neg (by decide)]
    have ec : cST f T c st D = (0, cRF 4 c, st, D) := by
      unfold cST
      rw [if_neg (fun e => h (w1.symm.trans e))]
    rw [ec, ea]
    have q : RF (cRF 4 c) (fT 4 s) := fT_bad r (by decide)
    unfold LOK; dsimp only; rw [fiS_eq]; exact Or.inr ⟨rfl, q.G.s.i.G⟩
theorem L_stretch {f : Nat → Int32} {T : Nat} {c : CS5} {s : RSt} (h3 : T ≤ 320) (r : R0 f T c s) {st ca xs xb : Int32} {N B D : Nat} {g1 g2 g3 g4 g5 g6 : Nat → Int32} {rs rb : Nat} {hs cb ys yb : Int32} {fp : Nat → Int32} (w : RW st ca xs xb N B D g1 g2 g3 g4 g5 g6 rs rb hs cb ys yb fp) :
    LOK f T c.2.2.2.2 ((cSR f T c N g1 g2).1, (cSR f T c N g1 g2).2.1, st, ca, xs, xb, (cSR f T c N g1 g2).2.2.1, B, D, (cSR f T c N g1 g2).2.2.2.1, (cSR f T c N g1 g2).2.2.2.2, g3, g4, g5, g6) (fiS f T (rmS f T 1 s rs hs cb ys yb fp).1, (rmS f T 1 s rs hs cb ys yb fp).2.1, rb, (rmS f T 1 s rs hs cb ys yb fp).2.2.1, (rmS f T 1 s rs hs cb ys yb fp).2.2.2.1, (rmS f T 1 s rs hs cb ys yb fp).2.2.2.2.1, (rmS f T 1 s rs hs cb ys yb fp).2.2.2.2.2.1, (rmS f T 1 s rs hs cb ys yb fp).2.2.2.2.2.2) := by
  obtain ⟨⟨w1, w2, w3, w4, w5, w6⟩, w7, w8, w9, w10, w11⟩ := w
  have e1 : rmS f T 1 s rs hs cb ys yb fp = (oS f T 0 9 0 (oS f T 0 9 0 (gT f T (rmA 1 rs hs s))), rs + 1, hs, cb, ys, yb, upd (upd fp (2 * rmI rs (gT f T (rmA 1 rs hs s))) (oV 0 9 0 (gT f T (rmA 1 rs hs s)))) (2 * rmI rs (gT f T (rmA 1 rs hs s)) + 1) (oV 0 9 0 (oS f T 0 9 0 (gT f T (rmA 1 rs hs s))))) := by
    unfold rmS
    rw [if_neg (by decide), if_pos rfl]
  have ea : rmA 1 rs hs s = (if rs = 10 then fT 5 s else s) := by
    unfold rmA
    rw [if_neg (by decide), if_pos rfl]
  rw [e1, ea]
  by_cases h : N < 10
  · have ec : cSR f T c N g1 g2 = (if (tNN f T 0 9 c).1 = 0 then (0, (tNN f T 0 9 c).2, N, g1, g2) else if (tNN f T 0 9 (tNN f T 0 9 c).2).1 = 0 then (0, (tNN f T 0 9 (tNN f T 0 9 c).2).2, N, g1, g2) else ((tNS f T (tNN f T 0 9 (tNN f T 0 9 c).2).2).1, (tNS f T (tNN f T 0 9 (tNN f T 0 9 c).2).2).2, N + 1, upd g1 N (cVL f T (tNN f T 0 9 c).2), upd g2 N (cVL f T (tNN f T 0 9 (tNN f T 0 9 c).2).2))) := by
      unfold cSR
      rw [if_pos h]
    rw [ec, if_neg (show ¬ rs = 10 by omega)]
    rcases num0 (f := f) (lo := 0) (hi := 9) h3 r.p with ⟨a1, a2, a3, a4, a5, a6⟩ | ⟨a1, a2⟩
    · rw [if_neg (by rw [a1]; decide), a3, a4]
      have ei : rmI rs (gT f T s) = rs := by
        unfold rmI
        rw [if_pos a2.2.1]
      rw [ei]
      rcases num0 (f := f) (lo := 0) (hi := 9) h3 a2.p with ⟨b1, b2, b3, b4, b5, b6⟩ | ⟨b1, b2⟩
      · rw [if_neg (by rw [b1]; decide), b3, b4]
        rcases stp (f := f) h3 b2.p with ⟨p1, p2, p3⟩ | ⟨p1, p2⟩
        · unfold LOK; dsimp only; rw [fiS_eq]; refine Or.inl ⟨p1, ⟨_, rfl, p2⟩, Nat.lt_of_le_of_lt (Nat.le_trans a6 b6) p3, ?_⟩
          unfold RW2 RW; dsimp only
          refine ⟨⟨w1, w2, w3, w4, congrArg (· + 1) w5, w6⟩, ⟨by show N + 1 ≤ 10; omega, w7.2.1, w7.2.2.1, w7.2.2.2⟩, ?_, fun i hi => ?_, fun i hi => ?_, fun i hi => ?_⟩
          · exact (upd_n (by omega)).trans ((upd_n (by omega)).trans w8)
          · have hi : i < N + 1 := hi
            show upd (upd fp (2 * rs) (cVL f T (tNN f T 0 9 c).2)) (2 * rs + 1) (cVL f T (tNN f T 0 9 (tNN f T 0 9 c).2).2) (2 * i) = upd g1 N (cVL f T (tNN f T 0 9 c).2) i ∧ upd (upd fp (2 * rs) (cVL f T (tNN f T 0 9 c).2)) (2 * rs + 1) (cVL f T (tNN f T 0 9 (tNN f T 0 9 c).2).2) (2 * i + 1) = upd g2 N (cVL f T (tNN f T 0 9 (tNN f T 0 9 c).2).2) i
            by_cases k : i = N
            · rw [k, w5, upd_y, upd_y, upd_y, upd_n (show ¬ 2 * rs = 2 * rs + 1 by omega), upd_y]
              exact ⟨rfl, rfl⟩
            · rw [upd_n (show ¬ 2 * i = 2 * rs + 1 by omega), upd_n (show ¬ 2 * i = 2 * rs by omega), upd_n (show ¬ 2 * i + 1 = 2 * rs + 1 by omega), upd_n (show ¬ 2 * i + 1 = 2 * rs by omega), upd_n k, upd_n k]
              exact w9 i (by omega)
          · exact (upd_n (by omega)).trans ((upd_n (by omega)).trans (w10 i hi))
          · have hi : i < B := hi
            exact ⟨(upd_n (by omega)).trans ((upd_n (by omega)).trans (w11 i hi).1), (upd_n (by omega)).trans ((upd_n (by omega)).trans (w11 i hi).2.1), (upd_n (by omega)).trans ((upd_n (by omega)).trans (w11 i hi).2.2)⟩
        · unfold LOK; dsimp only; rw [fiS_eq]; exact Or.inr ⟨p1, p2.G⟩
      · rw [if_pos b1]
        unfold LOK; dsimp only; rw [fiS_eq]; exact Or.inr ⟨rfl, b2.i.G⟩
    · rw [if_pos a1]
      unfold LOK; dsimp only; rw [fiS_eq]; exact Or.inr ⟨rfl, a2.s.i.G⟩
  · have ec : cSR f T c N g1 g2 = (0, cRF 5 c, N, g1, g2) := by
      unfold cSR
      rw [if_neg h]
    rw [ec, if_pos (show rs = 10 by omega)]
    have q : RF (cRF 5 c) (fT 5 s) := fT_bad r (by decide)
    unfold LOK; dsimp only; rw [fiS_eq]; exact Or.inr ⟨rfl, q.G.s.s.i.G⟩
theorem L_bearer {f : Nat → Int32} {T : Nat} {c : CS5} {s : RSt} (h3 : T ≤ 320) (r : R0 f T c s) {st ca xs xb : Int32} {N B D : Nat} {g1 g2 g3 g4 g5 g6 : Nat → Int32} {rs rb : Nat} {hs cb ys yb : Int32} {fp : Nat → Int32} (w : RW st ca xs xb N B D g1 g2 g3 g4 g5 g6 rs rb hs cb ys yb fp) :
    LOK f T c.2.2.2.2 ((cBR f T c B g4 g5 g6).1, (cBR f T c B g4 g5 g6).2.1, st, ca, xs, xb, N, (cBR f T c B g4 g5 g6).2.2.1, D, g1, g2, g3, (cBR f T c B g4 g5 g6).2.2.2.1, (cBR f T c B g4 g5 g6).2.2.2.2.1, (cBR f T c B g4 g5 g6).2.2.2.2.2) (fiS f T (rbS f T s rb fp).1, rs, (rbS f T s rb fp).2.1, hs, cb, ys, yb, (rbS f T s rb fp).2.2) := by
  obtain ⟨⟨w1, w2, w3, w4, w5, w6⟩, w7, w8, w9, w10, w11⟩ := w
  by_cases h : B < 6
  · have e1 : rbS f T s rb fp = (if (0 : Int32) ≤ nT f (gT f T s) - 4 then
    (oS f T 0 9 0 (oS f T 0 9 0 (gT f T (gT f T s))), rb + 1, upd (upd (upd fp (20 + 3 * rb) (nT f (gT f T s) - 4)) (20 + 3 * rb + 1) (oV 0 9 0 (gT f T (gT f T s)))) (20 + 3 * rb + 2) (oV 0 9 0 (oS f T 0 9 0 (gT f T (gT f T s)))))
  else (fT 2 (gT f T s), rb, fp)) := by
      unfold rbS
      rw [if_neg (show ¬ rb = 6 by omega)]
    have ec : cBR f T c B g4 g5 g6 = (if tNG f T c = 0 then (0, tNT f T c, B, g4, g5, g6)
     else if cKD f (tNT f T c) = -4 then (0, cRF 2 (tNT f T c), B, g4, g5, g6)
     else if (tNN f T 0 9 (tNT f T c)).1 = 0 then (0, (tNN f T 0 9 (tNT f T c)).2, B, g4, g5, g6)
     else if (tNN f T 0 9 (tNN f T 0 9 (tNT f T c)).2).1 = 0 then (0, (tNN f T 0 9 (tNN f T 0 9 (tNT f T c)).2).2, B, g4, g5, g6)
     else ((tNS f T (tNN f T 0 9 (tNN f T 0 9 (tNT f T c)).2).2).1, (tNS f T (tNN f T 0 9 (tNN f T 0 9 (tNT f T c)).2).2).2, B + 1, upd g4 B (cKD f (tNT f T c)), upd g5 B (cVL f T (tNN f T 0 9 (tNT f T c)).2), upd g6 B (cVL f T (tNN f T 0 9 (tNN f T 0 9 (tNT f T c)).2).2))) := by
      unfold cBR
      rw [if_pos h]
    rw [e1, ec]
    rcases tok (f := f) h3 r.p with ⟨k1, k2, k3⟩ | ⟨k1, k2⟩
    · rw [if_neg (show ¬ tNG f T c = 0 by rw [k1]; decide)]
      rcases kd_sim k2 with ⟨j1, j2⟩ | ⟨j1, j2, j3⟩
      · rw [if_pos j1, if_neg j2]
        have q : RF (cRF 2 (tNT f T c)) (fT 2 (gT f T s)) := fT_bad k2 (by decide)
        unfold LOK; dsimp only; rw [fiS_eq]; exact Or.inr ⟨rfl, q.i.G⟩
      · rw [if_neg j1, if_pos j2, j3]
        rcases num0 (f := f) (lo := 0) (hi := 9) h3 k2.p with ⟨a1, a2, a3, a4, a5, a6⟩ | ⟨a1, a2⟩
        · rw [if_neg (by rw [a1]; decide), a3, a4]
          rcases num0 (f := f) (lo := 0) (hi := 9) h3 a2.p with ⟨b1, b2, b3, b4, b5, b6⟩ | ⟨b1, b2⟩
          · rw [if_neg (by rw [b1]; decide), b3, b4]
            rcases stp (f := f) h3 b2.p with ⟨p1, p2, p3⟩ | ⟨p1, p2⟩
            · unfold LOK; dsimp only; rw [fiS_eq]; refine Or.inl ⟨p1, ⟨_, rfl, p2⟩, Nat.lt_of_le_of_lt (Nat.le_trans (Nat.le_trans k3 k2.2.2.2.2.2.1) (Nat.le_trans a6 b6)) p3, ?_⟩
              unfold RW2 RW; dsimp only
              refine ⟨⟨w1, w2, w3, w4, w5, congrArg (· + 1) w6⟩, ⟨w7.1, by show B + 1 ≤ 6; omega, w7.2.2.1, w7.2.2.2⟩, ?_, fun i hi => ?_, fun i hi => ?_, fun i hi => ?_⟩
              · exact (upd_n (by omega)).trans ((upd_n (by omega)).trans ((upd_n (by omega)).trans w8))
              · have hi : i < N := hi
                exact ⟨(upd_n (by omega)).trans ((upd_n (by omega)).trans ((upd_n (by omega)).trans (w9 i hi).1)), (upd_n (by omega)).trans ((upd_n (by omega)).trans ((upd_n (by omega)).trans (w9 i hi).2))⟩
              · exact (upd_n (by omega)).trans ((upd_n (by omega)).trans ((upd_n (by omega)).trans (w10 i hi)))
              · have hi : i < B + 1 := hi
                generalize cKD f (tNT f T c) = v1
                generalize cVL f T (tNN f T 0 9 (tNN f T 0 9 (tNT f T c)).2).2 = v3
                generalize cVL f T (tNN f T 0 9 (tNT f T c)).2 = v2
                show upd (upd (upd fp (20 + 3 * rb) v1) (20 + 3 * rb + 1) v2) (20 + 3 * rb + 2) v3 (20 + 3 * i) = upd g4 B v1 i ∧ upd (upd (upd fp (20 + 3 * rb) v1) (20 + 3 * rb + 1) v2) (20 + 3 * rb + 2) v3 (20 + 3 * i + 1) = upd g5 B v2 i ∧ upd (upd (upd fp (20 + 3 * rb) v1) (20 + 3 * rb + 1) v2) (20 + 3 * rb + 2) v3 (20 + 3 * i + 2) = upd g6 B v3 i
                by_cases k : i = B
                · rw [k, w6, upd_y, upd_y, upd_y, upd_y, upd_n (show ¬ 20 + 3 * rb = 20 + 3 * rb + 2 by omega), upd_n (show ¬ 20 + 3 * rb = 20 + 3 * rb + 1 by omega), upd_y, upd_n (show ¬ 20 + 3 * rb + 1 = 20 + 3 * rb + 2 by omega), upd_y]
                  exact ⟨rfl, rfl, rfl⟩
                · rw [upd_n k, upd_n k, upd_n k]
                  exact ⟨(upd_n (by omega)).trans ((upd_n (by omega)).trans ((upd_n (by omega)).trans (w11 i (by omega)).1)), (upd_n (by omega)).trans ((upd_n (by omega)).trans ((upd_n (by omega)).trans (w11 i (by omega)).2.1)), (upd_n (by omega)).trans ((upd_n (by omega)).trans ((upd_n (by omega)).trans (w11 i (by omega)).2.2))⟩
            · unfold LOK; dsimp only; rw [fiS_eq]; exact Or.inr ⟨p1, p2.G⟩
          · rw [if_pos b1]
            unfold LOK; dsimp only; rw [fiS_eq]; exact Or.inr ⟨rfl, b2.i.G⟩
        · rw [if_pos a1]
          unfold LOK; dsimp only; rw [fiS_eq]; exact Or.inr ⟨rfl, a2.s.i.G⟩
    · rw [if_pos k1]
      split
      · unfold LOK; dsimp only; rw [fiS_eq]; exact Or.inr ⟨rfl, k2.G.s.s.i.G⟩
      · unfold LOK; dsimp only; rw [fiS_eq]; exact Or.inr ⟨rfl, k2.f.i.G⟩
  · have e1 : rbS f T s rb fp = (fT 5 s, rb, fp) := by
      unfold rbS
      rw [if_pos (show rb = 6 by omega)]
    have ec : cBR f T c B g4 g5 g6 = (0, cRF 5 c, B, g4, g5, g6) := by
      unfold cBR
      rw [if_neg h]
    rw [e1, ec]
    have q : RF (cRF 5 c) (fT 5 s) := fT_bad r (by decide)
    unfold LOK; dsimp only; rw [fiS_eq]; exact Or.inr ⟨rfl, q.i.G⟩
theorem L_carry {f : Nat → Int32} {T : Nat} {c : CS5} {s : RSt} (h3 : T ≤ 320) (r : R0 f T c s) {st ca xs xb : Int32} {N B D : Nat} {g1 g2 g3 g4 g5 g6 : Nat → Int32} {rs rb : Nat} {hs cb ys yb : Int32} {fp : Nat → Int32} (w : RW st ca xs xb N B D g1 g2 g3 g4 g5 g6 rs rb hs cb ys yb fp) :
    LOK f T c.2.2.2.2 ((cCR f T c ca xs xb g3).1, (cCR f T c ca xs xb g3).2.1, st, (cCR f T c ca xs xb g3).2.2.1, (cCR f T c ca xs xb g3).2.2.2.1, (cCR f T c ca xs xb g3).2.2.2.2.1, N, B, D, g1, g2, (cCR f T c ca xs xb g3).2.2.2.2.2, g4, g5, g6) (fiS f T (rmS f T 3 s rs hs cb ys yb fp).1, (rmS f T 3 s rs hs cb ys yb fp).2.1, rb, (rmS f T 3 s rs hs cb ys yb fp).2.2.1, (rmS f T 3 s rs hs cb ys yb fp).2.2.2.1, (rmS f T 3 s rs hs cb ys yb fp).2.2.2.2.1, (rmS f T 3 s rs hs cb ys yb fp).2.2.2.2.2.1, (rmS f T 3 s rs hs cb ys yb fp).2.2.2.2.2.2) := by
  obtain ⟨⟨w1, w2, w3, w4, w5, w6⟩, w7, w8, w9, w10, w11⟩ := w
  have ea : rmA 3 rs hs s = s := by
    unfold rmA
    rw [if_neg (by decide), if_neg (by decide)]
  have e1 : rmS f T 3 s rs hs cb ys yb fp = (oS f T 0 5 0 (oS f T 0 9 cb (gT f T s)), rs, hs, cb ||| ((1 : Int32) <<< (oV 0 9 cb (gT f T s) &&& 31)), rmX (oV 0 9 cb (gT f T s)) ys, rmX (oV 0 5 0 (oS f T 0 9 cb (gT f T s))) yb, upd fp (38 + (oV 0 9 cb (gT f T s)).toNatClampNeg) (oV 0 5 0 (oS f T 0 9 cb (gT f T s)))) := by
    unfold rmS
    rw [if_neg (by decide), if_neg (by decide), ea]
  rw [e1]
  unfold cCR
  subst w2
  rcases num (f := f) (lo := 0) (hi := 9) h3 r.p with ⟨a1, a2, a3, a4, a5, a6⟩ | ⟨a1, a2⟩
  · rw [if_neg (show ¬ (tNN f T 0 9 c).1 = 0 by rw [a1]; decide)]
    by_cases k : (ca >>> (cVL f T (tNN f T 0 9 c).2 &&& 31)) &&& 1 = 1
    · rw [if_pos k]
      have q : RF (cRF 4 (tNN f T 0 9 c).2) (oB 0 9 ca (gT f T s)) := oB_bad a2 (by decide) ((otC_in a2 a3 a4 a5).trans (if_pos k))
      have q2 : RF (cRF 4 (tNN f T 0 9 c).2) (oS f T 0 9 ca (gT f T s)) := q.G
      unfold LOK; dsimp only; rw [fiS_eq]; exact Or.inr ⟨rfl, q2.s.i.G⟩
    · rw [if_neg k]
      obtain ⟨o1, o2⟩ := oB_ok (sm := ca) a2 a3 a4 a5 k
      rw [show oS f T 0 9 ca (gT f T s) = gT f T (gT f T s) by rw [oS_eq, o1], o2]
      have z0 : (0 : Int32).toInt = 0 := by decide
      have z9 : (9 : Int32).toInt = 9 := by decide
      have z5 : (5 : Int32).toInt = 5 := by decide
      rcases num0 (f := f) (lo := 0) (hi := 5) h3 a2.p with ⟨b1, b2, b3, b4, b5, b6⟩ | ⟨b1, b2⟩
      · rw [if_neg (show ¬ (tNN f T 0 5 (tNN f T 0 9 c).2).1 = 0 by rw [b1]; decide), b3, b4]
        rcases stp (f := f) h3 b2.p with ⟨p1, p2, p3⟩ | ⟨p1, p2⟩
        · have hv : (cVL f T (tNN f T 0 9 c).2).toNatClampNeg = (cVL f T (tNN f T 0 9 c).2).toInt.toNat := rfl
          unfold LOK; dsimp only; rw [fiS_eq]; refine Or.inl ⟨p1, ⟨_, rfl, p2⟩, Nat.lt_of_le_of_lt (Nat.le_trans (Nat.le_trans a6 a2.2.2.2.2.2.1) b6) p3, ?_⟩
          unfold RW2 RW; dsimp only
          refine ⟨⟨w1, rfl, w3.up (by omega), w4.up (by omega), w5, w6⟩, w7, ?_, fun i hi => ?_, fun i hi => ?_, fun i hi => ?_⟩
          · exact (upd_n (by omega)).trans w8
          · have hi : i < N := hi
            exact ⟨(upd_n (by omega)).trans (w9 i hi).1, (upd_n (by omega)).trans (w9 i hi).2⟩
          · show upd fp (38 + (cVL f T (tNN f T 0 9 c).2).toNatClampNeg) (cVL f T (tNN f T 0 5 (tNN f T 0 9 c).2).2) (38 + i) = upd g3 (cVL f T (tNN f T 0 9 c).2).toNatClampNeg (cVL f T (tNN f T 0 5 (tNN f T 0 9 c).2).2) i
            by_cases k : i = (cVL f T (tNN f T 0 9 c).2).toNatClampNeg
            · rw [k, upd_y, upd_y]
            · rw [upd_n k, upd_n (by omega)]
              exact w10 i hi
          · have hi : i < B := hi
            exact ⟨(upd_n (by omega)).trans (w11 i hi).1, (upd_n (by omega)).trans (w11 i hi).2.1, (upd_n (by omega)).trans (w11 i hi).2.2⟩
        · unfold LOK; dsimp only; rw [fiS_eq]; exact Or.inr ⟨p1, p2.G⟩
      · rw [if_pos b1]
        unfold LOK; dsimp only; rw [fiS_eq]; exact Or.inr ⟨rfl, b2.i.G⟩
  · rw [if_pos a1]
    have q := (a2 ca).G (f := f) (T := T)
    have q2 : RF (tNN f T 0 9 c).2 (oS f T 0 9 ca (gT f T s)) := q
    unfold LOK; dsimp only; rw [fiS_eq]; exact Or.inr ⟨rfl, q2.s.i.G⟩

theorem L_line {f : Nat → Int32} {T : Nat} {c : CS5} {s : RSt} (h3 : T ≤ 320) (r : R0 f T c s) {st ca xs xb : Int32} {N B D : Nat} {g1 g2 g3 g4 g5 g6 : Nat → Int32} {rs rb : Nat} {hs cb ys yb : Int32} {fp : Nat → Int32} (w : RW st ca xs xb N B D g1 g2 g3 g4 g5 g6 rs rb hs cb ys yb fp) :
    LOK f T c.2.2.2.2 (cLN f T c st ca xs xb N B D g1 g2 g3 g4 g5 g6) (rlS f T s rs rb hs cb ys yb fp) := by
  have i0 := isn0 (f := f) (F := c.2.2.2.1) (P := c.2.2.2.2) (x3 := c.2.2.1) (i := 0) (n := 0) (wm_pair (by decide) (by decide +kernel))
  have i1 := isn0 (f := f) (F := c.2.2.2.1) (P := c.2.2.2.2) (x3 := c.2.2.1) (i := 1) (n := 1) (wm_pair (by decide) (by decide +kernel))
  have i2 := isn0 (f := f) (F := c.2.2.2.1) (P := c.2.2.2.2) (x3 := c.2.2.1) (i := 2) (n := 2) (wm_pair (by decide) (by decide +kernel))
  have i3 := isn0 (f := f) (F := c.2.2.2.1) (P := c.2.2.2.2) (x3 := c.2.2.1) (i := 9) (n := 3) (wm_pair (by decide) (by decide +kernel))
  unfold cLN rlS
  by_cases h0 : Wn f c 0
  · have hn : nT f s = 0 := nT_w r (by decide) h0
    rw [if_neg (fun e => i0.mp e h0), hn, if_pos (by decide), if_neg (by decide)]
    exact L_start h3 r w
  rw [if_pos (i0.mpr h0)]
  by_cases h1 : Wn f c 1
  · have hn : nT f s = 1 := nT_w r (by decide) h1
    rw [if_neg (fun e => i1.mp e h1), hn, if_pos (by decide), if_neg (by decide)]
    exact L_stretch h3 r w
  rw [if_pos (i1.mpr h1)]
  by_cases h2 : Wn f c 2
  · have hn : nT f s = 2 := nT_w r (by decide) h2
    rw [if_neg (fun e => i2.mp e h2), hn, if_pos (by decide), if_pos rfl]
    exact L_bearer h3 r w
  rw [if_pos (i2.mpr h2)]
  by_cases h9 : Wn f c 3
  · have hn : nT f s = 3 := nT_w r (by decide) h9
    rw [if_neg (fun e => i3.mp e h9), hn, if_pos (by decide), if_neg (by decide)]
    exact L_carry h3 r w
  rw [if_pos (i3.mpr h9), if_neg (nT_hi r (fun m hm h => by rcases (show m = 0 ∨ m = 1 ∨ m = 2 ∨ m = 3 by omega) with g|g|g|g <;> subst g <;> contradiction))]
  exact Or.inr ⟨rfl, fT_bad r (by decide)⟩
theorem L_loop {f : Nat → Int32} {T : Nat} (h3 : T ≤ 320) : ∀ (k kr : Nat) (q : CW) (L : LSt) (m : Nat), ((R0 f T q.1 L.1 ∧ RW2 q.2 L.2 ∧ T - q.1.2.2.2.1 < k ∧ T - q.1.2.2.2.1 < kr) ∨ RF q.1 L.1) →
    ((R0 f T (cLP f T k q (nI m)).1.1 (lpS f T kr L m).1.1 ∧ (cLP f T k q (nI m)).1.1.2.2.1 = 0 ∧ RW2 (cLP f T k q (nI m)).1.2 (lpS f T kr L m).1.2 ∧ (cLP f T k q (nI m)).2 = nI (lpS f T kr L m).2) ∨ RF (cLP f T k q (nI m)).1.1 (lpS f T kr L m).1.1) := by
  intro k
  induction k with
  | zero =>
    intro kr q L m h
    rcases h with ⟨_, _, h, _⟩ | h
    · exact absurd h (Nat.not_lt_zero _)
    · rw [cLP_e0 h.m, lpS_e0 h.n]
      exact Or.inr h
  | succ k ih =>
    intro kr q L m h
    rcases h with ⟨r, w, hk, hr⟩ | h
    · by_cases z : q.1.2.2.1 = 0
      · rw [cLP_e1 r.1 z, lpS_e1 r.2.1 (r.2.2.1.trans z)]
        exact Or.inl ⟨r, z, w, rfl⟩
      · obtain ⟨kr, rfl⟩ : ∃ j : Nat, kr = j + 1 := ⟨kr - 1, by omega⟩
        have hF := r.2.2.2.2.2.2.2.2.2 z
        have hPT := r.2.2.2.2.2.2.1
        rw [lpS_go r.2.1 (fun e => z (r.2.2.1.symm.trans e))]
        have hl : LOK f T q.1.2.2.2.2 (cLNq f T q) (nxS f T L) := L_line h3 r w
        rcases hl with ⟨a1, ⟨s2, a2, a3⟩, a4, a5⟩ | ⟨a1, a2⟩
        · rw [cLP_b r.1 z (by rw [a1]; decide), ← nI_succ]
          refine ih kr (cNTq f T (cLNq f T q).2) (nxS f T L) (m + 1) ?_
          rcases tok (f := f) h3 a3.p with ⟨t1, t2, t3⟩ | ⟨t1, t2⟩
          · left
            refine ⟨?_, a5, ?_, ?_⟩
            · rw [a2]; exact t2
            · show T - (tNT f T (cLNq f T q).2.1).2.2.2.1 < k
              omega
            · show T - (tNT f T (cLNq f T q).2.1).2.2.2.1 < kr
              omega
          · right
            rw [a2]; exact t2
        · rw [cLP_a r.1 z a1, cLP_e0 a2.m, lpS_e0 a2.n]
          exact Or.inr a2
    · rw [cLP_e0 h.m, lpS_e0 h.n]
      exact Or.inr h
/-- the two texts: what both tell of the same tape -/
theorem text_sim {f : Nat → Int32} {T : Nat} (h3 : T ≤ 320) (x3 : Int32) (g1 g2 g3 g4 g5 g6 : Nat → Int32) (ba : Int32) (he : Nat) (tk va : Int32) (fp : Nat → Int32) :
    ((cFN T (cRA f T x3 g1 g2 g3 g4 g5 g6).1).1 = 0 ∧ (txE (txQ f T ba he tk va fp).1).1 = 0 ∧ (cRA f T x3 g1 g2 g3 g4 g5 g6).2 = nI (txQ f T ba he tk va fp).2 ∧ RW2 (cRA f T x3 g1 g2 g3 g4 g5 g6).1.2 (txQ f T ba he tk va fp).1.2 ∧ ((cRA f T x3 g1 g2 g3 g4 g5 g6).1.2.2.2.2.2.1 = 0 ∨ 0 < (cRA f T x3 g1 g2 g3 g4 g5 g6).1.2.2.2.2.2.2.1)) ∨
    (RF (cFN T (cRA f T x3 g1 g2 g3 g4 g5 g6).1) (txE (txQ f T ba he tk va fp).1)) := by
  have h0 : (R0 f T (cQ0 f T x3 g1 g2 g3 g4 g5 g6).1 (gOn f T 0 ba 0 he tk va) ∧ RW2 (cQ0 f T x3 g1 g2 g3 g4 g5 g6).2 (0, 0, 0, 0, -1, -1, zpF 49 fp) ∧ T - (cQ0 f T x3 g1 g2 g3 g4 g5 g6).1.2.2.2.1 < T + 1 ∧ T - (cQ0 f T x3 g1 g2 g3 g4 g5 g6).1.2.2.2.1 < 400) ∨ RF (cQ0 f T x3 g1 g2 g3 g4 g5 g6).1 (gOn f T 0 ba 0 he tk va) := by
    rcases tokE (f := f) h3 0 0 x3 ba he tk va (Nat.zero_le T) with ⟨t1, t2, t3⟩ | ⟨t1, t2⟩
    · refine Or.inl ⟨t2, ?_, by omega, by omega⟩
      unfold cQ0 RW2 RW; dsimp only
      refine ⟨⟨rfl, rfl, Or.inr ⟨rfl, rfl⟩, Or.inr ⟨rfl, rfl⟩, rfl, rfl⟩, ⟨by decide, by decide, by decide, by decide⟩, (by show (if 48 < 49 then (0 : Int32) else fp 48) = nI 5 - 5; rw [if_pos (by decide)]; decide), fun i hi => absurd hi (Nat.not_lt_zero _), fun i hi => ?_, fun i hi => absurd hi (Nat.not_lt_zero _)⟩
      show (if 38 + i < 49 then (0 : Int32) else fp (38 + i)) = (if i < 10 then 0 else g3 i)
      rw [if_pos (by omega), if_pos hi]
    · exact Or.inr t2
  have hl := L_loop (f := f) h3 (T + 1) 400 (cQ0 f T x3 g1 g2 g3 g4 g5 g6) (gOn f T 0 ba 0 he tk va, 0, 0, 0, 0, -1, -1, zpF 49 fp) 0 h0
  have e1 : cLP f T (T + 1) (cQ0 f T x3 g1 g2 g3 g4 g5 g6) (nI 0) = cRA f T x3 g1 g2 g3 g4 g5 g6 := rfl
  have e2 : lpS f T 400 (gOn f T 0 ba 0 he tk va, 0, 0, 0, 0, -1, -1, zpF 49 fp) 0 = txQ f T ba he tk va fp := rfl
  rw [e1, e2] at hl
  generalize cRA f T x3 g1 g2 g3 g4 g5 g6 = Q at hl ⊢
  generalize txQ f T ba he tk va fp = X at hl ⊢
  obtain ⟨⟨c, q⟩, n⟩ := Q
  obtain ⟨⟨s, L⟩, m⟩ := X
  rcases hl with ⟨r, z, w, e⟩ | h
  · have r : R0 f T c s := r
    have z : c.2.2.1 = 0 := z
    have w : RW2 q L := w
    have w0 := w
    obtain ⟨⟨w1, w2, w3, w4, w5, w6⟩, w7, w8, w9, w10, w11⟩ := w
    have x1 := w3.lt w7.1
    have x2 := w4.lt (n := q.2.2.2.2.2.1) (Nat.le_trans w7.2.1 (by decide))
    have ec : cFN T (c, q) = cLB T c q.2.2.1 q.2.2.2.1 q.2.2.2.2.1 q.2.2.2.2.2.1 := if_pos r.1
    have hT : s.2.2.2.1 = T := r.2.2.2.1.trans (r.2.2.2.2.2.2.2.2.1 z)
    have bad : ∀ k : Int32, 0 < k.toInt → RF (cRT k T c) (fT k s) := by
      intro k hk
      refine ⟨?_, ?_, ?_⟩
      · show 0 < (if c.1 = 0 then k else c.1).toInt
        rw [if_pos r.1]; exact hk
      · show (if s.1 = 0 then k else s.1) = (if c.1 = 0 then k else c.1)
        rw [if_pos r.1, if_pos r.2.1]
      · show (if s.1 = 0 then nI s.2.2.2.1 else s.2.1) = (if c.1 = 0 then nI T else c.2.1)
        rw [if_pos r.1, if_pos r.2.1, hT]
    have ex : txE (s, L) = be7 (be6 s L.1 L.2.1 L.2.2.2.2.1 L.2.2.2.2.2.1) L.1 L.2.1 := rfl
    show ((cFN T (c, q)).1 = 0 ∧ (txE (s, L)).1 = 0 ∧ n = nI m ∧ RW2 q L ∧ (q.2.2.2.2.1 = 0 ∨ 0 < q.2.2.2.2.2.1)) ∨ RF (cFN T (c, q)) (txE (s, L))
    rw [ec, ex]
    unfold cLB be6
    rw [if_pos r.2.1, ← w5, ← w6]
    by_cases a : q.2.2.1.toInt < (q.2.2.2.2.1 : Int)
    · rw [if_pos a, if_neg (show ¬ nI q.2.2.2.2.1 ≤ L.2.2.2.2.1 from fun h9 => by have h8 := Int32.le_iff_toInt_le.mp h9; have h7 := x1.mpr a; omega)]
      by_cases b : q.2.2.2.1.toInt < (q.2.2.2.2.2.1 : Int)
      · rw [if_pos b, if_pos (Int32.lt_iff_toInt_lt.mpr (x2.mpr b))]
        unfold be7
        rw [if_pos r.2.1]
        by_cases d : 0 < q.2.2.2.2.1
        · rw [if_pos d, if_pos d]
          by_cases g : q.2.2.2.2.2.1 = 0
          · rw [if_pos g, if_pos g]
            exact Or.inr (bad 7 (by decide))
          · rw [if_neg g, if_neg g]
            exact Or.inl ⟨r.1, r.2.1, e, w0, Or.inr (by omega)⟩
        · rw [if_neg d, if_neg d]
          exact Or.inl ⟨r.1, r.2.1, e, w0, Or.inl (by omega)⟩
      · rw [if_neg b, if_neg (show ¬ L.2.2.2.2.2.1 < nI q.2.2.2.2.2.1 from fun h9 => b (x2.mp (Int32.lt_iff_toInt_lt.mp h9)))]
        have h6 := bad 6 (by decide)
        unfold be7
        rw [if_neg h6.n]
        exact Or.inr h6
    · rw [if_neg a, if_pos (show nI q.2.2.2.2.1 ≤ L.2.2.2.2.1 by refine Int32.le_iff_toInt_le.mpr ?_; have h7 : ¬ L.2.2.2.2.1.toInt < (nI q.2.2.2.2.1).toInt := fun h8 => a (x1.mp h8); omega)]
      have h6 := bad 6 (by decide)
      unfold be7
      rw [if_neg h6.n]
      exact Or.inr h6
  · have h : RF c s := h
    have ec : cFN T (c, q) = c := if_neg h.m
    have ex : txE (s, L) = be7 (be6 s L.1 L.2.1 L.2.2.2.2.1 L.2.2.2.2.2.1) L.1 L.2.1 := rfl
    have e6 : be6 s L.1 L.2.1 L.2.2.2.2.1 L.2.2.2.2.2.1 = s := if_neg h.n
    have e7 : be7 s L.1 L.2.1 = s := if_neg h.n
    right
    show RF (cFN T (c, q)) (txE (s, L))
    rw [ec, ex, e6, e7]
    exact h

def bC (v : Int64) (s : Int32) : Int32 := ((v.toUInt64 >>> (s.toInt64.toUInt64 &&& Int64.toUInt64 63)).toInt64 &&& 255).toInt32
def bR (v : Int64) (s : Int32) : Int32 := (v >>> (s.toInt64 &&& 63)).toInt32 &&& 255
theorem bv_sh (x : BitVec 64) (s : Nat) (hs : s ≤ 56) : ((x >>> s) &&& 255#64).signExtend 32 = (x.sshiftRight s).signExtend 32 &&& 255#32 := by
  rw [BitVec.signExtend_eq_setWidth_of_le _ (by decide), BitVec.signExtend_eq_setWidth_of_le _ (by decide)]
  apply BitVec.eq_of_getLsbD_eq
  intro i hi
  rw [BitVec.getLsbD_setWidth, BitVec.getLsbD_and, BitVec.getLsbD_ushiftRight, BitVec.getLsbD_and, BitVec.getLsbD_setWidth, BitVec.getLsbD_sshiftRight]
  have e1 : (255#64).getLsbD i = (decide (i < 64) && Nat.testBit 255 i) := BitVec.getLsbD_ofNat 64 255 i
  have e2 : (255#32).getLsbD i = (decide (i < 32) && Nat.testBit 255 i) := BitVec.getLsbD_ofNat 32 255 i
  rw [e1, e2]
  by_cases h : i < 8
  · rw [if_pos (show s + i < 64 by omega), decide_eq_true (show i < 64 by omega), decide_eq_true hi, decide_eq_false (show ¬ 64 ≤ i by omega)]
    rfl
  · have t : Nat.testBit 255 i = false := Nat.testBit_lt_two_pow (Nat.lt_of_lt_of_le (show 255 < 2 ^ 8 by decide) (Nat.pow_le_pow_right (by decide) (by omega)))
    rw [t]
    simp only [Bool.and_false]
theorem b56 (v : Int64) : bC v 56 = bR v 56 := Int32.toBitVec_inj.mp (bv_sh v.toBitVec 56 (by decide))
theorem b48 (v : Int64) : bC v 48 = bR v 48 := Int32.toBitVec_inj.mp (bv_sh v.toBitVec 48 (by decide))
theorem b40 (v : Int64) : bC v 40 = bR v 40 := Int32.toBitVec_inj.mp (bv_sh v.toBitVec 40 (by decide))
theorem b32 (v : Int64) : bC v 32 = bR v 32 := Int32.toBitVec_inj.mp (bv_sh v.toBitVec 32 (by decide))
theorem b24 (v : Int64) : bC v 24 = bR v 24 := Int32.toBitVec_inj.mp (bv_sh v.toBitVec 24 (by decide))
theorem b16 (v : Int64) : bC v 16 = bR v 16 := Int32.toBitVec_inj.mp (bv_sh v.toBitVec 16 (by decide))
theorem b8 (v : Int64) : bC v 8 = bR v 8 := Int32.toBitVec_inj.mp (bv_sh v.toBitVec 8 (by decide))
theorem b0 (v : Int64) : bC v 0 = bR v 0 := Int32.toBitVec_inj.mp (bv_sh v.toBitVec 0 (by decide))
def fdC (f : Nat → Int32) (T : Nat) (v : Int64) : Nat → Int32 := upd (upd (upd (upd (upd (upd (upd (upd f T (bC v 56)) (T + 1) (bC v 48)) (T + 2) (bC v 40)) (T + 3) (bC v 32)) (T + 4) (bC v 24)) (T + 5) (bC v 16)) (T + 6) (bC v 8)) (T + 7) (bC v 0)
theorem fdC_R {f : Nat → Int32} {T : Nat} {v : Int64} : fdC f T v = upd (upd (upd (upd (upd (upd (upd (upd f T (bR v 56)) (T + 1) (bR v 48)) (T + 2) (bR v 40)) (T + 3) (bR v 32)) (T + 4) (bR v 24)) (T + 5) (bR v 16)) (T + 6) (bR v 8)) (T + 7) (bR v 0) := by
  unfold fdC
  rw [b56, b48, b40, b32, b24, b16, b8, b0]
theorem and255 (y : Int32) : 0 ≤ (y &&& 255).toInt := by
  have h : (y &&& 255).toBitVec.toNat ≤ 255 := by
    rw [Int32.toBitVec_and, BitVec.toNat_and]
    exact Nat.and_le_right
  show 0 ≤ (y &&& 255).toBitVec.toInt
  rw [BitVec.toInt_eq_toNat_of_lt (by omega)]
  omega
theorem upd_nn {f : Nat → Int32} {k : Nat} {x : Int32} (h : ∀ q : Nat, q < 320 → 0 ≤ (f q).toInt) (hx : 0 ≤ x.toInt) : ∀ q : Nat, q < 320 → 0 ≤ (upd f k x q).toInt := by
  intro q hq
  show 0 ≤ (if q = k then x else f q).toInt
  split
  · exact hx
  · exact h q hq
theorem fd_nn {f : Nat → Int32} {T : Nat} {v : Int64} (h : ∀ q : Nat, q < 320 → 0 ≤ (f q).toInt) : ∀ q : Nat, q < 320 → 0 ≤ ((if T + 8 ≤ 320 then fdC f T v else f) q).toInt := by
  split
  · rw [fdC_R]
    exact upd_nn (upd_nn (upd_nn (upd_nn (upd_nn (upd_nn (upd_nn (upd_nn h (and255 _)) (and255 _)) (and255 _)) (and255 _)) (and255 _)) (and255 _)) (and255 _)) (and255 _)
  · exact h
/-- the text, told by the tape alone -/
def TQ (f : Nat → Int32) (T : Nat) : LSt × Nat := txQ f T 0 0 0 0 (fun _ => 0)
def txF (f : Nat → Int32) (T : Nat) : Int32 := (txE (TQ f T).1).1
def txA (f : Nat → Int32) (T : Nat) : Int32 := if 0 < (txF f T).toInt then (-10) - (txE (TQ f T).1).2.1 else nI (TQ f T).2
theorem RF.pos {c : CS5} {s : RSt} (h : RF c s) : 0 < s.1.toInt := by rw [h.2.1]; exact h.1
theorem txt_cf {f : Nat → Int32} {T : Nat} (h3 : T ≤ 320) {x3 : Int32} {g1 g2 g3 g4 g5 g6 : Nat → Int32} : (cFN T (cRA f T x3 g1 g2 g3 g4 g5 g6).1).1 = txF f T := by
  rcases text_sim (f := f) h3 x3 g1 g2 g3 g4 g5 g6 0 0 0 0 (fun _ => 0) with ⟨a, b, _⟩ | h
  · exact a.trans b.symm
  · exact h.2.1.symm
theorem txt_ca {f : Nat → Int32} {T : Nat} (h3 : T ≤ 320) {x3 : Int32} {g1 g2 g3 g4 g5 g6 : Nat → Int32} : (if (cFN T (cRA f T x3 g1 g2 g3 g4 g5 g6).1).1 = 0 then (cRA f T x3 g1 g2 g3 g4 g5 g6).2 else (-10) - (cFN T (cRA f T x3 g1 g2 g3 g4 g5 g6).1).2.1) = txA f T := by
  unfold txA
  rcases text_sim (f := f) h3 x3 g1 g2 g3 g4 g5 g6 0 0 0 0 (fun _ => 0) with ⟨a, b, c, _⟩ | h
  · have b' : txF f T = 0 := b
    rw [if_pos a, if_neg (by rw [b']; decide)]
    exact c
  · have e : txF f T = (cFN T (cRA f T x3 g1 g2 g3 g4 g5 g6).1).1 := h.2.1
    rw [if_neg h.m, if_pos (by rw [e]; exact h.1)]
    exact congrArg (fun z : Int32 => (-10) - z) h.2.2.symm
theorem txt_rf {f : Nat → Int32} {T : Nat} (h3 : T ≤ 320) {ba : Int32} {he : Nat} {tk va : Int32} {fp : Nat → Int32} : (txE (txQ f T ba he tk va fp).1).1 = txF f T := by
  have c := txt_cf (f := f) h3 (x3 := 0) (g1 := fun _ => 0) (g2 := fun _ => 0) (g3 := fun _ => 0) (g4 := fun _ => 0) (g5 := fun _ => 0) (g6 := fun _ => 0)
  rcases text_sim (f := f) h3 0 (fun _ => 0) (fun _ => 0) (fun _ => 0) (fun _ => 0) (fun _ => 0) (fun _ => 0) ba he tk va fp with ⟨a, b, _⟩ | h
  · exact (b.trans a.symm).trans c
  · exact h.2.1.trans c
theorem txt_ra {f : Nat → Int32} {T : Nat} (h3 : T ≤ 320) {ba : Int32} {he : Nat} {tk va : Int32} {fp : Nat → Int32} : (if 0 < (txE (txQ f T ba he tk va fp).1).1.toInt then (-10) - (txE (txQ f T ba he tk va fp).1).2.1 else nI (txQ f T ba he tk va fp).2) = txA f T := by
  have c := txt_ca (f := f) h3 (x3 := 0) (g1 := fun _ => 0) (g2 := fun _ => 0) (g3 := fun _ => 0) (g4 := fun _ => 0) (g5 := fun _ => 0) (g6 := fun _ => 0)
  rw [← c]
  rcases text_sim (f := f) h3 0 (fun _ => 0) (fun _ => 0) (fun _ => 0) (fun _ => 0) (fun _ => 0) (fun _ => 0) ba he tk va fp with ⟨a, b, d, _⟩ | h
  · rw [if_pos a, if_neg (by rw [b]; decide)]
    exact d.symm
  · rw [if_neg h.m, if_pos h.pos]
    exact congrArg (fun z : Int32 => (-10) - z) h.2.2
theorem LT0 {g : Nat → Int32} : ∀ q : Nat, q < 0 → g q = letL.getD q 0 := fun q h => absurd h (Nat.not_lt_zero q)
theorem LTs {g : Nat → Int32} {k : Nat} {c : Int32} (h : ∀ q : Nat, q < k → g q = letL.getD q 0) (hc : c = letL.getD k 0) : ∀ q : Nat, q < k + 1 → upd g k c q = letL.getD q 0 := by
  intro q hq
  show (if q = k then c else g q) = _
  split
  · rename_i e; rw [e]; exact hc
  · exact h q (by omega)

def txN (f : Nat → Int32) (T N : Nat) : Nat := if 0 < (txF f T).toInt then N else (TQ f T).1.2.1
def txB (f : Nat → Int32) (T B : Nat) : Nat := if 0 < (txF f T).toInt then B else (TQ f T).1.2.2.1
def txS (f : Nat → Int32) (T S : Nat) : Nat := if 0 < (txF f T).toInt then S else 0
def txK (f : Nat → Int32) (T : Nat) (K : Nat → Int32) : Nat → Int32 := if 0 < (txF f T).toInt then K else upd (upd K 0 0) 1 0
theorem txt_c1 {α : Type} {a b : α} {f : Nat → Int32} {T : Nat} (h3 : T ≤ 320) {x3 : Int32} {g1 g2 g3 g4 g5 g6 : Nat → Int32} : (if (cFN T (cRA f T x3 g1 g2 g3 g4 g5 g6).1).1 = 0 then a else b) = (if 0 < (txF f T).toInt then b else a) := by
  rcases text_sim (f := f) h3 x3 g1 g2 g3 g4 g5 g6 0 0 0 0 (fun _ => 0) with ⟨p, q, _⟩ | h
  · have q' : txF f T = 0 := q
    rw [if_pos p, if_neg (by rw [q']; decide)]
  · have e : txF f T = (cFN T (cRA f T x3 g1 g2 g3 g4 g5 g6).1).1 := h.2.1
    rw [if_neg h.m, if_pos (by rw [e]; exact h.1)]
theorem txt_cN {N : Nat} {f : Nat → Int32} {T : Nat} (h3 : T ≤ 320) {x3 : Int32} {g1 g2 g3 g4 g5 g6 : Nat → Int32} : (if (cFN T (cRA f T x3 g1 g2 g3 g4 g5 g6).1).1 = 0 then (cRA f T x3 g1 g2 g3 g4 g5 g6).1.2.2.2.2.2.1 else N) = txN f T N := by
  unfold txN
  rcases text_sim (f := f) h3 x3 g1 g2 g3 g4 g5 g6 0 0 0 0 (fun _ => 0) with ⟨p, q, _, w, _⟩ | h
  · have q' : txF f T = 0 := q
    rw [if_pos p, if_neg (by rw [q']; decide)]
    exact w.1.2.2.2.2.1
  · have e : txF f T = (cFN T (cRA f T x3 g1 g2 g3 g4 g5 g6).1).1 := h.2.1
    rw [if_neg h.m, if_pos (by rw [e]; exact h.1)]
theorem txt_cB {B : Nat} {f : Nat → Int32} {T : Nat} (h3 : T ≤ 320) {x3 : Int32} {g1 g2 g3 g4 g5 g6 : Nat → Int32} : (if (cFN T (cRA f T x3 g1 g2 g3 g4 g5 g6).1).1 = 0 then (cRA f T x3 g1 g2 g3 g4 g5 g6).1.2.2.2.2.2.2.1 else B) = txB f T B := by
  unfold txB
  rcases text_sim (f := f) h3 x3 g1 g2 g3 g4 g5 g6 0 0 0 0 (fun _ => 0) with ⟨p, q, _, w, _⟩ | h
  · have q' : txF f T = 0 := q
    rw [if_pos p, if_neg (by rw [q']; decide)]
    exact w.1.2.2.2.2.2
  · have e : txF f T = (cFN T (cRA f T x3 g1 g2 g3 g4 g5 g6).1).1 := h.2.1
    rw [if_neg h.m, if_pos (by rw [e]; exact h.1)]
theorem txt_r1 {α : Type} {a b : α} {f : Nat → Int32} {T : Nat} (h3 : T ≤ 320) {ba : Int32} {he : Nat} {tk va : Int32} {fp : Nat → Int32} : (if 0 < (txE (txQ f T ba he tk va fp).1).1.toInt then b else a) = (if 0 < (txF f T).toInt then b else a) := by
  rw [txt_rf h3]
theorem txt_rN {N : Nat} {f : Nat → Int32} {T : Nat} (h3 : T ≤ 320) {ba : Int32} {he : Nat} {tk va : Int32} {fp : Nat → Int32} : (if 0 < (txE (txQ f T ba he tk va fp).1).1.toInt then N else (txQ f T ba he tk va fp).1.2.1) = txN f T N := by
  have c := txt_cN (N := N) (f := f) h3 (x3 := 0) (g1 := fun _ => 0) (g2 := fun _ => 0) (g3 := fun _ => 0) (g4 := fun _ => 0) (g5 := fun _ => 0) (g6 := fun _ => 0)
  rw [← c]
  rcases text_sim (f := f) h3 0 (fun _ => 0) (fun _ => 0) (fun _ => 0) (fun _ => 0) (fun _ => 0) (fun _ => 0) ba he tk va fp with ⟨p, q, _, w, _⟩ | h
  · rw [if_pos p, if_neg (by rw [q]; decide)]
    exact w.1.2.2.2.2.1.symm
  · rw [if_neg h.m, if_pos h.pos]
theorem txt_rB {B : Nat} {f : Nat → Int32} {T : Nat} (h3 : T ≤ 320) {ba : Int32} {he : Nat} {tk va : Int32} {fp : Nat → Int32} : (if 0 < (txE (txQ f T ba he tk va fp).1).1.toInt then B else (txQ f T ba he tk va fp).1.2.2.1) = txB f T B := by
  have c := txt_cB (B := B) (f := f) h3 (x3 := 0) (g1 := fun _ => 0) (g2 := fun _ => 0) (g3 := fun _ => 0) (g4 := fun _ => 0) (g5 := fun _ => 0) (g6 := fun _ => 0)
  rw [← c]
  rcases text_sim (f := f) h3 0 (fun _ => 0) (fun _ => 0) (fun _ => 0) (fun _ => 0) (fun _ => 0) (fun _ => 0) ba he tk va fp with ⟨p, q, _, w, _⟩ | h
  · rw [if_pos p, if_neg (by rw [q]; decide)]
    exact w.1.2.2.2.2.2.symm
  · rw [if_neg h.m, if_pos h.pos]
/-- what the images keep: the way's counts, while they are kept -/
def XIN (N B : Nat) (K : Nat → Int32) (N1 B1 N2 B2 : Nat) : Prop := (K 0 = 0 ∨ (N1 = N ∧ B1 = B)) ∧ (K 1 = 0 ∨ (N2 = N ∧ B2 = B))
theorem tx_X {f : Nat → Int32} {T N B N1 B1 N2 B2 : Nat} {K : Nat → Int32} (h : XIN N B K N1 B1 N2 B2) : XIN (txN f T N) (txB f T B) (txK f T K) N1 B1 N2 B2 := by
  unfold txN txB txK
  by_cases c : 0 < (txF f T).toInt
  · rw [if_pos c, if_pos c, if_pos c]; exact h
  · rw [if_neg c, if_neg c, if_neg c]; exact ⟨Or.inl rfl, Or.inl rfl⟩
theorem k01 {k : Int32} (h : 0 ≤ k.toInt ∧ k.toInt < 2) : k = 0 ∨ k = 1 := by
  rcases (show k.toInt = 0 ∨ k.toInt = 1 by omega) with e | e
  · exact Or.inl (Int32.toInt_inj.mp (by rw [e]; rfl))
  · exact Or.inr (Int32.toInt_inj.mp (by rw [e]; rfl))
theorem kp_X {k : Int32} {N B N1 B1 N2 B2 : Nat} {K : Nat → Int32} (h : XIN N B K N1 B1 N2 B2) : XIN N B (if (0 ≤ k.toInt ∧ k.toInt < 2) then upd K k.toNatClampNeg 1 else K) (if k = 0 then N else N1) (if k = 0 then B else B1) (if k = 1 then N else N2) (if k = 1 then B else B2) := by
  by_cases c : 0 ≤ k.toInt ∧ k.toInt < 2
  · rw [if_pos c]
    rcases k01 c with e | e
    · subst e
      rw [if_pos rfl, if_pos rfl, if_neg (by decide), if_neg (by decide)]
      exact ⟨Or.inr ⟨rfl, rfl⟩, h.2⟩
    · subst e
      rw [if_pos rfl, if_pos rfl, if_neg (by decide), if_neg (by decide)]
      exact ⟨h.1, Or.inr ⟨rfl, rfl⟩⟩
  · rw [if_neg c, if_neg (fun e => c (by rw [e]; decide)), if_neg (fun e => c (by rw [e]; decide)), if_neg (fun e => c (by rw [e]; decide)), if_neg (fun e => c (by rw [e]; decide))]
    exact h
theorem bk_N {k : Int32} {N B N1 B1 N2 B2 : Nat} {K : Nat → Int32} (h : XIN N B K N1 B1 N2 B2) : (if k = 0 ∧ ¬ K 0 = 0 then N1 else if k = 1 ∧ ¬ K 1 = 0 then N2 else N) = N := by
  split
  · rename_i c; exact (h.1.resolve_left c.2).1
  · split
    · rename_i c; exact (h.2.resolve_left c.2).1
    · rfl
theorem bk_B {k : Int32} {N B N1 B1 N2 B2 : Nat} {K : Nat → Int32} (h : XIN N B K N1 B1 N2 B2) : (if k = 0 ∧ ¬ K 0 = 0 then B1 else if k = 1 ∧ ¬ K 1 = 0 then B2 else B) = B := by
  split
  · rename_i c; exact (h.1.resolve_left c.2).2
  · split
    · rename_i c; exact (h.2.resolve_left c.2).2
    · rfl
theorem bk_eq {k : Int32} {N B N1 B1 N2 B2 : Nat} {K : Nat → Int32} (h : XIN N B K N1 B1 N2 B2) : (if (0 ≤ k.toInt ∧ k.toInt < 2) then (if K k.toNatClampNeg = 0 then -2 else if k = 0 then nI N1 else nI N2) else -1) = (if (0 ≤ k.toInt ∧ k.toInt < 2) then (if K k.toNatClampNeg = 0 then (-2 : Int32) else nI N) else -1) := by
  by_cases c : 0 ≤ k.toInt ∧ k.toInt < 2
  · rw [if_pos c, if_pos c]
    rcases k01 c with e | e
    · subst e
      by_cases d : K (0 : Int32).toNatClampNeg = 0
      · rw [if_pos d, if_pos d]
      · rw [if_neg d, if_neg d, if_pos rfl, (h.1.resolve_left d).1]
    · subst e
      by_cases d : K (1 : Int32).toNatClampNeg = 0
      · rw [if_pos d, if_pos d]
      · rw [if_neg d, if_neg d, if_neg (by decide), (h.2.resolve_left d).1]
  · rw [if_neg c, if_neg c]

set_option maxHeartbeats 1000000 in
set_option maxRecDepth 100000 in
theorem c_X11_failsE (l : Launch) (dC : Nat → ClassId) (dI : Nat → Nat → Nat) (G : Nat → ClassId) (sz : Nat) (h0 st N B rp tp T nhe cu lt od th be ln S ma M ah bh ik la lg ce : Nat) (cd vrs vrb vhs vca vxs vxb vfa vbr vba vsp vtk vva vto : Int32) (hN : N ≤ 10) (hB : B ≤ 6) (hT : T ≤ 320) (hS0 : S ≤ 8) (hM : M ≤ 6) (hcd : 0 < cd.toInt) (hbr : 0 ≤ vbr.toInt) (hnx : nhe ≤ 320) : Met l yX11_fails (Cond.code yX11_fails cX11_fails 2 none :: GT) ({ frames := 0, cells := 0, slots := 0, locals := 0 } : Room) (PcW [.ref h0, .int cd] dC dI G [(h0, .inr (11, [.ref st, .int (nI N), .int (nI B), .ref rp, .int vrs, .int vrb, .int vhs, .int vca, .int vxs, .int vxb, .ref tp, .int (nI T), .int vfa, .int vbr, .int vba, .int vsp, .int (nI nhe), .int vtk, .int vva, .ref cu, .ref lt, .ref od, .ref th, .ref be, .ref ln, .int (nI S), .ref ma, .int (nI M), .ref ah, .ref bh, .ref ik, .ref la, .ref lg, .ref ce, .int vto]))] sz) (va_Qv (fun (u : Int32 × Int32) => match u with | (obr, oba) => 0 < obr.toInt ∧ obr = flB cd vbr ∧ oba = flA vbr vba nhe) (fun (u : Int32 × Int32) (t : State) => match u with | (obr, oba) => va_P (dC, dI) vwCl [(h0, .inr (11, [.ref st, .int (nI N), .int (nI B), .ref rp, .int vrs, .int vrb, .int vhs, .int vca, .int vxs, .int vxb, .ref tp, .int (nI T), .int vfa, .int obr, .int oba, .int vsp, .int (nI nhe), .int vtk, .int vva, .ref cu, .ref lt, .ref od, .ref th, .ref be, .ref ln, .int (nI S), .ref ma, .int (nI M), .ref ah, .ref bh, .ref ik, .ref la, .ref lg, .ref ce, .int vto]))] t.heap ∧ va_D (va_A [(h0, .inr (11, [.ref st, .int (nI N), .int (nI B), .ref rp, .int vrs, .int vrb, .int vhs, .int vca, .int vxs, .int vxb, .ref tp, .int (nI T), .int vfa, .int vbr, .int vba, .int vsp, .int (nI nhe), .int vtk, .int vva, .ref cu, .ref lt, .ref od, .ref th, .ref be, .ref ln, .int (nI S), .ref ma, .int (nI M), .ref ah, .ref bh, .ref ik, .ref la, .ref lg, .ref ce, .int vto]))] sz) [(h0, .inr (11, [.ref st, .int (nI N), .int (nI B), .ref rp, .int vrs, .int vrb, .int vhs, .int vca, .int vxs, .int vxb, .ref tp, .int (nI T), .int vfa, .int obr, .int oba, .int vsp, .int (nI nhe), .int vtk, .int vva, .ref cu, .ref lt, .ref od, .ref th, .ref be, .ref ln, .int (nI S), .ref ma, .int (nI M), .ref ah, .ref bh, .ref ik, .ref la, .ref lg, .ref ce, .int vto]))]) (va_A [(h0, .inr (11, [.ref st, .int (nI N), .int (nI B), .ref rp, .int vrs, .int vrb, .int vhs, .int vca, .int vxs, .int vxb, .ref tp, .int (nI T), .int vfa, .int vbr, .int vba, .int vsp, .int (nI nhe), .int vtk, .int vva, .ref cu, .ref lt, .ref od, .ref th, .ref be, .ref ln, .int (nI S), .ref ma, .int (nI M), .ref ah, .ref bh, .ref ik, .ref la, .ref lg, .ref ce, .int vto]))] sz)) 0 0 (va_A [(h0, .inr (11, [.ref st, .int (nI N), .int (nI B), .ref rp, .int vrs, .int vrb, .int vhs, .int vca, .int vxs, .int vxb, .ref tp, .int (nI T), .int vfa, .int vbr, .int vba, .int vsp, .int (nI nhe), .int vtk, .int vva, .ref cu, .ref lt, .ref od, .ref th, .ref be, .ref ln, .int (nI S), .ref ma, .int (nI M), .ref ah, .ref bh, .ref ik, .ref la, .ref lg, .ref ce, .int vto]))] sz) := by
  have tn1254_ : nIT N := fun _ => nI_toInt (by omega)
  have tn1255_ : nIT B := fun _ => nI_toInt (by omega)
  have tn1256_ : nIT T := fun _ => nI_toInt (by omega)
  have tn1257_ : nIT S := fun _ => nI_toInt (by omega)
  have tn1258_ : nIT M := fun _ => nI_toInt (by omega)
  refine Met.ofW (cc := cX11_fails) (maxL := 2) (ret := none) (by decide) rfl ?_
  intro p e s m args below meth c s₁ Bd hml hv
  obtain ⟨rfl, hsz, hP, hK, hD0⟩ := hv
  have hx := Bd.exec
  have hb := Bd.bytes
  have hr := Bd.returns
  have hg : ∀ w ∈ GT, w.before ([.ref h0, .int cd] : List Value).toArray s = true := fun w h => atoms_spec (ws := Cond.code yX11_fails cX11_fails 2 none :: GT) Bd.pre w (List.mem_cons_of_mem _ h)
  have hown : s.vm.findClass RX11 = some m.cls := findClass_of_methodNamed Bd.named
  have hlocks := Bd.notSynchronized
  subst hsz
  have hD := hD0.self (sz := s.heap.size)
  generalize hAe : va_A [(h0, .inr (11, [.ref st, .int (nI N), .int (nI B), .ref rp, .int vrs, .int vrb, .int vhs, .int vca, .int vxs, .int vxb, .ref tp, .int (nI T), .int vfa, .int vbr, .int vba, .int vsp, .int (nI nhe), .int vtk, .int vva, .ref cu, .ref lt, .ref od, .ref th, .ref be, .ref ln, .int (nI S), .ref ma, .int (nI M), .ref ah, .ref bh, .ref ik, .ref la, .ref lg, .ref ce, .int vto]))] s.heap.size = A at hD ⊢
  have hA : ∀ q : Nat, s.heap.size ≤ q → A q := fun q h => by rw [← hAe]; exact Or.inr h
  have hS : va_S A s.heap s.heap [] := va_S.rf
  have hl := lv_entry ([.ref h0, .int cd]) (n := 2) (Nat.le_of_ble_eq_true rfl)
  rw [lg_entry_eq]
  generalize (lg_sl ([.ref h0, .int cd]) ++ List.replicate (2 - (lg_sl ([.ref h0, .int cd])).length) Slot.unset).toArray = ls at hl ⊢
  have hl : lv_has ls 2 [(0, .ref h0), (1, .int cd)] := hl
  refine lv_aload_n hx hb dX11_fails_0 rfl (lv_at hl 0 rfl) ?_
  refine va_get (D := (dC, dI)) (ci := 11) (v := .int vbr) (C := RX11) (T := TX11) (N := 35) hx hb hg inG11 hown hK.1 hP 0 rfl rfl 13 (Nat.le_of_ble_eq_true rfl) (hg _ wt_891) (fun _ h9 => h9) rfl dX11_fails_1 ?_
  refine lv_if_ne (tgt := 20) hx hb dX11_fails_4 rfl (fun c1 => ?_) (fun c1 => ?_)
  · skip
    obtain ⟨hP9, hD9⟩ := va_sub2 (ws' := [(h0, .inr (11, [.ref st, .int (nI N), .int (nI B), .ref rp, .int vrs, .int vrb, .int vhs, .int vca, .int vxs, .int vxb, .ref tp, .int (nI T), .int vfa, .int vbr, .int vba, .int vsp, .int (nI nhe), .int vtk, .int vva, .ref cu, .ref lt, .ref od, .ref th, .ref be, .ref ln, .int (nI S), .ref ma, .int (nI M), .ref ah, .ref bh, .ref ik, .ref la, .ref lg, .ref ce, .int vto]))]) hP hD [0] (by decide) rfl
    refine W.widen (k := 0) (n := 0) (Nat.le_of_ble_eq_true rfl) (Nat.le_of_ble_eq_true rfl) ?_
    have tn1259_ : nIT nhe := fun _ => nI_toInt (by first | omega | (have t_c1 := neI c1; have : (0 : Int32).toInt = 0 := qI_0; omega))
    exact W.vret hx hb hr (fun t ht hW => ⟨⟨(vbr, vba), rfl, (by refine ⟨by (have t_c1 := neI c1; have : (0 : Int32).toInt = 0 := qI_0; have t_n0 : (nI N).toInt = (N : Int) := tn1254_ (); have t_n1 : (nI B).toInt = (B : Int) := tn1255_ (); have t_n2 : (nI T).toInt = (T : Int) := tn1256_ (); have t_n3 : (nI nhe).toInt = (nhe : Int) := tn1259_ (); have t_n4 : (nI S).toInt = (S : Int) := tn1257_ (); have t_n5 : (nI M).toInt = (M : Int) := tn1258_ (); omega), ?_, ?_⟩ <;> first | (unfold flB; first | (rw [if_pos (by assumption)]) | (rw [if_neg (by assumption)])) | (unfold flA; first | (rw [if_pos (by assumption)]) | (rw [if_neg (by assumption)]))), ⟨by rw [ht]; exact hP9, hD9⟩⟩, hS.F ht⟩) hS.2.2 dX11_fails_20
  · skip
    refine lv_aload_n hx hb dX11_fails_7 rfl (lv_at hl 0 rfl) ?_
    refine lv_iload_n hx hb dX11_fails_8 rfl (lv_at hl 1 rfl) ?_
    refine va_put (D := (dC, dI)) (ci := 11) (v := .int cd) (ty := .int) (C := RX11) (T := TX11) (N := 35) hx hb hg inG11 tyX11 tyX11_ok nmX11 hown hK.1 hP hD hS 0 rfl rfl 13 (Nat.le_of_ble_eq_true rfl) (hg _ wt_891) (fun _ h9 => h9) rfl (by decide +kernel) rfl rfl (Nat.le_of_ble_eq_true rfl) dX11_fails_9 (fun H locs hP hD hS => ?_)
    refine lv_aload_n hx hb dX11_fails_12 rfl (lv_at hl 0 rfl) ?_
    refine lv_aload_n hx hb dX11_fails_13 rfl (lv_at hl 0 rfl) ?_
    refine va_get (D := (dC, dI)) (ci := 11) (v := .int (nI nhe)) (C := RX11) (T := TX11) (N := 35) hx hb hg inG11 hown hK.1 hP 0 rfl rfl 16 (Nat.le_of_ble_eq_true rfl) (hg _ wt_894) (fun _ h9 => h9) rfl dX11_fails_14 ?_
    refine va_put (D := (dC, dI)) (ci := 11) (v := .int (nI nhe)) (ty := .int) (C := RX11) (T := TX11) (N := 35) hx hb hg inG11 tyX11 tyX11_ok nmX11 hown hK.1 hP hD hS 0 rfl rfl 14 (Nat.le_of_ble_eq_true rfl) (hg _ wt_892) (fun _ h9 => h9) rfl (by decide +kernel) rfl rfl (Nat.le_of_ble_eq_true rfl) dX11_fails_17 (fun H locs hP hD hS => ?_)
    obtain ⟨hP9, hD9⟩ := va_sub2 (ws' := [(h0, .inr (11, [.ref st, .int (nI N), .int (nI B), .ref rp, .int vrs, .int vrb, .int vhs, .int vca, .int vxs, .int vxb, .ref tp, .int (nI T), .int vfa, .int cd, .int (nI nhe), .int vsp, .int (nI nhe), .int vtk, .int vva, .ref cu, .ref lt, .ref od, .ref th, .ref be, .ref ln, .int (nI S), .ref ma, .int (nI M), .ref ah, .ref bh, .ref ik, .ref la, .ref lg, .ref ce, .int vto]))]) hP hD [0] (by decide) rfl
    refine W.widen (k := 0) (n := 0) (Nat.le_of_ble_eq_true rfl) (Nat.le_of_ble_eq_true rfl) ?_
    have tn1260_ : nIT nhe := fun _ => nI_toInt (by first | omega | (have t_c1 := eqI c1; have : (0 : Int32).toInt = 0 := qI_0; omega))
    exact W.vret hx hb hr (fun t ht hW => ⟨⟨(cd, (nI nhe)), rfl, (by refine ⟨by (have t_c1 := eqI c1; have : (0 : Int32).toInt = 0 := qI_0; have t_n0 : (nI N).toInt = (N : Int) := tn1254_ (); have t_n1 : (nI B).toInt = (B : Int) := tn1255_ (); have t_n2 : (nI T).toInt = (T : Int) := tn1256_ (); have t_n3 : (nI nhe).toInt = (nhe : Int) := tn1260_ (); have t_n4 : (nI S).toInt = (S : Int) := tn1257_ (); have t_n5 : (nI M).toInt = (M : Int) := tn1258_ (); omega), ?_, ?_⟩ <;> first | (unfold flB; first | (rw [if_pos (by assumption)]) | (rw [if_neg (by assumption)])) | (unfold flA; first | (rw [if_pos (by assumption)]) | (rw [if_neg (by assumption)]))), ⟨by rw [ht]; exact hP9, hD9⟩⟩, hS.F ht⟩) hS.2.2 dX11_fails_20

set_option maxHeartbeats 1000000 in
set_option maxRecDepth 100000 in
theorem c_X11_goesOnE (l : Launch) (dC : Nat → ClassId) (dI : Nat → Nat → Nat) (G : Nat → ClassId) (sz : Nat) (h0 st N B rp tp T nsp nhe cu lt od th be ln S ma M ah bh ik la lg ce : Nat) (vrs vrb vhs vca vxs vxb vfa vbr vba vtk vva vto : Int32) (ftp : Nat → Int32) (hN : N ≤ 10) (hB : B ≤ 6) (hT : T ≤ 320) (hS0 : S ≤ 8) (hM : M ≤ 6) (hbr : 0 ≤ vbr.toInt) (hsp : nsp ≤ T) (hhb : nhe ≤ 320 ∧ (vbr.toInt = 0 ∨ nhe ≤ nsp)) (htb : ∀ q : Nat, q < 320 → 0 ≤ (ftp q).toInt) : Met l yX11_goesOn (Cond.code yX11_goesOn cX11_goesOn 2 none :: GT) ({ frames := 1, cells := 0, slots := 0, locals := 25 } : Room) (PcW [.ref h0] dC dI G [(h0, .inr (11, [.ref st, .int (nI N), .int (nI B), .ref rp, .int vrs, .int vrb, .int vhs, .int vca, .int vxs, .int vxb, .ref tp, .int (nI T), .int vfa, .int vbr, .int vba, .int (nI nsp), .int (nI nhe), .int vtk, .int vva, .ref cu, .ref lt, .ref od, .ref th, .ref be, .ref ln, .int (nI S), .ref ma, .int (nI M), .ref ah, .ref bh, .ref ik, .ref la, .ref lg, .ref ce, .int vto])), (tp, .inl (G 0, 320, .inl ftp))] sz) (va_Qv (fun (u : Int32 × Int32 × Nat × Nat × Int32 × Int32) => match u with | (obr, oba, osp, ohe, otk, ova) => 0 ≤ obr.toInt ∧ (vbr.toInt = 0 ∨ obr.toInt = vbr.toInt) ∧ nsp ≤ osp ∧ osp ≤ T ∧ ohe ≤ osp ∧ (0 < vbr.toInt ∨ otk.toInt = 0 ∨ nsp < osp) ∧ (obr, oba, osp, ohe, otk, ova) = gOn ftp T vbr vba nsp nhe vtk vva) (fun (u : Int32 × Int32 × Nat × Nat × Int32 × Int32) (t : State) => match u with | (obr, oba, osp, ohe, otk, ova) => va_P (dC, dI) vwCl [(h0, .inr (11, [.ref st, .int (nI N), .int (nI B), .ref rp, .int vrs, .int vrb, .int vhs, .int vca, .int vxs, .int vxb, .ref tp, .int (nI T), .int vfa, .int obr, .int oba, .int (nI osp), .int (nI ohe), .int otk, .int ova, .ref cu, .ref lt, .ref od, .ref th, .ref be, .ref ln, .int (nI S), .ref ma, .int (nI M), .ref ah, .ref bh, .ref ik, .ref la, .ref lg, .ref ce, .int vto])), (tp, .inl (G 0, 320, .inl ftp))] t.heap ∧ va_D (va_A [(h0, .inr (11, [.ref st, .int (nI N), .int (nI B), .ref rp, .int vrs, .int vrb, .int vhs, .int vca, .int vxs, .int vxb, .ref tp, .int (nI T), .int vfa, .int vbr, .int vba, .int (nI nsp), .int (nI nhe), .int vtk, .int vva, .ref cu, .ref lt, .ref od, .ref th, .ref be, .ref ln, .int (nI S), .ref ma, .int (nI M), .ref ah, .ref bh, .ref ik, .ref la, .ref lg, .ref ce, .int vto])), (tp, .inl (G 0, 320, .inl ftp))] sz) [(h0, .inr (11, [.ref st, .int (nI N), .int (nI B), .ref rp, .int vrs, .int vrb, .int vhs, .int vca, .int vxs, .int vxb, .ref tp, .int (nI T), .int vfa, .int obr, .int oba, .int (nI osp), .int (nI ohe), .int otk, .int ova, .ref cu, .ref lt, .ref od, .ref th, .ref be, .ref ln, .int (nI S), .ref ma, .int (nI M), .ref ah, .ref bh, .ref ik, .ref la, .ref lg, .ref ce, .int vto])), (tp, .inl (G 0, 320, .inl ftp))]) (va_A [(h0, .inr (11, [.ref st, .int (nI N), .int (nI B), .ref rp, .int vrs, .int vrb, .int vhs, .int vca, .int vxs, .int vxb, .ref tp, .int (nI T), .int vfa, .int vbr, .int vba, .int (nI nsp), .int (nI nhe), .int vtk, .int vva, .ref cu, .ref lt, .ref od, .ref th, .ref be, .ref ln, .int (nI S), .ref ma, .int (nI M), .ref ah, .ref bh, .ref ik, .ref la, .ref lg, .ref ce, .int vto])), (tp, .inl (G 0, 320, .inl ftp))] sz)) 0 0 (va_A [(h0, .inr (11, [.ref st, .int (nI N), .int (nI B), .ref rp, .int vrs, .int vrb, .int vhs, .int vca, .int vxs, .int vxb, .ref tp, .int (nI T), .int vfa, .int vbr, .int vba, .int (nI nsp), .int (nI nhe), .int vtk, .int vva, .ref cu, .ref lt, .ref od, .ref th, .ref be, .ref ln, .int (nI S), .ref ma, .int (nI M), .ref ah, .ref bh, .ref ik, .ref la, .ref lg, .ref ce, .int vto])), (tp, .inl (G 0, 320, .inl ftp))] sz) := by
  have hB_ := hB
  have hM_ := hM
  have hT_ := hT
  have tn1261_ : nIT N := fun _ => nI_toInt (by omega)
  have tn1262_ : nIT B := fun _ => nI_toInt (by omega)
  have tn1263_ : nIT T := fun _ => nI_toInt (by omega)
  have tn1264_ : nIT S := fun _ => nI_toInt (by omega)
  have tn1265_ : nIT M := fun _ => nI_toInt (by omega)
  refine Met.ofW (cc := cX11_goesOn) (maxL := 2) (ret := none) (by decide) rfl ?_
  intro p e s m args below meth c s₁ Bd hml hv
  obtain ⟨rfl, hsz, hP, hK, hD0⟩ := hv
  have hx := Bd.exec
  have hb := Bd.bytes
  have hr := Bd.returns
  have hg : ∀ w ∈ GT, w.before ([.ref h0] : List Value).toArray s = true := fun w h => atoms_spec (ws := Cond.code yX11_goesOn cX11_goesOn 2 none :: GT) Bd.pre w (List.mem_cons_of_mem _ h)
  have hown : s.vm.findClass RX11 = some m.cls := findClass_of_methodNamed Bd.named
  have hlocks := Bd.notSynchronized
  subst hsz
  have hD := hD0.self (sz := s.heap.size)
  generalize hAe : va_A [(h0, .inr (11, [.ref st, .int (nI N), .int (nI B), .ref rp, .int vrs, .int vrb, .int vhs, .int vca, .int vxs, .int vxb, .ref tp, .int (nI T), .int vfa, .int vbr, .int vba, .int (nI nsp), .int (nI nhe), .int vtk, .int vva, .ref cu, .ref lt, .ref od, .ref th, .ref be, .ref ln, .int (nI S), .ref ma, .int (nI M), .ref ah, .ref bh, .ref ik, .ref la, .ref lg, .ref ce, .int vto])), (tp, .inl (G 0, 320, .inl ftp))] s.heap.size = A at hD ⊢
  have hA : ∀ q : Nat, s.heap.size ≤ q → A q := fun q h => by rw [← hAe]; exact Or.inr h
  have hS : va_S A s.heap s.heap [] := va_S.rf
  have hl := lv_entry ([.ref h0]) (n := 2) (Nat.le_of_ble_eq_true rfl)
  rw [lg_entry_eq]
  generalize (lg_sl ([.ref h0]) ++ List.replicate (2 - (lg_sl ([.ref h0])).length) Slot.unset).toArray = ls at hl ⊢
  have hl : lv_has ls 2 [(0, .ref h0)] := hl
  refine lv_aload_n hx hb dX11_goesOn_0 rfl (lv_at hl 0 rfl) ?_
  refine va_get (D := (dC, dI)) (ci := 11) (v := .int vbr) (C := RX11) (T := TX11) (N := 35) hx hb hg inG11 hown hK.1 hP 0 rfl rfl 13 (Nat.le_of_ble_eq_true rfl) (hg _ wt_891) (fun _ h9 => h9) rfl dX11_goesOn_1 ?_
  refine lv_if_le (tgt := 8) hx hb dX11_goesOn_4 rfl (fun c1 => ?_) (fun c1 => ?_)
  · skip
    have loop8_4 : ∀ (nf : Nat) (k3 : Nat), (T - k3) < nf → (nsp ≤ k3 ∧ k3 ≤ T ∧ pst ftp T 32 32 k3 = pst ftp T 32 32 nsp) → ∀ (H : Heap) (locs : List Loc), va_P (dC, dI) vwCl [(h0, .inr (11, [.ref st, .int (nI N), .int (nI B), .ref rp, .int vrs, .int vrb, .int vhs, .int vca, .int vxs, .int vxb, .ref tp, .int (nI T), .int vfa, .int vbr, .int vba, .int (nI k3), .int (nI nhe), .int vtk, .int vva, .ref cu, .ref lt, .ref od, .ref th, .ref be, .ref ln, .int (nI S), .ref ma, .int (nI M), .ref ah, .ref bh, .ref ik, .ref la, .ref lg, .ref ce, .int vto])), (tp, .inl (G 0, 320, .inl ftp))] H → va_D A [(h0, .inr (11, [.ref st, .int (nI N), .int (nI B), .ref rp, .int vrs, .int vrb, .int vhs, .int vca, .int vxs, .int vxb, .ref tp, .int (nI T), .int vfa, .int vbr, .int vba, .int (nI k3), .int (nI nhe), .int vtk, .int vva, .ref cu, .ref lt, .ref od, .ref th, .ref be, .ref ln, .int (nI S), .ref ma, .int (nI M), .ref ah, .ref bh, .ref ik, .ref la, .ref lg, .ref ce, .int vto])), (tp, .inl (G 0, 320, .inl ftp))] → va_S A s.heap H locs → ∀ (ls : Array Slot), lv_has ls 2 [(0, .ref h0)] → W p l e (headSpec (Cond.code yX11_goesOn cX11_goesOn 2 none :: GT) ({ frames := 1, cells := 0, slots := 0, locals := 25 } : Room)).room s m ([.ref h0] : List Value).toArray below meth c H locs 0 0 (MQ below (va_Qv (fun (u : Int32 × Int32 × Nat × Nat × Int32 × Int32) => match u with | (obr, oba, osp, ohe, otk, ova) => 0 ≤ obr.toInt ∧ (vbr.toInt = 0 ∨ obr.toInt = vbr.toInt) ∧ nsp ≤ osp ∧ osp ≤ T ∧ ohe ≤ osp ∧ (0 < vbr.toInt ∨ otk.toInt = 0 ∨ nsp < osp) ∧ (obr, oba, osp, ohe, otk, ova) = gOn ftp T vbr vba nsp nhe vtk vva) (fun (u : Int32 × Int32 × Nat × Nat × Int32 × Int32) (t : State) => match u with | (obr, oba, osp, ohe, otk, ova) => va_P (dC, dI) vwCl [(h0, .inr (11, [.ref st, .int (nI N), .int (nI B), .ref rp, .int vrs, .int vrb, .int vhs, .int vca, .int vxs, .int vxb, .ref tp, .int (nI T), .int vfa, .int obr, .int oba, .int (nI osp), .int (nI ohe), .int otk, .int ova, .ref cu, .ref lt, .ref od, .ref th, .ref be, .ref ln, .int (nI S), .ref ma, .int (nI M), .ref ah, .ref bh, .ref ik, .ref la, .ref lg, .ref ce, .int vto])), (tp, .inl (G 0, 320, .inl ftp))] t.heap ∧ va_D A [(h0, .inr (11, [.ref st, .int (nI N), .int (nI B), .ref rp, .int vrs, .int vrb, .int vhs, .int vca, .int vxs, .int vxb, .ref tp, .int (nI T), .int vfa, .int obr, .int oba, .int (nI osp), .int (nI ohe), .int otk, .int ova, .ref cu, .ref lt, .ref od, .ref th, .ref be, .ref ln, .int (nI S), .ref ma, .int (nI M), .ref ah, .ref bh, .ref ik, .ref la, .ref lg, .ref ce, .int vto])), (tp, .inl (G 0, 320, .inl ftp))]) A) ([.ref h0] : List Value).toArray s 0 0 A) (F0 m 8 ls []) := by
      intro nf
      induction nf with
      | zero => intro k3 h1; exact absurd h1 (Nat.not_lt_zero _)
      | succ nf ih8_4 =>
        intro k3 hm5 hinva H locs hP hD hS ls hl
        refine lv_aload_n hx hb dX11_goesOn_8 rfl (lv_at hl 0 rfl) ?_
        refine lv_aload_n hx hb dX11_goesOn_9 rfl (lv_at hl 0 rfl) ?_
        refine va_get (D := (dC, dI)) (ci := 11) (v := .int (nI k3)) (C := RX11) (T := TX11) (N := 35) hx hb hg inG11 hown hK.1 hP 0 rfl rfl 15 (Nat.le_of_ble_eq_true rfl) (hg _ wt_893) (fun _ h9 => h9) rfl dX11_goesOn_10 ?_
        have hPc := hP.sub (ws' := [(h0, .inr (11, [.ref st, .int (nI N), .int (nI B), .ref rp, .int vrs, .int vrb, .int vhs, .int vca, .int vxs, .int vxb, .ref tp, .int (nI T), .int vfa, .int vbr, .int vba, .int (nI k3), .int (nI nhe), .int vtk, .int vva, .ref cu, .ref lt, .ref od, .ref th, .ref be, .ref ln, .int (nI S), .ref ma, .int (nI M), .ref ah, .ref bh, .ref ik, .ref la, .ref lg, .ref ce, .int vto])), (tp, .inl (G 0, 320, .inl ftp))]) [0, 1] rfl
        have tn1266_ : nIT nsp := fun _ => nI_toInt (by first | omega | (have t_c1 := leI c1; have t_hinva := hinva; have : (0 : Int32).toInt = 0 := qI_0; omega))
        have tn1267_ : nIT nhe := fun _ => nI_toInt (by first | omega | (have t_c1 := leI c1; have t_hinva := hinva; have : (0 : Int32).toInt = 0 := qI_0; omega))
        have tn1268_ : nIT k3 := fun _ => nI_toInt (by first | omega | (have t_c1 := leI c1; have t_hinva := hinva; have : (0 : Int32).toInt = 0 := qI_0; omega))
        refine va_calli (va_runV (As := [.int (nI k3)]) (rest := []) ⟨hx, hb, hml, hown, hg⟩ (c_X11_byteAt l dC dI G _ h0 k3 st N B rp tp T cu lt od th be ln S ma M ah bh ik la lg ce vrs vrb vhs vca vxs vxb vfa vbr vba (nI k3) (nI nhe) vtk vva vto ftp hN hB_ hT_ hS0 hM_ (by first | omega | (have t_c1 := leI c1; have t_hinva := hinva; have : (0 : Int32).toInt = 0 := qI_0; have t_n0 : (nI N).toInt = (N : Int) := tn1261_ (); have t_n1 : (nI B).toInt = (B : Int) := tn1262_ (); have t_n2 : (nI T).toInt = (T : Int) := tn1263_ (); have t_n3 : (nI nsp).toInt = (nsp : Int) := tn1266_ (); have t_n4 : (nI nhe).toInt = (nhe : Int) := tn1267_ (); have t_n5 : (nI S).toInt = (S : Int) := tn1264_ (); have t_n6 : (nI M).toInt = (M : Int) := tn1265_ (); have t_n7 : (nI k3).toInt = (k3 : Int) := tn1268_ (); omega))) (kwV hg mfX11_byteAt wt_1003 ⟨Nat.le_of_ble_eq_true rfl, Nat.le_of_ble_eq_true rfl⟩) (preVR hK hPc (ci := 11) rfl rfl) rfl rfl hl.1 rfl (lv_room (Nat.le_of_ble_eq_true rfl)) dX11_goesOn_13 ⟨Nat.le_of_ble_eq_true rfl, Nat.le_of_ble_eq_true rfl⟩) hS (fun q h1 h2 => absurd h2 (Nat.not_le.mpr h1)) (fun q h => hA q (Nat.le_trans hS.1 h)) (fun r6 ur6 t H1 locs ht hvm w7 hB hz1 hk1 hS => ?_)
        have hP := keepR hP hk1
        obtain ⟨w7, w7x⟩ := w7
        rcases w7 with ⟨w71, w72⟩ | ⟨w71, w72⟩
        · skip
          refine lv_cg (y := ftp k3) w72 ?_
          refine lv_bipush (v := 32) hx hb dX11_goesOn_16 rfl ?_
          refine lv_icmp_ne (tgt := 34) hx hb dX11_goesOn_18 rfl (fun c8 => ?_) (fun c8 => ?_)
          · skip
            refine lv_aload_n hx hb dX11_goesOn_34 rfl (lv_at hl 0 rfl) ?_
            refine lv_aload_n hx hb dX11_goesOn_35 rfl (lv_at hl 0 rfl) ?_
            refine va_get (D := (dC, dI)) (ci := 11) (v := .int (nI k3)) (C := RX11) (T := TX11) (N := 35) hx hb hg inG11 hown hK.1 hP 0 rfl rfl 15 (Nat.le_of_ble_eq_true rfl) (hg _ wt_893) (fun _ h9 => h9) rfl dX11_goesOn_36 ?_
            refine va_put (D := (dC, dI)) (ci := 11) (v := .int (nI k3)) (ty := .int) (C := RX11) (T := TX11) (N := 35) hx hb hg inG11 tyX11 tyX11_ok nmX11 hown hK.1 hP hD hS 0 rfl rfl 16 (Nat.le_of_ble_eq_true rfl) (hg _ wt_894) (fun _ h9 => h9) rfl (by decide +kernel) rfl rfl (Nat.le_of_ble_eq_true rfl) dX11_goesOn_39 (fun H locs hP hD hS => ?_)
            refine lv_aload_n hx hb dX11_goesOn_42 rfl (lv_at hl 0 rfl) ?_
            refine lv_aload_n hx hb dX11_goesOn_43 rfl (lv_at hl 0 rfl) ?_
            refine va_get (D := (dC, dI)) (ci := 11) (v := .int (nI k3)) (C := RX11) (T := TX11) (N := 35) hx hb hg inG11 hown hK.1 hP 0 rfl rfl 15 (Nat.le_of_ble_eq_true rfl) (hg _ wt_893) (fun _ h9 => h9) rfl dX11_goesOn_44 ?_
            have hPc := hP.sub (ws' := [(h0, .inr (11, [.ref st, .int (nI N), .int (nI B), .ref rp, .int vrs, .int vrb, .int vhs, .int vca, .int vxs, .int vxb, .ref tp, .int (nI T), .int vfa, .int vbr, .int vba, .int (nI k3), .int (nI k3), .int vtk, .int vva, .ref cu, .ref lt, .ref od, .ref th, .ref be, .ref ln, .int (nI S), .ref ma, .int (nI M), .ref ah, .ref bh, .ref ik, .ref la, .ref lg, .ref ce, .int vto])), (tp, .inl (G 0, 320, .inl ftp))]) [0, 1] rfl
            refine va_calli (va_runV (As := [.int (nI k3)]) (rest := []) ⟨hx, hb, hml, hown, hg⟩ (c_X11_byteAt l dC dI G _ h0 k3 st N B rp tp T cu lt od th be ln S ma M ah bh ik la lg ce vrs vrb vhs vca vxs vxb vfa vbr vba (nI k3) (nI k3) vtk vva vto ftp hN hB_ hT_ hS0 hM_ (by first | omega | (have t_c1 := leI c1; have t_hinva := hinva; have t_w71 := w71; have t_c8 := neI c8; have : (0 : Int32).toInt = 0 := qI_0; have : (32 : Int32).toInt = 32 := qI_32; have t_n0 : (nI N).toInt = (N : Int) := tn1261_ (); have t_n1 : (nI B).toInt = (B : Int) := tn1262_ (); have t_n2 : (nI T).toInt = (T : Int) := tn1263_ (); have t_n3 : (nI nsp).toInt = (nsp : Int) := tn1266_ (); have t_n4 : (nI nhe).toInt = (nhe : Int) := tn1267_ (); have t_n5 : (nI S).toInt = (S : Int) := tn1264_ (); have t_n6 : (nI M).toInt = (M : Int) := tn1265_ (); have t_n7 : (nI k3).toInt = (k3 : Int) := tn1268_ (); omega))) (kwV hg mfX11_byteAt wt_1003 ⟨Nat.le_of_ble_eq_true rfl, Nat.le_of_ble_eq_true rfl⟩) (preVR hK hPc (ci := 11) rfl rfl) rfl rfl hl.1 rfl (lv_room (Nat.le_of_ble_eq_true rfl)) dX11_goesOn_47 ⟨Nat.le_of_ble_eq_true rfl, Nat.le_of_ble_eq_true rfl⟩) hS (fun q h1 h2 => absurd h2 (Nat.not_le.mpr h1)) (fun q h => hA q (Nat.le_trans hS.1 h)) (fun r9 ur9 t H1 locs ht hvm w10 hB hz1 hk1 hS => ?_)
            have hP := keepR hP hk1
            obtain ⟨w10, w10x⟩ := w10
            rcases w10 with ⟨w101, w102⟩ | ⟨w101, w102⟩
            · skip
              refine lv_cg (y := ftp k3) w102 ?_
              refine lv_istore_n (lv' := [(1, .int (ftp k3)), (0, .ref h0)]) hx hb dX11_goesOn_50 rfl hl (by decide) rfl (fun ls hl => ?_)
              refine lv_aload_n hx hb dX11_goesOn_51 rfl (lv_at hl 1 rfl) ?_
              refine lv_iconst (v := 0) hx hb dX11_goesOn_52 rfl ?_
              refine va_put (D := (dC, dI)) (ci := 11) (v := .int 0) (ty := .int) (C := RX11) (T := TX11) (N := 35) hx hb hg inG11 tyX11 tyX11_ok nmX11 hown hK.1 hP hD hS 0 rfl rfl 18 (Nat.le_of_ble_eq_true rfl) (hg _ wt_896) (fun _ h9 => h9) rfl (by decide +kernel) rfl rfl (Nat.le_of_ble_eq_true rfl) dX11_goesOn_53 (fun H locs hP hD hS => ?_)
              refine lv_iload_n hx hb dX11_goesOn_56 rfl (lv_at hl 0 rfl) ?_
              refine lv_bipush (v := (-4)) hx hb dX11_goesOn_57 rfl ?_
              refine lv_icmp_ne (tgt := 70) hx hb dX11_goesOn_59 rfl (fun c11 => ?_) (fun c11 => ?_)
              · skip
                refine lv_iload_n hx hb dX11_goesOn_70 rfl (lv_at hl 0 rfl) ?_
                refine lv_i2l (v := (ftp k3).toInt64) hx hb dX11_goesOn_71 rfl ?_
                refine lv_ldc2 (v := 97) hx hb hown (hg _ wt_1007) dX11_goesOn_72 ?_
                refine lv_ldc2 (v := 122) hx hb hown (hg _ wt_1008) dX11_goesOn_75 ?_
                have hPc := hP.sub (ws' := []) [] rfl
                refine va_calli (va_runS (As := [.long ((ftp k3).toInt64), .long 97, .long 122]) (rest := []) ⟨hx, hb, hml, hown, hg⟩ (c_X11_in l dC dI G _ ((ftp k3).toInt64) 97 122) (kwS hg mfX11_in wt_992 ⟨Nat.le_of_ble_eq_true rfl, Nat.le_of_ble_eq_true rfl⟩) (preSR hK hPc) rfl rfl hl.1 rfl (lv_room (Nat.le_of_ble_eq_true rfl)) dX11_goesOn_78 ⟨Nat.le_of_ble_eq_true rfl, Nat.le_of_ble_eq_true rfl⟩) hS (fun q h1 h2 => absurd h2 (Nat.not_le.mpr h1)) (fun q h => hA q (Nat.le_trans hS.1 h)) (fun r12 ur12 t H1 locs ht hvm w13 hB hz1 hk1 hS => ?_)
                have hP := keepR hP hk1
                obtain ⟨w13, w13x⟩ := w13
                try simp only [l_ii, show (97 : Int64).toInt = 97 from by decide, show (122 : Int64).toInt = 122 from by decide] at w13
                subst w13
                refine lv_if_eq (tgt := 126) hx hb dX11_goesOn_81 rfl (fun c14 => ?_) (fun c14 => ?_)
                · skip
                  have b15 := if10_n c14
                  refine lv_iload_n hx hb dX11_goesOn_126 rfl (lv_at hl 0 rfl) ?_
                  refine lv_i2l (v := (ftp k3).toInt64) hx hb dX11_goesOn_127 rfl ?_
                  refine lv_ldc2 (v := 48) hx hb hown (hg _ wt_1009) dX11_goesOn_128 ?_
                  refine lv_ldc2 (v := 57) hx hb hown (hg _ wt_1010) dX11_goesOn_131 ?_
                  have hPc := hP.sub (ws' := []) [] rfl
                  refine va_calli (va_runS (As := [.long ((ftp k3).toInt64), .long 48, .long 57]) (rest := []) ⟨hx, hb, hml, hown, hg⟩ (c_X11_in l dC dI G _ ((ftp k3).toInt64) 48 57) (kwS hg mfX11_in wt_992 ⟨Nat.le_of_ble_eq_true rfl, Nat.le_of_ble_eq_true rfl⟩) (preSR hK hPc) rfl rfl hl.1 rfl (lv_room (Nat.le_of_ble_eq_true rfl)) dX11_goesOn_134 ⟨Nat.le_of_ble_eq_true rfl, Nat.le_of_ble_eq_true rfl⟩) hS (fun q h1 h2 => absurd h2 (Nat.not_le.mpr h1)) (fun q h => hA q (Nat.le_trans hS.1 h)) (fun r16 ur16 t H1 locs ht hvm w17 hB hz1 hk1 hS => ?_)
                  have hP := keepR hP hk1
                  obtain ⟨w17, w17x⟩ := w17
                  try simp only [l_ii, show (48 : Int64).toInt = 48 from by decide, show (57 : Int64).toInt = 57 from by decide] at w17
                  subst w17
                  refine lv_if_eq (tgt := 243) hx hb dX11_goesOn_137 rfl (fun c18 => ?_) (fun c18 => ?_)
                  · skip
                    have b19 := if10_n c18
                    refine lv_aload_n hx hb dX11_goesOn_243 rfl (lv_at hl 1 rfl) ?_
                    refine lv_iconst (v := 3) hx hb dX11_goesOn_244 rfl ?_
                    refine va_put (D := (dC, dI)) (ci := 11) (v := .int 3) (ty := .int) (C := RX11) (T := TX11) (N := 35) hx hb hg inG11 tyX11 tyX11_ok nmX11 hown hK.1 hP hD hS 0 rfl rfl 17 (Nat.le_of_ble_eq_true rfl) (hg _ wt_895) (fun _ h9 => h9) rfl (by decide +kernel) rfl rfl (Nat.le_of_ble_eq_true rfl) dX11_goesOn_245 (fun H locs hP hD hS => ?_)
                    refine lv_aload_n hx hb dX11_goesOn_248 rfl (lv_at hl 1 rfl) ?_
                    refine lv_dup hx hb dX11_goesOn_249 rfl ?_
                    refine va_get (D := (dC, dI)) (ci := 11) (v := .int (nI k3)) (C := RX11) (T := TX11) (N := 35) hx hb hg inG11 hown hK.1 hP 0 rfl rfl 15 (Nat.le_of_ble_eq_true rfl) (hg _ wt_893) (fun _ h9 => h9) rfl dX11_goesOn_250 ?_
                    refine lv_iconst (v := 1) hx hb dX11_goesOn_253 rfl ?_
                    refine lv_iadd hx hb dX11_goesOn_254 ?_
                    refine lv_cg (y := nI (k3 + 1)) (by rw [show (1 : Int32) = nI 1 from rfl]; exact nI_add _ _) ?_
                    refine va_put (D := (dC, dI)) (ci := 11) (v := .int (nI (k3 + 1))) (ty := .int) (C := RX11) (T := TX11) (N := 35) hx hb hg inG11 tyX11 tyX11_ok nmX11 hown hK.1 hP hD hS 0 rfl rfl 15 (Nat.le_of_ble_eq_true rfl) (hg _ wt_893) (fun _ h9 => h9) rfl (by decide +kernel) rfl rfl (Nat.le_of_ble_eq_true rfl) dX11_goesOn_255 (fun H locs hP hD hS => ?_)
                    refine lv_iload_n hx hb dX11_goesOn_258 rfl (lv_at hl 0 rfl) ?_
                    refine lv_bipush (v := 59) hx hb dX11_goesOn_259 rfl ?_
                    refine lv_icmp_eq (tgt := 269) hx hb dX11_goesOn_261 rfl (fun c20 => ?_) (fun c20 => ?_)
                    · skip
                      obtain ⟨hP9, hD9⟩ := va_sub2 (ws' := [(h0, .inr (11, [.ref st, .int (nI N), .int (nI B), .ref rp, .int vrs, .int vrb, .int vhs, .int vca, .int vxs, .int vxb, .ref tp, .int (nI T), .int vfa, .int vbr, .int vba, .int (nI (k3 + 1)), .int (nI k3), .int 3, .int 0, .ref cu, .ref lt, .ref od, .ref th, .ref be, .ref ln, .int (nI S), .ref ma, .int (nI M), .ref ah, .ref bh, .ref ik, .ref la, .ref lg, .ref ce, .int vto])), (tp, .inl (G 0, 320, .inl ftp))]) hP hD [0, 1] (by decide) rfl
                      refine W.widen (k := 0) (n := 0) (Nat.le_of_ble_eq_true rfl) (Nat.le_of_ble_eq_true rfl) ?_
                      exact W.vret hx hb hr (fun t ht hW => ⟨⟨(vbr, vba, (k3 + 1), k3, 3, 0), rfl, (by have hb8 := htb k3; first | (exfalso; (have t_c1 := leI c1; have t_hinva := hinva; have t_w71 := w71; have t_c8 := neI c8; have t_w101 := w101; have t_c11 := neI c11; have t_b15 := b15; have t_b19 := b19; have t_c20 := eqI c20; have : ((-4) : Int32).toInt = -4 := qI_m4; have : (0 : Int32).toInt = 0 := qI_0; have : (32 : Int32).toInt = 32 := qI_32; have : (59 : Int32).toInt = 59 := qI_59; have t_n0 : (nI N).toInt = (N : Int) := tn1261_ (); have t_n1 : (nI B).toInt = (B : Int) := tn1262_ (); have t_n2 : (nI T).toInt = (T : Int) := tn1263_ (); have t_n3 : (nI nsp).toInt = (nsp : Int) := tn1266_ (); have t_n4 : (nI nhe).toInt = (nhe : Int) := tn1267_ (); have t_n5 : (nI S).toInt = (S : Int) := tn1264_ (); have t_n6 : (nI M).toInt = (M : Int) := tn1265_ (); have t_n7 : (nI k3).toInt = (k3 : Int) := tn1268_ (); have z0 : (0 : Int32).toInt = 0 := qI_0; have z1 : (1 : Int32).toInt = 1 := qI_1; have z2 : (2 : Int32).toInt = 2 := qI_2; have z3 : (3 : Int32).toInt = 3 := qI_3; have z5 : (5 : Int32).toInt = 5 := qI_5; have z9 : (9 : Int32).toInt = 9 := qI_9; omega)) | skip; refine ⟨by (have t_c1 := leI c1; have t_hinva := hinva; have t_w71 := w71; have t_c8 := neI c8; have t_w101 := w101; have t_c11 := neI c11; have t_b15 := b15; have t_b19 := b19; have t_c20 := eqI c20; have : ((-4) : Int32).toInt = -4 := qI_m4; have : (0 : Int32).toInt = 0 := qI_0; have : (32 : Int32).toInt = 32 := qI_32; have : (59 : Int32).toInt = 59 := qI_59; have t_n0 : (nI N).toInt = (N : Int) := tn1261_ (); have t_n1 : (nI B).toInt = (B : Int) := tn1262_ (); have t_n2 : (nI T).toInt = (T : Int) := tn1263_ (); have t_n3 : (nI nsp).toInt = (nsp : Int) := tn1266_ (); have t_n4 : (nI nhe).toInt = (nhe : Int) := tn1267_ (); have t_n5 : (nI S).toInt = (S : Int) := tn1264_ (); have t_n6 : (nI M).toInt = (M : Int) := tn1265_ (); have t_n7 : (nI k3).toInt = (k3 : Int) := tn1268_ (); have z0 : (0 : Int32).toInt = 0 := qI_0; have z1 : (1 : Int32).toInt = 1 := qI_1; have z2 : (2 : Int32).toInt = 2 := qI_2; have z3 : (3 : Int32).toInt = 3 := qI_3; have z5 : (5 : Int32).toInt = 5 := qI_5; have z9 : (9 : Int32).toInt = 9 := qI_9; omega), ?_, by (have t_c1 := leI c1; have t_hinva := hinva; have t_w71 := w71; have t_c8 := neI c8; have t_w101 := w101; have t_c11 := neI c11; have t_b15 := b15; have t_b19 := b19; have t_c20 := eqI c20; have : ((-4) : Int32).toInt = -4 := qI_m4; have : (0 : Int32).toInt = 0 := qI_0; have : (32 : Int32).toInt = 32 := qI_32; have : (59 : Int32).toInt = 59 := qI_59; have t_n0 : (nI N).toInt = (N : Int) := tn1261_ (); have t_n1 : (nI B).toInt = (B : Int) := tn1262_ (); have t_n2 : (nI T).toInt = (T : Int) := tn1263_ (); have t_n3 : (nI nsp).toInt = (nsp : Int) := tn1266_ (); have t_n4 : (nI nhe).toInt = (nhe : Int) := tn1267_ (); have t_n5 : (nI S).toInt = (S : Int) := tn1264_ (); have t_n6 : (nI M).toInt = (M : Int) := tn1265_ (); have t_n7 : (nI k3).toInt = (k3 : Int) := tn1268_ (); have z0 : (0 : Int32).toInt = 0 := qI_0; have z1 : (1 : Int32).toInt = 1 := qI_1; have z2 : (2 : Int32).toInt = 2 := qI_2; have z3 : (3 : Int32).toInt = 3 := qI_3; have z5 : (5 : Int32).toInt = 5 := qI_5; have z9 : (9 : Int32).toInt = 9 := qI_9; omega), by (have t_c1 := leI c1; have t_hinva := hinva; have t_w71 := w71; have t_c8 := neI c8; have t_w101 := w101; have t_c11 := neI c11; have t_b15 := b15; have t_b19 := b19; have t_c20 := eqI c20; have : ((-4) : Int32).toInt = -4 := qI_m4; have : (0 : Int32).toInt = 0 := qI_0; have : (32 : Int32).toInt = 32 := qI_32; have : (59 : Int32).toInt = 59 := qI_59; have t_n0 : (nI N).toInt = (N : Int) := tn1261_ (); have t_n1 : (nI B).toInt = (B : Int) := tn1262_ (); have t_n2 : (nI T).toInt = (T : Int) := tn1263_ (); have t_n3 : (nI nsp).toInt = (nsp : Int) := tn1266_ (); have t_n4 : (nI nhe).toInt = (nhe : Int) := tn1267_ (); have t_n5 : (nI S).toInt = (S : Int) := tn1264_ (); have t_n6 : (nI M).toInt = (M : Int) := tn1265_ (); have t_n7 : (nI k3).toInt = (k3 : Int) := tn1268_ (); have z0 : (0 : Int32).toInt = 0 := qI_0; have z1 : (1 : Int32).toInt = 1 := qI_1; have z2 : (2 : Int32).toInt = 2 := qI_2; have z3 : (3 : Int32).toInt = 3 := qI_3; have z5 : (5 : Int32).toInt = 5 := qI_5; have z9 : (9 : Int32).toInt = 9 := qI_9; omega), by (have t_c1 := leI c1; have t_hinva := hinva; have t_w71 := w71; have t_c8 := neI c8; have t_w101 := w101; have t_c11 := neI c11; have t_b15 := b15; have t_b19 := b19; have t_c20 := eqI c20; have : ((-4) : Int32).toInt = -4 := qI_m4; have : (0 : Int32).toInt = 0 := qI_0; have : (32 : Int32).toInt = 32 := qI_32; have : (59 : Int32).toInt = 59 := qI_59; have t_n0 : (nI N).toInt = (N : Int) := tn1261_ (); have t_n1 : (nI B).toInt = (B : Int) := tn1262_ (); have t_n2 : (nI T).toInt = (T : Int) := tn1263_ (); have t_n3 : (nI nsp).toInt = (nsp : Int) := tn1266_ (); have t_n4 : (nI nhe).toInt = (nhe : Int) := tn1267_ (); have t_n5 : (nI S).toInt = (S : Int) := tn1264_ (); have t_n6 : (nI M).toInt = (M : Int) := tn1265_ (); have t_n7 : (nI k3).toInt = (k3 : Int) := tn1268_ (); have z0 : (0 : Int32).toInt = 0 := qI_0; have z1 : (1 : Int32).toInt = 1 := qI_1; have z2 : (2 : Int32).toInt = 2 := qI_2; have z3 : (3 : Int32).toInt = 3 := qI_3; have z5 : (5 : Int32).toInt = 5 := qI_5; have z9 : (9 : Int32).toInt = 9 := qI_9; omega), ?_, ?_⟩; (first | exact Or.inr rfl | exact Or.inl (by (have t_c1 := leI c1; have t_hinva := hinva; have t_w71 := w71; have t_c8 := neI c8; have t_w101 := w101; have t_c11 := neI c11; have t_b15 := b15; have t_b19 := b19; have t_c20 := eqI c20; have : ((-4) : Int32).toInt = -4 := qI_m4; have : (0 : Int32).toInt = 0 := qI_0; have : (32 : Int32).toInt = 32 := qI_32; have : (59 : Int32).toInt = 59 := qI_59; have t_n0 : (nI N).toInt = (N : Int) := tn1261_ (); have t_n1 : (nI B).toInt = (B : Int) := tn1262_ (); have t_n2 : (nI T).toInt = (T : Int) := tn1263_ (); have t_n3 : (nI nsp).toInt = (nsp : Int) := tn1266_ (); have t_n4 : (nI nhe).toInt = (nhe : Int) := tn1267_ (); have t_n5 : (nI S).toInt = (S : Int) := tn1264_ (); have t_n6 : (nI M).toInt = (M : Int) := tn1265_ (); have t_n7 : (nI k3).toInt = (k3 : Int) := tn1268_ (); have z0 : (0 : Int32).toInt = 0 := qI_0; have z1 : (1 : Int32).toInt = 1 := qI_1; have z2 : (2 : Int32).toInt = 2 := qI_2; have z3 : (3 : Int32).toInt = 3 := qI_3; have z5 : (5 : Int32).toInt = 5 := qI_5; have z9 : (9 : Int32).toInt = 9 := qI_9; omega))); (have t_c1 := leI c1; have t_hinva := hinva; have t_w71 := w71; have t_c8 := neI c8; have t_w101 := w101; have t_c11 := neI c11; have t_b15 := b15; have t_b19 := b19; have t_c20 := eqI c20; have : ((-4) : Int32).toInt = -4 := qI_m4; have : (0 : Int32).toInt = 0 := qI_0; have : (32 : Int32).toInt = 32 := qI_32; have : (59 : Int32).toInt = 59 := qI_59; have t_n0 : (nI N).toInt = (N : Int) := tn1261_ (); have t_n1 : (nI B).toInt = (B : Int) := tn1262_ (); have t_n2 : (nI T).toInt = (T : Int) := tn1263_ (); have t_n3 : (nI nsp).toInt = (nsp : Int) := tn1266_ (); have t_n4 : (nI nhe).toInt = (nhe : Int) := tn1267_ (); have t_n5 : (nI S).toInt = (S : Int) := tn1264_ (); have t_n6 : (nI M).toInt = (M : Int) := tn1265_ (); have t_n7 : (nI k3).toInt = (k3 : Int) := tn1268_ (); have z0 : (0 : Int32).toInt = 0 := qI_0; have z1 : (1 : Int32).toInt = 1 := qI_1; have z2 : (2 : Int32).toInt = 2 := qI_2; have z3 : (3 : Int32).toInt = 3 := qI_3; have z5 : (5 : Int32).toInt = 5 := qI_5; have z9 : (9 : Int32).toInt = 9 := qI_9; omega); (have ea : pst ftp T 32 32 nsp = k3 := hinva.2.2.symm.trans (pst_out (by (have t_c1 := leI c1; have t_hinva := hinva; have t_w71 := w71; have t_c8 := neI c8; have t_w101 := w101; have t_c11 := neI c11; have t_b15 := b15; have t_b19 := b19; have t_c20 := eqI c20; have : ((-4) : Int32).toInt = -4 := qI_m4; have : (0 : Int32).toInt = 0 := qI_0; have : (32 : Int32).toInt = 32 := qI_32; have : (59 : Int32).toInt = 59 := qI_59; have t_n0 : (nI N).toInt = (N : Int) := tn1261_ (); have t_n1 : (nI B).toInt = (B : Int) := tn1262_ (); have t_n2 : (nI T).toInt = (T : Int) := tn1263_ (); have t_n3 : (nI nsp).toInt = (nsp : Int) := tn1266_ (); have t_n4 : (nI nhe).toInt = (nhe : Int) := tn1267_ (); have t_n5 : (nI S).toInt = (S : Int) := tn1264_ (); have t_n6 : (nI M).toInt = (M : Int) := tn1265_ (); have t_n7 : (nI k3).toInt = (k3 : Int) := tn1268_ (); have z0 : (0 : Int32).toInt = 0 := qI_0; have z1 : (1 : Int32).toInt = 1 := qI_1; have z2 : (2 : Int32).toInt = 2 := qI_2; have z3 : (3 : Int32).toInt = 3 := qI_3; have z5 : (5 : Int32).toInt = 5 := qI_5; have z9 : (9 : Int32).toInt = 9 := qI_9; omega))); unfold gOn; rw [if_neg (by (have t_c1 := leI c1; have t_hinva := hinva; have t_w71 := w71; have t_c8 := neI c8; have t_w101 := w101; have t_c11 := neI c11; have t_b15 := b15; have t_b19 := b19; have t_c20 := eqI c20; have : ((-4) : Int32).toInt = -4 := qI_m4; have : (0 : Int32).toInt = 0 := qI_0; have : (32 : Int32).toInt = 32 := qI_32; have : (59 : Int32).toInt = 59 := qI_59; have t_n0 : (nI N).toInt = (N : Int) := tn1261_ (); have t_n1 : (nI B).toInt = (B : Int) := tn1262_ (); have t_n2 : (nI T).toInt = (T : Int) := tn1263_ (); have t_n3 : (nI nsp).toInt = (nsp : Int) := tn1266_ (); have t_n4 : (nI nhe).toInt = (nhe : Int) := tn1267_ (); have t_n5 : (nI S).toInt = (S : Int) := tn1264_ (); have t_n6 : (nI M).toInt = (M : Int) := tn1265_ (); have t_n7 : (nI k3).toInt = (k3 : Int) := tn1268_ (); have z0 : (0 : Int32).toInt = 0 := qI_0; have z1 : (1 : Int32).toInt = 1 := qI_1; have z2 : (2 : Int32).toInt = 2 := qI_2; have z3 : (3 : Int32).toInt = 3 := qI_3; have z5 : (5 : Int32).toInt = 5 := qI_5; have z9 : (9 : Int32).toInt = 9 := qI_9; omega)), ea]; unfold gOn1; rw [if_neg (by (have t_c1 := leI c1; have t_hinva := hinva; have t_w71 := w71; have t_c8 := neI c8; have t_w101 := w101; have t_c11 := neI c11; have t_b15 := b15; have t_b19 := b19; have t_c20 := eqI c20; have : ((-4) : Int32).toInt = -4 := qI_m4; have : (0 : Int32).toInt = 0 := qI_0; have : (32 : Int32).toInt = 32 := qI_32; have : (59 : Int32).toInt = 59 := qI_59; have t_n0 : (nI N).toInt = (N : Int) := tn1261_ (); have t_n1 : (nI B).toInt = (B : Int) := tn1262_ (); have t_n2 : (nI T).toInt = (T : Int) := tn1263_ (); have t_n3 : (nI nsp).toInt = (nsp : Int) := tn1266_ (); have t_n4 : (nI nhe).toInt = (nhe : Int) := tn1267_ (); have t_n5 : (nI S).toInt = (S : Int) := tn1264_ (); have t_n6 : (nI M).toInt = (M : Int) := tn1265_ (); have t_n7 : (nI k3).toInt = (k3 : Int) := tn1268_ (); have z0 : (0 : Int32).toInt = 0 := qI_0; have z1 : (1 : Int32).toInt = 1 := qI_1; have z2 : (2 : Int32).toInt = 2 := qI_2; have z3 : (3 : Int32).toInt = 3 := qI_3; have z5 : (5 : Int32).toInt = 5 := qI_5; have z9 : (9 : Int32).toInt = 9 := qI_9; omega)), if_neg (by (have t_c1 := leI c1; have t_hinva := hinva; have t_w71 := w71; have t_c8 := neI c8; have t_w101 := w101; have t_c11 := neI c11; have t_b15 := b15; have t_b19 := b19; have t_c20 := eqI c20; have : ((-4) : Int32).toInt = -4 := qI_m4; have : (0 : Int32).toInt = 0 := qI_0; have : (32 : Int32).toInt = 32 := qI_32; have : (59 : Int32).toInt = 59 := qI_59; have t_n0 : (nI N).toInt = (N : Int) := tn1261_ (); have t_n1 : (nI B).toInt = (B : Int) := tn1262_ (); have t_n2 : (nI T).toInt = (T : Int) := tn1263_ (); have t_n3 : (nI nsp).toInt = (nsp : Int) := tn1266_ (); have t_n4 : (nI nhe).toInt = (nhe : Int) := tn1267_ (); have t_n5 : (nI S).toInt = (S : Int) := tn1264_ (); have t_n6 : (nI M).toInt = (M : Int) := tn1265_ (); have t_n7 : (nI k3).toInt = (k3 : Int) := tn1268_ (); have z0 : (0 : Int32).toInt = 0 := qI_0; have z1 : (1 : Int32).toInt = 1 := qI_1; have z2 : (2 : Int32).toInt = 2 := qI_2; have z3 : (3 : Int32).toInt = 3 := qI_3; have z5 : (5 : Int32).toInt = 5 := qI_5; have z9 : (9 : Int32).toInt = 9 := qI_9; omega)), if_neg (by (have t_c1 := leI c1; have t_hinva := hinva; have t_w71 := w71; have t_c8 := neI c8; have t_w101 := w101; have t_c11 := neI c11; have t_b15 := b15; have t_b19 := b19; have t_c20 := eqI c20; have : ((-4) : Int32).toInt = -4 := qI_m4; have : (0 : Int32).toInt = 0 := qI_0; have : (32 : Int32).toInt = 32 := qI_32; have : (59 : Int32).toInt = 59 := qI_59; have t_n0 : (nI N).toInt = (N : Int) := tn1261_ (); have t_n1 : (nI B).toInt = (B : Int) := tn1262_ (); have t_n2 : (nI T).toInt = (T : Int) := tn1263_ (); have t_n3 : (nI nsp).toInt = (nsp : Int) := tn1266_ (); have t_n4 : (nI nhe).toInt = (nhe : Int) := tn1267_ (); have t_n5 : (nI S).toInt = (S : Int) := tn1264_ (); have t_n6 : (nI M).toInt = (M : Int) := tn1265_ (); have t_n7 : (nI k3).toInt = (k3 : Int) := tn1268_ (); have z0 : (0 : Int32).toInt = 0 := qI_0; have z1 : (1 : Int32).toInt = 1 := qI_1; have z2 : (2 : Int32).toInt = 2 := qI_2; have z3 : (3 : Int32).toInt = 3 := qI_3; have z5 : (5 : Int32).toInt = 5 := qI_5; have z9 : (9 : Int32).toInt = 9 := qI_9; omega))]; first | rw [if_pos (by assumption)] | rw [if_neg (by assumption)])), ⟨by rw [ht]; exact hP9, hD9⟩⟩, hS.F ht⟩) hS.2.2 dX11_goesOn_269
                    · skip
                      refine lv_aload_n hx hb dX11_goesOn_264 rfl (lv_at hl 1 rfl) ?_
                      refine lv_iconst (v := 1) hx hb dX11_goesOn_265 rfl ?_
                      obtain ⟨hPc, hDc, hFc⟩ := va_sub3 (ws' := [(h0, .inr (11, [.ref st, .int (nI N), .int (nI B), .ref rp, .int vrs, .int vrb, .int vhs, .int vca, .int vxs, .int vxb, .ref tp, .int (nI T), .int vfa, .int vbr, .int vba, .int (nI (k3 + 1)), .int (nI k3), .int 3, .int 0, .ref cu, .ref lt, .ref od, .ref th, .ref be, .ref ln, .int (nI S), .ref ma, .int (nI M), .ref ah, .ref bh, .ref ik, .ref la, .ref lg, .ref ce, .int vto]))]) hP hD hS hA [0] (by decide) rfl
                      refine va_callv (va_runV (As := [.int 1]) (rest := []) ⟨hx, hb, hml, hown, hg⟩ (c_X11_failsE l dC dI G _ h0 st N B rp tp T k3 cu lt od th be ln S ma M ah bh ik la lg ce 1 vrs vrb vhs vca vxs vxb vfa vbr vba (nI (k3 + 1)) 3 0 vto hN hB_ hT_ hS0 hM_ (by have t_c1 := leI c1; have t_hinva := hinva; have t_w71 := w71; have t_c8 := neI c8; have t_w101 := w101; have t_c11 := neI c11; have t_b15 := b15; have t_b19 := b19; have t_c20 := neI c20; have : ((-4) : Int32).toInt = -4 := qI_m4; have : (0 : Int32).toInt = 0 := qI_0; have : (32 : Int32).toInt = 32 := qI_32; have : (59 : Int32).toInt = 59 := qI_59; have t_n0 : (nI N).toInt = (N : Int) := tn1261_ (); have t_n1 : (nI B).toInt = (B : Int) := tn1262_ (); have t_n2 : (nI T).toInt = (T : Int) := tn1263_ (); have t_n3 : (nI nsp).toInt = (nsp : Int) := tn1266_ (); have t_n4 : (nI nhe).toInt = (nhe : Int) := tn1267_ (); have t_n5 : (nI S).toInt = (S : Int) := tn1264_ (); have t_n6 : (nI M).toInt = (M : Int) := tn1265_ (); have t_n7 : (nI k3).toInt = (k3 : Int) := tn1268_ (); have : (1 : Int32).toInt = 1 := qI_1; omega) hbr (by first | omega | (have t_c1 := leI c1; have t_hinva := hinva; have t_w71 := w71; have t_c8 := neI c8; have t_w101 := w101; have t_c11 := neI c11; have t_b15 := b15; have t_b19 := b19; have t_c20 := neI c20; have : ((-4) : Int32).toInt = -4 := qI_m4; have : (0 : Int32).toInt = 0 := qI_0; have : (32 : Int32).toInt = 32 := qI_32; have : (59 : Int32).toInt = 59 := qI_59; have t_n0 : (nI N).toInt = (N : Int) := tn1261_ (); have t_n1 : (nI B).toInt = (B : Int) := tn1262_ (); have t_n2 : (nI T).toInt = (T : Int) := tn1263_ (); have t_n3 : (nI nsp).toInt = (nsp : Int) := tn1266_ (); have t_n4 : (nI nhe).toInt = (nhe : Int) := tn1267_ (); have t_n5 : (nI S).toInt = (S : Int) := tn1264_ (); have t_n6 : (nI M).toInt = (M : Int) := tn1265_ (); have t_n7 : (nI k3).toInt = (k3 : Int) := tn1268_ (); have : (1 : Int32).toInt = 1 := qI_1; omega))) (kwV hg mfX11_fails wt_1011 ⟨Nat.le_of_ble_eq_true rfl, Nat.le_of_ble_eq_true rfl⟩) (preVW hK hPc hDc (ci := 11) rfl rfl) rfl rfl hl.1 rfl (lv_room (Nat.le_of_ble_eq_true rfl)) dX11_goesOn_266 ⟨Nat.le_of_ble_eq_true rfl, Nat.le_of_ble_eq_true rfl⟩) hS (fun q _ h => hFc q h) hFc (fun ur21 t H1 locs ht hvm w22 hB hz1 hk1 hS => ?_)
                      obtain ⟨u23, u24⟩ := ur21
                      obtain ⟨hP1, hD1⟩ := hB
                      rw [ht] at hP1
                      obtain ⟨hP, hD⟩ := va_join (wr := [(tp, .inl (G 0, 320, .inl ftp))]) (w1 := [(h0, .inr (11, [.ref st, .int (nI N), .int (nI B), .ref rp, .int vrs, .int vrb, .int vhs, .int vca, .int vxs, .int vxb, .ref tp, .int (nI T), .int vfa, .int u23, .int u24, .int (nI (k3 + 1)), .int (nI k3), .int 3, .int 0, .ref cu, .ref lt, .ref od, .ref th, .ref be, .ref ln, .int (nI S), .ref ma, .int (nI M), .ref ah, .ref bh, .ref ik, .ref la, .ref lg, .ref ce, .int vto]))]) hP hD [0] [1] rfl rfl (by decide) (by decide) hk1 hFc hP1 hD1
                      have w22 : 0 < u23.toInt ∧ u23 = flB (1 : Int32) vbr ∧ u24 = flA vbr vba k3 := w22
                      generalize H1 = H at hP hS ⊢
                      obtain ⟨hP9, hD9⟩ := va_sub2 (ws' := [(h0, .inr (11, [.ref st, .int (nI N), .int (nI B), .ref rp, .int vrs, .int vrb, .int vhs, .int vca, .int vxs, .int vxb, .ref tp, .int (nI T), .int vfa, .int u23, .int u24, .int (nI (k3 + 1)), .int (nI k3), .int 3, .int 0, .ref cu, .ref lt, .ref od, .ref th, .ref be, .ref ln, .int (nI S), .ref ma, .int (nI M), .ref ah, .ref bh, .ref ik, .ref la, .ref lg, .ref ce, .int vto])), (tp, .inl (G 0, 320, .inl ftp))]) hP hD [1, 0] (by decide) rfl
                      refine W.widen (k := 0) (n := 0) (Nat.le_of_ble_eq_true rfl) (Nat.le_of_ble_eq_true rfl) ?_
                      exact W.vret hx hb hr (fun t ht hW => ⟨⟨(u23, u24, (k3 + 1), k3, 3, 0), rfl, (by have hb8 := htb k3; first | (exfalso; (have t_c1 := leI c1; have t_hinva := hinva; have t_w71 := w71; have t_c8 := neI c8; have t_w101 := w101; have t_c11 := neI c11; have t_b15 := b15; have t_b19 := b19; have t_c20 := neI c20; have t_w22 := w22.1; have : ((-4) : Int32).toInt = -4 := qI_m4; have : (0 : Int32).toInt = 0 := qI_0; have : (32 : Int32).toInt = 32 := qI_32; have : (59 : Int32).toInt = 59 := qI_59; have t_n0 : (nI N).toInt = (N : Int) := tn1261_ (); have t_n1 : (nI B).toInt = (B : Int) := tn1262_ (); have t_n2 : (nI T).toInt = (T : Int) := tn1263_ (); have t_n3 : (nI nsp).toInt = (nsp : Int) := tn1266_ (); have t_n4 : (nI nhe).toInt = (nhe : Int) := tn1267_ (); have t_n5 : (nI S).toInt = (S : Int) := tn1264_ (); have t_n6 : (nI M).toInt = (M : Int) := tn1265_ (); have t_n7 : (nI k3).toInt = (k3 : Int) := tn1268_ (); have z0 : (0 : Int32).toInt = 0 := qI_0; have z1 : (1 : Int32).toInt = 1 := qI_1; have z2 : (2 : Int32).toInt = 2 := qI_2; have z3 : (3 : Int32).toInt = 3 := qI_3; have z5 : (5 : Int32).toInt = 5 := qI_5; have z9 : (9 : Int32).toInt = 9 := qI_9; omega)) | skip; refine ⟨by (have t_c1 := leI c1; have t_hinva := hinva; have t_w71 := w71; have t_c8 := neI c8; have t_w101 := w101; have t_c11 := neI c11; have t_b15 := b15; have t_b19 := b19; have t_c20 := neI c20; have t_w22 := w22.1; have : ((-4) : Int32).toInt = -4 := qI_m4; have : (0 : Int32).toInt = 0 := qI_0; have : (32 : Int32).toInt = 32 := qI_32; have : (59 : Int32).toInt = 59 := qI_59; have t_n0 : (nI N).toInt = (N : Int) := tn1261_ (); have t_n1 : (nI B).toInt = (B : Int) := tn1262_ (); have t_n2 : (nI T).toInt = (T : Int) := tn1263_ (); have t_n3 : (nI nsp).toInt = (nsp : Int) := tn1266_ (); have t_n4 : (nI nhe).toInt = (nhe : Int) := tn1267_ (); have t_n5 : (nI S).toInt = (S : Int) := tn1264_ (); have t_n6 : (nI M).toInt = (M : Int) := tn1265_ (); have t_n7 : (nI k3).toInt = (k3 : Int) := tn1268_ (); have z0 : (0 : Int32).toInt = 0 := qI_0; have z1 : (1 : Int32).toInt = 1 := qI_1; have z2 : (2 : Int32).toInt = 2 := qI_2; have z3 : (3 : Int32).toInt = 3 := qI_3; have z5 : (5 : Int32).toInt = 5 := qI_5; have z9 : (9 : Int32).toInt = 9 := qI_9; omega), ?_, by (have t_c1 := leI c1; have t_hinva := hinva; have t_w71 := w71; have t_c8 := neI c8; have t_w101 := w101; have t_c11 := neI c11; have t_b15 := b15; have t_b19 := b19; have t_c20 := neI c20; have t_w22 := w22.1; have : ((-4) : Int32).toInt = -4 := qI_m4; have : (0 : Int32).toInt = 0 := qI_0; have : (32 : Int32).toInt = 32 := qI_32; have : (59 : Int32).toInt = 59 := qI_59; have t_n0 : (nI N).toInt = (N : Int) := tn1261_ (); have t_n1 : (nI B).toInt = (B : Int) := tn1262_ (); have t_n2 : (nI T).toInt = (T : Int) := tn1263_ (); have t_n3 : (nI nsp).toInt = (nsp : Int) := tn1266_ (); have t_n4 : (nI nhe).toInt = (nhe : Int) := tn1267_ (); have t_n5 : (nI S).toInt = (S : Int) := tn1264_ (); have t_n6 : (nI M).toInt = (M : Int) := tn1265_ (); have t_n7 : (nI k3).toInt = (k3 : Int) := tn1268_ (); have z0 : (0 : Int32).toInt = 0 := qI_0; have z1 : (1 : Int32).toInt = 1 := qI_1; have z2 : (2 : Int32).toInt = 2 := qI_2; have z3 : (3 : Int32).toInt = 3 := qI_3; have z5 : (5 : Int32).toInt = 5 := qI_5; have z9 : (9 : Int32).toInt = 9 := qI_9; omega), by (have t_c1 := leI c1; have t_hinva := hinva; have t_w71 := w71; have t_c8 := neI c8; have t_w101 := w101; have t_c11 := neI c11; have t_b15 := b15; have t_b19 := b19; have t_c20 := neI c20; have t_w22 := w22.1; have : ((-4) : Int32).toInt = -4 := qI_m4; have : (0 : Int32).toInt = 0 := qI_0; have : (32 : Int32).toInt = 32 := qI_32; have : (59 : Int32).toInt = 59 := qI_59; have t_n0 : (nI N).toInt = (N : Int) := tn1261_ (); have t_n1 : (nI B).toInt = (B : Int) := tn1262_ (); have t_n2 : (nI T).toInt = (T : Int) := tn1263_ (); have t_n3 : (nI nsp).toInt = (nsp : Int) := tn1266_ (); have t_n4 : (nI nhe).toInt = (nhe : Int) := tn1267_ (); have t_n5 : (nI S).toInt = (S : Int) := tn1264_ (); have t_n6 : (nI M).toInt = (M : Int) := tn1265_ (); have t_n7 : (nI k3).toInt = (k3 : Int) := tn1268_ (); have z0 : (0 : Int32).toInt = 0 := qI_0; have z1 : (1 : Int32).toInt = 1 := qI_1; have z2 : (2 : Int32).toInt = 2 := qI_2; have z3 : (3 : Int32).toInt = 3 := qI_3; have z5 : (5 : Int32).toInt = 5 := qI_5; have z9 : (9 : Int32).toInt = 9 := qI_9; omega), by (have t_c1 := leI c1; have t_hinva := hinva; have t_w71 := w71; have t_c8 := neI c8; have t_w101 := w101; have t_c11 := neI c11; have t_b15 := b15; have t_b19 := b19; have t_c20 := neI c20; have t_w22 := w22.1; have : ((-4) : Int32).toInt = -4 := qI_m4; have : (0 : Int32).toInt = 0 := qI_0; have : (32 : Int32).toInt = 32 := qI_32; have : (59 : Int32).toInt = 59 := qI_59; have t_n0 : (nI N).toInt = (N : Int) := tn1261_ (); have t_n1 : (nI B).toInt = (B : Int) := tn1262_ (); have t_n2 : (nI T).toInt = (T : Int) := tn1263_ (); have t_n3 : (nI nsp).toInt = (nsp : Int) := tn1266_ (); have t_n4 : (nI nhe).toInt = (nhe : Int) := tn1267_ (); have t_n5 : (nI S).toInt = (S : Int) := tn1264_ (); have t_n6 : (nI M).toInt = (M : Int) := tn1265_ (); have t_n7 : (nI k3).toInt = (k3 : Int) := tn1268_ (); have z0 : (0 : Int32).toInt = 0 := qI_0; have z1 : (1 : Int32).toInt = 1 := qI_1; have z2 : (2 : Int32).toInt = 2 := qI_2; have z3 : (3 : Int32).toInt = 3 := qI_3; have z5 : (5 : Int32).toInt = 5 := qI_5; have z9 : (9 : Int32).toInt = 9 := qI_9; omega), ?_, ?_⟩; (first | exact Or.inr rfl | exact Or.inl (by (have t_c1 := leI c1; have t_hinva := hinva; have t_w71 := w71; have t_c8 := neI c8; have t_w101 := w101; have t_c11 := neI c11; have t_b15 := b15; have t_b19 := b19; have t_c20 := neI c20; have t_w22 := w22.1; have : ((-4) : Int32).toInt = -4 := qI_m4; have : (0 : Int32).toInt = 0 := qI_0; have : (32 : Int32).toInt = 32 := qI_32; have : (59 : Int32).toInt = 59 := qI_59; have t_n0 : (nI N).toInt = (N : Int) := tn1261_ (); have t_n1 : (nI B).toInt = (B : Int) := tn1262_ (); have t_n2 : (nI T).toInt = (T : Int) := tn1263_ (); have t_n3 : (nI nsp).toInt = (nsp : Int) := tn1266_ (); have t_n4 : (nI nhe).toInt = (nhe : Int) := tn1267_ (); have t_n5 : (nI S).toInt = (S : Int) := tn1264_ (); have t_n6 : (nI M).toInt = (M : Int) := tn1265_ (); have t_n7 : (nI k3).toInt = (k3 : Int) := tn1268_ (); have z0 : (0 : Int32).toInt = 0 := qI_0; have z1 : (1 : Int32).toInt = 1 := qI_1; have z2 : (2 : Int32).toInt = 2 := qI_2; have z3 : (3 : Int32).toInt = 3 := qI_3; have z5 : (5 : Int32).toInt = 5 := qI_5; have z9 : (9 : Int32).toInt = 9 := qI_9; omega))); (have t_c1 := leI c1; have t_hinva := hinva; have t_w71 := w71; have t_c8 := neI c8; have t_w101 := w101; have t_c11 := neI c11; have t_b15 := b15; have t_b19 := b19; have t_c20 := neI c20; have t_w22 := w22.1; have : ((-4) : Int32).toInt = -4 := qI_m4; have : (0 : Int32).toInt = 0 := qI_0; have : (32 : Int32).toInt = 32 := qI_32; have : (59 : Int32).toInt = 59 := qI_59; have t_n0 : (nI N).toInt = (N : Int) := tn1261_ (); have t_n1 : (nI B).toInt = (B : Int) := tn1262_ (); have t_n2 : (nI T).toInt = (T : Int) := tn1263_ (); have t_n3 : (nI nsp).toInt = (nsp : Int) := tn1266_ (); have t_n4 : (nI nhe).toInt = (nhe : Int) := tn1267_ (); have t_n5 : (nI S).toInt = (S : Int) := tn1264_ (); have t_n6 : (nI M).toInt = (M : Int) := tn1265_ (); have t_n7 : (nI k3).toInt = (k3 : Int) := tn1268_ (); have z0 : (0 : Int32).toInt = 0 := qI_0; have z1 : (1 : Int32).toInt = 1 := qI_1; have z2 : (2 : Int32).toInt = 2 := qI_2; have z3 : (3 : Int32).toInt = 3 := qI_3; have z5 : (5 : Int32).toInt = 5 := qI_5; have z9 : (9 : Int32).toInt = 9 := qI_9; omega); (have ea : pst ftp T 32 32 nsp = k3 := hinva.2.2.symm.trans (pst_out (by (have t_c1 := leI c1; have t_hinva := hinva; have t_w71 := w71; have t_c8 := neI c8; have t_w101 := w101; have t_c11 := neI c11; have t_b15 := b15; have t_b19 := b19; have t_c20 := neI c20; have t_w22 := w22.1; have : ((-4) : Int32).toInt = -4 := qI_m4; have : (0 : Int32).toInt = 0 := qI_0; have : (32 : Int32).toInt = 32 := qI_32; have : (59 : Int32).toInt = 59 := qI_59; have t_n0 : (nI N).toInt = (N : Int) := tn1261_ (); have t_n1 : (nI B).toInt = (B : Int) := tn1262_ (); have t_n2 : (nI T).toInt = (T : Int) := tn1263_ (); have t_n3 : (nI nsp).toInt = (nsp : Int) := tn1266_ (); have t_n4 : (nI nhe).toInt = (nhe : Int) := tn1267_ (); have t_n5 : (nI S).toInt = (S : Int) := tn1264_ (); have t_n6 : (nI M).toInt = (M : Int) := tn1265_ (); have t_n7 : (nI k3).toInt = (k3 : Int) := tn1268_ (); have z0 : (0 : Int32).toInt = 0 := qI_0; have z1 : (1 : Int32).toInt = 1 := qI_1; have z2 : (2 : Int32).toInt = 2 := qI_2; have z3 : (3 : Int32).toInt = 3 := qI_3; have z5 : (5 : Int32).toInt = 5 := qI_5; have z9 : (9 : Int32).toInt = 9 := qI_9; omega))); unfold gOn; rw [if_neg (by (have t_c1 := leI c1; have t_hinva := hinva; have t_w71 := w71; have t_c8 := neI c8; have t_w101 := w101; have t_c11 := neI c11; have t_b15 := b15; have t_b19 := b19; have t_c20 := neI c20; have t_w22 := w22.1; have : ((-4) : Int32).toInt = -4 := qI_m4; have : (0 : Int32).toInt = 0 := qI_0; have : (32 : Int32).toInt = 32 := qI_32; have : (59 : Int32).toInt = 59 := qI_59; have t_n0 : (nI N).toInt = (N : Int) := tn1261_ (); have t_n1 : (nI B).toInt = (B : Int) := tn1262_ (); have t_n2 : (nI T).toInt = (T : Int) := tn1263_ (); have t_n3 : (nI nsp).toInt = (nsp : Int) := tn1266_ (); have t_n4 : (nI nhe).toInt = (nhe : Int) := tn1267_ (); have t_n5 : (nI S).toInt = (S : Int) := tn1264_ (); have t_n6 : (nI M).toInt = (M : Int) := tn1265_ (); have t_n7 : (nI k3).toInt = (k3 : Int) := tn1268_ (); have z0 : (0 : Int32).toInt = 0 := qI_0; have z1 : (1 : Int32).toInt = 1 := qI_1; have z2 : (2 : Int32).toInt = 2 := qI_2; have z3 : (3 : Int32).toInt = 3 := qI_3; have z5 : (5 : Int32).toInt = 5 := qI_5; have z9 : (9 : Int32).toInt = 9 := qI_9; omega)), ea]; unfold gOn1; have q1 := w22.2.1; have q2 := w22.2.2; rw [q1, q2]; rw [if_neg (by (have t_c1 := leI c1; have t_hinva := hinva; have t_w71 := w71; have t_c8 := neI c8; have t_w101 := w101; have t_c11 := neI c11; have t_b15 := b15; have t_b19 := b19; have t_c20 := neI c20; have t_w22 := w22.1; have : ((-4) : Int32).toInt = -4 := qI_m4; have : (0 : Int32).toInt = 0 := qI_0; have : (32 : Int32).toInt = 32 := qI_32; have : (59 : Int32).toInt = 59 := qI_59; have t_n0 : (nI N).toInt = (N : Int) := tn1261_ (); have t_n1 : (nI B).toInt = (B : Int) := tn1262_ (); have t_n2 : (nI T).toInt = (T : Int) := tn1263_ (); have t_n3 : (nI nsp).toInt = (nsp : Int) := tn1266_ (); have t_n4 : (nI nhe).toInt = (nhe : Int) := tn1267_ (); have t_n5 : (nI S).toInt = (S : Int) := tn1264_ (); have t_n6 : (nI M).toInt = (M : Int) := tn1265_ (); have t_n7 : (nI k3).toInt = (k3 : Int) := tn1268_ (); have z0 : (0 : Int32).toInt = 0 := qI_0; have z1 : (1 : Int32).toInt = 1 := qI_1; have z2 : (2 : Int32).toInt = 2 := qI_2; have z3 : (3 : Int32).toInt = 3 := qI_3; have z5 : (5 : Int32).toInt = 5 := qI_5; have z9 : (9 : Int32).toInt = 9 := qI_9; omega)), if_neg (by (have t_c1 := leI c1; have t_hinva := hinva; have t_w71 := w71; have t_c8 := neI c8; have t_w101 := w101; have t_c11 := neI c11; have t_b15 := b15; have t_b19 := b19; have t_c20 := neI c20; have t_w22 := w22.1; have : ((-4) : Int32).toInt = -4 := qI_m4; have : (0 : Int32).toInt = 0 := qI_0; have : (32 : Int32).toInt = 32 := qI_32; have : (59 : Int32).toInt = 59 := qI_59; have t_n0 : (nI N).toInt = (N : Int) := tn1261_ (); have t_n1 : (nI B).toInt = (B : Int) := tn1262_ (); have t_n2 : (nI T).toInt = (T : Int) := tn1263_ (); have t_n3 : (nI nsp).toInt = (nsp : Int) := tn1266_ (); have t_n4 : (nI nhe).toInt = (nhe : Int) := tn1267_ (); have t_n5 : (nI S).toInt = (S : Int) := tn1264_ (); have t_n6 : (nI M).toInt = (M : Int) := tn1265_ (); have t_n7 : (nI k3).toInt = (k3 : Int) := tn1268_ (); have z0 : (0 : Int32).toInt = 0 := qI_0; have z1 : (1 : Int32).toInt = 1 := qI_1; have z2 : (2 : Int32).toInt = 2 := qI_2; have z3 : (3 : Int32).toInt = 3 := qI_3; have z5 : (5 : Int32).toInt = 5 := qI_5; have z9 : (9 : Int32).toInt = 9 := qI_9; omega)), if_neg (by (have t_c1 := leI c1; have t_hinva := hinva; have t_w71 := w71; have t_c8 := neI c8; have t_w101 := w101; have t_c11 := neI c11; have t_b15 := b15; have t_b19 := b19; have t_c20 := neI c20; have t_w22 := w22.1; have : ((-4) : Int32).toInt = -4 := qI_m4; have : (0 : Int32).toInt = 0 := qI_0; have : (32 : Int32).toInt = 32 := qI_32; have : (59 : Int32).toInt = 59 := qI_59; have t_n0 : (nI N).toInt = (N : Int) := tn1261_ (); have t_n1 : (nI B).toInt = (B : Int) := tn1262_ (); have t_n2 : (nI T).toInt = (T : Int) := tn1263_ (); have t_n3 : (nI nsp).toInt = (nsp : Int) := tn1266_ (); have t_n4 : (nI nhe).toInt = (nhe : Int) := tn1267_ (); have t_n5 : (nI S).toInt = (S : Int) := tn1264_ (); have t_n6 : (nI M).toInt = (M : Int) := tn1265_ (); have t_n7 : (nI k3).toInt = (k3 : Int) := tn1268_ (); have z0 : (0 : Int32).toInt = 0 := qI_0; have z1 : (1 : Int32).toInt = 1 := qI_1; have z2 : (2 : Int32).toInt = 2 := qI_2; have z3 : (3 : Int32).toInt = 3 := qI_3; have z5 : (5 : Int32).toInt = 5 := qI_5; have z9 : (9 : Int32).toInt = 9 := qI_9; omega))]; first | rw [if_pos (by assumption)] | rw [if_neg (by assumption)])), ⟨by rw [ht]; exact hP9, hD9⟩⟩, hS.F ht⟩) hS.2.2 dX11_goesOn_269
                  · skip
                    have b25 := if10_p c18
                    refine lv_aload_n hx hb dX11_goesOn_140 rfl (lv_at hl 1 rfl) ?_
                    refine lv_aload_n hx hb dX11_goesOn_141 rfl (lv_at hl 1 rfl) ?_
                    refine va_get (D := (dC, dI)) (ci := 11) (v := .int (nI k3)) (C := RX11) (T := TX11) (N := 35) hx hb hg inG11 hown hK.1 hP 0 rfl rfl 15 (Nat.le_of_ble_eq_true rfl) (hg _ wt_893) (fun _ h9 => h9) rfl dX11_goesOn_142 ?_
                    have hPc := hP.sub (ws' := [(h0, .inr (11, [.ref st, .int (nI N), .int (nI B), .ref rp, .int vrs, .int vrb, .int vhs, .int vca, .int vxs, .int vxb, .ref tp, .int (nI T), .int vfa, .int vbr, .int vba, .int (nI k3), .int (nI k3), .int vtk, .int 0, .ref cu, .ref lt, .ref od, .ref th, .ref be, .ref ln, .int (nI S), .ref ma, .int (nI M), .ref ah, .ref bh, .ref ik, .ref la, .ref lg, .ref ce, .int vto])), (tp, .inl (G 0, 320, .inl ftp))]) [0, 1] rfl
                    refine va_calli (va_runV (As := [.int (nI k3)]) (rest := []) ⟨hx, hb, hml, hown, hg⟩ (c_X11_byteAt l dC dI G _ h0 k3 st N B rp tp T cu lt od th be ln S ma M ah bh ik la lg ce vrs vrb vhs vca vxs vxb vfa vbr vba (nI k3) (nI k3) vtk 0 vto ftp hN hB_ hT_ hS0 hM_ (by first | omega | (have t_c1 := leI c1; have t_hinva := hinva; have t_w71 := w71; have t_c8 := neI c8; have t_w101 := w101; have t_c11 := neI c11; have t_b15 := b15; have t_b25 := b25; have : ((-4) : Int32).toInt = -4 := qI_m4; have : (0 : Int32).toInt = 0 := qI_0; have : (32 : Int32).toInt = 32 := qI_32; have t_n0 : (nI N).toInt = (N : Int) := tn1261_ (); have t_n1 : (nI B).toInt = (B : Int) := tn1262_ (); have t_n2 : (nI T).toInt = (T : Int) := tn1263_ (); have t_n3 : (nI nsp).toInt = (nsp : Int) := tn1266_ (); have t_n4 : (nI nhe).toInt = (nhe : Int) := tn1267_ (); have t_n5 : (nI S).toInt = (S : Int) := tn1264_ (); have t_n6 : (nI M).toInt = (M : Int) := tn1265_ (); have t_n7 : (nI k3).toInt = (k3 : Int) := tn1268_ (); omega))) (kwV hg mfX11_byteAt wt_1003 ⟨Nat.le_of_ble_eq_true rfl, Nat.le_of_ble_eq_true rfl⟩) (preVR hK hPc (ci := 11) rfl rfl) rfl rfl hl.1 rfl (lv_room (Nat.le_of_ble_eq_true rfl)) dX11_goesOn_145 ⟨Nat.le_of_ble_eq_true rfl, Nat.le_of_ble_eq_true rfl⟩) hS (fun q h1 h2 => absurd h2 (Nat.not_le.mpr h1)) (fun q h => hA q (Nat.le_trans hS.1 h)) (fun r26 ur26 t H1 locs ht hvm w27 hB hz1 hk1 hS => ?_)
                    have hP := keepR hP hk1
                    obtain ⟨w27, w27x⟩ := w27
                    rcases w27 with ⟨w271, w272⟩ | ⟨w271, w272⟩
                    · skip
                      refine lv_cg (y := ftp k3) w272 ?_
                      refine lv_i2l (v := (ftp k3).toInt64) hx hb dX11_goesOn_148 rfl ?_
                      refine lv_ldc2 (v := 48) hx hb hown (hg _ wt_1009) dX11_goesOn_149 ?_
                      refine lv_ldc2 (v := 57) hx hb hown (hg _ wt_1010) dX11_goesOn_152 ?_
                      have hPc := hP.sub (ws' := []) [] rfl
                      refine va_calli (va_runS (As := [.long ((ftp k3).toInt64), .long 48, .long 57]) (rest := []) ⟨hx, hb, hml, hown, hg⟩ (c_X11_in l dC dI G _ ((ftp k3).toInt64) 48 57) (kwS hg mfX11_in wt_992 ⟨Nat.le_of_ble_eq_true rfl, Nat.le_of_ble_eq_true rfl⟩) (preSR hK hPc) rfl rfl hl.1 rfl (lv_room (Nat.le_of_ble_eq_true rfl)) dX11_goesOn_155 ⟨Nat.le_of_ble_eq_true rfl, Nat.le_of_ble_eq_true rfl⟩) hS (fun q h1 h2 => absurd h2 (Nat.not_le.mpr h1)) (fun q h => hA q (Nat.le_trans hS.1 h)) (fun r28 ur28 t H1 locs ht hvm w29 hB hz1 hk1 hS => ?_)
                      have hP := keepR hP hk1
                      obtain ⟨w29, w29x⟩ := w29
                      try simp only [l_ii, show (48 : Int64).toInt = 48 from by decide, show (57 : Int64).toInt = 57 from by decide] at w29
                      have w29 : r28 = 1 := w29.trans (if_pos (by have t_c1 := leI c1; have t_hinva := hinva; have t_w71 := w71; have t_c8 := neI c8; have t_w101 := w101; have t_c11 := neI c11; have t_b15 := b15; have t_b25 := b25; have t_w271 := w271; have : ((-4) : Int32).toInt = -4 := qI_m4; have : (0 : Int32).toInt = 0 := qI_0; have : (32 : Int32).toInt = 32 := qI_32; have t_n0 : (nI N).toInt = (N : Int) := tn1261_ (); have t_n1 : (nI B).toInt = (B : Int) := tn1262_ (); have t_n2 : (nI T).toInt = (T : Int) := tn1263_ (); have t_n3 : (nI nsp).toInt = (nsp : Int) := tn1266_ (); have t_n4 : (nI nhe).toInt = (nhe : Int) := tn1267_ (); have t_n5 : (nI S).toInt = (S : Int) := tn1264_ (); have t_n6 : (nI M).toInt = (M : Int) := tn1265_ (); have t_n7 : (nI k3).toInt = (k3 : Int) := tn1268_ (); omega))
                      subst w29
                      refine lv_if_eq (tgt := 217) hx hb dX11_goesOn_158 rfl (fun c30 => ?_) (fun c30 => ?_)
                      · skip
                        exact absurd c30 (by decide)
                      · skip
                        refine lv_aload_n hx hb dX11_goesOn_161 rfl (lv_at hl 1 rfl) ?_
                        refine lv_aload_n hx hb dX11_goesOn_162 rfl (lv_at hl 1 rfl) ?_
                        refine va_get (D := (dC, dI)) (ci := 11) (v := .int (nI k3)) (C := RX11) (T := TX11) (N := 35) hx hb hg inG11 hown hK.1 hP 0 rfl rfl 15 (Nat.le_of_ble_eq_true rfl) (hg _ wt_893) (fun _ h9 => h9) rfl dX11_goesOn_163 ?_
                        refine lv_aload_n hx hb dX11_goesOn_166 rfl (lv_at hl 1 rfl) ?_
                        refine va_get (D := (dC, dI)) (ci := 11) (v := .int (nI k3)) (C := RX11) (T := TX11) (N := 35) hx hb hg inG11 hown hK.1 hP 0 rfl rfl 16 (Nat.le_of_ble_eq_true rfl) (hg _ wt_894) (fun _ h9 => h9) rfl dX11_goesOn_167 ?_
                        refine lv_isub hx hb dX11_goesOn_170 ?_
                        refine lv_cg (y := nI (k3 - k3)) (by exact pk_sub (by have t_c1 := leI c1; have t_hinva := hinva; have t_w71 := w71; have t_c8 := neI c8; have t_w101 := w101; have t_c11 := neI c11; have t_b15 := b15; have t_b25 := b25; have t_w271 := w271; have t_c30 := neI c30; have : ((-4) : Int32).toInt = -4 := qI_m4; have : (0 : Int32).toInt = 0 := qI_0; have : (1 : Int32).toInt = 1 := qI_1; have : (32 : Int32).toInt = 32 := qI_32; have t_n0 : (nI N).toInt = (N : Int) := tn1261_ (); have t_n1 : (nI B).toInt = (B : Int) := tn1262_ (); have t_n2 : (nI T).toInt = (T : Int) := tn1263_ (); have t_n3 : (nI nsp).toInt = (nsp : Int) := tn1266_ (); have t_n4 : (nI nhe).toInt = (nhe : Int) := tn1267_ (); have t_n5 : (nI S).toInt = (S : Int) := tn1264_ (); have t_n6 : (nI M).toInt = (M : Int) := tn1265_ (); have t_n7 : (nI k3).toInt = (k3 : Int) := tn1268_ (); omega)) ?_
                        refine lv_iconst (v := 2) hx hb dX11_goesOn_171 rfl ?_
                        refine lv_icmp_ge (tgt := 197) hx hb dX11_goesOn_172 rfl (fun c31 => ?_) (fun c31 => ?_)
                        · skip
                          have tn1269_ : nIT (k3 - k3) := fun _ => nI_toInt (by first | omega | (have t := leI c31; omega))
                          have n32 : 2 ≤ (k3 - k3) := by have t := leI c31; rw [show (nI (k3 - k3)).toInt = ((k3 - k3 : Nat) : Int) from tn1269_ ()] at t; have : (2 : Int32).toInt = 2 := qI_2; omega
                          refine lv_aload_n hx hb dX11_goesOn_197 rfl (lv_at hl 1 rfl) ?_
                          refine va_get (D := (dC, dI)) (ci := 11) (v := .int 0) (C := RX11) (T := TX11) (N := 35) hx hb hg inG11 hown hK.1 hP 0 rfl rfl 18 (Nat.le_of_ble_eq_true rfl) (hg _ wt_896) (fun _ h9 => h9) rfl dX11_goesOn_198 ?_
                          refine va_put (D := (dC, dI)) (ci := 11) (v := .int 0) (ty := .int) (C := RX11) (T := TX11) (N := 35) hx hb hg inG11 tyX11 tyX11_ok nmX11 hown hK.1 hP hD hS 0 rfl rfl 18 (Nat.le_of_ble_eq_true rfl) (hg _ wt_896) (fun _ h9 => h9) rfl (by decide +kernel) rfl rfl (Nat.le_of_ble_eq_true rfl) dX11_goesOn_201 (fun H locs hP hD hS => ?_)
                          refine lv_aload_n hx hb dX11_goesOn_204 rfl (lv_at hl 1 rfl) ?_
                          refine lv_dup hx hb dX11_goesOn_205 rfl ?_
                          refine va_get (D := (dC, dI)) (ci := 11) (v := .int (nI k3)) (C := RX11) (T := TX11) (N := 35) hx hb hg inG11 hown hK.1 hP 0 rfl rfl 15 (Nat.le_of_ble_eq_true rfl) (hg _ wt_893) (fun _ h9 => h9) rfl dX11_goesOn_206 ?_
                          refine lv_iconst (v := 1) hx hb dX11_goesOn_209 rfl ?_
                          refine lv_iadd hx hb dX11_goesOn_210 ?_
                          refine lv_cg (y := nI (k3 + 1)) (by rw [show (1 : Int32) = nI 1 from rfl]; exact nI_add _ _) ?_
                          refine va_put (D := (dC, dI)) (ci := 11) (v := .int (nI (k3 + 1))) (ty := .int) (C := RX11) (T := TX11) (N := 35) hx hb hg inG11 tyX11 tyX11_ok nmX11 hown hK.1 hP hD hS 0 rfl rfl 15 (Nat.le_of_ble_eq_true rfl) (hg _ wt_893) (fun _ h9 => h9) rfl (by decide +kernel) rfl rfl (Nat.le_of_ble_eq_true rfl) dX11_goesOn_211 (fun H locs hP hD hS => ?_)
                          refine lv_goto (tgt := 140) hx hb dX11_goesOn_214 rfl ?_
                          have loop140_36 : ∀ (nf : Nat) (k34 : Nat) (y35 : Int32), (T - k34) < nf → ((k3 + 1) ≤ k34 ∧ k34 ≤ T ∧ pst ftp T 48 57 k34 = pst ftp T 48 57 k3 ∧ y35 = vlS ftp k3 (k34 - k3)) → ∀ (H : Heap) (locs : List Loc), va_P (dC, dI) vwCl [(h0, .inr (11, [.ref st, .int (nI N), .int (nI B), .ref rp, .int vrs, .int vrb, .int vhs, .int vca, .int vxs, .int vxb, .ref tp, .int (nI T), .int vfa, .int vbr, .int vba, .int (nI k34), .int (nI k3), .int vtk, .int y35, .ref cu, .ref lt, .ref od, .ref th, .ref be, .ref ln, .int (nI S), .ref ma, .int (nI M), .ref ah, .ref bh, .ref ik, .ref la, .ref lg, .ref ce, .int vto])), (tp, .inl (G 0, 320, .inl ftp))] H → va_D A [(h0, .inr (11, [.ref st, .int (nI N), .int (nI B), .ref rp, .int vrs, .int vrb, .int vhs, .int vca, .int vxs, .int vxb, .ref tp, .int (nI T), .int vfa, .int vbr, .int vba, .int (nI k34), .int (nI k3), .int vtk, .int y35, .ref cu, .ref lt, .ref od, .ref th, .ref be, .ref ln, .int (nI S), .ref ma, .int (nI M), .ref ah, .ref bh, .ref ik, .ref la, .ref lg, .ref ce, .int vto])), (tp, .inl (G 0, 320, .inl ftp))] → va_S A s.heap H locs → ∀ (ls : Array Slot), lv_has ls 2 [(1, .int (ftp k3)), (0, .ref h0)] → W p l e (headSpec (Cond.code yX11_goesOn cX11_goesOn 2 none :: GT) ({ frames := 1, cells := 0, slots := 0, locals := 25 } : Room)).room s m ([.ref h0] : List Value).toArray below meth c H locs 0 0 (MQ below (va_Qv (fun (u : Int32 × Int32 × Nat × Nat × Int32 × Int32) => match u with | (obr, oba, osp, ohe, otk, ova) => 0 ≤ obr.toInt ∧ (vbr.toInt = 0 ∨ obr.toInt = vbr.toInt) ∧ nsp ≤ osp ∧ osp ≤ T ∧ ohe ≤ osp ∧ (0 < vbr.toInt ∨ otk.toInt = 0 ∨ nsp < osp) ∧ (obr, oba, osp, ohe, otk, ova) = gOn ftp T vbr vba nsp nhe vtk vva) (fun (u : Int32 × Int32 × Nat × Nat × Int32 × Int32) (t : State) => match u with | (obr, oba, osp, ohe, otk, ova) => va_P (dC, dI) vwCl [(h0, .inr (11, [.ref st, .int (nI N), .int (nI B), .ref rp, .int vrs, .int vrb, .int vhs, .int vca, .int vxs, .int vxb, .ref tp, .int (nI T), .int vfa, .int obr, .int oba, .int (nI osp), .int (nI ohe), .int otk, .int ova, .ref cu, .ref lt, .ref od, .ref th, .ref be, .ref ln, .int (nI S), .ref ma, .int (nI M), .ref ah, .ref bh, .ref ik, .ref la, .ref lg, .ref ce, .int vto])), (tp, .inl (G 0, 320, .inl ftp))] t.heap ∧ va_D A [(h0, .inr (11, [.ref st, .int (nI N), .int (nI B), .ref rp, .int vrs, .int vrb, .int vhs, .int vca, .int vxs, .int vxb, .ref tp, .int (nI T), .int vfa, .int obr, .int oba, .int (nI osp), .int (nI ohe), .int otk, .int ova, .ref cu, .ref lt, .ref od, .ref th, .ref be, .ref ln, .int (nI S), .ref ma, .int (nI M), .ref ah, .ref bh, .ref ik, .ref la, .ref lg, .ref ce, .int vto])), (tp, .inl (G 0, 320, .inl ftp))]) A) ([.ref h0] : List Value).toArray s 0 0 A) (F0 m 140 ls []) := by
                            intro nf
                            induction nf with
                            | zero => intro k34 y35 h1; exact absurd h1 (Nat.not_lt_zero _)
                            | succ nf ih140_36 =>
                              intro k34 y35 hm37 hinvc H locs hP hD hS ls hl
                              refine lv_aload_n hx hb dX11_goesOn_140 rfl (lv_at hl 1 rfl) ?_
                              refine lv_aload_n hx hb dX11_goesOn_141 rfl (lv_at hl 1 rfl) ?_
                              refine va_get (D := (dC, dI)) (ci := 11) (v := .int (nI k34)) (C := RX11) (T := TX11) (N := 35) hx hb hg inG11 hown hK.1 hP 0 rfl rfl 15 (Nat.le_of_ble_eq_true rfl) (hg _ wt_893) (fun _ h9 => h9) rfl dX11_goesOn_142 ?_
                              have hPc := hP.sub (ws' := [(h0, .inr (11, [.ref st, .int (nI N), .int (nI B), .ref rp, .int vrs, .int vrb, .int vhs, .int vca, .int vxs, .int vxb, .ref tp, .int (nI T), .int vfa, .int vbr, .int vba, .int (nI k34), .int (nI k3), .int vtk, .int y35, .ref cu, .ref lt, .ref od, .ref th, .ref be, .ref ln, .int (nI S), .ref ma, .int (nI M), .ref ah, .ref bh, .ref ik, .ref la, .ref lg, .ref ce, .int vto])), (tp, .inl (G 0, 320, .inl ftp))]) [0, 1] rfl
                              have tn1270_ : nIT k34 := fun _ => nI_toInt (by first | omega | (have t_c1 := leI c1; have t_hinva := hinva; have t_w71 := w71; have t_c8 := neI c8; have t_w101 := w101; have t_c11 := neI c11; have t_b15 := b15; have t_b25 := b25; have t_w271 := w271; have t_c30 := neI c30; have t_n32 := n32; have t_hinvc := hinvc; have : ((-4) : Int32).toInt = -4 := qI_m4; have : (0 : Int32).toInt = 0 := qI_0; have : (1 : Int32).toInt = 1 := qI_1; have : (32 : Int32).toInt = 32 := qI_32; omega))
                              refine va_calli (va_runV (As := [.int (nI k34)]) (rest := []) ⟨hx, hb, hml, hown, hg⟩ (c_X11_byteAt l dC dI G _ h0 k34 st N B rp tp T cu lt od th be ln S ma M ah bh ik la lg ce vrs vrb vhs vca vxs vxb vfa vbr vba (nI k34) (nI k3) vtk y35 vto ftp hN hB_ hT_ hS0 hM_ (by first | omega | (have t_c1 := leI c1; have t_hinva := hinva; have t_w71 := w71; have t_c8 := neI c8; have t_w101 := w101; have t_c11 := neI c11; have t_b15 := b15; have t_b25 := b25; have t_w271 := w271; have t_c30 := neI c30; have t_n32 := n32; have t_hinvc := hinvc; have : ((-4) : Int32).toInt = -4 := qI_m4; have : (0 : Int32).toInt = 0 := qI_0; have : (1 : Int32).toInt = 1 := qI_1; have : (32 : Int32).toInt = 32 := qI_32; have t_n0 : (nI N).toInt = (N : Int) := tn1261_ (); have t_n1 : (nI B).toInt = (B : Int) := tn1262_ (); have t_n2 : (nI T).toInt = (T : Int) := tn1263_ (); have t_n3 : (nI nsp).toInt = (nsp : Int) := tn1266_ (); have t_n4 : (nI nhe).toInt = (nhe : Int) := tn1267_ (); have t_n5 : (nI S).toInt = (S : Int) := tn1264_ (); have t_n6 : (nI M).toInt = (M : Int) := tn1265_ (); have t_n7 : (nI k3).toInt = (k3 : Int) := tn1268_ (); have t_n8 : (nI k34).toInt = (k34 : Int) := tn1270_ (); omega))) (kwV hg mfX11_byteAt wt_1003 ⟨Nat.le_of_ble_eq_true rfl, Nat.le_of_ble_eq_true rfl⟩) (preVR hK hPc (ci := 11) rfl rfl) rfl rfl hl.1 rfl (lv_room (Nat.le_of_ble_eq_true rfl)) dX11_goesOn_145 ⟨Nat.le_of_ble_eq_true rfl, Nat.le_of_ble_eq_true rfl⟩) hS (fun q h1 h2 => absurd h2 (Nat.not_le.mpr h1)) (fun q h => hA q (Nat.le_trans hS.1 h)) (fun r38 ur38 t H1 locs ht hvm w39 hB hz1 hk1 hS => ?_)
                              have hP := keepR hP hk1
                              obtain ⟨w39, w39x⟩ := w39
                              rcases w39 with ⟨w391, w392⟩ | ⟨w391, w392⟩
                              · skip
                                refine lv_cg (y := ftp k34) w392 ?_
                                refine lv_i2l (v := (ftp k34).toInt64) hx hb dX11_goesOn_148 rfl ?_
                                refine lv_ldc2 (v := 48) hx hb hown (hg _ wt_1009) dX11_goesOn_149 ?_
                                refine lv_ldc2 (v := 57) hx hb hown (hg _ wt_1010) dX11_goesOn_152 ?_
                                have hPc := hP.sub (ws' := []) [] rfl
                                refine va_calli (va_runS (As := [.long ((ftp k34).toInt64), .long 48, .long 57]) (rest := []) ⟨hx, hb, hml, hown, hg⟩ (c_X11_in l dC dI G _ ((ftp k34).toInt64) 48 57) (kwS hg mfX11_in wt_992 ⟨Nat.le_of_ble_eq_true rfl, Nat.le_of_ble_eq_true rfl⟩) (preSR hK hPc) rfl rfl hl.1 rfl (lv_room (Nat.le_of_ble_eq_true rfl)) dX11_goesOn_155 ⟨Nat.le_of_ble_eq_true rfl, Nat.le_of_ble_eq_true rfl⟩) hS (fun q h1 h2 => absurd h2 (Nat.not_le.mpr h1)) (fun q h => hA q (Nat.le_trans hS.1 h)) (fun r40 ur40 t H1 locs ht hvm w41 hB hz1 hk1 hS => ?_)
                                have hP := keepR hP hk1
                                obtain ⟨w41, w41x⟩ := w41
                                try simp only [l_ii, show (48 : Int64).toInt = 48 from by decide, show (57 : Int64).toInt = 57 from by decide] at w41
                                subst w41
                                refine lv_if_eq (tgt := 217) hx hb dX11_goesOn_158 rfl (fun c42 => ?_) (fun c42 => ?_)
                                · skip
                                  have b43 := if10_n c42
                                  refine lv_aload_n hx hb dX11_goesOn_217 rfl (lv_at hl 1 rfl) ?_
                                  refine lv_iconst (v := 2) hx hb dX11_goesOn_218 rfl ?_
                                  refine va_put (D := (dC, dI)) (ci := 11) (v := .int 2) (ty := .int) (C := RX11) (T := TX11) (N := 35) hx hb hg inG11 tyX11 tyX11_ok nmX11 hown hK.1 hP hD hS 0 rfl rfl 17 (Nat.le_of_ble_eq_true rfl) (hg _ wt_895) (fun _ h9 => h9) rfl (by decide +kernel) rfl rfl (Nat.le_of_ble_eq_true rfl) dX11_goesOn_219 (fun H locs hP hD hS => ?_)
                                  refine lv_aload_n hx hb dX11_goesOn_222 rfl (lv_at hl 1 rfl) ?_
                                  refine va_get (D := (dC, dI)) (ci := 11) (v := .int (nI k34)) (C := RX11) (T := TX11) (N := 35) hx hb hg inG11 hown hK.1 hP 0 rfl rfl 15 (Nat.le_of_ble_eq_true rfl) (hg _ wt_893) (fun _ h9 => h9) rfl dX11_goesOn_223 ?_
                                  refine lv_aload_n hx hb dX11_goesOn_226 rfl (lv_at hl 1 rfl) ?_
                                  refine va_get (D := (dC, dI)) (ci := 11) (v := .int (nI k3)) (C := RX11) (T := TX11) (N := 35) hx hb hg inG11 hown hK.1 hP 0 rfl rfl 16 (Nat.le_of_ble_eq_true rfl) (hg _ wt_894) (fun _ h9 => h9) rfl dX11_goesOn_227 ?_
                                  refine lv_isub hx hb dX11_goesOn_230 ?_
                                  refine lv_cg (y := nI (k34 - k3)) (by exact pk_sub (by have t_c1 := leI c1; have t_hinva := hinva; have t_w71 := w71; have t_c8 := neI c8; have t_w101 := w101; have t_c11 := neI c11; have t_b15 := b15; have t_b25 := b25; have t_w271 := w271; have t_c30 := neI c30; have t_n32 := n32; have t_hinvc := hinvc; have t_w391 := w391; have t_b43 := b43; have : ((-4) : Int32).toInt = -4 := qI_m4; have : (0 : Int32).toInt = 0 := qI_0; have : (1 : Int32).toInt = 1 := qI_1; have : (32 : Int32).toInt = 32 := qI_32; have t_n0 : (nI N).toInt = (N : Int) := tn1261_ (); have t_n1 : (nI B).toInt = (B : Int) := tn1262_ (); have t_n2 : (nI T).toInt = (T : Int) := tn1263_ (); have t_n3 : (nI nsp).toInt = (nsp : Int) := tn1266_ (); have t_n4 : (nI nhe).toInt = (nhe : Int) := tn1267_ (); have t_n5 : (nI S).toInt = (S : Int) := tn1264_ (); have t_n6 : (nI M).toInt = (M : Int) := tn1265_ (); have t_n7 : (nI k3).toInt = (k3 : Int) := tn1268_ (); have t_n8 : (nI k34).toInt = (k34 : Int) := tn1270_ (); omega)) ?_
                                  refine lv_iconst (v := 2) hx hb dX11_goesOn_231 rfl ?_
                                  refine lv_icmp_le (tgt := 269) hx hb dX11_goesOn_232 rfl (fun c44 => ?_) (fun c44 => ?_)
                                  · skip
                                    have tn1271_ : nIT (k34 - k3) := fun _ => nI_toInt (by first | omega | (have t := leI c44; omega))
                                    have n45 : (k34 - k3) ≤ 2 := by have t := leI c44; rw [show (nI (k34 - k3)).toInt = ((k34 - k3 : Nat) : Int) from tn1271_ ()] at t; have : (2 : Int32).toInt = 2 := qI_2; omega
                                    obtain ⟨hP9, hD9⟩ := va_sub2 (ws' := [(h0, .inr (11, [.ref st, .int (nI N), .int (nI B), .ref rp, .int vrs, .int vrb, .int vhs, .int vca, .int vxs, .int vxb, .ref tp, .int (nI T), .int vfa, .int vbr, .int vba, .int (nI k34), .int (nI k3), .int 2, .int y35, .ref cu, .ref lt, .ref od, .ref th, .ref be, .ref ln, .int (nI S), .ref ma, .int (nI M), .ref ah, .ref bh, .ref ik, .ref la, .ref lg, .ref ce, .int vto])), (tp, .inl (G 0, 320, .inl ftp))]) hP hD [0, 1] (by decide) rfl
                                    refine W.widen (k := 0) (n := 0) (Nat.le_of_ble_eq_true rfl) (Nat.le_of_ble_eq_true rfl) ?_
                                    exact W.vret hx hb hr (fun t ht hW => ⟨⟨(vbr, vba, k34, k3, 2, y35), rfl, (by have t_c1 := leI c1; have t_hinva := hinva; have t_w71 := w71; have t_c8 := neI c8; have t_w101 := w101; have t_c11 := neI c11; have t_b15 := b15; have t_b25 := b25; have t_w271 := w271; have t_c30 := neI c30; have t_n32 := n32; have t_hinvc := hinvc; have t_w391 := w391; have t_b43 := b43; have t_n45 := n45; have : ((-4) : Int32).toInt = -4 := qI_m4; have : (0 : Int32).toInt = 0 := qI_0; have : (1 : Int32).toInt = 1 := qI_1; have : (32 : Int32).toInt = 32 := qI_32; have t_n0 : (nI N).toInt = (N : Int) := tn1261_ (); have t_n1 : (nI B).toInt = (B : Int) := tn1262_ (); have t_n2 : (nI T).toInt = (T : Int) := tn1263_ (); have t_n3 : (nI nsp).toInt = (nsp : Int) := tn1266_ (); have t_n4 : (nI nhe).toInt = (nhe : Int) := tn1267_ (); have t_n5 : (nI S).toInt = (S : Int) := tn1264_ (); have t_n6 : (nI M).toInt = (M : Int) := tn1265_ (); have t_n7 : (nI k3).toInt = (k3 : Int) := tn1268_ (); have t_n8 : (nI k34).toInt = (k34 : Int) := tn1270_ (); have z0 : (0 : Int32).toInt = 0 := qI_0; have z1 : (1 : Int32).toInt = 1 := qI_1; have z2 : (2 : Int32).toInt = 2 := qI_2; have z3 : (3 : Int32).toInt = 3 := qI_3; have z5 : (5 : Int32).toInt = 5 := qI_5; have z9 : (9 : Int32).toInt = 9 := qI_9; have hb8 := htb k3; first | (exfalso; omega) | skip; refine ⟨by omega, ?_, by omega, by omega, by omega, ?_, ?_⟩; (first | exact Or.inr rfl | exact Or.inl (by omega)); omega; (have ea : pst ftp T 32 32 nsp = k3 := hinva.2.2.symm.trans (pst_out (by omega)); unfold gOn; rw [if_neg (by omega), ea]; unfold gOn1; rw [if_neg (by omega), if_neg (by omega), if_pos (by omega), hinvc.2.2.1.symm.trans (pst_out (by omega)), hinvc.2.2.2]; first | rw [if_pos (by omega)] | rw [if_neg (by omega)])), ⟨by rw [ht]; exact hP9, hD9⟩⟩, hS.F ht⟩) hS.2.2 dX11_goesOn_269
                                  · skip
                                    have tn1272_ : nIT (k34 - k3) := fun _ => nI_toInt (by first | omega | (have t := nleI c44; omega))
                                    have n46 : 2 < (k34 - k3) := by have t := nleI c44; rw [show (nI (k34 - k3)).toInt = ((k34 - k3 : Nat) : Int) from tn1272_ ()] at t; have : (2 : Int32).toInt = 2 := qI_2; omega
                                    refine lv_aload_n hx hb dX11_goesOn_235 rfl (lv_at hl 1 rfl) ?_
                                    refine lv_iconst (v := 1) hx hb dX11_goesOn_236 rfl ?_
                                    obtain ⟨hPc, hDc, hFc⟩ := va_sub3 (ws' := [(h0, .inr (11, [.ref st, .int (nI N), .int (nI B), .ref rp, .int vrs, .int vrb, .int vhs, .int vca, .int vxs, .int vxb, .ref tp, .int (nI T), .int vfa, .int vbr, .int vba, .int (nI k34), .int (nI k3), .int 2, .int y35, .ref cu, .ref lt, .ref od, .ref th, .ref be, .ref ln, .int (nI S), .ref ma, .int (nI M), .ref ah, .ref bh, .ref ik, .ref la, .ref lg, .ref ce, .int vto]))]) hP hD hS hA [0] (by decide) rfl
                                    refine va_callv (va_runV (As := [.int 1]) (rest := []) ⟨hx, hb, hml, hown, hg⟩ (c_X11_failsE l dC dI G _ h0 st N B rp tp T k3 cu lt od th be ln S ma M ah bh ik la lg ce 1 vrs vrb vhs vca vxs vxb vfa vbr vba (nI k34) 2 y35 vto hN hB_ hT_ hS0 hM_ (by have t_c1 := leI c1; have t_hinva := hinva; have t_w71 := w71; have t_c8 := neI c8; have t_w101 := w101; have t_c11 := neI c11; have t_b15 := b15; have t_b25 := b25; have t_w271 := w271; have t_c30 := neI c30; have t_n32 := n32; have t_hinvc := hinvc; have t_w391 := w391; have t_b43 := b43; have t_n46 := n46; have : ((-4) : Int32).toInt = -4 := qI_m4; have : (0 : Int32).toInt = 0 := qI_0; have : (1 : Int32).toInt = 1 := qI_1; have : (32 : Int32).toInt = 32 := qI_32; have t_n0 : (nI N).toInt = (N : Int) := tn1261_ (); have t_n1 : (nI B).toInt = (B : Int) := tn1262_ (); have t_n2 : (nI T).toInt = (T : Int) := tn1263_ (); have t_n3 : (nI nsp).toInt = (nsp : Int) := tn1266_ (); have t_n4 : (nI nhe).toInt = (nhe : Int) := tn1267_ (); have t_n5 : (nI S).toInt = (S : Int) := tn1264_ (); have t_n6 : (nI M).toInt = (M : Int) := tn1265_ (); have t_n7 : (nI k3).toInt = (k3 : Int) := tn1268_ (); have t_n8 : (nI k34).toInt = (k34 : Int) := tn1270_ (); have : (1 : Int32).toInt = 1 := qI_1; omega) hbr (by first | omega | (have t_c1 := leI c1; have t_hinva := hinva; have t_w71 := w71; have t_c8 := neI c8; have t_w101 := w101; have t_c11 := neI c11; have t_b15 := b15; have t_b25 := b25; have t_w271 := w271; have t_c30 := neI c30; have t_n32 := n32; have t_hinvc := hinvc; have t_w391 := w391; have t_b43 := b43; have t_n46 := n46; have : ((-4) : Int32).toInt = -4 := qI_m4; have : (0 : Int32).toInt = 0 := qI_0; have : (1 : Int32).toInt = 1 := qI_1; have : (32 : Int32).toInt = 32 := qI_32; have t_n0 : (nI N).toInt = (N : Int) := tn1261_ (); have t_n1 : (nI B).toInt = (B : Int) := tn1262_ (); have t_n2 : (nI T).toInt = (T : Int) := tn1263_ (); have t_n3 : (nI nsp).toInt = (nsp : Int) := tn1266_ (); have t_n4 : (nI nhe).toInt = (nhe : Int) := tn1267_ (); have t_n5 : (nI S).toInt = (S : Int) := tn1264_ (); have t_n6 : (nI M).toInt = (M : Int) := tn1265_ (); have t_n7 : (nI k3).toInt = (k3 : Int) := tn1268_ (); have t_n8 : (nI k34).toInt = (k34 : Int) := tn1270_ (); have : (1 : Int32).toInt = 1 := qI_1; omega))) (kwV hg mfX11_fails wt_1011 ⟨Nat.le_of_ble_eq_true rfl, Nat.le_of_ble_eq_true rfl⟩) (preVW hK hPc hDc (ci := 11) rfl rfl) rfl rfl hl.1 rfl (lv_room (Nat.le_of_ble_eq_true rfl)) dX11_goesOn_237 ⟨Nat.le_of_ble_eq_true rfl, Nat.le_of_ble_eq_true rfl⟩) hS (fun q _ h => hFc q h) hFc (fun ur47 t H1 locs ht hvm w48 hB hz1 hk1 hS => ?_)
                                    obtain ⟨u49, u50⟩ := ur47
                                    obtain ⟨hP1, hD1⟩ := hB
                                    rw [ht] at hP1
                                    obtain ⟨hP, hD⟩ := va_join (wr := [(tp, .inl (G 0, 320, .inl ftp))]) (w1 := [(h0, .inr (11, [.ref st, .int (nI N), .int (nI B), .ref rp, .int vrs, .int vrb, .int vhs, .int vca, .int vxs, .int vxb, .ref tp, .int (nI T), .int vfa, .int u49, .int u50, .int (nI k34), .int (nI k3), .int 2, .int y35, .ref cu, .ref lt, .ref od, .ref th, .ref be, .ref ln, .int (nI S), .ref ma, .int (nI M), .ref ah, .ref bh, .ref ik, .ref la, .ref lg, .ref ce, .int vto]))]) hP hD [0] [1] rfl rfl (by decide) (by decide) hk1 hFc hP1 hD1
                                    have w48 : 0 < u49.toInt ∧ u49 = flB (1 : Int32) vbr ∧ u50 = flA vbr vba k3 := w48
                                    generalize H1 = H at hP hS ⊢
                                    refine lv_goto (tgt := 269) hx hb dX11_goesOn_240 rfl ?_
                                    obtain ⟨hP9, hD9⟩ := va_sub2 (ws' := [(h0, .inr (11, [.ref st, .int (nI N), .int (nI B), .ref rp, .int vrs, .int vrb, .int vhs, .int vca, .int vxs, .int vxb, .ref tp, .int (nI T), .int vfa, .int u49, .int u50, .int (nI k34), .int (nI k3), .int 2, .int y35, .ref cu, .ref lt, .ref od, .ref th, .ref be, .ref ln, .int (nI S), .ref ma, .int (nI M), .ref ah, .ref bh, .ref ik, .ref la, .ref lg, .ref ce, .int vto])), (tp, .inl (G 0, 320, .inl ftp))]) hP hD [1, 0] (by decide) rfl
                                    refine W.widen (k := 0) (n := 0) (Nat.le_of_ble_eq_true rfl) (Nat.le_of_ble_eq_true rfl) ?_
                                    exact W.vret hx hb hr (fun t ht hW => ⟨⟨(u49, u50, k34, k3, 2, y35), rfl, (by have t_c1 := leI c1; have t_hinva := hinva; have t_w71 := w71; have t_c8 := neI c8; have t_w101 := w101; have t_c11 := neI c11; have t_b15 := b15; have t_b25 := b25; have t_w271 := w271; have t_c30 := neI c30; have t_n32 := n32; have t_hinvc := hinvc; have t_w391 := w391; have t_b43 := b43; have t_n46 := n46; have t_w48 := w48.1; have : ((-4) : Int32).toInt = -4 := qI_m4; have : (0 : Int32).toInt = 0 := qI_0; have : (1 : Int32).toInt = 1 := qI_1; have : (32 : Int32).toInt = 32 := qI_32; have t_n0 : (nI N).toInt = (N : Int) := tn1261_ (); have t_n1 : (nI B).toInt = (B : Int) := tn1262_ (); have t_n2 : (nI T).toInt = (T : Int) := tn1263_ (); have t_n3 : (nI nsp).toInt = (nsp : Int) := tn1266_ (); have t_n4 : (nI nhe).toInt = (nhe : Int) := tn1267_ (); have t_n5 : (nI S).toInt = (S : Int) := tn1264_ (); have t_n6 : (nI M).toInt = (M : Int) := tn1265_ (); have t_n7 : (nI k3).toInt = (k3 : Int) := tn1268_ (); have t_n8 : (nI k34).toInt = (k34 : Int) := tn1270_ (); have z0 : (0 : Int32).toInt = 0 := qI_0; have z1 : (1 : Int32).toInt = 1 := qI_1; have z2 : (2 : Int32).toInt = 2 := qI_2; have z3 : (3 : Int32).toInt = 3 := qI_3; have z5 : (5 : Int32).toInt = 5 := qI_5; have z9 : (9 : Int32).toInt = 9 := qI_9; have hb8 := htb k3; first | (exfalso; omega) | skip; refine ⟨by omega, ?_, by omega, by omega, by omega, ?_, ?_⟩; (first | exact Or.inr rfl | exact Or.inl (by omega)); omega; (have ea : pst ftp T 32 32 nsp = k3 := hinva.2.2.symm.trans (pst_out (by omega)); unfold gOn; rw [if_neg (by omega), ea]; unfold gOn1; have q1 := w48.2.1; have q2 := w48.2.2; rw [q1, q2]; rw [if_neg (by omega), if_neg (by omega), if_pos (by omega), hinvc.2.2.1.symm.trans (pst_out (by omega)), hinvc.2.2.2]; first | rw [if_pos (by omega)] | rw [if_neg (by omega)])), ⟨by rw [ht]; exact hP9, hD9⟩⟩, hS.F ht⟩) hS.2.2 dX11_goesOn_269
                                · skip
                                  have b51 := if10_p c42
                                  refine lv_aload_n hx hb dX11_goesOn_161 rfl (lv_at hl 1 rfl) ?_
                                  refine lv_aload_n hx hb dX11_goesOn_162 rfl (lv_at hl 1 rfl) ?_
                                  refine va_get (D := (dC, dI)) (ci := 11) (v := .int (nI k34)) (C := RX11) (T := TX11) (N := 35) hx hb hg inG11 hown hK.1 hP 0 rfl rfl 15 (Nat.le_of_ble_eq_true rfl) (hg _ wt_893) (fun _ h9 => h9) rfl dX11_goesOn_163 ?_
                                  refine lv_aload_n hx hb dX11_goesOn_166 rfl (lv_at hl 1 rfl) ?_
                                  refine va_get (D := (dC, dI)) (ci := 11) (v := .int (nI k3)) (C := RX11) (T := TX11) (N := 35) hx hb hg inG11 hown hK.1 hP 0 rfl rfl 16 (Nat.le_of_ble_eq_true rfl) (hg _ wt_894) (fun _ h9 => h9) rfl dX11_goesOn_167 ?_
                                  refine lv_isub hx hb dX11_goesOn_170 ?_
                                  refine lv_cg (y := nI (k34 - k3)) (by exact pk_sub (by have t_c1 := leI c1; have t_hinva := hinva; have t_w71 := w71; have t_c8 := neI c8; have t_w101 := w101; have t_c11 := neI c11; have t_b15 := b15; have t_b25 := b25; have t_w271 := w271; have t_c30 := neI c30; have t_n32 := n32; have t_hinvc := hinvc; have t_w391 := w391; have t_b51 := b51; have : ((-4) : Int32).toInt = -4 := qI_m4; have : (0 : Int32).toInt = 0 := qI_0; have : (1 : Int32).toInt = 1 := qI_1; have : (32 : Int32).toInt = 32 := qI_32; have t_n0 : (nI N).toInt = (N : Int) := tn1261_ (); have t_n1 : (nI B).toInt = (B : Int) := tn1262_ (); have t_n2 : (nI T).toInt = (T : Int) := tn1263_ (); have t_n3 : (nI nsp).toInt = (nsp : Int) := tn1266_ (); have t_n4 : (nI nhe).toInt = (nhe : Int) := tn1267_ (); have t_n5 : (nI S).toInt = (S : Int) := tn1264_ (); have t_n6 : (nI M).toInt = (M : Int) := tn1265_ (); have t_n7 : (nI k3).toInt = (k3 : Int) := tn1268_ (); have t_n8 : (nI k34).toInt = (k34 : Int) := tn1270_ (); omega)) ?_
                                  refine lv_iconst (v := 2) hx hb dX11_goesOn_171 rfl ?_
                                  refine lv_icmp_ge (tgt := 197) hx hb dX11_goesOn_172 rfl (fun c52 => ?_) (fun c52 => ?_)
                                  · skip
                                    have tn1273_ : nIT (k34 - k3) := fun _ => nI_toInt (by first | omega | (have t := leI c52; omega))
                                    have n53 : 2 ≤ (k34 - k3) := by have t := leI c52; rw [show (nI (k34 - k3)).toInt = ((k34 - k3 : Nat) : Int) from tn1273_ ()] at t; have : (2 : Int32).toInt = 2 := qI_2; omega
                                    refine lv_aload_n hx hb dX11_goesOn_197 rfl (lv_at hl 1 rfl) ?_
                                    refine va_get (D := (dC, dI)) (ci := 11) (v := .int y35) (C := RX11) (T := TX11) (N := 35) hx hb hg inG11 hown hK.1 hP 0 rfl rfl 18 (Nat.le_of_ble_eq_true rfl) (hg _ wt_896) (fun _ h9 => h9) rfl dX11_goesOn_198 ?_
                                    refine va_put (D := (dC, dI)) (ci := 11) (v := .int y35) (ty := .int) (C := RX11) (T := TX11) (N := 35) hx hb hg inG11 tyX11 tyX11_ok nmX11 hown hK.1 hP hD hS 0 rfl rfl 18 (Nat.le_of_ble_eq_true rfl) (hg _ wt_896) (fun _ h9 => h9) rfl (by decide +kernel) rfl rfl (Nat.le_of_ble_eq_true rfl) dX11_goesOn_201 (fun H locs hP hD hS => ?_)
                                    refine lv_aload_n hx hb dX11_goesOn_204 rfl (lv_at hl 1 rfl) ?_
                                    refine lv_dup hx hb dX11_goesOn_205 rfl ?_
                                    refine va_get (D := (dC, dI)) (ci := 11) (v := .int (nI k34)) (C := RX11) (T := TX11) (N := 35) hx hb hg inG11 hown hK.1 hP 0 rfl rfl 15 (Nat.le_of_ble_eq_true rfl) (hg _ wt_893) (fun _ h9 => h9) rfl dX11_goesOn_206 ?_
                                    refine lv_iconst (v := 1) hx hb dX11_goesOn_209 rfl ?_
                                    refine lv_iadd hx hb dX11_goesOn_210 ?_
                                    refine lv_cg (y := nI (k34 + 1)) (by rw [show (1 : Int32) = nI 1 from rfl]; exact nI_add _ _) ?_
                                    refine va_put (D := (dC, dI)) (ci := 11) (v := .int (nI (k34 + 1))) (ty := .int) (C := RX11) (T := TX11) (N := 35) hx hb hg inG11 tyX11 tyX11_ok nmX11 hown hK.1 hP hD hS 0 rfl rfl 15 (Nat.le_of_ble_eq_true rfl) (hg _ wt_893) (fun _ h9 => h9) rfl (by decide +kernel) rfl rfl (Nat.le_of_ble_eq_true rfl) dX11_goesOn_211 (fun H locs hP hD hS => ?_)
                                    refine lv_goto (tgt := 140) hx hb dX11_goesOn_214 rfl ?_
                                    exact ih140_36 (k34 + 1) y35 (by have t_c1 := leI c1; have t_hinva := hinva; have t_w71 := w71; have t_c8 := neI c8; have t_w101 := w101; have t_c11 := neI c11; have t_b15 := b15; have t_b25 := b25; have t_w271 := w271; have t_c30 := neI c30; have t_n32 := n32; have t_hinvc := hinvc; have t_w391 := w391; have t_b51 := b51; have t_n53 := n53; have : ((-4) : Int32).toInt = -4 := qI_m4; have : (0 : Int32).toInt = 0 := qI_0; have : (1 : Int32).toInt = 1 := qI_1; have : (32 : Int32).toInt = 32 := qI_32; have t_n0 : (nI N).toInt = (N : Int) := tn1261_ (); have t_n1 : (nI B).toInt = (B : Int) := tn1262_ (); have t_n2 : (nI T).toInt = (T : Int) := tn1263_ (); have t_n3 : (nI nsp).toInt = (nsp : Int) := tn1266_ (); have t_n4 : (nI nhe).toInt = (nhe : Int) := tn1267_ (); have t_n5 : (nI S).toInt = (S : Int) := tn1264_ (); have t_n6 : (nI M).toInt = (M : Int) := tn1265_ (); have t_n7 : (nI k3).toInt = (k3 : Int) := tn1268_ (); have t_n8 : (nI k34).toInt = (k34 : Int) := tn1270_ (); omega) ⟨(by have t_c1 := leI c1; have t_hinva := hinva; have t_w71 := w71; have t_c8 := neI c8; have t_w101 := w101; have t_c11 := neI c11; have t_b15 := b15; have t_b25 := b25; have t_w271 := w271; have t_c30 := neI c30; have t_n32 := n32; have t_hinvc := hinvc; have t_w391 := w391; have t_b51 := b51; have t_n53 := n53; have : ((-4) : Int32).toInt = -4 := qI_m4; have : (0 : Int32).toInt = 0 := qI_0; have : (1 : Int32).toInt = 1 := qI_1; have : (32 : Int32).toInt = 32 := qI_32; have t_n0 : (nI N).toInt = (N : Int) := tn1261_ (); have t_n1 : (nI B).toInt = (B : Int) := tn1262_ (); have t_n2 : (nI T).toInt = (T : Int) := tn1263_ (); have t_n3 : (nI nsp).toInt = (nsp : Int) := tn1266_ (); have t_n4 : (nI nhe).toInt = (nhe : Int) := tn1267_ (); have t_n5 : (nI S).toInt = (S : Int) := tn1264_ (); have t_n6 : (nI M).toInt = (M : Int) := tn1265_ (); have t_n7 : (nI k3).toInt = (k3 : Int) := tn1268_ (); have t_n8 : (nI k34).toInt = (k34 : Int) := tn1270_ (); have z0 : (0 : Int32).toInt = 0 := qI_0; have z1 : (1 : Int32).toInt = 1 := qI_1; have z2 : (2 : Int32).toInt = 2 := qI_2; have z3 : (3 : Int32).toInt = 3 := qI_3; have z5 : (5 : Int32).toInt = 5 := qI_5; have z9 : (9 : Int32).toInt = 9 := qI_9; omega), (by have t_c1 := leI c1; have t_hinva := hinva; have t_w71 := w71; have t_c8 := neI c8; have t_w101 := w101; have t_c11 := neI c11; have t_b15 := b15; have t_b25 := b25; have t_w271 := w271; have t_c30 := neI c30; have t_n32 := n32; have t_hinvc := hinvc; have t_w391 := w391; have t_b51 := b51; have t_n53 := n53; have : ((-4) : Int32).toInt = -4 := qI_m4; have : (0 : Int32).toInt = 0 := qI_0; have : (1 : Int32).toInt = 1 := qI_1; have : (32 : Int32).toInt = 32 := qI_32; have t_n0 : (nI N).toInt = (N : Int) := tn1261_ (); have t_n1 : (nI B).toInt = (B : Int) := tn1262_ (); have t_n2 : (nI T).toInt = (T : Int) := tn1263_ (); have t_n3 : (nI nsp).toInt = (nsp : Int) := tn1266_ (); have t_n4 : (nI nhe).toInt = (nhe : Int) := tn1267_ (); have t_n5 : (nI S).toInt = (S : Int) := tn1264_ (); have t_n6 : (nI M).toInt = (M : Int) := tn1265_ (); have t_n7 : (nI k3).toInt = (k3 : Int) := tn1268_ (); have t_n8 : (nI k34).toInt = (k34 : Int) := tn1270_ (); have z0 : (0 : Int32).toInt = 0 := qI_0; have z1 : (1 : Int32).toInt = 1 := qI_1; have z2 : (2 : Int32).toInt = 2 := qI_2; have z3 : (3 : Int32).toInt = 3 := qI_3; have z5 : (5 : Int32).toInt = 5 := qI_5; have z9 : (9 : Int32).toInt = 9 := qI_9; omega), (pst_in (p := k34) (by have t_c1 := leI c1; have t_hinva := hinva; have t_w71 := w71; have t_c8 := neI c8; have t_w101 := w101; have t_c11 := neI c11; have t_b15 := b15; have t_b25 := b25; have t_w271 := w271; have t_c30 := neI c30; have t_n32 := n32; have t_hinvc := hinvc; have t_w391 := w391; have t_b51 := b51; have t_n53 := n53; have : ((-4) : Int32).toInt = -4 := qI_m4; have : (0 : Int32).toInt = 0 := qI_0; have : (1 : Int32).toInt = 1 := qI_1; have : (32 : Int32).toInt = 32 := qI_32; have t_n0 : (nI N).toInt = (N : Int) := tn1261_ (); have t_n1 : (nI B).toInt = (B : Int) := tn1262_ (); have t_n2 : (nI T).toInt = (T : Int) := tn1263_ (); have t_n3 : (nI nsp).toInt = (nsp : Int) := tn1266_ (); have t_n4 : (nI nhe).toInt = (nhe : Int) := tn1267_ (); have t_n5 : (nI S).toInt = (S : Int) := tn1264_ (); have t_n6 : (nI M).toInt = (M : Int) := tn1265_ (); have t_n7 : (nI k3).toInt = (k3 : Int) := tn1268_ (); have t_n8 : (nI k34).toInt = (k34 : Int) := tn1270_ (); have z0 : (0 : Int32).toInt = 0 := qI_0; have z1 : (1 : Int32).toInt = 1 := qI_1; have z2 : (2 : Int32).toInt = 2 := qI_2; have z3 : (3 : Int32).toInt = 3 := qI_3; have z5 : (5 : Int32).toInt = 5 := qI_5; have z9 : (9 : Int32).toInt = 9 := qI_9; omega) (by have t_c1 := leI c1; have t_hinva := hinva; have t_w71 := w71; have t_c8 := neI c8; have t_w101 := w101; have t_c11 := neI c11; have t_b15 := b15; have t_b25 := b25; have t_w271 := w271; have t_c30 := neI c30; have t_n32 := n32; have t_hinvc := hinvc; have t_w391 := w391; have t_b51 := b51; have t_n53 := n53; have : ((-4) : Int32).toInt = -4 := qI_m4; have : (0 : Int32).toInt = 0 := qI_0; have : (1 : Int32).toInt = 1 := qI_1; have : (32 : Int32).toInt = 32 := qI_32; have t_n0 : (nI N).toInt = (N : Int) := tn1261_ (); have t_n1 : (nI B).toInt = (B : Int) := tn1262_ (); have t_n2 : (nI T).toInt = (T : Int) := tn1263_ (); have t_n3 : (nI nsp).toInt = (nsp : Int) := tn1266_ (); have t_n4 : (nI nhe).toInt = (nhe : Int) := tn1267_ (); have t_n5 : (nI S).toInt = (S : Int) := tn1264_ (); have t_n6 : (nI M).toInt = (M : Int) := tn1265_ (); have t_n7 : (nI k3).toInt = (k3 : Int) := tn1268_ (); have t_n8 : (nI k34).toInt = (k34 : Int) := tn1270_ (); have z0 : (0 : Int32).toInt = 0 := qI_0; have z1 : (1 : Int32).toInt = 1 := qI_1; have z2 : (2 : Int32).toInt = 2 := qI_2; have z3 : (3 : Int32).toInt = 3 := qI_3; have z5 : (5 : Int32).toInt = 5 := qI_5; have z9 : (9 : Int32).toInt = 9 := qI_9; omega) (by have t_c1 := leI c1; have t_hinva := hinva; have t_w71 := w71; have t_c8 := neI c8; have t_w101 := w101; have t_c11 := neI c11; have t_b15 := b15; have t_b25 := b25; have t_w271 := w271; have t_c30 := neI c30; have t_n32 := n32; have t_hinvc := hinvc; have t_w391 := w391; have t_b51 := b51; have t_n53 := n53; have : ((-4) : Int32).toInt = -4 := qI_m4; have : (0 : Int32).toInt = 0 := qI_0; have : (1 : Int32).toInt = 1 := qI_1; have : (32 : Int32).toInt = 32 := qI_32; have t_n0 : (nI N).toInt = (N : Int) := tn1261_ (); have t_n1 : (nI B).toInt = (B : Int) := tn1262_ (); have t_n2 : (nI T).toInt = (T : Int) := tn1263_ (); have t_n3 : (nI nsp).toInt = (nsp : Int) := tn1266_ (); have t_n4 : (nI nhe).toInt = (nhe : Int) := tn1267_ (); have t_n5 : (nI S).toInt = (S : Int) := tn1264_ (); have t_n6 : (nI M).toInt = (M : Int) := tn1265_ (); have t_n7 : (nI k3).toInt = (k3 : Int) := tn1268_ (); have t_n8 : (nI k34).toInt = (k34 : Int) := tn1270_ (); have z0 : (0 : Int32).toInt = 0 := qI_0; have z1 : (1 : Int32).toInt = 1 := qI_1; have z2 : (2 : Int32).toInt = 2 := qI_2; have z3 : (3 : Int32).toInt = 3 := qI_3; have z5 : (5 : Int32).toInt = 5 := qI_5; have z9 : (9 : Int32).toInt = 9 := qI_9; omega)).symm.trans hinvc.2.2.1, (by have t_c1 := leI c1; have t_hinva := hinva; have t_w71 := w71; have t_c8 := neI c8; have t_w101 := w101; have t_c11 := neI c11; have t_b15 := b15; have t_b25 := b25; have t_w271 := w271; have t_c30 := neI c30; have t_n32 := n32; have t_hinvc := hinvc; have t_w391 := w391; have t_b51 := b51; have t_n53 := n53; have : ((-4) : Int32).toInt = -4 := qI_m4; have : (0 : Int32).toInt = 0 := qI_0; have : (1 : Int32).toInt = 1 := qI_1; have : (32 : Int32).toInt = 32 := qI_32; have t_n0 : (nI N).toInt = (N : Int) := tn1261_ (); have t_n1 : (nI B).toInt = (B : Int) := tn1262_ (); have t_n2 : (nI T).toInt = (T : Int) := tn1263_ (); have t_n3 : (nI nsp).toInt = (nsp : Int) := tn1266_ (); have t_n4 : (nI nhe).toInt = (nhe : Int) := tn1267_ (); have t_n5 : (nI S).toInt = (S : Int) := tn1264_ (); have t_n6 : (nI M).toInt = (M : Int) := tn1265_ (); have t_n7 : (nI k3).toInt = (k3 : Int) := tn1268_ (); have t_n8 : (nI k34).toInt = (k34 : Int) := tn1270_ (); rw [show (k34 + 1) - k3 = (k34 - k3) + 1 by omega]; show _ = (if k34 - k3 < 2 then 10 * vlS ftp k3 (k34 - k3) + ftp (k3 + (k34 - k3)) - 48 else vlS ftp k3 (k34 - k3)); rw [show k3 + (k34 - k3) = k34 by omega]; first | (exfalso; omega) | (rw [if_pos (by omega), ← hinvc.2.2.2]) | (rw [if_neg (by omega)]; exact hinvc.2.2.2))⟩ _ _ hP hD hS ls (lv_sub hl [0, 1] rfl)
                                  · skip
                                    have tn1274_ : nIT (k34 - k3) := fun _ => nI_toInt (by first | omega | (have t := nleI c52; omega))
                                    have n54 : (k34 - k3) < 2 := by have t := nleI c52; rw [show (nI (k34 - k3)).toInt = ((k34 - k3 : Nat) : Int) from tn1274_ ()] at t; have : (2 : Int32).toInt = 2 := qI_2; omega
                                    refine lv_bipush (v := 10) hx hb dX11_goesOn_175 rfl ?_
                                    refine lv_aload_n hx hb dX11_goesOn_177 rfl (lv_at hl 1 rfl) ?_
                                    refine va_get (D := (dC, dI)) (ci := 11) (v := .int y35) (C := RX11) (T := TX11) (N := 35) hx hb hg inG11 hown hK.1 hP 0 rfl rfl 18 (Nat.le_of_ble_eq_true rfl) (hg _ wt_896) (fun _ h9 => h9) rfl dX11_goesOn_178 ?_
                                    refine lv_imul hx hb dX11_goesOn_181 ?_
                                    refine lv_aload_n hx hb dX11_goesOn_182 rfl (lv_at hl 1 rfl) ?_
                                    refine lv_aload_n hx hb dX11_goesOn_183 rfl (lv_at hl 1 rfl) ?_
                                    refine va_get (D := (dC, dI)) (ci := 11) (v := .int (nI k34)) (C := RX11) (T := TX11) (N := 35) hx hb hg inG11 hown hK.1 hP 0 rfl rfl 15 (Nat.le_of_ble_eq_true rfl) (hg _ wt_893) (fun _ h9 => h9) rfl dX11_goesOn_184 ?_
                                    have hPc := hP.sub (ws' := [(h0, .inr (11, [.ref st, .int (nI N), .int (nI B), .ref rp, .int vrs, .int vrb, .int vhs, .int vca, .int vxs, .int vxb, .ref tp, .int (nI T), .int vfa, .int vbr, .int vba, .int (nI k34), .int (nI k3), .int vtk, .int y35, .ref cu, .ref lt, .ref od, .ref th, .ref be, .ref ln, .int (nI S), .ref ma, .int (nI M), .ref ah, .ref bh, .ref ik, .ref la, .ref lg, .ref ce, .int vto])), (tp, .inl (G 0, 320, .inl ftp))]) [0, 1] rfl
                                    refine va_calli (va_runV (As := [.int (nI k34)]) (rest := [.int (10 * y35), .ref h0]) ⟨hx, hb, hml, hown, hg⟩ (c_X11_byteAt l dC dI G _ h0 k34 st N B rp tp T cu lt od th be ln S ma M ah bh ik la lg ce vrs vrb vhs vca vxs vxb vfa vbr vba (nI k34) (nI k3) vtk y35 vto ftp hN hB_ hT_ hS0 hM_ (by first | omega | (have t_c1 := leI c1; have t_hinva := hinva; have t_w71 := w71; have t_c8 := neI c8; have t_w101 := w101; have t_c11 := neI c11; have t_b15 := b15; have t_b25 := b25; have t_w271 := w271; have t_c30 := neI c30; have t_n32 := n32; have t_hinvc := hinvc; have t_w391 := w391; have t_b51 := b51; have t_n54 := n54; have : ((-4) : Int32).toInt = -4 := qI_m4; have : (0 : Int32).toInt = 0 := qI_0; have : (1 : Int32).toInt = 1 := qI_1; have : (32 : Int32).toInt = 32 := qI_32; have t_n0 : (nI N).toInt = (N : Int) := tn1261_ (); have t_n1 : (nI B).toInt = (B : Int) := tn1262_ (); have t_n2 : (nI T).toInt = (T : Int) := tn1263_ (); have t_n3 : (nI nsp).toInt = (nsp : Int) := tn1266_ (); have t_n4 : (nI nhe).toInt = (nhe : Int) := tn1267_ (); have t_n5 : (nI S).toInt = (S : Int) := tn1264_ (); have t_n6 : (nI M).toInt = (M : Int) := tn1265_ (); have t_n7 : (nI k3).toInt = (k3 : Int) := tn1268_ (); have t_n8 : (nI k34).toInt = (k34 : Int) := tn1270_ (); omega))) (kwV hg mfX11_byteAt wt_1003 ⟨Nat.le_of_ble_eq_true rfl, Nat.le_of_ble_eq_true rfl⟩) (preVR hK hPc (ci := 11) rfl rfl) rfl rfl hl.1 rfl (lv_room (Nat.le_of_ble_eq_true rfl)) dX11_goesOn_187 ⟨Nat.le_of_ble_eq_true rfl, Nat.le_of_ble_eq_true rfl⟩) hS (fun q h1 h2 => absurd h2 (Nat.not_le.mpr h1)) (fun q h => hA q (Nat.le_trans hS.1 h)) (fun r55 ur55 t H1 locs ht hvm w56 hB hz1 hk1 hS => ?_)
                                    have hP := keepR hP hk1
                                    obtain ⟨w56, w56x⟩ := w56
                                    rcases w56 with ⟨w561, w562⟩ | ⟨w561, w562⟩
                                    · skip
                                      refine lv_cg (y := ftp k34) w562 ?_
                                      refine lv_iadd hx hb dX11_goesOn_190 ?_
                                      refine lv_bipush (v := 48) hx hb dX11_goesOn_191 rfl ?_
                                      refine lv_isub hx hb dX11_goesOn_193 ?_
                                      refine lv_goto (tgt := 201) hx hb dX11_goesOn_194 rfl ?_
                                      refine va_put (D := (dC, dI)) (ci := 11) (v := .int (((10 * y35) + (ftp k34)) - 48)) (ty := .int) (C := RX11) (T := TX11) (N := 35) hx hb hg inG11 tyX11 tyX11_ok nmX11 hown hK.1 hP hD hS 0 rfl rfl 18 (Nat.le_of_ble_eq_true rfl) (hg _ wt_896) (fun _ h9 => h9) rfl (by decide +kernel) rfl rfl (Nat.le_of_ble_eq_true rfl) dX11_goesOn_201 (fun H locs hP hD hS => ?_)
                                      refine lv_aload_n hx hb dX11_goesOn_204 rfl (lv_at hl 1 rfl) ?_
                                      refine lv_dup hx hb dX11_goesOn_205 rfl ?_
                                      refine va_get (D := (dC, dI)) (ci := 11) (v := .int (nI k34)) (C := RX11) (T := TX11) (N := 35) hx hb hg inG11 hown hK.1 hP 0 rfl rfl 15 (Nat.le_of_ble_eq_true rfl) (hg _ wt_893) (fun _ h9 => h9) rfl dX11_goesOn_206 ?_
                                      refine lv_iconst (v := 1) hx hb dX11_goesOn_209 rfl ?_
                                      refine lv_iadd hx hb dX11_goesOn_210 ?_
                                      refine lv_cg (y := nI (k34 + 1)) (by rw [show (1 : Int32) = nI 1 from rfl]; exact nI_add _ _) ?_
                                      refine va_put (D := (dC, dI)) (ci := 11) (v := .int (nI (k34 + 1))) (ty := .int) (C := RX11) (T := TX11) (N := 35) hx hb hg inG11 tyX11 tyX11_ok nmX11 hown hK.1 hP hD hS 0 rfl rfl 15 (Nat.le_of_ble_eq_true rfl) (hg _ wt_893) (fun _ h9 => h9) rfl (by decide +kernel) rfl rfl (Nat.le_of_ble_eq_true rfl) dX11_goesOn_211 (fun H locs hP hD hS => ?_)
                                      refine lv_goto (tgt := 140) hx hb dX11_goesOn_214 rfl ?_
                                      exact ih140_36 (k34 + 1) (((10 * y35) + (ftp k34)) - 48) (by have t_c1 := leI c1; have t_hinva := hinva; have t_w71 := w71; have t_c8 := neI c8; have t_w101 := w101; have t_c11 := neI c11; have t_b15 := b15; have t_b25 := b25; have t_w271 := w271; have t_c30 := neI c30; have t_n32 := n32; have t_hinvc := hinvc; have t_w391 := w391; have t_b51 := b51; have t_n54 := n54; have t_w561 := w561; have : ((-4) : Int32).toInt = -4 := qI_m4; have : (0 : Int32).toInt = 0 := qI_0; have : (1 : Int32).toInt = 1 := qI_1; have : (32 : Int32).toInt = 32 := qI_32; have t_n0 : (nI N).toInt = (N : Int) := tn1261_ (); have t_n1 : (nI B).toInt = (B : Int) := tn1262_ (); have t_n2 : (nI T).toInt = (T : Int) := tn1263_ (); have t_n3 : (nI nsp).toInt = (nsp : Int) := tn1266_ (); have t_n4 : (nI nhe).toInt = (nhe : Int) := tn1267_ (); have t_n5 : (nI S).toInt = (S : Int) := tn1264_ (); have t_n6 : (nI M).toInt = (M : Int) := tn1265_ (); have t_n7 : (nI k3).toInt = (k3 : Int) := tn1268_ (); have t_n8 : (nI k34).toInt = (k34 : Int) := tn1270_ (); omega) ⟨(by have t_c1 := leI c1; have t_hinva := hinva; have t_w71 := w71; have t_c8 := neI c8; have t_w101 := w101; have t_c11 := neI c11; have t_b15 := b15; have t_b25 := b25; have t_w271 := w271; have t_c30 := neI c30; have t_n32 := n32; have t_hinvc := hinvc; have t_w391 := w391; have t_b51 := b51; have t_n54 := n54; have t_w561 := w561; have : ((-4) : Int32).toInt = -4 := qI_m4; have : (0 : Int32).toInt = 0 := qI_0; have : (1 : Int32).toInt = 1 := qI_1; have : (32 : Int32).toInt = 32 := qI_32; have t_n0 : (nI N).toInt = (N : Int) := tn1261_ (); have t_n1 : (nI B).toInt = (B : Int) := tn1262_ (); have t_n2 : (nI T).toInt = (T : Int) := tn1263_ (); have t_n3 : (nI nsp).toInt = (nsp : Int) := tn1266_ (); have t_n4 : (nI nhe).toInt = (nhe : Int) := tn1267_ (); have t_n5 : (nI S).toInt = (S : Int) := tn1264_ (); have t_n6 : (nI M).toInt = (M : Int) := tn1265_ (); have t_n7 : (nI k3).toInt = (k3 : Int) := tn1268_ (); have t_n8 : (nI k34).toInt = (k34 : Int) := tn1270_ (); have z0 : (0 : Int32).toInt = 0 := qI_0; have z1 : (1 : Int32).toInt = 1 := qI_1; have z2 : (2 : Int32).toInt = 2 := qI_2; have z3 : (3 : Int32).toInt = 3 := qI_3; have z5 : (5 : Int32).toInt = 5 := qI_5; have z9 : (9 : Int32).toInt = 9 := qI_9; omega), (by have t_c1 := leI c1; have t_hinva := hinva; have t_w71 := w71; have t_c8 := neI c8; have t_w101 := w101; have t_c11 := neI c11; have t_b15 := b15; have t_b25 := b25; have t_w271 := w271; have t_c30 := neI c30; have t_n32 := n32; have t_hinvc := hinvc; have t_w391 := w391; have t_b51 := b51; have t_n54 := n54; have t_w561 := w561; have : ((-4) : Int32).toInt = -4 := qI_m4; have : (0 : Int32).toInt = 0 := qI_0; have : (1 : Int32).toInt = 1 := qI_1; have : (32 : Int32).toInt = 32 := qI_32; have t_n0 : (nI N).toInt = (N : Int) := tn1261_ (); have t_n1 : (nI B).toInt = (B : Int) := tn1262_ (); have t_n2 : (nI T).toInt = (T : Int) := tn1263_ (); have t_n3 : (nI nsp).toInt = (nsp : Int) := tn1266_ (); have t_n4 : (nI nhe).toInt = (nhe : Int) := tn1267_ (); have t_n5 : (nI S).toInt = (S : Int) := tn1264_ (); have t_n6 : (nI M).toInt = (M : Int) := tn1265_ (); have t_n7 : (nI k3).toInt = (k3 : Int) := tn1268_ (); have t_n8 : (nI k34).toInt = (k34 : Int) := tn1270_ (); have z0 : (0 : Int32).toInt = 0 := qI_0; have z1 : (1 : Int32).toInt = 1 := qI_1; have z2 : (2 : Int32).toInt = 2 := qI_2; have z3 : (3 : Int32).toInt = 3 := qI_3; have z5 : (5 : Int32).toInt = 5 := qI_5; have z9 : (9 : Int32).toInt = 9 := qI_9; omega), (pst_in (p := k34) (by have t_c1 := leI c1; have t_hinva := hinva; have t_w71 := w71; have t_c8 := neI c8; have t_w101 := w101; have t_c11 := neI c11; have t_b15 := b15; have t_b25 := b25; have t_w271 := w271; have t_c30 := neI c30; have t_n32 := n32; have t_hinvc := hinvc; have t_w391 := w391; have t_b51 := b51; have t_n54 := n54; have t_w561 := w561; have : ((-4) : Int32).toInt = -4 := qI_m4; have : (0 : Int32).toInt = 0 := qI_0; have : (1 : Int32).toInt = 1 := qI_1; have : (32 : Int32).toInt = 32 := qI_32; have t_n0 : (nI N).toInt = (N : Int) := tn1261_ (); have t_n1 : (nI B).toInt = (B : Int) := tn1262_ (); have t_n2 : (nI T).toInt = (T : Int) := tn1263_ (); have t_n3 : (nI nsp).toInt = (nsp : Int) := tn1266_ (); have t_n4 : (nI nhe).toInt = (nhe : Int) := tn1267_ (); have t_n5 : (nI S).toInt = (S : Int) := tn1264_ (); have t_n6 : (nI M).toInt = (M : Int) := tn1265_ (); have t_n7 : (nI k3).toInt = (k3 : Int) := tn1268_ (); have t_n8 : (nI k34).toInt = (k34 : Int) := tn1270_ (); have z0 : (0 : Int32).toInt = 0 := qI_0; have z1 : (1 : Int32).toInt = 1 := qI_1; have z2 : (2 : Int32).toInt = 2 := qI_2; have z3 : (3 : Int32).toInt = 3 := qI_3; have z5 : (5 : Int32).toInt = 5 := qI_5; have z9 : (9 : Int32).toInt = 9 := qI_9; omega) (by have t_c1 := leI c1; have t_hinva := hinva; have t_w71 := w71; have t_c8 := neI c8; have t_w101 := w101; have t_c11 := neI c11; have t_b15 := b15; have t_b25 := b25; have t_w271 := w271; have t_c30 := neI c30; have t_n32 := n32; have t_hinvc := hinvc; have t_w391 := w391; have t_b51 := b51; have t_n54 := n54; have t_w561 := w561; have : ((-4) : Int32).toInt = -4 := qI_m4; have : (0 : Int32).toInt = 0 := qI_0; have : (1 : Int32).toInt = 1 := qI_1; have : (32 : Int32).toInt = 32 := qI_32; have t_n0 : (nI N).toInt = (N : Int) := tn1261_ (); have t_n1 : (nI B).toInt = (B : Int) := tn1262_ (); have t_n2 : (nI T).toInt = (T : Int) := tn1263_ (); have t_n3 : (nI nsp).toInt = (nsp : Int) := tn1266_ (); have t_n4 : (nI nhe).toInt = (nhe : Int) := tn1267_ (); have t_n5 : (nI S).toInt = (S : Int) := tn1264_ (); have t_n6 : (nI M).toInt = (M : Int) := tn1265_ (); have t_n7 : (nI k3).toInt = (k3 : Int) := tn1268_ (); have t_n8 : (nI k34).toInt = (k34 : Int) := tn1270_ (); have z0 : (0 : Int32).toInt = 0 := qI_0; have z1 : (1 : Int32).toInt = 1 := qI_1; have z2 : (2 : Int32).toInt = 2 := qI_2; have z3 : (3 : Int32).toInt = 3 := qI_3; have z5 : (5 : Int32).toInt = 5 := qI_5; have z9 : (9 : Int32).toInt = 9 := qI_9; omega) (by have t_c1 := leI c1; have t_hinva := hinva; have t_w71 := w71; have t_c8 := neI c8; have t_w101 := w101; have t_c11 := neI c11; have t_b15 := b15; have t_b25 := b25; have t_w271 := w271; have t_c30 := neI c30; have t_n32 := n32; have t_hinvc := hinvc; have t_w391 := w391; have t_b51 := b51; have t_n54 := n54; have t_w561 := w561; have : ((-4) : Int32).toInt = -4 := qI_m4; have : (0 : Int32).toInt = 0 := qI_0; have : (1 : Int32).toInt = 1 := qI_1; have : (32 : Int32).toInt = 32 := qI_32; have t_n0 : (nI N).toInt = (N : Int) := tn1261_ (); have t_n1 : (nI B).toInt = (B : Int) := tn1262_ (); have t_n2 : (nI T).toInt = (T : Int) := tn1263_ (); have t_n3 : (nI nsp).toInt = (nsp : Int) := tn1266_ (); have t_n4 : (nI nhe).toInt = (nhe : Int) := tn1267_ (); have t_n5 : (nI S).toInt = (S : Int) := tn1264_ (); have t_n6 : (nI M).toInt = (M : Int) := tn1265_ (); have t_n7 : (nI k3).toInt = (k3 : Int) := tn1268_ (); have t_n8 : (nI k34).toInt = (k34 : Int) := tn1270_ (); have z0 : (0 : Int32).toInt = 0 := qI_0; have z1 : (1 : Int32).toInt = 1 := qI_1; have z2 : (2 : Int32).toInt = 2 := qI_2; have z3 : (3 : Int32).toInt = 3 := qI_3; have z5 : (5 : Int32).toInt = 5 := qI_5; have z9 : (9 : Int32).toInt = 9 := qI_9; omega)).symm.trans hinvc.2.2.1, (by have t_c1 := leI c1; have t_hinva := hinva; have t_w71 := w71; have t_c8 := neI c8; have t_w101 := w101; have t_c11 := neI c11; have t_b15 := b15; have t_b25 := b25; have t_w271 := w271; have t_c30 := neI c30; have t_n32 := n32; have t_hinvc := hinvc; have t_w391 := w391; have t_b51 := b51; have t_n54 := n54; have t_w561 := w561; have : ((-4) : Int32).toInt = -4 := qI_m4; have : (0 : Int32).toInt = 0 := qI_0; have : (1 : Int32).toInt = 1 := qI_1; have : (32 : Int32).toInt = 32 := qI_32; have t_n0 : (nI N).toInt = (N : Int) := tn1261_ (); have t_n1 : (nI B).toInt = (B : Int) := tn1262_ (); have t_n2 : (nI T).toInt = (T : Int) := tn1263_ (); have t_n3 : (nI nsp).toInt = (nsp : Int) := tn1266_ (); have t_n4 : (nI nhe).toInt = (nhe : Int) := tn1267_ (); have t_n5 : (nI S).toInt = (S : Int) := tn1264_ (); have t_n6 : (nI M).toInt = (M : Int) := tn1265_ (); have t_n7 : (nI k3).toInt = (k3 : Int) := tn1268_ (); have t_n8 : (nI k34).toInt = (k34 : Int) := tn1270_ (); rw [show (k34 + 1) - k3 = (k34 - k3) + 1 by omega]; show _ = (if k34 - k3 < 2 then 10 * vlS ftp k3 (k34 - k3) + ftp (k3 + (k34 - k3)) - 48 else vlS ftp k3 (k34 - k3)); rw [show k3 + (k34 - k3) = k34 by omega]; first | (exfalso; omega) | (rw [if_pos (by omega), ← hinvc.2.2.2]) | (rw [if_neg (by omega)]; exact hinvc.2.2.2))⟩ _ _ hP hD hS ls (lv_sub hl [0, 1] rfl)
                                    · skip
                                      have t_c1 := leI c1
                                      have t_hinva := hinva
                                      have t_w71 := w71
                                      have t_c8 := neI c8
                                      have t_w101 := w101
                                      have t_c11 := neI c11
                                      have t_b15 := b15
                                      have t_b25 := b25
                                      have t_w271 := w271
                                      have t_c30 := neI c30
                                      have t_n32 := n32
                                      have t_hinvc := hinvc
                                      have t_w391 := w391
                                      have t_b51 := b51
                                      have t_n54 := n54
                                      have t_w561 := w561
                                      have : ((-4) : Int32).toInt = -4 := qI_m4
                                      have : (0 : Int32).toInt = 0 := qI_0
                                      have : (1 : Int32).toInt = 1 := qI_1
                                      have : (32 : Int32).toInt = 32 := qI_32
                                      have t_n0 : (nI N).toInt = (N : Int) := tn1261_ ()
                                      have t_n1 : (nI B).toInt = (B : Int) := tn1262_ ()
                                      have t_n2 : (nI T).toInt = (T : Int) := tn1263_ ()
                                      have t_n3 : (nI nsp).toInt = (nsp : Int) := tn1266_ ()
                                      have t_n4 : (nI nhe).toInt = (nhe : Int) := tn1267_ ()
                                      have t_n5 : (nI S).toInt = (S : Int) := tn1264_ ()
                                      have t_n6 : (nI M).toInt = (M : Int) := tn1265_ ()
                                      have t_n7 : (nI k3).toInt = (k3 : Int) := tn1268_ ()
                                      have t_n8 : (nI k34).toInt = (k34 : Int) := tn1270_ ()
                                      exfalso; omega
                              · skip
                                refine lv_cg (y := (-4)) w392 ?_
                                refine lv_i2l (v := (-4)) hx hb dX11_goesOn_148 (by decide) ?_
                                refine lv_ldc2 (v := 48) hx hb hown (hg _ wt_1009) dX11_goesOn_149 ?_
                                refine lv_ldc2 (v := 57) hx hb hown (hg _ wt_1010) dX11_goesOn_152 ?_
                                have hPc := hP.sub (ws' := []) [] rfl
                                refine va_calli (va_runS (As := [.long (-4), .long 48, .long 57]) (rest := []) ⟨hx, hb, hml, hown, hg⟩ (c_X11_in l dC dI G _ (-4) 48 57) (kwS hg mfX11_in wt_992 ⟨Nat.le_of_ble_eq_true rfl, Nat.le_of_ble_eq_true rfl⟩) (preSR hK hPc) rfl rfl hl.1 rfl (lv_room (Nat.le_of_ble_eq_true rfl)) dX11_goesOn_155 ⟨Nat.le_of_ble_eq_true rfl, Nat.le_of_ble_eq_true rfl⟩) hS (fun q h1 h2 => absurd h2 (Nat.not_le.mpr h1)) (fun q h => hA q (Nat.le_trans hS.1 h)) (fun r57 ur57 t H1 locs ht hvm w58 hB hz1 hk1 hS => ?_)
                                have hP := keepR hP hk1
                                obtain ⟨w58, w58x⟩ := w58
                                try simp only [l_ii, show (48 : Int64).toInt = 48 from by decide, show ((-4) : Int64).toInt = -4 from by decide, show (57 : Int64).toInt = 57 from by decide] at w58
                                have w58 : r57 = 0 := w58.trans (if_neg (by have t_c1 := leI c1; have t_hinva := hinva; have t_w71 := w71; have t_c8 := neI c8; have t_w101 := w101; have t_c11 := neI c11; have t_b15 := b15; have t_b25 := b25; have t_w271 := w271; have t_c30 := neI c30; have t_n32 := n32; have t_hinvc := hinvc; have t_w391 := w391; have : ((-4) : Int32).toInt = -4 := qI_m4; have : (0 : Int32).toInt = 0 := qI_0; have : (1 : Int32).toInt = 1 := qI_1; have : (32 : Int32).toInt = 32 := qI_32; have t_n0 : (nI N).toInt = (N : Int) := tn1261_ (); have t_n1 : (nI B).toInt = (B : Int) := tn1262_ (); have t_n2 : (nI T).toInt = (T : Int) := tn1263_ (); have t_n3 : (nI nsp).toInt = (nsp : Int) := tn1266_ (); have t_n4 : (nI nhe).toInt = (nhe : Int) := tn1267_ (); have t_n5 : (nI S).toInt = (S : Int) := tn1264_ (); have t_n6 : (nI M).toInt = (M : Int) := tn1265_ (); have t_n7 : (nI k3).toInt = (k3 : Int) := tn1268_ (); have t_n8 : (nI k34).toInt = (k34 : Int) := tn1270_ (); omega))
                                subst w58
                                refine lv_if_eq (tgt := 217) hx hb dX11_goesOn_158 rfl (fun c59 => ?_) (fun c59 => ?_)
                                · skip
                                  refine lv_aload_n hx hb dX11_goesOn_217 rfl (lv_at hl 1 rfl) ?_
                                  refine lv_iconst (v := 2) hx hb dX11_goesOn_218 rfl ?_
                                  refine va_put (D := (dC, dI)) (ci := 11) (v := .int 2) (ty := .int) (C := RX11) (T := TX11) (N := 35) hx hb hg inG11 tyX11 tyX11_ok nmX11 hown hK.1 hP hD hS 0 rfl rfl 17 (Nat.le_of_ble_eq_true rfl) (hg _ wt_895) (fun _ h9 => h9) rfl (by decide +kernel) rfl rfl (Nat.le_of_ble_eq_true rfl) dX11_goesOn_219 (fun H locs hP hD hS => ?_)
                                  refine lv_aload_n hx hb dX11_goesOn_222 rfl (lv_at hl 1 rfl) ?_
                                  refine va_get (D := (dC, dI)) (ci := 11) (v := .int (nI k34)) (C := RX11) (T := TX11) (N := 35) hx hb hg inG11 hown hK.1 hP 0 rfl rfl 15 (Nat.le_of_ble_eq_true rfl) (hg _ wt_893) (fun _ h9 => h9) rfl dX11_goesOn_223 ?_
                                  refine lv_aload_n hx hb dX11_goesOn_226 rfl (lv_at hl 1 rfl) ?_
                                  refine va_get (D := (dC, dI)) (ci := 11) (v := .int (nI k3)) (C := RX11) (T := TX11) (N := 35) hx hb hg inG11 hown hK.1 hP 0 rfl rfl 16 (Nat.le_of_ble_eq_true rfl) (hg _ wt_894) (fun _ h9 => h9) rfl dX11_goesOn_227 ?_
                                  refine lv_isub hx hb dX11_goesOn_230 ?_
                                  refine lv_cg (y := nI (k34 - k3)) (by exact pk_sub (by have t_c1 := leI c1; have t_hinva := hinva; have t_w71 := w71; have t_c8 := neI c8; have t_w101 := w101; have t_c11 := neI c11; have t_b15 := b15; have t_b25 := b25; have t_w271 := w271; have t_c30 := neI c30; have t_n32 := n32; have t_hinvc := hinvc; have t_w391 := w391; have t_c59 := eqI c59; have : ((-4) : Int32).toInt = -4 := qI_m4; have : (0 : Int32).toInt = 0 := qI_0; have : (1 : Int32).toInt = 1 := qI_1; have : (32 : Int32).toInt = 32 := qI_32; have t_n0 : (nI N).toInt = (N : Int) := tn1261_ (); have t_n1 : (nI B).toInt = (B : Int) := tn1262_ (); have t_n2 : (nI T).toInt = (T : Int) := tn1263_ (); have t_n3 : (nI nsp).toInt = (nsp : Int) := tn1266_ (); have t_n4 : (nI nhe).toInt = (nhe : Int) := tn1267_ (); have t_n5 : (nI S).toInt = (S : Int) := tn1264_ (); have t_n6 : (nI M).toInt = (M : Int) := tn1265_ (); have t_n7 : (nI k3).toInt = (k3 : Int) := tn1268_ (); have t_n8 : (nI k34).toInt = (k34 : Int) := tn1270_ (); omega)) ?_
                                  refine lv_iconst (v := 2) hx hb dX11_goesOn_231 rfl ?_
                                  refine lv_icmp_le (tgt := 269) hx hb dX11_goesOn_232 rfl (fun c60 => ?_) (fun c60 => ?_)
                                  · skip
                                    have tn1275_ : nIT (k34 - k3) := fun _ => nI_toInt (by first | omega | (have t := leI c60; omega))
                                    have n61 : (k34 - k3) ≤ 2 := by have t := leI c60; rw [show (nI (k34 - k3)).toInt = ((k34 - k3 : Nat) : Int) from tn1275_ ()] at t; have : (2 : Int32).toInt = 2 := qI_2; omega
                                    obtain ⟨hP9, hD9⟩ := va_sub2 (ws' := [(h0, .inr (11, [.ref st, .int (nI N), .int (nI B), .ref rp, .int vrs, .int vrb, .int vhs, .int vca, .int vxs, .int vxb, .ref tp, .int (nI T), .int vfa, .int vbr, .int vba, .int (nI k34), .int (nI k3), .int 2, .int y35, .ref cu, .ref lt, .ref od, .ref th, .ref be, .ref ln, .int (nI S), .ref ma, .int (nI M), .ref ah, .ref bh, .ref ik, .ref la, .ref lg, .ref ce, .int vto])), (tp, .inl (G 0, 320, .inl ftp))]) hP hD [0, 1] (by decide) rfl
                                    refine W.widen (k := 0) (n := 0) (Nat.le_of_ble_eq_true rfl) (Nat.le_of_ble_eq_true rfl) ?_
                                    exact W.vret hx hb hr (fun t ht hW => ⟨⟨(vbr, vba, k34, k3, 2, y35), rfl, (by have t_c1 := leI c1; have t_hinva := hinva; have t_w71 := w71; have t_c8 := neI c8; have t_w101 := w101; have t_c11 := neI c11; have t_b15 := b15; have t_b25 := b25; have t_w271 := w271; have t_c30 := neI c30; have t_n32 := n32; have t_hinvc := hinvc; have t_w391 := w391; have t_c59 := eqI c59; have t_n61 := n61; have : ((-4) : Int32).toInt = -4 := qI_m4; have : (0 : Int32).toInt = 0 := qI_0; have : (1 : Int32).toInt = 1 := qI_1; have : (32 : Int32).toInt = 32 := qI_32; have t_n0 : (nI N).toInt = (N : Int) := tn1261_ (); have t_n1 : (nI B).toInt = (B : Int) := tn1262_ (); have t_n2 : (nI T).toInt = (T : Int) := tn1263_ (); have t_n3 : (nI nsp).toInt = (nsp : Int) := tn1266_ (); have t_n4 : (nI nhe).toInt = (nhe : Int) := tn1267_ (); have t_n5 : (nI S).toInt = (S : Int) := tn1264_ (); have t_n6 : (nI M).toInt = (M : Int) := tn1265_ (); have t_n7 : (nI k3).toInt = (k3 : Int) := tn1268_ (); have t_n8 : (nI k34).toInt = (k34 : Int) := tn1270_ (); have z0 : (0 : Int32).toInt = 0 := qI_0; have z1 : (1 : Int32).toInt = 1 := qI_1; have z2 : (2 : Int32).toInt = 2 := qI_2; have z3 : (3 : Int32).toInt = 3 := qI_3; have z5 : (5 : Int32).toInt = 5 := qI_5; have z9 : (9 : Int32).toInt = 9 := qI_9; have hb8 := htb k3; first | (exfalso; omega) | skip; refine ⟨by omega, ?_, by omega, by omega, by omega, ?_, ?_⟩; (first | exact Or.inr rfl | exact Or.inl (by omega)); omega; (have ea : pst ftp T 32 32 nsp = k3 := hinva.2.2.symm.trans (pst_out (by omega)); unfold gOn; rw [if_neg (by omega), ea]; unfold gOn1; rw [if_neg (by omega), if_neg (by omega), if_pos (by omega), hinvc.2.2.1.symm.trans (pst_out (by omega)), hinvc.2.2.2]; first | rw [if_pos (by omega)] | rw [if_neg (by omega)])), ⟨by rw [ht]; exact hP9, hD9⟩⟩, hS.F ht⟩) hS.2.2 dX11_goesOn_269
                                  · skip
                                    have tn1276_ : nIT (k34 - k3) := fun _ => nI_toInt (by first | omega | (have t := nleI c60; omega))
                                    have n62 : 2 < (k34 - k3) := by have t := nleI c60; rw [show (nI (k34 - k3)).toInt = ((k34 - k3 : Nat) : Int) from tn1276_ ()] at t; have : (2 : Int32).toInt = 2 := qI_2; omega
                                    refine lv_aload_n hx hb dX11_goesOn_235 rfl (lv_at hl 1 rfl) ?_
                                    refine lv_iconst (v := 1) hx hb dX11_goesOn_236 rfl ?_
                                    obtain ⟨hPc, hDc, hFc⟩ := va_sub3 (ws' := [(h0, .inr (11, [.ref st, .int (nI N), .int (nI B), .ref rp, .int vrs, .int vrb, .int vhs, .int vca, .int vxs, .int vxb, .ref tp, .int (nI T), .int vfa, .int vbr, .int vba, .int (nI k34), .int (nI k3), .int 2, .int y35, .ref cu, .ref lt, .ref od, .ref th, .ref be, .ref ln, .int (nI S), .ref ma, .int (nI M), .ref ah, .ref bh, .ref ik, .ref la, .ref lg, .ref ce, .int vto]))]) hP hD hS hA [0] (by decide) rfl
                                    refine va_callv (va_runV (As := [.int 1]) (rest := []) ⟨hx, hb, hml, hown, hg⟩ (c_X11_failsE l dC dI G _ h0 st N B rp tp T k3 cu lt od th be ln S ma M ah bh ik la lg ce 1 vrs vrb vhs vca vxs vxb vfa vbr vba (nI k34) 2 y35 vto hN hB_ hT_ hS0 hM_ (by have t_c1 := leI c1; have t_hinva := hinva; have t_w71 := w71; have t_c8 := neI c8; have t_w101 := w101; have t_c11 := neI c11; have t_b15 := b15; have t_b25 := b25; have t_w271 := w271; have t_c30 := neI c30; have t_n32 := n32; have t_hinvc := hinvc; have t_w391 := w391; have t_c59 := eqI c59; have t_n62 := n62; have : ((-4) : Int32).toInt = -4 := qI_m4; have : (0 : Int32).toInt = 0 := qI_0; have : (1 : Int32).toInt = 1 := qI_1; have : (32 : Int32).toInt = 32 := qI_32; have t_n0 : (nI N).toInt = (N : Int) := tn1261_ (); have t_n1 : (nI B).toInt = (B : Int) := tn1262_ (); have t_n2 : (nI T).toInt = (T : Int) := tn1263_ (); have t_n3 : (nI nsp).toInt = (nsp : Int) := tn1266_ (); have t_n4 : (nI nhe).toInt = (nhe : Int) := tn1267_ (); have t_n5 : (nI S).toInt = (S : Int) := tn1264_ (); have t_n6 : (nI M).toInt = (M : Int) := tn1265_ (); have t_n7 : (nI k3).toInt = (k3 : Int) := tn1268_ (); have t_n8 : (nI k34).toInt = (k34 : Int) := tn1270_ (); have : (1 : Int32).toInt = 1 := qI_1; omega) hbr (by first | omega | (have t_c1 := leI c1; have t_hinva := hinva; have t_w71 := w71; have t_c8 := neI c8; have t_w101 := w101; have t_c11 := neI c11; have t_b15 := b15; have t_b25 := b25; have t_w271 := w271; have t_c30 := neI c30; have t_n32 := n32; have t_hinvc := hinvc; have t_w391 := w391; have t_c59 := eqI c59; have t_n62 := n62; have : ((-4) : Int32).toInt = -4 := qI_m4; have : (0 : Int32).toInt = 0 := qI_0; have : (1 : Int32).toInt = 1 := qI_1; have : (32 : Int32).toInt = 32 := qI_32; have t_n0 : (nI N).toInt = (N : Int) := tn1261_ (); have t_n1 : (nI B).toInt = (B : Int) := tn1262_ (); have t_n2 : (nI T).toInt = (T : Int) := tn1263_ (); have t_n3 : (nI nsp).toInt = (nsp : Int) := tn1266_ (); have t_n4 : (nI nhe).toInt = (nhe : Int) := tn1267_ (); have t_n5 : (nI S).toInt = (S : Int) := tn1264_ (); have t_n6 : (nI M).toInt = (M : Int) := tn1265_ (); have t_n7 : (nI k3).toInt = (k3 : Int) := tn1268_ (); have t_n8 : (nI k34).toInt = (k34 : Int) := tn1270_ (); have : (1 : Int32).toInt = 1 := qI_1; omega))) (kwV hg mfX11_fails wt_1011 ⟨Nat.le_of_ble_eq_true rfl, Nat.le_of_ble_eq_true rfl⟩) (preVW hK hPc hDc (ci := 11) rfl rfl) rfl rfl hl.1 rfl (lv_room (Nat.le_of_ble_eq_true rfl)) dX11_goesOn_237 ⟨Nat.le_of_ble_eq_true rfl, Nat.le_of_ble_eq_true rfl⟩) hS (fun q _ h => hFc q h) hFc (fun ur63 t H1 locs ht hvm w64 hB hz1 hk1 hS => ?_)
                                    obtain ⟨u65, u66⟩ := ur63
                                    obtain ⟨hP1, hD1⟩ := hB
                                    rw [ht] at hP1
                                    obtain ⟨hP, hD⟩ := va_join (wr := [(tp, .inl (G 0, 320, .inl ftp))]) (w1 := [(h0, .inr (11, [.ref st, .int (nI N), .int (nI B), .ref rp, .int vrs, .int vrb, .int vhs, .int vca, .int vxs, .int vxb, .ref tp, .int (nI T), .int vfa, .int u65, .int u66, .int (nI k34), .int (nI k3), .int 2, .int y35, .ref cu, .ref lt, .ref od, .ref th, .ref be, .ref ln, .int (nI S), .ref ma, .int (nI M), .ref ah, .ref bh, .ref ik, .ref la, .ref lg, .ref ce, .int vto]))]) hP hD [0] [1] rfl rfl (by decide) (by decide) hk1 hFc hP1 hD1
                                    have w64 : 0 < u65.toInt ∧ u65 = flB (1 : Int32) vbr ∧ u66 = flA vbr vba k3 := w64
                                    generalize H1 = H at hP hS ⊢
                                    refine lv_goto (tgt := 269) hx hb dX11_goesOn_240 rfl ?_
                                    obtain ⟨hP9, hD9⟩ := va_sub2 (ws' := [(h0, .inr (11, [.ref st, .int (nI N), .int (nI B), .ref rp, .int vrs, .int vrb, .int vhs, .int vca, .int vxs, .int vxb, .ref tp, .int (nI T), .int vfa, .int u65, .int u66, .int (nI k34), .int (nI k3), .int 2, .int y35, .ref cu, .ref lt, .ref od, .ref th, .ref be, .ref ln, .int (nI S), .ref ma, .int (nI M), .ref ah, .ref bh, .ref ik, .ref la, .ref lg, .ref ce, .int vto])), (tp, .inl (G 0, 320, .inl ftp))]) hP hD [1, 0] (by decide) rfl
                                    refine W.widen (k := 0) (n := 0) (Nat.le_of_ble_eq_true rfl) (Nat.le_of_ble_eq_true rfl) ?_
                                    exact W.vret hx hb hr (fun t ht hW => ⟨⟨(u65, u66, k34, k3, 2, y35), rfl, (by have t_c1 := leI c1; have t_hinva := hinva; have t_w71 := w71; have t_c8 := neI c8; have t_w101 := w101; have t_c11 := neI c11; have t_b15 := b15; have t_b25 := b25; have t_w271 := w271; have t_c30 := neI c30; have t_n32 := n32; have t_hinvc := hinvc; have t_w391 := w391; have t_c59 := eqI c59; have t_n62 := n62; have t_w64 := w64.1; have : ((-4) : Int32).toInt = -4 := qI_m4; have : (0 : Int32).toInt = 0 := qI_0; have : (1 : Int32).toInt = 1 := qI_1; have : (32 : Int32).toInt = 32 := qI_32; have t_n0 : (nI N).toInt = (N : Int) := tn1261_ (); have t_n1 : (nI B).toInt = (B : Int) := tn1262_ (); have t_n2 : (nI T).toInt = (T : Int) := tn1263_ (); have t_n3 : (nI nsp).toInt = (nsp : Int) := tn1266_ (); have t_n4 : (nI nhe).toInt = (nhe : Int) := tn1267_ (); have t_n5 : (nI S).toInt = (S : Int) := tn1264_ (); have t_n6 : (nI M).toInt = (M : Int) := tn1265_ (); have t_n7 : (nI k3).toInt = (k3 : Int) := tn1268_ (); have t_n8 : (nI k34).toInt = (k34 : Int) := tn1270_ (); have z0 : (0 : Int32).toInt = 0 := qI_0; have z1 : (1 : Int32).toInt = 1 := qI_1; have z2 : (2 : Int32).toInt = 2 := qI_2; have z3 : (3 : Int32).toInt = 3 := qI_3; have z5 : (5 : Int32).toInt = 5 := qI_5; have z9 : (9 : Int32).toInt = 9 := qI_9; have hb8 := htb k3; first | (exfalso; omega) | skip; refine ⟨by omega, ?_, by omega, by omega, by omega, ?_, ?_⟩; (first | exact Or.inr rfl | exact Or.inl (by omega)); omega; (have ea : pst ftp T 32 32 nsp = k3 := hinva.2.2.symm.trans (pst_out (by omega)); unfold gOn; rw [if_neg (by omega), ea]; unfold gOn1; have q1 := w64.2.1; have q2 := w64.2.2; rw [q1, q2]; rw [if_neg (by omega), if_neg (by omega), if_pos (by omega), hinvc.2.2.1.symm.trans (pst_out (by omega)), hinvc.2.2.2]; first | rw [if_pos (by omega)] | rw [if_neg (by omega)])), ⟨by rw [ht]; exact hP9, hD9⟩⟩, hS.F ht⟩) hS.2.2 dX11_goesOn_269
                                · skip
                                  exact absurd c59 (by decide)
                          exact loop140_36 ((T - (k3 + 1)) + 1) (k3 + 1) 0 (Nat.lt_succ_self _) ⟨(by have t_c1 := leI c1; have t_hinva := hinva; have t_w71 := w71; have t_c8 := neI c8; have t_w101 := w101; have t_c11 := neI c11; have t_b15 := b15; have t_b25 := b25; have t_w271 := w271; have t_c30 := neI c30; have t_n32 := n32; have : ((-4) : Int32).toInt = -4 := qI_m4; have : (0 : Int32).toInt = 0 := qI_0; have : (1 : Int32).toInt = 1 := qI_1; have : (32 : Int32).toInt = 32 := qI_32; have t_n0 : (nI N).toInt = (N : Int) := tn1261_ (); have t_n1 : (nI B).toInt = (B : Int) := tn1262_ (); have t_n2 : (nI T).toInt = (T : Int) := tn1263_ (); have t_n3 : (nI nsp).toInt = (nsp : Int) := tn1266_ (); have t_n4 : (nI nhe).toInt = (nhe : Int) := tn1267_ (); have t_n5 : (nI S).toInt = (S : Int) := tn1264_ (); have t_n6 : (nI M).toInt = (M : Int) := tn1265_ (); have t_n7 : (nI k3).toInt = (k3 : Int) := tn1268_ (); have z0 : (0 : Int32).toInt = 0 := qI_0; have z1 : (1 : Int32).toInt = 1 := qI_1; have z2 : (2 : Int32).toInt = 2 := qI_2; have z3 : (3 : Int32).toInt = 3 := qI_3; have z5 : (5 : Int32).toInt = 5 := qI_5; have z9 : (9 : Int32).toInt = 9 := qI_9; omega), (by have t_c1 := leI c1; have t_hinva := hinva; have t_w71 := w71; have t_c8 := neI c8; have t_w101 := w101; have t_c11 := neI c11; have t_b15 := b15; have t_b25 := b25; have t_w271 := w271; have t_c30 := neI c30; have t_n32 := n32; have : ((-4) : Int32).toInt = -4 := qI_m4; have : (0 : Int32).toInt = 0 := qI_0; have : (1 : Int32).toInt = 1 := qI_1; have : (32 : Int32).toInt = 32 := qI_32; have t_n0 : (nI N).toInt = (N : Int) := tn1261_ (); have t_n1 : (nI B).toInt = (B : Int) := tn1262_ (); have t_n2 : (nI T).toInt = (T : Int) := tn1263_ (); have t_n3 : (nI nsp).toInt = (nsp : Int) := tn1266_ (); have t_n4 : (nI nhe).toInt = (nhe : Int) := tn1267_ (); have t_n5 : (nI S).toInt = (S : Int) := tn1264_ (); have t_n6 : (nI M).toInt = (M : Int) := tn1265_ (); have t_n7 : (nI k3).toInt = (k3 : Int) := tn1268_ (); have z0 : (0 : Int32).toInt = 0 := qI_0; have z1 : (1 : Int32).toInt = 1 := qI_1; have z2 : (2 : Int32).toInt = 2 := qI_2; have z3 : (3 : Int32).toInt = 3 := qI_3; have z5 : (5 : Int32).toInt = 5 := qI_5; have z9 : (9 : Int32).toInt = 9 := qI_9; omega), (pst_in (p := k3) (by have t_c1 := leI c1; have t_hinva := hinva; have t_w71 := w71; have t_c8 := neI c8; have t_w101 := w101; have t_c11 := neI c11; have t_b15 := b15; have t_b25 := b25; have t_w271 := w271; have t_c30 := neI c30; have t_n32 := n32; have : ((-4) : Int32).toInt = -4 := qI_m4; have : (0 : Int32).toInt = 0 := qI_0; have : (1 : Int32).toInt = 1 := qI_1; have : (32 : Int32).toInt = 32 := qI_32; have t_n0 : (nI N).toInt = (N : Int) := tn1261_ (); have t_n1 : (nI B).toInt = (B : Int) := tn1262_ (); have t_n2 : (nI T).toInt = (T : Int) := tn1263_ (); have t_n3 : (nI nsp).toInt = (nsp : Int) := tn1266_ (); have t_n4 : (nI nhe).toInt = (nhe : Int) := tn1267_ (); have t_n5 : (nI S).toInt = (S : Int) := tn1264_ (); have t_n6 : (nI M).toInt = (M : Int) := tn1265_ (); have t_n7 : (nI k3).toInt = (k3 : Int) := tn1268_ (); have z0 : (0 : Int32).toInt = 0 := qI_0; have z1 : (1 : Int32).toInt = 1 := qI_1; have z2 : (2 : Int32).toInt = 2 := qI_2; have z3 : (3 : Int32).toInt = 3 := qI_3; have z5 : (5 : Int32).toInt = 5 := qI_5; have z9 : (9 : Int32).toInt = 9 := qI_9; omega) (by have t_c1 := leI c1; have t_hinva := hinva; have t_w71 := w71; have t_c8 := neI c8; have t_w101 := w101; have t_c11 := neI c11; have t_b15 := b15; have t_b25 := b25; have t_w271 := w271; have t_c30 := neI c30; have t_n32 := n32; have : ((-4) : Int32).toInt = -4 := qI_m4; have : (0 : Int32).toInt = 0 := qI_0; have : (1 : Int32).toInt = 1 := qI_1; have : (32 : Int32).toInt = 32 := qI_32; have t_n0 : (nI N).toInt = (N : Int) := tn1261_ (); have t_n1 : (nI B).toInt = (B : Int) := tn1262_ (); have t_n2 : (nI T).toInt = (T : Int) := tn1263_ (); have t_n3 : (nI nsp).toInt = (nsp : Int) := tn1266_ (); have t_n4 : (nI nhe).toInt = (nhe : Int) := tn1267_ (); have t_n5 : (nI S).toInt = (S : Int) := tn1264_ (); have t_n6 : (nI M).toInt = (M : Int) := tn1265_ (); have t_n7 : (nI k3).toInt = (k3 : Int) := tn1268_ (); have z0 : (0 : Int32).toInt = 0 := qI_0; have z1 : (1 : Int32).toInt = 1 := qI_1; have z2 : (2 : Int32).toInt = 2 := qI_2; have z3 : (3 : Int32).toInt = 3 := qI_3; have z5 : (5 : Int32).toInt = 5 := qI_5; have z9 : (9 : Int32).toInt = 9 := qI_9; omega) (by have t_c1 := leI c1; have t_hinva := hinva; have t_w71 := w71; have t_c8 := neI c8; have t_w101 := w101; have t_c11 := neI c11; have t_b15 := b15; have t_b25 := b25; have t_w271 := w271; have t_c30 := neI c30; have t_n32 := n32; have : ((-4) : Int32).toInt = -4 := qI_m4; have : (0 : Int32).toInt = 0 := qI_0; have : (1 : Int32).toInt = 1 := qI_1; have : (32 : Int32).toInt = 32 := qI_32; have t_n0 : (nI N).toInt = (N : Int) := tn1261_ (); have t_n1 : (nI B).toInt = (B : Int) := tn1262_ (); have t_n2 : (nI T).toInt = (T : Int) := tn1263_ (); have t_n3 : (nI nsp).toInt = (nsp : Int) := tn1266_ (); have t_n4 : (nI nhe).toInt = (nhe : Int) := tn1267_ (); have t_n5 : (nI S).toInt = (S : Int) := tn1264_ (); have t_n6 : (nI M).toInt = (M : Int) := tn1265_ (); have t_n7 : (nI k3).toInt = (k3 : Int) := tn1268_ (); have z0 : (0 : Int32).toInt = 0 := qI_0; have z1 : (1 : Int32).toInt = 1 := qI_1; have z2 : (2 : Int32).toInt = 2 := qI_2; have z3 : (3 : Int32).toInt = 3 := qI_3; have z5 : (5 : Int32).toInt = 5 := qI_5; have z9 : (9 : Int32).toInt = 9 := qI_9; omega)).symm, (by have t_c1 := leI c1; have t_hinva := hinva; have t_w71 := w71; have t_c8 := neI c8; have t_w101 := w101; have t_c11 := neI c11; have t_b15 := b15; have t_b25 := b25; have t_w271 := w271; have t_c30 := neI c30; have t_n32 := n32; have : ((-4) : Int32).toInt = -4 := qI_m4; have : (0 : Int32).toInt = 0 := qI_0; have : (1 : Int32).toInt = 1 := qI_1; have : (32 : Int32).toInt = 32 := qI_32; have t_n0 : (nI N).toInt = (N : Int) := tn1261_ (); have t_n1 : (nI B).toInt = (B : Int) := tn1262_ (); have t_n2 : (nI T).toInt = (T : Int) := tn1263_ (); have t_n3 : (nI nsp).toInt = (nsp : Int) := tn1266_ (); have t_n4 : (nI nhe).toInt = (nhe : Int) := tn1267_ (); have t_n5 : (nI S).toInt = (S : Int) := tn1264_ (); have t_n6 : (nI M).toInt = (M : Int) := tn1265_ (); have t_n7 : (nI k3).toInt = (k3 : Int) := tn1268_ (); first | (exfalso; omega) | (rw [show ((k3 + 1)) - k3 = 1 by omega]; show _ = (if (0 : Nat) < 2 then 10 * (0 : Int32) + ftp (k3 + 0) - 48 else 0); rw [if_pos (by decide), show (10 : Int32) * 0 = 0 from by decide]; rfl))⟩ _ _ hP hD hS ls (lv_sub hl [0, 1] rfl)
                        · skip
                          have tn1277_ : nIT (k3 - k3) := fun _ => nI_toInt (by first | omega | (have t := nleI c31; omega))
                          have n67 : (k3 - k3) < 2 := by have t := nleI c31; rw [show (nI (k3 - k3)).toInt = ((k3 - k3 : Nat) : Int) from tn1277_ ()] at t; have : (2 : Int32).toInt = 2 := qI_2; omega
                          refine lv_bipush (v := 10) hx hb dX11_goesOn_175 rfl ?_
                          refine lv_aload_n hx hb dX11_goesOn_177 rfl (lv_at hl 1 rfl) ?_
                          refine va_get (D := (dC, dI)) (ci := 11) (v := .int 0) (C := RX11) (T := TX11) (N := 35) hx hb hg inG11 hown hK.1 hP 0 rfl rfl 18 (Nat.le_of_ble_eq_true rfl) (hg _ wt_896) (fun _ h9 => h9) rfl dX11_goesOn_178 ?_
                          refine lv_imul hx hb dX11_goesOn_181 ?_
                          refine lv_cg (y := 0) (by decide) ?_
                          refine lv_aload_n hx hb dX11_goesOn_182 rfl (lv_at hl 1 rfl) ?_
                          refine lv_aload_n hx hb dX11_goesOn_183 rfl (lv_at hl 1 rfl) ?_
                          refine va_get (D := (dC, dI)) (ci := 11) (v := .int (nI k3)) (C := RX11) (T := TX11) (N := 35) hx hb hg inG11 hown hK.1 hP 0 rfl rfl 15 (Nat.le_of_ble_eq_true rfl) (hg _ wt_893) (fun _ h9 => h9) rfl dX11_goesOn_184 ?_
                          have hPc := hP.sub (ws' := [(h0, .inr (11, [.ref st, .int (nI N), .int (nI B), .ref rp, .int vrs, .int vrb, .int vhs, .int vca, .int vxs, .int vxb, .ref tp, .int (nI T), .int vfa, .int vbr, .int vba, .int (nI k3), .int (nI k3), .int vtk, .int 0, .ref cu, .ref lt, .ref od, .ref th, .ref be, .ref ln, .int (nI S), .ref ma, .int (nI M), .ref ah, .ref bh, .ref ik, .ref la, .ref lg, .ref ce, .int vto])), (tp, .inl (G 0, 320, .inl ftp))]) [0, 1] rfl
                          refine va_calli (va_runV (As := [.int (nI k3)]) (rest := [.int 0, .ref h0]) ⟨hx, hb, hml, hown, hg⟩ (c_X11_byteAt l dC dI G _ h0 k3 st N B rp tp T cu lt od th be ln S ma M ah bh ik la lg ce vrs vrb vhs vca vxs vxb vfa vbr vba (nI k3) (nI k3) vtk 0 vto ftp hN hB_ hT_ hS0 hM_ (by first | omega | (have t_c1 := leI c1; have t_hinva := hinva; have t_w71 := w71; have t_c8 := neI c8; have t_w101 := w101; have t_c11 := neI c11; have t_b15 := b15; have t_b25 := b25; have t_w271 := w271; have t_c30 := neI c30; have t_n67 := n67; have : ((-4) : Int32).toInt = -4 := qI_m4; have : (0 : Int32).toInt = 0 := qI_0; have : (1 : Int32).toInt = 1 := qI_1; have : (32 : Int32).toInt = 32 := qI_32; have t_n0 : (nI N).toInt = (N : Int) := tn1261_ (); have t_n1 : (nI B).toInt = (B : Int) := tn1262_ (); have t_n2 : (nI T).toInt = (T : Int) := tn1263_ (); have t_n3 : (nI nsp).toInt = (nsp : Int) := tn1266_ (); have t_n4 : (nI nhe).toInt = (nhe : Int) := tn1267_ (); have t_n5 : (nI S).toInt = (S : Int) := tn1264_ (); have t_n6 : (nI M).toInt = (M : Int) := tn1265_ (); have t_n7 : (nI k3).toInt = (k3 : Int) := tn1268_ (); omega))) (kwV hg mfX11_byteAt wt_1003 ⟨Nat.le_of_ble_eq_true rfl, Nat.le_of_ble_eq_true rfl⟩) (preVR hK hPc (ci := 11) rfl rfl) rfl rfl hl.1 rfl (lv_room (Nat.le_of_ble_eq_true rfl)) dX11_goesOn_187 ⟨Nat.le_of_ble_eq_true rfl, Nat.le_of_ble_eq_true rfl⟩) hS (fun q h1 h2 => absurd h2 (Nat.not_le.mpr h1)) (fun q h => hA q (Nat.le_trans hS.1 h)) (fun r68 ur68 t H1 locs ht hvm w69 hB hz1 hk1 hS => ?_)
                          have hP := keepR hP hk1
                          obtain ⟨w69, w69x⟩ := w69
                          rcases w69 with ⟨w691, w692⟩ | ⟨w691, w692⟩
                          · skip
                            refine lv_cg (y := ftp k3) w692 ?_
                            refine lv_iadd hx hb dX11_goesOn_190 ?_
                            refine lv_bipush (v := 48) hx hb dX11_goesOn_191 rfl ?_
                            refine lv_isub hx hb dX11_goesOn_193 ?_
                            refine lv_goto (tgt := 201) hx hb dX11_goesOn_194 rfl ?_
                            refine va_put (D := (dC, dI)) (ci := 11) (v := .int ((0 + (ftp k3)) - 48)) (ty := .int) (C := RX11) (T := TX11) (N := 35) hx hb hg inG11 tyX11 tyX11_ok nmX11 hown hK.1 hP hD hS 0 rfl rfl 18 (Nat.le_of_ble_eq_true rfl) (hg _ wt_896) (fun _ h9 => h9) rfl (by decide +kernel) rfl rfl (Nat.le_of_ble_eq_true rfl) dX11_goesOn_201 (fun H locs hP hD hS => ?_)
                            refine lv_aload_n hx hb dX11_goesOn_204 rfl (lv_at hl 1 rfl) ?_
                            refine lv_dup hx hb dX11_goesOn_205 rfl ?_
                            refine va_get (D := (dC, dI)) (ci := 11) (v := .int (nI k3)) (C := RX11) (T := TX11) (N := 35) hx hb hg inG11 hown hK.1 hP 0 rfl rfl 15 (Nat.le_of_ble_eq_true rfl) (hg _ wt_893) (fun _ h9 => h9) rfl dX11_goesOn_206 ?_
                            refine lv_iconst (v := 1) hx hb dX11_goesOn_209 rfl ?_
                            refine lv_iadd hx hb dX11_goesOn_210 ?_
                            refine lv_cg (y := nI (k3 + 1)) (by rw [show (1 : Int32) = nI 1 from rfl]; exact nI_add _ _) ?_
                            refine va_put (D := (dC, dI)) (ci := 11) (v := .int (nI (k3 + 1))) (ty := .int) (C := RX11) (T := TX11) (N := 35) hx hb hg inG11 tyX11 tyX11_ok nmX11 hown hK.1 hP hD hS 0 rfl rfl 15 (Nat.le_of_ble_eq_true rfl) (hg _ wt_893) (fun _ h9 => h9) rfl (by decide +kernel) rfl rfl (Nat.le_of_ble_eq_true rfl) dX11_goesOn_211 (fun H locs hP hD hS => ?_)
                            refine lv_goto (tgt := 140) hx hb dX11_goesOn_214 rfl ?_
                            have loop140_73 : ∀ (nf : Nat) (k71 : Nat) (y72 : Int32), (T - k71) < nf → ((k3 + 1) ≤ k71 ∧ k71 ≤ T ∧ pst ftp T 48 57 k71 = pst ftp T 48 57 k3 ∧ y72 = vlS ftp k3 (k71 - k3)) → ∀ (H : Heap) (locs : List Loc), va_P (dC, dI) vwCl [(h0, .inr (11, [.ref st, .int (nI N), .int (nI B), .ref rp, .int vrs, .int vrb, .int vhs, .int vca, .int vxs, .int vxb, .ref tp, .int (nI T), .int vfa, .int vbr, .int vba, .int (nI k71), .int (nI k3), .int vtk, .int y72, .ref cu, .ref lt, .ref od, .ref th, .ref be, .ref ln, .int (nI S), .ref ma, .int (nI M), .ref ah, .ref bh, .ref ik, .ref la, .ref lg, .ref ce, .int vto])), (tp, .inl (G 0, 320, .inl ftp))] H → va_D A [(h0, .inr (11, [.ref st, .int (nI N), .int (nI B), .ref rp, .int vrs, .int vrb, .int vhs, .int vca, .int vxs, .int vxb, .ref tp, .int (nI T), .int vfa, .int vbr, .int vba, .int (nI k71), .int (nI k3), .int vtk, .int y72, .ref cu, .ref lt, .ref od, .ref th, .ref be, .ref ln, .int (nI S), .ref ma, .int (nI M), .ref ah, .ref bh, .ref ik, .ref la, .ref lg, .ref ce, .int vto])), (tp, .inl (G 0, 320, .inl ftp))] → va_S A s.heap H locs → ∀ (ls : Array Slot), lv_has ls 2 [(1, .int (ftp k3)), (0, .ref h0)] → W p l e (headSpec (Cond.code yX11_goesOn cX11_goesOn 2 none :: GT) ({ frames := 1, cells := 0, slots := 0, locals := 25 } : Room)).room s m ([.ref h0] : List Value).toArray below meth c H locs 0 0 (MQ below (va_Qv (fun (u : Int32 × Int32 × Nat × Nat × Int32 × Int32) => match u with | (obr, oba, osp, ohe, otk, ova) => 0 ≤ obr.toInt ∧ (vbr.toInt = 0 ∨ obr.toInt = vbr.toInt) ∧ nsp ≤ osp ∧ osp ≤ T ∧ ohe ≤ osp ∧ (0 < vbr.toInt ∨ otk.toInt = 0 ∨ nsp < osp) ∧ (obr, oba, osp, ohe, otk, ova) = gOn ftp T vbr vba nsp nhe vtk vva) (fun (u : Int32 × Int32 × Nat × Nat × Int32 × Int32) (t : State) => match u with | (obr, oba, osp, ohe, otk, ova) => va_P (dC, dI) vwCl [(h0, .inr (11, [.ref st, .int (nI N), .int (nI B), .ref rp, .int vrs, .int vrb, .int vhs, .int vca, .int vxs, .int vxb, .ref tp, .int (nI T), .int vfa, .int obr, .int oba, .int (nI osp), .int (nI ohe), .int otk, .int ova, .ref cu, .ref lt, .ref od, .ref th, .ref be, .ref ln, .int (nI S), .ref ma, .int (nI M), .ref ah, .ref bh, .ref ik, .ref la, .ref lg, .ref ce, .int vto])), (tp, .inl (G 0, 320, .inl ftp))] t.heap ∧ va_D A [(h0, .inr (11, [.ref st, .int (nI N), .int (nI B), .ref rp, .int vrs, .int vrb, .int vhs, .int vca, .int vxs, .int vxb, .ref tp, .int (nI T), .int vfa, .int obr, .int oba, .int (nI osp), .int (nI ohe), .int otk, .int ova, .ref cu, .ref lt, .ref od, .ref th, .ref be, .ref ln, .int (nI S), .ref ma, .int (nI M), .ref ah, .ref bh, .ref ik, .ref la, .ref lg, .ref ce, .int vto])), (tp, .inl (G 0, 320, .inl ftp))]) A) ([.ref h0] : List Value).toArray s 0 0 A) (F0 m 140 ls []) := by
                              intro nf
                              induction nf with
                              | zero => intro k71 y72 h1; exact absurd h1 (Nat.not_lt_zero _)
                              | succ nf ih140_73 =>
                                intro k71 y72 hm74 hinvc H locs hP hD hS ls hl
                                refine lv_aload_n hx hb dX11_goesOn_140 rfl (lv_at hl 1 rfl) ?_
                                refine lv_aload_n hx hb dX11_goesOn_141 rfl (lv_at hl 1 rfl) ?_
                                refine va_get (D := (dC, dI)) (ci := 11) (v := .int (nI k71)) (C := RX11) (T := TX11) (N := 35) hx hb hg inG11 hown hK.1 hP 0 rfl rfl 15 (Nat.le_of_ble_eq_true rfl) (hg _ wt_893) (fun _ h9 => h9) rfl dX11_goesOn_142 ?_
                                have hPc := hP.sub (ws' := [(h0, .inr (11, [.ref st, .int (nI N), .int (nI B), .ref rp, .int vrs, .int vrb, .int vhs, .int vca, .int vxs, .int vxb, .ref tp, .int (nI T), .int vfa, .int vbr, .int vba, .int (nI k71), .int (nI k3), .int vtk, .int y72, .ref cu, .ref lt, .ref od, .ref th, .ref be, .ref ln, .int (nI S), .ref ma, .int (nI M), .ref ah, .ref bh, .ref ik, .ref la, .ref lg, .ref ce, .int vto])), (tp, .inl (G 0, 320, .inl ftp))]) [0, 1] rfl
                                have tn1278_ : nIT k71 := fun _ => nI_toInt (by first | omega | (have t_c1 := leI c1; have t_hinva := hinva; have t_w71 := w71; have t_c8 := neI c8; have t_w101 := w101; have t_c11 := neI c11; have t_b15 := b15; have t_b25 := b25; have t_w271 := w271; have t_c30 := neI c30; have t_n67 := n67; have t_w691 := w691; have t_hinvc := hinvc; have : ((-4) : Int32).toInt = -4 := qI_m4; have : (0 : Int32).toInt = 0 := qI_0; have : (1 : Int32).toInt = 1 := qI_1; have : (32 : Int32).toInt = 32 := qI_32; omega))
                                refine va_calli (va_runV (As := [.int (nI k71)]) (rest := []) ⟨hx, hb, hml, hown, hg⟩ (c_X11_byteAt l dC dI G _ h0 k71 st N B rp tp T cu lt od th be ln S ma M ah bh ik la lg ce vrs vrb vhs vca vxs vxb vfa vbr vba (nI k71) (nI k3) vtk y72 vto ftp hN hB_ hT_ hS0 hM_ (by first | omega | (have t_c1 := leI c1; have t_hinva := hinva; have t_w71 := w71; have t_c8 := neI c8; have t_w101 := w101; have t_c11 := neI c11; have t_b15 := b15; have t_b25 := b25; have t_w271 := w271; have t_c30 := neI c30; have t_n67 := n67; have t_w691 := w691; have t_hinvc := hinvc; have : ((-4) : Int32).toInt = -4 := qI_m4; have : (0 : Int32).toInt = 0 := qI_0; have : (1 : Int32).toInt = 1 := qI_1; have : (32 : Int32).toInt = 32 := qI_32; have t_n0 : (nI N).toInt = (N : Int) := tn1261_ (); have t_n1 : (nI B).toInt = (B : Int) := tn1262_ (); have t_n2 : (nI T).toInt = (T : Int) := tn1263_ (); have t_n3 : (nI nsp).toInt = (nsp : Int) := tn1266_ (); have t_n4 : (nI nhe).toInt = (nhe : Int) := tn1267_ (); have t_n5 : (nI S).toInt = (S : Int) := tn1264_ (); have t_n6 : (nI M).toInt = (M : Int) := tn1265_ (); have t_n7 : (nI k3).toInt = (k3 : Int) := tn1268_ (); have t_n8 : (nI k71).toInt = (k71 : Int) := tn1278_ (); omega))) (kwV hg mfX11_byteAt wt_1003 ⟨Nat.le_of_ble_eq_true rfl, Nat.le_of_ble_eq_true rfl⟩) (preVR hK hPc (ci := 11) rfl rfl) rfl rfl hl.1 rfl (lv_room (Nat.le_of_ble_eq_true rfl)) dX11_goesOn_145 ⟨Nat.le_of_ble_eq_true rfl, Nat.le_of_ble_eq_true rfl⟩) hS (fun q h1 h2 => absurd h2 (Nat.not_le.mpr h1)) (fun q h => hA q (Nat.le_trans hS.1 h)) (fun r75 ur75 t H1 locs ht hvm w76 hB hz1 hk1 hS => ?_)
                                have hP := keepR hP hk1
                                obtain ⟨w76, w76x⟩ := w76
                                rcases w76 with ⟨w761, w762⟩ | ⟨w761, w762⟩
                                · skip
                                  refine lv_cg (y := ftp k71) w762 ?_
                                  refine lv_i2l (v := (ftp k71).toInt64) hx hb dX11_goesOn_148 rfl ?_
                                  refine lv_ldc2 (v := 48) hx hb hown (hg _ wt_1009) dX11_goesOn_149 ?_
                                  refine lv_ldc2 (v := 57) hx hb hown (hg _ wt_1010) dX11_goesOn_152 ?_
                                  have hPc := hP.sub (ws' := []) [] rfl
                                  refine va_calli (va_runS (As := [.long ((ftp k71).toInt64), .long 48, .long 57]) (rest := []) ⟨hx, hb, hml, hown, hg⟩ (c_X11_in l dC dI G _ ((ftp k71).toInt64) 48 57) (kwS hg mfX11_in wt_992 ⟨Nat.le_of_ble_eq_true rfl, Nat.le_of_ble_eq_true rfl⟩) (preSR hK hPc) rfl rfl hl.1 rfl (lv_room (Nat.le_of_ble_eq_true rfl)) dX11_goesOn_155 ⟨Nat.le_of_ble_eq_true rfl, Nat.le_of_ble_eq_true rfl⟩) hS (fun q h1 h2 => absurd h2 (Nat.not_le.mpr h1)) (fun q h => hA q (Nat.le_trans hS.1 h)) (fun r77 ur77 t H1 locs ht hvm w78 hB hz1 hk1 hS => ?_)
                                  have hP := keepR hP hk1
                                  obtain ⟨w78, w78x⟩ := w78
                                  try simp only [l_ii, show (48 : Int64).toInt = 48 from by decide, show (57 : Int64).toInt = 57 from by decide] at w78
                                  subst w78
                                  refine lv_if_eq (tgt := 217) hx hb dX11_goesOn_158 rfl (fun c79 => ?_) (fun c79 => ?_)
                                  · skip
                                    have b80 := if10_n c79
                                    refine lv_aload_n hx hb dX11_goesOn_217 rfl (lv_at hl 1 rfl) ?_
                                    refine lv_iconst (v := 2) hx hb dX11_goesOn_218 rfl ?_
                                    refine va_put (D := (dC, dI)) (ci := 11) (v := .int 2) (ty := .int) (C := RX11) (T := TX11) (N := 35) hx hb hg inG11 tyX11 tyX11_ok nmX11 hown hK.1 hP hD hS 0 rfl rfl 17 (Nat.le_of_ble_eq_true rfl) (hg _ wt_895) (fun _ h9 => h9) rfl (by decide +kernel) rfl rfl (Nat.le_of_ble_eq_true rfl) dX11_goesOn_219 (fun H locs hP hD hS => ?_)
                                    refine lv_aload_n hx hb dX11_goesOn_222 rfl (lv_at hl 1 rfl) ?_
                                    refine va_get (D := (dC, dI)) (ci := 11) (v := .int (nI k71)) (C := RX11) (T := TX11) (N := 35) hx hb hg inG11 hown hK.1 hP 0 rfl rfl 15 (Nat.le_of_ble_eq_true rfl) (hg _ wt_893) (fun _ h9 => h9) rfl dX11_goesOn_223 ?_
                                    refine lv_aload_n hx hb dX11_goesOn_226 rfl (lv_at hl 1 rfl) ?_
                                    refine va_get (D := (dC, dI)) (ci := 11) (v := .int (nI k3)) (C := RX11) (T := TX11) (N := 35) hx hb hg inG11 hown hK.1 hP 0 rfl rfl 16 (Nat.le_of_ble_eq_true rfl) (hg _ wt_894) (fun _ h9 => h9) rfl dX11_goesOn_227 ?_
                                    refine lv_isub hx hb dX11_goesOn_230 ?_
                                    refine lv_cg (y := nI (k71 - k3)) (by exact pk_sub (by have t_c1 := leI c1; have t_hinva := hinva; have t_w71 := w71; have t_c8 := neI c8; have t_w101 := w101; have t_c11 := neI c11; have t_b15 := b15; have t_b25 := b25; have t_w271 := w271; have t_c30 := neI c30; have t_n67 := n67; have t_w691 := w691; have t_hinvc := hinvc; have t_w761 := w761; have t_b80 := b80; have : ((-4) : Int32).toInt = -4 := qI_m4; have : (0 : Int32).toInt = 0 := qI_0; have : (1 : Int32).toInt = 1 := qI_1; have : (32 : Int32).toInt = 32 := qI_32; have t_n0 : (nI N).toInt = (N : Int) := tn1261_ (); have t_n1 : (nI B).toInt = (B : Int) := tn1262_ (); have t_n2 : (nI T).toInt = (T : Int) := tn1263_ (); have t_n3 : (nI nsp).toInt = (nsp : Int) := tn1266_ (); have t_n4 : (nI nhe).toInt = (nhe : Int) := tn1267_ (); have t_n5 : (nI S).toInt = (S : Int) := tn1264_ (); have t_n6 : (nI M).toInt = (M : Int) := tn1265_ (); have t_n7 : (nI k3).toInt = (k3 : Int) := tn1268_ (); have t_n8 : (nI k71).toInt = (k71 : Int) := tn1278_ (); omega)) ?_
                                    refine lv_iconst (v := 2) hx hb dX11_goesOn_231 rfl ?_
                                    refine lv_icmp_le (tgt := 269) hx hb dX11_goesOn_232 rfl (fun c81 => ?_) (fun c81 => ?_)
                                    · skip
                                      have tn1279_ : nIT (k71 - k3) := fun _ => nI_toInt (by first | omega | (have t := leI c81; omega))
                                      have n82 : (k71 - k3) ≤ 2 := by have t := leI c81; rw [show (nI (k71 - k3)).toInt = ((k71 - k3 : Nat) : Int) from tn1279_ ()] at t; have : (2 : Int32).toInt = 2 := qI_2; omega
                                      obtain ⟨hP9, hD9⟩ := va_sub2 (ws' := [(h0, .inr (11, [.ref st, .int (nI N), .int (nI B), .ref rp, .int vrs, .int vrb, .int vhs, .int vca, .int vxs, .int vxb, .ref tp, .int (nI T), .int vfa, .int vbr, .int vba, .int (nI k71), .int (nI k3), .int 2, .int y72, .ref cu, .ref lt, .ref od, .ref th, .ref be, .ref ln, .int (nI S), .ref ma, .int (nI M), .ref ah, .ref bh, .ref ik, .ref la, .ref lg, .ref ce, .int vto])), (tp, .inl (G 0, 320, .inl ftp))]) hP hD [0, 1] (by decide) rfl
                                      refine W.widen (k := 0) (n := 0) (Nat.le_of_ble_eq_true rfl) (Nat.le_of_ble_eq_true rfl) ?_
                                      exact W.vret hx hb hr (fun t ht hW => ⟨⟨(vbr, vba, k71, k3, 2, y72), rfl, (by have t_c1 := leI c1; have t_hinva := hinva; have t_w71 := w71; have t_c8 := neI c8; have t_w101 := w101; have t_c11 := neI c11; have t_b15 := b15; have t_b25 := b25; have t_w271 := w271; have t_c30 := neI c30; have t_n67 := n67; have t_w691 := w691; have t_hinvc := hinvc; have t_w761 := w761; have t_b80 := b80; have t_n82 := n82; have : ((-4) : Int32).toInt = -4 := qI_m4; have : (0 : Int32).toInt = 0 := qI_0; have : (1 : Int32).toInt = 1 := qI_1; have : (32 : Int32).toInt = 32 := qI_32; have t_n0 : (nI N).toInt = (N : Int) := tn1261_ (); have t_n1 : (nI B).toInt = (B : Int) := tn1262_ (); have t_n2 : (nI T).toInt = (T : Int) := tn1263_ (); have t_n3 : (nI nsp).toInt = (nsp : Int) := tn1266_ (); have t_n4 : (nI nhe).toInt = (nhe : Int) := tn1267_ (); have t_n5 : (nI S).toInt = (S : Int) := tn1264_ (); have t_n6 : (nI M).toInt = (M : Int) := tn1265_ (); have t_n7 : (nI k3).toInt = (k3 : Int) := tn1268_ (); have t_n8 : (nI k71).toInt = (k71 : Int) := tn1278_ (); have z0 : (0 : Int32).toInt = 0 := qI_0; have z1 : (1 : Int32).toInt = 1 := qI_1; have z2 : (2 : Int32).toInt = 2 := qI_2; have z3 : (3 : Int32).toInt = 3 := qI_3; have z5 : (5 : Int32).toInt = 5 := qI_5; have z9 : (9 : Int32).toInt = 9 := qI_9; have hb8 := htb k3; first | (exfalso; omega) | skip; refine ⟨by omega, ?_, by omega, by omega, by omega, ?_, ?_⟩; (first | exact Or.inr rfl | exact Or.inl (by omega)); omega; (have ea : pst ftp T 32 32 nsp = k3 := hinva.2.2.symm.trans (pst_out (by omega)); unfold gOn; rw [if_neg (by omega), ea]; unfold gOn1; rw [if_neg (by omega), if_neg (by omega), if_pos (by omega), hinvc.2.2.1.symm.trans (pst_out (by omega)), hinvc.2.2.2]; first | rw [if_pos (by omega)] | rw [if_neg (by omega)])), ⟨by rw [ht]; exact hP9, hD9⟩⟩, hS.F ht⟩) hS.2.2 dX11_goesOn_269
                                    · skip
                                      have tn1280_ : nIT (k71 - k3) := fun _ => nI_toInt (by first | omega | (have t := nleI c81; omega))
                                      have n83 : 2 < (k71 - k3) := by have t := nleI c81; rw [show (nI (k71 - k3)).toInt = ((k71 - k3 : Nat) : Int) from tn1280_ ()] at t; have : (2 : Int32).toInt = 2 := qI_2; omega
                                      refine lv_aload_n hx hb dX11_goesOn_235 rfl (lv_at hl 1 rfl) ?_
                                      refine lv_iconst (v := 1) hx hb dX11_goesOn_236 rfl ?_
                                      obtain ⟨hPc, hDc, hFc⟩ := va_sub3 (ws' := [(h0, .inr (11, [.ref st, .int (nI N), .int (nI B), .ref rp, .int vrs, .int vrb, .int vhs, .int vca, .int vxs, .int vxb, .ref tp, .int (nI T), .int vfa, .int vbr, .int vba, .int (nI k71), .int (nI k3), .int 2, .int y72, .ref cu, .ref lt, .ref od, .ref th, .ref be, .ref ln, .int (nI S), .ref ma, .int (nI M), .ref ah, .ref bh, .ref ik, .ref la, .ref lg, .ref ce, .int vto]))]) hP hD hS hA [0] (by decide) rfl
                                      refine va_callv (va_runV (As := [.int 1]) (rest := []) ⟨hx, hb, hml, hown, hg⟩ (c_X11_failsE l dC dI G _ h0 st N B rp tp T k3 cu lt od th be ln S ma M ah bh ik la lg ce 1 vrs vrb vhs vca vxs vxb vfa vbr vba (nI k71) 2 y72 vto hN hB_ hT_ hS0 hM_ (by have t_c1 := leI c1; have t_hinva := hinva; have t_w71 := w71; have t_c8 := neI c8; have t_w101 := w101; have t_c11 := neI c11; have t_b15 := b15; have t_b25 := b25; have t_w271 := w271; have t_c30 := neI c30; have t_n67 := n67; have t_w691 := w691; have t_hinvc := hinvc; have t_w761 := w761; have t_b80 := b80; have t_n83 := n83; have : ((-4) : Int32).toInt = -4 := qI_m4; have : (0 : Int32).toInt = 0 := qI_0; have : (1 : Int32).toInt = 1 := qI_1; have : (32 : Int32).toInt = 32 := qI_32; have t_n0 : (nI N).toInt = (N : Int) := tn1261_ (); have t_n1 : (nI B).toInt = (B : Int) := tn1262_ (); have t_n2 : (nI T).toInt = (T : Int) := tn1263_ (); have t_n3 : (nI nsp).toInt = (nsp : Int) := tn1266_ (); have t_n4 : (nI nhe).toInt = (nhe : Int) := tn1267_ (); have t_n5 : (nI S).toInt = (S : Int) := tn1264_ (); have t_n6 : (nI M).toInt = (M : Int) := tn1265_ (); have t_n7 : (nI k3).toInt = (k3 : Int) := tn1268_ (); have t_n8 : (nI k71).toInt = (k71 : Int) := tn1278_ (); have : (1 : Int32).toInt = 1 := qI_1; omega) hbr (by first | omega | (have t_c1 := leI c1; have t_hinva := hinva; have t_w71 := w71; have t_c8 := neI c8; have t_w101 := w101; have t_c11 := neI c11; have t_b15 := b15; have t_b25 := b25; have t_w271 := w271; have t_c30 := neI c30; have t_n67 := n67; have t_w691 := w691; have t_hinvc := hinvc; have t_w761 := w761; have t_b80 := b80; have t_n83 := n83; have : ((-4) : Int32).toInt = -4 := qI_m4; have : (0 : Int32).toInt = 0 := qI_0; have : (1 : Int32).toInt = 1 := qI_1; have : (32 : Int32).toInt = 32 := qI_32; have t_n0 : (nI N).toInt = (N : Int) := tn1261_ (); have t_n1 : (nI B).toInt = (B : Int) := tn1262_ (); have t_n2 : (nI T).toInt = (T : Int) := tn1263_ (); have t_n3 : (nI nsp).toInt = (nsp : Int) := tn1266_ (); have t_n4 : (nI nhe).toInt = (nhe : Int) := tn1267_ (); have t_n5 : (nI S).toInt = (S : Int) := tn1264_ (); have t_n6 : (nI M).toInt = (M : Int) := tn1265_ (); have t_n7 : (nI k3).toInt = (k3 : Int) := tn1268_ (); have t_n8 : (nI k71).toInt = (k71 : Int) := tn1278_ (); have : (1 : Int32).toInt = 1 := qI_1; omega))) (kwV hg mfX11_fails wt_1011 ⟨Nat.le_of_ble_eq_true rfl, Nat.le_of_ble_eq_true rfl⟩) (preVW hK hPc hDc (ci := 11) rfl rfl) rfl rfl hl.1 rfl (lv_room (Nat.le_of_ble_eq_true rfl)) dX11_goesOn_237 ⟨Nat.le_of_ble_eq_true rfl, Nat.le_of_ble_eq_true rfl⟩) hS (fun q _ h => hFc q h) hFc (fun ur84 t H1 locs ht hvm w85 hB hz1 hk1 hS => ?_)
                                      obtain ⟨u86, u87⟩ := ur84
                                      obtain ⟨hP1, hD1⟩ := hB
                                      rw [ht] at hP1
                                      obtain ⟨hP, hD⟩ := va_join (wr := [(tp, .inl (G 0, 320, .inl ftp))]) (w1 := [(h0, .inr (11, [.ref st, .int (nI N), .int (nI B), .ref rp, .int vrs, .int vrb, .int vhs, .int vca, .int vxs, .int vxb, .ref tp, .int (nI T), .int vfa, .int u86, .int u87, .int (nI k71), .int (nI k3), .int 2, .int y72, .ref cu, .ref lt, .ref od, .ref th, .ref be, .ref ln, .int (nI S), .ref ma, .int (nI M), .ref ah, .ref bh, .ref ik, .ref la, .ref lg, .ref ce, .int vto]))]) hP hD [0] [1] rfl rfl (by decide) (by decide) hk1 hFc hP1 hD1
                                      have w85 : 0 < u86.toInt ∧ u86 = flB (1 : Int32) vbr ∧ u87 = flA vbr vba k3 := w85
                                      generalize H1 = H at hP hS ⊢
                                      refine lv_goto (tgt := 269) hx hb dX11_goesOn_240 rfl ?_
                                      obtain ⟨hP9, hD9⟩ := va_sub2 (ws' := [(h0, .inr (11, [.ref st, .int (nI N), .int (nI B), .ref rp, .int vrs, .int vrb, .int vhs, .int vca, .int vxs, .int vxb, .ref tp, .int (nI T), .int vfa, .int u86, .int u87, .int (nI k71), .int (nI k3), .int 2, .int y72, .ref cu, .ref lt, .ref od, .ref th, .ref be, .ref ln, .int (nI S), .ref ma, .int (nI M), .ref ah, .ref bh, .ref ik, .ref la, .ref lg, .ref ce, .int vto])), (tp, .inl (G 0, 320, .inl ftp))]) hP hD [1, 0] (by decide) rfl
                                      refine W.widen (k := 0) (n := 0) (Nat.le_of_ble_eq_true rfl) (Nat.le_of_ble_eq_true rfl) ?_
                                      exact W.vret hx hb hr (fun t ht hW => ⟨⟨(u86, u87, k71, k3, 2, y72), rfl, (by have t_c1 := leI c1; have t_hinva := hinva; have t_w71 := w71; have t_c8 := neI c8; have t_w101 := w101; have t_c11 := neI c11; have t_b15 := b15; have t_b25 := b25; have t_w271 := w271; have t_c30 := neI c30; have t_n67 := n67; have t_w691 := w691; have t_hinvc := hinvc; have t_w761 := w761; have t_b80 := b80; have t_n83 := n83; have t_w85 := w85.1; have : ((-4) : Int32).toInt = -4 := qI_m4; have : (0 : Int32).toInt = 0 := qI_0; have : (1 : Int32).toInt = 1 := qI_1; have : (32 : Int32).toInt = 32 := qI_32; have t_n0 : (nI N).toInt = (N : Int) := tn1261_ (); have t_n1 : (nI B).toInt = (B : Int) := tn1262_ (); have t_n2 : (nI T).toInt = (T : Int) := tn1263_ (); have t_n3 : (nI nsp).toInt = (nsp : Int) := tn1266_ (); have t_n4 : (nI nhe).toInt = (nhe : Int) := tn1267_ (); have t_n5 : (nI S).toInt = (S : Int) := tn1264_ (); have t_n6 : (nI M).toInt = (M : Int) := tn1265_ (); have t_n7 : (nI k3).toInt = (k3 : Int) := tn1268_ (); have t_n8 : (nI k71).toInt = (k71 : Int) := tn1278_ (); have z0 : (0 : Int32).toInt = 0 := qI_0; have z1 : (1 : Int32).toInt = 1 := qI_1; have z2 : (2 : Int32).toInt = 2 := qI_2; have z3 : (3 : Int32).toInt = 3 := qI_3; have z5 : (5 : Int32).toInt = 5 := qI_5; have z9 : (9 : Int32).toInt = 9 := qI_9; have hb8 := htb k3; first | (exfalso; omega) | skip; refine ⟨by omega, ?_, by omega, by omega, by omega, ?_, ?_⟩; (first | exact Or.inr rfl | exact Or.inl (by omega)); omega; (have ea : pst ftp T 32 32 nsp = k3 := hinva.2.2.symm.trans (pst_out (by omega)); unfold gOn; rw [if_neg (by omega), ea]; unfold gOn1; have q1 := w85.2.1; have q2 := w85.2.2; rw [q1, q2]; rw [if_neg (by omega), if_neg (by omega), if_pos (by omega), hinvc.2.2.1.symm.trans (pst_out (by omega)), hinvc.2.2.2]; first | rw [if_pos (by omega)] | rw [if_neg (by omega)])), ⟨by rw [ht]; exact hP9, hD9⟩⟩, hS.F ht⟩) hS.2.2 dX11_goesOn_269
                                  · skip
                                    have b88 := if10_p c79
                                    refine lv_aload_n hx hb dX11_goesOn_161 rfl (lv_at hl 1 rfl) ?_
                                    refine lv_aload_n hx hb dX11_goesOn_162 rfl (lv_at hl 1 rfl) ?_
                                    refine va_get (D := (dC, dI)) (ci := 11) (v := .int (nI k71)) (C := RX11) (T := TX11) (N := 35) hx hb hg inG11 hown hK.1 hP 0 rfl rfl 15 (Nat.le_of_ble_eq_true rfl) (hg _ wt_893) (fun _ h9 => h9) rfl dX11_goesOn_163 ?_
                                    refine lv_aload_n hx hb dX11_goesOn_166 rfl (lv_at hl 1 rfl) ?_
                                    refine va_get (D := (dC, dI)) (ci := 11) (v := .int (nI k3)) (C := RX11) (T := TX11) (N := 35) hx hb hg inG11 hown hK.1 hP 0 rfl rfl 16 (Nat.le_of_ble_eq_true rfl) (hg _ wt_894) (fun _ h9 => h9) rfl dX11_goesOn_167 ?_
                                    refine lv_isub hx hb dX11_goesOn_170 ?_
                                    refine lv_cg (y := nI (k71 - k3)) (by exact pk_sub (by have t_c1 := leI c1; have t_hinva := hinva; have t_w71 := w71; have t_c8 := neI c8; have t_w101 := w101; have t_c11 := neI c11; have t_b15 := b15; have t_b25 := b25; have t_w271 := w271; have t_c30 := neI c30; have t_n67 := n67; have t_w691 := w691; have t_hinvc := hinvc; have t_w761 := w761; have t_b88 := b88; have : ((-4) : Int32).toInt = -4 := qI_m4; have : (0 : Int32).toInt = 0 := qI_0; have : (1 : Int32).toInt = 1 := qI_1; have : (32 : Int32).toInt = 32 := qI_32; have t_n0 : (nI N).toInt = (N : Int) := tn1261_ (); have t_n1 : (nI B).toInt = (B : Int) := tn1262_ (); have t_n2 : (nI T).toInt = (T : Int) := tn1263_ (); have t_n3 : (nI nsp).toInt = (nsp : Int) := tn1266_ (); have t_n4 : (nI nhe).toInt = (nhe : Int) := tn1267_ (); have t_n5 : (nI S).toInt = (S : Int) := tn1264_ (); have t_n6 : (nI M).toInt = (M : Int) := tn1265_ (); have t_n7 : (nI k3).toInt = (k3 : Int) := tn1268_ (); have t_n8 : (nI k71).toInt = (k71 : Int) := tn1278_ (); omega)) ?_
                                    refine lv_iconst (v := 2) hx hb dX11_goesOn_171 rfl ?_
                                    refine lv_icmp_ge (tgt := 197) hx hb dX11_goesOn_172 rfl (fun c89 => ?_) (fun c89 => ?_)
                                    · skip
                                      have tn1281_ : nIT (k71 - k3) := fun _ => nI_toInt (by first | omega | (have t := leI c89; omega))
                                      have n90 : 2 ≤ (k71 - k3) := by have t := leI c89; rw [show (nI (k71 - k3)).toInt = ((k71 - k3 : Nat) : Int) from tn1281_ ()] at t; have : (2 : Int32).toInt = 2 := qI_2; omega
                                      refine lv_aload_n hx hb dX11_goesOn_197 rfl (lv_at hl 1 rfl) ?_
                                      refine va_get (D := (dC, dI)) (ci := 11) (v := .int y72) (C := RX11) (T := TX11) (N := 35) hx hb hg inG11 hown hK.1 hP 0 rfl rfl 18 (Nat.le_of_ble_eq_true rfl) (hg _ wt_896) (fun _ h9 => h9) rfl dX11_goesOn_198 ?_
                                      refine va_put (D := (dC, dI)) (ci := 11) (v := .int y72) (ty := .int) (C := RX11) (T := TX11) (N := 35) hx hb hg inG11 tyX11 tyX11_ok nmX11 hown hK.1 hP hD hS 0 rfl rfl 18 (Nat.le_of_ble_eq_true rfl) (hg _ wt_896) (fun _ h9 => h9) rfl (by decide +kernel) rfl rfl (Nat.le_of_ble_eq_true rfl) dX11_goesOn_201 (fun H locs hP hD hS => ?_)
                                      refine lv_aload_n hx hb dX11_goesOn_204 rfl (lv_at hl 1 rfl) ?_
                                      refine lv_dup hx hb dX11_goesOn_205 rfl ?_
                                      refine va_get (D := (dC, dI)) (ci := 11) (v := .int (nI k71)) (C := RX11) (T := TX11) (N := 35) hx hb hg inG11 hown hK.1 hP 0 rfl rfl 15 (Nat.le_of_ble_eq_true rfl) (hg _ wt_893) (fun _ h9 => h9) rfl dX11_goesOn_206 ?_
                                      refine lv_iconst (v := 1) hx hb dX11_goesOn_209 rfl ?_
                                      refine lv_iadd hx hb dX11_goesOn_210 ?_
                                      refine lv_cg (y := nI (k71 + 1)) (by rw [show (1 : Int32) = nI 1 from rfl]; exact nI_add _ _) ?_
                                      refine va_put (D := (dC, dI)) (ci := 11) (v := .int (nI (k71 + 1))) (ty := .int) (C := RX11) (T := TX11) (N := 35) hx hb hg inG11 tyX11 tyX11_ok nmX11 hown hK.1 hP hD hS 0 rfl rfl 15 (Nat.le_of_ble_eq_true rfl) (hg _ wt_893) (fun _ h9 => h9) rfl (by decide +kernel) rfl rfl (Nat.le_of_ble_eq_true rfl) dX11_goesOn_211 (fun H locs hP hD hS => ?_)
                                      refine lv_goto (tgt := 140) hx hb dX11_goesOn_214 rfl ?_
                                      exact ih140_73 (k71 + 1) y72 (by have t_c1 := leI c1; have t_hinva := hinva; have t_w71 := w71; have t_c8 := neI c8; have t_w101 := w101; have t_c11 := neI c11; have t_b15 := b15; have t_b25 := b25; have t_w271 := w271; have t_c30 := neI c30; have t_n67 := n67; have t_w691 := w691; have t_hinvc := hinvc; have t_w761 := w761; have t_b88 := b88; have t_n90 := n90; have : ((-4) : Int32).toInt = -4 := qI_m4; have : (0 : Int32).toInt = 0 := qI_0; have : (1 : Int32).toInt = 1 := qI_1; have : (32 : Int32).toInt = 32 := qI_32; have t_n0 : (nI N).toInt = (N : Int) := tn1261_ (); have t_n1 : (nI B).toInt = (B : Int) := tn1262_ (); have t_n2 : (nI T).toInt = (T : Int) := tn1263_ (); have t_n3 : (nI nsp).toInt = (nsp : Int) := tn1266_ (); have t_n4 : (nI nhe).toInt = (nhe : Int) := tn1267_ (); have t_n5 : (nI S).toInt = (S : Int) := tn1264_ (); have t_n6 : (nI M).toInt = (M : Int) := tn1265_ (); have t_n7 : (nI k3).toInt = (k3 : Int) := tn1268_ (); have t_n8 : (nI k71).toInt = (k71 : Int) := tn1278_ (); omega) ⟨(by have t_c1 := leI c1; have t_hinva := hinva; have t_w71 := w71; have t_c8 := neI c8; have t_w101 := w101; have t_c11 := neI c11; have t_b15 := b15; have t_b25 := b25; have t_w271 := w271; have t_c30 := neI c30; have t_n67 := n67; have t_w691 := w691; have t_hinvc := hinvc; have t_w761 := w761; have t_b88 := b88; have t_n90 := n90; have : ((-4) : Int32).toInt = -4 := qI_m4; have : (0 : Int32).toInt = 0 := qI_0; have : (1 : Int32).toInt = 1 := qI_1; have : (32 : Int32).toInt = 32 := qI_32; have t_n0 : (nI N).toInt = (N : Int) := tn1261_ (); have t_n1 : (nI B).toInt = (B : Int) := tn1262_ (); have t_n2 : (nI T).toInt = (T : Int) := tn1263_ (); have t_n3 : (nI nsp).toInt = (nsp : Int) := tn1266_ (); have t_n4 : (nI nhe).toInt = (nhe : Int) := tn1267_ (); have t_n5 : (nI S).toInt = (S : Int) := tn1264_ (); have t_n6 : (nI M).toInt = (M : Int) := tn1265_ (); have t_n7 : (nI k3).toInt = (k3 : Int) := tn1268_ (); have t_n8 : (nI k71).toInt = (k71 : Int) := tn1278_ (); have z0 : (0 : Int32).toInt = 0 := qI_0; have z1 : (1 : Int32).toInt = 1 := qI_1; have z2 : (2 : Int32).toInt = 2 := qI_2; have z3 : (3 : Int32).toInt = 3 := qI_3; have z5 : (5 : Int32).toInt = 5 := qI_5; have z9 : (9 : Int32).toInt = 9 := qI_9; omega), (by have t_c1 := leI c1; have t_hinva := hinva; have t_w71 := w71; have t_c8 := neI c8; have t_w101 := w101; have t_c11 := neI c11; have t_b15 := b15; have t_b25 := b25; have t_w271 := w271; have t_c30 := neI c30; have t_n67 := n67; have t_w691 := w691; have t_hinvc := hinvc; have t_w761 := w761; have t_b88 := b88; have t_n90 := n90; have : ((-4) : Int32).toInt = -4 := qI_m4; have : (0 : Int32).toInt = 0 := qI_0; have : (1 : Int32).toInt = 1 := qI_1; have : (32 : Int32).toInt = 32 := qI_32; have t_n0 : (nI N).toInt = (N : Int) := tn1261_ (); have t_n1 : (nI B).toInt = (B : Int) := tn1262_ (); have t_n2 : (nI T).toInt = (T : Int) := tn1263_ (); have t_n3 : (nI nsp).toInt = (nsp : Int) := tn1266_ (); have t_n4 : (nI nhe).toInt = (nhe : Int) := tn1267_ (); have t_n5 : (nI S).toInt = (S : Int) := tn1264_ (); have t_n6 : (nI M).toInt = (M : Int) := tn1265_ (); have t_n7 : (nI k3).toInt = (k3 : Int) := tn1268_ (); have t_n8 : (nI k71).toInt = (k71 : Int) := tn1278_ (); have z0 : (0 : Int32).toInt = 0 := qI_0; have z1 : (1 : Int32).toInt = 1 := qI_1; have z2 : (2 : Int32).toInt = 2 := qI_2; have z3 : (3 : Int32).toInt = 3 := qI_3; have z5 : (5 : Int32).toInt = 5 := qI_5; have z9 : (9 : Int32).toInt = 9 := qI_9; omega), (pst_in (p := k71) (by have t_c1 := leI c1; have t_hinva := hinva; have t_w71 := w71; have t_c8 := neI c8; have t_w101 := w101; have t_c11 := neI c11; have t_b15 := b15; have t_b25 := b25; have t_w271 := w271; have t_c30 := neI c30; have t_n67 := n67; have t_w691 := w691; have t_hinvc := hinvc; have t_w761 := w761; have t_b88 := b88; have t_n90 := n90; have : ((-4) : Int32).toInt = -4 := qI_m4; have : (0 : Int32).toInt = 0 := qI_0; have : (1 : Int32).toInt = 1 := qI_1; have : (32 : Int32).toInt = 32 := qI_32; have t_n0 : (nI N).toInt = (N : Int) := tn1261_ (); have t_n1 : (nI B).toInt = (B : Int) := tn1262_ (); have t_n2 : (nI T).toInt = (T : Int) := tn1263_ (); have t_n3 : (nI nsp).toInt = (nsp : Int) := tn1266_ (); have t_n4 : (nI nhe).toInt = (nhe : Int) := tn1267_ (); have t_n5 : (nI S).toInt = (S : Int) := tn1264_ (); have t_n6 : (nI M).toInt = (M : Int) := tn1265_ (); have t_n7 : (nI k3).toInt = (k3 : Int) := tn1268_ (); have t_n8 : (nI k71).toInt = (k71 : Int) := tn1278_ (); have z0 : (0 : Int32).toInt = 0 := qI_0; have z1 : (1 : Int32).toInt = 1 := qI_1; have z2 : (2 : Int32).toInt = 2 := qI_2; have z3 : (3 : Int32).toInt = 3 := qI_3; have z5 : (5 : Int32).toInt = 5 := qI_5; have z9 : (9 : Int32).toInt = 9 := qI_9; omega) (by have t_c1 := leI c1; have t_hinva := hinva; have t_w71 := w71; have t_c8 := neI c8; have t_w101 := w101; have t_c11 := neI c11; have t_b15 := b15; have t_b25 := b25; have t_w271 := w271; have t_c30 := neI c30; have t_n67 := n67; have t_w691 := w691; have t_hinvc := hinvc; have t_w761 := w761; have t_b88 := b88; have t_n90 := n90; have : ((-4) : Int32).toInt = -4 := qI_m4; have : (0 : Int32).toInt = 0 := qI_0; have : (1 : Int32).toInt = 1 := qI_1; have : (32 : Int32).toInt = 32 := qI_32; have t_n0 : (nI N).toInt = (N : Int) := tn1261_ (); have t_n1 : (nI B).toInt = (B : Int) := tn1262_ (); have t_n2 : (nI T).toInt = (T : Int) := tn1263_ (); have t_n3 : (nI nsp).toInt = (nsp : Int) := tn1266_ (); have t_n4 : (nI nhe).toInt = (nhe : Int) := tn1267_ (); have t_n5 : (nI S).toInt = (S : Int) := tn1264_ (); have t_n6 : (nI M).toInt = (M : Int) := tn1265_ (); have t_n7 : (nI k3).toInt = (k3 : Int) := tn1268_ (); have t_n8 : (nI k71).toInt = (k71 : Int) := tn1278_ (); have z0 : (0 : Int32).toInt = 0 := qI_0; have z1 : (1 : Int32).toInt = 1 := qI_1; have z2 : (2 : Int32).toInt = 2 := qI_2; have z3 : (3 : Int32).toInt = 3 := qI_3; have z5 : (5 : Int32).toInt = 5 := qI_5; have z9 : (9 : Int32).toInt = 9 := qI_9; omega) (by have t_c1 := leI c1; have t_hinva := hinva; have t_w71 := w71; have t_c8 := neI c8; have t_w101 := w101; have t_c11 := neI c11; have t_b15 := b15; have t_b25 := b25; have t_w271 := w271; have t_c30 := neI c30; have t_n67 := n67; have t_w691 := w691; have t_hinvc := hinvc; have t_w761 := w761; have t_b88 := b88; have t_n90 := n90; have : ((-4) : Int32).toInt = -4 := qI_m4; have : (0 : Int32).toInt = 0 := qI_0; have : (1 : Int32).toInt = 1 := qI_1; have : (32 : Int32).toInt = 32 := qI_32; have t_n0 : (nI N).toInt = (N : Int) := tn1261_ (); have t_n1 : (nI B).toInt = (B : Int) := tn1262_ (); have t_n2 : (nI T).toInt = (T : Int) := tn1263_ (); have t_n3 : (nI nsp).toInt = (nsp : Int) := tn1266_ (); have t_n4 : (nI nhe).toInt = (nhe : Int) := tn1267_ (); have t_n5 : (nI S).toInt = (S : Int) := tn1264_ (); have t_n6 : (nI M).toInt = (M : Int) := tn1265_ (); have t_n7 : (nI k3).toInt = (k3 : Int) := tn1268_ (); have t_n8 : (nI k71).toInt = (k71 : Int) := tn1278_ (); have z0 : (0 : Int32).toInt = 0 := qI_0; have z1 : (1 : Int32).toInt = 1 := qI_1; have z2 : (2 : Int32).toInt = 2 := qI_2; have z3 : (3 : Int32).toInt = 3 := qI_3; have z5 : (5 : Int32).toInt = 5 := qI_5; have z9 : (9 : Int32).toInt = 9 := qI_9; omega)).symm.trans hinvc.2.2.1, (by have t_c1 := leI c1; have t_hinva := hinva; have t_w71 := w71; have t_c8 := neI c8; have t_w101 := w101; have t_c11 := neI c11; have t_b15 := b15; have t_b25 := b25; have t_w271 := w271; have t_c30 := neI c30; have t_n67 := n67; have t_w691 := w691; have t_hinvc := hinvc; have t_w761 := w761; have t_b88 := b88; have t_n90 := n90; have : ((-4) : Int32).toInt = -4 := qI_m4; have : (0 : Int32).toInt = 0 := qI_0; have : (1 : Int32).toInt = 1 := qI_1; have : (32 : Int32).toInt = 32 := qI_32; have t_n0 : (nI N).toInt = (N : Int) := tn1261_ (); have t_n1 : (nI B).toInt = (B : Int) := tn1262_ (); have t_n2 : (nI T).toInt = (T : Int) := tn1263_ (); have t_n3 : (nI nsp).toInt = (nsp : Int) := tn1266_ (); have t_n4 : (nI nhe).toInt = (nhe : Int) := tn1267_ (); have t_n5 : (nI S).toInt = (S : Int) := tn1264_ (); have t_n6 : (nI M).toInt = (M : Int) := tn1265_ (); have t_n7 : (nI k3).toInt = (k3 : Int) := tn1268_ (); have t_n8 : (nI k71).toInt = (k71 : Int) := tn1278_ (); rw [show (k71 + 1) - k3 = (k71 - k3) + 1 by omega]; show _ = (if k71 - k3 < 2 then 10 * vlS ftp k3 (k71 - k3) + ftp (k3 + (k71 - k3)) - 48 else vlS ftp k3 (k71 - k3)); rw [show k3 + (k71 - k3) = k71 by omega]; first | (exfalso; omega) | (rw [if_pos (by omega), ← hinvc.2.2.2]) | (rw [if_neg (by omega)]; exact hinvc.2.2.2))⟩ _ _ hP hD hS ls (lv_sub hl [0, 1] rfl)
                                    · skip
                                      have tn1282_ : nIT (k71 - k3) := fun _ => nI_toInt (by first | omega | (have t := nleI c89; omega))
                                      have n91 : (k71 - k3) < 2 := by have t := nleI c89; rw [show (nI (k71 - k3)).toInt = ((k71 - k3 : Nat) : Int) from tn1282_ ()] at t; have : (2 : Int32).toInt = 2 := qI_2; omega
                                      refine lv_bipush (v := 10) hx hb dX11_goesOn_175 rfl ?_
                                      refine lv_aload_n hx hb dX11_goesOn_177 rfl (lv_at hl 1 rfl) ?_
                                      refine va_get (D := (dC, dI)) (ci := 11) (v := .int y72) (C := RX11) (T := TX11) (N := 35) hx hb hg inG11 hown hK.1 hP 0 rfl rfl 18 (Nat.le_of_ble_eq_true rfl) (hg _ wt_896) (fun _ h9 => h9) rfl dX11_goesOn_178 ?_
                                      refine lv_imul hx hb dX11_goesOn_181 ?_
                                      refine lv_aload_n hx hb dX11_goesOn_182 rfl (lv_at hl 1 rfl) ?_
                                      refine lv_aload_n hx hb dX11_goesOn_183 rfl (lv_at hl 1 rfl) ?_
                                      refine va_get (D := (dC, dI)) (ci := 11) (v := .int (nI k71)) (C := RX11) (T := TX11) (N := 35) hx hb hg inG11 hown hK.1 hP 0 rfl rfl 15 (Nat.le_of_ble_eq_true rfl) (hg _ wt_893) (fun _ h9 => h9) rfl dX11_goesOn_184 ?_
                                      have hPc := hP.sub (ws' := [(h0, .inr (11, [.ref st, .int (nI N), .int (nI B), .ref rp, .int vrs, .int vrb, .int vhs, .int vca, .int vxs, .int vxb, .ref tp, .int (nI T), .int vfa, .int vbr, .int vba, .int (nI k71), .int (nI k3), .int vtk, .int y72, .ref cu, .ref lt, .ref od, .ref th, .ref be, .ref ln, .int (nI S), .ref ma, .int (nI M), .ref ah, .ref bh, .ref ik, .ref la, .ref lg, .ref ce, .int vto])), (tp, .inl (G 0, 320, .inl ftp))]) [0, 1] rfl
                                      refine va_calli (va_runV (As := [.int (nI k71)]) (rest := [.int (10 * y72), .ref h0]) ⟨hx, hb, hml, hown, hg⟩ (c_X11_byteAt l dC dI G _ h0 k71 st N B rp tp T cu lt od th be ln S ma M ah bh ik la lg ce vrs vrb vhs vca vxs vxb vfa vbr vba (nI k71) (nI k3) vtk y72 vto ftp hN hB_ hT_ hS0 hM_ (by first | omega | (have t_c1 := leI c1; have t_hinva := hinva; have t_w71 := w71; have t_c8 := neI c8; have t_w101 := w101; have t_c11 := neI c11; have t_b15 := b15; have t_b25 := b25; have t_w271 := w271; have t_c30 := neI c30; have t_n67 := n67; have t_w691 := w691; have t_hinvc := hinvc; have t_w761 := w761; have t_b88 := b88; have t_n91 := n91; have : ((-4) : Int32).toInt = -4 := qI_m4; have : (0 : Int32).toInt = 0 := qI_0; have : (1 : Int32).toInt = 1 := qI_1; have : (32 : Int32).toInt = 32 := qI_32; have t_n0 : (nI N).toInt = (N : Int) := tn1261_ (); have t_n1 : (nI B).toInt = (B : Int) := tn1262_ (); have t_n2 : (nI T).toInt = (T : Int) := tn1263_ (); have t_n3 : (nI nsp).toInt = (nsp : Int) := tn1266_ (); have t_n4 : (nI nhe).toInt = (nhe : Int) := tn1267_ (); have t_n5 : (nI S).toInt = (S : Int) := tn1264_ (); have t_n6 : (nI M).toInt = (M : Int) := tn1265_ (); have t_n7 : (nI k3).toInt = (k3 : Int) := tn1268_ (); have t_n8 : (nI k71).toInt = (k71 : Int) := tn1278_ (); omega))) (kwV hg mfX11_byteAt wt_1003 ⟨Nat.le_of_ble_eq_true rfl, Nat.le_of_ble_eq_true rfl⟩) (preVR hK hPc (ci := 11) rfl rfl) rfl rfl hl.1 rfl (lv_room (Nat.le_of_ble_eq_true rfl)) dX11_goesOn_187 ⟨Nat.le_of_ble_eq_true rfl, Nat.le_of_ble_eq_true rfl⟩) hS (fun q h1 h2 => absurd h2 (Nat.not_le.mpr h1)) (fun q h => hA q (Nat.le_trans hS.1 h)) (fun r92 ur92 t H1 locs ht hvm w93 hB hz1 hk1 hS => ?_)
                                      have hP := keepR hP hk1
                                      obtain ⟨w93, w93x⟩ := w93
                                      rcases w93 with ⟨w931, w932⟩ | ⟨w931, w932⟩
                                      · skip
                                        refine lv_cg (y := ftp k71) w932 ?_
                                        refine lv_iadd hx hb dX11_goesOn_190 ?_
                                        refine lv_bipush (v := 48) hx hb dX11_goesOn_191 rfl ?_
                                        refine lv_isub hx hb dX11_goesOn_193 ?_
                                        refine lv_goto (tgt := 201) hx hb dX11_goesOn_194 rfl ?_
                                        refine va_put (D := (dC, dI)) (ci := 11) (v := .int (((10 * y72) + (ftp k71)) - 48)) (ty := .int) (C := RX11) (T := TX11) (N := 35) hx hb hg inG11 tyX11 tyX11_ok nmX11 hown hK.1 hP hD hS 0 rfl rfl 18 (Nat.le_of_ble_eq_true rfl) (hg _ wt_896) (fun _ h9 => h9) rfl (by decide +kernel) rfl rfl (Nat.le_of_ble_eq_true rfl) dX11_goesOn_201 (fun H locs hP hD hS => ?_)
                                        refine lv_aload_n hx hb dX11_goesOn_204 rfl (lv_at hl 1 rfl) ?_
                                        refine lv_dup hx hb dX11_goesOn_205 rfl ?_
                                        refine va_get (D := (dC, dI)) (ci := 11) (v := .int (nI k71)) (C := RX11) (T := TX11) (N := 35) hx hb hg inG11 hown hK.1 hP 0 rfl rfl 15 (Nat.le_of_ble_eq_true rfl) (hg _ wt_893) (fun _ h9 => h9) rfl dX11_goesOn_206 ?_
                                        refine lv_iconst (v := 1) hx hb dX11_goesOn_209 rfl ?_
                                        refine lv_iadd hx hb dX11_goesOn_210 ?_
                                        refine lv_cg (y := nI (k71 + 1)) (by rw [show (1 : Int32) = nI 1 from rfl]; exact nI_add _ _) ?_
                                        refine va_put (D := (dC, dI)) (ci := 11) (v := .int (nI (k71 + 1))) (ty := .int) (C := RX11) (T := TX11) (N := 35) hx hb hg inG11 tyX11 tyX11_ok nmX11 hown hK.1 hP hD hS 0 rfl rfl 15 (Nat.le_of_ble_eq_true rfl) (hg _ wt_893) (fun _ h9 => h9) rfl (by decide +kernel) rfl rfl (Nat.le_of_ble_eq_true rfl) dX11_goesOn_211 (fun H locs hP hD hS => ?_)
                                        refine lv_goto (tgt := 140) hx hb dX11_goesOn_214 rfl ?_
                                        exact ih140_73 (k71 + 1) (((10 * y72) + (ftp k71)) - 48) (by have t_c1 := leI c1; have t_hinva := hinva; have t_w71 := w71; have t_c8 := neI c8; have t_w101 := w101; have t_c11 := neI c11; have t_b15 := b15; have t_b25 := b25; have t_w271 := w271; have t_c30 := neI c30; have t_n67 := n67; have t_w691 := w691; have t_hinvc := hinvc; have t_w761 := w761; have t_b88 := b88; have t_n91 := n91; have t_w931 := w931; have : ((-4) : Int32).toInt = -4 := qI_m4; have : (0 : Int32).toInt = 0 := qI_0; have : (1 : Int32).toInt = 1 := qI_1; have : (32 : Int32).toInt = 32 := qI_32; have t_n0 : (nI N).toInt = (N : Int) := tn1261_ (); have t_n1 : (nI B).toInt = (B : Int) := tn1262_ (); have t_n2 : (nI T).toInt = (T : Int) := tn1263_ (); have t_n3 : (nI nsp).toInt = (nsp : Int) := tn1266_ (); have t_n4 : (nI nhe).toInt = (nhe : Int) := tn1267_ (); have t_n5 : (nI S).toInt = (S : Int) := tn1264_ (); have t_n6 : (nI M).toInt = (M : Int) := tn1265_ (); have t_n7 : (nI k3).toInt = (k3 : Int) := tn1268_ (); have t_n8 : (nI k71).toInt = (k71 : Int) := tn1278_ (); omega) ⟨(by have t_c1 := leI c1; have t_hinva := hinva; have t_w71 := w71; have t_c8 := neI c8; have t_w101 := w101; have t_c11 := neI c11; have t_b15 := b15; have t_b25 := b25; have t_w271 := w271; have t_c30 := neI c30; have t_n67 := n67; have t_w691 := w691; have t_hinvc := hinvc; have t_w761 := w761; have t_b88 := b88; have t_n91 := n91; have t_w931 := w931; have : ((-4) : Int32).toInt = -4 := qI_m4; have : (0 : Int32).toInt = 0 := qI_0; have : (1 : Int32).toInt = 1 := qI_1; have : (32 : Int32).toInt = 32 := qI_32; have t_n0 : (nI N).toInt = (N : Int) := tn1261_ (); have t_n1 : (nI B).toInt = (B : Int) := tn1262_ (); have t_n2 : (nI T).toInt = (T : Int) := tn1263_ (); have t_n3 : (nI nsp).toInt = (nsp : Int) := tn1266_ (); have t_n4 : (nI nhe).toInt = (nhe : Int) := tn1267_ (); have t_n5 : (nI S).toInt = (S : Int) := tn1264_ (); have t_n6 : (nI M).toInt = (M : Int) := tn1265_ (); have t_n7 : (nI k3).toInt = (k3 : Int) := tn1268_ (); have t_n8 : (nI k71).toInt = (k71 : Int) := tn1278_ (); have z0 : (0 : Int32).toInt = 0 := qI_0; have z1 : (1 : Int32).toInt = 1 := qI_1; have z2 : (2 : Int32).toInt = 2 := qI_2; have z3 : (3 : Int32).toInt = 3 := qI_3; have z5 : (5 : Int32).toInt = 5 := qI_5; have z9 : (9 : Int32).toInt = 9 := qI_9; omega), (by have t_c1 := leI c1; have t_hinva := hinva; have t_w71 := w71; have t_c8 := neI c8; have t_w101 := w101; have t_c11 := neI c11; have t_b15 := b15; have t_b25 := b25; have t_w271 := w271; have t_c30 := neI c30; have t_n67 := n67; have t_w691 := w691; have t_hinvc := hinvc; have t_w761 := w761; have t_b88 := b88; have t_n91 := n91; have t_w931 := w931; have : ((-4) : Int32).toInt = -4 := qI_m4; have : (0 : Int32).toInt = 0 := qI_0; have : (1 : Int32).toInt = 1 := qI_1; have : (32 : Int32).toInt = 32 := qI_32; have t_n0 : (nI N).toInt = (N : Int) := tn1261_ (); have t_n1 : (nI B).toInt = (B : Int) := tn1262_ (); have t_n2 : (nI T).toInt = (T : Int) := tn1263_ (); have t_n3 : (nI nsp).toInt = (nsp : Int) := tn1266_ (); have t_n4 : (nI nhe).toInt = (nhe : Int) := tn1267_ (); have t_n5 : (nI S).toInt = (S : Int) := tn1264_ (); have t_n6 : (nI M).toInt = (M : Int) := tn1265_ (); have t_n7 : (nI k3).toInt = (k3 : Int) := tn1268_ (); have t_n8 : (nI k71).toInt = (k71 : Int) := tn1278_ (); have z0 : (0 : Int32).toInt = 0 := qI_0; have z1 : (1 : Int32).toInt = 1 := qI_1; have z2 : (2 : Int32).toInt = 2 := qI_2; have z3 : (3 : Int32).toInt = 3 := qI_3; have z5 : (5 : Int32).toInt = 5 := qI_5; have z9 : (9 : Int32).toInt = 9 := qI_9; omega), (pst_in (p := k71) (by have t_c1 := leI c1; have t_hinva := hinva; have t_w71 := w71; have t_c8 := neI c8; have t_w101 := w101; have t_c11 := neI c11; have t_b15 := b15; have t_b25 := b25; have t_w271 := w271; have t_c30 := neI c30; have t_n67 := n67; have t_w691 := w691; have t_hinvc := hinvc; have t_w761 := w761; have t_b88 := b88; have t_n91 := n91; have t_w931 := w931; have : ((-4) : Int32).toInt = -4 := qI_m4; have : (0 : Int32).toInt = 0 := qI_0; have : (1 : Int32).toInt = 1 := qI_1; have : (32 : Int32).toInt = 32 := qI_32; have t_n0 : (nI N).toInt = (N : Int) := tn1261_ (); have t_n1 : (nI B).toInt = (B : Int) := tn1262_ (); have t_n2 : (nI T).toInt = (T : Int) := tn1263_ (); have t_n3 : (nI nsp).toInt = (nsp : Int) := tn1266_ (); have t_n4 : (nI nhe).toInt = (nhe : Int) := tn1267_ (); have t_n5 : (nI S).toInt = (S : Int) := tn1264_ (); have t_n6 : (nI M).toInt = (M : Int) := tn1265_ (); have t_n7 : (nI k3).toInt = (k3 : Int) := tn1268_ (); have t_n8 : (nI k71).toInt = (k71 : Int) := tn1278_ (); have z0 : (0 : Int32).toInt = 0 := qI_0; have z1 : (1 : Int32).toInt = 1 := qI_1; have z2 : (2 : Int32).toInt = 2 := qI_2; have z3 : (3 : Int32).toInt = 3 := qI_3; have z5 : (5 : Int32).toInt = 5 := qI_5; have z9 : (9 : Int32).toInt = 9 := qI_9; omega) (by have t_c1 := leI c1; have t_hinva := hinva; have t_w71 := w71; have t_c8 := neI c8; have t_w101 := w101; have t_c11 := neI c11; have t_b15 := b15; have t_b25 := b25; have t_w271 := w271; have t_c30 := neI c30; have t_n67 := n67; have t_w691 := w691; have t_hinvc := hinvc; have t_w761 := w761; have t_b88 := b88; have t_n91 := n91; have t_w931 := w931; have : ((-4) : Int32).toInt = -4 := qI_m4; have : (0 : Int32).toInt = 0 := qI_0; have : (1 : Int32).toInt = 1 := qI_1; have : (32 : Int32).toInt = 32 := qI_32; have t_n0 : (nI N).toInt = (N : Int) := tn1261_ (); have t_n1 : (nI B).toInt = (B : Int) := tn1262_ (); have t_n2 : (nI T).toInt = (T : Int) := tn1263_ (); have t_n3 : (nI nsp).toInt = (nsp : Int) := tn1266_ (); have t_n4 : (nI nhe).toInt = (nhe : Int) := tn1267_ (); have t_n5 : (nI S).toInt = (S : Int) := tn1264_ (); have t_n6 : (nI M).toInt = (M : Int) := tn1265_ (); have t_n7 : (nI k3).toInt = (k3 : Int) := tn1268_ (); have t_n8 : (nI k71).toInt = (k71 : Int) := tn1278_ (); have z0 : (0 : Int32).toInt = 0 := qI_0; have z1 : (1 : Int32).toInt = 1 := qI_1; have z2 : (2 : Int32).toInt = 2 := qI_2; have z3 : (3 : Int32).toInt = 3 := qI_3; have z5 : (5 : Int32).toInt = 5 := qI_5; have z9 : (9 : Int32).toInt = 9 := qI_9; omega) (by have t_c1 := leI c1; have t_hinva := hinva; have t_w71 := w71; have t_c8 := neI c8; have t_w101 := w101; have t_c11 := neI c11; have t_b15 := b15; have t_b25 := b25; have t_w271 := w271; have t_c30 := neI c30; have t_n67 := n67; have t_w691 := w691; have t_hinvc := hinvc; have t_w761 := w761; have t_b88 := b88; have t_n91 := n91; have t_w931 := w931; have : ((-4) : Int32).toInt = -4 := qI_m4; have : (0 : Int32).toInt = 0 := qI_0; have : (1 : Int32).toInt = 1 := qI_1; have : (32 : Int32).toInt = 32 := qI_32; have t_n0 : (nI N).toInt = (N : Int) := tn1261_ (); have t_n1 : (nI B).toInt = (B : Int) := tn1262_ (); have t_n2 : (nI T).toInt = (T : Int) := tn1263_ (); have t_n3 : (nI nsp).toInt = (nsp : Int) := tn1266_ (); have t_n4 : (nI nhe).toInt = (nhe : Int) := tn1267_ (); have t_n5 : (nI S).toInt = (S : Int) := tn1264_ (); have t_n6 : (nI M).toInt = (M : Int) := tn1265_ (); have t_n7 : (nI k3).toInt = (k3 : Int) := tn1268_ (); have t_n8 : (nI k71).toInt = (k71 : Int) := tn1278_ (); have z0 : (0 : Int32).toInt = 0 := qI_0; have z1 : (1 : Int32).toInt = 1 := qI_1; have z2 : (2 : Int32).toInt = 2 := qI_2; have z3 : (3 : Int32).toInt = 3 := qI_3; have z5 : (5 : Int32).toInt = 5 := qI_5; have z9 : (9 : Int32).toInt = 9 := qI_9; omega)).symm.trans hinvc.2.2.1, (by have t_c1 := leI c1; have t_hinva := hinva; have t_w71 := w71; have t_c8 := neI c8; have t_w101 := w101; have t_c11 := neI c11; have t_b15 := b15; have t_b25 := b25; have t_w271 := w271; have t_c30 := neI c30; have t_n67 := n67; have t_w691 := w691; have t_hinvc := hinvc; have t_w761 := w761; have t_b88 := b88; have t_n91 := n91; have t_w931 := w931; have : ((-4) : Int32).toInt = -4 := qI_m4; have : (0 : Int32).toInt = 0 := qI_0; have : (1 : Int32).toInt = 1 := qI_1; have : (32 : Int32).toInt = 32 := qI_32; have t_n0 : (nI N).toInt = (N : Int) := tn1261_ (); have t_n1 : (nI B).toInt = (B : Int) := tn1262_ (); have t_n2 : (nI T).toInt = (T : Int) := tn1263_ (); have t_n3 : (nI nsp).toInt = (nsp : Int) := tn1266_ (); have t_n4 : (nI nhe).toInt = (nhe : Int) := tn1267_ (); have t_n5 : (nI S).toInt = (S : Int) := tn1264_ (); have t_n6 : (nI M).toInt = (M : Int) := tn1265_ (); have t_n7 : (nI k3).toInt = (k3 : Int) := tn1268_ (); have t_n8 : (nI k71).toInt = (k71 : Int) := tn1278_ (); rw [show (k71 + 1) - k3 = (k71 - k3) + 1 by omega]; show _ = (if k71 - k3 < 2 then 10 * vlS ftp k3 (k71 - k3) + ftp (k3 + (k71 - k3)) - 48 else vlS ftp k3 (k71 - k3)); rw [show k3 + (k71 - k3) = k71 by omega]; first | (exfalso; omega) | (rw [if_pos (by omega), ← hinvc.2.2.2]) | (rw [if_neg (by omega)]; exact hinvc.2.2.2))⟩ _ _ hP hD hS ls (lv_sub hl [0, 1] rfl)
                                      · skip
                                        have t_c1 := leI c1
                                        have t_hinva := hinva
                                        have t_w71 := w71
                                        have t_c8 := neI c8
                                        have t_w101 := w101
                                        have t_c11 := neI c11
                                        have t_b15 := b15
                                        have t_b25 := b25
                                        have t_w271 := w271
                                        have t_c30 := neI c30
                                        have t_n67 := n67
                                        have t_w691 := w691
                                        have t_hinvc := hinvc
                                        have t_w761 := w761
                                        have t_b88 := b88
                                        have t_n91 := n91
                                        have t_w931 := w931
                                        have : ((-4) : Int32).toInt = -4 := qI_m4
                                        have : (0 : Int32).toInt = 0 := qI_0
                                        have : (1 : Int32).toInt = 1 := qI_1
                                        have : (32 : Int32).toInt = 32 := qI_32
                                        have t_n0 : (nI N).toInt = (N : Int) := tn1261_ ()
                                        have t_n1 : (nI B).toInt = (B : Int) := tn1262_ ()
                                        have t_n2 : (nI T).toInt = (T : Int) := tn1263_ ()
                                        have t_n3 : (nI nsp).toInt = (nsp : Int) := tn1266_ ()
                                        have t_n4 : (nI nhe).toInt = (nhe : Int) := tn1267_ ()
                                        have t_n5 : (nI S).toInt = (S : Int) := tn1264_ ()
                                        have t_n6 : (nI M).toInt = (M : Int) := tn1265_ ()
                                        have t_n7 : (nI k3).toInt = (k3 : Int) := tn1268_ ()
                                        have t_n8 : (nI k71).toInt = (k71 : Int) := tn1278_ ()
                                        exfalso; omega
                                · skip
                                  refine lv_cg (y := (-4)) w762 ?_
                                  refine lv_i2l (v := (-4)) hx hb dX11_goesOn_148 (by decide) ?_
                                  refine lv_ldc2 (v := 48) hx hb hown (hg _ wt_1009) dX11_goesOn_149 ?_
                                  refine lv_ldc2 (v := 57) hx hb hown (hg _ wt_1010) dX11_goesOn_152 ?_
                                  have hPc := hP.sub (ws' := []) [] rfl
                                  refine va_calli (va_runS (As := [.long (-4), .long 48, .long 57]) (rest := []) ⟨hx, hb, hml, hown, hg⟩ (c_X11_in l dC dI G _ (-4) 48 57) (kwS hg mfX11_in wt_992 ⟨Nat.le_of_ble_eq_true rfl, Nat.le_of_ble_eq_true rfl⟩) (preSR hK hPc) rfl rfl hl.1 rfl (lv_room (Nat.le_of_ble_eq_true rfl)) dX11_goesOn_155 ⟨Nat.le_of_ble_eq_true rfl, Nat.le_of_ble_eq_true rfl⟩) hS (fun q h1 h2 => absurd h2 (Nat.not_le.mpr h1)) (fun q h => hA q (Nat.le_trans hS.1 h)) (fun r94 ur94 t H1 locs ht hvm w95 hB hz1 hk1 hS => ?_)
                                  have hP := keepR hP hk1
                                  obtain ⟨w95, w95x⟩ := w95
                                  try simp only [l_ii, show (48 : Int64).toInt = 48 from by decide, show ((-4) : Int64).toInt = -4 from by decide, show (57 : Int64).toInt = 57 from by decide] at w95
                                  have w95 : r94 = 0 := w95.trans (if_neg (by have t_c1 := leI c1; have t_hinva := hinva; have t_w71 := w71; have t_c8 := neI c8; have t_w101 := w101; have t_c11 := neI c11; have t_b15 := b15; have t_b25 := b25; have t_w271 := w271; have t_c30 := neI c30; have t_n67 := n67; have t_w691 := w691; have t_hinvc := hinvc; have t_w761 := w761; have : ((-4) : Int32).toInt = -4 := qI_m4; have : (0 : Int32).toInt = 0 := qI_0; have : (1 : Int32).toInt = 1 := qI_1; have : (32 : Int32).toInt = 32 := qI_32; have t_n0 : (nI N).toInt = (N : Int) := tn1261_ (); have t_n1 : (nI B).toInt = (B : Int) := tn1262_ (); have t_n2 : (nI T).toInt = (T : Int) := tn1263_ (); have t_n3 : (nI nsp).toInt = (nsp : Int) := tn1266_ (); have t_n4 : (nI nhe).toInt = (nhe : Int) := tn1267_ (); have t_n5 : (nI S).toInt = (S : Int) := tn1264_ (); have t_n6 : (nI M).toInt = (M : Int) := tn1265_ (); have t_n7 : (nI k3).toInt = (k3 : Int) := tn1268_ (); have t_n8 : (nI k71).toInt = (k71 : Int) := tn1278_ (); omega))
                                  subst w95
                                  refine lv_if_eq (tgt := 217) hx hb dX11_goesOn_158 rfl (fun c96 => ?_) (fun c96 => ?_)
                                  · skip
                                    refine lv_aload_n hx hb dX11_goesOn_217 rfl (lv_at hl 1 rfl) ?_
                                    refine lv_iconst (v := 2) hx hb dX11_goesOn_218 rfl ?_
                                    refine va_put (D := (dC, dI)) (ci := 11) (v := .int 2) (ty := .int) (C := RX11) (T := TX11) (N := 35) hx hb hg inG11 tyX11 tyX11_ok nmX11 hown hK.1 hP hD hS 0 rfl rfl 17 (Nat.le_of_ble_eq_true rfl) (hg _ wt_895) (fun _ h9 => h9) rfl (by decide +kernel) rfl rfl (Nat.le_of_ble_eq_true rfl) dX11_goesOn_219 (fun H locs hP hD hS => ?_)
                                    refine lv_aload_n hx hb dX11_goesOn_222 rfl (lv_at hl 1 rfl) ?_
                                    refine va_get (D := (dC, dI)) (ci := 11) (v := .int (nI k71)) (C := RX11) (T := TX11) (N := 35) hx hb hg inG11 hown hK.1 hP 0 rfl rfl 15 (Nat.le_of_ble_eq_true rfl) (hg _ wt_893) (fun _ h9 => h9) rfl dX11_goesOn_223 ?_
                                    refine lv_aload_n hx hb dX11_goesOn_226 rfl (lv_at hl 1 rfl) ?_
                                    refine va_get (D := (dC, dI)) (ci := 11) (v := .int (nI k3)) (C := RX11) (T := TX11) (N := 35) hx hb hg inG11 hown hK.1 hP 0 rfl rfl 16 (Nat.le_of_ble_eq_true rfl) (hg _ wt_894) (fun _ h9 => h9) rfl dX11_goesOn_227 ?_
                                    refine lv_isub hx hb dX11_goesOn_230 ?_
                                    refine lv_cg (y := nI (k71 - k3)) (by exact pk_sub (by have t_c1 := leI c1; have t_hinva := hinva; have t_w71 := w71; have t_c8 := neI c8; have t_w101 := w101; have t_c11 := neI c11; have t_b15 := b15; have t_b25 := b25; have t_w271 := w271; have t_c30 := neI c30; have t_n67 := n67; have t_w691 := w691; have t_hinvc := hinvc; have t_w761 := w761; have t_c96 := eqI c96; have : ((-4) : Int32).toInt = -4 := qI_m4; have : (0 : Int32).toInt = 0 := qI_0; have : (1 : Int32).toInt = 1 := qI_1; have : (32 : Int32).toInt = 32 := qI_32; have t_n0 : (nI N).toInt = (N : Int) := tn1261_ (); have t_n1 : (nI B).toInt = (B : Int) := tn1262_ (); have t_n2 : (nI T).toInt = (T : Int) := tn1263_ (); have t_n3 : (nI nsp).toInt = (nsp : Int) := tn1266_ (); have t_n4 : (nI nhe).toInt = (nhe : Int) := tn1267_ (); have t_n5 : (nI S).toInt = (S : Int) := tn1264_ (); have t_n6 : (nI M).toInt = (M : Int) := tn1265_ (); have t_n7 : (nI k3).toInt = (k3 : Int) := tn1268_ (); have t_n8 : (nI k71).toInt = (k71 : Int) := tn1278_ (); omega)) ?_
                                    refine lv_iconst (v := 2) hx hb dX11_goesOn_231 rfl ?_
                                    refine lv_icmp_le (tgt := 269) hx hb dX11_goesOn_232 rfl (fun c97 => ?_) (fun c97 => ?_)
                                    · skip
                                      have tn1283_ : nIT (k71 - k3) := fun _ => nI_toInt (by first | omega | (have t := leI c97; omega))
                                      have n98 : (k71 - k3) ≤ 2 := by have t := leI c97; rw [show (nI (k71 - k3)).toInt = ((k71 - k3 : Nat) : Int) from tn1283_ ()] at t; have : (2 : Int32).toInt = 2 := qI_2; omega
                                      obtain ⟨hP9, hD9⟩ := va_sub2 (ws' := [(h0, .inr (11, [.ref st, .int (nI N), .int (nI B), .ref rp, .int vrs, .int vrb, .int vhs, .int vca, .int vxs, .int vxb, .ref tp, .int (nI T), .int vfa, .int vbr, .int vba, .int (nI k71), .int (nI k3), .int 2, .int y72, .ref cu, .ref lt, .ref od, .ref th, .ref be, .ref ln, .int (nI S), .ref ma, .int (nI M), .ref ah, .ref bh, .ref ik, .ref la, .ref lg, .ref ce, .int vto])), (tp, .inl (G 0, 320, .inl ftp))]) hP hD [0, 1] (by decide) rfl
                                      refine W.widen (k := 0) (n := 0) (Nat.le_of_ble_eq_true rfl) (Nat.le_of_ble_eq_true rfl) ?_
                                      exact W.vret hx hb hr (fun t ht hW => ⟨⟨(vbr, vba, k71, k3, 2, y72), rfl, (by have t_c1 := leI c1; have t_hinva := hinva; have t_w71 := w71; have t_c8 := neI c8; have t_w101 := w101; have t_c11 := neI c11; have t_b15 := b15; have t_b25 := b25; have t_w271 := w271; have t_c30 := neI c30; have t_n67 := n67; have t_w691 := w691; have t_hinvc := hinvc; have t_w761 := w761; have t_c96 := eqI c96; have t_n98 := n98; have : ((-4) : Int32).toInt = -4 := qI_m4; have : (0 : Int32).toInt = 0 := qI_0; have : (1 : Int32).toInt = 1 := qI_1; have : (32 : Int32).toInt = 32 := qI_32; have t_n0 : (nI N).toInt = (N : Int) := tn1261_ (); have t_n1 : (nI B).toInt = (B : Int) := tn1262_ (); have t_n2 : (nI T).toInt = (T : Int) := tn1263_ (); have t_n3 : (nI nsp).toInt = (nsp : Int) := tn1266_ (); have t_n4 : (nI nhe).toInt = (nhe : Int) := tn1267_ (); have t_n5 : (nI S).toInt = (S : Int) := tn1264_ (); have t_n6 : (nI M).toInt = (M : Int) := tn1265_ (); have t_n7 : (nI k3).toInt = (k3 : Int) := tn1268_ (); have t_n8 : (nI k71).toInt = (k71 : Int) := tn1278_ (); have z0 : (0 : Int32).toInt = 0 := qI_0; have z1 : (1 : Int32).toInt = 1 := qI_1; have z2 : (2 : Int32).toInt = 2 := qI_2; have z3 : (3 : Int32).toInt = 3 := qI_3; have z5 : (5 : Int32).toInt = 5 := qI_5; have z9 : (9 : Int32).toInt = 9 := qI_9; have hb8 := htb k3; first | (exfalso; omega) | skip; refine ⟨by omega, ?_, by omega, by omega, by omega, ?_, ?_⟩; (first | exact Or.inr rfl | exact Or.inl (by omega)); omega; (have ea : pst ftp T 32 32 nsp = k3 := hinva.2.2.symm.trans (pst_out (by omega)); unfold gOn; rw [if_neg (by omega), ea]; unfold gOn1; rw [if_neg (by omega), if_neg (by omega), if_pos (by omega), hinvc.2.2.1.symm.trans (pst_out (by omega)), hinvc.2.2.2]; first | rw [if_pos (by omega)] | rw [if_neg (by omega)])), ⟨by rw [ht]; exact hP9, hD9⟩⟩, hS.F ht⟩) hS.2.2 dX11_goesOn_269
                                    · skip
                                      have tn1284_ : nIT (k71 - k3) := fun _ => nI_toInt (by first | omega | (have t := nleI c97; omega))
                                      have n99 : 2 < (k71 - k3) := by have t := nleI c97; rw [show (nI (k71 - k3)).toInt = ((k71 - k3 : Nat) : Int) from tn1284_ ()] at t; have : (2 : Int32).toInt = 2 := qI_2; omega
                                      refine lv_aload_n hx hb dX11_goesOn_235 rfl (lv_at hl 1 rfl) ?_
                                      refine lv_iconst (v := 1) hx hb dX11_goesOn_236 rfl ?_
                                      obtain ⟨hPc, hDc, hFc⟩ := va_sub3 (ws' := [(h0, .inr (11, [.ref st, .int (nI N), .int (nI B), .ref rp, .int vrs, .int vrb, .int vhs, .int vca, .int vxs, .int vxb, .ref tp, .int (nI T), .int vfa, .int vbr, .int vba, .int (nI k71), .int (nI k3), .int 2, .int y72, .ref cu, .ref lt, .ref od, .ref th, .ref be, .ref ln, .int (nI S), .ref ma, .int (nI M), .ref ah, .ref bh, .ref ik, .ref la, .ref lg, .ref ce, .int vto]))]) hP hD hS hA [0] (by decide) rfl
                                      refine va_callv (va_runV (As := [.int 1]) (rest := []) ⟨hx, hb, hml, hown, hg⟩ (c_X11_failsE l dC dI G _ h0 st N B rp tp T k3 cu lt od th be ln S ma M ah bh ik la lg ce 1 vrs vrb vhs vca vxs vxb vfa vbr vba (nI k71) 2 y72 vto hN hB_ hT_ hS0 hM_ (by have t_c1 := leI c1; have t_hinva := hinva; have t_w71 := w71; have t_c8 := neI c8; have t_w101 := w101; have t_c11 := neI c11; have t_b15 := b15; have t_b25 := b25; have t_w271 := w271; have t_c30 := neI c30; have t_n67 := n67; have t_w691 := w691; have t_hinvc := hinvc; have t_w761 := w761; have t_c96 := eqI c96; have t_n99 := n99; have : ((-4) : Int32).toInt = -4 := qI_m4; have : (0 : Int32).toInt = 0 := qI_0; have : (1 : Int32).toInt = 1 := qI_1; have : (32 : Int32).toInt = 32 := qI_32; have t_n0 : (nI N).toInt = (N : Int) := tn1261_ (); have t_n1 : (nI B).toInt = (B : Int) := tn1262_ (); have t_n2 : (nI T).toInt = (T : Int) := tn1263_ (); have t_n3 : (nI nsp).toInt = (nsp : Int) := tn1266_ (); have t_n4 : (nI nhe).toInt = (nhe : Int) := tn1267_ (); have t_n5 : (nI S).toInt = (S : Int) := tn1264_ (); have t_n6 : (nI M).toInt = (M : Int) := tn1265_ (); have t_n7 : (nI k3).toInt = (k3 : Int) := tn1268_ (); have t_n8 : (nI k71).toInt = (k71 : Int) := tn1278_ (); have : (1 : Int32).toInt = 1 := qI_1; omega) hbr (by first | omega | (have t_c1 := leI c1; have t_hinva := hinva; have t_w71 := w71; have t_c8 := neI c8; have t_w101 := w101; have t_c11 := neI c11; have t_b15 := b15; have t_b25 := b25; have t_w271 := w271; have t_c30 := neI c30; have t_n67 := n67; have t_w691 := w691; have t_hinvc := hinvc; have t_w761 := w761; have t_c96 := eqI c96; have t_n99 := n99; have : ((-4) : Int32).toInt = -4 := qI_m4; have : (0 : Int32).toInt = 0 := qI_0; have : (1 : Int32).toInt = 1 := qI_1; have : (32 : Int32).toInt = 32 := qI_32; have t_n0 : (nI N).toInt = (N : Int) := tn1261_ (); have t_n1 : (nI B).toInt = (B : Int) := tn1262_ (); have t_n2 : (nI T).toInt = (T : Int) := tn1263_ (); have t_n3 : (nI nsp).toInt = (nsp : Int) := tn1266_ (); have t_n4 : (nI nhe).toInt = (nhe : Int) := tn1267_ (); have t_n5 : (nI S).toInt = (S : Int) := tn1264_ (); have t_n6 : (nI M).toInt = (M : Int) := tn1265_ (); have t_n7 : (nI k3).toInt = (k3 : Int) := tn1268_ (); have t_n8 : (nI k71).toInt = (k71 : Int) := tn1278_ (); have : (1 : Int32).toInt = 1 := qI_1; omega))) (kwV hg mfX11_fails wt_1011 ⟨Nat.le_of_ble_eq_true rfl, Nat.le_of_ble_eq_true rfl⟩) (preVW hK hPc hDc (ci := 11) rfl rfl) rfl rfl hl.1 rfl (lv_room (Nat.le_of_ble_eq_true rfl)) dX11_goesOn_237 ⟨Nat.le_of_ble_eq_true rfl, Nat.le_of_ble_eq_true rfl⟩) hS (fun q _ h => hFc q h) hFc (fun ur100 t H1 locs ht hvm w101 hB hz1 hk1 hS => ?_)
                                      obtain ⟨u102, u103⟩ := ur100
                                      obtain ⟨hP1, hD1⟩ := hB
                                      rw [ht] at hP1
                                      obtain ⟨hP, hD⟩ := va_join (wr := [(tp, .inl (G 0, 320, .inl ftp))]) (w1 := [(h0, .inr (11, [.ref st, .int (nI N), .int (nI B), .ref rp, .int vrs, .int vrb, .int vhs, .int vca, .int vxs, .int vxb, .ref tp, .int (nI T), .int vfa, .int u102, .int u103, .int (nI k71), .int (nI k3), .int 2, .int y72, .ref cu, .ref lt, .ref od, .ref th, .ref be, .ref ln, .int (nI S), .ref ma, .int (nI M), .ref ah, .ref bh, .ref ik, .ref la, .ref lg, .ref ce, .int vto]))]) hP hD [0] [1] rfl rfl (by decide) (by decide) hk1 hFc hP1 hD1
                                      have w101 : 0 < u102.toInt ∧ u102 = flB (1 : Int32) vbr ∧ u103 = flA vbr vba k3 := w101
                                      generalize H1 = H at hP hS ⊢
                                      refine lv_goto (tgt := 269) hx hb dX11_goesOn_240 rfl ?_
                                      obtain ⟨hP9, hD9⟩ := va_sub2 (ws' := [(h0, .inr (11, [.ref st, .int (nI N), .int (nI B), .ref rp, .int vrs, .int vrb, .int vhs, .int vca, .int vxs, .int vxb, .ref tp, .int (nI T), .int vfa, .int u102, .int u103, .int (nI k71), .int (nI k3), .int 2, .int y72, .ref cu, .ref lt, .ref od, .ref th, .ref be, .ref ln, .int (nI S), .ref ma, .int (nI M), .ref ah, .ref bh, .ref ik, .ref la, .ref lg, .ref ce, .int vto])), (tp, .inl (G 0, 320, .inl ftp))]) hP hD [1, 0] (by decide) rfl
                                      refine W.widen (k := 0) (n := 0) (Nat.le_of_ble_eq_true rfl) (Nat.le_of_ble_eq_true rfl) ?_
                                      exact W.vret hx hb hr (fun t ht hW => ⟨⟨(u102, u103, k71, k3, 2, y72), rfl, (by have t_c1 := leI c1; have t_hinva := hinva; have t_w71 := w71; have t_c8 := neI c8; have t_w101 := w101; have t_c11 := neI c11; have t_b15 := b15; have t_b25 := b25; have t_w271 := w271; have t_c30 := neI c30; have t_n67 := n67; have t_w691 := w691; have t_hinvc := hinvc; have t_w761 := w761; have t_c96 := eqI c96; have t_n99 := n99; have t_w101 := w101.1; have : ((-4) : Int32).toInt = -4 := qI_m4; have : (0 : Int32).toInt = 0 := qI_0; have : (1 : Int32).toInt = 1 := qI_1; have : (32 : Int32).toInt = 32 := qI_32; have t_n0 : (nI N).toInt = (N : Int) := tn1261_ (); have t_n1 : (nI B).toInt = (B : Int) := tn1262_ (); have t_n2 : (nI T).toInt = (T : Int) := tn1263_ (); have t_n3 : (nI nsp).toInt = (nsp : Int) := tn1266_ (); have t_n4 : (nI nhe).toInt = (nhe : Int) := tn1267_ (); have t_n5 : (nI S).toInt = (S : Int) := tn1264_ (); have t_n6 : (nI M).toInt = (M : Int) := tn1265_ (); have t_n7 : (nI k3).toInt = (k3 : Int) := tn1268_ (); have t_n8 : (nI k71).toInt = (k71 : Int) := tn1278_ (); have z0 : (0 : Int32).toInt = 0 := qI_0; have z1 : (1 : Int32).toInt = 1 := qI_1; have z2 : (2 : Int32).toInt = 2 := qI_2; have z3 : (3 : Int32).toInt = 3 := qI_3; have z5 : (5 : Int32).toInt = 5 := qI_5; have z9 : (9 : Int32).toInt = 9 := qI_9; have hb8 := htb k3; first | (exfalso; omega) | skip; refine ⟨by omega, ?_, by omega, by omega, by omega, ?_, ?_⟩; (first | exact Or.inr rfl | exact Or.inl (by omega)); omega; (have ea : pst ftp T 32 32 nsp = k3 := hinva.2.2.symm.trans (pst_out (by omega)); unfold gOn; rw [if_neg (by omega), ea]; unfold gOn1; have q1 := w101.2.1; have q2 := w101.2.2; rw [q1, q2]; rw [if_neg (by omega), if_neg (by omega), if_pos (by omega), hinvc.2.2.1.symm.trans (pst_out (by omega)), hinvc.2.2.2]; first | rw [if_pos (by omega)] | rw [if_neg (by omega)])), ⟨by rw [ht]; exact hP9, hD9⟩⟩, hS.F ht⟩) hS.2.2 dX11_goesOn_269
                                  · skip
                                    exact absurd c96 (by decide)
                            exact loop140_73 ((T - (k3 + 1)) + 1) (k3 + 1) ((0 + (ftp k3)) - 48) (Nat.lt_succ_self _) ⟨(by have t_c1 := leI c1; have t_hinva := hinva; have t_w71 := w71; have t_c8 := neI c8; have t_w101 := w101; have t_c11 := neI c11; have t_b15 := b15; have t_b25 := b25; have t_w271 := w271; have t_c30 := neI c30; have t_n67 := n67; have t_w691 := w691; have : ((-4) : Int32).toInt = -4 := qI_m4; have : (0 : Int32).toInt = 0 := qI_0; have : (1 : Int32).toInt = 1 := qI_1; have : (32 : Int32).toInt = 32 := qI_32; have t_n0 : (nI N).toInt = (N : Int) := tn1261_ (); have t_n1 : (nI B).toInt = (B : Int) := tn1262_ (); have t_n2 : (nI T).toInt = (T : Int) := tn1263_ (); have t_n3 : (nI nsp).toInt = (nsp : Int) := tn1266_ (); have t_n4 : (nI nhe).toInt = (nhe : Int) := tn1267_ (); have t_n5 : (nI S).toInt = (S : Int) := tn1264_ (); have t_n6 : (nI M).toInt = (M : Int) := tn1265_ (); have t_n7 : (nI k3).toInt = (k3 : Int) := tn1268_ (); have z0 : (0 : Int32).toInt = 0 := qI_0; have z1 : (1 : Int32).toInt = 1 := qI_1; have z2 : (2 : Int32).toInt = 2 := qI_2; have z3 : (3 : Int32).toInt = 3 := qI_3; have z5 : (5 : Int32).toInt = 5 := qI_5; have z9 : (9 : Int32).toInt = 9 := qI_9; omega), (by have t_c1 := leI c1; have t_hinva := hinva; have t_w71 := w71; have t_c8 := neI c8; have t_w101 := w101; have t_c11 := neI c11; have t_b15 := b15; have t_b25 := b25; have t_w271 := w271; have t_c30 := neI c30; have t_n67 := n67; have t_w691 := w691; have : ((-4) : Int32).toInt = -4 := qI_m4; have : (0 : Int32).toInt = 0 := qI_0; have : (1 : Int32).toInt = 1 := qI_1; have : (32 : Int32).toInt = 32 := qI_32; have t_n0 : (nI N).toInt = (N : Int) := tn1261_ (); have t_n1 : (nI B).toInt = (B : Int) := tn1262_ (); have t_n2 : (nI T).toInt = (T : Int) := tn1263_ (); have t_n3 : (nI nsp).toInt = (nsp : Int) := tn1266_ (); have t_n4 : (nI nhe).toInt = (nhe : Int) := tn1267_ (); have t_n5 : (nI S).toInt = (S : Int) := tn1264_ (); have t_n6 : (nI M).toInt = (M : Int) := tn1265_ (); have t_n7 : (nI k3).toInt = (k3 : Int) := tn1268_ (); have z0 : (0 : Int32).toInt = 0 := qI_0; have z1 : (1 : Int32).toInt = 1 := qI_1; have z2 : (2 : Int32).toInt = 2 := qI_2; have z3 : (3 : Int32).toInt = 3 := qI_3; have z5 : (5 : Int32).toInt = 5 := qI_5; have z9 : (9 : Int32).toInt = 9 := qI_9; omega), (pst_in (p := k3) (by have t_c1 := leI c1; have t_hinva := hinva; have t_w71 := w71; have t_c8 := neI c8; have t_w101 := w101; have t_c11 := neI c11; have t_b15 := b15; have t_b25 := b25; have t_w271 := w271; have t_c30 := neI c30; have t_n67 := n67; have t_w691 := w691; have : ((-4) : Int32).toInt = -4 := qI_m4; have : (0 : Int32).toInt = 0 := qI_0; have : (1 : Int32).toInt = 1 := qI_1; have : (32 : Int32).toInt = 32 := qI_32; have t_n0 : (nI N).toInt = (N : Int) := tn1261_ (); have t_n1 : (nI B).toInt = (B : Int) := tn1262_ (); have t_n2 : (nI T).toInt = (T : Int) := tn1263_ (); have t_n3 : (nI nsp).toInt = (nsp : Int) := tn1266_ (); have t_n4 : (nI nhe).toInt = (nhe : Int) := tn1267_ (); have t_n5 : (nI S).toInt = (S : Int) := tn1264_ (); have t_n6 : (nI M).toInt = (M : Int) := tn1265_ (); have t_n7 : (nI k3).toInt = (k3 : Int) := tn1268_ (); have z0 : (0 : Int32).toInt = 0 := qI_0; have z1 : (1 : Int32).toInt = 1 := qI_1; have z2 : (2 : Int32).toInt = 2 := qI_2; have z3 : (3 : Int32).toInt = 3 := qI_3; have z5 : (5 : Int32).toInt = 5 := qI_5; have z9 : (9 : Int32).toInt = 9 := qI_9; omega) (by have t_c1 := leI c1; have t_hinva := hinva; have t_w71 := w71; have t_c8 := neI c8; have t_w101 := w101; have t_c11 := neI c11; have t_b15 := b15; have t_b25 := b25; have t_w271 := w271; have t_c30 := neI c30; have t_n67 := n67; have t_w691 := w691; have : ((-4) : Int32).toInt = -4 := qI_m4; have : (0 : Int32).toInt = 0 := qI_0; have : (1 : Int32).toInt = 1 := qI_1; have : (32 : Int32).toInt = 32 := qI_32; have t_n0 : (nI N).toInt = (N : Int) := tn1261_ (); have t_n1 : (nI B).toInt = (B : Int) := tn1262_ (); have t_n2 : (nI T).toInt = (T : Int) := tn1263_ (); have t_n3 : (nI nsp).toInt = (nsp : Int) := tn1266_ (); have t_n4 : (nI nhe).toInt = (nhe : Int) := tn1267_ (); have t_n5 : (nI S).toInt = (S : Int) := tn1264_ (); have t_n6 : (nI M).toInt = (M : Int) := tn1265_ (); have t_n7 : (nI k3).toInt = (k3 : Int) := tn1268_ (); have z0 : (0 : Int32).toInt = 0 := qI_0; have z1 : (1 : Int32).toInt = 1 := qI_1; have z2 : (2 : Int32).toInt = 2 := qI_2; have z3 : (3 : Int32).toInt = 3 := qI_3; have z5 : (5 : Int32).toInt = 5 := qI_5; have z9 : (9 : Int32).toInt = 9 := qI_9; omega) (by have t_c1 := leI c1; have t_hinva := hinva; have t_w71 := w71; have t_c8 := neI c8; have t_w101 := w101; have t_c11 := neI c11; have t_b15 := b15; have t_b25 := b25; have t_w271 := w271; have t_c30 := neI c30; have t_n67 := n67; have t_w691 := w691; have : ((-4) : Int32).toInt = -4 := qI_m4; have : (0 : Int32).toInt = 0 := qI_0; have : (1 : Int32).toInt = 1 := qI_1; have : (32 : Int32).toInt = 32 := qI_32; have t_n0 : (nI N).toInt = (N : Int) := tn1261_ (); have t_n1 : (nI B).toInt = (B : Int) := tn1262_ (); have t_n2 : (nI T).toInt = (T : Int) := tn1263_ (); have t_n3 : (nI nsp).toInt = (nsp : Int) := tn1266_ (); have t_n4 : (nI nhe).toInt = (nhe : Int) := tn1267_ (); have t_n5 : (nI S).toInt = (S : Int) := tn1264_ (); have t_n6 : (nI M).toInt = (M : Int) := tn1265_ (); have t_n7 : (nI k3).toInt = (k3 : Int) := tn1268_ (); have z0 : (0 : Int32).toInt = 0 := qI_0; have z1 : (1 : Int32).toInt = 1 := qI_1; have z2 : (2 : Int32).toInt = 2 := qI_2; have z3 : (3 : Int32).toInt = 3 := qI_3; have z5 : (5 : Int32).toInt = 5 := qI_5; have z9 : (9 : Int32).toInt = 9 := qI_9; omega)).symm, (by have t_c1 := leI c1; have t_hinva := hinva; have t_w71 := w71; have t_c8 := neI c8; have t_w101 := w101; have t_c11 := neI c11; have t_b15 := b15; have t_b25 := b25; have t_w271 := w271; have t_c30 := neI c30; have t_n67 := n67; have t_w691 := w691; have : ((-4) : Int32).toInt = -4 := qI_m4; have : (0 : Int32).toInt = 0 := qI_0; have : (1 : Int32).toInt = 1 := qI_1; have : (32 : Int32).toInt = 32 := qI_32; have t_n0 : (nI N).toInt = (N : Int) := tn1261_ (); have t_n1 : (nI B).toInt = (B : Int) := tn1262_ (); have t_n2 : (nI T).toInt = (T : Int) := tn1263_ (); have t_n3 : (nI nsp).toInt = (nsp : Int) := tn1266_ (); have t_n4 : (nI nhe).toInt = (nhe : Int) := tn1267_ (); have t_n5 : (nI S).toInt = (S : Int) := tn1264_ (); have t_n6 : (nI M).toInt = (M : Int) := tn1265_ (); have t_n7 : (nI k3).toInt = (k3 : Int) := tn1268_ (); first | (exfalso; omega) | (rw [show ((k3 + 1)) - k3 = 1 by omega]; show _ = (if (0 : Nat) < 2 then 10 * (0 : Int32) + ftp (k3 + 0) - 48 else 0); rw [if_pos (by decide), show (10 : Int32) * 0 = 0 from by decide]; rfl))⟩ _ _ hP hD hS ls (lv_sub hl [0, 1] rfl)
                          · skip
                            have t_c1 := leI c1
                            have t_hinva := hinva
                            have t_w71 := w71
                            have t_c8 := neI c8
                            have t_w101 := w101
                            have t_c11 := neI c11
                            have t_b15 := b15
                            have t_b25 := b25
                            have t_w271 := w271
                            have t_c30 := neI c30
                            have t_n67 := n67
                            have t_w691 := w691
                            have : ((-4) : Int32).toInt = -4 := qI_m4
                            have : (0 : Int32).toInt = 0 := qI_0
                            have : (1 : Int32).toInt = 1 := qI_1
                            have : (32 : Int32).toInt = 32 := qI_32
                            have t_n0 : (nI N).toInt = (N : Int) := tn1261_ ()
                            have t_n1 : (nI B).toInt = (B : Int) := tn1262_ ()
                            have t_n2 : (nI T).toInt = (T : Int) := tn1263_ ()
                            have t_n3 : (nI nsp).toInt = (nsp : Int) := tn1266_ ()
                            have t_n4 : (nI nhe).toInt = (nhe : Int) := tn1267_ ()
                            have t_n5 : (nI S).toInt = (S : Int) := tn1264_ ()
                            have t_n6 : (nI M).toInt = (M : Int) := tn1265_ ()
                            have t_n7 : (nI k3).toInt = (k3 : Int) := tn1268_ ()
                            exfalso; omega
                    · skip
                      have t_c1 := leI c1
                      have t_hinva := hinva
                      have t_w71 := w71
                      have t_c8 := neI c8
                      have t_w101 := w101
                      have t_c11 := neI c11
                      have t_b15 := b15
                      have t_b25 := b25
                      have t_w271 := w271
                      have : ((-4) : Int32).toInt = -4 := qI_m4
                      have : (0 : Int32).toInt = 0 := qI_0
                      have : (32 : Int32).toInt = 32 := qI_32
                      have t_n0 : (nI N).toInt = (N : Int) := tn1261_ ()
                      have t_n1 : (nI B).toInt = (B : Int) := tn1262_ ()
                      have t_n2 : (nI T).toInt = (T : Int) := tn1263_ ()
                      have t_n3 : (nI nsp).toInt = (nsp : Int) := tn1266_ ()
                      have t_n4 : (nI nhe).toInt = (nhe : Int) := tn1267_ ()
                      have t_n5 : (nI S).toInt = (S : Int) := tn1264_ ()
                      have t_n6 : (nI M).toInt = (M : Int) := tn1265_ ()
                      have t_n7 : (nI k3).toInt = (k3 : Int) := tn1268_ ()
                      exfalso; omega
                · skip
                  have b104 := if10_p c14
                  refine lv_aload_n hx hb dX11_goesOn_84 rfl (lv_at hl 1 rfl) ?_
                  refine lv_aload_n hx hb dX11_goesOn_85 rfl (lv_at hl 1 rfl) ?_
                  refine va_get (D := (dC, dI)) (ci := 11) (v := .int (nI k3)) (C := RX11) (T := TX11) (N := 35) hx hb hg inG11 hown hK.1 hP 0 rfl rfl 15 (Nat.le_of_ble_eq_true rfl) (hg _ wt_893) (fun _ h9 => h9) rfl dX11_goesOn_86 ?_
                  have hPc := hP.sub (ws' := [(h0, .inr (11, [.ref st, .int (nI N), .int (nI B), .ref rp, .int vrs, .int vrb, .int vhs, .int vca, .int vxs, .int vxb, .ref tp, .int (nI T), .int vfa, .int vbr, .int vba, .int (nI k3), .int (nI k3), .int vtk, .int 0, .ref cu, .ref lt, .ref od, .ref th, .ref be, .ref ln, .int (nI S), .ref ma, .int (nI M), .ref ah, .ref bh, .ref ik, .ref la, .ref lg, .ref ce, .int vto])), (tp, .inl (G 0, 320, .inl ftp))]) [0, 1] rfl
                  refine va_calli (va_runV (As := [.int (nI k3)]) (rest := []) ⟨hx, hb, hml, hown, hg⟩ (c_X11_byteAt l dC dI G _ h0 k3 st N B rp tp T cu lt od th be ln S ma M ah bh ik la lg ce vrs vrb vhs vca vxs vxb vfa vbr vba (nI k3) (nI k3) vtk 0 vto ftp hN hB_ hT_ hS0 hM_ (by first | omega | (have t_c1 := leI c1; have t_hinva := hinva; have t_w71 := w71; have t_c8 := neI c8; have t_w101 := w101; have t_c11 := neI c11; have t_b104 := b104; have : ((-4) : Int32).toInt = -4 := qI_m4; have : (0 : Int32).toInt = 0 := qI_0; have : (32 : Int32).toInt = 32 := qI_32; have t_n0 : (nI N).toInt = (N : Int) := tn1261_ (); have t_n1 : (nI B).toInt = (B : Int) := tn1262_ (); have t_n2 : (nI T).toInt = (T : Int) := tn1263_ (); have t_n3 : (nI nsp).toInt = (nsp : Int) := tn1266_ (); have t_n4 : (nI nhe).toInt = (nhe : Int) := tn1267_ (); have t_n5 : (nI S).toInt = (S : Int) := tn1264_ (); have t_n6 : (nI M).toInt = (M : Int) := tn1265_ (); have t_n7 : (nI k3).toInt = (k3 : Int) := tn1268_ (); omega))) (kwV hg mfX11_byteAt wt_1003 ⟨Nat.le_of_ble_eq_true rfl, Nat.le_of_ble_eq_true rfl⟩) (preVR hK hPc (ci := 11) rfl rfl) rfl rfl hl.1 rfl (lv_room (Nat.le_of_ble_eq_true rfl)) dX11_goesOn_89 ⟨Nat.le_of_ble_eq_true rfl, Nat.le_of_ble_eq_true rfl⟩) hS (fun q h1 h2 => absurd h2 (Nat.not_le.mpr h1)) (fun q h => hA q (Nat.le_trans hS.1 h)) (fun r105 ur105 t H1 locs ht hvm w106 hB hz1 hk1 hS => ?_)
                  have hP := keepR hP hk1
                  obtain ⟨w106, w106x⟩ := w106
                  rcases w106 with ⟨w1061, w1062⟩ | ⟨w1061, w1062⟩
                  · skip
                    refine lv_cg (y := ftp k3) w1062 ?_
                    refine lv_i2l (v := (ftp k3).toInt64) hx hb dX11_goesOn_92 rfl ?_
                    refine lv_ldc2 (v := 97) hx hb hown (hg _ wt_1007) dX11_goesOn_93 ?_
                    refine lv_ldc2 (v := 122) hx hb hown (hg _ wt_1008) dX11_goesOn_96 ?_
                    have hPc := hP.sub (ws' := []) [] rfl
                    refine va_calli (va_runS (As := [.long ((ftp k3).toInt64), .long 97, .long 122]) (rest := []) ⟨hx, hb, hml, hown, hg⟩ (c_X11_in l dC dI G _ ((ftp k3).toInt64) 97 122) (kwS hg mfX11_in wt_992 ⟨Nat.le_of_ble_eq_true rfl, Nat.le_of_ble_eq_true rfl⟩) (preSR hK hPc) rfl rfl hl.1 rfl (lv_room (Nat.le_of_ble_eq_true rfl)) dX11_goesOn_99 ⟨Nat.le_of_ble_eq_true rfl, Nat.le_of_ble_eq_true rfl⟩) hS (fun q h1 h2 => absurd h2 (Nat.not_le.mpr h1)) (fun q h => hA q (Nat.le_trans hS.1 h)) (fun r107 ur107 t H1 locs ht hvm w108 hB hz1 hk1 hS => ?_)
                    have hP := keepR hP hk1
                    obtain ⟨w108, w108x⟩ := w108
                    try simp only [l_ii, show (97 : Int64).toInt = 97 from by decide, show (122 : Int64).toInt = 122 from by decide] at w108
                    have w108 : r107 = 1 := w108.trans (if_pos (by have t_c1 := leI c1; have t_hinva := hinva; have t_w71 := w71; have t_c8 := neI c8; have t_w101 := w101; have t_c11 := neI c11; have t_b104 := b104; have t_w1061 := w1061; have : ((-4) : Int32).toInt = -4 := qI_m4; have : (0 : Int32).toInt = 0 := qI_0; have : (32 : Int32).toInt = 32 := qI_32; have t_n0 : (nI N).toInt = (N : Int) := tn1261_ (); have t_n1 : (nI B).toInt = (B : Int) := tn1262_ (); have t_n2 : (nI T).toInt = (T : Int) := tn1263_ (); have t_n3 : (nI nsp).toInt = (nsp : Int) := tn1266_ (); have t_n4 : (nI nhe).toInt = (nhe : Int) := tn1267_ (); have t_n5 : (nI S).toInt = (S : Int) := tn1264_ (); have t_n6 : (nI M).toInt = (M : Int) := tn1265_ (); have t_n7 : (nI k3).toInt = (k3 : Int) := tn1268_ (); omega))
                    subst w108
                    refine lv_if_eq (tgt := 118) hx hb dX11_goesOn_102 rfl (fun c109 => ?_) (fun c109 => ?_)
                    · skip
                      exact absurd c109 (by decide)
                    · skip
                      refine lv_aload_n hx hb dX11_goesOn_105 rfl (lv_at hl 1 rfl) ?_
                      refine lv_dup hx hb dX11_goesOn_106 rfl ?_
                      refine va_get (D := (dC, dI)) (ci := 11) (v := .int (nI k3)) (C := RX11) (T := TX11) (N := 35) hx hb hg inG11 hown hK.1 hP 0 rfl rfl 15 (Nat.le_of_ble_eq_true rfl) (hg _ wt_893) (fun _ h9 => h9) rfl dX11_goesOn_107 ?_
                      refine lv_iconst (v := 1) hx hb dX11_goesOn_110 rfl ?_
                      refine lv_iadd hx hb dX11_goesOn_111 ?_
                      refine lv_cg (y := nI (k3 + 1)) (by rw [show (1 : Int32) = nI 1 from rfl]; exact nI_add _ _) ?_
                      refine va_put (D := (dC, dI)) (ci := 11) (v := .int (nI (k3 + 1))) (ty := .int) (C := RX11) (T := TX11) (N := 35) hx hb hg inG11 tyX11 tyX11_ok nmX11 hown hK.1 hP hD hS 0 rfl rfl 15 (Nat.le_of_ble_eq_true rfl) (hg _ wt_893) (fun _ h9 => h9) rfl (by decide +kernel) rfl rfl (Nat.le_of_ble_eq_true rfl) dX11_goesOn_112 (fun H locs hP hD hS => ?_)
                      refine lv_goto (tgt := 84) hx hb dX11_goesOn_115 rfl ?_
                      have loop84_112 : ∀ (nf : Nat) (k111 : Nat), (T - k111) < nf → ((k3 + 1) ≤ k111 ∧ k111 ≤ T ∧ pst ftp T 97 122 k111 = pst ftp T 97 122 k3) → ∀ (H : Heap) (locs : List Loc), va_P (dC, dI) vwCl [(h0, .inr (11, [.ref st, .int (nI N), .int (nI B), .ref rp, .int vrs, .int vrb, .int vhs, .int vca, .int vxs, .int vxb, .ref tp, .int (nI T), .int vfa, .int vbr, .int vba, .int (nI k111), .int (nI k3), .int vtk, .int 0, .ref cu, .ref lt, .ref od, .ref th, .ref be, .ref ln, .int (nI S), .ref ma, .int (nI M), .ref ah, .ref bh, .ref ik, .ref la, .ref lg, .ref ce, .int vto])), (tp, .inl (G 0, 320, .inl ftp))] H → va_D A [(h0, .inr (11, [.ref st, .int (nI N), .int (nI B), .ref rp, .int vrs, .int vrb, .int vhs, .int vca, .int vxs, .int vxb, .ref tp, .int (nI T), .int vfa, .int vbr, .int vba, .int (nI k111), .int (nI k3), .int vtk, .int 0, .ref cu, .ref lt, .ref od, .ref th, .ref be, .ref ln, .int (nI S), .ref ma, .int (nI M), .ref ah, .ref bh, .ref ik, .ref la, .ref lg, .ref ce, .int vto])), (tp, .inl (G 0, 320, .inl ftp))] → va_S A s.heap H locs → ∀ (ls : Array Slot), lv_has ls 2 [(1, .int (ftp k3)), (0, .ref h0)] → W p l e (headSpec (Cond.code yX11_goesOn cX11_goesOn 2 none :: GT) ({ frames := 1, cells := 0, slots := 0, locals := 25 } : Room)).room s m ([.ref h0] : List Value).toArray below meth c H locs 0 0 (MQ below (va_Qv (fun (u : Int32 × Int32 × Nat × Nat × Int32 × Int32) => match u with | (obr, oba, osp, ohe, otk, ova) => 0 ≤ obr.toInt ∧ (vbr.toInt = 0 ∨ obr.toInt = vbr.toInt) ∧ nsp ≤ osp ∧ osp ≤ T ∧ ohe ≤ osp ∧ (0 < vbr.toInt ∨ otk.toInt = 0 ∨ nsp < osp) ∧ (obr, oba, osp, ohe, otk, ova) = gOn ftp T vbr vba nsp nhe vtk vva) (fun (u : Int32 × Int32 × Nat × Nat × Int32 × Int32) (t : State) => match u with | (obr, oba, osp, ohe, otk, ova) => va_P (dC, dI) vwCl [(h0, .inr (11, [.ref st, .int (nI N), .int (nI B), .ref rp, .int vrs, .int vrb, .int vhs, .int vca, .int vxs, .int vxb, .ref tp, .int (nI T), .int vfa, .int obr, .int oba, .int (nI osp), .int (nI ohe), .int otk, .int ova, .ref cu, .ref lt, .ref od, .ref th, .ref be, .ref ln, .int (nI S), .ref ma, .int (nI M), .ref ah, .ref bh, .ref ik, .ref la, .ref lg, .ref ce, .int vto])), (tp, .inl (G 0, 320, .inl ftp))] t.heap ∧ va_D A [(h0, .inr (11, [.ref st, .int (nI N), .int (nI B), .ref rp, .int vrs, .int vrb, .int vhs, .int vca, .int vxs, .int vxb, .ref tp, .int (nI T), .int vfa, .int obr, .int oba, .int (nI osp), .int (nI ohe), .int otk, .int ova, .ref cu, .ref lt, .ref od, .ref th, .ref be, .ref ln, .int (nI S), .ref ma, .int (nI M), .ref ah, .ref bh, .ref ik, .ref la, .ref lg, .ref ce, .int vto])), (tp, .inl (G 0, 320, .inl ftp))]) A) ([.ref h0] : List Value).toArray s 0 0 A) (F0 m 84 ls []) := by
                        intro nf
                        induction nf with
                        | zero => intro k111 h1; exact absurd h1 (Nat.not_lt_zero _)
                        | succ nf ih84_112 =>
                          intro k111 hm113 hinvb H locs hP hD hS ls hl
                          refine lv_aload_n hx hb dX11_goesOn_84 rfl (lv_at hl 1 rfl) ?_
                          refine lv_aload_n hx hb dX11_goesOn_85 rfl (lv_at hl 1 rfl) ?_
                          refine va_get (D := (dC, dI)) (ci := 11) (v := .int (nI k111)) (C := RX11) (T := TX11) (N := 35) hx hb hg inG11 hown hK.1 hP 0 rfl rfl 15 (Nat.le_of_ble_eq_true rfl) (hg _ wt_893) (fun _ h9 => h9) rfl dX11_goesOn_86 ?_
                          have hPc := hP.sub (ws' := [(h0, .inr (11, [.ref st, .int (nI N), .int (nI B), .ref rp, .int vrs, .int vrb, .int vhs, .int vca, .int vxs, .int vxb, .ref tp, .int (nI T), .int vfa, .int vbr, .int vba, .int (nI k111), .int (nI k3), .int vtk, .int 0, .ref cu, .ref lt, .ref od, .ref th, .ref be, .ref ln, .int (nI S), .ref ma, .int (nI M), .ref ah, .ref bh, .ref ik, .ref la, .ref lg, .ref ce, .int vto])), (tp, .inl (G 0, 320, .inl ftp))]) [0, 1] rfl
                          have tn1285_ : nIT k111 := fun _ => nI_toInt (by first | omega | (have t_c1 := leI c1; have t_hinva := hinva; have t_w71 := w71; have t_c8 := neI c8; have t_w101 := w101; have t_c11 := neI c11; have t_b104 := b104; have t_w1061 := w1061; have t_c109 := neI c109; have t_hinvb := hinvb; have : ((-4) : Int32).toInt = -4 := qI_m4; have : (0 : Int32).toInt = 0 := qI_0; have : (1 : Int32).toInt = 1 := qI_1; have : (32 : Int32).toInt = 32 := qI_32; omega))
                          refine va_calli (va_runV (As := [.int (nI k111)]) (rest := []) ⟨hx, hb, hml, hown, hg⟩ (c_X11_byteAt l dC dI G _ h0 k111 st N B rp tp T cu lt od th be ln S ma M ah bh ik la lg ce vrs vrb vhs vca vxs vxb vfa vbr vba (nI k111) (nI k3) vtk 0 vto ftp hN hB_ hT_ hS0 hM_ (by first | omega | (have t_c1 := leI c1; have t_hinva := hinva; have t_w71 := w71; have t_c8 := neI c8; have t_w101 := w101; have t_c11 := neI c11; have t_b104 := b104; have t_w1061 := w1061; have t_c109 := neI c109; have t_hinvb := hinvb; have : ((-4) : Int32).toInt = -4 := qI_m4; have : (0 : Int32).toInt = 0 := qI_0; have : (1 : Int32).toInt = 1 := qI_1; have : (32 : Int32).toInt = 32 := qI_32; have t_n0 : (nI N).toInt = (N : Int) := tn1261_ (); have t_n1 : (nI B).toInt = (B : Int) := tn1262_ (); have t_n2 : (nI T).toInt = (T : Int) := tn1263_ (); have t_n3 : (nI nsp).toInt = (nsp : Int) := tn1266_ (); have t_n4 : (nI nhe).toInt = (nhe : Int) := tn1267_ (); have t_n5 : (nI S).toInt = (S : Int) := tn1264_ (); have t_n6 : (nI M).toInt = (M : Int) := tn1265_ (); have t_n7 : (nI k3).toInt = (k3 : Int) := tn1268_ (); have t_n8 : (nI k111).toInt = (k111 : Int) := tn1285_ (); omega))) (kwV hg mfX11_byteAt wt_1003 ⟨Nat.le_of_ble_eq_true rfl, Nat.le_of_ble_eq_true rfl⟩) (preVR hK hPc (ci := 11) rfl rfl) rfl rfl hl.1 rfl (lv_room (Nat.le_of_ble_eq_true rfl)) dX11_goesOn_89 ⟨Nat.le_of_ble_eq_true rfl, Nat.le_of_ble_eq_true rfl⟩) hS (fun q h1 h2 => absurd h2 (Nat.not_le.mpr h1)) (fun q h => hA q (Nat.le_trans hS.1 h)) (fun r114 ur114 t H1 locs ht hvm w115 hB hz1 hk1 hS => ?_)
                          have hP := keepR hP hk1
                          obtain ⟨w115, w115x⟩ := w115
                          rcases w115 with ⟨w1151, w1152⟩ | ⟨w1151, w1152⟩
                          · skip
                            refine lv_cg (y := ftp k111) w1152 ?_
                            refine lv_i2l (v := (ftp k111).toInt64) hx hb dX11_goesOn_92 rfl ?_
                            refine lv_ldc2 (v := 97) hx hb hown (hg _ wt_1007) dX11_goesOn_93 ?_
                            refine lv_ldc2 (v := 122) hx hb hown (hg _ wt_1008) dX11_goesOn_96 ?_
                            have hPc := hP.sub (ws' := []) [] rfl
                            refine va_calli (va_runS (As := [.long ((ftp k111).toInt64), .long 97, .long 122]) (rest := []) ⟨hx, hb, hml, hown, hg⟩ (c_X11_in l dC dI G _ ((ftp k111).toInt64) 97 122) (kwS hg mfX11_in wt_992 ⟨Nat.le_of_ble_eq_true rfl, Nat.le_of_ble_eq_true rfl⟩) (preSR hK hPc) rfl rfl hl.1 rfl (lv_room (Nat.le_of_ble_eq_true rfl)) dX11_goesOn_99 ⟨Nat.le_of_ble_eq_true rfl, Nat.le_of_ble_eq_true rfl⟩) hS (fun q h1 h2 => absurd h2 (Nat.not_le.mpr h1)) (fun q h => hA q (Nat.le_trans hS.1 h)) (fun r116 ur116 t H1 locs ht hvm w117 hB hz1 hk1 hS => ?_)
                            have hP := keepR hP hk1
                            obtain ⟨w117, w117x⟩ := w117
                            try simp only [l_ii, show (97 : Int64).toInt = 97 from by decide, show (122 : Int64).toInt = 122 from by decide] at w117
                            subst w117
                            refine lv_if_eq (tgt := 118) hx hb dX11_goesOn_102 rfl (fun c118 => ?_) (fun c118 => ?_)
                            · skip
                              have b119 := if10_n c118
                              refine lv_aload_n hx hb dX11_goesOn_118 rfl (lv_at hl 1 rfl) ?_
                              refine lv_iconst (v := 1) hx hb dX11_goesOn_119 rfl ?_
                              refine va_put (D := (dC, dI)) (ci := 11) (v := .int 1) (ty := .int) (C := RX11) (T := TX11) (N := 35) hx hb hg inG11 tyX11 tyX11_ok nmX11 hown hK.1 hP hD hS 0 rfl rfl 17 (Nat.le_of_ble_eq_true rfl) (hg _ wt_895) (fun _ h9 => h9) rfl (by decide +kernel) rfl rfl (Nat.le_of_ble_eq_true rfl) dX11_goesOn_120 (fun H locs hP hD hS => ?_)
                              refine lv_goto (tgt := 269) hx hb dX11_goesOn_123 rfl ?_
                              obtain ⟨hP9, hD9⟩ := va_sub2 (ws' := [(h0, .inr (11, [.ref st, .int (nI N), .int (nI B), .ref rp, .int vrs, .int vrb, .int vhs, .int vca, .int vxs, .int vxb, .ref tp, .int (nI T), .int vfa, .int vbr, .int vba, .int (nI k111), .int (nI k3), .int 1, .int 0, .ref cu, .ref lt, .ref od, .ref th, .ref be, .ref ln, .int (nI S), .ref ma, .int (nI M), .ref ah, .ref bh, .ref ik, .ref la, .ref lg, .ref ce, .int vto])), (tp, .inl (G 0, 320, .inl ftp))]) hP hD [0, 1] (by decide) rfl
                              refine W.widen (k := 0) (n := 0) (Nat.le_of_ble_eq_true rfl) (Nat.le_of_ble_eq_true rfl) ?_
                              exact W.vret hx hb hr (fun t ht hW => ⟨⟨(vbr, vba, k111, k3, 1, 0), rfl, (by have t_c1 := leI c1; have t_hinva := hinva; have t_w71 := w71; have t_c8 := neI c8; have t_w101 := w101; have t_c11 := neI c11; have t_b104 := b104; have t_w1061 := w1061; have t_c109 := neI c109; have t_hinvb := hinvb; have t_w1151 := w1151; have t_b119 := b119; have : ((-4) : Int32).toInt = -4 := qI_m4; have : (0 : Int32).toInt = 0 := qI_0; have : (1 : Int32).toInt = 1 := qI_1; have : (32 : Int32).toInt = 32 := qI_32; have t_n0 : (nI N).toInt = (N : Int) := tn1261_ (); have t_n1 : (nI B).toInt = (B : Int) := tn1262_ (); have t_n2 : (nI T).toInt = (T : Int) := tn1263_ (); have t_n3 : (nI nsp).toInt = (nsp : Int) := tn1266_ (); have t_n4 : (nI nhe).toInt = (nhe : Int) := tn1267_ (); have t_n5 : (nI S).toInt = (S : Int) := tn1264_ (); have t_n6 : (nI M).toInt = (M : Int) := tn1265_ (); have t_n7 : (nI k3).toInt = (k3 : Int) := tn1268_ (); have t_n8 : (nI k111).toInt = (k111 : Int) := tn1285_ (); have z0 : (0 : Int32).toInt = 0 := qI_0; have z1 : (1 : Int32).toInt = 1 := qI_1; have z2 : (2 : Int32).toInt = 2 := qI_2; have z3 : (3 : Int32).toInt = 3 := qI_3; have z5 : (5 : Int32).toInt = 5 := qI_5; have z9 : (9 : Int32).toInt = 9 := qI_9; have hb8 := htb k3; first | (exfalso; omega) | skip; refine ⟨by omega, ?_, by omega, by omega, by omega, ?_, ?_⟩; (first | exact Or.inr rfl | exact Or.inl (by omega)); omega; (have ea : pst ftp T 32 32 nsp = k3 := hinva.2.2.symm.trans (pst_out (by omega)); unfold gOn; rw [if_neg (by omega), ea]; unfold gOn1; rw [if_neg (by omega), if_pos (by omega), hinvb.2.2.symm.trans (pst_out (by omega))])), ⟨by rw [ht]; exact hP9, hD9⟩⟩, hS.F ht⟩) hS.2.2 dX11_goesOn_269
                            · skip
                              have b120 := if10_p c118
                              refine lv_aload_n hx hb dX11_goesOn_105 rfl (lv_at hl 1 rfl) ?_
                              refine lv_dup hx hb dX11_goesOn_106 rfl ?_
                              refine va_get (D := (dC, dI)) (ci := 11) (v := .int (nI k111)) (C := RX11) (T := TX11) (N := 35) hx hb hg inG11 hown hK.1 hP 0 rfl rfl 15 (Nat.le_of_ble_eq_true rfl) (hg _ wt_893) (fun _ h9 => h9) rfl dX11_goesOn_107 ?_
                              refine lv_iconst (v := 1) hx hb dX11_goesOn_110 rfl ?_
                              refine lv_iadd hx hb dX11_goesOn_111 ?_
                              refine lv_cg (y := nI (k111 + 1)) (by rw [show (1 : Int32) = nI 1 from rfl]; exact nI_add _ _) ?_
                              refine va_put (D := (dC, dI)) (ci := 11) (v := .int (nI (k111 + 1))) (ty := .int) (C := RX11) (T := TX11) (N := 35) hx hb hg inG11 tyX11 tyX11_ok nmX11 hown hK.1 hP hD hS 0 rfl rfl 15 (Nat.le_of_ble_eq_true rfl) (hg _ wt_893) (fun _ h9 => h9) rfl (by decide +kernel) rfl rfl (Nat.le_of_ble_eq_true rfl) dX11_goesOn_112 (fun H locs hP hD hS => ?_)
                              refine lv_goto (tgt := 84) hx hb dX11_goesOn_115 rfl ?_
                              exact ih84_112 (k111 + 1) (by have t_c1 := leI c1; have t_hinva := hinva; have t_w71 := w71; have t_c8 := neI c8; have t_w101 := w101; have t_c11 := neI c11; have t_b104 := b104; have t_w1061 := w1061; have t_c109 := neI c109; have t_hinvb := hinvb; have t_w1151 := w1151; have t_b120 := b120; have : ((-4) : Int32).toInt = -4 := qI_m4; have : (0 : Int32).toInt = 0 := qI_0; have : (1 : Int32).toInt = 1 := qI_1; have : (32 : Int32).toInt = 32 := qI_32; have t_n0 : (nI N).toInt = (N : Int) := tn1261_ (); have t_n1 : (nI B).toInt = (B : Int) := tn1262_ (); have t_n2 : (nI T).toInt = (T : Int) := tn1263_ (); have t_n3 : (nI nsp).toInt = (nsp : Int) := tn1266_ (); have t_n4 : (nI nhe).toInt = (nhe : Int) := tn1267_ (); have t_n5 : (nI S).toInt = (S : Int) := tn1264_ (); have t_n6 : (nI M).toInt = (M : Int) := tn1265_ (); have t_n7 : (nI k3).toInt = (k3 : Int) := tn1268_ (); have t_n8 : (nI k111).toInt = (k111 : Int) := tn1285_ (); omega) ⟨(by have t_c1 := leI c1; have t_hinva := hinva; have t_w71 := w71; have t_c8 := neI c8; have t_w101 := w101; have t_c11 := neI c11; have t_b104 := b104; have t_w1061 := w1061; have t_c109 := neI c109; have t_hinvb := hinvb; have t_w1151 := w1151; have t_b120 := b120; have : ((-4) : Int32).toInt = -4 := qI_m4; have : (0 : Int32).toInt = 0 := qI_0; have : (1 : Int32).toInt = 1 := qI_1; have : (32 : Int32).toInt = 32 := qI_32; have t_n0 : (nI N).toInt = (N : Int) := tn1261_ (); have t_n1 : (nI B).toInt = (B : Int) := tn1262_ (); have t_n2 : (nI T).toInt = (T : Int) := tn1263_ (); have t_n3 : (nI nsp).toInt = (nsp : Int) := tn1266_ (); have t_n4 : (nI nhe).toInt = (nhe : Int) := tn1267_ (); have t_n5 : (nI S).toInt = (S : Int) := tn1264_ (); have t_n6 : (nI M).toInt = (M : Int) := tn1265_ (); have t_n7 : (nI k3).toInt = (k3 : Int) := tn1268_ (); have t_n8 : (nI k111).toInt = (k111 : Int) := tn1285_ (); have z0 : (0 : Int32).toInt = 0 := qI_0; have z1 : (1 : Int32).toInt = 1 := qI_1; have z2 : (2 : Int32).toInt = 2 := qI_2; have z3 : (3 : Int32).toInt = 3 := qI_3; have z5 : (5 : Int32).toInt = 5 := qI_5; have z9 : (9 : Int32).toInt = 9 := qI_9; omega), (by have t_c1 := leI c1; have t_hinva := hinva; have t_w71 := w71; have t_c8 := neI c8; have t_w101 := w101; have t_c11 := neI c11; have t_b104 := b104; have t_w1061 := w1061; have t_c109 := neI c109; have t_hinvb := hinvb; have t_w1151 := w1151; have t_b120 := b120; have : ((-4) : Int32).toInt = -4 := qI_m4; have : (0 : Int32).toInt = 0 := qI_0; have : (1 : Int32).toInt = 1 := qI_1; have : (32 : Int32).toInt = 32 := qI_32; have t_n0 : (nI N).toInt = (N : Int) := tn1261_ (); have t_n1 : (nI B).toInt = (B : Int) := tn1262_ (); have t_n2 : (nI T).toInt = (T : Int) := tn1263_ (); have t_n3 : (nI nsp).toInt = (nsp : Int) := tn1266_ (); have t_n4 : (nI nhe).toInt = (nhe : Int) := tn1267_ (); have t_n5 : (nI S).toInt = (S : Int) := tn1264_ (); have t_n6 : (nI M).toInt = (M : Int) := tn1265_ (); have t_n7 : (nI k3).toInt = (k3 : Int) := tn1268_ (); have t_n8 : (nI k111).toInt = (k111 : Int) := tn1285_ (); have z0 : (0 : Int32).toInt = 0 := qI_0; have z1 : (1 : Int32).toInt = 1 := qI_1; have z2 : (2 : Int32).toInt = 2 := qI_2; have z3 : (3 : Int32).toInt = 3 := qI_3; have z5 : (5 : Int32).toInt = 5 := qI_5; have z9 : (9 : Int32).toInt = 9 := qI_9; omega), (pst_in (p := k111) (by have t_c1 := leI c1; have t_hinva := hinva; have t_w71 := w71; have t_c8 := neI c8; have t_w101 := w101; have t_c11 := neI c11; have t_b104 := b104; have t_w1061 := w1061; have t_c109 := neI c109; have t_hinvb := hinvb; have t_w1151 := w1151; have t_b120 := b120; have : ((-4) : Int32).toInt = -4 := qI_m4; have : (0 : Int32).toInt = 0 := qI_0; have : (1 : Int32).toInt = 1 := qI_1; have : (32 : Int32).toInt = 32 := qI_32; have t_n0 : (nI N).toInt = (N : Int) := tn1261_ (); have t_n1 : (nI B).toInt = (B : Int) := tn1262_ (); have t_n2 : (nI T).toInt = (T : Int) := tn1263_ (); have t_n3 : (nI nsp).toInt = (nsp : Int) := tn1266_ (); have t_n4 : (nI nhe).toInt = (nhe : Int) := tn1267_ (); have t_n5 : (nI S).toInt = (S : Int) := tn1264_ (); have t_n6 : (nI M).toInt = (M : Int) := tn1265_ (); have t_n7 : (nI k3).toInt = (k3 : Int) := tn1268_ (); have t_n8 : (nI k111).toInt = (k111 : Int) := tn1285_ (); have z0 : (0 : Int32).toInt = 0 := qI_0; have z1 : (1 : Int32).toInt = 1 := qI_1; have z2 : (2 : Int32).toInt = 2 := qI_2; have z3 : (3 : Int32).toInt = 3 := qI_3; have z5 : (5 : Int32).toInt = 5 := qI_5; have z9 : (9 : Int32).toInt = 9 := qI_9; omega) (by have t_c1 := leI c1; have t_hinva := hinva; have t_w71 := w71; have t_c8 := neI c8; have t_w101 := w101; have t_c11 := neI c11; have t_b104 := b104; have t_w1061 := w1061; have t_c109 := neI c109; have t_hinvb := hinvb; have t_w1151 := w1151; have t_b120 := b120; have : ((-4) : Int32).toInt = -4 := qI_m4; have : (0 : Int32).toInt = 0 := qI_0; have : (1 : Int32).toInt = 1 := qI_1; have : (32 : Int32).toInt = 32 := qI_32; have t_n0 : (nI N).toInt = (N : Int) := tn1261_ (); have t_n1 : (nI B).toInt = (B : Int) := tn1262_ (); have t_n2 : (nI T).toInt = (T : Int) := tn1263_ (); have t_n3 : (nI nsp).toInt = (nsp : Int) := tn1266_ (); have t_n4 : (nI nhe).toInt = (nhe : Int) := tn1267_ (); have t_n5 : (nI S).toInt = (S : Int) := tn1264_ (); have t_n6 : (nI M).toInt = (M : Int) := tn1265_ (); have t_n7 : (nI k3).toInt = (k3 : Int) := tn1268_ (); have t_n8 : (nI k111).toInt = (k111 : Int) := tn1285_ (); have z0 : (0 : Int32).toInt = 0 := qI_0; have z1 : (1 : Int32).toInt = 1 := qI_1; have z2 : (2 : Int32).toInt = 2 := qI_2; have z3 : (3 : Int32).toInt = 3 := qI_3; have z5 : (5 : Int32).toInt = 5 := qI_5; have z9 : (9 : Int32).toInt = 9 := qI_9; omega) (by have t_c1 := leI c1; have t_hinva := hinva; have t_w71 := w71; have t_c8 := neI c8; have t_w101 := w101; have t_c11 := neI c11; have t_b104 := b104; have t_w1061 := w1061; have t_c109 := neI c109; have t_hinvb := hinvb; have t_w1151 := w1151; have t_b120 := b120; have : ((-4) : Int32).toInt = -4 := qI_m4; have : (0 : Int32).toInt = 0 := qI_0; have : (1 : Int32).toInt = 1 := qI_1; have : (32 : Int32).toInt = 32 := qI_32; have t_n0 : (nI N).toInt = (N : Int) := tn1261_ (); have t_n1 : (nI B).toInt = (B : Int) := tn1262_ (); have t_n2 : (nI T).toInt = (T : Int) := tn1263_ (); have t_n3 : (nI nsp).toInt = (nsp : Int) := tn1266_ (); have t_n4 : (nI nhe).toInt = (nhe : Int) := tn1267_ (); have t_n5 : (nI S).toInt = (S : Int) := tn1264_ (); have t_n6 : (nI M).toInt = (M : Int) := tn1265_ (); have t_n7 : (nI k3).toInt = (k3 : Int) := tn1268_ (); have t_n8 : (nI k111).toInt = (k111 : Int) := tn1285_ (); have z0 : (0 : Int32).toInt = 0 := qI_0; have z1 : (1 : Int32).toInt = 1 := qI_1; have z2 : (2 : Int32).toInt = 2 := qI_2; have z3 : (3 : Int32).toInt = 3 := qI_3; have z5 : (5 : Int32).toInt = 5 := qI_5; have z9 : (9 : Int32).toInt = 9 := qI_9; omega)).symm.trans hinvb.2.2⟩ _ _ hP hD hS ls (lv_sub hl [0, 1] rfl)
                          · skip
                            refine lv_cg (y := (-4)) w1152 ?_
                            refine lv_i2l (v := (-4)) hx hb dX11_goesOn_92 (by decide) ?_
                            refine lv_ldc2 (v := 97) hx hb hown (hg _ wt_1007) dX11_goesOn_93 ?_
                            refine lv_ldc2 (v := 122) hx hb hown (hg _ wt_1008) dX11_goesOn_96 ?_
                            have hPc := hP.sub (ws' := []) [] rfl
                            refine va_calli (va_runS (As := [.long (-4), .long 97, .long 122]) (rest := []) ⟨hx, hb, hml, hown, hg⟩ (c_X11_in l dC dI G _ (-4) 97 122) (kwS hg mfX11_in wt_992 ⟨Nat.le_of_ble_eq_true rfl, Nat.le_of_ble_eq_true rfl⟩) (preSR hK hPc) rfl rfl hl.1 rfl (lv_room (Nat.le_of_ble_eq_true rfl)) dX11_goesOn_99 ⟨Nat.le_of_ble_eq_true rfl, Nat.le_of_ble_eq_true rfl⟩) hS (fun q h1 h2 => absurd h2 (Nat.not_le.mpr h1)) (fun q h => hA q (Nat.le_trans hS.1 h)) (fun r121 ur121 t H1 locs ht hvm w122 hB hz1 hk1 hS => ?_)
                            have hP := keepR hP hk1
                            obtain ⟨w122, w122x⟩ := w122
                            try simp only [l_ii, show (97 : Int64).toInt = 97 from by decide, show ((-4) : Int64).toInt = -4 from by decide, show (122 : Int64).toInt = 122 from by decide] at w122
                            have w122 : r121 = 0 := w122.trans (if_neg (by have t_c1 := leI c1; have t_hinva := hinva; have t_w71 := w71; have t_c8 := neI c8; have t_w101 := w101; have t_c11 := neI c11; have t_b104 := b104; have t_w1061 := w1061; have t_c109 := neI c109; have t_hinvb := hinvb; have t_w1151 := w1151; have : ((-4) : Int32).toInt = -4 := qI_m4; have : (0 : Int32).toInt = 0 := qI_0; have : (1 : Int32).toInt = 1 := qI_1; have : (32 : Int32).toInt = 32 := qI_32; have t_n0 : (nI N).toInt = (N : Int) := tn1261_ (); have t_n1 : (nI B).toInt = (B : Int) := tn1262_ (); have t_n2 : (nI T).toInt = (T : Int) := tn1263_ (); have t_n3 : (nI nsp).toInt = (nsp : Int) := tn1266_ (); have t_n4 : (nI nhe).toInt = (nhe : Int) := tn1267_ (); have t_n5 : (nI S).toInt = (S : Int) := tn1264_ (); have t_n6 : (nI M).toInt = (M : Int) := tn1265_ (); have t_n7 : (nI k3).toInt = (k3 : Int) := tn1268_ (); have t_n8 : (nI k111).toInt = (k111 : Int) := tn1285_ (); omega))
                            subst w122
                            refine lv_if_eq (tgt := 118) hx hb dX11_goesOn_102 rfl (fun c123 => ?_) (fun c123 => ?_)
                            · skip
                              refine lv_aload_n hx hb dX11_goesOn_118 rfl (lv_at hl 1 rfl) ?_
                              refine lv_iconst (v := 1) hx hb dX11_goesOn_119 rfl ?_
                              refine va_put (D := (dC, dI)) (ci := 11) (v := .int 1) (ty := .int) (C := RX11) (T := TX11) (N := 35) hx hb hg inG11 tyX11 tyX11_ok nmX11 hown hK.1 hP hD hS 0 rfl rfl 17 (Nat.le_of_ble_eq_true rfl) (hg _ wt_895) (fun _ h9 => h9) rfl (by decide +kernel) rfl rfl (Nat.le_of_ble_eq_true rfl) dX11_goesOn_120 (fun H locs hP hD hS => ?_)
                              refine lv_goto (tgt := 269) hx hb dX11_goesOn_123 rfl ?_
                              obtain ⟨hP9, hD9⟩ := va_sub2 (ws' := [(h0, .inr (11, [.ref st, .int (nI N), .int (nI B), .ref rp, .int vrs, .int vrb, .int vhs, .int vca, .int vxs, .int vxb, .ref tp, .int (nI T), .int vfa, .int vbr, .int vba, .int (nI k111), .int (nI k3), .int 1, .int 0, .ref cu, .ref lt, .ref od, .ref th, .ref be, .ref ln, .int (nI S), .ref ma, .int (nI M), .ref ah, .ref bh, .ref ik, .ref la, .ref lg, .ref ce, .int vto])), (tp, .inl (G 0, 320, .inl ftp))]) hP hD [0, 1] (by decide) rfl
                              refine W.widen (k := 0) (n := 0) (Nat.le_of_ble_eq_true rfl) (Nat.le_of_ble_eq_true rfl) ?_
                              exact W.vret hx hb hr (fun t ht hW => ⟨⟨(vbr, vba, k111, k3, 1, 0), rfl, (by have t_c1 := leI c1; have t_hinva := hinva; have t_w71 := w71; have t_c8 := neI c8; have t_w101 := w101; have t_c11 := neI c11; have t_b104 := b104; have t_w1061 := w1061; have t_c109 := neI c109; have t_hinvb := hinvb; have t_w1151 := w1151; have t_c123 := eqI c123; have : ((-4) : Int32).toInt = -4 := qI_m4; have : (0 : Int32).toInt = 0 := qI_0; have : (1 : Int32).toInt = 1 := qI_1; have : (32 : Int32).toInt = 32 := qI_32; have t_n0 : (nI N).toInt = (N : Int) := tn1261_ (); have t_n1 : (nI B).toInt = (B : Int) := tn1262_ (); have t_n2 : (nI T).toInt = (T : Int) := tn1263_ (); have t_n3 : (nI nsp).toInt = (nsp : Int) := tn1266_ (); have t_n4 : (nI nhe).toInt = (nhe : Int) := tn1267_ (); have t_n5 : (nI S).toInt = (S : Int) := tn1264_ (); have t_n6 : (nI M).toInt = (M : Int) := tn1265_ (); have t_n7 : (nI k3).toInt = (k3 : Int) := tn1268_ (); have t_n8 : (nI k111).toInt = (k111 : Int) := tn1285_ (); have z0 : (0 : Int32).toInt = 0 := qI_0; have z1 : (1 : Int32).toInt = 1 := qI_1; have z2 : (2 : Int32).toInt = 2 := qI_2; have z3 : (3 : Int32).toInt = 3 := qI_3; have z5 : (5 : Int32).toInt = 5 := qI_5; have z9 : (9 : Int32).toInt = 9 := qI_9; have hb8 := htb k3; first | (exfalso; omega) | skip; refine ⟨by omega, ?_, by omega, by omega, by omega, ?_, ?_⟩; (first | exact Or.inr rfl | exact Or.inl (by omega)); omega; (have ea : pst ftp T 32 32 nsp = k3 := hinva.2.2.symm.trans (pst_out (by omega)); unfold gOn; rw [if_neg (by omega), ea]; unfold gOn1; rw [if_neg (by omega), if_pos (by omega), hinvb.2.2.symm.trans (pst_out (by omega))])), ⟨by rw [ht]; exact hP9, hD9⟩⟩, hS.F ht⟩) hS.2.2 dX11_goesOn_269
                            · skip
                              exact absurd c123 (by decide)
                      exact loop84_112 ((T - (k3 + 1)) + 1) (k3 + 1) (Nat.lt_succ_self _) ⟨(by have t_c1 := leI c1; have t_hinva := hinva; have t_w71 := w71; have t_c8 := neI c8; have t_w101 := w101; have t_c11 := neI c11; have t_b104 := b104; have t_w1061 := w1061; have t_c109 := neI c109; have : ((-4) : Int32).toInt = -4 := qI_m4; have : (0 : Int32).toInt = 0 := qI_0; have : (1 : Int32).toInt = 1 := qI_1; have : (32 : Int32).toInt = 32 := qI_32; have t_n0 : (nI N).toInt = (N : Int) := tn1261_ (); have t_n1 : (nI B).toInt = (B : Int) := tn1262_ (); have t_n2 : (nI T).toInt = (T : Int) := tn1263_ (); have t_n3 : (nI nsp).toInt = (nsp : Int) := tn1266_ (); have t_n4 : (nI nhe).toInt = (nhe : Int) := tn1267_ (); have t_n5 : (nI S).toInt = (S : Int) := tn1264_ (); have t_n6 : (nI M).toInt = (M : Int) := tn1265_ (); have t_n7 : (nI k3).toInt = (k3 : Int) := tn1268_ (); have z0 : (0 : Int32).toInt = 0 := qI_0; have z1 : (1 : Int32).toInt = 1 := qI_1; have z2 : (2 : Int32).toInt = 2 := qI_2; have z3 : (3 : Int32).toInt = 3 := qI_3; have z5 : (5 : Int32).toInt = 5 := qI_5; have z9 : (9 : Int32).toInt = 9 := qI_9; omega), (by have t_c1 := leI c1; have t_hinva := hinva; have t_w71 := w71; have t_c8 := neI c8; have t_w101 := w101; have t_c11 := neI c11; have t_b104 := b104; have t_w1061 := w1061; have t_c109 := neI c109; have : ((-4) : Int32).toInt = -4 := qI_m4; have : (0 : Int32).toInt = 0 := qI_0; have : (1 : Int32).toInt = 1 := qI_1; have : (32 : Int32).toInt = 32 := qI_32; have t_n0 : (nI N).toInt = (N : Int) := tn1261_ (); have t_n1 : (nI B).toInt = (B : Int) := tn1262_ (); have t_n2 : (nI T).toInt = (T : Int) := tn1263_ (); have t_n3 : (nI nsp).toInt = (nsp : Int) := tn1266_ (); have t_n4 : (nI nhe).toInt = (nhe : Int) := tn1267_ (); have t_n5 : (nI S).toInt = (S : Int) := tn1264_ (); have t_n6 : (nI M).toInt = (M : Int) := tn1265_ (); have t_n7 : (nI k3).toInt = (k3 : Int) := tn1268_ (); have z0 : (0 : Int32).toInt = 0 := qI_0; have z1 : (1 : Int32).toInt = 1 := qI_1; have z2 : (2 : Int32).toInt = 2 := qI_2; have z3 : (3 : Int32).toInt = 3 := qI_3; have z5 : (5 : Int32).toInt = 5 := qI_5; have z9 : (9 : Int32).toInt = 9 := qI_9; omega), (pst_in (p := k3) (by have t_c1 := leI c1; have t_hinva := hinva; have t_w71 := w71; have t_c8 := neI c8; have t_w101 := w101; have t_c11 := neI c11; have t_b104 := b104; have t_w1061 := w1061; have t_c109 := neI c109; have : ((-4) : Int32).toInt = -4 := qI_m4; have : (0 : Int32).toInt = 0 := qI_0; have : (1 : Int32).toInt = 1 := qI_1; have : (32 : Int32).toInt = 32 := qI_32; have t_n0 : (nI N).toInt = (N : Int) := tn1261_ (); have t_n1 : (nI B).toInt = (B : Int) := tn1262_ (); have t_n2 : (nI T).toInt = (T : Int) := tn1263_ (); have t_n3 : (nI nsp).toInt = (nsp : Int) := tn1266_ (); have t_n4 : (nI nhe).toInt = (nhe : Int) := tn1267_ (); have t_n5 : (nI S).toInt = (S : Int) := tn1264_ (); have t_n6 : (nI M).toInt = (M : Int) := tn1265_ (); have t_n7 : (nI k3).toInt = (k3 : Int) := tn1268_ (); have z0 : (0 : Int32).toInt = 0 := qI_0; have z1 : (1 : Int32).toInt = 1 := qI_1; have z2 : (2 : Int32).toInt = 2 := qI_2; have z3 : (3 : Int32).toInt = 3 := qI_3; have z5 : (5 : Int32).toInt = 5 := qI_5; have z9 : (9 : Int32).toInt = 9 := qI_9; omega) (by have t_c1 := leI c1; have t_hinva := hinva; have t_w71 := w71; have t_c8 := neI c8; have t_w101 := w101; have t_c11 := neI c11; have t_b104 := b104; have t_w1061 := w1061; have t_c109 := neI c109; have : ((-4) : Int32).toInt = -4 := qI_m4; have : (0 : Int32).toInt = 0 := qI_0; have : (1 : Int32).toInt = 1 := qI_1; have : (32 : Int32).toInt = 32 := qI_32; have t_n0 : (nI N).toInt = (N : Int) := tn1261_ (); have t_n1 : (nI B).toInt = (B : Int) := tn1262_ (); have t_n2 : (nI T).toInt = (T : Int) := tn1263_ (); have t_n3 : (nI nsp).toInt = (nsp : Int) := tn1266_ (); have t_n4 : (nI nhe).toInt = (nhe : Int) := tn1267_ (); have t_n5 : (nI S).toInt = (S : Int) := tn1264_ (); have t_n6 : (nI M).toInt = (M : Int) := tn1265_ (); have t_n7 : (nI k3).toInt = (k3 : Int) := tn1268_ (); have z0 : (0 : Int32).toInt = 0 := qI_0; have z1 : (1 : Int32).toInt = 1 := qI_1; have z2 : (2 : Int32).toInt = 2 := qI_2; have z3 : (3 : Int32).toInt = 3 := qI_3; have z5 : (5 : Int32).toInt = 5 := qI_5; have z9 : (9 : Int32).toInt = 9 := qI_9; omega) (by have t_c1 := leI c1; have t_hinva := hinva; have t_w71 := w71; have t_c8 := neI c8; have t_w101 := w101; have t_c11 := neI c11; have t_b104 := b104; have t_w1061 := w1061; have t_c109 := neI c109; have : ((-4) : Int32).toInt = -4 := qI_m4; have : (0 : Int32).toInt = 0 := qI_0; have : (1 : Int32).toInt = 1 := qI_1; have : (32 : Int32).toInt = 32 := qI_32; have t_n0 : (nI N).toInt = (N : Int) := tn1261_ (); have t_n1 : (nI B).toInt = (B : Int) := tn1262_ (); have t_n2 : (nI T).toInt = (T : Int) := tn1263_ (); have t_n3 : (nI nsp).toInt = (nsp : Int) := tn1266_ (); have t_n4 : (nI nhe).toInt = (nhe : Int) := tn1267_ (); have t_n5 : (nI S).toInt = (S : Int) := tn1264_ (); have t_n6 : (nI M).toInt = (M : Int) := tn1265_ (); have t_n7 : (nI k3).toInt = (k3 : Int) := tn1268_ (); have z0 : (0 : Int32).toInt = 0 := qI_0; have z1 : (1 : Int32).toInt = 1 := qI_1; have z2 : (2 : Int32).toInt = 2 := qI_2; have z3 : (3 : Int32).toInt = 3 := qI_3; have z5 : (5 : Int32).toInt = 5 := qI_5; have z9 : (9 : Int32).toInt = 9 := qI_9; omega)).symm⟩ _ _ hP hD hS ls (lv_sub hl [0, 1] rfl)
                  · skip
                    have t_c1 := leI c1
                    have t_hinva := hinva
                    have t_w71 := w71
                    have t_c8 := neI c8
                    have t_w101 := w101
                    have t_c11 := neI c11
                    have t_b104 := b104
                    have t_w1061 := w1061
                    have : ((-4) : Int32).toInt = -4 := qI_m4
                    have : (0 : Int32).toInt = 0 := qI_0
                    have : (32 : Int32).toInt = 32 := qI_32
                    have t_n0 : (nI N).toInt = (N : Int) := tn1261_ ()
                    have t_n1 : (nI B).toInt = (B : Int) := tn1262_ ()
                    have t_n2 : (nI T).toInt = (T : Int) := tn1263_ ()
                    have t_n3 : (nI nsp).toInt = (nsp : Int) := tn1266_ ()
                    have t_n4 : (nI nhe).toInt = (nhe : Int) := tn1267_ ()
                    have t_n5 : (nI S).toInt = (S : Int) := tn1264_ ()
                    have t_n6 : (nI M).toInt = (M : Int) := tn1265_ ()
                    have t_n7 : (nI k3).toInt = (k3 : Int) := tn1268_ ()
                    exfalso; omega
              · skip
                refine lv_aload_n hx hb dX11_goesOn_62 rfl (lv_at hl 1 rfl) ?_
                refine lv_iconst (v := 0) hx hb dX11_goesOn_63 rfl ?_
                refine va_put (D := (dC, dI)) (ci := 11) (v := .int 0) (ty := .int) (C := RX11) (T := TX11) (N := 35) hx hb hg inG11 tyX11 tyX11_ok nmX11 hown hK.1 hP hD hS 0 rfl rfl 17 (Nat.le_of_ble_eq_true rfl) (hg _ wt_895) (fun _ h9 => h9) rfl (by decide +kernel) rfl rfl (Nat.le_of_ble_eq_true rfl) dX11_goesOn_64 (fun H locs hP hD hS => ?_)
                refine lv_goto (tgt := 269) hx hb dX11_goesOn_67 rfl ?_
                obtain ⟨hP9, hD9⟩ := va_sub2 (ws' := [(h0, .inr (11, [.ref st, .int (nI N), .int (nI B), .ref rp, .int vrs, .int vrb, .int vhs, .int vca, .int vxs, .int vxb, .ref tp, .int (nI T), .int vfa, .int vbr, .int vba, .int (nI k3), .int (nI k3), .int 0, .int 0, .ref cu, .ref lt, .ref od, .ref th, .ref be, .ref ln, .int (nI S), .ref ma, .int (nI M), .ref ah, .ref bh, .ref ik, .ref la, .ref lg, .ref ce, .int vto])), (tp, .inl (G 0, 320, .inl ftp))]) hP hD [0, 1] (by decide) rfl
                refine W.widen (k := 0) (n := 0) (Nat.le_of_ble_eq_true rfl) (Nat.le_of_ble_eq_true rfl) ?_
                exact W.vret hx hb hr (fun t ht hW => ⟨⟨(vbr, vba, k3, k3, 0, 0), rfl, (by have t_c1 := leI c1; have t_hinva := hinva; have t_w71 := w71; have t_c8 := neI c8; have t_w101 := w101; have t_c11 := eqI c11; have : ((-4) : Int32).toInt = -4 := qI_m4; have : (0 : Int32).toInt = 0 := qI_0; have : (32 : Int32).toInt = 32 := qI_32; have t_n0 : (nI N).toInt = (N : Int) := tn1261_ (); have t_n1 : (nI B).toInt = (B : Int) := tn1262_ (); have t_n2 : (nI T).toInt = (T : Int) := tn1263_ (); have t_n3 : (nI nsp).toInt = (nsp : Int) := tn1266_ (); have t_n4 : (nI nhe).toInt = (nhe : Int) := tn1267_ (); have t_n5 : (nI S).toInt = (S : Int) := tn1264_ (); have t_n6 : (nI M).toInt = (M : Int) := tn1265_ (); have t_n7 : (nI k3).toInt = (k3 : Int) := tn1268_ (); have z0 : (0 : Int32).toInt = 0 := qI_0; have z1 : (1 : Int32).toInt = 1 := qI_1; have z2 : (2 : Int32).toInt = 2 := qI_2; have z3 : (3 : Int32).toInt = 3 := qI_3; have z5 : (5 : Int32).toInt = 5 := qI_5; have z9 : (9 : Int32).toInt = 9 := qI_9; have hb8 := htb k3; first | (exfalso; omega) | skip; refine ⟨by omega, ?_, by omega, by omega, by omega, ?_, ?_⟩; (first | exact Or.inr rfl | exact Or.inl (by omega)); omega; (have ea : pst ftp T 32 32 nsp = k3 := hinva.2.2.symm.trans (pst_out (by omega)); unfold gOn; rw [if_neg (by omega), ea]; unfold gOn1; rw [if_pos (by omega)])), ⟨by rw [ht]; exact hP9, hD9⟩⟩, hS.F ht⟩) hS.2.2 dX11_goesOn_269
            · skip
              have t_c1 := leI c1
              have t_hinva := hinva
              have t_w71 := w71
              have t_c8 := neI c8
              have t_w101 := w101
              have : (0 : Int32).toInt = 0 := qI_0
              have : (32 : Int32).toInt = 32 := qI_32
              have t_n0 : (nI N).toInt = (N : Int) := tn1261_ ()
              have t_n1 : (nI B).toInt = (B : Int) := tn1262_ ()
              have t_n2 : (nI T).toInt = (T : Int) := tn1263_ ()
              have t_n3 : (nI nsp).toInt = (nsp : Int) := tn1266_ ()
              have t_n4 : (nI nhe).toInt = (nhe : Int) := tn1267_ ()
              have t_n5 : (nI S).toInt = (S : Int) := tn1264_ ()
              have t_n6 : (nI M).toInt = (M : Int) := tn1265_ ()
              have t_n7 : (nI k3).toInt = (k3 : Int) := tn1268_ ()
              exfalso; omega
          · skip
            refine lv_aload_n hx hb dX11_goesOn_21 rfl (lv_at hl 0 rfl) ?_
            refine lv_dup hx hb dX11_goesOn_22 rfl ?_
            refine va_get (D := (dC, dI)) (ci := 11) (v := .int (nI k3)) (C := RX11) (T := TX11) (N := 35) hx hb hg inG11 hown hK.1 hP 0 rfl rfl 15 (Nat.le_of_ble_eq_true rfl) (hg _ wt_893) (fun _ h9 => h9) rfl dX11_goesOn_23 ?_
            refine lv_iconst (v := 1) hx hb dX11_goesOn_26 rfl ?_
            refine lv_iadd hx hb dX11_goesOn_27 ?_
            refine lv_cg (y := nI (k3 + 1)) (by rw [show (1 : Int32) = nI 1 from rfl]; exact nI_add _ _) ?_
            refine va_put (D := (dC, dI)) (ci := 11) (v := .int (nI (k3 + 1))) (ty := .int) (C := RX11) (T := TX11) (N := 35) hx hb hg inG11 tyX11 tyX11_ok nmX11 hown hK.1 hP hD hS 0 rfl rfl 15 (Nat.le_of_ble_eq_true rfl) (hg _ wt_893) (fun _ h9 => h9) rfl (by decide +kernel) rfl rfl (Nat.le_of_ble_eq_true rfl) dX11_goesOn_28 (fun H locs hP hD hS => ?_)
            refine lv_goto (tgt := 8) hx hb dX11_goesOn_31 rfl ?_
            exact ih8_4 (k3 + 1) (by have t_c1 := leI c1; have t_hinva := hinva; have t_w71 := w71; have t_c8 := eqI c8; have : (0 : Int32).toInt = 0 := qI_0; have : (32 : Int32).toInt = 32 := qI_32; have t_n0 : (nI N).toInt = (N : Int) := tn1261_ (); have t_n1 : (nI B).toInt = (B : Int) := tn1262_ (); have t_n2 : (nI T).toInt = (T : Int) := tn1263_ (); have t_n3 : (nI nsp).toInt = (nsp : Int) := tn1266_ (); have t_n4 : (nI nhe).toInt = (nhe : Int) := tn1267_ (); have t_n5 : (nI S).toInt = (S : Int) := tn1264_ (); have t_n6 : (nI M).toInt = (M : Int) := tn1265_ (); have t_n7 : (nI k3).toInt = (k3 : Int) := tn1268_ (); omega) ⟨(by have t_c1 := leI c1; have t_hinva := hinva; have t_w71 := w71; have t_c8 := eqI c8; have : (0 : Int32).toInt = 0 := qI_0; have : (32 : Int32).toInt = 32 := qI_32; have t_n0 : (nI N).toInt = (N : Int) := tn1261_ (); have t_n1 : (nI B).toInt = (B : Int) := tn1262_ (); have t_n2 : (nI T).toInt = (T : Int) := tn1263_ (); have t_n3 : (nI nsp).toInt = (nsp : Int) := tn1266_ (); have t_n4 : (nI nhe).toInt = (nhe : Int) := tn1267_ (); have t_n5 : (nI S).toInt = (S : Int) := tn1264_ (); have t_n6 : (nI M).toInt = (M : Int) := tn1265_ (); have t_n7 : (nI k3).toInt = (k3 : Int) := tn1268_ (); have z0 : (0 : Int32).toInt = 0 := qI_0; have z1 : (1 : Int32).toInt = 1 := qI_1; have z2 : (2 : Int32).toInt = 2 := qI_2; have z3 : (3 : Int32).toInt = 3 := qI_3; have z5 : (5 : Int32).toInt = 5 := qI_5; have z9 : (9 : Int32).toInt = 9 := qI_9; omega), (by have t_c1 := leI c1; have t_hinva := hinva; have t_w71 := w71; have t_c8 := eqI c8; have : (0 : Int32).toInt = 0 := qI_0; have : (32 : Int32).toInt = 32 := qI_32; have t_n0 : (nI N).toInt = (N : Int) := tn1261_ (); have t_n1 : (nI B).toInt = (B : Int) := tn1262_ (); have t_n2 : (nI T).toInt = (T : Int) := tn1263_ (); have t_n3 : (nI nsp).toInt = (nsp : Int) := tn1266_ (); have t_n4 : (nI nhe).toInt = (nhe : Int) := tn1267_ (); have t_n5 : (nI S).toInt = (S : Int) := tn1264_ (); have t_n6 : (nI M).toInt = (M : Int) := tn1265_ (); have t_n7 : (nI k3).toInt = (k3 : Int) := tn1268_ (); have z0 : (0 : Int32).toInt = 0 := qI_0; have z1 : (1 : Int32).toInt = 1 := qI_1; have z2 : (2 : Int32).toInt = 2 := qI_2; have z3 : (3 : Int32).toInt = 3 := qI_3; have z5 : (5 : Int32).toInt = 5 := qI_5; have z9 : (9 : Int32).toInt = 9 := qI_9; omega), (pst_in (p := k3) (by have t_c1 := leI c1; have t_hinva := hinva; have t_w71 := w71; have t_c8 := eqI c8; have : (0 : Int32).toInt = 0 := qI_0; have : (32 : Int32).toInt = 32 := qI_32; have t_n0 : (nI N).toInt = (N : Int) := tn1261_ (); have t_n1 : (nI B).toInt = (B : Int) := tn1262_ (); have t_n2 : (nI T).toInt = (T : Int) := tn1263_ (); have t_n3 : (nI nsp).toInt = (nsp : Int) := tn1266_ (); have t_n4 : (nI nhe).toInt = (nhe : Int) := tn1267_ (); have t_n5 : (nI S).toInt = (S : Int) := tn1264_ (); have t_n6 : (nI M).toInt = (M : Int) := tn1265_ (); have t_n7 : (nI k3).toInt = (k3 : Int) := tn1268_ (); have z0 : (0 : Int32).toInt = 0 := qI_0; have z1 : (1 : Int32).toInt = 1 := qI_1; have z2 : (2 : Int32).toInt = 2 := qI_2; have z3 : (3 : Int32).toInt = 3 := qI_3; have z5 : (5 : Int32).toInt = 5 := qI_5; have z9 : (9 : Int32).toInt = 9 := qI_9; omega) (by have t_c1 := leI c1; have t_hinva := hinva; have t_w71 := w71; have t_c8 := eqI c8; have : (0 : Int32).toInt = 0 := qI_0; have : (32 : Int32).toInt = 32 := qI_32; have t_n0 : (nI N).toInt = (N : Int) := tn1261_ (); have t_n1 : (nI B).toInt = (B : Int) := tn1262_ (); have t_n2 : (nI T).toInt = (T : Int) := tn1263_ (); have t_n3 : (nI nsp).toInt = (nsp : Int) := tn1266_ (); have t_n4 : (nI nhe).toInt = (nhe : Int) := tn1267_ (); have t_n5 : (nI S).toInt = (S : Int) := tn1264_ (); have t_n6 : (nI M).toInt = (M : Int) := tn1265_ (); have t_n7 : (nI k3).toInt = (k3 : Int) := tn1268_ (); have z0 : (0 : Int32).toInt = 0 := qI_0; have z1 : (1 : Int32).toInt = 1 := qI_1; have z2 : (2 : Int32).toInt = 2 := qI_2; have z3 : (3 : Int32).toInt = 3 := qI_3; have z5 : (5 : Int32).toInt = 5 := qI_5; have z9 : (9 : Int32).toInt = 9 := qI_9; omega) (by have t_c1 := leI c1; have t_hinva := hinva; have t_w71 := w71; have t_c8 := eqI c8; have : (0 : Int32).toInt = 0 := qI_0; have : (32 : Int32).toInt = 32 := qI_32; have t_n0 : (nI N).toInt = (N : Int) := tn1261_ (); have t_n1 : (nI B).toInt = (B : Int) := tn1262_ (); have t_n2 : (nI T).toInt = (T : Int) := tn1263_ (); have t_n3 : (nI nsp).toInt = (nsp : Int) := tn1266_ (); have t_n4 : (nI nhe).toInt = (nhe : Int) := tn1267_ (); have t_n5 : (nI S).toInt = (S : Int) := tn1264_ (); have t_n6 : (nI M).toInt = (M : Int) := tn1265_ (); have t_n7 : (nI k3).toInt = (k3 : Int) := tn1268_ (); have z0 : (0 : Int32).toInt = 0 := qI_0; have z1 : (1 : Int32).toInt = 1 := qI_1; have z2 : (2 : Int32).toInt = 2 := qI_2; have z3 : (3 : Int32).toInt = 3 := qI_3; have z5 : (5 : Int32).toInt = 5 := qI_5; have z9 : (9 : Int32).toInt = 9 := qI_9; omega)).symm.trans hinva.2.2⟩ _ _ hP hD hS ls (lv_sub hl [0] rfl)
        · skip
          refine lv_cg (y := (-4)) w72 ?_
          refine lv_bipush (v := 32) hx hb dX11_goesOn_16 rfl ?_
          refine lv_icmp_ne (tgt := 34) hx hb dX11_goesOn_18 rfl (fun c124 => ?_) (fun c124 => ?_)
          · skip
            refine lv_aload_n hx hb dX11_goesOn_34 rfl (lv_at hl 0 rfl) ?_
            refine lv_aload_n hx hb dX11_goesOn_35 rfl (lv_at hl 0 rfl) ?_
            refine va_get (D := (dC, dI)) (ci := 11) (v := .int (nI k3)) (C := RX11) (T := TX11) (N := 35) hx hb hg inG11 hown hK.1 hP 0 rfl rfl 15 (Nat.le_of_ble_eq_true rfl) (hg _ wt_893) (fun _ h9 => h9) rfl dX11_goesOn_36 ?_
            refine va_put (D := (dC, dI)) (ci := 11) (v := .int (nI k3)) (ty := .int) (C := RX11) (T := TX11) (N := 35) hx hb hg inG11 tyX11 tyX11_ok nmX11 hown hK.1 hP hD hS 0 rfl rfl 16 (Nat.le_of_ble_eq_true rfl) (hg _ wt_894) (fun _ h9 => h9) rfl (by decide +kernel) rfl rfl (Nat.le_of_ble_eq_true rfl) dX11_goesOn_39 (fun H locs hP hD hS => ?_)
            refine lv_aload_n hx hb dX11_goesOn_42 rfl (lv_at hl 0 rfl) ?_
            refine lv_aload_n hx hb dX11_goesOn_43 rfl (lv_at hl 0 rfl) ?_
            refine va_get (D := (dC, dI)) (ci := 11) (v := .int (nI k3)) (C := RX11) (T := TX11) (N := 35) hx hb hg inG11 hown hK.1 hP 0 rfl rfl 15 (Nat.le_of_ble_eq_true rfl) (hg _ wt_893) (fun _ h9 => h9) rfl dX11_goesOn_44 ?_
            have hPc := hP.sub (ws' := [(h0, .inr (11, [.ref st, .int (nI N), .int (nI B), .ref rp, .int vrs, .int vrb, .int vhs, .int vca, .int vxs, .int vxb, .ref tp, .int (nI T), .int vfa, .int vbr, .int vba, .int (nI k3), .int (nI k3), .int vtk, .int vva, .ref cu, .ref lt, .ref od, .ref th, .ref be, .ref ln, .int (nI S), .ref ma, .int (nI M), .ref ah, .ref bh, .ref ik, .ref la, .ref lg, .ref ce, .int vto])), (tp, .inl (G 0, 320, .inl ftp))]) [0, 1] rfl
            refine va_calli (va_runV (As := [.int (nI k3)]) (rest := []) ⟨hx, hb, hml, hown, hg⟩ (c_X11_byteAt l dC dI G _ h0 k3 st N B rp tp T cu lt od th be ln S ma M ah bh ik la lg ce vrs vrb vhs vca vxs vxb vfa vbr vba (nI k3) (nI k3) vtk vva vto ftp hN hB_ hT_ hS0 hM_ (by first | omega | (have t_c1 := leI c1; have t_hinva := hinva; have t_w71 := w71; have t_c124 := neI c124; have : ((-4) : Int32).toInt = -4 := qI_m4; have : (0 : Int32).toInt = 0 := qI_0; have : (32 : Int32).toInt = 32 := qI_32; have t_n0 : (nI N).toInt = (N : Int) := tn1261_ (); have t_n1 : (nI B).toInt = (B : Int) := tn1262_ (); have t_n2 : (nI T).toInt = (T : Int) := tn1263_ (); have t_n3 : (nI nsp).toInt = (nsp : Int) := tn1266_ (); have t_n4 : (nI nhe).toInt = (nhe : Int) := tn1267_ (); have t_n5 : (nI S).toInt = (S : Int) := tn1264_ (); have t_n6 : (nI M).toInt = (M : Int) := tn1265_ (); have t_n7 : (nI k3).toInt = (k3 : Int) := tn1268_ (); omega))) (kwV hg mfX11_byteAt wt_1003 ⟨Nat.le_of_ble_eq_true rfl, Nat.le_of_ble_eq_true rfl⟩) (preVR hK hPc (ci := 11) rfl rfl) rfl rfl hl.1 rfl (lv_room (Nat.le_of_ble_eq_true rfl)) dX11_goesOn_47 ⟨Nat.le_of_ble_eq_true rfl, Nat.le_of_ble_eq_true rfl⟩) hS (fun q h1 h2 => absurd h2 (Nat.not_le.mpr h1)) (fun q h => hA q (Nat.le_trans hS.1 h)) (fun r125 ur125 t H1 locs ht hvm w126 hB hz1 hk1 hS => ?_)
            have hP := keepR hP hk1
            obtain ⟨w126, w126x⟩ := w126
            rcases w126 with ⟨w1261, w1262⟩ | ⟨w1261, w1262⟩
            · skip
              have t_c1 := leI c1
              have t_hinva := hinva
              have t_w71 := w71
              have t_c124 := neI c124
              have t_w1261 := w1261
              have : ((-4) : Int32).toInt = -4 := qI_m4
              have : (0 : Int32).toInt = 0 := qI_0
              have : (32 : Int32).toInt = 32 := qI_32
              have t_n0 : (nI N).toInt = (N : Int) := tn1261_ ()
              have t_n1 : (nI B).toInt = (B : Int) := tn1262_ ()
              have t_n2 : (nI T).toInt = (T : Int) := tn1263_ ()
              have t_n3 : (nI nsp).toInt = (nsp : Int) := tn1266_ ()
              have t_n4 : (nI nhe).toInt = (nhe : Int) := tn1267_ ()
              have t_n5 : (nI S).toInt = (S : Int) := tn1264_ ()
              have t_n6 : (nI M).toInt = (M : Int) := tn1265_ ()
              have t_n7 : (nI k3).toInt = (k3 : Int) := tn1268_ ()
              exfalso; omega
            · skip
              refine lv_cg (y := (-4)) w1262 ?_
              refine lv_istore_n (lv' := [(1, .int (-4)), (0, .ref h0)]) hx hb dX11_goesOn_50 rfl hl (by decide) rfl (fun ls hl => ?_)
              refine lv_aload_n hx hb dX11_goesOn_51 rfl (lv_at hl 1 rfl) ?_
              refine lv_iconst (v := 0) hx hb dX11_goesOn_52 rfl ?_
              refine va_put (D := (dC, dI)) (ci := 11) (v := .int 0) (ty := .int) (C := RX11) (T := TX11) (N := 35) hx hb hg inG11 tyX11 tyX11_ok nmX11 hown hK.1 hP hD hS 0 rfl rfl 18 (Nat.le_of_ble_eq_true rfl) (hg _ wt_896) (fun _ h9 => h9) rfl (by decide +kernel) rfl rfl (Nat.le_of_ble_eq_true rfl) dX11_goesOn_53 (fun H locs hP hD hS => ?_)
              refine lv_iload_n hx hb dX11_goesOn_56 rfl (lv_at hl 0 rfl) ?_
              refine lv_bipush (v := (-4)) hx hb dX11_goesOn_57 rfl ?_
              refine lv_icmp_ne (tgt := 70) hx hb dX11_goesOn_59 rfl (fun c127 => ?_) (fun c127 => ?_)
              · skip
                exact absurd c127 (by decide)
              · skip
                refine lv_aload_n hx hb dX11_goesOn_62 rfl (lv_at hl 1 rfl) ?_
                refine lv_iconst (v := 0) hx hb dX11_goesOn_63 rfl ?_
                refine va_put (D := (dC, dI)) (ci := 11) (v := .int 0) (ty := .int) (C := RX11) (T := TX11) (N := 35) hx hb hg inG11 tyX11 tyX11_ok nmX11 hown hK.1 hP hD hS 0 rfl rfl 17 (Nat.le_of_ble_eq_true rfl) (hg _ wt_895) (fun _ h9 => h9) rfl (by decide +kernel) rfl rfl (Nat.le_of_ble_eq_true rfl) dX11_goesOn_64 (fun H locs hP hD hS => ?_)
                refine lv_goto (tgt := 269) hx hb dX11_goesOn_67 rfl ?_
                obtain ⟨hP9, hD9⟩ := va_sub2 (ws' := [(h0, .inr (11, [.ref st, .int (nI N), .int (nI B), .ref rp, .int vrs, .int vrb, .int vhs, .int vca, .int vxs, .int vxb, .ref tp, .int (nI T), .int vfa, .int vbr, .int vba, .int (nI k3), .int (nI k3), .int 0, .int 0, .ref cu, .ref lt, .ref od, .ref th, .ref be, .ref ln, .int (nI S), .ref ma, .int (nI M), .ref ah, .ref bh, .ref ik, .ref la, .ref lg, .ref ce, .int vto])), (tp, .inl (G 0, 320, .inl ftp))]) hP hD [0, 1] (by decide) rfl
                refine W.widen (k := 0) (n := 0) (Nat.le_of_ble_eq_true rfl) (Nat.le_of_ble_eq_true rfl) ?_
                exact W.vret hx hb hr (fun t ht hW => ⟨⟨(vbr, vba, k3, k3, 0, 0), rfl, (by have t_c1 := leI c1; have t_hinva := hinva; have t_w71 := w71; have t_c124 := neI c124; have t_w1261 := w1261; have t_c127 := eqI c127; have : ((-4) : Int32).toInt = -4 := qI_m4; have : (0 : Int32).toInt = 0 := qI_0; have : (32 : Int32).toInt = 32 := qI_32; have t_n0 : (nI N).toInt = (N : Int) := tn1261_ (); have t_n1 : (nI B).toInt = (B : Int) := tn1262_ (); have t_n2 : (nI T).toInt = (T : Int) := tn1263_ (); have t_n3 : (nI nsp).toInt = (nsp : Int) := tn1266_ (); have t_n4 : (nI nhe).toInt = (nhe : Int) := tn1267_ (); have t_n5 : (nI S).toInt = (S : Int) := tn1264_ (); have t_n6 : (nI M).toInt = (M : Int) := tn1265_ (); have t_n7 : (nI k3).toInt = (k3 : Int) := tn1268_ (); have z0 : (0 : Int32).toInt = 0 := qI_0; have z1 : (1 : Int32).toInt = 1 := qI_1; have z2 : (2 : Int32).toInt = 2 := qI_2; have z3 : (3 : Int32).toInt = 3 := qI_3; have z5 : (5 : Int32).toInt = 5 := qI_5; have z9 : (9 : Int32).toInt = 9 := qI_9; have hb8 := htb k3; first | (exfalso; omega) | skip; refine ⟨by omega, ?_, by omega, by omega, by omega, ?_, ?_⟩; (first | exact Or.inr rfl | exact Or.inl (by omega)); omega; (have ea : pst ftp T 32 32 nsp = k3 := hinva.2.2.symm.trans (pst_out (by omega)); unfold gOn; rw [if_neg (by omega), ea]; unfold gOn1; rw [if_pos (by omega)])), ⟨by rw [ht]; exact hP9, hD9⟩⟩, hS.F ht⟩) hS.2.2 dX11_goesOn_269
          · skip
            exact absurd c124 (by decide)
    have tn1286_ : nIT nsp := fun _ => nI_toInt (by first | omega | (have t_c1 := leI c1; have : (0 : Int32).toInt = 0 := qI_0; omega))
    have tn1287_ : nIT nhe := fun _ => nI_toInt (by first | omega | (have t_c1 := leI c1; have : (0 : Int32).toInt = 0 := qI_0; omega))
    exact loop8_4 ((T - nsp) + 1) nsp (Nat.lt_succ_self _) ⟨(by have t_c1 := leI c1; have : (0 : Int32).toInt = 0 := qI_0; have t_n0 : (nI N).toInt = (N : Int) := tn1261_ (); have t_n1 : (nI B).toInt = (B : Int) := tn1262_ (); have t_n2 : (nI T).toInt = (T : Int) := tn1263_ (); have t_n3 : (nI nsp).toInt = (nsp : Int) := tn1286_ (); have t_n4 : (nI nhe).toInt = (nhe : Int) := tn1287_ (); have t_n5 : (nI S).toInt = (S : Int) := tn1264_ (); have t_n6 : (nI M).toInt = (M : Int) := tn1265_ (); have z0 : (0 : Int32).toInt = 0 := qI_0; have z1 : (1 : Int32).toInt = 1 := qI_1; have z2 : (2 : Int32).toInt = 2 := qI_2; have z3 : (3 : Int32).toInt = 3 := qI_3; have z5 : (5 : Int32).toInt = 5 := qI_5; have z9 : (9 : Int32).toInt = 9 := qI_9; omega), (by have t_c1 := leI c1; have : (0 : Int32).toInt = 0 := qI_0; have t_n0 : (nI N).toInt = (N : Int) := tn1261_ (); have t_n1 : (nI B).toInt = (B : Int) := tn1262_ (); have t_n2 : (nI T).toInt = (T : Int) := tn1263_ (); have t_n3 : (nI nsp).toInt = (nsp : Int) := tn1286_ (); have t_n4 : (nI nhe).toInt = (nhe : Int) := tn1287_ (); have t_n5 : (nI S).toInt = (S : Int) := tn1264_ (); have t_n6 : (nI M).toInt = (M : Int) := tn1265_ (); have z0 : (0 : Int32).toInt = 0 := qI_0; have z1 : (1 : Int32).toInt = 1 := qI_1; have z2 : (2 : Int32).toInt = 2 := qI_2; have z3 : (3 : Int32).toInt = 3 := qI_3; have z5 : (5 : Int32).toInt = 5 := qI_5; have z9 : (9 : Int32).toInt = 9 := qI_9; omega), rfl⟩ _ _ hP hD hS ls (lv_sub hl [0] rfl)
  · skip
    obtain ⟨hP9, hD9⟩ := va_sub2 (ws' := [(h0, .inr (11, [.ref st, .int (nI N), .int (nI B), .ref rp, .int vrs, .int vrb, .int vhs, .int vca, .int vxs, .int vxb, .ref tp, .int (nI T), .int vfa, .int vbr, .int vba, .int (nI nsp), .int (nI nhe), .int vtk, .int vva, .ref cu, .ref lt, .ref od, .ref th, .ref be, .ref ln, .int (nI S), .ref ma, .int (nI M), .ref ah, .ref bh, .ref ik, .ref la, .ref lg, .ref ce, .int vto])), (tp, .inl (G 0, 320, .inl ftp))]) hP hD [0, 1] (by decide) rfl
    refine W.widen (k := 0) (n := 0) (Nat.le_of_ble_eq_true rfl) (Nat.le_of_ble_eq_true rfl) ?_
    have tn1288_ : nIT nsp := fun _ => nI_toInt (by first | omega | (have t_c1 := nleI c1; have : (0 : Int32).toInt = 0 := qI_0; omega))
    have tn1289_ : nIT nhe := fun _ => nI_toInt (by first | omega | (have t_c1 := nleI c1; have : (0 : Int32).toInt = 0 := qI_0; omega))
    exact W.vret hx hb hr (fun t ht hW => ⟨⟨(vbr, vba, nsp, nhe, vtk, vva), rfl, (by have t_c1 := nleI c1; have : (0 : Int32).toInt = 0 := qI_0; have t_n0 : (nI N).toInt = (N : Int) := tn1261_ (); have t_n1 : (nI B).toInt = (B : Int) := tn1262_ (); have t_n2 : (nI T).toInt = (T : Int) := tn1263_ (); have t_n3 : (nI nsp).toInt = (nsp : Int) := tn1288_ (); have t_n4 : (nI nhe).toInt = (nhe : Int) := tn1289_ (); have t_n5 : (nI S).toInt = (S : Int) := tn1264_ (); have t_n6 : (nI M).toInt = (M : Int) := tn1265_ (); have z0 : (0 : Int32).toInt = 0 := qI_0; have z1 : (1 : Int32).toInt = 1 := qI_1; have z2 : (2 : Int32).toInt = 2 := qI_2; have z3 : (3 : Int32).toInt = 3 := qI_3; have z5 : (5 : Int32).toInt = 5 := qI_5; have z9 : (9 : Int32).toInt = 9 := qI_9; have hb8 := htb nhe; first | (exfalso; omega) | skip; refine ⟨by omega, ?_, by omega, by omega, by omega, ?_, ?_⟩; (first | exact Or.inr rfl | exact Or.inl (by omega)); omega; (unfold gOn; rw [if_pos (by omega)])), ⟨by rw [ht]; exact hP9, hD9⟩⟩, hS.F ht⟩) hS.2.2 dX11_goesOn_7

set_option maxHeartbeats 1000000 in
set_option maxRecDepth 100000 in
theorem c_X11_otherE (l : Launch) (dC : Nat → ClassId) (dI : Nat → Nat → Nat) (G : Nat → ClassId) (sz : Nat) (h0 st N B rp tp T nsp nhe cu lt od th be ln S ma M ah bh ik la lg ce : Nat) (lo xh sm vrs vrb vhs vca vxs vxb vfa vbr vba vtk vva vto : Int32) (ftp : Nat → Int32) (hN : N ≤ 10) (hB : B ≤ 6) (hT : T ≤ 320) (hS0 : S ≤ 8) (hM : M ≤ 6) (hbr : 0 ≤ vbr.toInt) (hsp : nsp ≤ T) (hhe : nhe ≤ nsp) (hlo : lo.toInt ≤ xh.toInt) (htb : ∀ q : Nat, q < 320 → 0 ≤ (ftp q).toInt) : Met l yX11_other (Cond.code yX11_other cX11_other 5 (some .int) :: GT) ({ frames := 2, cells := 0, slots := 0, locals := 46 } : Room) (PcW [.ref h0, .int lo, .int xh, .int sm] dC dI G [(h0, .inr (11, [.ref st, .int (nI N), .int (nI B), .ref rp, .int vrs, .int vrb, .int vhs, .int vca, .int vxs, .int vxb, .ref tp, .int (nI T), .int vfa, .int vbr, .int vba, .int (nI nsp), .int (nI nhe), .int vtk, .int vva, .ref cu, .ref lt, .ref od, .ref th, .ref be, .ref ln, .int (nI S), .ref ma, .int (nI M), .ref ah, .ref bh, .ref ik, .ref la, .ref lg, .ref ce, .int vto])), (tp, .inl (G 0, 320, .inl ftp))] sz) (va_Qi (fun (r : Int32) (u : Int32 × Int32 × Nat × Nat × Int32 × Int32) => match u with | (obr, oba, osp, ohe, otk, ova) => ((lo.toInt ≤ r.toInt ∧ r.toInt ≤ xh.toInt) ∧ r = otV lo xh sm vbr vtk vva) ∧ 0 ≤ obr.toInt ∧ (vbr.toInt = 0 ∨ 0 < obr.toInt) ∧ nsp ≤ osp ∧ osp ≤ T ∧ ohe ≤ osp ∧ (0 < obr.toInt ∨ otk.toInt = 0 ∨ nsp < osp) ∧ (obr, oba, osp, ohe, otk, ova) = gOn ftp T (otB lo xh sm vbr vtk vva) (otA lo xh sm vbr vba nhe vtk vva) nsp nhe vtk vva) (fun (u : Int32 × Int32 × Nat × Nat × Int32 × Int32) (t : State) => match u with | (obr, oba, osp, ohe, otk, ova) => va_P (dC, dI) vwCl [(h0, .inr (11, [.ref st, .int (nI N), .int (nI B), .ref rp, .int vrs, .int vrb, .int vhs, .int vca, .int vxs, .int vxb, .ref tp, .int (nI T), .int vfa, .int obr, .int oba, .int (nI osp), .int (nI ohe), .int otk, .int ova, .ref cu, .ref lt, .ref od, .ref th, .ref be, .ref ln, .int (nI S), .ref ma, .int (nI M), .ref ah, .ref bh, .ref ik, .ref la, .ref lg, .ref ce, .int vto])), (tp, .inl (G 0, 320, .inl ftp))] t.heap ∧ va_D (va_A [(h0, .inr (11, [.ref st, .int (nI N), .int (nI B), .ref rp, .int vrs, .int vrb, .int vhs, .int vca, .int vxs, .int vxb, .ref tp, .int (nI T), .int vfa, .int vbr, .int vba, .int (nI nsp), .int (nI nhe), .int vtk, .int vva, .ref cu, .ref lt, .ref od, .ref th, .ref be, .ref ln, .int (nI S), .ref ma, .int (nI M), .ref ah, .ref bh, .ref ik, .ref la, .ref lg, .ref ce, .int vto])), (tp, .inl (G 0, 320, .inl ftp))] sz) [(h0, .inr (11, [.ref st, .int (nI N), .int (nI B), .ref rp, .int vrs, .int vrb, .int vhs, .int vca, .int vxs, .int vxb, .ref tp, .int (nI T), .int vfa, .int obr, .int oba, .int (nI osp), .int (nI ohe), .int otk, .int ova, .ref cu, .ref lt, .ref od, .ref th, .ref be, .ref ln, .int (nI S), .ref ma, .int (nI M), .ref ah, .ref bh, .ref ik, .ref la, .ref lg, .ref ce, .int vto])), (tp, .inl (G 0, 320, .inl ftp))]) (va_A [(h0, .inr (11, [.ref st, .int (nI N), .int (nI B), .ref rp, .int vrs, .int vrb, .int vhs, .int vca, .int vxs, .int vxb, .ref tp, .int (nI T), .int vfa, .int vbr, .int vba, .int (nI nsp), .int (nI nhe), .int vtk, .int vva, .ref cu, .ref lt, .ref od, .ref th, .ref be, .ref ln, .int (nI S), .ref ma, .int (nI M), .ref ah, .ref bh, .ref ik, .ref la, .ref lg, .ref ce, .int vto])), (tp, .inl (G 0, 320, .inl ftp))] sz)) 0 0 (va_A [(h0, .inr (11, [.ref st, .int (nI N), .int (nI B), .ref rp, .int vrs, .int vrb, .int vhs, .int vca, .int vxs, .int vxb, .ref tp, .int (nI T), .int vfa, .int vbr, .int vba, .int (nI nsp), .int (nI nhe), .int vtk, .int vva, .ref cu, .ref lt, .ref od, .ref th, .ref be, .ref ln, .int (nI S), .ref ma, .int (nI M), .ref ah, .ref bh, .ref ik, .ref la, .ref lg, .ref ce, .int vto])), (tp, .inl (G 0, 320, .inl ftp))] sz) := by
  have hB_ := hB
  have hM_ := hM
  have hT_ := hT
  have tn1290_ : nIT N := fun _ => nI_toInt (by omega)
  have tn1291_ : nIT B := fun _ => nI_toInt (by omega)
  have tn1292_ : nIT T := fun _ => nI_toInt (by omega)
  have tn1293_ : nIT S := fun _ => nI_toInt (by omega)
  have tn1294_ : nIT M := fun _ => nI_toInt (by omega)
  refine Met.ofW (cc := cX11_other) (maxL := 5) (ret := (some .int)) (by decide) rfl ?_
  intro p e s m args below meth c s₁ Bd hml hv
  obtain ⟨rfl, hsz, hP, hK, hD0⟩ := hv
  have hx := Bd.exec
  have hb := Bd.bytes
  have hr := Bd.returns
  have hg : ∀ w ∈ GT, w.before ([.ref h0, .int lo, .int xh, .int sm] : List Value).toArray s = true := fun w h => atoms_spec (ws := Cond.code yX11_other cX11_other 5 (some .int) :: GT) Bd.pre w (List.mem_cons_of_mem _ h)
  have hown : s.vm.findClass RX11 = some m.cls := findClass_of_methodNamed Bd.named
  have hlocks := Bd.notSynchronized
  subst hsz
  have hD := hD0.self (sz := s.heap.size)
  generalize hAe : va_A [(h0, .inr (11, [.ref st, .int (nI N), .int (nI B), .ref rp, .int vrs, .int vrb, .int vhs, .int vca, .int vxs, .int vxb, .ref tp, .int (nI T), .int vfa, .int vbr, .int vba, .int (nI nsp), .int (nI nhe), .int vtk, .int vva, .ref cu, .ref lt, .ref od, .ref th, .ref be, .ref ln, .int (nI S), .ref ma, .int (nI M), .ref ah, .ref bh, .ref ik, .ref la, .ref lg, .ref ce, .int vto])), (tp, .inl (G 0, 320, .inl ftp))] s.heap.size = A at hD ⊢
  have hA : ∀ q : Nat, s.heap.size ≤ q → A q := fun q h => by rw [← hAe]; exact Or.inr h
  have hS : va_S A s.heap s.heap [] := va_S.rf
  have hl := lv_entry ([.ref h0, .int lo, .int xh, .int sm]) (n := 5) (Nat.le_of_ble_eq_true rfl)
  rw [lg_entry_eq]
  generalize (lg_sl ([.ref h0, .int lo, .int xh, .int sm]) ++ List.replicate (5 - (lg_sl ([.ref h0, .int lo, .int xh, .int sm])).length) Slot.unset).toArray = ls at hl ⊢
  have hl : lv_has ls 5 [(0, .ref h0), (1, .int lo), (2, .int xh), (3, .int sm)] := hl
  refine lv_aload_n hx hb dX11_other_0 rfl (lv_at hl 0 rfl) ?_
  refine va_get (D := (dC, dI)) (ci := 11) (v := .int vbr) (C := RX11) (T := TX11) (N := 35) hx hb hg inG11 hown hK.1 hP 0 rfl rfl 13 (Nat.le_of_ble_eq_true rfl) (hg _ wt_891) (fun _ h9 => h9) rfl dX11_other_1 ?_
  refine lv_if_ne (tgt := 20) hx hb dX11_other_4 rfl (fun c1 => ?_) (fun c1 => ?_)
  · skip
    refine lv_aload_n hx hb dX11_other_20 rfl (lv_at hl 0 rfl) ?_
    refine va_get (D := (dC, dI)) (ci := 11) (v := .int vbr) (C := RX11) (T := TX11) (N := 35) hx hb hg inG11 hown hK.1 hP 0 rfl rfl 13 (Nat.le_of_ble_eq_true rfl) (hg _ wt_891) (fun _ h9 => h9) rfl dX11_other_21 ?_
    refine lv_if_ne (tgt := 47) hx hb dX11_other_24 rfl (fun c2 => ?_) (fun c2 => ?_)
    · skip
      refine lv_aload_n hx hb dX11_other_47 rfl (lv_at hl 0 rfl) ?_
      refine va_get (D := (dC, dI)) (ci := 11) (v := .int vbr) (C := RX11) (T := TX11) (N := 35) hx hb hg inG11 hown hK.1 hP 0 rfl rfl 13 (Nat.le_of_ble_eq_true rfl) (hg _ wt_891) (fun _ h9 => h9) rfl dX11_other_48 ?_
      refine lv_if_ne (tgt := 71) hx hb dX11_other_51 rfl (fun c3 => ?_) (fun c3 => ?_)
      · skip
        refine lv_aload_n hx hb dX11_other_71 rfl (lv_at hl 0 rfl) ?_
        refine va_get (D := (dC, dI)) (ci := 11) (v := .int vbr) (C := RX11) (T := TX11) (N := 35) hx hb hg inG11 hown hK.1 hP 0 rfl rfl 13 (Nat.le_of_ble_eq_true rfl) (hg _ wt_891) (fun _ h9 => h9) rfl dX11_other_72 ?_
        refine lv_if_ne (tgt := 85) hx hb dX11_other_75 rfl (fun c4 => ?_) (fun c4 => ?_)
        · skip
          refine lv_iload_n hx hb dX11_other_85 rfl (lv_at hl 1 rfl) ?_
          refine lv_istore (lv' := [(4, .int lo), (0, .ref h0), (1, .int lo), (2, .int xh), (3, .int sm)]) hx hb dX11_other_86 hl (by decide) rfl (fun ls hl => ?_)
          refine lv_aload_n hx hb dX11_other_88 rfl (lv_at hl 1 rfl) ?_
          obtain ⟨hPc, hDc, hFc⟩ := va_sub3 (ws' := [(h0, .inr (11, [.ref st, .int (nI N), .int (nI B), .ref rp, .int vrs, .int vrb, .int vhs, .int vca, .int vxs, .int vxb, .ref tp, .int (nI T), .int vfa, .int vbr, .int vba, .int (nI nsp), .int (nI nhe), .int vtk, .int vva, .ref cu, .ref lt, .ref od, .ref th, .ref be, .ref ln, .int (nI S), .ref ma, .int (nI M), .ref ah, .ref bh, .ref ik, .ref la, .ref lg, .ref ce, .int vto])), (tp, .inl (G 0, 320, .inl ftp))]) hP hD hS hA [0, 1] (by decide) rfl
          have tn1295_ : nIT nsp := fun _ => nI_toInt (by first | omega | (have t_c1 := neI c1; have t_c2 := neI c2; have t_c3 := neI c3; have t_c4 := neI c4; have : (0 : Int32).toInt = 0 := qI_0; omega))
          have tn1296_ : nIT nhe := fun _ => nI_toInt (by first | omega | (have t_c1 := neI c1; have t_c2 := neI c2; have t_c3 := neI c3; have t_c4 := neI c4; have : (0 : Int32).toInt = 0 := qI_0; omega))
          refine va_callv (va_runV (As := []) (rest := []) ⟨hx, hb, hml, hown, hg⟩ (c_X11_goesOnE l dC dI G _ h0 st N B rp tp T nsp nhe cu lt od th be ln S ma M ah bh ik la lg ce vrs vrb vhs vca vxs vxb vfa vbr vba vtk vva vto ftp hN hB_ hT_ hS0 hM_ hbr hsp (by have t_c1 := neI c1; have t_c2 := neI c2; have t_c3 := neI c3; have t_c4 := neI c4; have : (0 : Int32).toInt = 0 := qI_0; have t_n0 : (nI N).toInt = (N : Int) := tn1290_ (); have t_n1 : (nI B).toInt = (B : Int) := tn1291_ (); have t_n2 : (nI T).toInt = (T : Int) := tn1292_ (); have t_n3 : (nI nsp).toInt = (nsp : Int) := tn1295_ (); have t_n4 : (nI nhe).toInt = (nhe : Int) := tn1296_ (); have t_n5 : (nI S).toInt = (S : Int) := tn1293_ (); have t_n6 : (nI M).toInt = (M : Int) := tn1294_ (); have z0 : (0 : Int32).toInt = 0 := qI_0; have z1 : (1 : Int32).toInt = 1 := qI_1; have z2 : (2 : Int32).toInt = 2 := qI_2; have z3 : (3 : Int32).toInt = 3 := qI_3; have z5 : (5 : Int32).toInt = 5 := qI_5; have z9 : (9 : Int32).toInt = 9 := qI_9; omega) htb) (kwV hg mfX11_goesOn wt_999 ⟨Nat.le_of_ble_eq_true rfl, Nat.le_of_ble_eq_true rfl⟩) (preVW hK hPc hDc (ci := 11) rfl rfl) rfl rfl hl.1 rfl (lv_room (Nat.le_of_ble_eq_true rfl)) dX11_other_89 ⟨Nat.le_of_ble_eq_true rfl, Nat.le_of_ble_eq_true rfl⟩) hS (fun q _ h => hFc q h) hFc (fun ur5 t H1 locs ht hvm w6 hB hz1 hk1 hS => ?_)
          obtain ⟨u7, u8, u9, u10, u11, u12⟩ := ur5
          obtain ⟨hP1, hD1⟩ := hB
          rw [ht] at hP1
          obtain ⟨hP, hD⟩ := va_join (wr := []) (w1 := [(h0, .inr (11, [.ref st, .int (nI N), .int (nI B), .ref rp, .int vrs, .int vrb, .int vhs, .int vca, .int vxs, .int vxb, .ref tp, .int (nI T), .int vfa, .int u7, .int u8, .int (nI u9), .int (nI u10), .int u11, .int u12, .ref cu, .ref lt, .ref od, .ref th, .ref be, .ref ln, .int (nI S), .ref ma, .int (nI M), .ref ah, .ref bh, .ref ik, .ref la, .ref lg, .ref ce, .int vto])), (tp, .inl (G 0, 320, .inl ftp))]) hP hD [0, 1] [] rfl rfl (by decide) (by decide) hk1 hFc hP1 hD1
          have w6 : 0 ≤ u7.toInt ∧ (vbr.toInt = 0 ∨ u7.toInt = vbr.toInt) ∧ nsp ≤ u9 ∧ u9 ≤ T ∧ u10 ≤ u9 ∧ (0 < vbr.toInt ∨ u11.toInt = 0 ∨ nsp < u9) ∧ (u7, u8, u9, u10, u11, u12) = gOn ftp T vbr vba nsp nhe vtk vva := w6
          generalize H1 = H at hP hS ⊢
          refine lv_iload hx hb dX11_other_92 (lv_at hl 0 rfl) ?_
          have hpost : (lo.toInt ≤ (lo : Int32).toInt ∧ (lo : Int32).toInt ≤ xh.toInt) ∧ (lo : Int32) = otV lo xh sm vbr vtk vva := by
            have eC : otC lo xh sm vbr vtk vva = 0 := (by unfold otC; (repeat (first | rw [if_pos (by assumption)] | rw [if_neg (by assumption)] | rw [if_pos (by (have t_c1 := neI c1; have t_c2 := neI c2; have t_c3 := neI c3; have t_c4 := neI c4; have : (0 : Int32).toInt = 0 := qI_0; have t_n0 : (nI N).toInt = (N : Int) := tn1290_ (); have t_n1 : (nI B).toInt = (B : Int) := tn1291_ (); have t_n2 : (nI T).toInt = (T : Int) := tn1292_ (); have t_n3 : (nI nsp).toInt = (nsp : Int) := tn1295_ (); have t_n4 : (nI nhe).toInt = (nhe : Int) := tn1296_ (); have t_n5 : (nI S).toInt = (S : Int) := tn1293_ (); have t_n6 : (nI M).toInt = (M : Int) := tn1294_ (); have z0 : (0 : Int32).toInt = 0 := qI_0; have z1 : (1 : Int32).toInt = 1 := qI_1; have z2 : (2 : Int32).toInt = 2 := qI_2; have z3 : (3 : Int32).toInt = 3 := qI_3; have z5 : (5 : Int32).toInt = 5 := qI_5; have z9 : (9 : Int32).toInt = 9 := qI_9; omega))] | rw [if_neg (by (have t_c1 := neI c1; have t_c2 := neI c2; have t_c3 := neI c3; have t_c4 := neI c4; have : (0 : Int32).toInt = 0 := qI_0; have t_n0 : (nI N).toInt = (N : Int) := tn1290_ (); have t_n1 : (nI B).toInt = (B : Int) := tn1291_ (); have t_n2 : (nI T).toInt = (T : Int) := tn1292_ (); have t_n3 : (nI nsp).toInt = (nsp : Int) := tn1295_ (); have t_n4 : (nI nhe).toInt = (nhe : Int) := tn1296_ (); have t_n5 : (nI S).toInt = (S : Int) := tn1293_ (); have t_n6 : (nI M).toInt = (M : Int) := tn1294_ (); have z0 : (0 : Int32).toInt = 0 := qI_0; have z1 : (1 : Int32).toInt = 1 := qI_1; have z2 : (2 : Int32).toInt = 2 := qI_2; have z3 : (3 : Int32).toInt = 3 := qI_3; have z5 : (5 : Int32).toInt = 5 := qI_5; have z9 : (9 : Int32).toInt = 9 := qI_9; omega))] | rw [if_pos (by decide)] | rw [if_neg (by decide)])))
            have eB : otB lo xh sm vbr vtk vva = vbr := (by unfold otB; rw [eC, if_pos rfl])
            have eA : otA lo xh sm vbr vba nhe vtk vva = vba := (by unfold otA; rw [eC, if_pos rfl])
            refine ⟨⟨by (have t_c1 := neI c1; have t_c2 := neI c2; have t_c3 := neI c3; have t_c4 := neI c4; have : (0 : Int32).toInt = 0 := qI_0; have t_n0 : (nI N).toInt = (N : Int) := tn1290_ (); have t_n1 : (nI B).toInt = (B : Int) := tn1291_ (); have t_n2 : (nI T).toInt = (T : Int) := tn1292_ (); have t_n3 : (nI nsp).toInt = (nsp : Int) := tn1295_ (); have t_n4 : (nI nhe).toInt = (nhe : Int) := tn1296_ (); have t_n5 : (nI S).toInt = (S : Int) := tn1293_ (); have t_n6 : (nI M).toInt = (M : Int) := tn1294_ (); have z0 : (0 : Int32).toInt = 0 := qI_0; have z1 : (1 : Int32).toInt = 1 := qI_1; have z2 : (2 : Int32).toInt = 2 := qI_2; have z3 : (3 : Int32).toInt = 3 := qI_3; have z5 : (5 : Int32).toInt = 5 := qI_5; have z9 : (9 : Int32).toInt = 9 := qI_9; omega), by (have t_c1 := neI c1; have t_c2 := neI c2; have t_c3 := neI c3; have t_c4 := neI c4; have : (0 : Int32).toInt = 0 := qI_0; have t_n0 : (nI N).toInt = (N : Int) := tn1290_ (); have t_n1 : (nI B).toInt = (B : Int) := tn1291_ (); have t_n2 : (nI T).toInt = (T : Int) := tn1292_ (); have t_n3 : (nI nsp).toInt = (nsp : Int) := tn1295_ (); have t_n4 : (nI nhe).toInt = (nhe : Int) := tn1296_ (); have t_n5 : (nI S).toInt = (S : Int) := tn1293_ (); have t_n6 : (nI M).toInt = (M : Int) := tn1294_ (); have z0 : (0 : Int32).toInt = 0 := qI_0; have z1 : (1 : Int32).toInt = 1 := qI_1; have z2 : (2 : Int32).toInt = 2 := qI_2; have z3 : (3 : Int32).toInt = 3 := qI_3; have z5 : (5 : Int32).toInt = 5 := qI_5; have z9 : (9 : Int32).toInt = 9 := qI_9; omega)⟩, ?_⟩
            unfold otV
            rw [eB]
            first | rw [if_pos (by assumption)] | rw [if_neg (by assumption)]
          obtain ⟨hP9, hD9⟩ := va_sub2 (ws' := [(h0, .inr (11, [.ref st, .int (nI N), .int (nI B), .ref rp, .int vrs, .int vrb, .int vhs, .int vca, .int vxs, .int vxb, .ref tp, .int (nI T), .int vfa, .int u7, .int u8, .int (nI u9), .int (nI u10), .int u11, .int u12, .ref cu, .ref lt, .ref od, .ref th, .ref be, .ref ln, .int (nI S), .ref ma, .int (nI M), .ref ah, .ref bh, .ref ik, .ref la, .ref lg, .ref ce, .int vto])), (tp, .inl (G 0, 320, .inl ftp))]) hP hD [0, 1] (by decide) rfl
          refine W.widen (k := 0) (n := 0) (Nat.le_of_ble_eq_true rfl) (Nat.le_of_ble_eq_true rfl) ?_
          exact W.iret (v := lo) hx hb hr (fun t ht hW => ⟨⟨lo, (u7, u8, u9, u10, u11, u12), rfl, ⟨hpost, (by have eC : otC lo xh sm vbr vtk vva = 0 := (by unfold otC; (repeat (first | rw [if_pos (by assumption)] | rw [if_neg (by assumption)] | rw [if_pos (by (have t_c1 := neI c1; have t_c2 := neI c2; have t_c3 := neI c3; have t_c4 := neI c4; have : (0 : Int32).toInt = 0 := qI_0; have t_n0 : (nI N).toInt = (N : Int) := tn1290_ (); have t_n1 : (nI B).toInt = (B : Int) := tn1291_ (); have t_n2 : (nI T).toInt = (T : Int) := tn1292_ (); have t_n3 : (nI nsp).toInt = (nsp : Int) := tn1295_ (); have t_n4 : (nI nhe).toInt = (nhe : Int) := tn1296_ (); have t_n5 : (nI S).toInt = (S : Int) := tn1293_ (); have t_n6 : (nI M).toInt = (M : Int) := tn1294_ (); have z0 : (0 : Int32).toInt = 0 := qI_0; have z1 : (1 : Int32).toInt = 1 := qI_1; have z2 : (2 : Int32).toInt = 2 := qI_2; have z3 : (3 : Int32).toInt = 3 := qI_3; have z5 : (5 : Int32).toInt = 5 := qI_5; have z9 : (9 : Int32).toInt = 9 := qI_9; omega))] | rw [if_neg (by (have t_c1 := neI c1; have t_c2 := neI c2; have t_c3 := neI c3; have t_c4 := neI c4; have : (0 : Int32).toInt = 0 := qI_0; have t_n0 : (nI N).toInt = (N : Int) := tn1290_ (); have t_n1 : (nI B).toInt = (B : Int) := tn1291_ (); have t_n2 : (nI T).toInt = (T : Int) := tn1292_ (); have t_n3 : (nI nsp).toInt = (nsp : Int) := tn1295_ (); have t_n4 : (nI nhe).toInt = (nhe : Int) := tn1296_ (); have t_n5 : (nI S).toInt = (S : Int) := tn1293_ (); have t_n6 : (nI M).toInt = (M : Int) := tn1294_ (); have z0 : (0 : Int32).toInt = 0 := qI_0; have z1 : (1 : Int32).toInt = 1 := qI_1; have z2 : (2 : Int32).toInt = 2 := qI_2; have z3 : (3 : Int32).toInt = 3 := qI_3; have z5 : (5 : Int32).toInt = 5 := qI_5; have z9 : (9 : Int32).toInt = 9 := qI_9; omega))] | rw [if_pos (by decide)] | rw [if_neg (by decide)]))); have eB : otB lo xh sm vbr vtk vva = vbr := (by unfold otB; rw [eC, if_pos rfl]); have eA : otA lo xh sm vbr vba nhe vtk vva = vba := (by unfold otA; rw [eC, if_pos rfl]); refine ⟨by (have t_c1 := neI c1; have t_c2 := neI c2; have t_c3 := neI c3; have t_c4 := neI c4; have : (0 : Int32).toInt = 0 := qI_0; have t_n0 : (nI N).toInt = (N : Int) := tn1290_ (); have t_n1 : (nI B).toInt = (B : Int) := tn1291_ (); have t_n2 : (nI T).toInt = (T : Int) := tn1292_ (); have t_n3 : (nI nsp).toInt = (nsp : Int) := tn1295_ (); have t_n4 : (nI nhe).toInt = (nhe : Int) := tn1296_ (); have t_n5 : (nI S).toInt = (S : Int) := tn1293_ (); have t_n6 : (nI M).toInt = (M : Int) := tn1294_ (); have z0 : (0 : Int32).toInt = 0 := qI_0; have z1 : (1 : Int32).toInt = 1 := qI_1; have z2 : (2 : Int32).toInt = 2 := qI_2; have z3 : (3 : Int32).toInt = 3 := qI_3; have z5 : (5 : Int32).toInt = 5 := qI_5; have z9 : (9 : Int32).toInt = 9 := qI_9; omega), by (have t_c1 := neI c1; have t_c2 := neI c2; have t_c3 := neI c3; have t_c4 := neI c4; have : (0 : Int32).toInt = 0 := qI_0; have t_n0 : (nI N).toInt = (N : Int) := tn1290_ (); have t_n1 : (nI B).toInt = (B : Int) := tn1291_ (); have t_n2 : (nI T).toInt = (T : Int) := tn1292_ (); have t_n3 : (nI nsp).toInt = (nsp : Int) := tn1295_ (); have t_n4 : (nI nhe).toInt = (nhe : Int) := tn1296_ (); have t_n5 : (nI S).toInt = (S : Int) := tn1293_ (); have t_n6 : (nI M).toInt = (M : Int) := tn1294_ (); have z0 : (0 : Int32).toInt = 0 := qI_0; have z1 : (1 : Int32).toInt = 1 := qI_1; have z2 : (2 : Int32).toInt = 2 := qI_2; have z3 : (3 : Int32).toInt = 3 := qI_3; have z5 : (5 : Int32).toInt = 5 := qI_5; have z9 : (9 : Int32).toInt = 9 := qI_9; omega), by (have t_c1 := neI c1; have t_c2 := neI c2; have t_c3 := neI c3; have t_c4 := neI c4; have : (0 : Int32).toInt = 0 := qI_0; have t_n0 : (nI N).toInt = (N : Int) := tn1290_ (); have t_n1 : (nI B).toInt = (B : Int) := tn1291_ (); have t_n2 : (nI T).toInt = (T : Int) := tn1292_ (); have t_n3 : (nI nsp).toInt = (nsp : Int) := tn1295_ (); have t_n4 : (nI nhe).toInt = (nhe : Int) := tn1296_ (); have t_n5 : (nI S).toInt = (S : Int) := tn1293_ (); have t_n6 : (nI M).toInt = (M : Int) := tn1294_ (); have z0 : (0 : Int32).toInt = 0 := qI_0; have z1 : (1 : Int32).toInt = 1 := qI_1; have z2 : (2 : Int32).toInt = 2 := qI_2; have z3 : (3 : Int32).toInt = 3 := qI_3; have z5 : (5 : Int32).toInt = 5 := qI_5; have z9 : (9 : Int32).toInt = 9 := qI_9; omega), by (have t_c1 := neI c1; have t_c2 := neI c2; have t_c3 := neI c3; have t_c4 := neI c4; have : (0 : Int32).toInt = 0 := qI_0; have t_n0 : (nI N).toInt = (N : Int) := tn1290_ (); have t_n1 : (nI B).toInt = (B : Int) := tn1291_ (); have t_n2 : (nI T).toInt = (T : Int) := tn1292_ (); have t_n3 : (nI nsp).toInt = (nsp : Int) := tn1295_ (); have t_n4 : (nI nhe).toInt = (nhe : Int) := tn1296_ (); have t_n5 : (nI S).toInt = (S : Int) := tn1293_ (); have t_n6 : (nI M).toInt = (M : Int) := tn1294_ (); have z0 : (0 : Int32).toInt = 0 := qI_0; have z1 : (1 : Int32).toInt = 1 := qI_1; have z2 : (2 : Int32).toInt = 2 := qI_2; have z3 : (3 : Int32).toInt = 3 := qI_3; have z5 : (5 : Int32).toInt = 5 := qI_5; have z9 : (9 : Int32).toInt = 9 := qI_9; omega), by (have t_c1 := neI c1; have t_c2 := neI c2; have t_c3 := neI c3; have t_c4 := neI c4; have : (0 : Int32).toInt = 0 := qI_0; have t_n0 : (nI N).toInt = (N : Int) := tn1290_ (); have t_n1 : (nI B).toInt = (B : Int) := tn1291_ (); have t_n2 : (nI T).toInt = (T : Int) := tn1292_ (); have t_n3 : (nI nsp).toInt = (nsp : Int) := tn1295_ (); have t_n4 : (nI nhe).toInt = (nhe : Int) := tn1296_ (); have t_n5 : (nI S).toInt = (S : Int) := tn1293_ (); have t_n6 : (nI M).toInt = (M : Int) := tn1294_ (); have z0 : (0 : Int32).toInt = 0 := qI_0; have z1 : (1 : Int32).toInt = 1 := qI_1; have z2 : (2 : Int32).toInt = 2 := qI_2; have z3 : (3 : Int32).toInt = 3 := qI_3; have z5 : (5 : Int32).toInt = 5 := qI_5; have z9 : (9 : Int32).toInt = 9 := qI_9; omega), by (have t_c1 := neI c1; have t_c2 := neI c2; have t_c3 := neI c3; have t_c4 := neI c4; have : (0 : Int32).toInt = 0 := qI_0; have t_n0 : (nI N).toInt = (N : Int) := tn1290_ (); have t_n1 : (nI B).toInt = (B : Int) := tn1291_ (); have t_n2 : (nI T).toInt = (T : Int) := tn1292_ (); have t_n3 : (nI nsp).toInt = (nsp : Int) := tn1295_ (); have t_n4 : (nI nhe).toInt = (nhe : Int) := tn1296_ (); have t_n5 : (nI S).toInt = (S : Int) := tn1293_ (); have t_n6 : (nI M).toInt = (M : Int) := tn1294_ (); have z0 : (0 : Int32).toInt = 0 := qI_0; have z1 : (1 : Int32).toInt = 1 := qI_1; have z2 : (2 : Int32).toInt = 2 := qI_2; have z3 : (3 : Int32).toInt = 3 := qI_3; have z5 : (5 : Int32).toInt = 5 := qI_5; have z9 : (9 : Int32).toInt = 9 := qI_9; omega), ?_⟩; rw [eB, eA]; have e7 := w6.2.2.2.2.2.2; exact e7)⟩, ⟨by rw [ht]; exact hP9, hD9⟩⟩, hS.F ht⟩) hS.2.2 dX11_other_94
        · skip
          have t_c1 := neI c1
          have t_c2 := neI c2
          have t_c3 := neI c3
          have t_c4 := eqI c4
          have : (0 : Int32).toInt = 0 := qI_0
          have t_n0 : (nI N).toInt = (N : Int) := tn1290_ ()
          have t_n1 : (nI B).toInt = (B : Int) := tn1291_ ()
          have t_n2 : (nI T).toInt = (T : Int) := tn1292_ ()
          have tn1297_ : nIT nsp := fun _ => nI_toInt (by omega)
          have t_n3 : (nI nsp).toInt = (nsp : Int) := tn1297_ ()
          have tn1298_ : nIT nhe := fun _ => nI_toInt (by omega)
          have t_n4 : (nI nhe).toInt = (nhe : Int) := tn1298_ ()
          have t_n5 : (nI S).toInt = (S : Int) := tn1293_ ()
          have t_n6 : (nI M).toInt = (M : Int) := tn1294_ ()
          exfalso; omega
      · skip
        have t_c1 := neI c1
        have t_c2 := neI c2
        have t_c3 := eqI c3
        have : (0 : Int32).toInt = 0 := qI_0
        have t_n0 : (nI N).toInt = (N : Int) := tn1290_ ()
        have t_n1 : (nI B).toInt = (B : Int) := tn1291_ ()
        have t_n2 : (nI T).toInt = (T : Int) := tn1292_ ()
        have tn1299_ : nIT nsp := fun _ => nI_toInt (by omega)
        have t_n3 : (nI nsp).toInt = (nsp : Int) := tn1299_ ()
        have tn1300_ : nIT nhe := fun _ => nI_toInt (by omega)
        have t_n4 : (nI nhe).toInt = (nhe : Int) := tn1300_ ()
        have t_n5 : (nI S).toInt = (S : Int) := tn1293_ ()
        have t_n6 : (nI M).toInt = (M : Int) := tn1294_ ()
        exfalso; omega
    · skip
      have t_c1 := neI c1
      have t_c2 := eqI c2
      have : (0 : Int32).toInt = 0 := qI_0
      have t_n0 : (nI N).toInt = (N : Int) := tn1290_ ()
      have t_n1 : (nI B).toInt = (B : Int) := tn1291_ ()
      have t_n2 : (nI T).toInt = (T : Int) := tn1292_ ()
      have tn1301_ : nIT nsp := fun _ => nI_toInt (by omega)
      have t_n3 : (nI nsp).toInt = (nsp : Int) := tn1301_ ()
      have tn1302_ : nIT nhe := fun _ => nI_toInt (by omega)
      have t_n4 : (nI nhe).toInt = (nhe : Int) := tn1302_ ()
      have t_n5 : (nI S).toInt = (S : Int) := tn1293_ ()
      have t_n6 : (nI M).toInt = (M : Int) := tn1294_ ()
      exfalso; omega
  · skip
    refine lv_aload_n hx hb dX11_other_7 rfl (lv_at hl 0 rfl) ?_
    refine va_get (D := (dC, dI)) (ci := 11) (v := .int vtk) (C := RX11) (T := TX11) (N := 35) hx hb hg inG11 hown hK.1 hP 0 rfl rfl 17 (Nat.le_of_ble_eq_true rfl) (hg _ wt_895) (fun _ h9 => h9) rfl dX11_other_8 ?_
    refine lv_iconst (v := 2) hx hb dX11_other_11 rfl ?_
    refine lv_icmp_eq (tgt := 20) hx hb dX11_other_12 rfl (fun c13 => ?_) (fun c13 => ?_)
    · skip
      refine lv_aload_n hx hb dX11_other_20 rfl (lv_at hl 0 rfl) ?_
      refine va_get (D := (dC, dI)) (ci := 11) (v := .int vbr) (C := RX11) (T := TX11) (N := 35) hx hb hg inG11 hown hK.1 hP 0 rfl rfl 13 (Nat.le_of_ble_eq_true rfl) (hg _ wt_891) (fun _ h9 => h9) rfl dX11_other_21 ?_
      refine lv_if_ne (tgt := 47) hx hb dX11_other_24 rfl (fun c14 => ?_) (fun c14 => ?_)
      · skip
        have t_c1 := eqI c1
        have t_c13 := eqI c13
        have t_c14 := neI c14
        have : (0 : Int32).toInt = 0 := qI_0
        have : (2 : Int32).toInt = 2 := qI_2
        have t_n0 : (nI N).toInt = (N : Int) := tn1290_ ()
        have t_n1 : (nI B).toInt = (B : Int) := tn1291_ ()
        have t_n2 : (nI T).toInt = (T : Int) := tn1292_ ()
        have tn1303_ : nIT nsp := fun _ => nI_toInt (by omega)
        have t_n3 : (nI nsp).toInt = (nsp : Int) := tn1303_ ()
        have tn1304_ : nIT nhe := fun _ => nI_toInt (by omega)
        have t_n4 : (nI nhe).toInt = (nhe : Int) := tn1304_ ()
        have t_n5 : (nI S).toInt = (S : Int) := tn1293_ ()
        have t_n6 : (nI M).toInt = (M : Int) := tn1294_ ()
        exfalso; omega
      · skip
        refine lv_aload_n hx hb dX11_other_27 rfl (lv_at hl 0 rfl) ?_
        refine va_get (D := (dC, dI)) (ci := 11) (v := .int vva) (C := RX11) (T := TX11) (N := 35) hx hb hg inG11 hown hK.1 hP 0 rfl rfl 18 (Nat.le_of_ble_eq_true rfl) (hg _ wt_896) (fun _ h9 => h9) rfl dX11_other_28 ?_
        refine lv_i2l (v := vva.toInt64) hx hb dX11_other_31 rfl ?_
        refine lv_iload_n hx hb dX11_other_32 rfl (lv_at hl 1 rfl) ?_
        refine lv_i2l (v := lo.toInt64) hx hb dX11_other_33 rfl ?_
        refine lv_iload_n hx hb dX11_other_34 rfl (lv_at hl 2 rfl) ?_
        refine lv_i2l (v := xh.toInt64) hx hb dX11_other_35 rfl ?_
        have hPc := hP.sub (ws' := []) [] rfl
        refine va_calli (va_runS (As := [.long vva.toInt64, .long lo.toInt64, .long xh.toInt64]) (rest := []) ⟨hx, hb, hml, hown, hg⟩ (c_X11_in l dC dI G _ vva.toInt64 lo.toInt64 xh.toInt64) (kwS hg mfX11_in wt_992 ⟨Nat.le_of_ble_eq_true rfl, Nat.le_of_ble_eq_true rfl⟩) (preSR hK hPc) rfl rfl hl.1 rfl (lv_room (Nat.le_of_ble_eq_true rfl)) dX11_other_36 ⟨Nat.le_of_ble_eq_true rfl, Nat.le_of_ble_eq_true rfl⟩) hS (fun q h1 h2 => absurd h2 (Nat.not_le.mpr h1)) (fun q h => hA q (Nat.le_trans hS.1 h)) (fun r15 ur15 t H1 locs ht hvm w16 hB hz1 hk1 hS => ?_)
        have hP := keepR hP hk1
        obtain ⟨w16, w16x⟩ := w16
        try simp only [l_ii] at w16
        subst w16
        refine lv_if_ne (tgt := 47) hx hb dX11_other_39 rfl (fun c17 => ?_) (fun c17 => ?_)
        · skip
          have b18 := if10_p c17
          refine lv_aload_n hx hb dX11_other_47 rfl (lv_at hl 0 rfl) ?_
          refine va_get (D := (dC, dI)) (ci := 11) (v := .int vbr) (C := RX11) (T := TX11) (N := 35) hx hb hg inG11 hown hK.1 hP 0 rfl rfl 13 (Nat.le_of_ble_eq_true rfl) (hg _ wt_891) (fun _ h9 => h9) rfl dX11_other_48 ?_
          refine lv_if_ne (tgt := 71) hx hb dX11_other_51 rfl (fun c19 => ?_) (fun c19 => ?_)
          · skip
            have t_c1 := eqI c1
            have t_c13 := eqI c13
            have t_c14 := eqI c14
            have t_b18 := b18
            have t_c19 := neI c19
            have : (0 : Int32).toInt = 0 := qI_0
            have : (2 : Int32).toInt = 2 := qI_2
            have t_n0 : (nI N).toInt = (N : Int) := tn1290_ ()
            have t_n1 : (nI B).toInt = (B : Int) := tn1291_ ()
            have t_n2 : (nI T).toInt = (T : Int) := tn1292_ ()
            have tn1305_ : nIT nsp := fun _ => nI_toInt (by omega)
            have t_n3 : (nI nsp).toInt = (nsp : Int) := tn1305_ ()
            have tn1306_ : nIT nhe := fun _ => nI_toInt (by omega)
            have t_n4 : (nI nhe).toInt = (nhe : Int) := tn1306_ ()
            have t_n5 : (nI S).toInt = (S : Int) := tn1293_ ()
            have t_n6 : (nI M).toInt = (M : Int) := tn1294_ ()
            exfalso; omega
          · skip
            refine lv_iload_n hx hb dX11_other_54 rfl (lv_at hl 3 rfl) ?_
            refine lv_aload_n hx hb dX11_other_55 rfl (lv_at hl 0 rfl) ?_
            refine va_get (D := (dC, dI)) (ci := 11) (v := .int vva) (C := RX11) (T := TX11) (N := 35) hx hb hg inG11 hown hK.1 hP 0 rfl rfl 18 (Nat.le_of_ble_eq_true rfl) (hg _ wt_896) (fun _ h9 => h9) rfl dX11_other_56 ?_
            refine lv_ishr hx hb dX11_other_59 ?_
            refine lv_iconst (v := 1) hx hb dX11_other_60 rfl ?_
            refine lv_iand hx hb dX11_other_61 ?_
            refine lv_iconst (v := 1) hx hb dX11_other_62 rfl ?_
            refine lv_icmp_ne (tgt := 71) hx hb dX11_other_63 rfl (fun c20 => ?_) (fun c20 => ?_)
            · skip
              refine lv_aload_n hx hb dX11_other_71 rfl (lv_at hl 0 rfl) ?_
              refine va_get (D := (dC, dI)) (ci := 11) (v := .int vbr) (C := RX11) (T := TX11) (N := 35) hx hb hg inG11 hown hK.1 hP 0 rfl rfl 13 (Nat.le_of_ble_eq_true rfl) (hg _ wt_891) (fun _ h9 => h9) rfl dX11_other_72 ?_
              refine lv_if_ne (tgt := 85) hx hb dX11_other_75 rfl (fun c21 => ?_) (fun c21 => ?_)
              · skip
                have t_c1 := eqI c1
                have t_c13 := eqI c13
                have t_c14 := eqI c14
                have t_b18 := b18
                have t_c19 := eqI c19
                have t_c20 := neI c20
                have t_c21 := neI c21
                have : (0 : Int32).toInt = 0 := qI_0
                have : (1 : Int32).toInt = 1 := qI_1
                have : (2 : Int32).toInt = 2 := qI_2
                have t_n0 : (nI N).toInt = (N : Int) := tn1290_ ()
                have t_n1 : (nI B).toInt = (B : Int) := tn1291_ ()
                have t_n2 : (nI T).toInt = (T : Int) := tn1292_ ()
                have tn1307_ : nIT nsp := fun _ => nI_toInt (by omega)
                have t_n3 : (nI nsp).toInt = (nsp : Int) := tn1307_ ()
                have tn1308_ : nIT nhe := fun _ => nI_toInt (by omega)
                have t_n4 : (nI nhe).toInt = (nhe : Int) := tn1308_ ()
                have t_n5 : (nI S).toInt = (S : Int) := tn1293_ ()
                have t_n6 : (nI M).toInt = (M : Int) := tn1294_ ()
                exfalso; omega
              · skip
                refine lv_aload_n hx hb dX11_other_78 rfl (lv_at hl 0 rfl) ?_
                refine va_get (D := (dC, dI)) (ci := 11) (v := .int vva) (C := RX11) (T := TX11) (N := 35) hx hb hg inG11 hown hK.1 hP 0 rfl rfl 18 (Nat.le_of_ble_eq_true rfl) (hg _ wt_896) (fun _ h9 => h9) rfl dX11_other_79 ?_
                refine lv_goto (tgt := 86) hx hb dX11_other_82 rfl ?_
                refine lv_istore (lv' := [(4, .int vva), (0, .ref h0), (1, .int lo), (2, .int xh), (3, .int sm)]) hx hb dX11_other_86 hl (by decide) rfl (fun ls hl => ?_)
                refine lv_aload_n hx hb dX11_other_88 rfl (lv_at hl 1 rfl) ?_
                obtain ⟨hPc, hDc, hFc⟩ := va_sub3 (ws' := [(h0, .inr (11, [.ref st, .int (nI N), .int (nI B), .ref rp, .int vrs, .int vrb, .int vhs, .int vca, .int vxs, .int vxb, .ref tp, .int (nI T), .int vfa, .int vbr, .int vba, .int (nI nsp), .int (nI nhe), .int vtk, .int vva, .ref cu, .ref lt, .ref od, .ref th, .ref be, .ref ln, .int (nI S), .ref ma, .int (nI M), .ref ah, .ref bh, .ref ik, .ref la, .ref lg, .ref ce, .int vto])), (tp, .inl (G 0, 320, .inl ftp))]) hP hD hS hA [0, 1] (by decide) rfl
                have tn1309_ : nIT nsp := fun _ => nI_toInt (by first | omega | (have t_c1 := eqI c1; have t_c13 := eqI c13; have t_c14 := eqI c14; have t_b18 := b18; have t_c19 := eqI c19; have t_c20 := neI c20; have t_c21 := eqI c21; have : (0 : Int32).toInt = 0 := qI_0; have : (1 : Int32).toInt = 1 := qI_1; have : (2 : Int32).toInt = 2 := qI_2; omega))
                have tn1310_ : nIT nhe := fun _ => nI_toInt (by first | omega | (have t_c1 := eqI c1; have t_c13 := eqI c13; have t_c14 := eqI c14; have t_b18 := b18; have t_c19 := eqI c19; have t_c20 := neI c20; have t_c21 := eqI c21; have : (0 : Int32).toInt = 0 := qI_0; have : (1 : Int32).toInt = 1 := qI_1; have : (2 : Int32).toInt = 2 := qI_2; omega))
                refine va_callv (va_runV (As := []) (rest := []) ⟨hx, hb, hml, hown, hg⟩ (c_X11_goesOnE l dC dI G _ h0 st N B rp tp T nsp nhe cu lt od th be ln S ma M ah bh ik la lg ce vrs vrb vhs vca vxs vxb vfa vbr vba vtk vva vto ftp hN hB_ hT_ hS0 hM_ hbr hsp (by have t_c1 := eqI c1; have t_c13 := eqI c13; have t_c14 := eqI c14; have t_b18 := b18; have t_c19 := eqI c19; have t_c20 := neI c20; have t_c21 := eqI c21; have : (0 : Int32).toInt = 0 := qI_0; have : (1 : Int32).toInt = 1 := qI_1; have : (2 : Int32).toInt = 2 := qI_2; have t_n0 : (nI N).toInt = (N : Int) := tn1290_ (); have t_n1 : (nI B).toInt = (B : Int) := tn1291_ (); have t_n2 : (nI T).toInt = (T : Int) := tn1292_ (); have t_n3 : (nI nsp).toInt = (nsp : Int) := tn1309_ (); have t_n4 : (nI nhe).toInt = (nhe : Int) := tn1310_ (); have t_n5 : (nI S).toInt = (S : Int) := tn1293_ (); have t_n6 : (nI M).toInt = (M : Int) := tn1294_ (); have z0 : (0 : Int32).toInt = 0 := qI_0; have z1 : (1 : Int32).toInt = 1 := qI_1; have z2 : (2 : Int32).toInt = 2 := qI_2; have z3 : (3 : Int32).toInt = 3 := qI_3; have z5 : (5 : Int32).toInt = 5 := qI_5; have z9 : (9 : Int32).toInt = 9 := qI_9; omega) htb) (kwV hg mfX11_goesOn wt_999 ⟨Nat.le_of_ble_eq_true rfl, Nat.le_of_ble_eq_true rfl⟩) (preVW hK hPc hDc (ci := 11) rfl rfl) rfl rfl hl.1 rfl (lv_room (Nat.le_of_ble_eq_true rfl)) dX11_other_89 ⟨Nat.le_of_ble_eq_true rfl, Nat.le_of_ble_eq_true rfl⟩) hS (fun q _ h => hFc q h) hFc (fun ur22 t H1 locs ht hvm w23 hB hz1 hk1 hS => ?_)
                obtain ⟨u24, u25, u26, u27, u28, u29⟩ := ur22
                obtain ⟨hP1, hD1⟩ := hB
                rw [ht] at hP1
                obtain ⟨hP, hD⟩ := va_join (wr := []) (w1 := [(h0, .inr (11, [.ref st, .int (nI N), .int (nI B), .ref rp, .int vrs, .int vrb, .int vhs, .int vca, .int vxs, .int vxb, .ref tp, .int (nI T), .int vfa, .int u24, .int u25, .int (nI u26), .int (nI u27), .int u28, .int u29, .ref cu, .ref lt, .ref od, .ref th, .ref be, .ref ln, .int (nI S), .ref ma, .int (nI M), .ref ah, .ref bh, .ref ik, .ref la, .ref lg, .ref ce, .int vto])), (tp, .inl (G 0, 320, .inl ftp))]) hP hD [0, 1] [] rfl rfl (by decide) (by decide) hk1 hFc hP1 hD1
                have w23 : 0 ≤ u24.toInt ∧ (vbr.toInt = 0 ∨ u24.toInt = vbr.toInt) ∧ nsp ≤ u26 ∧ u26 ≤ T ∧ u27 ≤ u26 ∧ (0 < vbr.toInt ∨ u28.toInt = 0 ∨ nsp < u26) ∧ (u24, u25, u26, u27, u28, u29) = gOn ftp T vbr vba nsp nhe vtk vva := w23
                generalize H1 = H at hP hS ⊢
                refine lv_iload hx hb dX11_other_92 (lv_at hl 0 rfl) ?_
                have hpost : (lo.toInt ≤ (vva : Int32).toInt ∧ (vva : Int32).toInt ≤ xh.toInt) ∧ (vva : Int32) = otV lo xh sm vbr vtk vva := by
                  have eC : otC lo xh sm vbr vtk vva = 0 := (by unfold otC; (repeat (first | rw [if_pos (by assumption)] | rw [if_neg (by assumption)] | rw [if_pos (by (have t_c1 := eqI c1; have t_c13 := eqI c13; have t_c14 := eqI c14; have t_b18 := b18; have t_c19 := eqI c19; have t_c20 := neI c20; have t_c21 := eqI c21; have : (0 : Int32).toInt = 0 := qI_0; have : (1 : Int32).toInt = 1 := qI_1; have : (2 : Int32).toInt = 2 := qI_2; have t_n0 : (nI N).toInt = (N : Int) := tn1290_ (); have t_n1 : (nI B).toInt = (B : Int) := tn1291_ (); have t_n2 : (nI T).toInt = (T : Int) := tn1292_ (); have t_n3 : (nI nsp).toInt = (nsp : Int) := tn1309_ (); have t_n4 : (nI nhe).toInt = (nhe : Int) := tn1310_ (); have t_n5 : (nI S).toInt = (S : Int) := tn1293_ (); have t_n6 : (nI M).toInt = (M : Int) := tn1294_ (); have z0 : (0 : Int32).toInt = 0 := qI_0; have z1 : (1 : Int32).toInt = 1 := qI_1; have z2 : (2 : Int32).toInt = 2 := qI_2; have z3 : (3 : Int32).toInt = 3 := qI_3; have z5 : (5 : Int32).toInt = 5 := qI_5; have z9 : (9 : Int32).toInt = 9 := qI_9; omega))] | rw [if_neg (by (have t_c1 := eqI c1; have t_c13 := eqI c13; have t_c14 := eqI c14; have t_b18 := b18; have t_c19 := eqI c19; have t_c20 := neI c20; have t_c21 := eqI c21; have : (0 : Int32).toInt = 0 := qI_0; have : (1 : Int32).toInt = 1 := qI_1; have : (2 : Int32).toInt = 2 := qI_2; have t_n0 : (nI N).toInt = (N : Int) := tn1290_ (); have t_n1 : (nI B).toInt = (B : Int) := tn1291_ (); have t_n2 : (nI T).toInt = (T : Int) := tn1292_ (); have t_n3 : (nI nsp).toInt = (nsp : Int) := tn1309_ (); have t_n4 : (nI nhe).toInt = (nhe : Int) := tn1310_ (); have t_n5 : (nI S).toInt = (S : Int) := tn1293_ (); have t_n6 : (nI M).toInt = (M : Int) := tn1294_ (); have z0 : (0 : Int32).toInt = 0 := qI_0; have z1 : (1 : Int32).toInt = 1 := qI_1; have z2 : (2 : Int32).toInt = 2 := qI_2; have z3 : (3 : Int32).toInt = 3 := qI_3; have z5 : (5 : Int32).toInt = 5 := qI_5; have z9 : (9 : Int32).toInt = 9 := qI_9; omega))] | rw [if_pos (by decide)] | rw [if_neg (by decide)])))
                  have eB : otB lo xh sm vbr vtk vva = vbr := (by unfold otB; rw [eC, if_pos rfl])
                  have eA : otA lo xh sm vbr vba nhe vtk vva = vba := (by unfold otA; rw [eC, if_pos rfl])
                  refine ⟨⟨by (have t_c1 := eqI c1; have t_c13 := eqI c13; have t_c14 := eqI c14; have t_b18 := b18; have t_c19 := eqI c19; have t_c20 := neI c20; have t_c21 := eqI c21; have : (0 : Int32).toInt = 0 := qI_0; have : (1 : Int32).toInt = 1 := qI_1; have : (2 : Int32).toInt = 2 := qI_2; have t_n0 : (nI N).toInt = (N : Int) := tn1290_ (); have t_n1 : (nI B).toInt = (B : Int) := tn1291_ (); have t_n2 : (nI T).toInt = (T : Int) := tn1292_ (); have t_n3 : (nI nsp).toInt = (nsp : Int) := tn1309_ (); have t_n4 : (nI nhe).toInt = (nhe : Int) := tn1310_ (); have t_n5 : (nI S).toInt = (S : Int) := tn1293_ (); have t_n6 : (nI M).toInt = (M : Int) := tn1294_ (); have z0 : (0 : Int32).toInt = 0 := qI_0; have z1 : (1 : Int32).toInt = 1 := qI_1; have z2 : (2 : Int32).toInt = 2 := qI_2; have z3 : (3 : Int32).toInt = 3 := qI_3; have z5 : (5 : Int32).toInt = 5 := qI_5; have z9 : (9 : Int32).toInt = 9 := qI_9; omega), by (have t_c1 := eqI c1; have t_c13 := eqI c13; have t_c14 := eqI c14; have t_b18 := b18; have t_c19 := eqI c19; have t_c20 := neI c20; have t_c21 := eqI c21; have : (0 : Int32).toInt = 0 := qI_0; have : (1 : Int32).toInt = 1 := qI_1; have : (2 : Int32).toInt = 2 := qI_2; have t_n0 : (nI N).toInt = (N : Int) := tn1290_ (); have t_n1 : (nI B).toInt = (B : Int) := tn1291_ (); have t_n2 : (nI T).toInt = (T : Int) := tn1292_ (); have t_n3 : (nI nsp).toInt = (nsp : Int) := tn1309_ (); have t_n4 : (nI nhe).toInt = (nhe : Int) := tn1310_ (); have t_n5 : (nI S).toInt = (S : Int) := tn1293_ (); have t_n6 : (nI M).toInt = (M : Int) := tn1294_ (); have z0 : (0 : Int32).toInt = 0 := qI_0; have z1 : (1 : Int32).toInt = 1 := qI_1; have z2 : (2 : Int32).toInt = 2 := qI_2; have z3 : (3 : Int32).toInt = 3 := qI_3; have z5 : (5 : Int32).toInt = 5 := qI_5; have z9 : (9 : Int32).toInt = 9 := qI_9; omega)⟩, ?_⟩
                  unfold otV
                  rw [eB]
                  first | rw [if_pos (by assumption)] | rw [if_neg (by assumption)]
                obtain ⟨hP9, hD9⟩ := va_sub2 (ws' := [(h0, .inr (11, [.ref st, .int (nI N), .int (nI B), .ref rp, .int vrs, .int vrb, .int vhs, .int vca, .int vxs, .int vxb, .ref tp, .int (nI T), .int vfa, .int u24, .int u25, .int (nI u26), .int (nI u27), .int u28, .int u29, .ref cu, .ref lt, .ref od, .ref th, .ref be, .ref ln, .int (nI S), .ref ma, .int (nI M), .ref ah, .ref bh, .ref ik, .ref la, .ref lg, .ref ce, .int vto])), (tp, .inl (G 0, 320, .inl ftp))]) hP hD [0, 1] (by decide) rfl
                refine W.widen (k := 0) (n := 0) (Nat.le_of_ble_eq_true rfl) (Nat.le_of_ble_eq_true rfl) ?_
                exact W.iret (v := vva) hx hb hr (fun t ht hW => ⟨⟨vva, (u24, u25, u26, u27, u28, u29), rfl, ⟨hpost, (by have eC : otC lo xh sm vbr vtk vva = 0 := (by unfold otC; (repeat (first | rw [if_pos (by assumption)] | rw [if_neg (by assumption)] | rw [if_pos (by (have t_c1 := eqI c1; have t_c13 := eqI c13; have t_c14 := eqI c14; have t_b18 := b18; have t_c19 := eqI c19; have t_c20 := neI c20; have t_c21 := eqI c21; have : (0 : Int32).toInt = 0 := qI_0; have : (1 : Int32).toInt = 1 := qI_1; have : (2 : Int32).toInt = 2 := qI_2; have t_n0 : (nI N).toInt = (N : Int) := tn1290_ (); have t_n1 : (nI B).toInt = (B : Int) := tn1291_ (); have t_n2 : (nI T).toInt = (T : Int) := tn1292_ (); have t_n3 : (nI nsp).toInt = (nsp : Int) := tn1309_ (); have t_n4 : (nI nhe).toInt = (nhe : Int) := tn1310_ (); have t_n5 : (nI S).toInt = (S : Int) := tn1293_ (); have t_n6 : (nI M).toInt = (M : Int) := tn1294_ (); have z0 : (0 : Int32).toInt = 0 := qI_0; have z1 : (1 : Int32).toInt = 1 := qI_1; have z2 : (2 : Int32).toInt = 2 := qI_2; have z3 : (3 : Int32).toInt = 3 := qI_3; have z5 : (5 : Int32).toInt = 5 := qI_5; have z9 : (9 : Int32).toInt = 9 := qI_9; omega))] | rw [if_neg (by (have t_c1 := eqI c1; have t_c13 := eqI c13; have t_c14 := eqI c14; have t_b18 := b18; have t_c19 := eqI c19; have t_c20 := neI c20; have t_c21 := eqI c21; have : (0 : Int32).toInt = 0 := qI_0; have : (1 : Int32).toInt = 1 := qI_1; have : (2 : Int32).toInt = 2 := qI_2; have t_n0 : (nI N).toInt = (N : Int) := tn1290_ (); have t_n1 : (nI B).toInt = (B : Int) := tn1291_ (); have t_n2 : (nI T).toInt = (T : Int) := tn1292_ (); have t_n3 : (nI nsp).toInt = (nsp : Int) := tn1309_ (); have t_n4 : (nI nhe).toInt = (nhe : Int) := tn1310_ (); have t_n5 : (nI S).toInt = (S : Int) := tn1293_ (); have t_n6 : (nI M).toInt = (M : Int) := tn1294_ (); have z0 : (0 : Int32).toInt = 0 := qI_0; have z1 : (1 : Int32).toInt = 1 := qI_1; have z2 : (2 : Int32).toInt = 2 := qI_2; have z3 : (3 : Int32).toInt = 3 := qI_3; have z5 : (5 : Int32).toInt = 5 := qI_5; have z9 : (9 : Int32).toInt = 9 := qI_9; omega))] | rw [if_pos (by decide)] | rw [if_neg (by decide)]))); have eB : otB lo xh sm vbr vtk vva = vbr := (by unfold otB; rw [eC, if_pos rfl]); have eA : otA lo xh sm vbr vba nhe vtk vva = vba := (by unfold otA; rw [eC, if_pos rfl]); refine ⟨by (have t_c1 := eqI c1; have t_c13 := eqI c13; have t_c14 := eqI c14; have t_b18 := b18; have t_c19 := eqI c19; have t_c20 := neI c20; have t_c21 := eqI c21; have : (0 : Int32).toInt = 0 := qI_0; have : (1 : Int32).toInt = 1 := qI_1; have : (2 : Int32).toInt = 2 := qI_2; have t_n0 : (nI N).toInt = (N : Int) := tn1290_ (); have t_n1 : (nI B).toInt = (B : Int) := tn1291_ (); have t_n2 : (nI T).toInt = (T : Int) := tn1292_ (); have t_n3 : (nI nsp).toInt = (nsp : Int) := tn1309_ (); have t_n4 : (nI nhe).toInt = (nhe : Int) := tn1310_ (); have t_n5 : (nI S).toInt = (S : Int) := tn1293_ (); have t_n6 : (nI M).toInt = (M : Int) := tn1294_ (); have z0 : (0 : Int32).toInt = 0 := qI_0; have z1 : (1 : Int32).toInt = 1 := qI_1; have z2 : (2 : Int32).toInt = 2 := qI_2; have z3 : (3 : Int32).toInt = 3 := qI_3; have z5 : (5 : Int32).toInt = 5 := qI_5; have z9 : (9 : Int32).toInt = 9 := qI_9; omega), by (have t_c1 := eqI c1; have t_c13 := eqI c13; have t_c14 := eqI c14; have t_b18 := b18; have t_c19 := eqI c19; have t_c20 := neI c20; have t_c21 := eqI c21; have : (0 : Int32).toInt = 0 := qI_0; have : (1 : Int32).toInt = 1 := qI_1; have : (2 : Int32).toInt = 2 := qI_2; have t_n0 : (nI N).toInt = (N : Int) := tn1290_ (); have t_n1 : (nI B).toInt = (B : Int) := tn1291_ (); have t_n2 : (nI T).toInt = (T : Int) := tn1292_ (); have t_n3 : (nI nsp).toInt = (nsp : Int) := tn1309_ (); have t_n4 : (nI nhe).toInt = (nhe : Int) := tn1310_ (); have t_n5 : (nI S).toInt = (S : Int) := tn1293_ (); have t_n6 : (nI M).toInt = (M : Int) := tn1294_ (); have z0 : (0 : Int32).toInt = 0 := qI_0; have z1 : (1 : Int32).toInt = 1 := qI_1; have z2 : (2 : Int32).toInt = 2 := qI_2; have z3 : (3 : Int32).toInt = 3 := qI_3; have z5 : (5 : Int32).toInt = 5 := qI_5; have z9 : (9 : Int32).toInt = 9 := qI_9; omega), by (have t_c1 := eqI c1; have t_c13 := eqI c13; have t_c14 := eqI c14; have t_b18 := b18; have t_c19 := eqI c19; have t_c20 := neI c20; have t_c21 := eqI c21; have : (0 : Int32).toInt = 0 := qI_0; have : (1 : Int32).toInt = 1 := qI_1; have : (2 : Int32).toInt = 2 := qI_2; have t_n0 : (nI N).toInt = (N : Int) := tn1290_ (); have t_n1 : (nI B).toInt = (B : Int) := tn1291_ (); have t_n2 : (nI T).toInt = (T : Int) := tn1292_ (); have t_n3 : (nI nsp).toInt = (nsp : Int) := tn1309_ (); have t_n4 : (nI nhe).toInt = (nhe : Int) := tn1310_ (); have t_n5 : (nI S).toInt = (S : Int) := tn1293_ (); have t_n6 : (nI M).toInt = (M : Int) := tn1294_ (); have z0 : (0 : Int32).toInt = 0 := qI_0; have z1 : (1 : Int32).toInt = 1 := qI_1; have z2 : (2 : Int32).toInt = 2 := qI_2; have z3 : (3 : Int32).toInt = 3 := qI_3; have z5 : (5 : Int32).toInt = 5 := qI_5; have z9 : (9 : Int32).toInt = 9 := qI_9; omega), by (have t_c1 := eqI c1; have t_c13 := eqI c13; have t_c14 := eqI c14; have t_b18 := b18; have t_c19 := eqI c19; have t_c20 := neI c20; have t_c21 := eqI c21; have : (0 : Int32).toInt = 0 := qI_0; have : (1 : Int32).toInt = 1 := qI_1; have : (2 : Int32).toInt = 2 := qI_2; have t_n0 : (nI N).toInt = (N : Int) := tn1290_ (); have t_n1 : (nI B).toInt = (B : Int) := tn1291_ (); have t_n2 : (nI T).toInt = (T : Int) := tn1292_ (); have t_n3 : (nI nsp).toInt = (nsp : Int) := tn1309_ (); have t_n4 : (nI nhe).toInt = (nhe : Int) := tn1310_ (); have t_n5 : (nI S).toInt = (S : Int) := tn1293_ (); have t_n6 : (nI M).toInt = (M : Int) := tn1294_ (); have z0 : (0 : Int32).toInt = 0 := qI_0; have z1 : (1 : Int32).toInt = 1 := qI_1; have z2 : (2 : Int32).toInt = 2 := qI_2; have z3 : (3 : Int32).toInt = 3 := qI_3; have z5 : (5 : Int32).toInt = 5 := qI_5; have z9 : (9 : Int32).toInt = 9 := qI_9; omega), by (have t_c1 := eqI c1; have t_c13 := eqI c13; have t_c14 := eqI c14; have t_b18 := b18; have t_c19 := eqI c19; have t_c20 := neI c20; have t_c21 := eqI c21; have : (0 : Int32).toInt = 0 := qI_0; have : (1 : Int32).toInt = 1 := qI_1; have : (2 : Int32).toInt = 2 := qI_2; have t_n0 : (nI N).toInt = (N : Int) := tn1290_ (); have t_n1 : (nI B).toInt = (B : Int) := tn1291_ (); have t_n2 : (nI T).toInt = (T : Int) := tn1292_ (); have t_n3 : (nI nsp).toInt = (nsp : Int) := tn1309_ (); have t_n4 : (nI nhe).toInt = (nhe : Int) := tn1310_ (); have t_n5 : (nI S).toInt = (S : Int) := tn1293_ (); have t_n6 : (nI M).toInt = (M : Int) := tn1294_ (); have z0 : (0 : Int32).toInt = 0 := qI_0; have z1 : (1 : Int32).toInt = 1 := qI_1; have z2 : (2 : Int32).toInt = 2 := qI_2; have z3 : (3 : Int32).toInt = 3 := qI_3; have z5 : (5 : Int32).toInt = 5 := qI_5; have z9 : (9 : Int32).toInt = 9 := qI_9; omega), by (have t_c1 := eqI c1; have t_c13 := eqI c13; have t_c14 := eqI c14; have t_b18 := b18; have t_c19 := eqI c19; have t_c20 := neI c20; have t_c21 := eqI c21; have : (0 : Int32).toInt = 0 := qI_0; have : (1 : Int32).toInt = 1 := qI_1; have : (2 : Int32).toInt = 2 := qI_2; have t_n0 : (nI N).toInt = (N : Int) := tn1290_ (); have t_n1 : (nI B).toInt = (B : Int) := tn1291_ (); have t_n2 : (nI T).toInt = (T : Int) := tn1292_ (); have t_n3 : (nI nsp).toInt = (nsp : Int) := tn1309_ (); have t_n4 : (nI nhe).toInt = (nhe : Int) := tn1310_ (); have t_n5 : (nI S).toInt = (S : Int) := tn1293_ (); have t_n6 : (nI M).toInt = (M : Int) := tn1294_ (); have z0 : (0 : Int32).toInt = 0 := qI_0; have z1 : (1 : Int32).toInt = 1 := qI_1; have z2 : (2 : Int32).toInt = 2 := qI_2; have z3 : (3 : Int32).toInt = 3 := qI_3; have z5 : (5 : Int32).toInt = 5 := qI_5; have z9 : (9 : Int32).toInt = 9 := qI_9; omega), ?_⟩; rw [eB, eA]; have e7 := w23.2.2.2.2.2.2; exact e7)⟩, ⟨by rw [ht]; exact hP9, hD9⟩⟩, hS.F ht⟩) hS.2.2 dX11_other_94
            · skip
              refine lv_aload_n hx hb dX11_other_66 rfl (lv_at hl 0 rfl) ?_
              refine lv_iconst (v := 4) hx hb dX11_other_67 rfl ?_
              obtain ⟨hPc, hDc, hFc⟩ := va_sub3 (ws' := [(h0, .inr (11, [.ref st, .int (nI N), .int (nI B), .ref rp, .int vrs, .int vrb, .int vhs, .int vca, .int vxs, .int vxb, .ref tp, .int (nI T), .int vfa, .int vbr, .int vba, .int (nI nsp), .int (nI nhe), .int vtk, .int vva, .ref cu, .ref lt, .ref od, .ref th, .ref be, .ref ln, .int (nI S), .ref ma, .int (nI M), .ref ah, .ref bh, .ref ik, .ref la, .ref lg, .ref ce, .int vto]))]) hP hD hS hA [0] (by decide) rfl
              have tn1311_ : nIT nsp := fun _ => nI_toInt (by first | omega | (have t_c1 := eqI c1; have t_c13 := eqI c13; have t_c14 := eqI c14; have t_b18 := b18; have t_c19 := eqI c19; have t_c20 := eqI c20; have : (0 : Int32).toInt = 0 := qI_0; have : (1 : Int32).toInt = 1 := qI_1; have : (2 : Int32).toInt = 2 := qI_2; omega))
              have tn1312_ : nIT nhe := fun _ => nI_toInt (by first | omega | (have t_c1 := eqI c1; have t_c13 := eqI c13; have t_c14 := eqI c14; have t_b18 := b18; have t_c19 := eqI c19; have t_c20 := eqI c20; have : (0 : Int32).toInt = 0 := qI_0; have : (1 : Int32).toInt = 1 := qI_1; have : (2 : Int32).toInt = 2 := qI_2; omega))
              refine va_callv (va_runV (As := [.int 4]) (rest := []) ⟨hx, hb, hml, hown, hg⟩ (c_X11_failsE l dC dI G _ h0 st N B rp tp T nhe cu lt od th be ln S ma M ah bh ik la lg ce 4 vrs vrb vhs vca vxs vxb vfa vbr vba (nI nsp) vtk vva vto hN hB_ hT_ hS0 hM_ (by have t_c1 := eqI c1; have t_c13 := eqI c13; have t_c14 := eqI c14; have t_b18 := b18; have t_c19 := eqI c19; have t_c20 := eqI c20; have : (0 : Int32).toInt = 0 := qI_0; have : (1 : Int32).toInt = 1 := qI_1; have : (2 : Int32).toInt = 2 := qI_2; have t_n0 : (nI N).toInt = (N : Int) := tn1290_ (); have t_n1 : (nI B).toInt = (B : Int) := tn1291_ (); have t_n2 : (nI T).toInt = (T : Int) := tn1292_ (); have t_n3 : (nI nsp).toInt = (nsp : Int) := tn1311_ (); have t_n4 : (nI nhe).toInt = (nhe : Int) := tn1312_ (); have t_n5 : (nI S).toInt = (S : Int) := tn1293_ (); have t_n6 : (nI M).toInt = (M : Int) := tn1294_ (); have : (4 : Int32).toInt = 4 := qI_4; omega) hbr (by first | omega | (have t_c1 := eqI c1; have t_c13 := eqI c13; have t_c14 := eqI c14; have t_b18 := b18; have t_c19 := eqI c19; have t_c20 := eqI c20; have : (0 : Int32).toInt = 0 := qI_0; have : (1 : Int32).toInt = 1 := qI_1; have : (2 : Int32).toInt = 2 := qI_2; have t_n0 : (nI N).toInt = (N : Int) := tn1290_ (); have t_n1 : (nI B).toInt = (B : Int) := tn1291_ (); have t_n2 : (nI T).toInt = (T : Int) := tn1292_ (); have t_n3 : (nI nsp).toInt = (nsp : Int) := tn1311_ (); have t_n4 : (nI nhe).toInt = (nhe : Int) := tn1312_ (); have t_n5 : (nI S).toInt = (S : Int) := tn1293_ (); have t_n6 : (nI M).toInt = (M : Int) := tn1294_ (); have : (4 : Int32).toInt = 4 := qI_4; omega))) (kwV hg mfX11_fails wt_1011 ⟨Nat.le_of_ble_eq_true rfl, Nat.le_of_ble_eq_true rfl⟩) (preVW hK hPc hDc (ci := 11) rfl rfl) rfl rfl hl.1 rfl (lv_room (Nat.le_of_ble_eq_true rfl)) dX11_other_68 ⟨Nat.le_of_ble_eq_true rfl, Nat.le_of_ble_eq_true rfl⟩) hS (fun q _ h => hFc q h) hFc (fun ur30 t H1 locs ht hvm w31 hB hz1 hk1 hS => ?_)
              obtain ⟨u32, u33⟩ := ur30
              obtain ⟨hP1, hD1⟩ := hB
              rw [ht] at hP1
              obtain ⟨hP, hD⟩ := va_join (wr := [(tp, .inl (G 0, 320, .inl ftp))]) (w1 := [(h0, .inr (11, [.ref st, .int (nI N), .int (nI B), .ref rp, .int vrs, .int vrb, .int vhs, .int vca, .int vxs, .int vxb, .ref tp, .int (nI T), .int vfa, .int u32, .int u33, .int (nI nsp), .int (nI nhe), .int vtk, .int vva, .ref cu, .ref lt, .ref od, .ref th, .ref be, .ref ln, .int (nI S), .ref ma, .int (nI M), .ref ah, .ref bh, .ref ik, .ref la, .ref lg, .ref ce, .int vto]))]) hP hD [0] [1] rfl rfl (by decide) (by decide) hk1 hFc hP1 hD1
              have w31 : 0 < u32.toInt ∧ u32 = flB (4 : Int32) vbr ∧ u33 = flA vbr vba nhe := w31
              generalize H1 = H at hP hS ⊢
              refine lv_aload_n hx hb dX11_other_71 rfl (lv_at hl 0 rfl) ?_
              refine va_get (D := (dC, dI)) (ci := 11) (v := .int u32) (C := RX11) (T := TX11) (N := 35) hx hb hg inG11 hown hK.1 hP 1 rfl rfl 13 (Nat.le_of_ble_eq_true rfl) (hg _ wt_891) (fun _ h9 => h9) rfl dX11_other_72 ?_
              refine lv_if_ne (tgt := 85) hx hb dX11_other_75 rfl (fun c34 => ?_) (fun c34 => ?_)
              · skip
                refine lv_iload_n hx hb dX11_other_85 rfl (lv_at hl 1 rfl) ?_
                refine lv_istore (lv' := [(4, .int lo), (0, .ref h0), (1, .int lo), (2, .int xh), (3, .int sm)]) hx hb dX11_other_86 hl (by decide) rfl (fun ls hl => ?_)
                refine lv_aload_n hx hb dX11_other_88 rfl (lv_at hl 1 rfl) ?_
                obtain ⟨hPc, hDc, hFc⟩ := va_sub3 (ws' := [(h0, .inr (11, [.ref st, .int (nI N), .int (nI B), .ref rp, .int vrs, .int vrb, .int vhs, .int vca, .int vxs, .int vxb, .ref tp, .int (nI T), .int vfa, .int u32, .int u33, .int (nI nsp), .int (nI nhe), .int vtk, .int vva, .ref cu, .ref lt, .ref od, .ref th, .ref be, .ref ln, .int (nI S), .ref ma, .int (nI M), .ref ah, .ref bh, .ref ik, .ref la, .ref lg, .ref ce, .int vto])), (tp, .inl (G 0, 320, .inl ftp))]) hP hD hS hA [1, 0] (by decide) rfl
                refine va_callv (va_runV (As := []) (rest := []) ⟨hx, hb, hml, hown, hg⟩ (c_X11_goesOnE l dC dI G _ h0 st N B rp tp T nsp nhe cu lt od th be ln S ma M ah bh ik la lg ce vrs vrb vhs vca vxs vxb vfa u32 u33 vtk vva vto ftp hN hB_ hT_ hS0 hM_ (by have t_c1 := eqI c1; have t_c13 := eqI c13; have t_c14 := eqI c14; have t_b18 := b18; have t_c19 := eqI c19; have t_c20 := eqI c20; have t_w31 := w31.1; have t_c34 := neI c34; have : (0 : Int32).toInt = 0 := qI_0; have : (1 : Int32).toInt = 1 := qI_1; have : (2 : Int32).toInt = 2 := qI_2; have t_n0 : (nI N).toInt = (N : Int) := tn1290_ (); have t_n1 : (nI B).toInt = (B : Int) := tn1291_ (); have t_n2 : (nI T).toInt = (T : Int) := tn1292_ (); have t_n3 : (nI nsp).toInt = (nsp : Int) := tn1311_ (); have t_n4 : (nI nhe).toInt = (nhe : Int) := tn1312_ (); have t_n5 : (nI S).toInt = (S : Int) := tn1293_ (); have t_n6 : (nI M).toInt = (M : Int) := tn1294_ (); have z0 : (0 : Int32).toInt = 0 := qI_0; have z1 : (1 : Int32).toInt = 1 := qI_1; have z2 : (2 : Int32).toInt = 2 := qI_2; have z3 : (3 : Int32).toInt = 3 := qI_3; have z5 : (5 : Int32).toInt = 5 := qI_5; have z9 : (9 : Int32).toInt = 9 := qI_9; omega) hsp (by have t_c1 := eqI c1; have t_c13 := eqI c13; have t_c14 := eqI c14; have t_b18 := b18; have t_c19 := eqI c19; have t_c20 := eqI c20; have t_w31 := w31.1; have t_c34 := neI c34; have : (0 : Int32).toInt = 0 := qI_0; have : (1 : Int32).toInt = 1 := qI_1; have : (2 : Int32).toInt = 2 := qI_2; have t_n0 : (nI N).toInt = (N : Int) := tn1290_ (); have t_n1 : (nI B).toInt = (B : Int) := tn1291_ (); have t_n2 : (nI T).toInt = (T : Int) := tn1292_ (); have t_n3 : (nI nsp).toInt = (nsp : Int) := tn1311_ (); have t_n4 : (nI nhe).toInt = (nhe : Int) := tn1312_ (); have t_n5 : (nI S).toInt = (S : Int) := tn1293_ (); have t_n6 : (nI M).toInt = (M : Int) := tn1294_ (); have z0 : (0 : Int32).toInt = 0 := qI_0; have z1 : (1 : Int32).toInt = 1 := qI_1; have z2 : (2 : Int32).toInt = 2 := qI_2; have z3 : (3 : Int32).toInt = 3 := qI_3; have z5 : (5 : Int32).toInt = 5 := qI_5; have z9 : (9 : Int32).toInt = 9 := qI_9; omega) htb) (kwV hg mfX11_goesOn wt_999 ⟨Nat.le_of_ble_eq_true rfl, Nat.le_of_ble_eq_true rfl⟩) (preVW hK hPc hDc (ci := 11) rfl rfl) rfl rfl hl.1 rfl (lv_room (Nat.le_of_ble_eq_true rfl)) dX11_other_89 ⟨Nat.le_of_ble_eq_true rfl, Nat.le_of_ble_eq_true rfl⟩) hS (fun q _ h => hFc q h) hFc (fun ur35 t H1 locs ht hvm w36 hB hz1 hk1 hS => ?_)
                obtain ⟨u37, u38, u39, u40, u41, u42⟩ := ur35
                obtain ⟨hP1, hD1⟩ := hB
                rw [ht] at hP1
                obtain ⟨hP, hD⟩ := va_join (wr := []) (w1 := [(h0, .inr (11, [.ref st, .int (nI N), .int (nI B), .ref rp, .int vrs, .int vrb, .int vhs, .int vca, .int vxs, .int vxb, .ref tp, .int (nI T), .int vfa, .int u37, .int u38, .int (nI u39), .int (nI u40), .int u41, .int u42, .ref cu, .ref lt, .ref od, .ref th, .ref be, .ref ln, .int (nI S), .ref ma, .int (nI M), .ref ah, .ref bh, .ref ik, .ref la, .ref lg, .ref ce, .int vto])), (tp, .inl (G 0, 320, .inl ftp))]) hP hD [1, 0] [] rfl rfl (by decide) (by decide) hk1 hFc hP1 hD1
                have w36 : 0 ≤ u37.toInt ∧ (u32.toInt = 0 ∨ u37.toInt = u32.toInt) ∧ nsp ≤ u39 ∧ u39 ≤ T ∧ u40 ≤ u39 ∧ (0 < u32.toInt ∨ u41.toInt = 0 ∨ nsp < u39) ∧ (u37, u38, u39, u40, u41, u42) = gOn ftp T u32 u33 nsp nhe vtk vva := w36
                generalize H1 = H at hP hS ⊢
                refine lv_iload hx hb dX11_other_92 (lv_at hl 0 rfl) ?_
                have hpost : (lo.toInt ≤ (lo : Int32).toInt ∧ (lo : Int32).toInt ≤ xh.toInt) ∧ (lo : Int32) = otV lo xh sm vbr vtk vva := by
                  have t_c1 := eqI c1
                  have t_c13 := eqI c13
                  have t_c14 := eqI c14
                  have t_b18 := b18
                  have t_c19 := eqI c19
                  have t_c20 := eqI c20
                  have t_w31 := w31.1
                  have t_c34 := neI c34
                  have : (0 : Int32).toInt = 0 := qI_0
                  have : (1 : Int32).toInt = 1 := qI_1
                  have : (2 : Int32).toInt = 2 := qI_2
                  have t_n0 : (nI N).toInt = (N : Int) := tn1290_ ()
                  have t_n1 : (nI B).toInt = (B : Int) := tn1291_ ()
                  have t_n2 : (nI T).toInt = (T : Int) := tn1292_ ()
                  have t_n3 : (nI nsp).toInt = (nsp : Int) := tn1311_ ()
                  have t_n4 : (nI nhe).toInt = (nhe : Int) := tn1312_ ()
                  have t_n5 : (nI S).toInt = (S : Int) := tn1293_ ()
                  have t_n6 : (nI M).toInt = (M : Int) := tn1294_ ()
                  have z0 : (0 : Int32).toInt = 0 := qI_0
                  have z1 : (1 : Int32).toInt = 1 := qI_1
                  have z2 : (2 : Int32).toInt = 2 := qI_2
                  have z3 : (3 : Int32).toInt = 3 := qI_3
                  have z5 : (5 : Int32).toInt = 5 := qI_5
                  have z9 : (9 : Int32).toInt = 9 := qI_9
                  have eC : otC lo xh sm vbr vtk vva = 4 := (by unfold otC; (repeat (first | rw [if_pos (by assumption)] | rw [if_neg (by assumption)] | rw [if_pos (by omega)] | rw [if_neg (by omega)] | rw [if_pos (by decide)] | rw [if_neg (by decide)])))
                  have z9 : vbr = 0 := (by assumption)
                  have q1 := w31.2.1
                  have q2 := w31.2.2
                  unfold flB at q1
                  unfold flA at q2
                  rw [if_pos z9] at q1 q2
                  have eB : otB lo xh sm vbr vtk vva = 4 := (by unfold otB; rw [eC, if_neg (by decide)])
                  have eA : otA lo xh sm vbr vba nhe vtk vva = nI nhe := (by unfold otA; rw [eC, if_neg (by decide)])
                  refine ⟨⟨by omega, by omega⟩, ?_⟩
                  unfold otV
                  rw [eB, if_neg (by decide)]
                obtain ⟨hP9, hD9⟩ := va_sub2 (ws' := [(h0, .inr (11, [.ref st, .int (nI N), .int (nI B), .ref rp, .int vrs, .int vrb, .int vhs, .int vca, .int vxs, .int vxb, .ref tp, .int (nI T), .int vfa, .int u37, .int u38, .int (nI u39), .int (nI u40), .int u41, .int u42, .ref cu, .ref lt, .ref od, .ref th, .ref be, .ref ln, .int (nI S), .ref ma, .int (nI M), .ref ah, .ref bh, .ref ik, .ref la, .ref lg, .ref ce, .int vto])), (tp, .inl (G 0, 320, .inl ftp))]) hP hD [0, 1] (by decide) rfl
                refine W.widen (k := 0) (n := 0) (Nat.le_of_ble_eq_true rfl) (Nat.le_of_ble_eq_true rfl) ?_
                exact W.iret (v := lo) hx hb hr (fun t ht hW => ⟨⟨lo, (u37, u38, u39, u40, u41, u42), rfl, ⟨hpost, (by have t_c1 := eqI c1; have t_c13 := eqI c13; have t_c14 := eqI c14; have t_b18 := b18; have t_c19 := eqI c19; have t_c20 := eqI c20; have t_w31 := w31.1; have t_c34 := neI c34; have : (0 : Int32).toInt = 0 := qI_0; have : (1 : Int32).toInt = 1 := qI_1; have : (2 : Int32).toInt = 2 := qI_2; have t_n0 : (nI N).toInt = (N : Int) := tn1290_ (); have t_n1 : (nI B).toInt = (B : Int) := tn1291_ (); have t_n2 : (nI T).toInt = (T : Int) := tn1292_ (); have t_n3 : (nI nsp).toInt = (nsp : Int) := tn1311_ (); have t_n4 : (nI nhe).toInt = (nhe : Int) := tn1312_ (); have t_n5 : (nI S).toInt = (S : Int) := tn1293_ (); have t_n6 : (nI M).toInt = (M : Int) := tn1294_ (); have z0 : (0 : Int32).toInt = 0 := qI_0; have z1 : (1 : Int32).toInt = 1 := qI_1; have z2 : (2 : Int32).toInt = 2 := qI_2; have z3 : (3 : Int32).toInt = 3 := qI_3; have z5 : (5 : Int32).toInt = 5 := qI_5; have z9 : (9 : Int32).toInt = 9 := qI_9; have eC : otC lo xh sm vbr vtk vva = 4 := (by unfold otC; (repeat (first | rw [if_pos (by assumption)] | rw [if_neg (by assumption)] | rw [if_pos (by omega)] | rw [if_neg (by omega)] | rw [if_pos (by decide)] | rw [if_neg (by decide)]))); have z9 : vbr = 0 := (by assumption); have q1 := w31.2.1; have q2 := w31.2.2; unfold flB at q1; unfold flA at q2; rw [if_pos z9] at q1 q2; have eB : otB lo xh sm vbr vtk vva = 4 := (by unfold otB; rw [eC, if_neg (by decide)]); have eA : otA lo xh sm vbr vba nhe vtk vva = nI nhe := (by unfold otA; rw [eC, if_neg (by decide)]); refine ⟨by omega, by omega, by omega, by omega, by omega, by omega, ?_⟩; rw [eB, eA]; have e7 := w36.2.2.2.2.2.2; rw [q1, q2] at e7; exact e7)⟩, ⟨by rw [ht]; exact hP9, hD9⟩⟩, hS.F ht⟩) hS.2.2 dX11_other_94
              · skip
                have t_c1 := eqI c1
                have t_c13 := eqI c13
                have t_c14 := eqI c14
                have t_b18 := b18
                have t_c19 := eqI c19
                have t_c20 := eqI c20
                have t_w31 := w31.1
                have t_c34 := eqI c34
                have : (0 : Int32).toInt = 0 := qI_0
                have : (1 : Int32).toInt = 1 := qI_1
                have : (2 : Int32).toInt = 2 := qI_2
                have t_n0 : (nI N).toInt = (N : Int) := tn1290_ ()
                have t_n1 : (nI B).toInt = (B : Int) := tn1291_ ()
                have t_n2 : (nI T).toInt = (T : Int) := tn1292_ ()
                have t_n3 : (nI nsp).toInt = (nsp : Int) := tn1311_ ()
                have t_n4 : (nI nhe).toInt = (nhe : Int) := tn1312_ ()
                have t_n5 : (nI S).toInt = (S : Int) := tn1293_ ()
                have t_n6 : (nI M).toInt = (M : Int) := tn1294_ ()
                exfalso; omega
        · skip
          have b43 := if10_n c17
          refine lv_aload_n hx hb dX11_other_42 rfl (lv_at hl 0 rfl) ?_
          refine lv_iconst (v := 3) hx hb dX11_other_43 rfl ?_
          obtain ⟨hPc, hDc, hFc⟩ := va_sub3 (ws' := [(h0, .inr (11, [.ref st, .int (nI N), .int (nI B), .ref rp, .int vrs, .int vrb, .int vhs, .int vca, .int vxs, .int vxb, .ref tp, .int (nI T), .int vfa, .int vbr, .int vba, .int (nI nsp), .int (nI nhe), .int vtk, .int vva, .ref cu, .ref lt, .ref od, .ref th, .ref be, .ref ln, .int (nI S), .ref ma, .int (nI M), .ref ah, .ref bh, .ref ik, .ref la, .ref lg, .ref ce, .int vto]))]) hP hD hS hA [0] (by decide) rfl
          have tn1313_ : nIT nsp := fun _ => nI_toInt (by first | omega | (have t_c1 := eqI c1; have t_c13 := eqI c13; have t_c14 := eqI c14; have t_b43 := b43; have : (0 : Int32).toInt = 0 := qI_0; have : (2 : Int32).toInt = 2 := qI_2; omega))
          have tn1314_ : nIT nhe := fun _ => nI_toInt (by first | omega | (have t_c1 := eqI c1; have t_c13 := eqI c13; have t_c14 := eqI c14; have t_b43 := b43; have : (0 : Int32).toInt = 0 := qI_0; have : (2 : Int32).toInt = 2 := qI_2; omega))
          refine va_callv (va_runV (As := [.int 3]) (rest := []) ⟨hx, hb, hml, hown, hg⟩ (c_X11_failsE l dC dI G _ h0 st N B rp tp T nhe cu lt od th be ln S ma M ah bh ik la lg ce 3 vrs vrb vhs vca vxs vxb vfa vbr vba (nI nsp) vtk vva vto hN hB_ hT_ hS0 hM_ (by have t_c1 := eqI c1; have t_c13 := eqI c13; have t_c14 := eqI c14; have t_b43 := b43; have : (0 : Int32).toInt = 0 := qI_0; have : (2 : Int32).toInt = 2 := qI_2; have t_n0 : (nI N).toInt = (N : Int) := tn1290_ (); have t_n1 : (nI B).toInt = (B : Int) := tn1291_ (); have t_n2 : (nI T).toInt = (T : Int) := tn1292_ (); have t_n3 : (nI nsp).toInt = (nsp : Int) := tn1313_ (); have t_n4 : (nI nhe).toInt = (nhe : Int) := tn1314_ (); have t_n5 : (nI S).toInt = (S : Int) := tn1293_ (); have t_n6 : (nI M).toInt = (M : Int) := tn1294_ (); have : (3 : Int32).toInt = 3 := qI_3; omega) hbr (by first | omega | (have t_c1 := eqI c1; have t_c13 := eqI c13; have t_c14 := eqI c14; have t_b43 := b43; have : (0 : Int32).toInt = 0 := qI_0; have : (2 : Int32).toInt = 2 := qI_2; have t_n0 : (nI N).toInt = (N : Int) := tn1290_ (); have t_n1 : (nI B).toInt = (B : Int) := tn1291_ (); have t_n2 : (nI T).toInt = (T : Int) := tn1292_ (); have t_n3 : (nI nsp).toInt = (nsp : Int) := tn1313_ (); have t_n4 : (nI nhe).toInt = (nhe : Int) := tn1314_ (); have t_n5 : (nI S).toInt = (S : Int) := tn1293_ (); have t_n6 : (nI M).toInt = (M : Int) := tn1294_ (); have : (3 : Int32).toInt = 3 := qI_3; omega))) (kwV hg mfX11_fails wt_1011 ⟨Nat.le_of_ble_eq_true rfl, Nat.le_of_ble_eq_true rfl⟩) (preVW hK hPc hDc (ci := 11) rfl rfl) rfl rfl hl.1 rfl (lv_room (Nat.le_of_ble_eq_true rfl)) dX11_other_44 ⟨Nat.le_of_ble_eq_true rfl, Nat.le_of_ble_eq_true rfl⟩) hS (fun q _ h => hFc q h) hFc (fun ur44 t H1 locs ht hvm w45 hB hz1 hk1 hS => ?_)
          obtain ⟨u46, u47⟩ := ur44
          obtain ⟨hP1, hD1⟩ := hB
          rw [ht] at hP1
          obtain ⟨hP, hD⟩ := va_join (wr := [(tp, .inl (G 0, 320, .inl ftp))]) (w1 := [(h0, .inr (11, [.ref st, .int (nI N), .int (nI B), .ref rp, .int vrs, .int vrb, .int vhs, .int vca, .int vxs, .int vxb, .ref tp, .int (nI T), .int vfa, .int u46, .int u47, .int (nI nsp), .int (nI nhe), .int vtk, .int vva, .ref cu, .ref lt, .ref od, .ref th, .ref be, .ref ln, .int (nI S), .ref ma, .int (nI M), .ref ah, .ref bh, .ref ik, .ref la, .ref lg, .ref ce, .int vto]))]) hP hD [0] [1] rfl rfl (by decide) (by decide) hk1 hFc hP1 hD1
          have w45 : 0 < u46.toInt ∧ u46 = flB (3 : Int32) vbr ∧ u47 = flA vbr vba nhe := w45
          generalize H1 = H at hP hS ⊢
          refine lv_aload_n hx hb dX11_other_47 rfl (lv_at hl 0 rfl) ?_
          refine va_get (D := (dC, dI)) (ci := 11) (v := .int u46) (C := RX11) (T := TX11) (N := 35) hx hb hg inG11 hown hK.1 hP 1 rfl rfl 13 (Nat.le_of_ble_eq_true rfl) (hg _ wt_891) (fun _ h9 => h9) rfl dX11_other_48 ?_
          refine lv_if_ne (tgt := 71) hx hb dX11_other_51 rfl (fun c48 => ?_) (fun c48 => ?_)
          · skip
            refine lv_aload_n hx hb dX11_other_71 rfl (lv_at hl 0 rfl) ?_
            refine va_get (D := (dC, dI)) (ci := 11) (v := .int u46) (C := RX11) (T := TX11) (N := 35) hx hb hg inG11 hown hK.1 hP 1 rfl rfl 13 (Nat.le_of_ble_eq_true rfl) (hg _ wt_891) (fun _ h9 => h9) rfl dX11_other_72 ?_
            refine lv_if_ne (tgt := 85) hx hb dX11_other_75 rfl (fun c49 => ?_) (fun c49 => ?_)
            · skip
              refine lv_iload_n hx hb dX11_other_85 rfl (lv_at hl 1 rfl) ?_
              refine lv_istore (lv' := [(4, .int lo), (0, .ref h0), (1, .int lo), (2, .int xh), (3, .int sm)]) hx hb dX11_other_86 hl (by decide) rfl (fun ls hl => ?_)
              refine lv_aload_n hx hb dX11_other_88 rfl (lv_at hl 1 rfl) ?_
              obtain ⟨hPc, hDc, hFc⟩ := va_sub3 (ws' := [(h0, .inr (11, [.ref st, .int (nI N), .int (nI B), .ref rp, .int vrs, .int vrb, .int vhs, .int vca, .int vxs, .int vxb, .ref tp, .int (nI T), .int vfa, .int u46, .int u47, .int (nI nsp), .int (nI nhe), .int vtk, .int vva, .ref cu, .ref lt, .ref od, .ref th, .ref be, .ref ln, .int (nI S), .ref ma, .int (nI M), .ref ah, .ref bh, .ref ik, .ref la, .ref lg, .ref ce, .int vto])), (tp, .inl (G 0, 320, .inl ftp))]) hP hD hS hA [1, 0] (by decide) rfl
              refine va_callv (va_runV (As := []) (rest := []) ⟨hx, hb, hml, hown, hg⟩ (c_X11_goesOnE l dC dI G _ h0 st N B rp tp T nsp nhe cu lt od th be ln S ma M ah bh ik la lg ce vrs vrb vhs vca vxs vxb vfa u46 u47 vtk vva vto ftp hN hB_ hT_ hS0 hM_ (by have t_c1 := eqI c1; have t_c13 := eqI c13; have t_c14 := eqI c14; have t_b43 := b43; have t_w45 := w45.1; have t_c48 := neI c48; have t_c49 := neI c49; have : (0 : Int32).toInt = 0 := qI_0; have : (2 : Int32).toInt = 2 := qI_2; have t_n0 : (nI N).toInt = (N : Int) := tn1290_ (); have t_n1 : (nI B).toInt = (B : Int) := tn1291_ (); have t_n2 : (nI T).toInt = (T : Int) := tn1292_ (); have t_n3 : (nI nsp).toInt = (nsp : Int) := tn1313_ (); have t_n4 : (nI nhe).toInt = (nhe : Int) := tn1314_ (); have t_n5 : (nI S).toInt = (S : Int) := tn1293_ (); have t_n6 : (nI M).toInt = (M : Int) := tn1294_ (); have z0 : (0 : Int32).toInt = 0 := qI_0; have z1 : (1 : Int32).toInt = 1 := qI_1; have z2 : (2 : Int32).toInt = 2 := qI_2; have z3 : (3 : Int32).toInt = 3 := qI_3; have z5 : (5 : Int32).toInt = 5 := qI_5; have z9 : (9 : Int32).toInt = 9 := qI_9; omega) hsp (by have t_c1 := eqI c1; have t_c13 := eqI c13; have t_c14 := eqI c14; have t_b43 := b43; have t_w45 := w45.1; have t_c48 := neI c48; have t_c49 := neI c49; have : (0 : Int32).toInt = 0 := qI_0; have : (2 : Int32).toInt = 2 := qI_2; have t_n0 : (nI N).toInt = (N : Int) := tn1290_ (); have t_n1 : (nI B).toInt = (B : Int) := tn1291_ (); have t_n2 : (nI T).toInt = (T : Int) := tn1292_ (); have t_n3 : (nI nsp).toInt = (nsp : Int) := tn1313_ (); have t_n4 : (nI nhe).toInt = (nhe : Int) := tn1314_ (); have t_n5 : (nI S).toInt = (S : Int) := tn1293_ (); have t_n6 : (nI M).toInt = (M : Int) := tn1294_ (); have z0 : (0 : Int32).toInt = 0 := qI_0; have z1 : (1 : Int32).toInt = 1 := qI_1; have z2 : (2 : Int32).toInt = 2 := qI_2; have z3 : (3 : Int32).toInt = 3 := qI_3; have z5 : (5 : Int32).toInt = 5 := qI_5; have z9 : (9 : Int32).toInt = 9 := qI_9; omega) htb) (kwV hg mfX11_goesOn wt_999 ⟨Nat.le_of_ble_eq_true rfl, Nat.le_of_ble_eq_true rfl⟩) (preVW hK hPc hDc (ci := 11) rfl rfl) rfl rfl hl.1 rfl (lv_room (Nat.le_of_ble_eq_true rfl)) dX11_other_89 ⟨Nat.le_of_ble_eq_true rfl, Nat.le_of_ble_eq_true rfl⟩) hS (fun q _ h => hFc q h) hFc (fun ur50 t H1 locs ht hvm w51 hB hz1 hk1 hS => ?_)
              obtain ⟨u52, u53, u54, u55, u56, u57⟩ := ur50
              obtain ⟨hP1, hD1⟩ := hB
              rw [ht] at hP1
              obtain ⟨hP, hD⟩ := va_join (wr := []) (w1 := [(h0, .inr (11, [.ref st, .int (nI N), .int (nI B), .ref rp, .int vrs, .int vrb, .int vhs, .int vca, .int vxs, .int vxb, .ref tp, .int (nI T), .int vfa, .int u52, .int u53, .int (nI u54), .int (nI u55), .int u56, .int u57, .ref cu, .ref lt, .ref od, .ref th, .ref be, .ref ln, .int (nI S), .ref ma, .int (nI M), .ref ah, .ref bh, .ref ik, .ref la, .ref lg, .ref ce, .int vto])), (tp, .inl (G 0, 320, .inl ftp))]) hP hD [1, 0] [] rfl rfl (by decide) (by decide) hk1 hFc hP1 hD1
              have w51 : 0 ≤ u52.toInt ∧ (u46.toInt = 0 ∨ u52.toInt = u46.toInt) ∧ nsp ≤ u54 ∧ u54 ≤ T ∧ u55 ≤ u54 ∧ (0 < u46.toInt ∨ u56.toInt = 0 ∨ nsp < u54) ∧ (u52, u53, u54, u55, u56, u57) = gOn ftp T u46 u47 nsp nhe vtk vva := w51
              generalize H1 = H at hP hS ⊢
              refine lv_iload hx hb dX11_other_92 (lv_at hl 0 rfl) ?_
              have hpost : (lo.toInt ≤ (lo : Int32).toInt ∧ (lo : Int32).toInt ≤ xh.toInt) ∧ (lo : Int32) = otV lo xh sm vbr vtk vva := by
                have t_c1 := eqI c1
                have t_c13 := eqI c13
                have t_c14 := eqI c14
                have t_b43 := b43
                have t_w45 := w45.1
                have t_c48 := neI c48
                have t_c49 := neI c49
                have : (0 : Int32).toInt = 0 := qI_0
                have : (2 : Int32).toInt = 2 := qI_2
                have t_n0 : (nI N).toInt = (N : Int) := tn1290_ ()
                have t_n1 : (nI B).toInt = (B : Int) := tn1291_ ()
                have t_n2 : (nI T).toInt = (T : Int) := tn1292_ ()
                have t_n3 : (nI nsp).toInt = (nsp : Int) := tn1313_ ()
                have t_n4 : (nI nhe).toInt = (nhe : Int) := tn1314_ ()
                have t_n5 : (nI S).toInt = (S : Int) := tn1293_ ()
                have t_n6 : (nI M).toInt = (M : Int) := tn1294_ ()
                have z0 : (0 : Int32).toInt = 0 := qI_0
                have z1 : (1 : Int32).toInt = 1 := qI_1
                have z2 : (2 : Int32).toInt = 2 := qI_2
                have z3 : (3 : Int32).toInt = 3 := qI_3
                have z5 : (5 : Int32).toInt = 5 := qI_5
                have z9 : (9 : Int32).toInt = 9 := qI_9
                have eC : otC lo xh sm vbr vtk vva = 3 := (by unfold otC; (repeat (first | rw [if_pos (by assumption)] | rw [if_neg (by assumption)] | rw [if_pos (by omega)] | rw [if_neg (by omega)] | rw [if_pos (by decide)] | rw [if_neg (by decide)])))
                have z9 : vbr = 0 := (by assumption)
                have q1 := w45.2.1
                have q2 := w45.2.2
                unfold flB at q1
                unfold flA at q2
                rw [if_pos z9] at q1 q2
                have eB : otB lo xh sm vbr vtk vva = 3 := (by unfold otB; rw [eC, if_neg (by decide)])
                have eA : otA lo xh sm vbr vba nhe vtk vva = nI nhe := (by unfold otA; rw [eC, if_neg (by decide)])
                refine ⟨⟨by omega, by omega⟩, ?_⟩
                unfold otV
                rw [eB, if_neg (by decide)]
              obtain ⟨hP9, hD9⟩ := va_sub2 (ws' := [(h0, .inr (11, [.ref st, .int (nI N), .int (nI B), .ref rp, .int vrs, .int vrb, .int vhs, .int vca, .int vxs, .int vxb, .ref tp, .int (nI T), .int vfa, .int u52, .int u53, .int (nI u54), .int (nI u55), .int u56, .int u57, .ref cu, .ref lt, .ref od, .ref th, .ref be, .ref ln, .int (nI S), .ref ma, .int (nI M), .ref ah, .ref bh, .ref ik, .ref la, .ref lg, .ref ce, .int vto])), (tp, .inl (G 0, 320, .inl ftp))]) hP hD [0, 1] (by decide) rfl
              refine W.widen (k := 0) (n := 0) (Nat.le_of_ble_eq_true rfl) (Nat.le_of_ble_eq_true rfl) ?_
              exact W.iret (v := lo) hx hb hr (fun t ht hW => ⟨⟨lo, (u52, u53, u54, u55, u56, u57), rfl, ⟨hpost, (by have t_c1 := eqI c1; have t_c13 := eqI c13; have t_c14 := eqI c14; have t_b43 := b43; have t_w45 := w45.1; have t_c48 := neI c48; have t_c49 := neI c49; have : (0 : Int32).toInt = 0 := qI_0; have : (2 : Int32).toInt = 2 := qI_2; have t_n0 : (nI N).toInt = (N : Int) := tn1290_ (); have t_n1 : (nI B).toInt = (B : Int) := tn1291_ (); have t_n2 : (nI T).toInt = (T : Int) := tn1292_ (); have t_n3 : (nI nsp).toInt = (nsp : Int) := tn1313_ (); have t_n4 : (nI nhe).toInt = (nhe : Int) := tn1314_ (); have t_n5 : (nI S).toInt = (S : Int) := tn1293_ (); have t_n6 : (nI M).toInt = (M : Int) := tn1294_ (); have z0 : (0 : Int32).toInt = 0 := qI_0; have z1 : (1 : Int32).toInt = 1 := qI_1; have z2 : (2 : Int32).toInt = 2 := qI_2; have z3 : (3 : Int32).toInt = 3 := qI_3; have z5 : (5 : Int32).toInt = 5 := qI_5; have z9 : (9 : Int32).toInt = 9 := qI_9; have eC : otC lo xh sm vbr vtk vva = 3 := (by unfold otC; (repeat (first | rw [if_pos (by assumption)] | rw [if_neg (by assumption)] | rw [if_pos (by omega)] | rw [if_neg (by omega)] | rw [if_pos (by decide)] | rw [if_neg (by decide)]))); have z9 : vbr = 0 := (by assumption); have q1 := w45.2.1; have q2 := w45.2.2; unfold flB at q1; unfold flA at q2; rw [if_pos z9] at q1 q2; have eB : otB lo xh sm vbr vtk vva = 3 := (by unfold otB; rw [eC, if_neg (by decide)]); have eA : otA lo xh sm vbr vba nhe vtk vva = nI nhe := (by unfold otA; rw [eC, if_neg (by decide)]); refine ⟨by omega, by omega, by omega, by omega, by omega, by omega, ?_⟩; rw [eB, eA]; have e7 := w51.2.2.2.2.2.2; rw [q1, q2] at e7; exact e7)⟩, ⟨by rw [ht]; exact hP9, hD9⟩⟩, hS.F ht⟩) hS.2.2 dX11_other_94
            · skip
              have t_c1 := eqI c1
              have t_c13 := eqI c13
              have t_c14 := eqI c14
              have t_b43 := b43
              have t_w45 := w45.1
              have t_c48 := neI c48
              have t_c49 := eqI c49
              have : (0 : Int32).toInt = 0 := qI_0
              have : (2 : Int32).toInt = 2 := qI_2
              have t_n0 : (nI N).toInt = (N : Int) := tn1290_ ()
              have t_n1 : (nI B).toInt = (B : Int) := tn1291_ ()
              have t_n2 : (nI T).toInt = (T : Int) := tn1292_ ()
              have t_n3 : (nI nsp).toInt = (nsp : Int) := tn1313_ ()
              have t_n4 : (nI nhe).toInt = (nhe : Int) := tn1314_ ()
              have t_n5 : (nI S).toInt = (S : Int) := tn1293_ ()
              have t_n6 : (nI M).toInt = (M : Int) := tn1294_ ()
              exfalso; omega
          · skip
            have t_c1 := eqI c1
            have t_c13 := eqI c13
            have t_c14 := eqI c14
            have t_b43 := b43
            have t_w45 := w45.1
            have t_c48 := eqI c48
            have : (0 : Int32).toInt = 0 := qI_0
            have : (2 : Int32).toInt = 2 := qI_2
            have t_n0 : (nI N).toInt = (N : Int) := tn1290_ ()
            have t_n1 : (nI B).toInt = (B : Int) := tn1291_ ()
            have t_n2 : (nI T).toInt = (T : Int) := tn1292_ ()
            have t_n3 : (nI nsp).toInt = (nsp : Int) := tn1313_ ()
            have t_n4 : (nI nhe).toInt = (nhe : Int) := tn1314_ ()
            have t_n5 : (nI S).toInt = (S : Int) := tn1293_ ()
            have t_n6 : (nI M).toInt = (M : Int) := tn1294_ ()
            exfalso; omega
    · skip
      refine lv_aload_n hx hb dX11_other_15 rfl (lv_at hl 0 rfl) ?_
      refine lv_iconst (v := 2) hx hb dX11_other_16 rfl ?_
      obtain ⟨hPc, hDc, hFc⟩ := va_sub3 (ws' := [(h0, .inr (11, [.ref st, .int (nI N), .int (nI B), .ref rp, .int vrs, .int vrb, .int vhs, .int vca, .int vxs, .int vxb, .ref tp, .int (nI T), .int vfa, .int vbr, .int vba, .int (nI nsp), .int (nI nhe), .int vtk, .int vva, .ref cu, .ref lt, .ref od, .ref th, .ref be, .ref ln, .int (nI S), .ref ma, .int (nI M), .ref ah, .ref bh, .ref ik, .ref la, .ref lg, .ref ce, .int vto]))]) hP hD hS hA [0] (by decide) rfl
      have tn1315_ : nIT nsp := fun _ => nI_toInt (by first | omega | (have t_c1 := eqI c1; have t_c13 := neI c13; have : (0 : Int32).toInt = 0 := qI_0; have : (2 : Int32).toInt = 2 := qI_2; omega))
      have tn1316_ : nIT nhe := fun _ => nI_toInt (by first | omega | (have t_c1 := eqI c1; have t_c13 := neI c13; have : (0 : Int32).toInt = 0 := qI_0; have : (2 : Int32).toInt = 2 := qI_2; omega))
      refine va_callv (va_runV (As := [.int 2]) (rest := []) ⟨hx, hb, hml, hown, hg⟩ (c_X11_failsE l dC dI G _ h0 st N B rp tp T nhe cu lt od th be ln S ma M ah bh ik la lg ce 2 vrs vrb vhs vca vxs vxb vfa vbr vba (nI nsp) vtk vva vto hN hB_ hT_ hS0 hM_ (by have t_c1 := eqI c1; have t_c13 := neI c13; have : (0 : Int32).toInt = 0 := qI_0; have : (2 : Int32).toInt = 2 := qI_2; have t_n0 : (nI N).toInt = (N : Int) := tn1290_ (); have t_n1 : (nI B).toInt = (B : Int) := tn1291_ (); have t_n2 : (nI T).toInt = (T : Int) := tn1292_ (); have t_n3 : (nI nsp).toInt = (nsp : Int) := tn1315_ (); have t_n4 : (nI nhe).toInt = (nhe : Int) := tn1316_ (); have t_n5 : (nI S).toInt = (S : Int) := tn1293_ (); have t_n6 : (nI M).toInt = (M : Int) := tn1294_ (); have : (2 : Int32).toInt = 2 := qI_2; omega) hbr (by first | omega | (have t_c1 := eqI c1; have t_c13 := neI c13; have : (0 : Int32).toInt = 0 := qI_0; have : (2 : Int32).toInt = 2 := qI_2; have t_n0 : (nI N).toInt = (N : Int) := tn1290_ (); have t_n1 : (nI B).toInt = (B : Int) := tn1291_ (); have t_n2 : (nI T).toInt = (T : Int) := tn1292_ (); have t_n3 : (nI nsp).toInt = (nsp : Int) := tn1315_ (); have t_n4 : (nI nhe).toInt = (nhe : Int) := tn1316_ (); have t_n5 : (nI S).toInt = (S : Int) := tn1293_ (); have t_n6 : (nI M).toInt = (M : Int) := tn1294_ (); have : (2 : Int32).toInt = 2 := qI_2; omega))) (kwV hg mfX11_fails wt_1011 ⟨Nat.le_of_ble_eq_true rfl, Nat.le_of_ble_eq_true rfl⟩) (preVW hK hPc hDc (ci := 11) rfl rfl) rfl rfl hl.1 rfl (lv_room (Nat.le_of_ble_eq_true rfl)) dX11_other_17 ⟨Nat.le_of_ble_eq_true rfl, Nat.le_of_ble_eq_true rfl⟩) hS (fun q _ h => hFc q h) hFc (fun ur58 t H1 locs ht hvm w59 hB hz1 hk1 hS => ?_)
      obtain ⟨u60, u61⟩ := ur58
      obtain ⟨hP1, hD1⟩ := hB
      rw [ht] at hP1
      obtain ⟨hP, hD⟩ := va_join (wr := [(tp, .inl (G 0, 320, .inl ftp))]) (w1 := [(h0, .inr (11, [.ref st, .int (nI N), .int (nI B), .ref rp, .int vrs, .int vrb, .int vhs, .int vca, .int vxs, .int vxb, .ref tp, .int (nI T), .int vfa, .int u60, .int u61, .int (nI nsp), .int (nI nhe), .int vtk, .int vva, .ref cu, .ref lt, .ref od, .ref th, .ref be, .ref ln, .int (nI S), .ref ma, .int (nI M), .ref ah, .ref bh, .ref ik, .ref la, .ref lg, .ref ce, .int vto]))]) hP hD [0] [1] rfl rfl (by decide) (by decide) hk1 hFc hP1 hD1
      have w59 : 0 < u60.toInt ∧ u60 = flB (2 : Int32) vbr ∧ u61 = flA vbr vba nhe := w59
      generalize H1 = H at hP hS ⊢
      refine lv_aload_n hx hb dX11_other_20 rfl (lv_at hl 0 rfl) ?_
      refine va_get (D := (dC, dI)) (ci := 11) (v := .int u60) (C := RX11) (T := TX11) (N := 35) hx hb hg inG11 hown hK.1 hP 1 rfl rfl 13 (Nat.le_of_ble_eq_true rfl) (hg _ wt_891) (fun _ h9 => h9) rfl dX11_other_21 ?_
      refine lv_if_ne (tgt := 47) hx hb dX11_other_24 rfl (fun c62 => ?_) (fun c62 => ?_)
      · skip
        refine lv_aload_n hx hb dX11_other_47 rfl (lv_at hl 0 rfl) ?_
        refine va_get (D := (dC, dI)) (ci := 11) (v := .int u60) (C := RX11) (T := TX11) (N := 35) hx hb hg inG11 hown hK.1 hP 1 rfl rfl 13 (Nat.le_of_ble_eq_true rfl) (hg _ wt_891) (fun _ h9 => h9) rfl dX11_other_48 ?_
        refine lv_if_ne (tgt := 71) hx hb dX11_other_51 rfl (fun c63 => ?_) (fun c63 => ?_)
        · skip
          refine lv_aload_n hx hb dX11_other_71 rfl (lv_at hl 0 rfl) ?_
          refine va_get (D := (dC, dI)) (ci := 11) (v := .int u60) (C := RX11) (T := TX11) (N := 35) hx hb hg inG11 hown hK.1 hP 1 rfl rfl 13 (Nat.le_of_ble_eq_true rfl) (hg _ wt_891) (fun _ h9 => h9) rfl dX11_other_72 ?_
          refine lv_if_ne (tgt := 85) hx hb dX11_other_75 rfl (fun c64 => ?_) (fun c64 => ?_)
          · skip
            refine lv_iload_n hx hb dX11_other_85 rfl (lv_at hl 1 rfl) ?_
            refine lv_istore (lv' := [(4, .int lo), (0, .ref h0), (1, .int lo), (2, .int xh), (3, .int sm)]) hx hb dX11_other_86 hl (by decide) rfl (fun ls hl => ?_)
            refine lv_aload_n hx hb dX11_other_88 rfl (lv_at hl 1 rfl) ?_
            obtain ⟨hPc, hDc, hFc⟩ := va_sub3 (ws' := [(h0, .inr (11, [.ref st, .int (nI N), .int (nI B), .ref rp, .int vrs, .int vrb, .int vhs, .int vca, .int vxs, .int vxb, .ref tp, .int (nI T), .int vfa, .int u60, .int u61, .int (nI nsp), .int (nI nhe), .int vtk, .int vva, .ref cu, .ref lt, .ref od, .ref th, .ref be, .ref ln, .int (nI S), .ref ma, .int (nI M), .ref ah, .ref bh, .ref ik, .ref la, .ref lg, .ref ce, .int vto])), (tp, .inl (G 0, 320, .inl ftp))]) hP hD hS hA [1, 0] (by decide) rfl
            refine va_callv (va_runV (As := []) (rest := []) ⟨hx, hb, hml, hown, hg⟩ (c_X11_goesOnE l dC dI G _ h0 st N B rp tp T nsp nhe cu lt od th be ln S ma M ah bh ik la lg ce vrs vrb vhs vca vxs vxb vfa u60 u61 vtk vva vto ftp hN hB_ hT_ hS0 hM_ (by have t_c1 := eqI c1; have t_c13 := neI c13; have t_w59 := w59.1; have t_c62 := neI c62; have t_c63 := neI c63; have t_c64 := neI c64; have : (0 : Int32).toInt = 0 := qI_0; have : (2 : Int32).toInt = 2 := qI_2; have t_n0 : (nI N).toInt = (N : Int) := tn1290_ (); have t_n1 : (nI B).toInt = (B : Int) := tn1291_ (); have t_n2 : (nI T).toInt = (T : Int) := tn1292_ (); have t_n3 : (nI nsp).toInt = (nsp : Int) := tn1315_ (); have t_n4 : (nI nhe).toInt = (nhe : Int) := tn1316_ (); have t_n5 : (nI S).toInt = (S : Int) := tn1293_ (); have t_n6 : (nI M).toInt = (M : Int) := tn1294_ (); have z0 : (0 : Int32).toInt = 0 := qI_0; have z1 : (1 : Int32).toInt = 1 := qI_1; have z2 : (2 : Int32).toInt = 2 := qI_2; have z3 : (3 : Int32).toInt = 3 := qI_3; have z5 : (5 : Int32).toInt = 5 := qI_5; have z9 : (9 : Int32).toInt = 9 := qI_9; omega) hsp (by have t_c1 := eqI c1; have t_c13 := neI c13; have t_w59 := w59.1; have t_c62 := neI c62; have t_c63 := neI c63; have t_c64 := neI c64; have : (0 : Int32).toInt = 0 := qI_0; have : (2 : Int32).toInt = 2 := qI_2; have t_n0 : (nI N).toInt = (N : Int) := tn1290_ (); have t_n1 : (nI B).toInt = (B : Int) := tn1291_ (); have t_n2 : (nI T).toInt = (T : Int) := tn1292_ (); have t_n3 : (nI nsp).toInt = (nsp : Int) := tn1315_ (); have t_n4 : (nI nhe).toInt = (nhe : Int) := tn1316_ (); have t_n5 : (nI S).toInt = (S : Int) := tn1293_ (); have t_n6 : (nI M).toInt = (M : Int) := tn1294_ (); have z0 : (0 : Int32).toInt = 0 := qI_0; have z1 : (1 : Int32).toInt = 1 := qI_1; have z2 : (2 : Int32).toInt = 2 := qI_2; have z3 : (3 : Int32).toInt = 3 := qI_3; have z5 : (5 : Int32).toInt = 5 := qI_5; have z9 : (9 : Int32).toInt = 9 := qI_9; omega) htb) (kwV hg mfX11_goesOn wt_999 ⟨Nat.le_of_ble_eq_true rfl, Nat.le_of_ble_eq_true rfl⟩) (preVW hK hPc hDc (ci := 11) rfl rfl) rfl rfl hl.1 rfl (lv_room (Nat.le_of_ble_eq_true rfl)) dX11_other_89 ⟨Nat.le_of_ble_eq_true rfl, Nat.le_of_ble_eq_true rfl⟩) hS (fun q _ h => hFc q h) hFc (fun ur65 t H1 locs ht hvm w66 hB hz1 hk1 hS => ?_)
            obtain ⟨u67, u68, u69, u70, u71, u72⟩ := ur65
            obtain ⟨hP1, hD1⟩ := hB
            rw [ht] at hP1
            obtain ⟨hP, hD⟩ := va_join (wr := []) (w1 := [(h0, .inr (11, [.ref st, .int (nI N), .int (nI B), .ref rp, .int vrs, .int vrb, .int vhs, .int vca, .int vxs, .int vxb, .ref tp, .int (nI T), .int vfa, .int u67, .int u68, .int (nI u69), .int (nI u70), .int u71, .int u72, .ref cu, .ref lt, .ref od, .ref th, .ref be, .ref ln, .int (nI S), .ref ma, .int (nI M), .ref ah, .ref bh, .ref ik, .ref la, .ref lg, .ref ce, .int vto])), (tp, .inl (G 0, 320, .inl ftp))]) hP hD [1, 0] [] rfl rfl (by decide) (by decide) hk1 hFc hP1 hD1
            have w66 : 0 ≤ u67.toInt ∧ (u60.toInt = 0 ∨ u67.toInt = u60.toInt) ∧ nsp ≤ u69 ∧ u69 ≤ T ∧ u70 ≤ u69 ∧ (0 < u60.toInt ∨ u71.toInt = 0 ∨ nsp < u69) ∧ (u67, u68, u69, u70, u71, u72) = gOn ftp T u60 u61 nsp nhe vtk vva := w66
            generalize H1 = H at hP hS ⊢
            refine lv_iload hx hb dX11_other_92 (lv_at hl 0 rfl) ?_
            have hpost : (lo.toInt ≤ (lo : Int32).toInt ∧ (lo : Int32).toInt ≤ xh.toInt) ∧ (lo : Int32) = otV lo xh sm vbr vtk vva := by
              have t_c1 := eqI c1
              have t_c13 := neI c13
              have t_w59 := w59.1
              have t_c62 := neI c62
              have t_c63 := neI c63
              have t_c64 := neI c64
              have : (0 : Int32).toInt = 0 := qI_0
              have : (2 : Int32).toInt = 2 := qI_2
              have t_n0 : (nI N).toInt = (N : Int) := tn1290_ ()
              have t_n1 : (nI B).toInt = (B : Int) := tn1291_ ()
              have t_n2 : (nI T).toInt = (T : Int) := tn1292_ ()
              have t_n3 : (nI nsp).toInt = (nsp : Int) := tn1315_ ()
              have t_n4 : (nI nhe).toInt = (nhe : Int) := tn1316_ ()
              have t_n5 : (nI S).toInt = (S : Int) := tn1293_ ()
              have t_n6 : (nI M).toInt = (M : Int) := tn1294_ ()
              have z0 : (0 : Int32).toInt = 0 := qI_0
              have z1 : (1 : Int32).toInt = 1 := qI_1
              have z2 : (2 : Int32).toInt = 2 := qI_2
              have z3 : (3 : Int32).toInt = 3 := qI_3
              have z5 : (5 : Int32).toInt = 5 := qI_5
              have z9 : (9 : Int32).toInt = 9 := qI_9
              have eC : otC lo xh sm vbr vtk vva = 2 := (by unfold otC; (repeat (first | rw [if_pos (by assumption)] | rw [if_neg (by assumption)] | rw [if_pos (by omega)] | rw [if_neg (by omega)] | rw [if_pos (by decide)] | rw [if_neg (by decide)])))
              have z9 : vbr = 0 := (by assumption)
              have q1 := w59.2.1
              have q2 := w59.2.2
              unfold flB at q1
              unfold flA at q2
              rw [if_pos z9] at q1 q2
              have eB : otB lo xh sm vbr vtk vva = 2 := (by unfold otB; rw [eC, if_neg (by decide)])
              have eA : otA lo xh sm vbr vba nhe vtk vva = nI nhe := (by unfold otA; rw [eC, if_neg (by decide)])
              refine ⟨⟨by omega, by omega⟩, ?_⟩
              unfold otV
              rw [eB, if_neg (by decide)]
            obtain ⟨hP9, hD9⟩ := va_sub2 (ws' := [(h0, .inr (11, [.ref st, .int (nI N), .int (nI B), .ref rp, .int vrs, .int vrb, .int vhs, .int vca, .int vxs, .int vxb, .ref tp, .int (nI T), .int vfa, .int u67, .int u68, .int (nI u69), .int (nI u70), .int u71, .int u72, .ref cu, .ref lt, .ref od, .ref th, .ref be, .ref ln, .int (nI S), .ref ma, .int (nI M), .ref ah, .ref bh, .ref ik, .ref la, .ref lg, .ref ce, .int vto])), (tp, .inl (G 0, 320, .inl ftp))]) hP hD [0, 1] (by decide) rfl
            refine W.widen (k := 0) (n := 0) (Nat.le_of_ble_eq_true rfl) (Nat.le_of_ble_eq_true rfl) ?_
            exact W.iret (v := lo) hx hb hr (fun t ht hW => ⟨⟨lo, (u67, u68, u69, u70, u71, u72), rfl, ⟨hpost, (by have t_c1 := eqI c1; have t_c13 := neI c13; have t_w59 := w59.1; have t_c62 := neI c62; have t_c63 := neI c63; have t_c64 := neI c64; have : (0 : Int32).toInt = 0 := qI_0; have : (2 : Int32).toInt = 2 := qI_2; have t_n0 : (nI N).toInt = (N : Int) := tn1290_ (); have t_n1 : (nI B).toInt = (B : Int) := tn1291_ (); have t_n2 : (nI T).toInt = (T : Int) := tn1292_ (); have t_n3 : (nI nsp).toInt = (nsp : Int) := tn1315_ (); have t_n4 : (nI nhe).toInt = (nhe : Int) := tn1316_ (); have t_n5 : (nI S).toInt = (S : Int) := tn1293_ (); have t_n6 : (nI M).toInt = (M : Int) := tn1294_ (); have z0 : (0 : Int32).toInt = 0 := qI_0; have z1 : (1 : Int32).toInt = 1 := qI_1; have z2 : (2 : Int32).toInt = 2 := qI_2; have z3 : (3 : Int32).toInt = 3 := qI_3; have z5 : (5 : Int32).toInt = 5 := qI_5; have z9 : (9 : Int32).toInt = 9 := qI_9; have eC : otC lo xh sm vbr vtk vva = 2 := (by unfold otC; (repeat (first | rw [if_pos (by assumption)] | rw [if_neg (by assumption)] | rw [if_pos (by omega)] | rw [if_neg (by omega)] | rw [if_pos (by decide)] | rw [if_neg (by decide)]))); have z9 : vbr = 0 := (by assumption); have q1 := w59.2.1; have q2 := w59.2.2; unfold flB at q1; unfold flA at q2; rw [if_pos z9] at q1 q2; have eB : otB lo xh sm vbr vtk vva = 2 := (by unfold otB; rw [eC, if_neg (by decide)]); have eA : otA lo xh sm vbr vba nhe vtk vva = nI nhe := (by unfold otA; rw [eC, if_neg (by decide)]); refine ⟨by omega, by omega, by omega, by omega, by omega, by omega, ?_⟩; rw [eB, eA]; have e7 := w66.2.2.2.2.2.2; rw [q1, q2] at e7; exact e7)⟩, ⟨by rw [ht]; exact hP9, hD9⟩⟩, hS.F ht⟩) hS.2.2 dX11_other_94
          · skip
            have t_c1 := eqI c1
            have t_c13 := neI c13
            have t_w59 := w59.1
            have t_c62 := neI c62
            have t_c63 := neI c63
            have t_c64 := eqI c64
            have : (0 : Int32).toInt = 0 := qI_0
            have : (2 : Int32).toInt = 2 := qI_2
            have t_n0 : (nI N).toInt = (N : Int) := tn1290_ ()
            have t_n1 : (nI B).toInt = (B : Int) := tn1291_ ()
            have t_n2 : (nI T).toInt = (T : Int) := tn1292_ ()
            have t_n3 : (nI nsp).toInt = (nsp : Int) := tn1315_ ()
            have t_n4 : (nI nhe).toInt = (nhe : Int) := tn1316_ ()
            have t_n5 : (nI S).toInt = (S : Int) := tn1293_ ()
            have t_n6 : (nI M).toInt = (M : Int) := tn1294_ ()
            exfalso; omega
        · skip
          have t_c1 := eqI c1
          have t_c13 := neI c13
          have t_w59 := w59.1
          have t_c62 := neI c62
          have t_c63 := eqI c63
          have : (0 : Int32).toInt = 0 := qI_0
          have : (2 : Int32).toInt = 2 := qI_2
          have t_n0 : (nI N).toInt = (N : Int) := tn1290_ ()
          have t_n1 : (nI B).toInt = (B : Int) := tn1291_ ()
          have t_n2 : (nI T).toInt = (T : Int) := tn1292_ ()
          have t_n3 : (nI nsp).toInt = (nsp : Int) := tn1315_ ()
          have t_n4 : (nI nhe).toInt = (nhe : Int) := tn1316_ ()
          have t_n5 : (nI S).toInt = (S : Int) := tn1293_ ()
          have t_n6 : (nI M).toInt = (M : Int) := tn1294_ ()
          exfalso; omega
      · skip
        have t_c1 := eqI c1
        have t_c13 := neI c13
        have t_w59 := w59.1
        have t_c62 := eqI c62
        have : (0 : Int32).toInt = 0 := qI_0
        have : (2 : Int32).toInt = 2 := qI_2
        have t_n0 : (nI N).toInt = (N : Int) := tn1290_ ()
        have t_n1 : (nI B).toInt = (B : Int) := tn1291_ ()
        have t_n2 : (nI T).toInt = (T : Int) := tn1292_ ()
        have t_n3 : (nI nsp).toInt = (nsp : Int) := tn1315_ ()
        have t_n4 : (nI nhe).toInt = (nhe : Int) := tn1316_ ()
        have t_n5 : (nI S).toInt = (S : Int) := tn1293_ ()
        have t_n6 : (nI M).toInt = (M : Int) := tn1294_ ()
        exfalso; omega

set_option maxHeartbeats 1000000 in
set_option maxRecDepth 100000 in
theorem c_X11_nameHereE (l : Launch) (dC : Nat → ClassId) (dI : Nat → Nat → Nat) (G : Nat → ClassId) (sz : Nat) (h0 st N B rp tp T nsp nhe cu lt od th be ln S ma M ah bh ik la lg ce : Nat) (vrs vrb vhs vca vxs vxb vfa vbr vba vtk vva vto : Int32) (ftp : Nat → Int32) (fcu : Nat → Int32) (flt : Nat → Int32) (hN : N ≤ 10) (hB : B ≤ 6) (hT : T ≤ 320) (hS0 : S ≤ 8) (hM : M ≤ 6) (hsp : nsp ≤ T) (hhe : nhe ≤ nsp) (hc : ∀ q : Nat, q < 11 → fcu q = nI (cutL.getD q 0)) (hlt : ∀ q : Nat, q < 54 → flt q = letL.getD q 0) : Met l yX11_nameHere (Cond.code yX11_nameHere cX11_nameHere 4 (some .int) :: GT) ({ frames := 1, cells := 0, slots := 0, locals := 21 } : Room) (PcR [.ref h0] dC dI G [(h0, .inr (11, [.ref st, .int (nI N), .int (nI B), .ref rp, .int vrs, .int vrb, .int vhs, .int vca, .int vxs, .int vxb, .ref tp, .int (nI T), .int vfa, .int vbr, .int vba, .int (nI nsp), .int (nI nhe), .int vtk, .int vva, .ref cu, .ref lt, .ref od, .ref th, .ref be, .ref ln, .int (nI S), .ref ma, .int (nI M), .ref ah, .ref bh, .ref ik, .ref la, .ref lg, .ref ce, .int vto])), (tp, .inl (G 0, 320, .inl ftp)), (cu, .inl (G 0, 11, .inl fcu)), (lt, .inl (G 0, 54, .inl flt))] sz) (va_Qi (fun (r : Int32) (u : Unit) => match u with | _ => ((r = -4 ∨ ∃ k : Nat, r = nI k ∧ k ≤ 9) ∧ r = nmS ftp nhe nsp vtk) ∧ True) (fun _ _ => True) (fun q : Nat => sz ≤ q)) 0 0 (fun q : Nat => sz ≤ q) := by
  have hB_ := hB
  have hM_ := hM
  have hT_ := hT
  have tn1317_ : nIT N := fun _ => nI_toInt (by omega)
  have tn1318_ : nIT B := fun _ => nI_toInt (by omega)
  have tn1319_ : nIT T := fun _ => nI_toInt (by omega)
  have tn1320_ : nIT S := fun _ => nI_toInt (by omega)
  have tn1321_ : nIT M := fun _ => nI_toInt (by omega)
  refine Met.ofW (cc := cX11_nameHere) (maxL := 4) (ret := (some .int)) (by decide) rfl ?_
  intro p e s m args below meth c s₁ Bd hml hv
  obtain ⟨rfl, hsz, hP, hK⟩ := hv
  have hx := Bd.exec
  have hb := Bd.bytes
  have hr := Bd.returns
  have hg : ∀ w ∈ GT, w.before ([.ref h0] : List Value).toArray s = true := fun w h => atoms_spec (ws := Cond.code yX11_nameHere cX11_nameHere 4 (some .int) :: GT) Bd.pre w (List.mem_cons_of_mem _ h)
  have hown : s.vm.findClass RX11 = some m.cls := findClass_of_methodNamed Bd.named
  have hlocks := Bd.notSynchronized
  subst hsz
  have hA : ∀ q : Nat, s.heap.size ≤ q → (fun q : Nat => s.heap.size ≤ q) q := fun _ h => h
  have hS : va_S (fun q : Nat => s.heap.size ≤ q) s.heap s.heap [] := va_S.rf
  have hl := lv_entry ([.ref h0]) (n := 4) (Nat.le_of_ble_eq_true rfl)
  rw [lg_entry_eq]
  generalize (lg_sl ([.ref h0]) ++ List.replicate (4 - (lg_sl ([.ref h0])).length) Slot.unset).toArray = ls at hl ⊢
  have hl : lv_has ls 4 [(0, .ref h0)] := hl
  refine lv_iconst (v := 0) hx hb dX11_nameHere_0 rfl ?_
  refine lv_istore_n (lv' := [(1, .int 0), (0, .ref h0)]) hx hb dX11_nameHere_1 rfl hl (by decide) rfl (fun ls hl => ?_)
  have loop2_2 : ∀ (nf j1 : Nat), 10 + 1 ≤ j1 + nf → j1 ≤ 10 → ∀ (H : Heap) (locs : List Loc), nmF ftp nhe nsp (10 - j1) = nmF ftp nhe nsp 10 → va_P (dC, dI) vwCl [(h0, .inr (11, [.ref st, .int (nI N), .int (nI B), .ref rp, .int vrs, .int vrb, .int vhs, .int vca, .int vxs, .int vxb, .ref tp, .int (nI T), .int vfa, .int vbr, .int vba, .int (nI nsp), .int (nI nhe), .int vtk, .int vva, .ref cu, .ref lt, .ref od, .ref th, .ref be, .ref ln, .int (nI S), .ref ma, .int (nI M), .ref ah, .ref bh, .ref ik, .ref la, .ref lg, .ref ce, .int vto])), (tp, .inl (G 0, 320, .inl ftp)), (cu, .inl (G 0, 11, .inl fcu)), (lt, .inl (G 0, 54, .inl flt))] H → va_S (fun q : Nat => s.heap.size ≤ q) s.heap H locs → ∀ (ls : Array Slot), lv_has ls 4 [(1, .int (nI j1)), (0, .ref h0)] → W p l e (headSpec (Cond.code yX11_nameHere cX11_nameHere 4 (some .int) :: GT) ({ frames := 1, cells := 0, slots := 0, locals := 21 } : Room)).room s m ([.ref h0] : List Value).toArray below meth c H locs 0 0 (MQ below (va_Qi (fun (r : Int32) (u : Unit) => match u with | _ => ((r = -4 ∨ ∃ k : Nat, r = nI k ∧ k ≤ 9) ∧ r = nmS ftp nhe nsp vtk) ∧ True) (fun _ _ => True) (fun q : Nat => s.heap.size ≤ q)) ([.ref h0] : List Value).toArray s 0 0 (fun q : Nat => s.heap.size ≤ q)) (F0 m 2 ls []) := by
    intro nf
    induction nf with
    | zero => intro j1 h1 h2; exact absurd h1 (by omega)
    | succ nf ih2_2 =>
      intro j1 hn3 hj4  H locs hinv hP hS ls hl
      refine lv_iload_n hx hb dX11_nameHere_2 rfl (lv_at hl 0 rfl) ?_
      refine lv_bipush (v := 10) hx hb dX11_nameHere_3 rfl ?_
      refine lv_icmp_ge (tgt := 118) hx hb dX11_nameHere_5 rfl (fun c5 => ?_) (fun c5 => ?_)
      · skip
        have tn1322_ : nIT j1 := fun _ => nI_toInt (by first | omega | (have t := leI c5; omega))
        have n6 : 10 ≤ j1 := by have t := leI c5; rw [show (nI (j1)).toInt = ((j1 : Nat) : Int) from tn1322_ ()] at t; have : (10 : Int32).toInt = 10 := qI_10; omega
        refine lv_bipush (v := (-4)) hx hb dX11_nameHere_118 rfl ?_
        have hpost : (((-4) : Int32) = -4 ∨ ∃ k : Nat, ((-4) : Int32) = nI k ∧ k ≤ 9) ∧ ((-4) : Int32) = nmS ftp nhe nsp vtk := by
          have tn1323_ : nIT nsp := fun _ => nI_toInt (by omega)
          have tn1324_ : nIT nhe := fun _ => nI_toInt (by omega)
          refine ⟨Or.inl rfl, ?_⟩
          unfold nmS
          first | (rw [if_neg (by assumption)]) | (split <;> first | rfl | (rw [← hinv, show 10 - j1 = 0 by (have t_hj4 := hj4; have t_n6 := n6; have t_n0 : (nI N).toInt = (N : Int) := tn1317_ (); have t_n1 : (nI B).toInt = (B : Int) := tn1318_ (); have t_n2 : (nI T).toInt = (T : Int) := tn1319_ (); have t_n3 : (nI nsp).toInt = (nsp : Int) := tn1323_ (); have t_n4 : (nI nhe).toInt = (nhe : Int) := tn1324_ (); have t_n5 : (nI S).toInt = (S : Int) := tn1320_ (); have t_n6 : (nI M).toInt = (M : Int) := tn1321_ (); have t_n7 : (nI j1).toInt = (j1 : Int) := tn1322_ (); have z0 : (0 : Int32).toInt = 0 := qI_0; have z1 : (1 : Int32).toInt = 1 := qI_1; have z2 : (2 : Int32).toInt = 2 := qI_2; have z3 : (3 : Int32).toInt = 3 := qI_3; have z5 : (5 : Int32).toInt = 5 := qI_5; have z9 : (9 : Int32).toInt = 9 := qI_9; omega)]; rfl))
        refine W.widen (k := 0) (n := 0) (Nat.le_of_ble_eq_true rfl) (Nat.le_of_ble_eq_true rfl) ?_
        exact W.iret (v := (-4)) hx hb hr (fun t ht hW => ⟨⟨(-4), (), rfl, ⟨hpost, trivial⟩, trivial⟩, hS.F ht⟩) hS.2.2 dX11_nameHere_120
      · skip
        have tn1325_ : nIT j1 := fun _ => nI_toInt (by first | omega | (have t := nleI c5; omega))
        have n7 : j1 < 10 := by have t := nleI c5; rw [show (nI (j1)).toInt = ((j1 : Nat) : Int) from tn1325_ ()] at t; have : (10 : Int32).toInt = 10 := qI_10; omega
        refine lv_aload_n hx hb dX11_nameHere_8 rfl (lv_at hl 1 rfl) ?_
        refine va_get (D := (dC, dI)) (ci := 11) (v := .int vtk) (C := RX11) (T := TX11) (N := 35) hx hb hg inG11 hown hK.1 hP 0 rfl rfl 17 (Nat.le_of_ble_eq_true rfl) (hg _ wt_895) (fun _ h9 => h9) rfl dX11_nameHere_9 ?_
        refine lv_iconst (v := 1) hx hb dX11_nameHere_12 rfl ?_
        refine lv_icmp_ne (tgt := 118) hx hb dX11_nameHere_13 rfl (fun c8 => ?_) (fun c8 => ?_)
        · skip
          refine lv_bipush (v := (-4)) hx hb dX11_nameHere_118 rfl ?_
          have hpost : (((-4) : Int32) = -4 ∨ ∃ k : Nat, ((-4) : Int32) = nI k ∧ k ≤ 9) ∧ ((-4) : Int32) = nmS ftp nhe nsp vtk := by
            have tn1326_ : nIT nsp := fun _ => nI_toInt (by omega)
            have tn1327_ : nIT nhe := fun _ => nI_toInt (by omega)
            refine ⟨Or.inl rfl, ?_⟩
            unfold nmS
            first | (rw [if_neg (by assumption)]) | (split <;> first | rfl | (rw [← hinv, show 10 - j1 = 0 by (have t_hj4 := hj4; have t_n7 := n7; have t_c8 := neI c8; have : (1 : Int32).toInt = 1 := qI_1; have t_n0 : (nI N).toInt = (N : Int) := tn1317_ (); have t_n1 : (nI B).toInt = (B : Int) := tn1318_ (); have t_n2 : (nI T).toInt = (T : Int) := tn1319_ (); have t_n3 : (nI nsp).toInt = (nsp : Int) := tn1326_ (); have t_n4 : (nI nhe).toInt = (nhe : Int) := tn1327_ (); have t_n5 : (nI S).toInt = (S : Int) := tn1320_ (); have t_n6 : (nI M).toInt = (M : Int) := tn1321_ (); have t_n7 : (nI j1).toInt = (j1 : Int) := tn1325_ (); have z0 : (0 : Int32).toInt = 0 := qI_0; have z1 : (1 : Int32).toInt = 1 := qI_1; have z2 : (2 : Int32).toInt = 2 := qI_2; have z3 : (3 : Int32).toInt = 3 := qI_3; have z5 : (5 : Int32).toInt = 5 := qI_5; have z9 : (9 : Int32).toInt = 9 := qI_9; omega)]; rfl))
          refine W.widen (k := 0) (n := 0) (Nat.le_of_ble_eq_true rfl) (Nat.le_of_ble_eq_true rfl) ?_
          exact W.iret (v := (-4)) hx hb hr (fun t ht hW => ⟨⟨(-4), (), rfl, ⟨hpost, trivial⟩, trivial⟩, hS.F ht⟩) hS.2.2 dX11_nameHere_120
        · skip
          have hout := hinv
          refine lv_aload_n hx hb dX11_nameHere_16 rfl (lv_at hl 1 rfl) ?_
          refine va_get (D := (dC, dI)) (ci := 11) (v := .int (nI nsp)) (C := RX11) (T := TX11) (N := 35) hx hb hg inG11 hown hK.1 hP 0 rfl rfl 15 (Nat.le_of_ble_eq_true rfl) (hg _ wt_893) (fun _ h9 => h9) rfl dX11_nameHere_17 ?_
          refine lv_aload_n hx hb dX11_nameHere_20 rfl (lv_at hl 1 rfl) ?_
          refine va_get (D := (dC, dI)) (ci := 11) (v := .int (nI nhe)) (C := RX11) (T := TX11) (N := 35) hx hb hg inG11 hown hK.1 hP 0 rfl rfl 16 (Nat.le_of_ble_eq_true rfl) (hg _ wt_894) (fun _ h9 => h9) rfl dX11_nameHere_21 ?_
          refine lv_isub hx hb dX11_nameHere_24 ?_
          have tn1328_ : nIT nsp := fun _ => nI_toInt (by first | omega | (have t_hj4 := hj4; have t_n7 := n7; have t_c8 := eqI c8; have : (1 : Int32).toInt = 1 := qI_1; omega))
          have tn1329_ : nIT nhe := fun _ => nI_toInt (by first | omega | (have t_hj4 := hj4; have t_n7 := n7; have t_c8 := eqI c8; have : (1 : Int32).toInt = 1 := qI_1; omega))
          refine lv_cg (y := nI (nsp - nhe)) (by exact pk_sub (by have t_hj4 := hj4; have t_n7 := n7; have t_c8 := eqI c8; have : (1 : Int32).toInt = 1 := qI_1; have t_n0 : (nI N).toInt = (N : Int) := tn1317_ (); have t_n1 : (nI B).toInt = (B : Int) := tn1318_ (); have t_n2 : (nI T).toInt = (T : Int) := tn1319_ (); have t_n3 : (nI nsp).toInt = (nsp : Int) := tn1328_ (); have t_n4 : (nI nhe).toInt = (nhe : Int) := tn1329_ (); have t_n5 : (nI S).toInt = (S : Int) := tn1320_ (); have t_n6 : (nI M).toInt = (M : Int) := tn1321_ (); have t_n7 : (nI j1).toInt = (j1 : Int) := tn1325_ (); omega)) ?_
          refine lv_aload_n hx hb dX11_nameHere_25 rfl (lv_at hl 1 rfl) ?_
          refine va_get (D := (dC, dI)) (ci := 11) (v := .ref cu) (C := RX11) (T := TX11) (N := 35) hx hb hg inG11 hown hK.1 hP 0 rfl rfl 19 (Nat.le_of_ble_eq_true rfl) (hg _ wt_897) (fun _ h9 => h9) rfl dX11_nameHere_26 ?_
          refine lv_iload_n hx hb dX11_nameHere_29 rfl (lv_at hl 0 rfl) ?_
          refine lv_iconst (v := 1) hx hb dX11_nameHere_30 rfl ?_
          refine lv_iadd hx hb dX11_nameHere_31 ?_
          refine lv_cg (y := nI (j1 + 1)) (by rw [show (1 : Int32) = nI 1 from rfl]; exact nI_add _ _) ?_
          refine va_iald hx hb hK.1 hP 2 0 rfl rfl (vp_in_nI (by first | omega | (have t_hj4 := hj4; have t_n7 := n7; have t_c8 := eqI c8; have : (1 : Int32).toInt = 1 := qI_1; have t_n0 : (nI N).toInt = (N : Int) := tn1317_ (); have t_n1 : (nI B).toInt = (B : Int) := tn1318_ (); have t_n2 : (nI T).toInt = (T : Int) := tn1319_ (); have t_n3 : (nI nsp).toInt = (nsp : Int) := tn1328_ (); have t_n4 : (nI nhe).toInt = (nhe : Int) := tn1329_ (); have t_n5 : (nI S).toInt = (S : Int) := tn1320_ (); have t_n6 : (nI M).toInt = (M : Int) := tn1321_ (); have t_n7 : (nI j1).toInt = (j1 : Int) := tn1325_ (); omega)) (by decide)) dX11_nameHere_32 ?_
          refine lv_cg (y := fcu (j1 + 1)) (by rw [nI_clamp (by omega)]) ?_
          refine lv_cg (y := nI (cutL.getD (j1 + 1) 0)) (hc (j1 + 1) (by omega)) ?_
          refine lv_aload_n hx hb dX11_nameHere_33 rfl (lv_at hl 1 rfl) ?_
          refine va_get (D := (dC, dI)) (ci := 11) (v := .ref cu) (C := RX11) (T := TX11) (N := 35) hx hb hg inG11 hown hK.1 hP 0 rfl rfl 19 (Nat.le_of_ble_eq_true rfl) (hg _ wt_897) (fun _ h9 => h9) rfl dX11_nameHere_34 ?_
          refine lv_iload_n hx hb dX11_nameHere_37 rfl (lv_at hl 0 rfl) ?_
          refine va_iald hx hb hK.1 hP 2 0 rfl rfl (vp_in_nI (by first | omega | (have t_hj4 := hj4; have t_n7 := n7; have t_c8 := eqI c8; have : (1 : Int32).toInt = 1 := qI_1; have t_n0 : (nI N).toInt = (N : Int) := tn1317_ (); have t_n1 : (nI B).toInt = (B : Int) := tn1318_ (); have t_n2 : (nI T).toInt = (T : Int) := tn1319_ (); have t_n3 : (nI nsp).toInt = (nsp : Int) := tn1328_ (); have t_n4 : (nI nhe).toInt = (nhe : Int) := tn1329_ (); have t_n5 : (nI S).toInt = (S : Int) := tn1320_ (); have t_n6 : (nI M).toInt = (M : Int) := tn1321_ (); have t_n7 : (nI j1).toInt = (j1 : Int) := tn1325_ (); omega)) (by decide)) dX11_nameHere_38 ?_
          refine lv_cg (y := fcu j1) (by rw [nI_clamp (by omega)]) ?_
          refine lv_cg (y := nI (cutL.getD j1 0)) (hc j1 (by omega)) ?_
          have hcmj1 := cut_mono (n := j1) (by omega)
          refine lv_isub hx hb dX11_nameHere_39 ?_
          refine lv_cg (y := nI ((cutL.getD (j1 + 1) 0) - (cutL.getD j1 0))) (by exact pk_sub (by have t_hj4 := hj4; have t_n7 := n7; have t_c8 := eqI c8; have t_hcmj1 := hcmj1; have : (1 : Int32).toInt = 1 := qI_1; have t_n0 : (nI N).toInt = (N : Int) := tn1317_ (); have t_n1 : (nI B).toInt = (B : Int) := tn1318_ (); have t_n2 : (nI T).toInt = (T : Int) := tn1319_ (); have t_n3 : (nI nsp).toInt = (nsp : Int) := tn1328_ (); have t_n4 : (nI nhe).toInt = (nhe : Int) := tn1329_ (); have t_n5 : (nI S).toInt = (S : Int) := tn1320_ (); have t_n6 : (nI M).toInt = (M : Int) := tn1321_ (); have t_n7 : (nI j1).toInt = (j1 : Int) := tn1325_ (); omega)) ?_
          refine lv_icmp_ne (tgt := 47) hx hb dX11_nameHere_40 rfl (fun c9 => ?_) (fun c9 => ?_)
          · skip
            have tn1330_ : nIT (nsp - nhe) := fun _ => nI_toInt (by first | omega | (have t := neI c9; omega))
            have tn1331_ : nIT ((cutL.getD (j1 + 1) 0) - (cutL.getD j1 0)) := fun _ => nI_toInt (by omega)
            have n10 : (nsp - nhe) ≠ ((cutL.getD (j1 + 1) 0) - (cutL.getD j1 0)) := by have t := neI c9; rw [show (nI (nsp - nhe)).toInt = ((nsp - nhe : Nat) : Int) from tn1330_ ()] at t; rw [show (nI ((cutL.getD (j1 + 1) 0) - (cutL.getD j1 0))).toInt = (((cutL.getD (j1 + 1) 0) - (cutL.getD j1 0) : Nat) : Int) from tn1331_ ()] at t; omega
            refine lv_iconst (v := 0) hx hb dX11_nameHere_47 rfl ?_
            refine lv_istore_n (lv' := [(2, .int 0), (1, .int (nI j1)), (0, .ref h0)]) hx hb dX11_nameHere_48 rfl hl (by decide) rfl (fun ls hl => ?_)
            refine lv_iconst (v := 0) hx hb dX11_nameHere_49 rfl ?_
            refine lv_istore_n (lv' := [(3, .int 0), (2, .int 0), (1, .int (nI j1)), (0, .ref h0)]) hx hb dX11_nameHere_50 rfl hl (by decide) rfl (fun ls hl => ?_)
            have loop51_12 : ∀ (nf j11 : Nat), (nsp - nhe) + 1 ≤ j11 + nf → j11 ≤ (nsp - nhe) → ∀ (H : Heap) (locs : List Loc), True → va_P (dC, dI) vwCl [(h0, .inr (11, [.ref st, .int (nI N), .int (nI B), .ref rp, .int vrs, .int vrb, .int vhs, .int vca, .int vxs, .int vxb, .ref tp, .int (nI T), .int vfa, .int vbr, .int vba, .int (nI nsp), .int (nI nhe), .int vtk, .int vva, .ref cu, .ref lt, .ref od, .ref th, .ref be, .ref ln, .int (nI S), .ref ma, .int (nI M), .ref ah, .ref bh, .ref ik, .ref la, .ref lg, .ref ce, .int vto])), (tp, .inl (G 0, 320, .inl ftp)), (cu, .inl (G 0, 11, .inl fcu)), (lt, .inl (G 0, 54, .inl flt))] H → va_S (fun q : Nat => s.heap.size ≤ q) s.heap H locs → ∀ (ls : Array Slot), lv_has ls 4 [(3, .int (nI j11)), (2, .int 0), (1, .int (nI j1)), (0, .ref h0)] → W p l e (headSpec (Cond.code yX11_nameHere cX11_nameHere 4 (some .int) :: GT) ({ frames := 1, cells := 0, slots := 0, locals := 21 } : Room)).room s m ([.ref h0] : List Value).toArray below meth c H locs 0 0 (MQ below (va_Qi (fun (r : Int32) (u : Unit) => match u with | _ => ((r = -4 ∨ ∃ k : Nat, r = nI k ∧ k ≤ 9) ∧ r = nmS ftp nhe nsp vtk) ∧ True) (fun _ _ => True) (fun q : Nat => s.heap.size ≤ q)) ([.ref h0] : List Value).toArray s 0 0 (fun q : Nat => s.heap.size ≤ q)) (F0 m 51 ls []) := by
              intro nf
              induction nf with
              | zero => intro j11 h1 h2; exact absurd h1 (by omega)
              | succ nf ih51_12 =>
                intro j11 hn13 hj14  H locs hinv hP hS ls hl
                refine lv_iload_n hx hb dX11_nameHere_51 rfl (lv_at hl 1 rfl) ?_
                refine lv_if_eq (tgt := 106) hx hb dX11_nameHere_52 rfl (fun c15 => ?_) (fun c15 => ?_)
                · skip
                  refine lv_iload_n hx hb dX11_nameHere_106 rfl (lv_at hl 1 rfl) ?_
                  refine lv_if_eq (tgt := 112) hx hb dX11_nameHere_107 rfl (fun c16 => ?_) (fun c16 => ?_)
                  · skip
                    refine lv_iinc (v := nI (j1 + 1)) (lv' := [(1, .int (nI (j1 + 1))), (3, .int (nI j11)), (2, .int 0), (0, .ref h0)]) hx hb dX11_nameHere_112 hl (k := 2) rfl (by rw [show Int32.ofInt 1 = nI 1 from by decide]; exact nI_add _ _) (by decide) rfl (fun ls hl => ?_)
                    refine lv_goto (tgt := 2) hx hb dX11_nameHere_115 rfl ?_
                    have tn1332_ : nIT j11 := fun _ => nI_toInt (by first | omega | (have t_hj4 := hj4; have t_n7 := n7; have t_c8 := eqI c8; have t_hcmj1 := hcmj1; have t_n10 := n10; have t_hj14 := hj14; have t_c15 := eqI c15; have t_c16 := eqI c16; have : (0 : Int32).toInt = 0 := qI_0; have : (1 : Int32).toInt = 1 := qI_1; omega))
                    exact ih2_2 (j1 + 1) (by omega) (by omega)  _ _ (by have t_hj4 := hj4; have t_n7 := n7; have t_c8 := eqI c8; have t_hcmj1 := hcmj1; have t_n10 := n10; have t_hj14 := hj14; have t_c15 := eqI c15; have t_c16 := eqI c16; have : (0 : Int32).toInt = 0 := qI_0; have : (1 : Int32).toInt = 1 := qI_1; have t_n0 : (nI N).toInt = (N : Int) := tn1317_ (); have t_n1 : (nI B).toInt = (B : Int) := tn1318_ (); have t_n2 : (nI T).toInt = (T : Int) := tn1319_ (); have t_n3 : (nI nsp).toInt = (nsp : Int) := tn1328_ (); have t_n4 : (nI nhe).toInt = (nhe : Int) := tn1329_ (); have t_n5 : (nI S).toInt = (S : Int) := tn1320_ (); have t_n6 : (nI M).toInt = (M : Int) := tn1321_ (); have t_n7 : (nI j1).toInt = (j1 : Int) := tn1325_ (); have t_n8 : (nI j11).toInt = (j11 : Int) := tn1332_ (); have z0 : (0 : Int32).toInt = 0 := qI_0; have z1 : (1 : Int32).toInt = 1 := qI_1; have z2 : (2 : Int32).toInt = 2 := qI_2; have z3 : (3 : Int32).toInt = 3 := qI_3; have z5 : (5 : Int32).toInt = 5 := qI_5; have z9 : (9 : Int32).toInt = 9 := qI_9; exact (nmF_n (n := j1) (by omega) (fun h9 => absurd h9.1 (by omega))).symm.trans hout) hP hS ls (lv_sub hl [0, 3] rfl)
                  · skip
                    exact absurd c16 (by decide)
                · skip
                  exact absurd c15 (by decide)
            exact loop51_12 ((nsp - nhe) + 1) 0 (by omega) (by omega)  _ _ trivial hP hS ls (lv_sub hl [0, 1, 2, 3] rfl)
          · skip
            have tn1333_ : nIT (nsp - nhe) := fun _ => nI_toInt (by first | omega | (have t := eqI c9; omega))
            have tn1334_ : nIT ((cutL.getD (j1 + 1) 0) - (cutL.getD j1 0)) := fun _ => nI_toInt (by omega)
            have n17 : (nsp - nhe) = ((cutL.getD (j1 + 1) 0) - (cutL.getD j1 0)) := by have t := eqI c9; rw [show (nI (nsp - nhe)).toInt = ((nsp - nhe : Nat) : Int) from tn1333_ ()] at t; rw [show (nI ((cutL.getD (j1 + 1) 0) - (cutL.getD j1 0))).toInt = (((cutL.getD (j1 + 1) 0) - (cutL.getD j1 0) : Nat) : Int) from tn1334_ ()] at t; omega
            refine lv_iconst (v := 1) hx hb dX11_nameHere_43 rfl ?_
            refine lv_goto (tgt := 48) hx hb dX11_nameHere_44 rfl ?_
            refine lv_istore_n (lv' := [(2, .int 1), (1, .int (nI j1)), (0, .ref h0)]) hx hb dX11_nameHere_48 rfl hl (by decide) rfl (fun ls hl => ?_)
            refine lv_iconst (v := 0) hx hb dX11_nameHere_49 rfl ?_
            refine lv_istore_n (lv' := [(3, .int 0), (2, .int 1), (1, .int (nI j1)), (0, .ref h0)]) hx hb dX11_nameHere_50 rfl hl (by decide) rfl (fun ls hl => ?_)
            have loop51_20 : ∀ (nf j18 : Nat), (nsp - nhe) + 1 ≤ j18 + nf → j18 ≤ (nsp - nhe) → ∀ (y19 : Int32) (H : Heap) (locs : List Loc), ((y19 = 1 ∧ ∀ q9 : Nat, q9 < j18 → ftp (nhe + q9) = letL.getD (cutL.getD j1 0 + q9) 0) ∨ (y19 = 0 ∧ ¬ ∀ q9 : Nat, q9 < nsp - nhe → ftp (nhe + q9) = letL.getD (cutL.getD j1 0 + q9) 0)) → va_P (dC, dI) vwCl [(h0, .inr (11, [.ref st, .int (nI N), .int (nI B), .ref rp, .int vrs, .int vrb, .int vhs, .int vca, .int vxs, .int vxb, .ref tp, .int (nI T), .int vfa, .int vbr, .int vba, .int (nI nsp), .int (nI nhe), .int vtk, .int vva, .ref cu, .ref lt, .ref od, .ref th, .ref be, .ref ln, .int (nI S), .ref ma, .int (nI M), .ref ah, .ref bh, .ref ik, .ref la, .ref lg, .ref ce, .int vto])), (tp, .inl (G 0, 320, .inl ftp)), (cu, .inl (G 0, 11, .inl fcu)), (lt, .inl (G 0, 54, .inl flt))] H → va_S (fun q : Nat => s.heap.size ≤ q) s.heap H locs → ∀ (ls : Array Slot), lv_has ls 4 [(3, .int (nI j18)), (2, .int y19), (1, .int (nI j1)), (0, .ref h0)] → W p l e (headSpec (Cond.code yX11_nameHere cX11_nameHere 4 (some .int) :: GT) ({ frames := 1, cells := 0, slots := 0, locals := 21 } : Room)).room s m ([.ref h0] : List Value).toArray below meth c H locs 0 0 (MQ below (va_Qi (fun (r : Int32) (u : Unit) => match u with | _ => ((r = -4 ∨ ∃ k : Nat, r = nI k ∧ k ≤ 9) ∧ r = nmS ftp nhe nsp vtk) ∧ True) (fun _ _ => True) (fun q : Nat => s.heap.size ≤ q)) ([.ref h0] : List Value).toArray s 0 0 (fun q : Nat => s.heap.size ≤ q)) (F0 m 51 ls []) := by
              intro nf
              induction nf with
              | zero => intro j18 h1 h2; exact absurd h1 (by omega)
              | succ nf ih51_20 =>
                intro j18 hn21 hj22 y19 H locs hinv hP hS ls hl
                refine lv_iload_n hx hb dX11_nameHere_51 rfl (lv_at hl 1 rfl) ?_
                refine lv_if_eq (tgt := 106) hx hb dX11_nameHere_52 rfl (fun c23 => ?_) (fun c23 => ?_)
                · skip
                  refine lv_iload_n hx hb dX11_nameHere_106 rfl (lv_at hl 1 rfl) ?_
                  refine lv_if_eq (tgt := 112) hx hb dX11_nameHere_107 rfl (fun c24 => ?_) (fun c24 => ?_)
                  · skip
                    refine lv_iinc (v := nI (j1 + 1)) (lv' := [(1, .int (nI (j1 + 1))), (3, .int (nI j18)), (2, .int y19), (0, .ref h0)]) hx hb dX11_nameHere_112 hl (k := 2) rfl (by rw [show Int32.ofInt 1 = nI 1 from by decide]; exact nI_add _ _) (by decide) rfl (fun ls hl => ?_)
                    refine lv_goto (tgt := 2) hx hb dX11_nameHere_115 rfl ?_
                    have tn1335_ : nIT j18 := fun _ => nI_toInt (by first | omega | (have t_hj4 := hj4; have t_n7 := n7; have t_c8 := eqI c8; have t_hcmj1 := hcmj1; have t_n17 := n17; have t_hj22 := hj22; have t_c23 := eqI c23; have t_c24 := eqI c24; have : (0 : Int32).toInt = 0 := qI_0; have : (1 : Int32).toInt = 1 := qI_1; omega))
                    exact ih2_2 (j1 + 1) (by omega) (by omega)  _ _ (by have t_hj4 := hj4; have t_n7 := n7; have t_c8 := eqI c8; have t_hcmj1 := hcmj1; have t_n17 := n17; have t_hj22 := hj22; have t_c23 := eqI c23; have t_c24 := eqI c24; have : (0 : Int32).toInt = 0 := qI_0; have : (1 : Int32).toInt = 1 := qI_1; have t_n0 : (nI N).toInt = (N : Int) := tn1317_ (); have t_n1 : (nI B).toInt = (B : Int) := tn1318_ (); have t_n2 : (nI T).toInt = (T : Int) := tn1319_ (); have t_n3 : (nI nsp).toInt = (nsp : Int) := tn1328_ (); have t_n4 : (nI nhe).toInt = (nhe : Int) := tn1329_ (); have t_n5 : (nI S).toInt = (S : Int) := tn1320_ (); have t_n6 : (nI M).toInt = (M : Int) := tn1321_ (); have t_n7 : (nI j1).toInt = (j1 : Int) := tn1325_ (); have t_n8 : (nI j18).toInt = (j18 : Int) := tn1335_ (); have z0 : (0 : Int32).toInt = 0 := qI_0; have z1 : (1 : Int32).toInt = 1 := qI_1; have z2 : (2 : Int32).toInt = 2 := qI_2; have z3 : (3 : Int32).toInt = 3 := qI_3; have z5 : (5 : Int32).toInt = 5 := qI_5; have z9 : (9 : Int32).toInt = 9 := qI_9; exact (nmF_n (n := j1) (by omega) (fun h9 => by rcases hinv with g9 | g9; exact absurd (g9.1.symm.trans (by assumption : y19 = 0)) (by decide); exact g9.2 h9.2)).symm.trans hout) hP hS ls (lv_sub hl [0, 3] rfl)
                  · skip
                    have t_hj4 := hj4
                    have t_n7 := n7
                    have t_c8 := eqI c8
                    have t_hcmj1 := hcmj1
                    have t_n17 := n17
                    have t_hj22 := hj22
                    have t_c23 := eqI c23
                    have t_c24 := neI c24
                    have : (0 : Int32).toInt = 0 := qI_0
                    have : (1 : Int32).toInt = 1 := qI_1
                    have t_n0 : (nI N).toInt = (N : Int) := tn1317_ ()
                    have t_n1 : (nI B).toInt = (B : Int) := tn1318_ ()
                    have t_n2 : (nI T).toInt = (T : Int) := tn1319_ ()
                    have t_n3 : (nI nsp).toInt = (nsp : Int) := tn1328_ ()
                    have t_n4 : (nI nhe).toInt = (nhe : Int) := tn1329_ ()
                    have t_n5 : (nI S).toInt = (S : Int) := tn1320_ ()
                    have t_n6 : (nI M).toInt = (M : Int) := tn1321_ ()
                    have t_n7 : (nI j1).toInt = (j1 : Int) := tn1325_ ()
                    have tn1336_ : nIT j18 := fun _ => nI_toInt (by omega)
                    have t_n8 : (nI j18).toInt = (j18 : Int) := tn1336_ ()
                    exfalso; omega
                · skip
                  refine lv_iload_n hx hb dX11_nameHere_55 rfl (lv_at hl 0 rfl) ?_
                  refine lv_aload_n hx hb dX11_nameHere_56 rfl (lv_at hl 3 rfl) ?_
                  refine va_get (D := (dC, dI)) (ci := 11) (v := .int (nI nsp)) (C := RX11) (T := TX11) (N := 35) hx hb hg inG11 hown hK.1 hP 0 rfl rfl 15 (Nat.le_of_ble_eq_true rfl) (hg _ wt_893) (fun _ h9 => h9) rfl dX11_nameHere_57 ?_
                  refine lv_aload_n hx hb dX11_nameHere_60 rfl (lv_at hl 3 rfl) ?_
                  refine va_get (D := (dC, dI)) (ci := 11) (v := .int (nI nhe)) (C := RX11) (T := TX11) (N := 35) hx hb hg inG11 hown hK.1 hP 0 rfl rfl 16 (Nat.le_of_ble_eq_true rfl) (hg _ wt_894) (fun _ h9 => h9) rfl dX11_nameHere_61 ?_
                  refine lv_isub hx hb dX11_nameHere_64 ?_
                  have tn1337_ : nIT j18 := fun _ => nI_toInt (by first | omega | (have t_hj4 := hj4; have t_n7 := n7; have t_c8 := eqI c8; have t_hcmj1 := hcmj1; have t_n17 := n17; have t_hj22 := hj22; have t_c23 := neI c23; have : (0 : Int32).toInt = 0 := qI_0; have : (1 : Int32).toInt = 1 := qI_1; omega))
                  refine lv_cg (y := nI (nsp - nhe)) (by exact pk_sub (by have t_hj4 := hj4; have t_n7 := n7; have t_c8 := eqI c8; have t_hcmj1 := hcmj1; have t_n17 := n17; have t_hj22 := hj22; have t_c23 := neI c23; have : (0 : Int32).toInt = 0 := qI_0; have : (1 : Int32).toInt = 1 := qI_1; have t_n0 : (nI N).toInt = (N : Int) := tn1317_ (); have t_n1 : (nI B).toInt = (B : Int) := tn1318_ (); have t_n2 : (nI T).toInt = (T : Int) := tn1319_ (); have t_n3 : (nI nsp).toInt = (nsp : Int) := tn1328_ (); have t_n4 : (nI nhe).toInt = (nhe : Int) := tn1329_ (); have t_n5 : (nI S).toInt = (S : Int) := tn1320_ (); have t_n6 : (nI M).toInt = (M : Int) := tn1321_ (); have t_n7 : (nI j1).toInt = (j1 : Int) := tn1325_ (); have t_n8 : (nI j18).toInt = (j18 : Int) := tn1337_ (); omega)) ?_
                  refine lv_icmp_ge (tgt := 106) hx hb dX11_nameHere_65 rfl (fun c25 => ?_) (fun c25 => ?_)
                  · skip
                    have n26 : (nsp - nhe) ≤ j18 := by have t := leI c25; rw [show (nI (j18)).toInt = ((j18 : Nat) : Int) from tn1337_ ()] at t; rw [show (nI (nsp - nhe)).toInt = ((nsp - nhe : Nat) : Int) from tn1333_ ()] at t; omega
                    refine lv_iload_n hx hb dX11_nameHere_106 rfl (lv_at hl 1 rfl) ?_
                    refine lv_if_eq (tgt := 112) hx hb dX11_nameHere_107 rfl (fun c27 => ?_) (fun c27 => ?_)
                    · skip
                      have t_hj4 := hj4
                      have t_n7 := n7
                      have t_c8 := eqI c8
                      have t_hcmj1 := hcmj1
                      have t_n17 := n17
                      have t_hj22 := hj22
                      have t_c23 := neI c23
                      have t_n26 := n26
                      have t_c27 := eqI c27
                      have : (0 : Int32).toInt = 0 := qI_0
                      have : (1 : Int32).toInt = 1 := qI_1
                      have t_n0 : (nI N).toInt = (N : Int) := tn1317_ ()
                      have t_n1 : (nI B).toInt = (B : Int) := tn1318_ ()
                      have t_n2 : (nI T).toInt = (T : Int) := tn1319_ ()
                      have t_n3 : (nI nsp).toInt = (nsp : Int) := tn1328_ ()
                      have t_n4 : (nI nhe).toInt = (nhe : Int) := tn1329_ ()
                      have t_n5 : (nI S).toInt = (S : Int) := tn1320_ ()
                      have t_n6 : (nI M).toInt = (M : Int) := tn1321_ ()
                      have t_n7 : (nI j1).toInt = (j1 : Int) := tn1325_ ()
                      have t_n8 : (nI j18).toInt = (j18 : Int) := tn1337_ ()
                      exfalso; omega
                    · skip
                      refine lv_iload_n hx hb dX11_nameHere_110 rfl (lv_at hl 2 rfl) ?_
                      have hpost : ((nI j1 : Int32) = -4 ∨ ∃ k : Nat, (nI j1 : Int32) = nI k ∧ k ≤ 9) ∧ (nI j1 : Int32) = nmS ftp nhe nsp vtk := by
                        have t_hj4 := hj4
                        have t_n7 := n7
                        have t_c8 := eqI c8
                        have t_hcmj1 := hcmj1
                        have t_n17 := n17
                        have t_hj22 := hj22
                        have t_c23 := neI c23
                        have t_n26 := n26
                        have t_c27 := neI c27
                        have : (0 : Int32).toInt = 0 := qI_0
                        have : (1 : Int32).toInt = 1 := qI_1
                        have t_n0 : (nI N).toInt = (N : Int) := tn1317_ ()
                        have t_n1 : (nI B).toInt = (B : Int) := tn1318_ ()
                        have t_n2 : (nI T).toInt = (T : Int) := tn1319_ ()
                        have t_n3 : (nI nsp).toInt = (nsp : Int) := tn1328_ ()
                        have t_n4 : (nI nhe).toInt = (nhe : Int) := tn1329_ ()
                        have t_n5 : (nI S).toInt = (S : Int) := tn1320_ ()
                        have t_n6 : (nI M).toInt = (M : Int) := tn1321_ ()
                        have t_n7 : (nI j1).toInt = (j1 : Int) := tn1325_ ()
                        have t_n8 : (nI j18).toInt = (j18 : Int) := tn1337_ ()
                        have z0 : (0 : Int32).toInt = 0 := qI_0
                        have z1 : (1 : Int32).toInt = 1 := qI_1
                        have z2 : (2 : Int32).toInt = 2 := qI_2
                        have z3 : (3 : Int32).toInt = 3 := qI_3
                        have z5 : (5 : Int32).toInt = 5 := qI_5
                        have z9 : (9 : Int32).toInt = 9 := qI_9
                        refine ⟨Or.inr ⟨j1, rfl, by omega⟩, ?_⟩
                        unfold nmS
                        rw [if_pos (by assumption), ← hout]
                        refine (nmF_y (by omega) ⟨by omega, fun q9 h9 => ?_⟩).symm
                        rcases hinv with g9 | g9
                        · exact g9.2 q9 (by omega)
                        · exact absurd g9.1 (by assumption)
                      refine W.widen (k := 0) (n := 0) (Nat.le_of_ble_eq_true rfl) (Nat.le_of_ble_eq_true rfl) ?_
                      exact W.iret (v := nI j1) hx hb hr (fun t ht hW => ⟨⟨nI j1, (), rfl, ⟨hpost, trivial⟩, trivial⟩, hS.F ht⟩) hS.2.2 dX11_nameHere_111
                  · skip
                    have n28 : j18 < (nsp - nhe) := by have t := nleI c25; rw [show (nI (j18)).toInt = ((j18 : Nat) : Int) from tn1337_ ()] at t; rw [show (nI (nsp - nhe)).toInt = ((nsp - nhe : Nat) : Int) from tn1333_ ()] at t; omega
                    refine lv_aload_n hx hb dX11_nameHere_68 rfl (lv_at hl 3 rfl) ?_
                    refine lv_aload_n hx hb dX11_nameHere_69 rfl (lv_at hl 3 rfl) ?_
                    refine va_get (D := (dC, dI)) (ci := 11) (v := .int (nI nhe)) (C := RX11) (T := TX11) (N := 35) hx hb hg inG11 hown hK.1 hP 0 rfl rfl 16 (Nat.le_of_ble_eq_true rfl) (hg _ wt_894) (fun _ h9 => h9) rfl dX11_nameHere_70 ?_
                    refine lv_iload_n hx hb dX11_nameHere_73 rfl (lv_at hl 0 rfl) ?_
                    refine lv_iadd hx hb dX11_nameHere_74 ?_
                    refine lv_cg (y := nI (nhe + j18)) (by exact nI_add _ _) ?_
                    have hPc := hP.sub (ws' := [(h0, .inr (11, [.ref st, .int (nI N), .int (nI B), .ref rp, .int vrs, .int vrb, .int vhs, .int vca, .int vxs, .int vxb, .ref tp, .int (nI T), .int vfa, .int vbr, .int vba, .int (nI nsp), .int (nI nhe), .int vtk, .int vva, .ref cu, .ref lt, .ref od, .ref th, .ref be, .ref ln, .int (nI S), .ref ma, .int (nI M), .ref ah, .ref bh, .ref ik, .ref la, .ref lg, .ref ce, .int vto])), (tp, .inl (G 0, 320, .inl ftp))]) [0, 1] rfl
                    refine va_calli (va_runV (As := [.int (nI (nhe + j18))]) (rest := []) ⟨hx, hb, hml, hown, hg⟩ (c_X11_byteAt l dC dI G _ h0 (nhe + j18) st N B rp tp T cu lt od th be ln S ma M ah bh ik la lg ce vrs vrb vhs vca vxs vxb vfa vbr vba (nI nsp) (nI nhe) vtk vva vto ftp hN hB_ hT_ hS0 hM_ (by first | omega | (have t_hj4 := hj4; have t_n7 := n7; have t_c8 := eqI c8; have t_hcmj1 := hcmj1; have t_n17 := n17; have t_hj22 := hj22; have t_c23 := neI c23; have t_n28 := n28; have : (0 : Int32).toInt = 0 := qI_0; have : (1 : Int32).toInt = 1 := qI_1; have t_n0 : (nI N).toInt = (N : Int) := tn1317_ (); have t_n1 : (nI B).toInt = (B : Int) := tn1318_ (); have t_n2 : (nI T).toInt = (T : Int) := tn1319_ (); have t_n3 : (nI nsp).toInt = (nsp : Int) := tn1328_ (); have t_n4 : (nI nhe).toInt = (nhe : Int) := tn1329_ (); have t_n5 : (nI S).toInt = (S : Int) := tn1320_ (); have t_n6 : (nI M).toInt = (M : Int) := tn1321_ (); have t_n7 : (nI j1).toInt = (j1 : Int) := tn1325_ (); have t_n8 : (nI j18).toInt = (j18 : Int) := tn1337_ (); omega))) (kwV hg mfX11_byteAt wt_1003 ⟨Nat.le_of_ble_eq_true rfl, Nat.le_of_ble_eq_true rfl⟩) (preVR hK hPc (ci := 11) rfl rfl) rfl rfl hl.1 rfl (lv_room (Nat.le_of_ble_eq_true rfl)) dX11_nameHere_75 ⟨Nat.le_of_ble_eq_true rfl, Nat.le_of_ble_eq_true rfl⟩) hS (fun q h1 h2 => absurd h2 (Nat.not_le.mpr h1)) (fun q h => hA q (Nat.le_trans hS.1 h)) (fun r29 ur29 t H1 locs ht hvm w30 hB hz1 hk1 hS => ?_)
                    have hP := keepR hP hk1
                    obtain ⟨w30, w30x⟩ := w30
                    rcases w30 with ⟨w301, w302⟩ | ⟨w301, w302⟩
                    · skip
                      refine lv_cg (y := ftp (nhe + j18)) w302 ?_
                      refine lv_aload_n hx hb dX11_nameHere_78 rfl (lv_at hl 3 rfl) ?_
                      refine va_get (D := (dC, dI)) (ci := 11) (v := .ref lt) (C := RX11) (T := TX11) (N := 35) hx hb hg inG11 hown hK.1 hP 0 rfl rfl 20 (Nat.le_of_ble_eq_true rfl) (hg _ wt_898) (fun _ h9 => h9) rfl dX11_nameHere_79 ?_
                      refine lv_aload_n hx hb dX11_nameHere_82 rfl (lv_at hl 3 rfl) ?_
                      refine va_get (D := (dC, dI)) (ci := 11) (v := .ref cu) (C := RX11) (T := TX11) (N := 35) hx hb hg inG11 hown hK.1 hP 0 rfl rfl 19 (Nat.le_of_ble_eq_true rfl) (hg _ wt_897) (fun _ h9 => h9) rfl dX11_nameHere_83 ?_
                      refine lv_iload_n hx hb dX11_nameHere_86 rfl (lv_at hl 2 rfl) ?_
                      refine va_iald hx hb hK.1 hP 2 0 rfl rfl (vp_in_nI (by first | omega | (have t_hj4 := hj4; have t_n7 := n7; have t_c8 := eqI c8; have t_hcmj1 := hcmj1; have t_n17 := n17; have t_hj22 := hj22; have t_c23 := neI c23; have t_n28 := n28; have t_w301 := w301; have : (0 : Int32).toInt = 0 := qI_0; have : (1 : Int32).toInt = 1 := qI_1; have t_n0 : (nI N).toInt = (N : Int) := tn1317_ (); have t_n1 : (nI B).toInt = (B : Int) := tn1318_ (); have t_n2 : (nI T).toInt = (T : Int) := tn1319_ (); have t_n3 : (nI nsp).toInt = (nsp : Int) := tn1328_ (); have t_n4 : (nI nhe).toInt = (nhe : Int) := tn1329_ (); have t_n5 : (nI S).toInt = (S : Int) := tn1320_ (); have t_n6 : (nI M).toInt = (M : Int) := tn1321_ (); have t_n7 : (nI j1).toInt = (j1 : Int) := tn1325_ (); have t_n8 : (nI j18).toInt = (j18 : Int) := tn1337_ (); omega)) (by decide)) dX11_nameHere_87 ?_
                      refine lv_cg (y := fcu j1) (by rw [nI_clamp (by omega)]) ?_
                      refine lv_cg (y := nI (cutL.getD j1 0)) (hc j1 (by omega)) ?_
                      refine lv_iload_n hx hb dX11_nameHere_88 rfl (lv_at hl 0 rfl) ?_
                      refine lv_iadd hx hb dX11_nameHere_89 ?_
                      refine lv_cg (y := nI ((cutL.getD j1 0) + j18)) (by exact nI_add _ _) ?_
                      refine va_iald hx hb hK.1 hP 3 0 rfl rfl (vp_in_nI (by first | omega | (have t_hj4 := hj4; have t_n7 := n7; have t_c8 := eqI c8; have t_hcmj1 := hcmj1; have t_n17 := n17; have t_hj22 := hj22; have t_c23 := neI c23; have t_n28 := n28; have t_w301 := w301; have : (0 : Int32).toInt = 0 := qI_0; have : (1 : Int32).toInt = 1 := qI_1; have t_n0 : (nI N).toInt = (N : Int) := tn1317_ (); have t_n1 : (nI B).toInt = (B : Int) := tn1318_ (); have t_n2 : (nI T).toInt = (T : Int) := tn1319_ (); have t_n3 : (nI nsp).toInt = (nsp : Int) := tn1328_ (); have t_n4 : (nI nhe).toInt = (nhe : Int) := tn1329_ (); have t_n5 : (nI S).toInt = (S : Int) := tn1320_ (); have t_n6 : (nI M).toInt = (M : Int) := tn1321_ (); have t_n7 : (nI j1).toInt = (j1 : Int) := tn1325_ (); have t_n8 : (nI j18).toInt = (j18 : Int) := tn1337_ (); omega)) (by decide)) dX11_nameHere_90 ?_
                      refine lv_cg (y := flt ((cutL.getD j1 0) + j18)) (by rw [nI_clamp (by omega)]) ?_
                      refine lv_icmp_ne (tgt := 98) hx hb dX11_nameHere_91 rfl (fun c31 => ?_) (fun c31 => ?_)
                      · skip
                        refine lv_iconst (v := 0) hx hb dX11_nameHere_98 rfl ?_
                        refine lv_istore_n (lv' := [(2, .int 0), (3, .int (nI j18)), (1, .int (nI j1)), (0, .ref h0)]) hx hb dX11_nameHere_99 rfl hl (by decide) rfl (fun ls hl => ?_)
                        refine lv_iinc (v := nI (j18 + 1)) (lv' := [(3, .int (nI (j18 + 1))), (2, .int 0), (1, .int (nI j1)), (0, .ref h0)]) hx hb dX11_nameHere_100 hl (k := 1) rfl (by rw [show Int32.ofInt 1 = nI 1 from by decide]; exact nI_add _ _) (by decide) rfl (fun ls hl => ?_)
                        refine lv_goto (tgt := 51) hx hb dX11_nameHere_103 rfl ?_
                        exact ih51_20 (j18 + 1) (by omega) (by omega) 0 _ _ (by first | (exfalso; (have t_hj4 := hj4; have t_n7 := n7; have t_c8 := eqI c8; have t_hcmj1 := hcmj1; have t_n17 := n17; have t_hj22 := hj22; have t_c23 := neI c23; have t_n28 := n28; have t_w301 := w301; have t_c31 := neI c31; have : (0 : Int32).toInt = 0 := qI_0; have : (1 : Int32).toInt = 1 := qI_1; have t_n0 : (nI N).toInt = (N : Int) := tn1317_ (); have t_n1 : (nI B).toInt = (B : Int) := tn1318_ (); have t_n2 : (nI T).toInt = (T : Int) := tn1319_ (); have t_n3 : (nI nsp).toInt = (nsp : Int) := tn1328_ (); have t_n4 : (nI nhe).toInt = (nhe : Int) := tn1329_ (); have t_n5 : (nI S).toInt = (S : Int) := tn1320_ (); have t_n6 : (nI M).toInt = (M : Int) := tn1321_ (); have t_n7 : (nI j1).toInt = (j1 : Int) := tn1325_ (); have t_n8 : (nI j18).toInt = (j18 : Int) := tn1337_ (); have z0 : (0 : Int32).toInt = 0 := qI_0; have z1 : (1 : Int32).toInt = 1 := qI_1; have z2 : (2 : Int32).toInt = 2 := qI_2; have z3 : (3 : Int32).toInt = 3 := qI_3; have z5 : (5 : Int32).toInt = 5 := qI_5; have z9 : (9 : Int32).toInt = 9 := qI_9; omega)) | (refine Or.inr ⟨rfl, fun g9 => ?_⟩; have g8 := g9 j18 (by (have t_hj4 := hj4; have t_n7 := n7; have t_c8 := eqI c8; have t_hcmj1 := hcmj1; have t_n17 := n17; have t_hj22 := hj22; have t_c23 := neI c23; have t_n28 := n28; have t_w301 := w301; have t_c31 := neI c31; have : (0 : Int32).toInt = 0 := qI_0; have : (1 : Int32).toInt = 1 := qI_1; have t_n0 : (nI N).toInt = (N : Int) := tn1317_ (); have t_n1 : (nI B).toInt = (B : Int) := tn1318_ (); have t_n2 : (nI T).toInt = (T : Int) := tn1319_ (); have t_n3 : (nI nsp).toInt = (nsp : Int) := tn1328_ (); have t_n4 : (nI nhe).toInt = (nhe : Int) := tn1329_ (); have t_n5 : (nI S).toInt = (S : Int) := tn1320_ (); have t_n6 : (nI M).toInt = (M : Int) := tn1321_ (); have t_n7 : (nI j1).toInt = (j1 : Int) := tn1325_ (); have t_n8 : (nI j18).toInt = (j18 : Int) := tn1337_ (); have z0 : (0 : Int32).toInt = 0 := qI_0; have z1 : (1 : Int32).toInt = 1 := qI_1; have z2 : (2 : Int32).toInt = 2 := qI_2; have z3 : (3 : Int32).toInt = 3 := qI_3; have z5 : (5 : Int32).toInt = 5 := qI_5; have z9 : (9 : Int32).toInt = 9 := qI_9; omega)); rw [← hlt _ (by (have t_hj4 := hj4; have t_n7 := n7; have t_c8 := eqI c8; have t_hcmj1 := hcmj1; have t_n17 := n17; have t_hj22 := hj22; have t_c23 := neI c23; have t_n28 := n28; have t_w301 := w301; have t_c31 := neI c31; have : (0 : Int32).toInt = 0 := qI_0; have : (1 : Int32).toInt = 1 := qI_1; have t_n0 : (nI N).toInt = (N : Int) := tn1317_ (); have t_n1 : (nI B).toInt = (B : Int) := tn1318_ (); have t_n2 : (nI T).toInt = (T : Int) := tn1319_ (); have t_n3 : (nI nsp).toInt = (nsp : Int) := tn1328_ (); have t_n4 : (nI nhe).toInt = (nhe : Int) := tn1329_ (); have t_n5 : (nI S).toInt = (S : Int) := tn1320_ (); have t_n6 : (nI M).toInt = (M : Int) := tn1321_ (); have t_n7 : (nI j1).toInt = (j1 : Int) := tn1325_ (); have t_n8 : (nI j18).toInt = (j18 : Int) := tn1337_ (); have z0 : (0 : Int32).toInt = 0 := qI_0; have z1 : (1 : Int32).toInt = 1 := qI_1; have z2 : (2 : Int32).toInt = 2 := qI_2; have z3 : (3 : Int32).toInt = 3 := qI_3; have z5 : (5 : Int32).toInt = 5 := qI_5; have z9 : (9 : Int32).toInt = 9 := qI_9; omega))] at g8; exact absurd g8 (by assumption))) hP hS ls (lv_sub hl [0, 1, 2, 3] rfl)
                      · skip
                        refine lv_iconst (v := 1) hx hb dX11_nameHere_94 rfl ?_
                        refine lv_goto (tgt := 99) hx hb dX11_nameHere_95 rfl ?_
                        refine lv_istore_n (lv' := [(2, .int 1), (3, .int (nI j18)), (1, .int (nI j1)), (0, .ref h0)]) hx hb dX11_nameHere_99 rfl hl (by decide) rfl (fun ls hl => ?_)
                        refine lv_iinc (v := nI (j18 + 1)) (lv' := [(3, .int (nI (j18 + 1))), (2, .int 1), (1, .int (nI j1)), (0, .ref h0)]) hx hb dX11_nameHere_100 hl (k := 1) rfl (by rw [show Int32.ofInt 1 = nI 1 from by decide]; exact nI_add _ _) (by decide) rfl (fun ls hl => ?_)
                        refine lv_goto (tgt := 51) hx hb dX11_nameHere_103 rfl ?_
                        exact ih51_20 (j18 + 1) (by omega) (by omega) 1 _ _ (by have t_hj4 := hj4; have t_n7 := n7; have t_c8 := eqI c8; have t_hcmj1 := hcmj1; have t_n17 := n17; have t_hj22 := hj22; have t_c23 := neI c23; have t_n28 := n28; have t_w301 := w301; have t_c31 := eqI c31; have : (0 : Int32).toInt = 0 := qI_0; have : (1 : Int32).toInt = 1 := qI_1; have t_n0 : (nI N).toInt = (N : Int) := tn1317_ (); have t_n1 : (nI B).toInt = (B : Int) := tn1318_ (); have t_n2 : (nI T).toInt = (T : Int) := tn1319_ (); have t_n3 : (nI nsp).toInt = (nsp : Int) := tn1328_ (); have t_n4 : (nI nhe).toInt = (nhe : Int) := tn1329_ (); have t_n5 : (nI S).toInt = (S : Int) := tn1320_ (); have t_n6 : (nI M).toInt = (M : Int) := tn1321_ (); have t_n7 : (nI j1).toInt = (j1 : Int) := tn1325_ (); have t_n8 : (nI j18).toInt = (j18 : Int) := tn1337_ (); have z0 : (0 : Int32).toInt = 0 := qI_0; have z1 : (1 : Int32).toInt = 1 := qI_1; have z2 : (2 : Int32).toInt = 2 := qI_2; have z3 : (3 : Int32).toInt = 3 := qI_3; have z5 : (5 : Int32).toInt = 5 := qI_5; have z9 : (9 : Int32).toInt = 9 := qI_9; first | (exfalso; omega) | (refine Or.inl ⟨rfl, fun q9 h9 => ?_⟩; by_cases e9 : q9 = j18; (subst e9; exact (by assumption : ftp (nhe + q9) = flt (cutL.getD j1 0 + q9)).trans (hlt _ (by omega))); (rcases hinv with g9 | g9; exact g9.2 q9 (by omega); exact absurd g9.1 (by assumption)))) hP hS ls (lv_sub hl [0, 1, 2, 3] rfl)
                    · skip
                      refine lv_cg (y := (-4)) w302 ?_
                      refine lv_aload_n hx hb dX11_nameHere_78 rfl (lv_at hl 3 rfl) ?_
                      refine va_get (D := (dC, dI)) (ci := 11) (v := .ref lt) (C := RX11) (T := TX11) (N := 35) hx hb hg inG11 hown hK.1 hP 0 rfl rfl 20 (Nat.le_of_ble_eq_true rfl) (hg _ wt_898) (fun _ h9 => h9) rfl dX11_nameHere_79 ?_
                      refine lv_aload_n hx hb dX11_nameHere_82 rfl (lv_at hl 3 rfl) ?_
                      refine va_get (D := (dC, dI)) (ci := 11) (v := .ref cu) (C := RX11) (T := TX11) (N := 35) hx hb hg inG11 hown hK.1 hP 0 rfl rfl 19 (Nat.le_of_ble_eq_true rfl) (hg _ wt_897) (fun _ h9 => h9) rfl dX11_nameHere_83 ?_
                      refine lv_iload_n hx hb dX11_nameHere_86 rfl (lv_at hl 2 rfl) ?_
                      refine va_iald hx hb hK.1 hP 2 0 rfl rfl (vp_in_nI (by first | omega | (have t_hj4 := hj4; have t_n7 := n7; have t_c8 := eqI c8; have t_hcmj1 := hcmj1; have t_n17 := n17; have t_hj22 := hj22; have t_c23 := neI c23; have t_n28 := n28; have t_w301 := w301; have : (0 : Int32).toInt = 0 := qI_0; have : (1 : Int32).toInt = 1 := qI_1; have t_n0 : (nI N).toInt = (N : Int) := tn1317_ (); have t_n1 : (nI B).toInt = (B : Int) := tn1318_ (); have t_n2 : (nI T).toInt = (T : Int) := tn1319_ (); have t_n3 : (nI nsp).toInt = (nsp : Int) := tn1328_ (); have t_n4 : (nI nhe).toInt = (nhe : Int) := tn1329_ (); have t_n5 : (nI S).toInt = (S : Int) := tn1320_ (); have t_n6 : (nI M).toInt = (M : Int) := tn1321_ (); have t_n7 : (nI j1).toInt = (j1 : Int) := tn1325_ (); have t_n8 : (nI j18).toInt = (j18 : Int) := tn1337_ (); omega)) (by decide)) dX11_nameHere_87 ?_
                      refine lv_cg (y := fcu j1) (by rw [nI_clamp (by omega)]) ?_
                      refine lv_cg (y := nI (cutL.getD j1 0)) (hc j1 (by omega)) ?_
                      refine lv_iload_n hx hb dX11_nameHere_88 rfl (lv_at hl 0 rfl) ?_
                      refine lv_iadd hx hb dX11_nameHere_89 ?_
                      refine lv_cg (y := nI ((cutL.getD j1 0) + j18)) (by exact nI_add _ _) ?_
                      refine va_iald hx hb hK.1 hP 3 0 rfl rfl (vp_in_nI (by first | omega | (have t_hj4 := hj4; have t_n7 := n7; have t_c8 := eqI c8; have t_hcmj1 := hcmj1; have t_n17 := n17; have t_hj22 := hj22; have t_c23 := neI c23; have t_n28 := n28; have t_w301 := w301; have : (0 : Int32).toInt = 0 := qI_0; have : (1 : Int32).toInt = 1 := qI_1; have t_n0 : (nI N).toInt = (N : Int) := tn1317_ (); have t_n1 : (nI B).toInt = (B : Int) := tn1318_ (); have t_n2 : (nI T).toInt = (T : Int) := tn1319_ (); have t_n3 : (nI nsp).toInt = (nsp : Int) := tn1328_ (); have t_n4 : (nI nhe).toInt = (nhe : Int) := tn1329_ (); have t_n5 : (nI S).toInt = (S : Int) := tn1320_ (); have t_n6 : (nI M).toInt = (M : Int) := tn1321_ (); have t_n7 : (nI j1).toInt = (j1 : Int) := tn1325_ (); have t_n8 : (nI j18).toInt = (j18 : Int) := tn1337_ (); omega)) (by decide)) dX11_nameHere_90 ?_
                      refine lv_cg (y := flt ((cutL.getD j1 0) + j18)) (by rw [nI_clamp (by omega)]) ?_
                      refine lv_icmp_ne (tgt := 98) hx hb dX11_nameHere_91 rfl (fun c32 => ?_) (fun c32 => ?_)
                      · skip
                        refine lv_iconst (v := 0) hx hb dX11_nameHere_98 rfl ?_
                        refine lv_istore_n (lv' := [(2, .int 0), (3, .int (nI j18)), (1, .int (nI j1)), (0, .ref h0)]) hx hb dX11_nameHere_99 rfl hl (by decide) rfl (fun ls hl => ?_)
                        refine lv_iinc (v := nI (j18 + 1)) (lv' := [(3, .int (nI (j18 + 1))), (2, .int 0), (1, .int (nI j1)), (0, .ref h0)]) hx hb dX11_nameHere_100 hl (k := 1) rfl (by rw [show Int32.ofInt 1 = nI 1 from by decide]; exact nI_add _ _) (by decide) rfl (fun ls hl => ?_)
                        refine lv_goto (tgt := 51) hx hb dX11_nameHere_103 rfl ?_
                        exact ih51_20 (j18 + 1) (by omega) (by omega) 0 _ _ (by first | (exfalso; (have t_hj4 := hj4; have t_n7 := n7; have t_c8 := eqI c8; have t_hcmj1 := hcmj1; have t_n17 := n17; have t_hj22 := hj22; have t_c23 := neI c23; have t_n28 := n28; have t_w301 := w301; have t_c32 := neI c32; have : ((-4) : Int32).toInt = -4 := qI_m4; have : (0 : Int32).toInt = 0 := qI_0; have : (1 : Int32).toInt = 1 := qI_1; have t_n0 : (nI N).toInt = (N : Int) := tn1317_ (); have t_n1 : (nI B).toInt = (B : Int) := tn1318_ (); have t_n2 : (nI T).toInt = (T : Int) := tn1319_ (); have t_n3 : (nI nsp).toInt = (nsp : Int) := tn1328_ (); have t_n4 : (nI nhe).toInt = (nhe : Int) := tn1329_ (); have t_n5 : (nI S).toInt = (S : Int) := tn1320_ (); have t_n6 : (nI M).toInt = (M : Int) := tn1321_ (); have t_n7 : (nI j1).toInt = (j1 : Int) := tn1325_ (); have t_n8 : (nI j18).toInt = (j18 : Int) := tn1337_ (); have z0 : (0 : Int32).toInt = 0 := qI_0; have z1 : (1 : Int32).toInt = 1 := qI_1; have z2 : (2 : Int32).toInt = 2 := qI_2; have z3 : (3 : Int32).toInt = 3 := qI_3; have z5 : (5 : Int32).toInt = 5 := qI_5; have z9 : (9 : Int32).toInt = 9 := qI_9; omega)) | (refine Or.inr ⟨rfl, fun g9 => ?_⟩; have g8 := g9 j18 (by (have t_hj4 := hj4; have t_n7 := n7; have t_c8 := eqI c8; have t_hcmj1 := hcmj1; have t_n17 := n17; have t_hj22 := hj22; have t_c23 := neI c23; have t_n28 := n28; have t_w301 := w301; have t_c32 := neI c32; have : ((-4) : Int32).toInt = -4 := qI_m4; have : (0 : Int32).toInt = 0 := qI_0; have : (1 : Int32).toInt = 1 := qI_1; have t_n0 : (nI N).toInt = (N : Int) := tn1317_ (); have t_n1 : (nI B).toInt = (B : Int) := tn1318_ (); have t_n2 : (nI T).toInt = (T : Int) := tn1319_ (); have t_n3 : (nI nsp).toInt = (nsp : Int) := tn1328_ (); have t_n4 : (nI nhe).toInt = (nhe : Int) := tn1329_ (); have t_n5 : (nI S).toInt = (S : Int) := tn1320_ (); have t_n6 : (nI M).toInt = (M : Int) := tn1321_ (); have t_n7 : (nI j1).toInt = (j1 : Int) := tn1325_ (); have t_n8 : (nI j18).toInt = (j18 : Int) := tn1337_ (); have z0 : (0 : Int32).toInt = 0 := qI_0; have z1 : (1 : Int32).toInt = 1 := qI_1; have z2 : (2 : Int32).toInt = 2 := qI_2; have z3 : (3 : Int32).toInt = 3 := qI_3; have z5 : (5 : Int32).toInt = 5 := qI_5; have z9 : (9 : Int32).toInt = 9 := qI_9; omega)); rw [← hlt _ (by (have t_hj4 := hj4; have t_n7 := n7; have t_c8 := eqI c8; have t_hcmj1 := hcmj1; have t_n17 := n17; have t_hj22 := hj22; have t_c23 := neI c23; have t_n28 := n28; have t_w301 := w301; have t_c32 := neI c32; have : ((-4) : Int32).toInt = -4 := qI_m4; have : (0 : Int32).toInt = 0 := qI_0; have : (1 : Int32).toInt = 1 := qI_1; have t_n0 : (nI N).toInt = (N : Int) := tn1317_ (); have t_n1 : (nI B).toInt = (B : Int) := tn1318_ (); have t_n2 : (nI T).toInt = (T : Int) := tn1319_ (); have t_n3 : (nI nsp).toInt = (nsp : Int) := tn1328_ (); have t_n4 : (nI nhe).toInt = (nhe : Int) := tn1329_ (); have t_n5 : (nI S).toInt = (S : Int) := tn1320_ (); have t_n6 : (nI M).toInt = (M : Int) := tn1321_ (); have t_n7 : (nI j1).toInt = (j1 : Int) := tn1325_ (); have t_n8 : (nI j18).toInt = (j18 : Int) := tn1337_ (); have z0 : (0 : Int32).toInt = 0 := qI_0; have z1 : (1 : Int32).toInt = 1 := qI_1; have z2 : (2 : Int32).toInt = 2 := qI_2; have z3 : (3 : Int32).toInt = 3 := qI_3; have z5 : (5 : Int32).toInt = 5 := qI_5; have z9 : (9 : Int32).toInt = 9 := qI_9; omega))] at g8; exact absurd g8 (by assumption))) hP hS ls (lv_sub hl [0, 1, 2, 3] rfl)
                      · skip
                        refine lv_iconst (v := 1) hx hb dX11_nameHere_94 rfl ?_
                        refine lv_goto (tgt := 99) hx hb dX11_nameHere_95 rfl ?_
                        refine lv_istore_n (lv' := [(2, .int 1), (3, .int (nI j18)), (1, .int (nI j1)), (0, .ref h0)]) hx hb dX11_nameHere_99 rfl hl (by decide) rfl (fun ls hl => ?_)
                        refine lv_iinc (v := nI (j18 + 1)) (lv' := [(3, .int (nI (j18 + 1))), (2, .int 1), (1, .int (nI j1)), (0, .ref h0)]) hx hb dX11_nameHere_100 hl (k := 1) rfl (by rw [show Int32.ofInt 1 = nI 1 from by decide]; exact nI_add _ _) (by decide) rfl (fun ls hl => ?_)
                        refine lv_goto (tgt := 51) hx hb dX11_nameHere_103 rfl ?_
                        exact ih51_20 (j18 + 1) (by omega) (by omega) 1 _ _ (by have t_hj4 := hj4; have t_n7 := n7; have t_c8 := eqI c8; have t_hcmj1 := hcmj1; have t_n17 := n17; have t_hj22 := hj22; have t_c23 := neI c23; have t_n28 := n28; have t_w301 := w301; have t_c32 := eqI c32; have : ((-4) : Int32).toInt = -4 := qI_m4; have : (0 : Int32).toInt = 0 := qI_0; have : (1 : Int32).toInt = 1 := qI_1; have t_n0 : (nI N).toInt = (N : Int) := tn1317_ (); have t_n1 : (nI B).toInt = (B : Int) := tn1318_ (); have t_n2 : (nI T).toInt = (T : Int) := tn1319_ (); have t_n3 : (nI nsp).toInt = (nsp : Int) := tn1328_ (); have t_n4 : (nI nhe).toInt = (nhe : Int) := tn1329_ (); have t_n5 : (nI S).toInt = (S : Int) := tn1320_ (); have t_n6 : (nI M).toInt = (M : Int) := tn1321_ (); have t_n7 : (nI j1).toInt = (j1 : Int) := tn1325_ (); have t_n8 : (nI j18).toInt = (j18 : Int) := tn1337_ (); have z0 : (0 : Int32).toInt = 0 := qI_0; have z1 : (1 : Int32).toInt = 1 := qI_1; have z2 : (2 : Int32).toInt = 2 := qI_2; have z3 : (3 : Int32).toInt = 3 := qI_3; have z5 : (5 : Int32).toInt = 5 := qI_5; have z9 : (9 : Int32).toInt = 9 := qI_9; first | (exfalso; omega) | (refine Or.inl ⟨rfl, fun q9 h9 => ?_⟩; by_cases e9 : q9 = j18; (subst e9; exact (by assumption : ftp (nhe + q9) = flt (cutL.getD j1 0 + q9)).trans (hlt _ (by omega))); (rcases hinv with g9 | g9; exact g9.2 q9 (by omega); exact absurd g9.1 (by assumption)))) hP hS ls (lv_sub hl [0, 1, 2, 3] rfl)
            exact loop51_20 ((nsp - nhe) + 1) 0 (by omega) (by omega) 1 _ _ (Or.inl ⟨rfl, fun q9 h9 => absurd h9 (Nat.not_lt_zero _)⟩) hP hS ls (lv_sub hl [0, 1, 2, 3] rfl)
  exact loop2_2 (10 + 1) 0 (by omega) (by omega)  _ _ rfl hP hS ls (lv_sub hl [0, 1] rfl)

set_option maxHeartbeats 1000000 in
set_option maxRecDepth 100000 in
theorem c_X11_readBearerE (l : Launch) (dC : Nat → ClassId) (dI : Nat → Nat → Nat) (G : Nat → ClassId) (sz : Nat) (h0 st N B rp nrb tp T nsp nhe cu lt od th be ln S ma M ah bh ik la lg ce : Nat) (vrs vhs vca vxs vxb vfa vbr vba vtk vva vto : Int32) (ftp : Nat → Int32) (fcu : Nat → Int32) (flt : Nat → Int32) (frp : Nat → Int32) (hN : N ≤ 10) (hB : B ≤ 6) (hT : T ≤ 320) (hS0 : S ≤ 8) (hM : M ≤ 6) (hbr : 0 ≤ vbr.toInt) (hsp : nsp ≤ T) (hhe : nhe ≤ nsp) (hrb : nrb ≤ 6) (hc : ∀ q : Nat, q < 11 → fcu q = nI (cutL.getD q 0)) (hrp : OKP frp) (hlt : ∀ q : Nat, q < 54 → flt q = letL.getD q 0) (htb : ∀ q : Nat, q < 320 → 0 ≤ (ftp q).toInt) : Met l yX11_readBearer (Cond.code yX11_readBearer cX11_readBearer 3 none :: GT) ({ frames := 3, cells := 0, slots := 0, locals := 70 } : Room) (PcW [.ref h0] dC dI G [(h0, .inr (11, [.ref st, .int (nI N), .int (nI B), .ref rp, .int vrs, .int (nI nrb), .int vhs, .int vca, .int vxs, .int vxb, .ref tp, .int (nI T), .int vfa, .int vbr, .int vba, .int (nI nsp), .int (nI nhe), .int vtk, .int vva, .ref cu, .ref lt, .ref od, .ref th, .ref be, .ref ln, .int (nI S), .ref ma, .int (nI M), .ref ah, .ref bh, .ref ik, .ref la, .ref lg, .ref ce, .int vto])), (tp, .inl (G 0, 320, .inl ftp)), (cu, .inl (G 0, 11, .inl fcu)), (lt, .inl (G 0, 54, .inl flt)), (rp, .inl (G 0, 49, .inl frp))] sz) (va_Qv (fun (u : Int32 × Int32 × Nat × Nat × Int32 × Int32 × Nat × (Nat → Int32)) => match u with | (obr, oba, osp, ohe, otk, ova, orb, orp) => (OKP orp ∧ ((0 ≤ obr.toInt ∧ (vbr.toInt = 0 ∨ 0 < obr.toInt) ∧ nsp ≤ osp ∧ osp ≤ T ∧ ohe ≤ osp ∧ (0 < obr.toInt ∨ otk.toInt = 0 ∨ nsp < osp)) ∧ orb ≤ 6)) ∧ ((obr, oba, osp, ohe, otk, ova), orb, orp) = rbS ftp T (vbr, vba, nsp, nhe, vtk, vva) nrb frp) (fun (u : Int32 × Int32 × Nat × Nat × Int32 × Int32 × Nat × (Nat → Int32)) (t : State) => match u with | (obr, oba, osp, ohe, otk, ova, orb, orp) => va_P (dC, dI) vwCl [(h0, .inr (11, [.ref st, .int (nI N), .int (nI B), .ref rp, .int vrs, .int (nI orb), .int vhs, .int vca, .int vxs, .int vxb, .ref tp, .int (nI T), .int vfa, .int obr, .int oba, .int (nI osp), .int (nI ohe), .int otk, .int ova, .ref cu, .ref lt, .ref od, .ref th, .ref be, .ref ln, .int (nI S), .ref ma, .int (nI M), .ref ah, .ref bh, .ref ik, .ref la, .ref lg, .ref ce, .int vto])), (tp, .inl (G 0, 320, .inl ftp)), (cu, .inl (G 0, 11, .inl fcu)), (lt, .inl (G 0, 54, .inl flt)), (rp, .inl (G 0, 49, .inl orp))] t.heap ∧ va_D (va_A [(h0, .inr (11, [.ref st, .int (nI N), .int (nI B), .ref rp, .int vrs, .int (nI nrb), .int vhs, .int vca, .int vxs, .int vxb, .ref tp, .int (nI T), .int vfa, .int vbr, .int vba, .int (nI nsp), .int (nI nhe), .int vtk, .int vva, .ref cu, .ref lt, .ref od, .ref th, .ref be, .ref ln, .int (nI S), .ref ma, .int (nI M), .ref ah, .ref bh, .ref ik, .ref la, .ref lg, .ref ce, .int vto])), (tp, .inl (G 0, 320, .inl ftp)), (cu, .inl (G 0, 11, .inl fcu)), (lt, .inl (G 0, 54, .inl flt)), (rp, .inl (G 0, 49, .inl frp))] sz) [(h0, .inr (11, [.ref st, .int (nI N), .int (nI B), .ref rp, .int vrs, .int (nI orb), .int vhs, .int vca, .int vxs, .int vxb, .ref tp, .int (nI T), .int vfa, .int obr, .int oba, .int (nI osp), .int (nI ohe), .int otk, .int ova, .ref cu, .ref lt, .ref od, .ref th, .ref be, .ref ln, .int (nI S), .ref ma, .int (nI M), .ref ah, .ref bh, .ref ik, .ref la, .ref lg, .ref ce, .int vto])), (tp, .inl (G 0, 320, .inl ftp)), (cu, .inl (G 0, 11, .inl fcu)), (lt, .inl (G 0, 54, .inl flt)), (rp, .inl (G 0, 49, .inl orp))]) (va_A [(h0, .inr (11, [.ref st, .int (nI N), .int (nI B), .ref rp, .int vrs, .int (nI nrb), .int vhs, .int vca, .int vxs, .int vxb, .ref tp, .int (nI T), .int vfa, .int vbr, .int vba, .int (nI nsp), .int (nI nhe), .int vtk, .int vva, .ref cu, .ref lt, .ref od, .ref th, .ref be, .ref ln, .int (nI S), .ref ma, .int (nI M), .ref ah, .ref bh, .ref ik, .ref la, .ref lg, .ref ce, .int vto])), (tp, .inl (G 0, 320, .inl ftp)), (cu, .inl (G 0, 11, .inl fcu)), (lt, .inl (G 0, 54, .inl flt)), (rp, .inl (G 0, 49, .inl frp))] sz)) 0 0 (va_A [(h0, .inr (11, [.ref st, .int (nI N), .int (nI B), .ref rp, .int vrs, .int (nI nrb), .int vhs, .int vca, .int vxs, .int vxb, .ref tp, .int (nI T), .int vfa, .int vbr, .int vba, .int (nI nsp), .int (nI nhe), .int vtk, .int vva, .ref cu, .ref lt, .ref od, .ref th, .ref be, .ref ln, .int (nI S), .ref ma, .int (nI M), .ref ah, .ref bh, .ref ik, .ref la, .ref lg, .ref ce, .int vto])), (tp, .inl (G 0, 320, .inl ftp)), (cu, .inl (G 0, 11, .inl fcu)), (lt, .inl (G 0, 54, .inl flt)), (rp, .inl (G 0, 49, .inl frp))] sz) := by
  have hB_ := hB
  have hM_ := hM
  have hT_ := hT
  have tn1338_ : nIT N := fun _ => nI_toInt (by omega)
  have tn1339_ : nIT B := fun _ => nI_toInt (by omega)
  have tn1340_ : nIT T := fun _ => nI_toInt (by omega)
  have tn1341_ : nIT S := fun _ => nI_toInt (by omega)
  have tn1342_ : nIT M := fun _ => nI_toInt (by omega)
  refine Met.ofW (cc := cX11_readBearer) (maxL := 3) (ret := none) (by decide) rfl ?_
  intro p e s m args below meth c s₁ Bd hml hv
  obtain ⟨rfl, hsz, hP, hK, hD0⟩ := hv
  have hx := Bd.exec
  have hb := Bd.bytes
  have hr := Bd.returns
  have hg : ∀ w ∈ GT, w.before ([.ref h0] : List Value).toArray s = true := fun w h => atoms_spec (ws := Cond.code yX11_readBearer cX11_readBearer 3 none :: GT) Bd.pre w (List.mem_cons_of_mem _ h)
  have hown : s.vm.findClass RX11 = some m.cls := findClass_of_methodNamed Bd.named
  have hlocks := Bd.notSynchronized
  subst hsz
  have hD := hD0.self (sz := s.heap.size)
  generalize hAe : va_A [(h0, .inr (11, [.ref st, .int (nI N), .int (nI B), .ref rp, .int vrs, .int (nI nrb), .int vhs, .int vca, .int vxs, .int vxb, .ref tp, .int (nI T), .int vfa, .int vbr, .int vba, .int (nI nsp), .int (nI nhe), .int vtk, .int vva, .ref cu, .ref lt, .ref od, .ref th, .ref be, .ref ln, .int (nI S), .ref ma, .int (nI M), .ref ah, .ref bh, .ref ik, .ref la, .ref lg, .ref ce, .int vto])), (tp, .inl (G 0, 320, .inl ftp)), (cu, .inl (G 0, 11, .inl fcu)), (lt, .inl (G 0, 54, .inl flt)), (rp, .inl (G 0, 49, .inl frp))] s.heap.size = A at hD ⊢
  have hA : ∀ q : Nat, s.heap.size ≤ q → A q := fun q h => by rw [← hAe]; exact Or.inr h
  have hS : va_S A s.heap s.heap [] := va_S.rf
  have hl := lv_entry ([.ref h0]) (n := 3) (Nat.le_of_ble_eq_true rfl)
  rw [lg_entry_eq]
  generalize (lg_sl ([.ref h0]) ++ List.replicate (3 - (lg_sl ([.ref h0])).length) Slot.unset).toArray = ls at hl ⊢
  have hl : lv_has ls 3 [(0, .ref h0)] := hl
  refine lv_aload_n hx hb dX11_readBearer_0 rfl (lv_at hl 0 rfl) ?_
  refine va_get (D := (dC, dI)) (ci := 11) (v := .int (nI nrb)) (C := RX11) (T := TX11) (N := 35) hx hb hg inG11 hown hK.1 hP 0 rfl rfl 5 (Nat.le_of_ble_eq_true rfl) (hg _ wt_883) (fun _ h9 => h9) rfl dX11_readBearer_1 ?_
  refine lv_istore_n (lv' := [(1, .int (nI nrb)), (0, .ref h0)]) hx hb dX11_readBearer_4 rfl hl (by decide) rfl (fun ls hl => ?_)
  refine lv_iload_n hx hb dX11_readBearer_5 rfl (lv_at hl 0 rfl) ?_
  refine lv_bipush (v := 6) hx hb dX11_readBearer_6 rfl ?_
  refine lv_icmp_ne (tgt := 17) hx hb dX11_readBearer_8 rfl (fun c1 => ?_) (fun c1 => ?_)
  · skip
    have tn1343_ : nIT nrb := fun _ => nI_toInt (by first | omega | (have t := neI c1; omega))
    have n2 : nrb ≠ 6 := by have t := neI c1; rw [show (nI (nrb)).toInt = ((nrb : Nat) : Int) from tn1343_ ()] at t; have : (6 : Int32).toInt = 6 := qI_6; omega
    refine lv_aload_n hx hb dX11_readBearer_17 rfl (lv_at hl 1 rfl) ?_
    obtain ⟨hPc, hDc, hFc⟩ := va_sub3 (ws' := [(h0, .inr (11, [.ref st, .int (nI N), .int (nI B), .ref rp, .int vrs, .int (nI nrb), .int vhs, .int vca, .int vxs, .int vxb, .ref tp, .int (nI T), .int vfa, .int vbr, .int vba, .int (nI nsp), .int (nI nhe), .int vtk, .int vva, .ref cu, .ref lt, .ref od, .ref th, .ref be, .ref ln, .int (nI S), .ref ma, .int (nI M), .ref ah, .ref bh, .ref ik, .ref la, .ref lg, .ref ce, .int vto])), (tp, .inl (G 0, 320, .inl ftp))]) hP hD hS hA [0, 1] (by decide) rfl
    have tn1344_ : nIT nsp := fun _ => nI_toInt (by first | omega | (have t_n2 := n2; omega))
    have tn1345_ : nIT nhe := fun _ => nI_toInt (by first | omega | (have t_n2 := n2; omega))
    refine va_callv (va_runV (As := []) (rest := []) ⟨hx, hb, hml, hown, hg⟩ (c_X11_goesOnE l dC dI G _ h0 st N B rp tp T nsp nhe cu lt od th be ln S ma M ah bh ik la lg ce vrs (nI nrb) vhs vca vxs vxb vfa vbr vba vtk vva vto ftp hN hB_ hT_ hS0 hM_ hbr hsp (by have t_n2 := n2; have t_n0 : (nI N).toInt = (N : Int) := tn1338_ (); have t_n1 : (nI B).toInt = (B : Int) := tn1339_ (); have t_n2 : (nI nrb).toInt = (nrb : Int) := tn1343_ (); have t_n3 : (nI T).toInt = (T : Int) := tn1340_ (); have t_n4 : (nI nsp).toInt = (nsp : Int) := tn1344_ (); have t_n5 : (nI nhe).toInt = (nhe : Int) := tn1345_ (); have t_n6 : (nI S).toInt = (S : Int) := tn1341_ (); have t_n7 : (nI M).toInt = (M : Int) := tn1342_ (); have z0 : (0 : Int32).toInt = 0 := qI_0; have z1 : (1 : Int32).toInt = 1 := qI_1; have z2 : (2 : Int32).toInt = 2 := qI_2; have z3 : (3 : Int32).toInt = 3 := qI_3; have z5 : (5 : Int32).toInt = 5 := qI_5; have z9 : (9 : Int32).toInt = 9 := qI_9; omega) htb) (kwV hg mfX11_goesOn wt_999 ⟨Nat.le_of_ble_eq_true rfl, Nat.le_of_ble_eq_true rfl⟩) (preVW hK hPc hDc (ci := 11) rfl rfl) rfl rfl hl.1 rfl (lv_room (Nat.le_of_ble_eq_true rfl)) dX11_readBearer_18 ⟨Nat.le_of_ble_eq_true rfl, Nat.le_of_ble_eq_true rfl⟩) hS (fun q _ h => hFc q h) hFc (fun ur3 t H1 locs ht hvm w4 hB hz1 hk1 hS => ?_)
    obtain ⟨u5, u6, u7, u8, u9, u10⟩ := ur3
    obtain ⟨hP1, hD1⟩ := hB
    rw [ht] at hP1
    obtain ⟨hP, hD⟩ := va_join (wr := [(cu, .inl (G 0, 11, .inl fcu)), (lt, .inl (G 0, 54, .inl flt)), (rp, .inl (G 0, 49, .inl frp))]) (w1 := [(h0, .inr (11, [.ref st, .int (nI N), .int (nI B), .ref rp, .int vrs, .int (nI nrb), .int vhs, .int vca, .int vxs, .int vxb, .ref tp, .int (nI T), .int vfa, .int u5, .int u6, .int (nI u7), .int (nI u8), .int u9, .int u10, .ref cu, .ref lt, .ref od, .ref th, .ref be, .ref ln, .int (nI S), .ref ma, .int (nI M), .ref ah, .ref bh, .ref ik, .ref la, .ref lg, .ref ce, .int vto])), (tp, .inl (G 0, 320, .inl ftp))]) hP hD [0, 1] [2, 3, 4] rfl rfl (by decide) (by decide) hk1 hFc hP1 hD1
    have w4 : 0 ≤ u5.toInt ∧ (vbr.toInt = 0 ∨ u5.toInt = vbr.toInt) ∧ nsp ≤ u7 ∧ u7 ≤ T ∧ u8 ≤ u7 ∧ (0 < vbr.toInt ∨ u9.toInt = 0 ∨ nsp < u7) ∧ (u5, u6, u7, u8, u9, u10) = gOn ftp T vbr vba nsp nhe vtk vva := w4
    generalize H1 = H at hP hS ⊢
    have ew4 : gT ftp T (vbr, vba, nsp, nhe, vtk, vva) = (u5, u6, u7, u8, u9, u10) := w4.2.2.2.2.2.2.symm
    refine lv_aload_n hx hb dX11_readBearer_21 rfl (lv_at hl 1 rfl) ?_
    have hPc := hP.sub (ws' := [(h0, .inr (11, [.ref st, .int (nI N), .int (nI B), .ref rp, .int vrs, .int (nI nrb), .int vhs, .int vca, .int vxs, .int vxb, .ref tp, .int (nI T), .int vfa, .int u5, .int u6, .int (nI u7), .int (nI u8), .int u9, .int u10, .ref cu, .ref lt, .ref od, .ref th, .ref be, .ref ln, .int (nI S), .ref ma, .int (nI M), .ref ah, .ref bh, .ref ik, .ref la, .ref lg, .ref ce, .int vto])), (tp, .inl (G 0, 320, .inl ftp)), (cu, .inl (G 0, 11, .inl fcu)), (lt, .inl (G 0, 54, .inl flt))]) [3, 4, 0, 1] rfl
    refine va_calli (va_runV (As := []) (rest := []) ⟨hx, hb, hml, hown, hg⟩ (c_X11_nameHereE l dC dI G _ h0 st N B rp tp T u7 u8 cu lt od th be ln S ma M ah bh ik la lg ce vrs (nI nrb) vhs vca vxs vxb vfa u5 u6 u9 u10 vto ftp fcu flt hN hB_ hT_ hS0 hM_ (by first | omega | (have t_n2 := n2; have t_n0 : (nI N).toInt = (N : Int) := tn1338_ (); have t_n1 : (nI B).toInt = (B : Int) := tn1339_ (); have t_n2 : (nI nrb).toInt = (nrb : Int) := tn1343_ (); have t_n3 : (nI T).toInt = (T : Int) := tn1340_ (); have t_n4 : (nI nsp).toInt = (nsp : Int) := tn1344_ (); have t_n5 : (nI nhe).toInt = (nhe : Int) := tn1345_ (); have t_n6 : (nI S).toInt = (S : Int) := tn1341_ (); have t_n7 : (nI M).toInt = (M : Int) := tn1342_ (); have z0 : (0 : Int32).toInt = 0 := qI_0; have z1 : (1 : Int32).toInt = 1 := qI_1; have z2 : (2 : Int32).toInt = 2 := qI_2; have z3 : (3 : Int32).toInt = 3 := qI_3; have z5 : (5 : Int32).toInt = 5 := qI_5; have z9 : (9 : Int32).toInt = 9 := qI_9; omega)) (by first | omega | (have t_n2 := n2; have t_n0 : (nI N).toInt = (N : Int) := tn1338_ (); have t_n1 : (nI B).toInt = (B : Int) := tn1339_ (); have t_n2 : (nI nrb).toInt = (nrb : Int) := tn1343_ (); have t_n3 : (nI T).toInt = (T : Int) := tn1340_ (); have t_n4 : (nI nsp).toInt = (nsp : Int) := tn1344_ (); have t_n5 : (nI nhe).toInt = (nhe : Int) := tn1345_ (); have t_n6 : (nI S).toInt = (S : Int) := tn1341_ (); have t_n7 : (nI M).toInt = (M : Int) := tn1342_ (); have z0 : (0 : Int32).toInt = 0 := qI_0; have z1 : (1 : Int32).toInt = 1 := qI_1; have z2 : (2 : Int32).toInt = 2 := qI_2; have z3 : (3 : Int32).toInt = 3 := qI_3; have z5 : (5 : Int32).toInt = 5 := qI_5; have z9 : (9 : Int32).toInt = 9 := qI_9; omega)) hc hlt) (kwV hg mfX11_nameHere wt_1019 ⟨Nat.le_of_ble_eq_true rfl, Nat.le_of_ble_eq_true rfl⟩) (preVR hK hPc (ci := 11) rfl rfl) rfl rfl hl.1 rfl (lv_room (Nat.le_of_ble_eq_true rfl)) dX11_readBearer_22 ⟨Nat.le_of_ble_eq_true rfl, Nat.le_of_ble_eq_true rfl⟩) hS (fun q h1 h2 => absurd h2 (Nat.not_le.mpr h1)) (fun q h => hA q (Nat.le_trans hS.1 h)) (fun r11 ur11 t H1 locs ht hvm w12 hB hz1 hk1 hS => ?_)
    have hP := keepR hP hk1
    obtain ⟨w12, w12x⟩ := w12
    obtain ⟨w12, w12e⟩ := w12
    rcases w12 with w121 | ⟨w120, w121, w122⟩
    · skip
      have ew12 : nT ftp (u5, u6, u7, u8, u9, u10) = (-4) := (w121.symm.trans w12e).symm
      refine lv_cg (y := (-4)) w121 ?_
      refine lv_iconst (v := 4) hx hb dX11_readBearer_25 rfl ?_
      refine lv_isub hx hb dX11_readBearer_26 ?_
      refine lv_cg (y := (-8)) (by decide) ?_
      refine lv_istore_n (lv' := [(2, .int (-8)), (1, .int (nI nrb)), (0, .ref h0)]) hx hb dX11_readBearer_27 rfl hl (by decide) rfl (fun ls hl => ?_)
      refine lv_iload_n hx hb dX11_readBearer_28 rfl (lv_at hl 0 rfl) ?_
      refine lv_if_ge (tgt := 38) hx hb dX11_readBearer_29 rfl (fun c13 => ?_) (fun c13 => ?_)
      · skip
        exact absurd c13 (by decide)
      · skip
        refine lv_aload_n hx hb dX11_readBearer_32 rfl (lv_at hl 2 rfl) ?_
        refine lv_iconst (v := 2) hx hb dX11_readBearer_33 rfl ?_
        obtain ⟨hPc, hDc, hFc⟩ := va_sub3 (ws' := [(h0, .inr (11, [.ref st, .int (nI N), .int (nI B), .ref rp, .int vrs, .int (nI nrb), .int vhs, .int vca, .int vxs, .int vxb, .ref tp, .int (nI T), .int vfa, .int u5, .int u6, .int (nI u7), .int (nI u8), .int u9, .int u10, .ref cu, .ref lt, .ref od, .ref th, .ref be, .ref ln, .int (nI S), .ref ma, .int (nI M), .ref ah, .ref bh, .ref ik, .ref la, .ref lg, .ref ce, .int vto]))]) hP hD hS hA [3] (by decide) rfl
        refine va_callv (va_runV (As := [.int 2]) (rest := []) ⟨hx, hb, hml, hown, hg⟩ (c_X11_failsE l dC dI G _ h0 st N B rp tp T u8 cu lt od th be ln S ma M ah bh ik la lg ce 2 vrs (nI nrb) vhs vca vxs vxb vfa u5 u6 (nI u7) u9 u10 vto hN hB_ hT_ hS0 hM_ (by have t_n2 := n2; have t_c13 := nleI c13; have : ((-8) : Int32).toInt = -8 := qI_m8; have : (0 : Int32).toInt = 0 := qI_0; have t_n0 : (nI N).toInt = (N : Int) := tn1338_ (); have t_n1 : (nI B).toInt = (B : Int) := tn1339_ (); have t_n2 : (nI nrb).toInt = (nrb : Int) := tn1343_ (); have t_n3 : (nI T).toInt = (T : Int) := tn1340_ (); have t_n4 : (nI nsp).toInt = (nsp : Int) := tn1344_ (); have t_n5 : (nI nhe).toInt = (nhe : Int) := tn1345_ (); have t_n6 : (nI S).toInt = (S : Int) := tn1341_ (); have t_n7 : (nI M).toInt = (M : Int) := tn1342_ (); have z0 : (0 : Int32).toInt = 0 := qI_0; have z1 : (1 : Int32).toInt = 1 := qI_1; have z2 : (2 : Int32).toInt = 2 := qI_2; have z3 : (3 : Int32).toInt = 3 := qI_3; have z5 : (5 : Int32).toInt = 5 := qI_5; have z9 : (9 : Int32).toInt = 9 := qI_9; have z4 : (4 : Int32).toInt = 4 := qI_4; have z6 : (6 : Int32).toInt = 6 := qI_6; have z7 : (7 : Int32).toInt = 7 := qI_7; omega) (by have t_n2 := n2; have t_c13 := nleI c13; have : ((-8) : Int32).toInt = -8 := qI_m8; have : (0 : Int32).toInt = 0 := qI_0; have t_n0 : (nI N).toInt = (N : Int) := tn1338_ (); have t_n1 : (nI B).toInt = (B : Int) := tn1339_ (); have t_n2 : (nI nrb).toInt = (nrb : Int) := tn1343_ (); have t_n3 : (nI T).toInt = (T : Int) := tn1340_ (); have t_n4 : (nI nsp).toInt = (nsp : Int) := tn1344_ (); have t_n5 : (nI nhe).toInt = (nhe : Int) := tn1345_ (); have t_n6 : (nI S).toInt = (S : Int) := tn1341_ (); have t_n7 : (nI M).toInt = (M : Int) := tn1342_ (); have z0 : (0 : Int32).toInt = 0 := qI_0; have z1 : (1 : Int32).toInt = 1 := qI_1; have z2 : (2 : Int32).toInt = 2 := qI_2; have z3 : (3 : Int32).toInt = 3 := qI_3; have z5 : (5 : Int32).toInt = 5 := qI_5; have z9 : (9 : Int32).toInt = 9 := qI_9; have z4 : (4 : Int32).toInt = 4 := qI_4; have z6 : (6 : Int32).toInt = 6 := qI_6; have z7 : (7 : Int32).toInt = 7 := qI_7; omega) (by first | omega | (have t_n2 := n2; have t_c13 := nleI c13; have : ((-8) : Int32).toInt = -8 := qI_m8; have : (0 : Int32).toInt = 0 := qI_0; have t_n0 : (nI N).toInt = (N : Int) := tn1338_ (); have t_n1 : (nI B).toInt = (B : Int) := tn1339_ (); have t_n2 : (nI nrb).toInt = (nrb : Int) := tn1343_ (); have t_n3 : (nI T).toInt = (T : Int) := tn1340_ (); have t_n4 : (nI nsp).toInt = (nsp : Int) := tn1344_ (); have t_n5 : (nI nhe).toInt = (nhe : Int) := tn1345_ (); have t_n6 : (nI S).toInt = (S : Int) := tn1341_ (); have t_n7 : (nI M).toInt = (M : Int) := tn1342_ (); have z0 : (0 : Int32).toInt = 0 := qI_0; have z1 : (1 : Int32).toInt = 1 := qI_1; have z2 : (2 : Int32).toInt = 2 := qI_2; have z3 : (3 : Int32).toInt = 3 := qI_3; have z5 : (5 : Int32).toInt = 5 := qI_5; have z9 : (9 : Int32).toInt = 9 := qI_9; have z4 : (4 : Int32).toInt = 4 := qI_4; have z6 : (6 : Int32).toInt = 6 := qI_6; have z7 : (7 : Int32).toInt = 7 := qI_7; omega))) (kwV hg mfX11_fails wt_1011 ⟨Nat.le_of_ble_eq_true rfl, Nat.le_of_ble_eq_true rfl⟩) (preVW hK hPc hDc (ci := 11) rfl rfl) rfl rfl hl.1 rfl (lv_room (Nat.le_of_ble_eq_true rfl)) dX11_readBearer_34 ⟨Nat.le_of_ble_eq_true rfl, Nat.le_of_ble_eq_true rfl⟩) hS (fun q _ h => hFc q h) hFc (fun ur14 t H1 locs ht hvm w15 hB hz1 hk1 hS => ?_)
        obtain ⟨u16, u17⟩ := ur14
        obtain ⟨hP1, hD1⟩ := hB
        rw [ht] at hP1
        obtain ⟨hP, hD⟩ := va_join (wr := [(cu, .inl (G 0, 11, .inl fcu)), (lt, .inl (G 0, 54, .inl flt)), (rp, .inl (G 0, 49, .inl frp)), (tp, .inl (G 0, 320, .inl ftp))]) (w1 := [(h0, .inr (11, [.ref st, .int (nI N), .int (nI B), .ref rp, .int vrs, .int (nI nrb), .int vhs, .int vca, .int vxs, .int vxb, .ref tp, .int (nI T), .int vfa, .int u16, .int u17, .int (nI u7), .int (nI u8), .int u9, .int u10, .ref cu, .ref lt, .ref od, .ref th, .ref be, .ref ln, .int (nI S), .ref ma, .int (nI M), .ref ah, .ref bh, .ref ik, .ref la, .ref lg, .ref ce, .int vto]))]) hP hD [3] [0, 1, 2, 4] rfl rfl (by decide) (by decide) hk1 hFc hP1 hD1
        have w15 : 0 < u16.toInt ∧ u16 = flB (2 : Int32) u5 ∧ u17 = flA u5 u6 u8 := w15
        generalize H1 = H at hP hS ⊢
        have ew15 : fT 2 (u5, u6, u7, u8, u9, u10) = (u16, u17, u7, u8, u9, u10) := (by show (flB _ _, flA _ _ _, _, _, _, _) = _; rw [← w15.2.1, ← w15.2.2])
        obtain ⟨hP9, hD9⟩ := va_sub2 (ws' := [(h0, .inr (11, [.ref st, .int (nI N), .int (nI B), .ref rp, .int vrs, .int (nI nrb), .int vhs, .int vca, .int vxs, .int vxb, .ref tp, .int (nI T), .int vfa, .int u16, .int u17, .int (nI u7), .int (nI u8), .int u9, .int u10, .ref cu, .ref lt, .ref od, .ref th, .ref be, .ref ln, .int (nI S), .ref ma, .int (nI M), .ref ah, .ref bh, .ref ik, .ref la, .ref lg, .ref ce, .int vto])), (tp, .inl (G 0, 320, .inl ftp)), (cu, .inl (G 0, 11, .inl fcu)), (lt, .inl (G 0, 54, .inl flt)), (rp, .inl (G 0, 49, .inl frp))]) hP hD [4, 3, 0, 1, 2] (by decide) rfl
        refine W.widen (k := 0) (n := 0) (Nat.le_of_ble_eq_true rfl) (Nat.le_of_ble_eq_true rfl) ?_
        exact W.vret hx hb hr (fun t ht hW => ⟨⟨(u16, u17, u7, u8, u9, u10, nrb, frp), rfl, ⟨⟨hrp, (by have t_n2 := n2; have t_c13 := nleI c13; have t_w15 := w15.1; have : ((-8) : Int32).toInt = -8 := qI_m8; have : (0 : Int32).toInt = 0 := qI_0; have t_n0 : (nI N).toInt = (N : Int) := tn1338_ (); have t_n1 : (nI B).toInt = (B : Int) := tn1339_ (); have t_n2 : (nI nrb).toInt = (nrb : Int) := tn1343_ (); have t_n3 : (nI T).toInt = (T : Int) := tn1340_ (); have t_n4 : (nI nsp).toInt = (nsp : Int) := tn1344_ (); have t_n5 : (nI nhe).toInt = (nhe : Int) := tn1345_ (); have t_n6 : (nI S).toInt = (S : Int) := tn1341_ (); have t_n7 : (nI M).toInt = (M : Int) := tn1342_ (); have z0 : (0 : Int32).toInt = 0 := qI_0; have z1 : (1 : Int32).toInt = 1 := qI_1; have z2 : (2 : Int32).toInt = 2 := qI_2; have z3 : (3 : Int32).toInt = 3 := qI_3; have z5 : (5 : Int32).toInt = 5 := qI_5; have z9 : (9 : Int32).toInt = 9 := qI_9; omega)⟩, (by unfold rbS; (first | rw [if_pos (by (have t_n2 := n2; have t_c13 := nleI c13; have t_w15 := w15.1; have : ((-8) : Int32).toInt = -8 := qI_m8; have : (0 : Int32).toInt = 0 := qI_0; have t_n0 : (nI N).toInt = (N : Int) := tn1338_ (); have t_n1 : (nI B).toInt = (B : Int) := tn1339_ (); have t_n2 : (nI nrb).toInt = (nrb : Int) := tn1343_ (); have t_n3 : (nI T).toInt = (T : Int) := tn1340_ (); have t_n4 : (nI nsp).toInt = (nsp : Int) := tn1344_ (); have t_n5 : (nI nhe).toInt = (nhe : Int) := tn1345_ (); have t_n6 : (nI S).toInt = (S : Int) := tn1341_ (); have t_n7 : (nI M).toInt = (M : Int) := tn1342_ (); have z0 : (0 : Int32).toInt = 0 := qI_0; have z1 : (1 : Int32).toInt = 1 := qI_1; have z2 : (2 : Int32).toInt = 2 := qI_2; have z3 : (3 : Int32).toInt = 3 := qI_3; have z5 : (5 : Int32).toInt = 5 := qI_5; have z9 : (9 : Int32).toInt = 9 := qI_9; omega))] | rw [if_neg (by (have t_n2 := n2; have t_c13 := nleI c13; have t_w15 := w15.1; have : ((-8) : Int32).toInt = -8 := qI_m8; have : (0 : Int32).toInt = 0 := qI_0; have t_n0 : (nI N).toInt = (N : Int) := tn1338_ (); have t_n1 : (nI B).toInt = (B : Int) := tn1339_ (); have t_n2 : (nI nrb).toInt = (nrb : Int) := tn1343_ (); have t_n3 : (nI T).toInt = (T : Int) := tn1340_ (); have t_n4 : (nI nsp).toInt = (nsp : Int) := tn1344_ (); have t_n5 : (nI nhe).toInt = (nhe : Int) := tn1345_ (); have t_n6 : (nI S).toInt = (S : Int) := tn1341_ (); have t_n7 : (nI M).toInt = (M : Int) := tn1342_ (); have z0 : (0 : Int32).toInt = 0 := qI_0; have z1 : (1 : Int32).toInt = 1 := qI_1; have z2 : (2 : Int32).toInt = 2 := qI_2; have z3 : (3 : Int32).toInt = 3 := qI_3; have z5 : (5 : Int32).toInt = 5 := qI_5; have z9 : (9 : Int32).toInt = 9 := qI_9; omega))]); (try rw [ew4]); (try rw [ew12]); (try rw [ew15]); (try (repeat (first | rw [if_pos (by assumption)] | rw [if_neg (by assumption)] | rw [if_pos (by (have t_n2 := n2; have t_c13 := nleI c13; have t_w15 := w15.1; have : ((-8) : Int32).toInt = -8 := qI_m8; have : (0 : Int32).toInt = 0 := qI_0; have t_n0 : (nI N).toInt = (N : Int) := tn1338_ (); have t_n1 : (nI B).toInt = (B : Int) := tn1339_ (); have t_n2 : (nI nrb).toInt = (nrb : Int) := tn1343_ (); have t_n3 : (nI T).toInt = (T : Int) := tn1340_ (); have t_n4 : (nI nsp).toInt = (nsp : Int) := tn1344_ (); have t_n5 : (nI nhe).toInt = (nhe : Int) := tn1345_ (); have t_n6 : (nI S).toInt = (S : Int) := tn1341_ (); have t_n7 : (nI M).toInt = (M : Int) := tn1342_ (); have z0 : (0 : Int32).toInt = 0 := qI_0; have z1 : (1 : Int32).toInt = 1 := qI_1; have z2 : (2 : Int32).toInt = 2 := qI_2; have z3 : (3 : Int32).toInt = 3 := qI_3; have z5 : (5 : Int32).toInt = 5 := qI_5; have z9 : (9 : Int32).toInt = 9 := qI_9; omega))] | rw [if_neg (by (have t_n2 := n2; have t_c13 := nleI c13; have t_w15 := w15.1; have : ((-8) : Int32).toInt = -8 := qI_m8; have : (0 : Int32).toInt = 0 := qI_0; have t_n0 : (nI N).toInt = (N : Int) := tn1338_ (); have t_n1 : (nI B).toInt = (B : Int) := tn1339_ (); have t_n2 : (nI nrb).toInt = (nrb : Int) := tn1343_ (); have t_n3 : (nI T).toInt = (T : Int) := tn1340_ (); have t_n4 : (nI nsp).toInt = (nsp : Int) := tn1344_ (); have t_n5 : (nI nhe).toInt = (nhe : Int) := tn1345_ (); have t_n6 : (nI S).toInt = (S : Int) := tn1341_ (); have t_n7 : (nI M).toInt = (M : Int) := tn1342_ (); have z0 : (0 : Int32).toInt = 0 := qI_0; have z1 : (1 : Int32).toInt = 1 := qI_1; have z2 : (2 : Int32).toInt = 2 := qI_2; have z3 : (3 : Int32).toInt = 3 := qI_3; have z5 : (5 : Int32).toInt = 5 := qI_5; have z9 : (9 : Int32).toInt = 9 := qI_9; omega))] | rw [if_pos (by decide)] | rw [if_neg (by decide)]))); all_goals rfl)⟩, ⟨by rw [ht]; exact hP9, hD9⟩⟩, hS.F ht⟩) hS.2.2 dX11_readBearer_37
    · skip
      have ew12 : nT ftp (u5, u6, u7, u8, u9, u10) = nI w120 := (w121.symm.trans w12e).symm
      refine lv_cg (y := nI w120) w121 ?_
      refine lv_iconst (v := 4) hx hb dX11_readBearer_25 rfl ?_
      refine lv_isub hx hb dX11_readBearer_26 ?_
      have e9 := nIm4 (n := w120) (by omega)
      refine lv_istore_n (lv' := [(2, .int ((nI w120) - 4)), (1, .int (nI nrb)), (0, .ref h0)]) hx hb dX11_readBearer_27 rfl hl (by decide) rfl (fun ls hl => ?_)
      refine lv_iload_n hx hb dX11_readBearer_28 rfl (lv_at hl 0 rfl) ?_
      refine lv_if_ge (tgt := 38) hx hb dX11_readBearer_29 rfl (fun c18 => ?_) (fun c18 => ?_)
      · skip
        refine lv_aload_n hx hb dX11_readBearer_38 rfl (lv_at hl 2 rfl) ?_
        obtain ⟨hPc, hDc, hFc⟩ := va_sub3 (ws' := [(h0, .inr (11, [.ref st, .int (nI N), .int (nI B), .ref rp, .int vrs, .int (nI nrb), .int vhs, .int vca, .int vxs, .int vxb, .ref tp, .int (nI T), .int vfa, .int u5, .int u6, .int (nI u7), .int (nI u8), .int u9, .int u10, .ref cu, .ref lt, .ref od, .ref th, .ref be, .ref ln, .int (nI S), .ref ma, .int (nI M), .ref ah, .ref bh, .ref ik, .ref la, .ref lg, .ref ce, .int vto])), (tp, .inl (G 0, 320, .inl ftp))]) hP hD hS hA [3, 4] (by decide) rfl
        have tn1346_ : nIT w120 := fun _ => nI_toInt (by first | omega | (have t_n2 := n2; have t_w122 := w122; have t_e9 := e9; have t_c18 := leI c18; have : (0 : Int32).toInt = 0 := qI_0; omega))
        refine va_callv (va_runV (As := []) (rest := []) ⟨hx, hb, hml, hown, hg⟩ (c_X11_goesOnE l dC dI G _ h0 st N B rp tp T u7 u8 cu lt od th be ln S ma M ah bh ik la lg ce vrs (nI nrb) vhs vca vxs vxb vfa u5 u6 u9 u10 vto ftp hN hB_ hT_ hS0 hM_ (by have t_n2 := n2; have t_w122 := w122; have t_e9 := e9; have t_c18 := leI c18; have : (0 : Int32).toInt = 0 := qI_0; have t_n0 : (nI N).toInt = (N : Int) := tn1338_ (); have t_n1 : (nI B).toInt = (B : Int) := tn1339_ (); have t_n2 : (nI nrb).toInt = (nrb : Int) := tn1343_ (); have t_n3 : (nI T).toInt = (T : Int) := tn1340_ (); have t_n4 : (nI nsp).toInt = (nsp : Int) := tn1344_ (); have t_n5 : (nI nhe).toInt = (nhe : Int) := tn1345_ (); have t_n6 : (nI S).toInt = (S : Int) := tn1341_ (); have t_n7 : (nI M).toInt = (M : Int) := tn1342_ (); have t_n8 : (nI w120).toInt = (w120 : Int) := tn1346_ (); have z0 : (0 : Int32).toInt = 0 := qI_0; have z1 : (1 : Int32).toInt = 1 := qI_1; have z2 : (2 : Int32).toInt = 2 := qI_2; have z3 : (3 : Int32).toInt = 3 := qI_3; have z5 : (5 : Int32).toInt = 5 := qI_5; have z9 : (9 : Int32).toInt = 9 := qI_9; omega) (by first | omega | (have t_n2 := n2; have t_w122 := w122; have t_e9 := e9; have t_c18 := leI c18; have : (0 : Int32).toInt = 0 := qI_0; have t_n0 : (nI N).toInt = (N : Int) := tn1338_ (); have t_n1 : (nI B).toInt = (B : Int) := tn1339_ (); have t_n2 : (nI nrb).toInt = (nrb : Int) := tn1343_ (); have t_n3 : (nI T).toInt = (T : Int) := tn1340_ (); have t_n4 : (nI nsp).toInt = (nsp : Int) := tn1344_ (); have t_n5 : (nI nhe).toInt = (nhe : Int) := tn1345_ (); have t_n6 : (nI S).toInt = (S : Int) := tn1341_ (); have t_n7 : (nI M).toInt = (M : Int) := tn1342_ (); have t_n8 : (nI w120).toInt = (w120 : Int) := tn1346_ (); have z0 : (0 : Int32).toInt = 0 := qI_0; have z1 : (1 : Int32).toInt = 1 := qI_1; have z2 : (2 : Int32).toInt = 2 := qI_2; have z3 : (3 : Int32).toInt = 3 := qI_3; have z5 : (5 : Int32).toInt = 5 := qI_5; have z9 : (9 : Int32).toInt = 9 := qI_9; omega)) (by have t_n2 := n2; have t_w122 := w122; have t_e9 := e9; have t_c18 := leI c18; have : (0 : Int32).toInt = 0 := qI_0; have t_n0 : (nI N).toInt = (N : Int) := tn1338_ (); have t_n1 : (nI B).toInt = (B : Int) := tn1339_ (); have t_n2 : (nI nrb).toInt = (nrb : Int) := tn1343_ (); have t_n3 : (nI T).toInt = (T : Int) := tn1340_ (); have t_n4 : (nI nsp).toInt = (nsp : Int) := tn1344_ (); have t_n5 : (nI nhe).toInt = (nhe : Int) := tn1345_ (); have t_n6 : (nI S).toInt = (S : Int) := tn1341_ (); have t_n7 : (nI M).toInt = (M : Int) := tn1342_ (); have t_n8 : (nI w120).toInt = (w120 : Int) := tn1346_ (); have z0 : (0 : Int32).toInt = 0 := qI_0; have z1 : (1 : Int32).toInt = 1 := qI_1; have z2 : (2 : Int32).toInt = 2 := qI_2; have z3 : (3 : Int32).toInt = 3 := qI_3; have z5 : (5 : Int32).toInt = 5 := qI_5; have z9 : (9 : Int32).toInt = 9 := qI_9; omega) htb) (kwV hg mfX11_goesOn wt_999 ⟨Nat.le_of_ble_eq_true rfl, Nat.le_of_ble_eq_true rfl⟩) (preVW hK hPc hDc (ci := 11) rfl rfl) rfl rfl hl.1 rfl (lv_room (Nat.le_of_ble_eq_true rfl)) dX11_readBearer_39 ⟨Nat.le_of_ble_eq_true rfl, Nat.le_of_ble_eq_true rfl⟩) hS (fun q _ h => hFc q h) hFc (fun ur19 t H1 locs ht hvm w20 hB hz1 hk1 hS => ?_)
        obtain ⟨u21, u22, u23, u24, u25, u26⟩ := ur19
        obtain ⟨hP1, hD1⟩ := hB
        rw [ht] at hP1
        obtain ⟨hP, hD⟩ := va_join (wr := [(cu, .inl (G 0, 11, .inl fcu)), (lt, .inl (G 0, 54, .inl flt)), (rp, .inl (G 0, 49, .inl frp))]) (w1 := [(h0, .inr (11, [.ref st, .int (nI N), .int (nI B), .ref rp, .int vrs, .int (nI nrb), .int vhs, .int vca, .int vxs, .int vxb, .ref tp, .int (nI T), .int vfa, .int u21, .int u22, .int (nI u23), .int (nI u24), .int u25, .int u26, .ref cu, .ref lt, .ref od, .ref th, .ref be, .ref ln, .int (nI S), .ref ma, .int (nI M), .ref ah, .ref bh, .ref ik, .ref la, .ref lg, .ref ce, .int vto])), (tp, .inl (G 0, 320, .inl ftp))]) hP hD [3, 4] [0, 1, 2] rfl rfl (by decide) (by decide) hk1 hFc hP1 hD1
        have w20 : 0 ≤ u21.toInt ∧ (u5.toInt = 0 ∨ u21.toInt = u5.toInt) ∧ u7 ≤ u23 ∧ u23 ≤ T ∧ u24 ≤ u23 ∧ (0 < u5.toInt ∨ u25.toInt = 0 ∨ u7 < u23) ∧ (u21, u22, u23, u24, u25, u26) = gOn ftp T u5 u6 u7 u8 u9 u10 := w20
        generalize H1 = H at hP hS ⊢
        have ew20 : gT ftp T (u5, u6, u7, u8, u9, u10) = (u21, u22, u23, u24, u25, u26) := w20.2.2.2.2.2.2.symm
        refine lv_aload_n hx hb dX11_readBearer_42 rfl (lv_at hl 2 rfl) ?_
        refine va_get (D := (dC, dI)) (ci := 11) (v := .ref rp) (C := RX11) (T := TX11) (N := 35) hx hb hg inG11 hown hK.1 hP 3 rfl rfl 3 (Nat.le_of_ble_eq_true rfl) (hg _ wt_881) (fun _ h9 => h9) rfl dX11_readBearer_43 ?_
        refine lv_bipush (v := 20) hx hb dX11_readBearer_46 rfl ?_
        refine lv_iconst (v := 3) hx hb dX11_readBearer_48 rfl ?_
        refine lv_iload_n hx hb dX11_readBearer_49 rfl (lv_at hl 1 rfl) ?_
        refine lv_imul hx hb dX11_readBearer_50 ?_
        refine lv_cg (y := nI (3 * nrb)) (by rw [show (3 : Int32) = nI 3 from rfl]; exact pk_mul _ _) ?_
        refine lv_iadd hx hb dX11_readBearer_51 ?_
        refine lv_cg (y := nI (20 + (3 * nrb))) (by rw [show (20 : Int32) = nI 20 from rfl]; exact nI_add _ _) ?_
        refine lv_iload_n hx hb dX11_readBearer_52 rfl (lv_at hl 0 rfl) ?_
        refine va_iast hx hb hK.1 hP hD hS 2 0 rfl rfl (vp_in_nI (by first | omega | (have t_n2 := n2; have t_w122 := w122; have t_e9 := e9; have t_c18 := leI c18; have : (0 : Int32).toInt = 0 := qI_0; have t_n0 : (nI N).toInt = (N : Int) := tn1338_ (); have t_n1 : (nI B).toInt = (B : Int) := tn1339_ (); have t_n2 : (nI nrb).toInt = (nrb : Int) := tn1343_ (); have t_n3 : (nI T).toInt = (T : Int) := tn1340_ (); have t_n4 : (nI nsp).toInt = (nsp : Int) := tn1344_ (); have t_n5 : (nI nhe).toInt = (nhe : Int) := tn1345_ (); have t_n6 : (nI S).toInt = (S : Int) := tn1341_ (); have t_n7 : (nI M).toInt = (M : Int) := tn1342_ (); have t_n8 : (nI w120).toInt = (w120 : Int) := tn1346_ (); omega)) (by decide)) dX11_readBearer_53 (fun H locs hP hD hS => ?_)
        rw [nI_clamp (by omega)] at hP hD
        refine lv_aload_n hx hb dX11_readBearer_54 rfl (lv_at hl 2 rfl) ?_
        refine va_get (D := (dC, dI)) (ci := 11) (v := .ref rp) (C := RX11) (T := TX11) (N := 35) hx hb hg inG11 hown hK.1 hP 3 rfl rfl 3 (Nat.le_of_ble_eq_true rfl) (hg _ wt_881) (fun _ h9 => h9) rfl dX11_readBearer_55 ?_
        refine lv_bipush (v := 20) hx hb dX11_readBearer_58 rfl ?_
        refine lv_iconst (v := 3) hx hb dX11_readBearer_60 rfl ?_
        refine lv_iload_n hx hb dX11_readBearer_61 rfl (lv_at hl 1 rfl) ?_
        refine lv_imul hx hb dX11_readBearer_62 ?_
        refine lv_cg (y := nI (3 * nrb)) (by rw [show (3 : Int32) = nI 3 from rfl]; exact pk_mul _ _) ?_
        refine lv_iadd hx hb dX11_readBearer_63 ?_
        refine lv_cg (y := nI (20 + (3 * nrb))) (by rw [show (20 : Int32) = nI 20 from rfl]; exact nI_add _ _) ?_
        refine lv_iconst (v := 1) hx hb dX11_readBearer_64 rfl ?_
        refine lv_iadd hx hb dX11_readBearer_65 ?_
        refine lv_cg (y := nI ((20 + (3 * nrb)) + 1)) (by rw [show (1 : Int32) = nI 1 from rfl]; exact nI_add _ _) ?_
        refine lv_aload_n hx hb dX11_readBearer_66 rfl (lv_at hl 2 rfl) ?_
        refine lv_iconst (v := 0) hx hb dX11_readBearer_67 rfl ?_
        refine lv_bipush (v := 9) hx hb dX11_readBearer_68 rfl ?_
        refine lv_iconst (v := 0) hx hb dX11_readBearer_70 rfl ?_
        obtain ⟨hPc, hDc, hFc⟩ := va_sub3 (ws' := [(h0, .inr (11, [.ref st, .int (nI N), .int (nI B), .ref rp, .int vrs, .int (nI nrb), .int vhs, .int vca, .int vxs, .int vxb, .ref tp, .int (nI T), .int vfa, .int u21, .int u22, .int (nI u23), .int (nI u24), .int u25, .int u26, .ref cu, .ref lt, .ref od, .ref th, .ref be, .ref ln, .int (nI S), .ref ma, .int (nI M), .ref ah, .ref bh, .ref ik, .ref la, .ref lg, .ref ce, .int vto])), (tp, .inl (G 0, 320, .inl ftp))]) hP hD hS hA [3, 4] (by decide) rfl
        refine va_calli (va_runV (As := [.int 0, .int 9, .int 0]) (rest := [.int (nI ((20 + (3 * nrb)) + 1)), .ref rp]) ⟨hx, hb, hml, hown, hg⟩ (c_X11_otherE l dC dI G _ h0 st N B rp tp T u23 u24 cu lt od th be ln S ma M ah bh ik la lg ce 0 9 0 vrs (nI nrb) vhs vca vxs vxb vfa u21 u22 u25 u26 vto ftp hN hB_ hT_ hS0 hM_ (by have t_n2 := n2; have t_w122 := w122; have t_e9 := e9; have t_c18 := leI c18; have : (0 : Int32).toInt = 0 := qI_0; have t_n0 : (nI N).toInt = (N : Int) := tn1338_ (); have t_n1 : (nI B).toInt = (B : Int) := tn1339_ (); have t_n2 : (nI nrb).toInt = (nrb : Int) := tn1343_ (); have t_n3 : (nI T).toInt = (T : Int) := tn1340_ (); have t_n4 : (nI nsp).toInt = (nsp : Int) := tn1344_ (); have t_n5 : (nI nhe).toInt = (nhe : Int) := tn1345_ (); have t_n6 : (nI S).toInt = (S : Int) := tn1341_ (); have t_n7 : (nI M).toInt = (M : Int) := tn1342_ (); have t_n8 : (nI w120).toInt = (w120 : Int) := tn1346_ (); have z0 : (0 : Int32).toInt = 0 := qI_0; have z1 : (1 : Int32).toInt = 1 := qI_1; have z2 : (2 : Int32).toInt = 2 := qI_2; have z3 : (3 : Int32).toInt = 3 := qI_3; have z5 : (5 : Int32).toInt = 5 := qI_5; have z9 : (9 : Int32).toInt = 9 := qI_9; omega) (by first | omega | (have t_n2 := n2; have t_w122 := w122; have t_e9 := e9; have t_c18 := leI c18; have : (0 : Int32).toInt = 0 := qI_0; have t_n0 : (nI N).toInt = (N : Int) := tn1338_ (); have t_n1 : (nI B).toInt = (B : Int) := tn1339_ (); have t_n2 : (nI nrb).toInt = (nrb : Int) := tn1343_ (); have t_n3 : (nI T).toInt = (T : Int) := tn1340_ (); have t_n4 : (nI nsp).toInt = (nsp : Int) := tn1344_ (); have t_n5 : (nI nhe).toInt = (nhe : Int) := tn1345_ (); have t_n6 : (nI S).toInt = (S : Int) := tn1341_ (); have t_n7 : (nI M).toInt = (M : Int) := tn1342_ (); have t_n8 : (nI w120).toInt = (w120 : Int) := tn1346_ (); have z0 : (0 : Int32).toInt = 0 := qI_0; have z1 : (1 : Int32).toInt = 1 := qI_1; have z2 : (2 : Int32).toInt = 2 := qI_2; have z3 : (3 : Int32).toInt = 3 := qI_3; have z5 : (5 : Int32).toInt = 5 := qI_5; have z9 : (9 : Int32).toInt = 9 := qI_9; omega)) (by first | omega | (have t_n2 := n2; have t_w122 := w122; have t_e9 := e9; have t_c18 := leI c18; have : (0 : Int32).toInt = 0 := qI_0; have t_n0 : (nI N).toInt = (N : Int) := tn1338_ (); have t_n1 : (nI B).toInt = (B : Int) := tn1339_ (); have t_n2 : (nI nrb).toInt = (nrb : Int) := tn1343_ (); have t_n3 : (nI T).toInt = (T : Int) := tn1340_ (); have t_n4 : (nI nsp).toInt = (nsp : Int) := tn1344_ (); have t_n5 : (nI nhe).toInt = (nhe : Int) := tn1345_ (); have t_n6 : (nI S).toInt = (S : Int) := tn1341_ (); have t_n7 : (nI M).toInt = (M : Int) := tn1342_ (); have t_n8 : (nI w120).toInt = (w120 : Int) := tn1346_ (); have z0 : (0 : Int32).toInt = 0 := qI_0; have z1 : (1 : Int32).toInt = 1 := qI_1; have z2 : (2 : Int32).toInt = 2 := qI_2; have z3 : (3 : Int32).toInt = 3 := qI_3; have z5 : (5 : Int32).toInt = 5 := qI_5; have z9 : (9 : Int32).toInt = 9 := qI_9; omega)) (by have t_n2 := n2; have t_w122 := w122; have t_e9 := e9; have t_c18 := leI c18; have : (0 : Int32).toInt = 0 := qI_0; have t_n0 : (nI N).toInt = (N : Int) := tn1338_ (); have t_n1 : (nI B).toInt = (B : Int) := tn1339_ (); have t_n2 : (nI nrb).toInt = (nrb : Int) := tn1343_ (); have t_n3 : (nI T).toInt = (T : Int) := tn1340_ (); have t_n4 : (nI nsp).toInt = (nsp : Int) := tn1344_ (); have t_n5 : (nI nhe).toInt = (nhe : Int) := tn1345_ (); have t_n6 : (nI S).toInt = (S : Int) := tn1341_ (); have t_n7 : (nI M).toInt = (M : Int) := tn1342_ (); have t_n8 : (nI w120).toInt = (w120 : Int) := tn1346_ (); have z0 : (0 : Int32).toInt = 0 := qI_0; have z1 : (1 : Int32).toInt = 1 := qI_1; have z2 : (2 : Int32).toInt = 2 := qI_2; have z3 : (3 : Int32).toInt = 3 := qI_3; have z5 : (5 : Int32).toInt = 5 := qI_5; have z9 : (9 : Int32).toInt = 9 := qI_9; omega) htb) (kwV hg mfX11_other wt_1028 ⟨Nat.le_of_ble_eq_true rfl, Nat.le_of_ble_eq_true rfl⟩) (preVW hK hPc hDc (ci := 11) rfl rfl) rfl rfl hl.1 rfl (lv_room (Nat.le_of_ble_eq_true rfl)) dX11_readBearer_71 ⟨Nat.le_of_ble_eq_true rfl, Nat.le_of_ble_eq_true rfl⟩) hS (fun q _ h => hFc q h) hFc (fun r27 ur27 t H1 locs ht hvm w28 hB hz1 hk1 hS => ?_)
        obtain ⟨u29, u30, u31, u32, u33, u34⟩ := ur27
        obtain ⟨hP1, hD1⟩ := hB
        rw [ht] at hP1
        obtain ⟨hP, hD⟩ := va_join (wr := [(cu, .inl (G 0, 11, .inl fcu)), (lt, .inl (G 0, 54, .inl flt)), (rp, .inl (G 0, 49, .inl (upd frp (20 + (3 * nrb)) ((nI w120) - 4))))]) (w1 := [(h0, .inr (11, [.ref st, .int (nI N), .int (nI B), .ref rp, .int vrs, .int (nI nrb), .int vhs, .int vca, .int vxs, .int vxb, .ref tp, .int (nI T), .int vfa, .int u29, .int u30, .int (nI u31), .int (nI u32), .int u33, .int u34, .ref cu, .ref lt, .ref od, .ref th, .ref be, .ref ln, .int (nI S), .ref ma, .int (nI M), .ref ah, .ref bh, .ref ik, .ref la, .ref lg, .ref ce, .int vto])), (tp, .inl (G 0, 320, .inl ftp))]) hP hD [3, 4] [0, 1, 2] rfl rfl (by decide) (by decide) hk1 hFc hP1 hD1
        generalize H1 = H at hP hS ⊢
        obtain ⟨w28, w28x⟩ := w28
        have vw28 : oV 0 9 0 (u21, u22, u23, u24, u25, u26) = r27 := w28.2.symm
        have ew28 : oS ftp T 0 9 0 (u21, u22, u23, u24, u25, u26) = (u29, u30, u31, u32, u33, u34) := w28x.2.2.2.2.2.2.symm
        refine va_iast hx hb hK.1 hP hD hS 2 0 rfl rfl (vp_in_nI (by first | omega | (have t_n2 := n2; have t_w122 := w122; have t_e9 := e9; have t_c18 := leI c18; have : (0 : Int32).toInt = 0 := qI_0; have t_n0 : (nI N).toInt = (N : Int) := tn1338_ (); have t_n1 : (nI B).toInt = (B : Int) := tn1339_ (); have t_n2 : (nI nrb).toInt = (nrb : Int) := tn1343_ (); have t_n3 : (nI T).toInt = (T : Int) := tn1340_ (); have t_n4 : (nI nsp).toInt = (nsp : Int) := tn1344_ (); have t_n5 : (nI nhe).toInt = (nhe : Int) := tn1345_ (); have t_n6 : (nI S).toInt = (S : Int) := tn1341_ (); have t_n7 : (nI M).toInt = (M : Int) := tn1342_ (); have t_n8 : (nI w120).toInt = (w120 : Int) := tn1346_ (); omega)) (by decide)) dX11_readBearer_74 (fun H locs hP hD hS => ?_)
        rw [nI_clamp (by omega)] at hP hD
        refine lv_aload_n hx hb dX11_readBearer_75 rfl (lv_at hl 2 rfl) ?_
        refine va_get (D := (dC, dI)) (ci := 11) (v := .ref rp) (C := RX11) (T := TX11) (N := 35) hx hb hg inG11 hown hK.1 hP 3 rfl rfl 3 (Nat.le_of_ble_eq_true rfl) (hg _ wt_881) (fun _ h9 => h9) rfl dX11_readBearer_76 ?_
        refine lv_bipush (v := 20) hx hb dX11_readBearer_79 rfl ?_
        refine lv_iconst (v := 3) hx hb dX11_readBearer_81 rfl ?_
        refine lv_iload_n hx hb dX11_readBearer_82 rfl (lv_at hl 1 rfl) ?_
        refine lv_imul hx hb dX11_readBearer_83 ?_
        refine lv_cg (y := nI (3 * nrb)) (by rw [show (3 : Int32) = nI 3 from rfl]; exact pk_mul _ _) ?_
        refine lv_iadd hx hb dX11_readBearer_84 ?_
        refine lv_cg (y := nI (20 + (3 * nrb))) (by rw [show (20 : Int32) = nI 20 from rfl]; exact nI_add _ _) ?_
        refine lv_iconst (v := 2) hx hb dX11_readBearer_85 rfl ?_
        refine lv_iadd hx hb dX11_readBearer_86 ?_
        refine lv_cg (y := nI ((20 + (3 * nrb)) + 2)) (by rw [show (2 : Int32) = nI 2 from rfl]; exact nI_add _ _) ?_
        refine lv_aload_n hx hb dX11_readBearer_87 rfl (lv_at hl 2 rfl) ?_
        refine lv_iconst (v := 0) hx hb dX11_readBearer_88 rfl ?_
        refine lv_bipush (v := 9) hx hb dX11_readBearer_89 rfl ?_
        refine lv_iconst (v := 0) hx hb dX11_readBearer_91 rfl ?_
        obtain ⟨hPc, hDc, hFc⟩ := va_sub3 (ws' := [(h0, .inr (11, [.ref st, .int (nI N), .int (nI B), .ref rp, .int vrs, .int (nI nrb), .int vhs, .int vca, .int vxs, .int vxb, .ref tp, .int (nI T), .int vfa, .int u29, .int u30, .int (nI u31), .int (nI u32), .int u33, .int u34, .ref cu, .ref lt, .ref od, .ref th, .ref be, .ref ln, .int (nI S), .ref ma, .int (nI M), .ref ah, .ref bh, .ref ik, .ref la, .ref lg, .ref ce, .int vto])), (tp, .inl (G 0, 320, .inl ftp))]) hP hD hS hA [3, 4] (by decide) rfl
        refine va_calli (va_runV (As := [.int 0, .int 9, .int 0]) (rest := [.int (nI ((20 + (3 * nrb)) + 2)), .ref rp]) ⟨hx, hb, hml, hown, hg⟩ (c_X11_otherE l dC dI G _ h0 st N B rp tp T u31 u32 cu lt od th be ln S ma M ah bh ik la lg ce 0 9 0 vrs (nI nrb) vhs vca vxs vxb vfa u29 u30 u33 u34 vto ftp hN hB_ hT_ hS0 hM_ (by have t_n2 := n2; have t_w122 := w122; have t_e9 := e9; have t_c18 := leI c18; have : (0 : Int32).toInt = 0 := qI_0; have t_n0 : (nI N).toInt = (N : Int) := tn1338_ (); have t_n1 : (nI B).toInt = (B : Int) := tn1339_ (); have t_n2 : (nI nrb).toInt = (nrb : Int) := tn1343_ (); have t_n3 : (nI T).toInt = (T : Int) := tn1340_ (); have t_n4 : (nI nsp).toInt = (nsp : Int) := tn1344_ (); have t_n5 : (nI nhe).toInt = (nhe : Int) := tn1345_ (); have t_n6 : (nI S).toInt = (S : Int) := tn1341_ (); have t_n7 : (nI M).toInt = (M : Int) := tn1342_ (); have t_n8 : (nI w120).toInt = (w120 : Int) := tn1346_ (); have z0 : (0 : Int32).toInt = 0 := qI_0; have z1 : (1 : Int32).toInt = 1 := qI_1; have z2 : (2 : Int32).toInt = 2 := qI_2; have z3 : (3 : Int32).toInt = 3 := qI_3; have z5 : (5 : Int32).toInt = 5 := qI_5; have z9 : (9 : Int32).toInt = 9 := qI_9; omega) (by first | omega | (have t_n2 := n2; have t_w122 := w122; have t_e9 := e9; have t_c18 := leI c18; have : (0 : Int32).toInt = 0 := qI_0; have t_n0 : (nI N).toInt = (N : Int) := tn1338_ (); have t_n1 : (nI B).toInt = (B : Int) := tn1339_ (); have t_n2 : (nI nrb).toInt = (nrb : Int) := tn1343_ (); have t_n3 : (nI T).toInt = (T : Int) := tn1340_ (); have t_n4 : (nI nsp).toInt = (nsp : Int) := tn1344_ (); have t_n5 : (nI nhe).toInt = (nhe : Int) := tn1345_ (); have t_n6 : (nI S).toInt = (S : Int) := tn1341_ (); have t_n7 : (nI M).toInt = (M : Int) := tn1342_ (); have t_n8 : (nI w120).toInt = (w120 : Int) := tn1346_ (); have z0 : (0 : Int32).toInt = 0 := qI_0; have z1 : (1 : Int32).toInt = 1 := qI_1; have z2 : (2 : Int32).toInt = 2 := qI_2; have z3 : (3 : Int32).toInt = 3 := qI_3; have z5 : (5 : Int32).toInt = 5 := qI_5; have z9 : (9 : Int32).toInt = 9 := qI_9; omega)) (by first | omega | (have t_n2 := n2; have t_w122 := w122; have t_e9 := e9; have t_c18 := leI c18; have : (0 : Int32).toInt = 0 := qI_0; have t_n0 : (nI N).toInt = (N : Int) := tn1338_ (); have t_n1 : (nI B).toInt = (B : Int) := tn1339_ (); have t_n2 : (nI nrb).toInt = (nrb : Int) := tn1343_ (); have t_n3 : (nI T).toInt = (T : Int) := tn1340_ (); have t_n4 : (nI nsp).toInt = (nsp : Int) := tn1344_ (); have t_n5 : (nI nhe).toInt = (nhe : Int) := tn1345_ (); have t_n6 : (nI S).toInt = (S : Int) := tn1341_ (); have t_n7 : (nI M).toInt = (M : Int) := tn1342_ (); have t_n8 : (nI w120).toInt = (w120 : Int) := tn1346_ (); have z0 : (0 : Int32).toInt = 0 := qI_0; have z1 : (1 : Int32).toInt = 1 := qI_1; have z2 : (2 : Int32).toInt = 2 := qI_2; have z3 : (3 : Int32).toInt = 3 := qI_3; have z5 : (5 : Int32).toInt = 5 := qI_5; have z9 : (9 : Int32).toInt = 9 := qI_9; omega)) (by have t_n2 := n2; have t_w122 := w122; have t_e9 := e9; have t_c18 := leI c18; have : (0 : Int32).toInt = 0 := qI_0; have t_n0 : (nI N).toInt = (N : Int) := tn1338_ (); have t_n1 : (nI B).toInt = (B : Int) := tn1339_ (); have t_n2 : (nI nrb).toInt = (nrb : Int) := tn1343_ (); have t_n3 : (nI T).toInt = (T : Int) := tn1340_ (); have t_n4 : (nI nsp).toInt = (nsp : Int) := tn1344_ (); have t_n5 : (nI nhe).toInt = (nhe : Int) := tn1345_ (); have t_n6 : (nI S).toInt = (S : Int) := tn1341_ (); have t_n7 : (nI M).toInt = (M : Int) := tn1342_ (); have t_n8 : (nI w120).toInt = (w120 : Int) := tn1346_ (); have z0 : (0 : Int32).toInt = 0 := qI_0; have z1 : (1 : Int32).toInt = 1 := qI_1; have z2 : (2 : Int32).toInt = 2 := qI_2; have z3 : (3 : Int32).toInt = 3 := qI_3; have z5 : (5 : Int32).toInt = 5 := qI_5; have z9 : (9 : Int32).toInt = 9 := qI_9; omega) htb) (kwV hg mfX11_other wt_1028 ⟨Nat.le_of_ble_eq_true rfl, Nat.le_of_ble_eq_true rfl⟩) (preVW hK hPc hDc (ci := 11) rfl rfl) rfl rfl hl.1 rfl (lv_room (Nat.le_of_ble_eq_true rfl)) dX11_readBearer_92 ⟨Nat.le_of_ble_eq_true rfl, Nat.le_of_ble_eq_true rfl⟩) hS (fun q _ h => hFc q h) hFc (fun r35 ur35 t H1 locs ht hvm w36 hB hz1 hk1 hS => ?_)
        obtain ⟨u37, u38, u39, u40, u41, u42⟩ := ur35
        obtain ⟨hP1, hD1⟩ := hB
        rw [ht] at hP1
        obtain ⟨hP, hD⟩ := va_join (wr := [(cu, .inl (G 0, 11, .inl fcu)), (lt, .inl (G 0, 54, .inl flt)), (rp, .inl (G 0, 49, .inl (upd (upd frp (20 + (3 * nrb)) ((nI w120) - 4)) ((20 + (3 * nrb)) + 1) r27)))]) (w1 := [(h0, .inr (11, [.ref st, .int (nI N), .int (nI B), .ref rp, .int vrs, .int (nI nrb), .int vhs, .int vca, .int vxs, .int vxb, .ref tp, .int (nI T), .int vfa, .int u37, .int u38, .int (nI u39), .int (nI u40), .int u41, .int u42, .ref cu, .ref lt, .ref od, .ref th, .ref be, .ref ln, .int (nI S), .ref ma, .int (nI M), .ref ah, .ref bh, .ref ik, .ref la, .ref lg, .ref ce, .int vto])), (tp, .inl (G 0, 320, .inl ftp))]) hP hD [3, 4] [0, 1, 2] rfl rfl (by decide) (by decide) hk1 hFc hP1 hD1
        generalize H1 = H at hP hS ⊢
        obtain ⟨w36, w36x⟩ := w36
        have vw36 : oV 0 9 0 (u29, u30, u31, u32, u33, u34) = r35 := w36.2.symm
        have ew36 : oS ftp T 0 9 0 (u29, u30, u31, u32, u33, u34) = (u37, u38, u39, u40, u41, u42) := w36x.2.2.2.2.2.2.symm
        refine va_iast hx hb hK.1 hP hD hS 2 0 rfl rfl (vp_in_nI (by first | omega | (have t_n2 := n2; have t_w122 := w122; have t_e9 := e9; have t_c18 := leI c18; have : (0 : Int32).toInt = 0 := qI_0; have t_n0 : (nI N).toInt = (N : Int) := tn1338_ (); have t_n1 : (nI B).toInt = (B : Int) := tn1339_ (); have t_n2 : (nI nrb).toInt = (nrb : Int) := tn1343_ (); have t_n3 : (nI T).toInt = (T : Int) := tn1340_ (); have t_n4 : (nI nsp).toInt = (nsp : Int) := tn1344_ (); have t_n5 : (nI nhe).toInt = (nhe : Int) := tn1345_ (); have t_n6 : (nI S).toInt = (S : Int) := tn1341_ (); have t_n7 : (nI M).toInt = (M : Int) := tn1342_ (); have t_n8 : (nI w120).toInt = (w120 : Int) := tn1346_ (); omega)) (by decide)) dX11_readBearer_95 (fun H locs hP hD hS => ?_)
        rw [nI_clamp (by omega)] at hP hD
        refine lv_aload_n hx hb dX11_readBearer_96 rfl (lv_at hl 2 rfl) ?_
        refine lv_dup hx hb dX11_readBearer_97 rfl ?_
        refine va_get (D := (dC, dI)) (ci := 11) (v := .int (nI nrb)) (C := RX11) (T := TX11) (N := 35) hx hb hg inG11 hown hK.1 hP 3 rfl rfl 5 (Nat.le_of_ble_eq_true rfl) (hg _ wt_883) (fun _ h9 => h9) rfl dX11_readBearer_98 ?_
        refine lv_iconst (v := 1) hx hb dX11_readBearer_101 rfl ?_
        refine lv_iadd hx hb dX11_readBearer_102 ?_
        refine lv_cg (y := nI (nrb + 1)) (by rw [show (1 : Int32) = nI 1 from rfl]; exact nI_add _ _) ?_
        refine va_put (D := (dC, dI)) (ci := 11) (v := .int (nI (nrb + 1))) (ty := .int) (C := RX11) (T := TX11) (N := 35) hx hb hg inG11 tyX11 tyX11_ok nmX11 hown hK.1 hP hD hS 3 rfl rfl 5 (Nat.le_of_ble_eq_true rfl) (hg _ wt_883) (fun _ h9 => h9) rfl (by decide +kernel) rfl rfl (Nat.le_of_ble_eq_true rfl) dX11_readBearer_103 (fun H locs hP hD hS => ?_)
        obtain ⟨hP9, hD9⟩ := va_sub2 (ws' := [(h0, .inr (11, [.ref st, .int (nI N), .int (nI B), .ref rp, .int vrs, .int (nI (nrb + 1)), .int vhs, .int vca, .int vxs, .int vxb, .ref tp, .int (nI T), .int vfa, .int u37, .int u38, .int (nI u39), .int (nI u40), .int u41, .int u42, .ref cu, .ref lt, .ref od, .ref th, .ref be, .ref ln, .int (nI S), .ref ma, .int (nI M), .ref ah, .ref bh, .ref ik, .ref la, .ref lg, .ref ce, .int vto])), (tp, .inl (G 0, 320, .inl ftp)), (cu, .inl (G 0, 11, .inl fcu)), (lt, .inl (G 0, 54, .inl flt)), (rp, .inl (G 0, 49, .inl (upd (upd (upd frp (20 + (3 * nrb)) ((nI w120) - 4)) ((20 + (3 * nrb)) + 1) r27) ((20 + (3 * nrb)) + 2) r35)))]) hP hD [3, 4, 0, 1, 2] (by decide) rfl
        refine W.widen (k := 0) (n := 0) (Nat.le_of_ble_eq_true rfl) (Nat.le_of_ble_eq_true rfl) ?_
        exact W.vret hx hb hr (fun t ht hW => ⟨⟨(u37, u38, u39, u40, u41, u42, (nrb + 1), (upd (upd (upd frp (20 + (3 * nrb)) ((nI w120) - 4)) ((20 + (3 * nrb)) + 1) r27) ((20 + (3 * nrb)) + 2) r35)), rfl, ⟨⟨(OKP.upd (OKP.upd (OKP.upd hrp (by have t_n2 := n2; have t_w122 := w122; have t_e9 := e9; have t_c18 := leI c18; have : (0 : Int32).toInt = 0 := qI_0; have t_n0 : (nI N).toInt = (N : Int) := tn1338_ (); have t_n1 : (nI B).toInt = (B : Int) := tn1339_ (); have t_n2 : (nI nrb).toInt = (nrb : Int) := tn1343_ (); have t_n3 : (nI T).toInt = (T : Int) := tn1340_ (); have t_n4 : (nI nsp).toInt = (nsp : Int) := tn1344_ (); have t_n5 : (nI nhe).toInt = (nhe : Int) := tn1345_ (); have t_n6 : (nI S).toInt = (S : Int) := tn1341_ (); have t_n7 : (nI M).toInt = (M : Int) := tn1342_ (); have t_n8 : (nI w120).toInt = (w120 : Int) := tn1346_ (); have z0 : (0 : Int32).toInt = 0 := qI_0; have z1 : (1 : Int32).toInt = 1 := qI_1; have z2 : (2 : Int32).toInt = 2 := qI_2; have z3 : (3 : Int32).toInt = 3 := qI_3; have z5 : (5 : Int32).toInt = 5 := qI_5; have z9 : (9 : Int32).toInt = 9 := qI_9; first | exact okS_lo (by omega) (by omega) (by omega) | exact okS_or (by omega) (by omega) (by omega) (by omega) | exact okS_sd (by omega) (by omega))) (by have t_n2 := n2; have t_w122 := w122; have t_e9 := e9; have t_c18 := leI c18; have : (0 : Int32).toInt = 0 := qI_0; have t_n0 : (nI N).toInt = (N : Int) := tn1338_ (); have t_n1 : (nI B).toInt = (B : Int) := tn1339_ (); have t_n2 : (nI nrb).toInt = (nrb : Int) := tn1343_ (); have t_n3 : (nI T).toInt = (T : Int) := tn1340_ (); have t_n4 : (nI nsp).toInt = (nsp : Int) := tn1344_ (); have t_n5 : (nI nhe).toInt = (nhe : Int) := tn1345_ (); have t_n6 : (nI S).toInt = (S : Int) := tn1341_ (); have t_n7 : (nI M).toInt = (M : Int) := tn1342_ (); have t_n8 : (nI w120).toInt = (w120 : Int) := tn1346_ (); have z0 : (0 : Int32).toInt = 0 := qI_0; have z1 : (1 : Int32).toInt = 1 := qI_1; have z2 : (2 : Int32).toInt = 2 := qI_2; have z3 : (3 : Int32).toInt = 3 := qI_3; have z5 : (5 : Int32).toInt = 5 := qI_5; have z9 : (9 : Int32).toInt = 9 := qI_9; first | exact okS_lo (by omega) (by omega) (by omega) | exact okS_or (by omega) (by omega) (by omega) (by omega) | exact okS_sd (by omega) (by omega))) (by have t_n2 := n2; have t_w122 := w122; have t_e9 := e9; have t_c18 := leI c18; have : (0 : Int32).toInt = 0 := qI_0; have t_n0 : (nI N).toInt = (N : Int) := tn1338_ (); have t_n1 : (nI B).toInt = (B : Int) := tn1339_ (); have t_n2 : (nI nrb).toInt = (nrb : Int) := tn1343_ (); have t_n3 : (nI T).toInt = (T : Int) := tn1340_ (); have t_n4 : (nI nsp).toInt = (nsp : Int) := tn1344_ (); have t_n5 : (nI nhe).toInt = (nhe : Int) := tn1345_ (); have t_n6 : (nI S).toInt = (S : Int) := tn1341_ (); have t_n7 : (nI M).toInt = (M : Int) := tn1342_ (); have t_n8 : (nI w120).toInt = (w120 : Int) := tn1346_ (); have z0 : (0 : Int32).toInt = 0 := qI_0; have z1 : (1 : Int32).toInt = 1 := qI_1; have z2 : (2 : Int32).toInt = 2 := qI_2; have z3 : (3 : Int32).toInt = 3 := qI_3; have z5 : (5 : Int32).toInt = 5 := qI_5; have z9 : (9 : Int32).toInt = 9 := qI_9; first | exact okS_lo (by omega) (by omega) (by omega) | exact okS_or (by omega) (by omega) (by omega) (by omega) | exact okS_sd (by omega) (by omega))), (by have t_n2 := n2; have t_w122 := w122; have t_e9 := e9; have t_c18 := leI c18; have : (0 : Int32).toInt = 0 := qI_0; have t_n0 : (nI N).toInt = (N : Int) := tn1338_ (); have t_n1 : (nI B).toInt = (B : Int) := tn1339_ (); have t_n2 : (nI nrb).toInt = (nrb : Int) := tn1343_ (); have t_n3 : (nI T).toInt = (T : Int) := tn1340_ (); have t_n4 : (nI nsp).toInt = (nsp : Int) := tn1344_ (); have t_n5 : (nI nhe).toInt = (nhe : Int) := tn1345_ (); have t_n6 : (nI S).toInt = (S : Int) := tn1341_ (); have t_n7 : (nI M).toInt = (M : Int) := tn1342_ (); have t_n8 : (nI w120).toInt = (w120 : Int) := tn1346_ (); have z0 : (0 : Int32).toInt = 0 := qI_0; have z1 : (1 : Int32).toInt = 1 := qI_1; have z2 : (2 : Int32).toInt = 2 := qI_2; have z3 : (3 : Int32).toInt = 3 := qI_3; have z5 : (5 : Int32).toInt = 5 := qI_5; have z9 : (9 : Int32).toInt = 9 := qI_9; omega)⟩, (by unfold rbS; (first | rw [if_pos (by (have t_n2 := n2; have t_w122 := w122; have t_e9 := e9; have t_c18 := leI c18; have : (0 : Int32).toInt = 0 := qI_0; have t_n0 : (nI N).toInt = (N : Int) := tn1338_ (); have t_n1 : (nI B).toInt = (B : Int) := tn1339_ (); have t_n2 : (nI nrb).toInt = (nrb : Int) := tn1343_ (); have t_n3 : (nI T).toInt = (T : Int) := tn1340_ (); have t_n4 : (nI nsp).toInt = (nsp : Int) := tn1344_ (); have t_n5 : (nI nhe).toInt = (nhe : Int) := tn1345_ (); have t_n6 : (nI S).toInt = (S : Int) := tn1341_ (); have t_n7 : (nI M).toInt = (M : Int) := tn1342_ (); have t_n8 : (nI w120).toInt = (w120 : Int) := tn1346_ (); have z0 : (0 : Int32).toInt = 0 := qI_0; have z1 : (1 : Int32).toInt = 1 := qI_1; have z2 : (2 : Int32).toInt = 2 := qI_2; have z3 : (3 : Int32).toInt = 3 := qI_3; have z5 : (5 : Int32).toInt = 5 := qI_5; have z9 : (9 : Int32).toInt = 9 := qI_9; omega))] | rw [if_neg (by (have t_n2 := n2; have t_w122 := w122; have t_e9 := e9; have t_c18 := leI c18; have : (0 : Int32).toInt = 0 := qI_0; have t_n0 : (nI N).toInt = (N : Int) := tn1338_ (); have t_n1 : (nI B).toInt = (B : Int) := tn1339_ (); have t_n2 : (nI nrb).toInt = (nrb : Int) := tn1343_ (); have t_n3 : (nI T).toInt = (T : Int) := tn1340_ (); have t_n4 : (nI nsp).toInt = (nsp : Int) := tn1344_ (); have t_n5 : (nI nhe).toInt = (nhe : Int) := tn1345_ (); have t_n6 : (nI S).toInt = (S : Int) := tn1341_ (); have t_n7 : (nI M).toInt = (M : Int) := tn1342_ (); have t_n8 : (nI w120).toInt = (w120 : Int) := tn1346_ (); have z0 : (0 : Int32).toInt = 0 := qI_0; have z1 : (1 : Int32).toInt = 1 := qI_1; have z2 : (2 : Int32).toInt = 2 := qI_2; have z3 : (3 : Int32).toInt = 3 := qI_3; have z5 : (5 : Int32).toInt = 5 := qI_5; have z9 : (9 : Int32).toInt = 9 := qI_9; omega))]); (try rw [ew4]); (try rw [ew12]); (try rw [ew20]); (try rw [vw28]); (try rw [ew28]); (try rw [vw36]); (try rw [ew36]); (try (repeat (first | rw [if_pos (by assumption)] | rw [if_neg (by assumption)] | rw [if_pos (by (have t_n2 := n2; have t_w122 := w122; have t_e9 := e9; have t_c18 := leI c18; have : (0 : Int32).toInt = 0 := qI_0; have t_n0 : (nI N).toInt = (N : Int) := tn1338_ (); have t_n1 : (nI B).toInt = (B : Int) := tn1339_ (); have t_n2 : (nI nrb).toInt = (nrb : Int) := tn1343_ (); have t_n3 : (nI T).toInt = (T : Int) := tn1340_ (); have t_n4 : (nI nsp).toInt = (nsp : Int) := tn1344_ (); have t_n5 : (nI nhe).toInt = (nhe : Int) := tn1345_ (); have t_n6 : (nI S).toInt = (S : Int) := tn1341_ (); have t_n7 : (nI M).toInt = (M : Int) := tn1342_ (); have t_n8 : (nI w120).toInt = (w120 : Int) := tn1346_ (); have z0 : (0 : Int32).toInt = 0 := qI_0; have z1 : (1 : Int32).toInt = 1 := qI_1; have z2 : (2 : Int32).toInt = 2 := qI_2; have z3 : (3 : Int32).toInt = 3 := qI_3; have z5 : (5 : Int32).toInt = 5 := qI_5; have z9 : (9 : Int32).toInt = 9 := qI_9; omega))] | rw [if_neg (by (have t_n2 := n2; have t_w122 := w122; have t_e9 := e9; have t_c18 := leI c18; have : (0 : Int32).toInt = 0 := qI_0; have t_n0 : (nI N).toInt = (N : Int) := tn1338_ (); have t_n1 : (nI B).toInt = (B : Int) := tn1339_ (); have t_n2 : (nI nrb).toInt = (nrb : Int) := tn1343_ (); have t_n3 : (nI T).toInt = (T : Int) := tn1340_ (); have t_n4 : (nI nsp).toInt = (nsp : Int) := tn1344_ (); have t_n5 : (nI nhe).toInt = (nhe : Int) := tn1345_ (); have t_n6 : (nI S).toInt = (S : Int) := tn1341_ (); have t_n7 : (nI M).toInt = (M : Int) := tn1342_ (); have t_n8 : (nI w120).toInt = (w120 : Int) := tn1346_ (); have z0 : (0 : Int32).toInt = 0 := qI_0; have z1 : (1 : Int32).toInt = 1 := qI_1; have z2 : (2 : Int32).toInt = 2 := qI_2; have z3 : (3 : Int32).toInt = 3 := qI_3; have z5 : (5 : Int32).toInt = 5 := qI_5; have z9 : (9 : Int32).toInt = 9 := qI_9; omega))] | rw [if_pos (by decide)] | rw [if_neg (by decide)]))); all_goals rfl)⟩, ⟨by rw [ht]; exact hP9, hD9⟩⟩, hS.F ht⟩) hS.2.2 dX11_readBearer_106
      · skip
        refine lv_aload_n hx hb dX11_readBearer_32 rfl (lv_at hl 2 rfl) ?_
        refine lv_iconst (v := 2) hx hb dX11_readBearer_33 rfl ?_
        obtain ⟨hPc, hDc, hFc⟩ := va_sub3 (ws' := [(h0, .inr (11, [.ref st, .int (nI N), .int (nI B), .ref rp, .int vrs, .int (nI nrb), .int vhs, .int vca, .int vxs, .int vxb, .ref tp, .int (nI T), .int vfa, .int u5, .int u6, .int (nI u7), .int (nI u8), .int u9, .int u10, .ref cu, .ref lt, .ref od, .ref th, .ref be, .ref ln, .int (nI S), .ref ma, .int (nI M), .ref ah, .ref bh, .ref ik, .ref la, .ref lg, .ref ce, .int vto]))]) hP hD hS hA [3] (by decide) rfl
        have tn1347_ : nIT w120 := fun _ => nI_toInt (by first | omega | (have t_n2 := n2; have t_w122 := w122; have t_e9 := e9; have t_c18 := nleI c18; have : (0 : Int32).toInt = 0 := qI_0; omega))
        refine va_callv (va_runV (As := [.int 2]) (rest := []) ⟨hx, hb, hml, hown, hg⟩ (c_X11_failsE l dC dI G _ h0 st N B rp tp T u8 cu lt od th be ln S ma M ah bh ik la lg ce 2 vrs (nI nrb) vhs vca vxs vxb vfa u5 u6 (nI u7) u9 u10 vto hN hB_ hT_ hS0 hM_ (by have t_n2 := n2; have t_w122 := w122; have t_e9 := e9; have t_c18 := nleI c18; have : (0 : Int32).toInt = 0 := qI_0; have t_n0 : (nI N).toInt = (N : Int) := tn1338_ (); have t_n1 : (nI B).toInt = (B : Int) := tn1339_ (); have t_n2 : (nI nrb).toInt = (nrb : Int) := tn1343_ (); have t_n3 : (nI T).toInt = (T : Int) := tn1340_ (); have t_n4 : (nI nsp).toInt = (nsp : Int) := tn1344_ (); have t_n5 : (nI nhe).toInt = (nhe : Int) := tn1345_ (); have t_n6 : (nI S).toInt = (S : Int) := tn1341_ (); have t_n7 : (nI M).toInt = (M : Int) := tn1342_ (); have t_n8 : (nI w120).toInt = (w120 : Int) := tn1347_ (); have z0 : (0 : Int32).toInt = 0 := qI_0; have z1 : (1 : Int32).toInt = 1 := qI_1; have z2 : (2 : Int32).toInt = 2 := qI_2; have z3 : (3 : Int32).toInt = 3 := qI_3; have z5 : (5 : Int32).toInt = 5 := qI_5; have z9 : (9 : Int32).toInt = 9 := qI_9; have z4 : (4 : Int32).toInt = 4 := qI_4; have z6 : (6 : Int32).toInt = 6 := qI_6; have z7 : (7 : Int32).toInt = 7 := qI_7; omega) (by have t_n2 := n2; have t_w122 := w122; have t_e9 := e9; have t_c18 := nleI c18; have : (0 : Int32).toInt = 0 := qI_0; have t_n0 : (nI N).toInt = (N : Int) := tn1338_ (); have t_n1 : (nI B).toInt = (B : Int) := tn1339_ (); have t_n2 : (nI nrb).toInt = (nrb : Int) := tn1343_ (); have t_n3 : (nI T).toInt = (T : Int) := tn1340_ (); have t_n4 : (nI nsp).toInt = (nsp : Int) := tn1344_ (); have t_n5 : (nI nhe).toInt = (nhe : Int) := tn1345_ (); have t_n6 : (nI S).toInt = (S : Int) := tn1341_ (); have t_n7 : (nI M).toInt = (M : Int) := tn1342_ (); have t_n8 : (nI w120).toInt = (w120 : Int) := tn1347_ (); have z0 : (0 : Int32).toInt = 0 := qI_0; have z1 : (1 : Int32).toInt = 1 := qI_1; have z2 : (2 : Int32).toInt = 2 := qI_2; have z3 : (3 : Int32).toInt = 3 := qI_3; have z5 : (5 : Int32).toInt = 5 := qI_5; have z9 : (9 : Int32).toInt = 9 := qI_9; have z4 : (4 : Int32).toInt = 4 := qI_4; have z6 : (6 : Int32).toInt = 6 := qI_6; have z7 : (7 : Int32).toInt = 7 := qI_7; omega) (by first | omega | (have t_n2 := n2; have t_w122 := w122; have t_e9 := e9; have t_c18 := nleI c18; have : (0 : Int32).toInt = 0 := qI_0; have t_n0 : (nI N).toInt = (N : Int) := tn1338_ (); have t_n1 : (nI B).toInt = (B : Int) := tn1339_ (); have t_n2 : (nI nrb).toInt = (nrb : Int) := tn1343_ (); have t_n3 : (nI T).toInt = (T : Int) := tn1340_ (); have t_n4 : (nI nsp).toInt = (nsp : Int) := tn1344_ (); have t_n5 : (nI nhe).toInt = (nhe : Int) := tn1345_ (); have t_n6 : (nI S).toInt = (S : Int) := tn1341_ (); have t_n7 : (nI M).toInt = (M : Int) := tn1342_ (); have t_n8 : (nI w120).toInt = (w120 : Int) := tn1347_ (); have z0 : (0 : Int32).toInt = 0 := qI_0; have z1 : (1 : Int32).toInt = 1 := qI_1; have z2 : (2 : Int32).toInt = 2 := qI_2; have z3 : (3 : Int32).toInt = 3 := qI_3; have z5 : (5 : Int32).toInt = 5 := qI_5; have z9 : (9 : Int32).toInt = 9 := qI_9; have z4 : (4 : Int32).toInt = 4 := qI_4; have z6 : (6 : Int32).toInt = 6 := qI_6; have z7 : (7 : Int32).toInt = 7 := qI_7; omega))) (kwV hg mfX11_fails wt_1011 ⟨Nat.le_of_ble_eq_true rfl, Nat.le_of_ble_eq_true rfl⟩) (preVW hK hPc hDc (ci := 11) rfl rfl) rfl rfl hl.1 rfl (lv_room (Nat.le_of_ble_eq_true rfl)) dX11_readBearer_34 ⟨Nat.le_of_ble_eq_true rfl, Nat.le_of_ble_eq_true rfl⟩) hS (fun q _ h => hFc q h) hFc (fun ur43 t H1 locs ht hvm w44 hB hz1 hk1 hS => ?_)
        obtain ⟨u45, u46⟩ := ur43
        obtain ⟨hP1, hD1⟩ := hB
        rw [ht] at hP1
        obtain ⟨hP, hD⟩ := va_join (wr := [(cu, .inl (G 0, 11, .inl fcu)), (lt, .inl (G 0, 54, .inl flt)), (rp, .inl (G 0, 49, .inl frp)), (tp, .inl (G 0, 320, .inl ftp))]) (w1 := [(h0, .inr (11, [.ref st, .int (nI N), .int (nI B), .ref rp, .int vrs, .int (nI nrb), .int vhs, .int vca, .int vxs, .int vxb, .ref tp, .int (nI T), .int vfa, .int u45, .int u46, .int (nI u7), .int (nI u8), .int u9, .int u10, .ref cu, .ref lt, .ref od, .ref th, .ref be, .ref ln, .int (nI S), .ref ma, .int (nI M), .ref ah, .ref bh, .ref ik, .ref la, .ref lg, .ref ce, .int vto]))]) hP hD [3] [0, 1, 2, 4] rfl rfl (by decide) (by decide) hk1 hFc hP1 hD1
        have w44 : 0 < u45.toInt ∧ u45 = flB (2 : Int32) u5 ∧ u46 = flA u5 u6 u8 := w44
        generalize H1 = H at hP hS ⊢
        have ew44 : fT 2 (u5, u6, u7, u8, u9, u10) = (u45, u46, u7, u8, u9, u10) := (by show (flB _ _, flA _ _ _, _, _, _, _) = _; rw [← w44.2.1, ← w44.2.2])
        obtain ⟨hP9, hD9⟩ := va_sub2 (ws' := [(h0, .inr (11, [.ref st, .int (nI N), .int (nI B), .ref rp, .int vrs, .int (nI nrb), .int vhs, .int vca, .int vxs, .int vxb, .ref tp, .int (nI T), .int vfa, .int u45, .int u46, .int (nI u7), .int (nI u8), .int u9, .int u10, .ref cu, .ref lt, .ref od, .ref th, .ref be, .ref ln, .int (nI S), .ref ma, .int (nI M), .ref ah, .ref bh, .ref ik, .ref la, .ref lg, .ref ce, .int vto])), (tp, .inl (G 0, 320, .inl ftp)), (cu, .inl (G 0, 11, .inl fcu)), (lt, .inl (G 0, 54, .inl flt)), (rp, .inl (G 0, 49, .inl frp))]) hP hD [4, 3, 0, 1, 2] (by decide) rfl
        refine W.widen (k := 0) (n := 0) (Nat.le_of_ble_eq_true rfl) (Nat.le_of_ble_eq_true rfl) ?_
        exact W.vret hx hb hr (fun t ht hW => ⟨⟨(u45, u46, u7, u8, u9, u10, nrb, frp), rfl, ⟨⟨hrp, (by have t_n2 := n2; have t_w122 := w122; have t_e9 := e9; have t_c18 := nleI c18; have t_w44 := w44.1; have : (0 : Int32).toInt = 0 := qI_0; have t_n0 : (nI N).toInt = (N : Int) := tn1338_ (); have t_n1 : (nI B).toInt = (B : Int) := tn1339_ (); have t_n2 : (nI nrb).toInt = (nrb : Int) := tn1343_ (); have t_n3 : (nI T).toInt = (T : Int) := tn1340_ (); have t_n4 : (nI nsp).toInt = (nsp : Int) := tn1344_ (); have t_n5 : (nI nhe).toInt = (nhe : Int) := tn1345_ (); have t_n6 : (nI S).toInt = (S : Int) := tn1341_ (); have t_n7 : (nI M).toInt = (M : Int) := tn1342_ (); have t_n8 : (nI w120).toInt = (w120 : Int) := tn1347_ (); have z0 : (0 : Int32).toInt = 0 := qI_0; have z1 : (1 : Int32).toInt = 1 := qI_1; have z2 : (2 : Int32).toInt = 2 := qI_2; have z3 : (3 : Int32).toInt = 3 := qI_3; have z5 : (5 : Int32).toInt = 5 := qI_5; have z9 : (9 : Int32).toInt = 9 := qI_9; omega)⟩, (by unfold rbS; (first | rw [if_pos (by (have t_n2 := n2; have t_w122 := w122; have t_e9 := e9; have t_c18 := nleI c18; have t_w44 := w44.1; have : (0 : Int32).toInt = 0 := qI_0; have t_n0 : (nI N).toInt = (N : Int) := tn1338_ (); have t_n1 : (nI B).toInt = (B : Int) := tn1339_ (); have t_n2 : (nI nrb).toInt = (nrb : Int) := tn1343_ (); have t_n3 : (nI T).toInt = (T : Int) := tn1340_ (); have t_n4 : (nI nsp).toInt = (nsp : Int) := tn1344_ (); have t_n5 : (nI nhe).toInt = (nhe : Int) := tn1345_ (); have t_n6 : (nI S).toInt = (S : Int) := tn1341_ (); have t_n7 : (nI M).toInt = (M : Int) := tn1342_ (); have t_n8 : (nI w120).toInt = (w120 : Int) := tn1347_ (); have z0 : (0 : Int32).toInt = 0 := qI_0; have z1 : (1 : Int32).toInt = 1 := qI_1; have z2 : (2 : Int32).toInt = 2 := qI_2; have z3 : (3 : Int32).toInt = 3 := qI_3; have z5 : (5 : Int32).toInt = 5 := qI_5; have z9 : (9 : Int32).toInt = 9 := qI_9; omega))] | rw [if_neg (by (have t_n2 := n2; have t_w122 := w122; have t_e9 := e9; have t_c18 := nleI c18; have t_w44 := w44.1; have : (0 : Int32).toInt = 0 := qI_0; have t_n0 : (nI N).toInt = (N : Int) := tn1338_ (); have t_n1 : (nI B).toInt = (B : Int) := tn1339_ (); have t_n2 : (nI nrb).toInt = (nrb : Int) := tn1343_ (); have t_n3 : (nI T).toInt = (T : Int) := tn1340_ (); have t_n4 : (nI nsp).toInt = (nsp : Int) := tn1344_ (); have t_n5 : (nI nhe).toInt = (nhe : Int) := tn1345_ (); have t_n6 : (nI S).toInt = (S : Int) := tn1341_ (); have t_n7 : (nI M).toInt = (M : Int) := tn1342_ (); have t_n8 : (nI w120).toInt = (w120 : Int) := tn1347_ (); have z0 : (0 : Int32).toInt = 0 := qI_0; have z1 : (1 : Int32).toInt = 1 := qI_1; have z2 : (2 : Int32).toInt = 2 := qI_2; have z3 : (3 : Int32).toInt = 3 := qI_3; have z5 : (5 : Int32).toInt = 5 := qI_5; have z9 : (9 : Int32).toInt = 9 := qI_9; omega))]); (try rw [ew4]); (try rw [ew12]); (try rw [ew44]); (try (repeat (first | rw [if_pos (by assumption)] | rw [if_neg (by assumption)] | rw [if_pos (by (have t_n2 := n2; have t_w122 := w122; have t_e9 := e9; have t_c18 := nleI c18; have t_w44 := w44.1; have : (0 : Int32).toInt = 0 := qI_0; have t_n0 : (nI N).toInt = (N : Int) := tn1338_ (); have t_n1 : (nI B).toInt = (B : Int) := tn1339_ (); have t_n2 : (nI nrb).toInt = (nrb : Int) := tn1343_ (); have t_n3 : (nI T).toInt = (T : Int) := tn1340_ (); have t_n4 : (nI nsp).toInt = (nsp : Int) := tn1344_ (); have t_n5 : (nI nhe).toInt = (nhe : Int) := tn1345_ (); have t_n6 : (nI S).toInt = (S : Int) := tn1341_ (); have t_n7 : (nI M).toInt = (M : Int) := tn1342_ (); have t_n8 : (nI w120).toInt = (w120 : Int) := tn1347_ (); have z0 : (0 : Int32).toInt = 0 := qI_0; have z1 : (1 : Int32).toInt = 1 := qI_1; have z2 : (2 : Int32).toInt = 2 := qI_2; have z3 : (3 : Int32).toInt = 3 := qI_3; have z5 : (5 : Int32).toInt = 5 := qI_5; have z9 : (9 : Int32).toInt = 9 := qI_9; omega))] | rw [if_neg (by (have t_n2 := n2; have t_w122 := w122; have t_e9 := e9; have t_c18 := nleI c18; have t_w44 := w44.1; have : (0 : Int32).toInt = 0 := qI_0; have t_n0 : (nI N).toInt = (N : Int) := tn1338_ (); have t_n1 : (nI B).toInt = (B : Int) := tn1339_ (); have t_n2 : (nI nrb).toInt = (nrb : Int) := tn1343_ (); have t_n3 : (nI T).toInt = (T : Int) := tn1340_ (); have t_n4 : (nI nsp).toInt = (nsp : Int) := tn1344_ (); have t_n5 : (nI nhe).toInt = (nhe : Int) := tn1345_ (); have t_n6 : (nI S).toInt = (S : Int) := tn1341_ (); have t_n7 : (nI M).toInt = (M : Int) := tn1342_ (); have t_n8 : (nI w120).toInt = (w120 : Int) := tn1347_ (); have z0 : (0 : Int32).toInt = 0 := qI_0; have z1 : (1 : Int32).toInt = 1 := qI_1; have z2 : (2 : Int32).toInt = 2 := qI_2; have z3 : (3 : Int32).toInt = 3 := qI_3; have z5 : (5 : Int32).toInt = 5 := qI_5; have z9 : (9 : Int32).toInt = 9 := qI_9; omega))] | rw [if_pos (by decide)] | rw [if_neg (by decide)]))); all_goals rfl)⟩, ⟨by rw [ht]; exact hP9, hD9⟩⟩, hS.F ht⟩) hS.2.2 dX11_readBearer_37
  · skip
    have tn1348_ : nIT nrb := fun _ => nI_toInt (by first | omega | (have t := eqI c1; omega))
    have n47 : nrb = 6 := by have t := eqI c1; rw [show (nI (nrb)).toInt = ((nrb : Nat) : Int) from tn1348_ ()] at t; have : (6 : Int32).toInt = 6 := qI_6; omega
    refine lv_aload_n hx hb dX11_readBearer_11 rfl (lv_at hl 1 rfl) ?_
    refine lv_iconst (v := 5) hx hb dX11_readBearer_12 rfl ?_
    obtain ⟨hPc, hDc, hFc⟩ := va_sub3 (ws' := [(h0, .inr (11, [.ref st, .int (nI N), .int (nI B), .ref rp, .int vrs, .int (nI nrb), .int vhs, .int vca, .int vxs, .int vxb, .ref tp, .int (nI T), .int vfa, .int vbr, .int vba, .int (nI nsp), .int (nI nhe), .int vtk, .int vva, .ref cu, .ref lt, .ref od, .ref th, .ref be, .ref ln, .int (nI S), .ref ma, .int (nI M), .ref ah, .ref bh, .ref ik, .ref la, .ref lg, .ref ce, .int vto]))]) hP hD hS hA [0] (by decide) rfl
    have tn1349_ : nIT nsp := fun _ => nI_toInt (by first | omega | (have t_n47 := n47; omega))
    have tn1350_ : nIT nhe := fun _ => nI_toInt (by first | omega | (have t_n47 := n47; omega))
    refine va_callv (va_runV (As := [.int 5]) (rest := []) ⟨hx, hb, hml, hown, hg⟩ (c_X11_failsE l dC dI G _ h0 st N B rp tp T nhe cu lt od th be ln S ma M ah bh ik la lg ce 5 vrs (nI nrb) vhs vca vxs vxb vfa vbr vba (nI nsp) vtk vva vto hN hB_ hT_ hS0 hM_ (by have t_n47 := n47; have t_n0 : (nI N).toInt = (N : Int) := tn1338_ (); have t_n1 : (nI B).toInt = (B : Int) := tn1339_ (); have t_n2 : (nI nrb).toInt = (nrb : Int) := tn1348_ (); have t_n3 : (nI T).toInt = (T : Int) := tn1340_ (); have t_n4 : (nI nsp).toInt = (nsp : Int) := tn1349_ (); have t_n5 : (nI nhe).toInt = (nhe : Int) := tn1350_ (); have t_n6 : (nI S).toInt = (S : Int) := tn1341_ (); have t_n7 : (nI M).toInt = (M : Int) := tn1342_ (); have z0 : (0 : Int32).toInt = 0 := qI_0; have z1 : (1 : Int32).toInt = 1 := qI_1; have z2 : (2 : Int32).toInt = 2 := qI_2; have z3 : (3 : Int32).toInt = 3 := qI_3; have z5 : (5 : Int32).toInt = 5 := qI_5; have z9 : (9 : Int32).toInt = 9 := qI_9; have z4 : (4 : Int32).toInt = 4 := qI_4; have z6 : (6 : Int32).toInt = 6 := qI_6; have z7 : (7 : Int32).toInt = 7 := qI_7; omega) hbr (by first | omega | (have t_n47 := n47; have t_n0 : (nI N).toInt = (N : Int) := tn1338_ (); have t_n1 : (nI B).toInt = (B : Int) := tn1339_ (); have t_n2 : (nI nrb).toInt = (nrb : Int) := tn1348_ (); have t_n3 : (nI T).toInt = (T : Int) := tn1340_ (); have t_n4 : (nI nsp).toInt = (nsp : Int) := tn1349_ (); have t_n5 : (nI nhe).toInt = (nhe : Int) := tn1350_ (); have t_n6 : (nI S).toInt = (S : Int) := tn1341_ (); have t_n7 : (nI M).toInt = (M : Int) := tn1342_ (); have z0 : (0 : Int32).toInt = 0 := qI_0; have z1 : (1 : Int32).toInt = 1 := qI_1; have z2 : (2 : Int32).toInt = 2 := qI_2; have z3 : (3 : Int32).toInt = 3 := qI_3; have z5 : (5 : Int32).toInt = 5 := qI_5; have z9 : (9 : Int32).toInt = 9 := qI_9; have z4 : (4 : Int32).toInt = 4 := qI_4; have z6 : (6 : Int32).toInt = 6 := qI_6; have z7 : (7 : Int32).toInt = 7 := qI_7; omega))) (kwV hg mfX11_fails wt_1011 ⟨Nat.le_of_ble_eq_true rfl, Nat.le_of_ble_eq_true rfl⟩) (preVW hK hPc hDc (ci := 11) rfl rfl) rfl rfl hl.1 rfl (lv_room (Nat.le_of_ble_eq_true rfl)) dX11_readBearer_13 ⟨Nat.le_of_ble_eq_true rfl, Nat.le_of_ble_eq_true rfl⟩) hS (fun q _ h => hFc q h) hFc (fun ur48 t H1 locs ht hvm w49 hB hz1 hk1 hS => ?_)
    obtain ⟨u50, u51⟩ := ur48
    obtain ⟨hP1, hD1⟩ := hB
    rw [ht] at hP1
    obtain ⟨hP, hD⟩ := va_join (wr := [(tp, .inl (G 0, 320, .inl ftp)), (cu, .inl (G 0, 11, .inl fcu)), (lt, .inl (G 0, 54, .inl flt)), (rp, .inl (G 0, 49, .inl frp))]) (w1 := [(h0, .inr (11, [.ref st, .int (nI N), .int (nI B), .ref rp, .int vrs, .int (nI nrb), .int vhs, .int vca, .int vxs, .int vxb, .ref tp, .int (nI T), .int vfa, .int u50, .int u51, .int (nI nsp), .int (nI nhe), .int vtk, .int vva, .ref cu, .ref lt, .ref od, .ref th, .ref be, .ref ln, .int (nI S), .ref ma, .int (nI M), .ref ah, .ref bh, .ref ik, .ref la, .ref lg, .ref ce, .int vto]))]) hP hD [0] [1, 2, 3, 4] rfl rfl (by decide) (by decide) hk1 hFc hP1 hD1
    have w49 : 0 < u50.toInt ∧ u50 = flB (5 : Int32) vbr ∧ u51 = flA vbr vba nhe := w49
    generalize H1 = H at hP hS ⊢
    have ew49 : fT 5 (vbr, vba, nsp, nhe, vtk, vva) = (u50, u51, nsp, nhe, vtk, vva) := (by show (flB _ _, flA _ _ _, _, _, _, _) = _; rw [← w49.2.1, ← w49.2.2])
    obtain ⟨hP9, hD9⟩ := va_sub2 (ws' := [(h0, .inr (11, [.ref st, .int (nI N), .int (nI B), .ref rp, .int vrs, .int (nI nrb), .int vhs, .int vca, .int vxs, .int vxb, .ref tp, .int (nI T), .int vfa, .int u50, .int u51, .int (nI nsp), .int (nI nhe), .int vtk, .int vva, .ref cu, .ref lt, .ref od, .ref th, .ref be, .ref ln, .int (nI S), .ref ma, .int (nI M), .ref ah, .ref bh, .ref ik, .ref la, .ref lg, .ref ce, .int vto])), (tp, .inl (G 0, 320, .inl ftp)), (cu, .inl (G 0, 11, .inl fcu)), (lt, .inl (G 0, 54, .inl flt)), (rp, .inl (G 0, 49, .inl frp))]) hP hD [4, 0, 1, 2, 3] (by decide) rfl
    refine W.widen (k := 0) (n := 0) (Nat.le_of_ble_eq_true rfl) (Nat.le_of_ble_eq_true rfl) ?_
    exact W.vret hx hb hr (fun t ht hW => ⟨⟨(u50, u51, nsp, nhe, vtk, vva, nrb, frp), rfl, ⟨⟨hrp, (by have t_n47 := n47; have t_w49 := w49.1; have t_n0 : (nI N).toInt = (N : Int) := tn1338_ (); have t_n1 : (nI B).toInt = (B : Int) := tn1339_ (); have t_n2 : (nI nrb).toInt = (nrb : Int) := tn1348_ (); have t_n3 : (nI T).toInt = (T : Int) := tn1340_ (); have t_n4 : (nI nsp).toInt = (nsp : Int) := tn1349_ (); have t_n5 : (nI nhe).toInt = (nhe : Int) := tn1350_ (); have t_n6 : (nI S).toInt = (S : Int) := tn1341_ (); have t_n7 : (nI M).toInt = (M : Int) := tn1342_ (); have z0 : (0 : Int32).toInt = 0 := qI_0; have z1 : (1 : Int32).toInt = 1 := qI_1; have z2 : (2 : Int32).toInt = 2 := qI_2; have z3 : (3 : Int32).toInt = 3 := qI_3; have z5 : (5 : Int32).toInt = 5 := qI_5; have z9 : (9 : Int32).toInt = 9 := qI_9; omega)⟩, (by unfold rbS; (first | rw [if_pos (by (have t_n47 := n47; have t_w49 := w49.1; have t_n0 : (nI N).toInt = (N : Int) := tn1338_ (); have t_n1 : (nI B).toInt = (B : Int) := tn1339_ (); have t_n2 : (nI nrb).toInt = (nrb : Int) := tn1348_ (); have t_n3 : (nI T).toInt = (T : Int) := tn1340_ (); have t_n4 : (nI nsp).toInt = (nsp : Int) := tn1349_ (); have t_n5 : (nI nhe).toInt = (nhe : Int) := tn1350_ (); have t_n6 : (nI S).toInt = (S : Int) := tn1341_ (); have t_n7 : (nI M).toInt = (M : Int) := tn1342_ (); have z0 : (0 : Int32).toInt = 0 := qI_0; have z1 : (1 : Int32).toInt = 1 := qI_1; have z2 : (2 : Int32).toInt = 2 := qI_2; have z3 : (3 : Int32).toInt = 3 := qI_3; have z5 : (5 : Int32).toInt = 5 := qI_5; have z9 : (9 : Int32).toInt = 9 := qI_9; omega))] | rw [if_neg (by (have t_n47 := n47; have t_w49 := w49.1; have t_n0 : (nI N).toInt = (N : Int) := tn1338_ (); have t_n1 : (nI B).toInt = (B : Int) := tn1339_ (); have t_n2 : (nI nrb).toInt = (nrb : Int) := tn1348_ (); have t_n3 : (nI T).toInt = (T : Int) := tn1340_ (); have t_n4 : (nI nsp).toInt = (nsp : Int) := tn1349_ (); have t_n5 : (nI nhe).toInt = (nhe : Int) := tn1350_ (); have t_n6 : (nI S).toInt = (S : Int) := tn1341_ (); have t_n7 : (nI M).toInt = (M : Int) := tn1342_ (); have z0 : (0 : Int32).toInt = 0 := qI_0; have z1 : (1 : Int32).toInt = 1 := qI_1; have z2 : (2 : Int32).toInt = 2 := qI_2; have z3 : (3 : Int32).toInt = 3 := qI_3; have z5 : (5 : Int32).toInt = 5 := qI_5; have z9 : (9 : Int32).toInt = 9 := qI_9; omega))]); (try rw [ew49]); (try (repeat (first | rw [if_pos (by assumption)] | rw [if_neg (by assumption)] | rw [if_pos (by (have t_n47 := n47; have t_w49 := w49.1; have t_n0 : (nI N).toInt = (N : Int) := tn1338_ (); have t_n1 : (nI B).toInt = (B : Int) := tn1339_ (); have t_n2 : (nI nrb).toInt = (nrb : Int) := tn1348_ (); have t_n3 : (nI T).toInt = (T : Int) := tn1340_ (); have t_n4 : (nI nsp).toInt = (nsp : Int) := tn1349_ (); have t_n5 : (nI nhe).toInt = (nhe : Int) := tn1350_ (); have t_n6 : (nI S).toInt = (S : Int) := tn1341_ (); have t_n7 : (nI M).toInt = (M : Int) := tn1342_ (); have z0 : (0 : Int32).toInt = 0 := qI_0; have z1 : (1 : Int32).toInt = 1 := qI_1; have z2 : (2 : Int32).toInt = 2 := qI_2; have z3 : (3 : Int32).toInt = 3 := qI_3; have z5 : (5 : Int32).toInt = 5 := qI_5; have z9 : (9 : Int32).toInt = 9 := qI_9; omega))] | rw [if_neg (by (have t_n47 := n47; have t_w49 := w49.1; have t_n0 : (nI N).toInt = (N : Int) := tn1338_ (); have t_n1 : (nI B).toInt = (B : Int) := tn1339_ (); have t_n2 : (nI nrb).toInt = (nrb : Int) := tn1348_ (); have t_n3 : (nI T).toInt = (T : Int) := tn1340_ (); have t_n4 : (nI nsp).toInt = (nsp : Int) := tn1349_ (); have t_n5 : (nI nhe).toInt = (nhe : Int) := tn1350_ (); have t_n6 : (nI S).toInt = (S : Int) := tn1341_ (); have t_n7 : (nI M).toInt = (M : Int) := tn1342_ (); have z0 : (0 : Int32).toInt = 0 := qI_0; have z1 : (1 : Int32).toInt = 1 := qI_1; have z2 : (2 : Int32).toInt = 2 := qI_2; have z3 : (3 : Int32).toInt = 3 := qI_3; have z5 : (5 : Int32).toInt = 5 := qI_5; have z9 : (9 : Int32).toInt = 9 := qI_9; omega))] | rw [if_pos (by decide)] | rw [if_neg (by decide)]))); all_goals rfl)⟩, ⟨by rw [ht]; exact hP9, hD9⟩⟩, hS.F ht⟩) hS.2.2 dX11_readBearer_16
