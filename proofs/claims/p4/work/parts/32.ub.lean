set_option maxHeartbeats 1000000 in
set_option maxRecDepth 100000 in
theorem c_X11_learnE (l : Launch) (dC : Nat → ClassId) (dI : Nat → Nat → Nat) (G : Nat → ClassId) (sz : Nat) (h0 st N B rp tp T cu lt od th be ln S ma M ah bh ik la lg ce : Nat) (i g k hm vrs vrb vhs vca vxs vxb vfa vbr vba vsp vhe vtk vva vto : Int32) (fln : Nat → Int32) (hN : N ≤ 10) (hB : B ≤ 6) (hT : T ≤ 320) (hS0 : S ≤ 8) (hM : M ≤ 6) (hln : OKL fln) : Met l yX11_learn (Cond.code yX11_learn cX11_learn 6 (some .int) :: GT) ({ frames := 3, cells := 0, slots := 0, locals := 69 } : Room) (PcW [.ref h0, .int i, .int g, .int k, .int hm] dC dI G [(h0, .inr (11, [.ref st, .int (nI N), .int (nI B), .ref rp, .int vrs, .int vrb, .int vhs, .int vca, .int vxs, .int vxb, .ref tp, .int (nI T), .int vfa, .int vbr, .int vba, .int vsp, .int vhe, .int vtk, .int vva, .ref cu, .ref lt, .ref od, .ref th, .ref be, .ref ln, .int (nI S), .ref ma, .int (nI M), .ref ah, .ref bh, .ref ik, .ref la, .ref lg, .ref ce, .int vto])), (ln, .inl (G 0, 32, .inl fln))] sz) (va_Qi (fun (r : Int32) (u : Nat × (Nat → Int32)) => match u with | (oS, oln) => (r = if ((0 ≤ i.toInt ∧ i.toInt < ((N : Nat) : Int)) ∧ (g.toInt = -4 ∨ (0 ≤ g.toInt ∧ g.toInt < ((B : Nat) : Int))) ∧ (0 ≤ k.toInt ∧ k.toInt < ((B : Nat) : Int)) ∧ 0 ≤ hm.toInt ∧ hm.toInt ≤ 20) then (if S < 8 then nI (S + 1) else -3) else -1) ∧ (oS ≤ 8 ∧ OKL oln) ∧ oS = (if ((0 ≤ i.toInt ∧ i.toInt < ((N : Nat) : Int)) ∧ (g.toInt = -4 ∨ (0 ≤ g.toInt ∧ g.toInt < ((B : Nat) : Int))) ∧ (0 ≤ k.toInt ∧ k.toInt < ((B : Nat) : Int)) ∧ 0 ≤ hm.toInt ∧ hm.toInt ≤ 20) ∧ S < 8 then S + 1 else S)) (fun (u : Nat × (Nat → Int32)) (t : State) => match u with | (oS, oln) => va_P (dC, dI) vwCl [(h0, .inr (11, [.ref st, .int (nI N), .int (nI B), .ref rp, .int vrs, .int vrb, .int vhs, .int vca, .int vxs, .int vxb, .ref tp, .int (nI T), .int vfa, .int vbr, .int vba, .int vsp, .int vhe, .int vtk, .int vva, .ref cu, .ref lt, .ref od, .ref th, .ref be, .ref ln, .int (nI oS), .ref ma, .int (nI M), .ref ah, .ref bh, .ref ik, .ref la, .ref lg, .ref ce, .int vto])), (ln, .inl (G 0, 32, .inl oln))] t.heap ∧ va_D (va_A [(h0, .inr (11, [.ref st, .int (nI N), .int (nI B), .ref rp, .int vrs, .int vrb, .int vhs, .int vca, .int vxs, .int vxb, .ref tp, .int (nI T), .int vfa, .int vbr, .int vba, .int vsp, .int vhe, .int vtk, .int vva, .ref cu, .ref lt, .ref od, .ref th, .ref be, .ref ln, .int (nI S), .ref ma, .int (nI M), .ref ah, .ref bh, .ref ik, .ref la, .ref lg, .ref ce, .int vto])), (ln, .inl (G 0, 32, .inl fln))] sz) [(h0, .inr (11, [.ref st, .int (nI N), .int (nI B), .ref rp, .int vrs, .int vrb, .int vhs, .int vca, .int vxs, .int vxb, .ref tp, .int (nI T), .int vfa, .int vbr, .int vba, .int vsp, .int vhe, .int vtk, .int vva, .ref cu, .ref lt, .ref od, .ref th, .ref be, .ref ln, .int (nI oS), .ref ma, .int (nI M), .ref ah, .ref bh, .ref ik, .ref la, .ref lg, .ref ce, .int vto])), (ln, .inl (G 0, 32, .inl oln))]) (va_A [(h0, .inr (11, [.ref st, .int (nI N), .int (nI B), .ref rp, .int vrs, .int vrb, .int vhs, .int vca, .int vxs, .int vxb, .ref tp, .int (nI T), .int vfa, .int vbr, .int vba, .int vsp, .int vhe, .int vtk, .int vva, .ref cu, .ref lt, .ref od, .ref th, .ref be, .ref ln, .int (nI S), .ref ma, .int (nI M), .ref ah, .ref bh, .ref ik, .ref la, .ref lg, .ref ce, .int vto])), (ln, .inl (G 0, 32, .inl fln))] sz)) 0 0 (va_A [(h0, .inr (11, [.ref st, .int (nI N), .int (nI B), .ref rp, .int vrs, .int vrb, .int vhs, .int vca, .int vxs, .int vxb, .ref tp, .int (nI T), .int vfa, .int vbr, .int vba, .int vsp, .int vhe, .int vtk, .int vva, .ref cu, .ref lt, .ref od, .ref th, .ref be, .ref ln, .int (nI S), .ref ma, .int (nI M), .ref ah, .ref bh, .ref ik, .ref la, .ref lg, .ref ce, .int vto])), (ln, .inl (G 0, 32, .inl fln))] sz) := by
  refine Met.ofW (cc := cX11_learn) (maxL := 6) (ret := (some .int)) (by decide) rfl ?_
  intro p e s m args below meth c s₁ Bd hml hv
  obtain ⟨rfl, hsz, hP, hK, hD0⟩ := hv
  have hx := Bd.exec
  have hb := Bd.bytes
  have hr := Bd.returns
  have hg : ∀ w ∈ GT, w.before ([.ref h0, .int i, .int g, .int k, .int hm] : List Value).toArray s = true := fun w h => atoms_spec (ws := Cond.code yX11_learn cX11_learn 6 (some .int) :: GT) Bd.pre w (List.mem_cons_of_mem _ h)
  have hown : s.vm.findClass RX11 = some m.cls := findClass_of_methodNamed Bd.named
  have hlocks := Bd.notSynchronized
  subst hsz
  have hD := hD0.self (sz := s.heap.size)
  generalize hAe : va_A [(h0, .inr (11, [.ref st, .int (nI N), .int (nI B), .ref rp, .int vrs, .int vrb, .int vhs, .int vca, .int vxs, .int vxb, .ref tp, .int (nI T), .int vfa, .int vbr, .int vba, .int vsp, .int vhe, .int vtk, .int vva, .ref cu, .ref lt, .ref od, .ref th, .ref be, .ref ln, .int (nI S), .ref ma, .int (nI M), .ref ah, .ref bh, .ref ik, .ref la, .ref lg, .ref ce, .int vto])), (ln, .inl (G 0, 32, .inl fln))] s.heap.size = A at hD ⊢
  have hA : ∀ q : Nat, s.heap.size ≤ q → A q := fun q h => by rw [← hAe]; exact Or.inr h
  have hS : va_S A s.heap s.heap [] := va_S.rf
  have hl := lv_entry ([.ref h0, .int i, .int g, .int k, .int hm]) (n := 6) (Nat.le_of_ble_eq_true rfl)
  rw [lg_entry_eq]
  generalize (lg_sl ([.ref h0, .int i, .int g, .int k, .int hm]) ++ List.replicate (6 - (lg_sl ([.ref h0, .int i, .int g, .int k, .int hm])).length) Slot.unset).toArray = ls at hl ⊢
  have hl : lv_has ls 6 [(0, .ref h0), (1, .int i), (2, .int g), (3, .int k), (4, .int hm)] := hl
  refine lv_aload_n hx hb dX11_learn_0 rfl (lv_at hl 0 rfl) ?_
  refine lv_iload_n hx hb dX11_learn_1 rfl (lv_at hl 1 rfl) ?_
  refine lv_iload_n hx hb dX11_learn_2 rfl (lv_at hl 2 rfl) ?_
  refine lv_iload_n hx hb dX11_learn_3 rfl (lv_at hl 3 rfl) ?_
  have hPc := hP.sub (ws' := [(h0, .inr (11, [.ref st, .int (nI N), .int (nI B), .ref rp, .int vrs, .int vrb, .int vhs, .int vca, .int vxs, .int vxb, .ref tp, .int (nI T), .int vfa, .int vbr, .int vba, .int vsp, .int vhe, .int vtk, .int vva, .ref cu, .ref lt, .ref od, .ref th, .ref be, .ref ln, .int (nI S), .ref ma, .int (nI M), .ref ah, .ref bh, .ref ik, .ref la, .ref lg, .ref ce, .int vto]))]) [0] rfl
  refine va_calli (va_runV (As := [.int i, .int g, .int k]) (rest := []) ⟨hx, hb, hml, hown, hg⟩ (c_X11_canHarm l dC dI G _ h0 st N B rp tp T cu lt od th be ln S ma M ah bh ik la lg ce i g k vrs vrb vhs vca vxs vxb vfa vbr vba vsp vhe vtk vva vto (by have t_n0 : (nI N).toInt = (N : Int) := nI_toInt (by omega); have t_n1 : (nI B).toInt = (B : Int) := nI_toInt (by omega); have t_n2 : (nI T).toInt = (T : Int) := nI_toInt (by omega); have t_n3 : (nI S).toInt = (S : Int) := nI_toInt (by omega); have t_n4 : (nI M).toInt = (M : Int) := nI_toInt (by omega); omega) (by have t_n0 : (nI N).toInt = (N : Int) := nI_toInt (by omega); have t_n1 : (nI B).toInt = (B : Int) := nI_toInt (by omega); have t_n2 : (nI T).toInt = (T : Int) := nI_toInt (by omega); have t_n3 : (nI S).toInt = (S : Int) := nI_toInt (by omega); have t_n4 : (nI M).toInt = (M : Int) := nI_toInt (by omega); omega) (by have t_n0 : (nI N).toInt = (N : Int) := nI_toInt (by omega); have t_n1 : (nI B).toInt = (B : Int) := nI_toInt (by omega); have t_n2 : (nI T).toInt = (T : Int) := nI_toInt (by omega); have t_n3 : (nI S).toInt = (S : Int) := nI_toInt (by omega); have t_n4 : (nI M).toInt = (M : Int) := nI_toInt (by omega); omega) (by have t_n0 : (nI N).toInt = (N : Int) := nI_toInt (by omega); have t_n1 : (nI B).toInt = (B : Int) := nI_toInt (by omega); have t_n2 : (nI T).toInt = (T : Int) := nI_toInt (by omega); have t_n3 : (nI S).toInt = (S : Int) := nI_toInt (by omega); have t_n4 : (nI M).toInt = (M : Int) := nI_toInt (by omega); omega) (by have t_n0 : (nI N).toInt = (N : Int) := nI_toInt (by omega); have t_n1 : (nI B).toInt = (B : Int) := nI_toInt (by omega); have t_n2 : (nI T).toInt = (T : Int) := nI_toInt (by omega); have t_n3 : (nI S).toInt = (S : Int) := nI_toInt (by omega); have t_n4 : (nI M).toInt = (M : Int) := nI_toInt (by omega); omega)) (kwV hg mfX11_canHarm wt_1102 ⟨Nat.le_of_ble_eq_true rfl, Nat.le_of_ble_eq_true rfl⟩) (preVR hK hPc (ci := 11) rfl rfl) rfl rfl hl.1 rfl (lv_room (Nat.le_of_ble_eq_true rfl)) dX11_learn_4 ⟨Nat.le_of_ble_eq_true rfl, Nat.le_of_ble_eq_true rfl⟩) hS (fun q h1 h2 => absurd h2 (Nat.not_le.mpr h1)) (fun q h => hA q (Nat.le_trans hS.1 h)) (fun r1 ur1 t H1 locs ht hvm w2 hB hz1 hk1 hS => ?_)
  have hP := keepR hP hk1
  obtain ⟨w2, w2x⟩ := w2
  try simp only [l_ii] at w2
  subst w2
  refine lv_if_eq (tgt := 23) hx hb dX11_learn_7 (by decide) (fun c3 => ?_) (fun c3 => ?_)
  · skip
    have b4 := if10_n c3
    refine lv_iconst (v := (-1)) hx hb dX11_learn_23 (by decide) ?_
    have hpost : ((-1) : Int32) = if ((0 ≤ i.toInt ∧ i.toInt < ((N : Nat) : Int)) ∧ (g.toInt = -4 ∨ (0 ≤ g.toInt ∧ g.toInt < ((B : Nat) : Int))) ∧ (0 ≤ k.toInt ∧ k.toInt < ((B : Nat) : Int)) ∧ 0 ≤ hm.toInt ∧ hm.toInt ≤ 20) then (if S < 8 then nI (S + 1) else -3) else -1 := by
      have t_b4 := b4
      have t_n0 : (nI N).toInt = (N : Int) := nI_toInt (by omega)
      have t_n1 : (nI B).toInt = (B : Int) := nI_toInt (by omega)
      have t_n2 : (nI T).toInt = (T : Int) := nI_toInt (by omega)
      have t_n3 : (nI S).toInt = (S : Int) := nI_toInt (by omega)
      have t_n4 : (nI M).toInt = (M : Int) := nI_toInt (by omega)
      have z0 : (0 : Int32).toInt = 0 := (by decide)
      have z1 : (1 : Int32).toInt = 1 := (by decide)
      have z2 : (2 : Int32).toInt = 2 := (by decide)
      have z3 : (3 : Int32).toInt = 3 := (by decide)
      have z5 : (5 : Int32).toInt = 5 := (by decide)
      have z9 : (9 : Int32).toInt = 9 := (by decide)
      have z20 : (20 : Int32).toInt = 20 := (by decide)
      have z4 : (-4 : Int32).toInt = -4 := (by decide)
      have z10 : (10 : Int32).toInt = 10 := (by decide)
      rw [if_neg (by omega)]
    have hP9 := hP.sub (ws' := [(h0, .inr (11, [.ref st, .int (nI N), .int (nI B), .ref rp, .int vrs, .int vrb, .int vhs, .int vca, .int vxs, .int vxb, .ref tp, .int (nI T), .int vfa, .int vbr, .int vba, .int vsp, .int vhe, .int vtk, .int vva, .ref cu, .ref lt, .ref od, .ref th, .ref be, .ref ln, .int (nI S), .ref ma, .int (nI M), .ref ah, .ref bh, .ref ik, .ref la, .ref lg, .ref ce, .int vto])), (ln, .inl (G 0, 32, .inl fln))]) [0, 1] rfl
    have hD9 := hD.sub (ws' := [(h0, .inr (11, [.ref st, .int (nI N), .int (nI B), .ref rp, .int vrs, .int vrb, .int vhs, .int vca, .int vxs, .int vxb, .ref tp, .int (nI T), .int vfa, .int vbr, .int vba, .int vsp, .int vhe, .int vtk, .int vva, .ref cu, .ref lt, .ref od, .ref th, .ref be, .ref ln, .int (nI S), .ref ma, .int (nI M), .ref ah, .ref bh, .ref ik, .ref la, .ref lg, .ref ce, .int vto])), (ln, .inl (G 0, 32, .inl fln))]) [0, 1] (by decide) rfl
    refine W.widen (k := 0) (n := 0) (by omega) (by omega) ?_
    exact W.iret (v := (-1)) hx hb hr (fun t ht hW => ⟨⟨(-1), (S, fln), rfl, ⟨hpost, ⟨⟨(by have t_b4 := b4; have t_n0 : (nI N).toInt = (N : Int) := nI_toInt (by omega); have t_n1 : (nI B).toInt = (B : Int) := nI_toInt (by omega); have t_n2 : (nI T).toInt = (T : Int) := nI_toInt (by omega); have t_n3 : (nI S).toInt = (S : Int) := nI_toInt (by omega); have t_n4 : (nI M).toInt = (M : Int) := nI_toInt (by omega); omega), hln⟩, (by have t_b4 := b4; have t_n0 : (nI N).toInt = (N : Int) := nI_toInt (by omega); have t_n1 : (nI B).toInt = (B : Int) := nI_toInt (by omega); have t_n2 : (nI T).toInt = (T : Int) := nI_toInt (by omega); have t_n3 : (nI S).toInt = (S : Int) := nI_toInt (by omega); have t_n4 : (nI M).toInt = (M : Int) := nI_toInt (by omega); have z0 : (0 : Int32).toInt = 0 := (by decide); have z1 : (1 : Int32).toInt = 1 := (by decide); have z2 : (2 : Int32).toInt = 2 := (by decide); have z3 : (3 : Int32).toInt = 3 := (by decide); have z5 : (5 : Int32).toInt = 5 := (by decide); have z9 : (9 : Int32).toInt = 9 := (by decide); have z20 : (20 : Int32).toInt = 20 := (by decide); have z4 : (-4 : Int32).toInt = -4 := (by decide); have z10 : (10 : Int32).toInt = 10 := (by decide); first | (rw [if_neg (by omega)]; done) | (rw [if_pos ⟨by omega, by omega⟩]; done))⟩⟩, ⟨by rw [ht]; exact hP9, hD9⟩⟩, hS.F ht⟩) hS.2.2 dX11_learn_24
  · skip
    have b5 := if10_p c3
    refine lv_iload hx hb dX11_learn_10 (lv_at hl 4 rfl) ?_
    refine lv_i2l (v := hm.toInt64) hx hb dX11_learn_12 rfl ?_
    refine lv_lconst (v := 0) hx hb dX11_learn_13 (by decide) ?_
    refine lv_ldc2 (v := 20) hx hb hown (hg _ wt_1127) dX11_learn_14 ?_
    have hPc := hP.sub (ws' := []) [] rfl
    refine va_calli (va_runS (As := [.long hm.toInt64, .long 0, .long 20]) (rest := []) ⟨hx, hb, hml, hown, hg⟩ (c_X11_in l dC dI G _ hm.toInt64 0 20 ) (kwS hg mfX11_in wt_992 ⟨Nat.le_of_ble_eq_true rfl, Nat.le_of_ble_eq_true rfl⟩) (preSR hK hPc) rfl rfl hl.1 rfl (lv_room (Nat.le_of_ble_eq_true rfl)) dX11_learn_17 ⟨Nat.le_of_ble_eq_true rfl, Nat.le_of_ble_eq_true rfl⟩) hS (fun q h1 h2 => absurd h2 (Nat.not_le.mpr h1)) (fun q h => hA q (Nat.le_trans hS.1 h)) (fun r6 ur6 t H1 locs ht hvm w7 hB hz1 hk1 hS => ?_)
    have hP := keepR hP hk1
    obtain ⟨w7, w7x⟩ := w7
    try simp only [l_ii, show (0 : Int64).toInt = 0 from by decide, show (20 : Int64).toInt = 20 from by decide] at w7
    subst w7
    refine lv_if_ne (tgt := 25) hx hb dX11_learn_20 (by decide) (fun c8 => ?_) (fun c8 => ?_)
    · skip
      have b9 := if10_p c8
      refine lv_aload_n hx hb dX11_learn_25 rfl (lv_at hl 0 rfl) ?_
      refine va_get (D := (dC, dI)) (ci := 11) (v := .int (nI S)) (C := RX11) (T := TX11) (N := 35) hx hb hg inG11 hown hK.1 hP 0 rfl rfl 25 (by decide) (hg _ wt_903) (fun _ h9 => h9) rfl dX11_learn_26 ?_
      refine lv_bipush (v := 8) hx hb dX11_learn_29 (by decide) ?_
      refine lv_icmp_ne (tgt := 37) hx hb dX11_learn_31 (by decide) (fun c10 => ?_) (fun c10 => ?_)
      · skip
        have n11 : S ≠ 8 := by have t := neI c10; rw [nI_toInt (n := S) (by omega)] at t; have : (8 : Int32).toInt = 8 := (by decide); omega
        refine lv_iconst (v := 4) hx hb dX11_learn_37 (by decide) ?_
        refine lv_aload_n hx hb dX11_learn_38 rfl (lv_at hl 0 rfl) ?_
        refine va_get (D := (dC, dI)) (ci := 11) (v := .int (nI S)) (C := RX11) (T := TX11) (N := 35) hx hb hg inG11 hown hK.1 hP 0 rfl rfl 25 (by decide) (hg _ wt_903) (fun _ h9 => h9) rfl dX11_learn_39 ?_
        refine lv_imul hx hb dX11_learn_42 ?_
        refine lv_cg (y := nI (4 * S)) (by rw [show (4 : Int32) = nI 4 from rfl]; exact pk_mul _ _) ?_
        refine lv_istore (lv' := [(5, .int (nI (4 * S))), (0, .ref h0), (1, .int i), (2, .int g), (3, .int k), (4, .int hm)]) hx hb dX11_learn_43 hl (by decide) rfl (fun ls hl => ?_)
        refine lv_aload_n hx hb dX11_learn_45 rfl (lv_at hl 1 rfl) ?_
        refine va_get (D := (dC, dI)) (ci := 11) (v := .ref ln) (C := RX11) (T := TX11) (N := 35) hx hb hg inG11 hown hK.1 hP 0 rfl rfl 24 (by decide) (hg _ wt_902) (fun _ h9 => h9) rfl dX11_learn_46 ?_
        refine lv_iload hx hb dX11_learn_49 (lv_at hl 0 rfl) ?_
        refine lv_iload_n hx hb dX11_learn_51 rfl (lv_at hl 2 rfl) ?_
        refine va_iast hx hb hK.1 hP hD hS 1 0 rfl rfl (vp_in_nI (by have t_b5 := b5; have t_b9 := b9; have t_n11 := n11; have t_n0 : (nI N).toInt = (N : Int) := nI_toInt (by omega); have t_n1 : (nI B).toInt = (B : Int) := nI_toInt (by omega); have t_n2 : (nI T).toInt = (T : Int) := nI_toInt (by omega); have t_n3 : (nI S).toInt = (S : Int) := nI_toInt (by omega); have t_n4 : (nI M).toInt = (M : Int) := nI_toInt (by omega); omega) (by decide)) dX11_learn_52 (fun H locs hP hD hS => ?_)
        rw [nI_clamp (by omega)] at hP hD
        have hP : va_P (dC, dI) vwCl [(h0, .inr (11, [.ref st, .int (nI N), .int (nI B), .ref rp, .int vrs, .int vrb, .int vhs, .int vca, .int vxs, .int vxb, .ref tp, .int (nI T), .int vfa, .int vbr, .int vba, .int vsp, .int vhe, .int vtk, .int vva, .ref cu, .ref lt, .ref od, .ref th, .ref be, .ref ln, .int (nI S), .ref ma, .int (nI M), .ref ah, .ref bh, .ref ik, .ref la, .ref lg, .ref ce, .int vto])), (ln, .inl (G 0, 32, .inl (upd fln (4 * S) i)))] H := hP
        have hD : va_D A [(h0, .inr (11, [.ref st, .int (nI N), .int (nI B), .ref rp, .int vrs, .int vrb, .int vhs, .int vca, .int vxs, .int vxb, .ref tp, .int (nI T), .int vfa, .int vbr, .int vba, .int vsp, .int vhe, .int vtk, .int vva, .ref cu, .ref lt, .ref od, .ref th, .ref be, .ref ln, .int (nI S), .ref ma, .int (nI M), .ref ah, .ref bh, .ref ik, .ref la, .ref lg, .ref ce, .int vto])), (ln, .inl (G 0, 32, .inl (upd fln (4 * S) i)))] := hD
        refine lv_aload_n hx hb dX11_learn_53 rfl (lv_at hl 1 rfl) ?_
        refine va_get (D := (dC, dI)) (ci := 11) (v := .ref ln) (C := RX11) (T := TX11) (N := 35) hx hb hg inG11 hown hK.1 hP 0 rfl rfl 24 (by decide) (hg _ wt_902) (fun _ h9 => h9) rfl dX11_learn_54 ?_
        refine lv_iload hx hb dX11_learn_57 (lv_at hl 0 rfl) ?_
        refine lv_iconst (v := 1) hx hb dX11_learn_59 (by decide) ?_
        refine lv_iadd hx hb dX11_learn_60 ?_
        refine lv_cg (y := nI ((4 * S) + 1)) (by rw [show (1 : Int32) = nI 1 from rfl]; exact nI_add _ _) ?_
        refine lv_iload_n hx hb dX11_learn_61 rfl (lv_at hl 3 rfl) ?_
        refine va_iast hx hb hK.1 hP hD hS 1 0 rfl rfl (vp_in_nI (by have t_b5 := b5; have t_b9 := b9; have t_n11 := n11; have t_n0 : (nI N).toInt = (N : Int) := nI_toInt (by omega); have t_n1 : (nI B).toInt = (B : Int) := nI_toInt (by omega); have t_n2 : (nI T).toInt = (T : Int) := nI_toInt (by omega); have t_n3 : (nI S).toInt = (S : Int) := nI_toInt (by omega); have t_n4 : (nI M).toInt = (M : Int) := nI_toInt (by omega); omega) (by decide)) dX11_learn_62 (fun H locs hP hD hS => ?_)
        rw [nI_clamp (by omega)] at hP hD
        have hP : va_P (dC, dI) vwCl [(h0, .inr (11, [.ref st, .int (nI N), .int (nI B), .ref rp, .int vrs, .int vrb, .int vhs, .int vca, .int vxs, .int vxb, .ref tp, .int (nI T), .int vfa, .int vbr, .int vba, .int vsp, .int vhe, .int vtk, .int vva, .ref cu, .ref lt, .ref od, .ref th, .ref be, .ref ln, .int (nI S), .ref ma, .int (nI M), .ref ah, .ref bh, .ref ik, .ref la, .ref lg, .ref ce, .int vto])), (ln, .inl (G 0, 32, .inl (upd (upd fln (4 * S) i) ((4 * S) + 1) g)))] H := hP
        have hD : va_D A [(h0, .inr (11, [.ref st, .int (nI N), .int (nI B), .ref rp, .int vrs, .int vrb, .int vhs, .int vca, .int vxs, .int vxb, .ref tp, .int (nI T), .int vfa, .int vbr, .int vba, .int vsp, .int vhe, .int vtk, .int vva, .ref cu, .ref lt, .ref od, .ref th, .ref be, .ref ln, .int (nI S), .ref ma, .int (nI M), .ref ah, .ref bh, .ref ik, .ref la, .ref lg, .ref ce, .int vto])), (ln, .inl (G 0, 32, .inl (upd (upd fln (4 * S) i) ((4 * S) + 1) g)))] := hD
        refine lv_aload_n hx hb dX11_learn_63 rfl (lv_at hl 1 rfl) ?_
        refine va_get (D := (dC, dI)) (ci := 11) (v := .ref ln) (C := RX11) (T := TX11) (N := 35) hx hb hg inG11 hown hK.1 hP 0 rfl rfl 24 (by decide) (hg _ wt_902) (fun _ h9 => h9) rfl dX11_learn_64 ?_
        refine lv_iload hx hb dX11_learn_67 (lv_at hl 0 rfl) ?_
        refine lv_iconst (v := 2) hx hb dX11_learn_69 (by decide) ?_
        refine lv_iadd hx hb dX11_learn_70 ?_
        refine lv_cg (y := nI ((4 * S) + 2)) (by rw [show (2 : Int32) = nI 2 from rfl]; exact nI_add _ _) ?_
        refine lv_iload_n hx hb dX11_learn_71 rfl (lv_at hl 4 rfl) ?_
        refine va_iast hx hb hK.1 hP hD hS 1 0 rfl rfl (vp_in_nI (by have t_b5 := b5; have t_b9 := b9; have t_n11 := n11; have t_n0 : (nI N).toInt = (N : Int) := nI_toInt (by omega); have t_n1 : (nI B).toInt = (B : Int) := nI_toInt (by omega); have t_n2 : (nI T).toInt = (T : Int) := nI_toInt (by omega); have t_n3 : (nI S).toInt = (S : Int) := nI_toInt (by omega); have t_n4 : (nI M).toInt = (M : Int) := nI_toInt (by omega); omega) (by decide)) dX11_learn_72 (fun H locs hP hD hS => ?_)
        rw [nI_clamp (by omega)] at hP hD
        have hP : va_P (dC, dI) vwCl [(h0, .inr (11, [.ref st, .int (nI N), .int (nI B), .ref rp, .int vrs, .int vrb, .int vhs, .int vca, .int vxs, .int vxb, .ref tp, .int (nI T), .int vfa, .int vbr, .int vba, .int vsp, .int vhe, .int vtk, .int vva, .ref cu, .ref lt, .ref od, .ref th, .ref be, .ref ln, .int (nI S), .ref ma, .int (nI M), .ref ah, .ref bh, .ref ik, .ref la, .ref lg, .ref ce, .int vto])), (ln, .inl (G 0, 32, .inl (upd (upd (upd fln (4 * S) i) ((4 * S) + 1) g) ((4 * S) + 2) k)))] H := hP
        have hD : va_D A [(h0, .inr (11, [.ref st, .int (nI N), .int (nI B), .ref rp, .int vrs, .int vrb, .int vhs, .int vca, .int vxs, .int vxb, .ref tp, .int (nI T), .int vfa, .int vbr, .int vba, .int vsp, .int vhe, .int vtk, .int vva, .ref cu, .ref lt, .ref od, .ref th, .ref be, .ref ln, .int (nI S), .ref ma, .int (nI M), .ref ah, .ref bh, .ref ik, .ref la, .ref lg, .ref ce, .int vto])), (ln, .inl (G 0, 32, .inl (upd (upd (upd fln (4 * S) i) ((4 * S) + 1) g) ((4 * S) + 2) k)))] := hD
        refine lv_aload_n hx hb dX11_learn_73 rfl (lv_at hl 1 rfl) ?_
        refine va_get (D := (dC, dI)) (ci := 11) (v := .ref ln) (C := RX11) (T := TX11) (N := 35) hx hb hg inG11 hown hK.1 hP 0 rfl rfl 24 (by decide) (hg _ wt_902) (fun _ h9 => h9) rfl dX11_learn_74 ?_
        refine lv_iload hx hb dX11_learn_77 (lv_at hl 0 rfl) ?_
        refine lv_iconst (v := 3) hx hb dX11_learn_79 (by decide) ?_
        refine lv_iadd hx hb dX11_learn_80 ?_
        refine lv_cg (y := nI ((4 * S) + 3)) (by rw [show (3 : Int32) = nI 3 from rfl]; exact nI_add _ _) ?_
        refine lv_iload hx hb dX11_learn_81 (lv_at hl 5 rfl) ?_
        refine va_iast hx hb hK.1 hP hD hS 1 0 rfl rfl (vp_in_nI (by have t_b5 := b5; have t_b9 := b9; have t_n11 := n11; have t_n0 : (nI N).toInt = (N : Int) := nI_toInt (by omega); have t_n1 : (nI B).toInt = (B : Int) := nI_toInt (by omega); have t_n2 : (nI T).toInt = (T : Int) := nI_toInt (by omega); have t_n3 : (nI S).toInt = (S : Int) := nI_toInt (by omega); have t_n4 : (nI M).toInt = (M : Int) := nI_toInt (by omega); omega) (by decide)) dX11_learn_83 (fun H locs hP hD hS => ?_)
        rw [nI_clamp (by omega)] at hP hD
        have hP : va_P (dC, dI) vwCl [(h0, .inr (11, [.ref st, .int (nI N), .int (nI B), .ref rp, .int vrs, .int vrb, .int vhs, .int vca, .int vxs, .int vxb, .ref tp, .int (nI T), .int vfa, .int vbr, .int vba, .int vsp, .int vhe, .int vtk, .int vva, .ref cu, .ref lt, .ref od, .ref th, .ref be, .ref ln, .int (nI S), .ref ma, .int (nI M), .ref ah, .ref bh, .ref ik, .ref la, .ref lg, .ref ce, .int vto])), (ln, .inl (G 0, 32, .inl (upd (upd (upd (upd fln (4 * S) i) ((4 * S) + 1) g) ((4 * S) + 2) k) ((4 * S) + 3) hm)))] H := hP
        have hD : va_D A [(h0, .inr (11, [.ref st, .int (nI N), .int (nI B), .ref rp, .int vrs, .int vrb, .int vhs, .int vca, .int vxs, .int vxb, .ref tp, .int (nI T), .int vfa, .int vbr, .int vba, .int vsp, .int vhe, .int vtk, .int vva, .ref cu, .ref lt, .ref od, .ref th, .ref be, .ref ln, .int (nI S), .ref ma, .int (nI M), .ref ah, .ref bh, .ref ik, .ref la, .ref lg, .ref ce, .int vto])), (ln, .inl (G 0, 32, .inl (upd (upd (upd (upd fln (4 * S) i) ((4 * S) + 1) g) ((4 * S) + 2) k) ((4 * S) + 3) hm)))] := hD
        refine lv_aload_n hx hb dX11_learn_84 rfl (lv_at hl 1 rfl) ?_
        refine lv_dup hx hb dX11_learn_85 rfl ?_
        refine va_get (D := (dC, dI)) (ci := 11) (v := .int (nI S)) (C := RX11) (T := TX11) (N := 35) hx hb hg inG11 hown hK.1 hP 0 rfl rfl 25 (by decide) (hg _ wt_903) (fun _ h9 => h9) rfl dX11_learn_86 ?_
        refine lv_iconst (v := 1) hx hb dX11_learn_89 (by decide) ?_
        refine lv_iadd hx hb dX11_learn_90 ?_
        refine lv_cg (y := nI (S + 1)) (by rw [show (1 : Int32) = nI 1 from rfl]; exact nI_add _ _) ?_
        refine va_put (D := (dC, dI)) (ci := 11) (v := .int (nI (S + 1))) (ty := .int) (C := RX11) (T := TX11) (N := 35) hx hb hg inG11 tyX11 tyX11_ok nmX11 hown hK.1 hP hD hS 0 rfl rfl 25 (by decide) (hg _ wt_903) (fun _ h9 => h9) rfl (by decide +kernel) rfl rfl (Nat.le_of_ble_eq_true rfl) dX11_learn_91 (fun H locs hP hD hS => ?_)
        have hP : va_P (dC, dI) vwCl [(h0, .inr (11, [.ref st, .int (nI N), .int (nI B), .ref rp, .int vrs, .int vrb, .int vhs, .int vca, .int vxs, .int vxb, .ref tp, .int (nI T), .int vfa, .int vbr, .int vba, .int vsp, .int vhe, .int vtk, .int vva, .ref cu, .ref lt, .ref od, .ref th, .ref be, .ref ln, .int (nI (S + 1)), .ref ma, .int (nI M), .ref ah, .ref bh, .ref ik, .ref la, .ref lg, .ref ce, .int vto])), (ln, .inl (G 0, 32, .inl (upd (upd (upd (upd fln (4 * S) i) ((4 * S) + 1) g) ((4 * S) + 2) k) ((4 * S) + 3) hm)))] H := hP
        have hD : va_D A [(h0, .inr (11, [.ref st, .int (nI N), .int (nI B), .ref rp, .int vrs, .int vrb, .int vhs, .int vca, .int vxs, .int vxb, .ref tp, .int (nI T), .int vfa, .int vbr, .int vba, .int vsp, .int vhe, .int vtk, .int vva, .ref cu, .ref lt, .ref od, .ref th, .ref be, .ref ln, .int (nI (S + 1)), .ref ma, .int (nI M), .ref ah, .ref bh, .ref ik, .ref la, .ref lg, .ref ce, .int vto])), (ln, .inl (G 0, 32, .inl (upd (upd (upd (upd fln (4 * S) i) ((4 * S) + 1) g) ((4 * S) + 2) k) ((4 * S) + 3) hm)))] := hD
        refine lv_aload_n hx hb dX11_learn_94 rfl (lv_at hl 1 rfl) ?_
        refine va_get (D := (dC, dI)) (ci := 11) (v := .int (nI (S + 1))) (C := RX11) (T := TX11) (N := 35) hx hb hg inG11 hown hK.1 hP 0 rfl rfl 25 (by decide) (hg _ wt_903) (fun _ h9 => h9) rfl dX11_learn_95 ?_
        have hpost : (nI (S + 1) : Int32) = if ((0 ≤ i.toInt ∧ i.toInt < ((N : Nat) : Int)) ∧ (g.toInt = -4 ∨ (0 ≤ g.toInt ∧ g.toInt < ((B : Nat) : Int))) ∧ (0 ≤ k.toInt ∧ k.toInt < ((B : Nat) : Int)) ∧ 0 ≤ hm.toInt ∧ hm.toInt ≤ 20) then (if S < 8 then nI (S + 1) else -3) else -1 := by
          have t_b5 := b5
          have t_b9 := b9
          have t_n11 := n11
          have t_n0 : (nI N).toInt = (N : Int) := nI_toInt (by omega)
          have t_n1 : (nI B).toInt = (B : Int) := nI_toInt (by omega)
          have t_n2 : (nI T).toInt = (T : Int) := nI_toInt (by omega)
          have t_n3 : (nI S).toInt = (S : Int) := nI_toInt (by omega)
          have t_n4 : (nI M).toInt = (M : Int) := nI_toInt (by omega)
          have z0 : (0 : Int32).toInt = 0 := (by decide)
          have z1 : (1 : Int32).toInt = 1 := (by decide)
          have z2 : (2 : Int32).toInt = 2 := (by decide)
          have z3 : (3 : Int32).toInt = 3 := (by decide)
          have z5 : (5 : Int32).toInt = 5 := (by decide)
          have z9 : (9 : Int32).toInt = 9 := (by decide)
          have z20 : (20 : Int32).toInt = 20 := (by decide)
          have z4 : (-4 : Int32).toInt = -4 := (by decide)
          have z10 : (10 : Int32).toInt = 10 := (by decide)
          rw [if_pos (by omega), if_pos (by omega)]
        have hP9 := hP.sub (ws' := [(h0, .inr (11, [.ref st, .int (nI N), .int (nI B), .ref rp, .int vrs, .int vrb, .int vhs, .int vca, .int vxs, .int vxb, .ref tp, .int (nI T), .int vfa, .int vbr, .int vba, .int vsp, .int vhe, .int vtk, .int vva, .ref cu, .ref lt, .ref od, .ref th, .ref be, .ref ln, .int (nI (S + 1)), .ref ma, .int (nI M), .ref ah, .ref bh, .ref ik, .ref la, .ref lg, .ref ce, .int vto])), (ln, .inl (G 0, 32, .inl (upd (upd (upd (upd fln (4 * S) i) ((4 * S) + 1) g) ((4 * S) + 2) k) ((4 * S) + 3) hm)))]) [0, 1] rfl
        have hD9 := hD.sub (ws' := [(h0, .inr (11, [.ref st, .int (nI N), .int (nI B), .ref rp, .int vrs, .int vrb, .int vhs, .int vca, .int vxs, .int vxb, .ref tp, .int (nI T), .int vfa, .int vbr, .int vba, .int vsp, .int vhe, .int vtk, .int vva, .ref cu, .ref lt, .ref od, .ref th, .ref be, .ref ln, .int (nI (S + 1)), .ref ma, .int (nI M), .ref ah, .ref bh, .ref ik, .ref la, .ref lg, .ref ce, .int vto])), (ln, .inl (G 0, 32, .inl (upd (upd (upd (upd fln (4 * S) i) ((4 * S) + 1) g) ((4 * S) + 2) k) ((4 * S) + 3) hm)))]) [0, 1] (by decide) rfl
        refine W.widen (k := 0) (n := 0) (by omega) (by omega) ?_
        exact W.iret (v := nI (S + 1)) hx hb hr (fun t ht hW => ⟨⟨nI (S + 1), ((S + 1), (upd (upd (upd (upd fln (4 * S) i) ((4 * S) + 1) g) ((4 * S) + 2) k) ((4 * S) + 3) hm)), rfl, ⟨hpost, ⟨⟨(by have t_b5 := b5; have t_b9 := b9; have t_n11 := n11; have t_n0 : (nI N).toInt = (N : Int) := nI_toInt (by omega); have t_n1 : (nI B).toInt = (B : Int) := nI_toInt (by omega); have t_n2 : (nI T).toInt = (T : Int) := nI_toInt (by omega); have t_n3 : (nI S).toInt = (S : Int) := nI_toInt (by omega); have t_n4 : (nI M).toInt = (M : Int) := nI_toInt (by omega); omega), OKL.add hln (by have t_b5 := b5; have t_b9 := b9; have t_n11 := n11; have t_n0 : (nI N).toInt = (N : Int) := nI_toInt (by omega); have t_n1 : (nI B).toInt = (B : Int) := nI_toInt (by omega); have t_n2 : (nI T).toInt = (T : Int) := nI_toInt (by omega); have t_n3 : (nI S).toInt = (S : Int) := nI_toInt (by omega); have t_n4 : (nI M).toInt = (M : Int) := nI_toInt (by omega); omega) (by have t_b5 := b5; have t_b9 := b9; have t_n11 := n11; have t_n0 : (nI N).toInt = (N : Int) := nI_toInt (by omega); have t_n1 : (nI B).toInt = (B : Int) := nI_toInt (by omega); have t_n2 : (nI T).toInt = (T : Int) := nI_toInt (by omega); have t_n3 : (nI S).toInt = (S : Int) := nI_toInt (by omega); have t_n4 : (nI M).toInt = (M : Int) := nI_toInt (by omega); rcases (show g.toInt = -4 ∨ (0 ≤ g.toInt ∧ g.toInt < 6) by omega) with h9 | h9; exact Or.inl (m4I h9); exact Or.inr h9) (by have t_b5 := b5; have t_b9 := b9; have t_n11 := n11; have t_n0 : (nI N).toInt = (N : Int) := nI_toInt (by omega); have t_n1 : (nI B).toInt = (B : Int) := nI_toInt (by omega); have t_n2 : (nI T).toInt = (T : Int) := nI_toInt (by omega); have t_n3 : (nI S).toInt = (S : Int) := nI_toInt (by omega); have t_n4 : (nI M).toInt = (M : Int) := nI_toInt (by omega); omega)⟩, (by have t_b5 := b5; have t_b9 := b9; have t_n11 := n11; have t_n0 : (nI N).toInt = (N : Int) := nI_toInt (by omega); have t_n1 : (nI B).toInt = (B : Int) := nI_toInt (by omega); have t_n2 : (nI T).toInt = (T : Int) := nI_toInt (by omega); have t_n3 : (nI S).toInt = (S : Int) := nI_toInt (by omega); have t_n4 : (nI M).toInt = (M : Int) := nI_toInt (by omega); have z0 : (0 : Int32).toInt = 0 := (by decide); have z1 : (1 : Int32).toInt = 1 := (by decide); have z2 : (2 : Int32).toInt = 2 := (by decide); have z3 : (3 : Int32).toInt = 3 := (by decide); have z5 : (5 : Int32).toInt = 5 := (by decide); have z9 : (9 : Int32).toInt = 9 := (by decide); have z20 : (20 : Int32).toInt = 20 := (by decide); have z4 : (-4 : Int32).toInt = -4 := (by decide); have z10 : (10 : Int32).toInt = 10 := (by decide); first | (rw [if_neg (by omega)]; done) | (rw [if_pos ⟨by omega, by omega⟩]; done))⟩⟩, ⟨by rw [ht]; exact hP9, hD9⟩⟩, hS.F ht⟩) hS.2.2 dX11_learn_98
      · skip
        have n12 : S = 8 := by have t := eqI c10; rw [nI_toInt (n := S) (by omega)] at t; have : (8 : Int32).toInt = 8 := (by decide); omega
        refine lv_bipush (v := (-3)) hx hb dX11_learn_34 (by decide) ?_
        have hpost : ((-3) : Int32) = if ((0 ≤ i.toInt ∧ i.toInt < ((N : Nat) : Int)) ∧ (g.toInt = -4 ∨ (0 ≤ g.toInt ∧ g.toInt < ((B : Nat) : Int))) ∧ (0 ≤ k.toInt ∧ k.toInt < ((B : Nat) : Int)) ∧ 0 ≤ hm.toInt ∧ hm.toInt ≤ 20) then (if S < 8 then nI (S + 1) else -3) else -1 := by
          have t_b5 := b5
          have t_b9 := b9
          have t_n12 := n12
          have t_n0 : (nI N).toInt = (N : Int) := nI_toInt (by omega)
          have t_n1 : (nI B).toInt = (B : Int) := nI_toInt (by omega)
          have t_n2 : (nI T).toInt = (T : Int) := nI_toInt (by omega)
          have t_n3 : (nI S).toInt = (S : Int) := nI_toInt (by omega)
          have t_n4 : (nI M).toInt = (M : Int) := nI_toInt (by omega)
          have z0 : (0 : Int32).toInt = 0 := (by decide)
          have z1 : (1 : Int32).toInt = 1 := (by decide)
          have z2 : (2 : Int32).toInt = 2 := (by decide)
          have z3 : (3 : Int32).toInt = 3 := (by decide)
          have z5 : (5 : Int32).toInt = 5 := (by decide)
          have z9 : (9 : Int32).toInt = 9 := (by decide)
          have z20 : (20 : Int32).toInt = 20 := (by decide)
          have z4 : (-4 : Int32).toInt = -4 := (by decide)
          have z10 : (10 : Int32).toInt = 10 := (by decide)
          rw [if_pos (by omega), if_neg (by omega)]
        have hP9 := hP.sub (ws' := [(h0, .inr (11, [.ref st, .int (nI N), .int (nI B), .ref rp, .int vrs, .int vrb, .int vhs, .int vca, .int vxs, .int vxb, .ref tp, .int (nI T), .int vfa, .int vbr, .int vba, .int vsp, .int vhe, .int vtk, .int vva, .ref cu, .ref lt, .ref od, .ref th, .ref be, .ref ln, .int (nI S), .ref ma, .int (nI M), .ref ah, .ref bh, .ref ik, .ref la, .ref lg, .ref ce, .int vto])), (ln, .inl (G 0, 32, .inl fln))]) [0, 1] rfl
        have hD9 := hD.sub (ws' := [(h0, .inr (11, [.ref st, .int (nI N), .int (nI B), .ref rp, .int vrs, .int vrb, .int vhs, .int vca, .int vxs, .int vxb, .ref tp, .int (nI T), .int vfa, .int vbr, .int vba, .int vsp, .int vhe, .int vtk, .int vva, .ref cu, .ref lt, .ref od, .ref th, .ref be, .ref ln, .int (nI S), .ref ma, .int (nI M), .ref ah, .ref bh, .ref ik, .ref la, .ref lg, .ref ce, .int vto])), (ln, .inl (G 0, 32, .inl fln))]) [0, 1] (by decide) rfl
        refine W.widen (k := 0) (n := 0) (by omega) (by omega) ?_
        exact W.iret (v := (-3)) hx hb hr (fun t ht hW => ⟨⟨(-3), (S, fln), rfl, ⟨hpost, ⟨⟨(by have t_b5 := b5; have t_b9 := b9; have t_n12 := n12; have t_n0 : (nI N).toInt = (N : Int) := nI_toInt (by omega); have t_n1 : (nI B).toInt = (B : Int) := nI_toInt (by omega); have t_n2 : (nI T).toInt = (T : Int) := nI_toInt (by omega); have t_n3 : (nI S).toInt = (S : Int) := nI_toInt (by omega); have t_n4 : (nI M).toInt = (M : Int) := nI_toInt (by omega); omega), hln⟩, (by have t_b5 := b5; have t_b9 := b9; have t_n12 := n12; have t_n0 : (nI N).toInt = (N : Int) := nI_toInt (by omega); have t_n1 : (nI B).toInt = (B : Int) := nI_toInt (by omega); have t_n2 : (nI T).toInt = (T : Int) := nI_toInt (by omega); have t_n3 : (nI S).toInt = (S : Int) := nI_toInt (by omega); have t_n4 : (nI M).toInt = (M : Int) := nI_toInt (by omega); have z0 : (0 : Int32).toInt = 0 := (by decide); have z1 : (1 : Int32).toInt = 1 := (by decide); have z2 : (2 : Int32).toInt = 2 := (by decide); have z3 : (3 : Int32).toInt = 3 := (by decide); have z5 : (5 : Int32).toInt = 5 := (by decide); have z9 : (9 : Int32).toInt = 9 := (by decide); have z20 : (20 : Int32).toInt = 20 := (by decide); have z4 : (-4 : Int32).toInt = -4 := (by decide); have z10 : (10 : Int32).toInt = 10 := (by decide); first | (rw [if_neg (by omega)]; done) | (rw [if_pos ⟨by omega, by omega⟩]; done))⟩⟩, ⟨by rw [ht]; exact hP9, hD9⟩⟩, hS.F ht⟩) hS.2.2 dX11_learn_36
    · skip
      have b13 := if10_n c8
      refine lv_iconst (v := (-1)) hx hb dX11_learn_23 (by decide) ?_
      have hpost : ((-1) : Int32) = if ((0 ≤ i.toInt ∧ i.toInt < ((N : Nat) : Int)) ∧ (g.toInt = -4 ∨ (0 ≤ g.toInt ∧ g.toInt < ((B : Nat) : Int))) ∧ (0 ≤ k.toInt ∧ k.toInt < ((B : Nat) : Int)) ∧ 0 ≤ hm.toInt ∧ hm.toInt ≤ 20) then (if S < 8 then nI (S + 1) else -3) else -1 := by
        have t_b5 := b5
        have t_b13 := b13
        have t_n0 : (nI N).toInt = (N : Int) := nI_toInt (by omega)
        have t_n1 : (nI B).toInt = (B : Int) := nI_toInt (by omega)
        have t_n2 : (nI T).toInt = (T : Int) := nI_toInt (by omega)
        have t_n3 : (nI S).toInt = (S : Int) := nI_toInt (by omega)
        have t_n4 : (nI M).toInt = (M : Int) := nI_toInt (by omega)
        have z0 : (0 : Int32).toInt = 0 := (by decide)
        have z1 : (1 : Int32).toInt = 1 := (by decide)
        have z2 : (2 : Int32).toInt = 2 := (by decide)
        have z3 : (3 : Int32).toInt = 3 := (by decide)
        have z5 : (5 : Int32).toInt = 5 := (by decide)
        have z9 : (9 : Int32).toInt = 9 := (by decide)
        have z20 : (20 : Int32).toInt = 20 := (by decide)
        have z4 : (-4 : Int32).toInt = -4 := (by decide)
        have z10 : (10 : Int32).toInt = 10 := (by decide)
        rw [if_neg (by omega)]
      have hP9 := hP.sub (ws' := [(h0, .inr (11, [.ref st, .int (nI N), .int (nI B), .ref rp, .int vrs, .int vrb, .int vhs, .int vca, .int vxs, .int vxb, .ref tp, .int (nI T), .int vfa, .int vbr, .int vba, .int vsp, .int vhe, .int vtk, .int vva, .ref cu, .ref lt, .ref od, .ref th, .ref be, .ref ln, .int (nI S), .ref ma, .int (nI M), .ref ah, .ref bh, .ref ik, .ref la, .ref lg, .ref ce, .int vto])), (ln, .inl (G 0, 32, .inl fln))]) [0, 1] rfl
      have hD9 := hD.sub (ws' := [(h0, .inr (11, [.ref st, .int (nI N), .int (nI B), .ref rp, .int vrs, .int vrb, .int vhs, .int vca, .int vxs, .int vxb, .ref tp, .int (nI T), .int vfa, .int vbr, .int vba, .int vsp, .int vhe, .int vtk, .int vva, .ref cu, .ref lt, .ref od, .ref th, .ref be, .ref ln, .int (nI S), .ref ma, .int (nI M), .ref ah, .ref bh, .ref ik, .ref la, .ref lg, .ref ce, .int vto])), (ln, .inl (G 0, 32, .inl fln))]) [0, 1] (by decide) rfl
      refine W.widen (k := 0) (n := 0) (by omega) (by omega) ?_
      exact W.iret (v := (-1)) hx hb hr (fun t ht hW => ⟨⟨(-1), (S, fln), rfl, ⟨hpost, ⟨⟨(by have t_b5 := b5; have t_b13 := b13; have t_n0 : (nI N).toInt = (N : Int) := nI_toInt (by omega); have t_n1 : (nI B).toInt = (B : Int) := nI_toInt (by omega); have t_n2 : (nI T).toInt = (T : Int) := nI_toInt (by omega); have t_n3 : (nI S).toInt = (S : Int) := nI_toInt (by omega); have t_n4 : (nI M).toInt = (M : Int) := nI_toInt (by omega); omega), hln⟩, (by have t_b5 := b5; have t_b13 := b13; have t_n0 : (nI N).toInt = (N : Int) := nI_toInt (by omega); have t_n1 : (nI B).toInt = (B : Int) := nI_toInt (by omega); have t_n2 : (nI T).toInt = (T : Int) := nI_toInt (by omega); have t_n3 : (nI S).toInt = (S : Int) := nI_toInt (by omega); have t_n4 : (nI M).toInt = (M : Int) := nI_toInt (by omega); have z0 : (0 : Int32).toInt = 0 := (by decide); have z1 : (1 : Int32).toInt = 1 := (by decide); have z2 : (2 : Int32).toInt = 2 := (by decide); have z3 : (3 : Int32).toInt = 3 := (by decide); have z5 : (5 : Int32).toInt = 5 := (by decide); have z9 : (9 : Int32).toInt = 9 := (by decide); have z20 : (20 : Int32).toInt = 20 := (by decide); have z4 : (-4 : Int32).toInt = -4 := (by decide); have z10 : (10 : Int32).toInt = 10 := (by decide); first | (rw [if_neg (by omega)]; done) | (rw [if_pos ⟨by omega, by omega⟩]; done))⟩⟩, ⟨by rw [ht]; exact hP9, hD9⟩⟩, hS.F ht⟩) hS.2.2 dX11_learn_24

set_option maxHeartbeats 1000000 in
set_option maxRecDepth 100000 in
theorem c_X11_markE (l : Launch) (dC : Nat → ClassId) (dI : Nat → Nat → Nat) (G : Nat → ClassId) (sz : Nat) (h0 st N B rp tp T cu lt od th be ln S ma M ah bh ik la lg ce : Nat) (i d vrs vrb vhs vca vxs vxb vfa vbr vba vsp vhe vtk vva vto : Int32) (fma : Nat → Int32) (hN : N ≤ 10) (hB : B ≤ 6) (hT : T ≤ 320) (hS0 : S ≤ 8) (hM : M ≤ 6) : Met l yX11_mark (Cond.code yX11_mark cX11_mark 3 (some .int) :: GT) ({ frames := 2, cells := 0, slots := 0, locals := 46 } : Room) (PcW [.ref h0, .int i, .int d] dC dI G [(h0, .inr (11, [.ref st, .int (nI N), .int (nI B), .ref rp, .int vrs, .int vrb, .int vhs, .int vca, .int vxs, .int vxb, .ref tp, .int (nI T), .int vfa, .int vbr, .int vba, .int vsp, .int vhe, .int vtk, .int vva, .ref cu, .ref lt, .ref od, .ref th, .ref be, .ref ln, .int (nI S), .ref ma, .int (nI M), .ref ah, .ref bh, .ref ik, .ref la, .ref lg, .ref ce, .int vto])), (ma, .inl (G 0, 12, .inl fma))] sz) (va_Qi (fun (r : Int32) (u : Nat × (Nat → Int32)) => match u with | (oM, oma) => (r = if ((0 ≤ i.toInt ∧ i.toInt < ((N : Nat) : Int)) ∧ 0 ≤ d.toInt ∧ d.toInt ≤ 9) then (if M < 6 then nI (M + 1) else -3) else -1) ∧ oM = (if ((0 ≤ i.toInt ∧ i.toInt < ((N : Nat) : Int)) ∧ 0 ≤ d.toInt ∧ d.toInt ≤ 9) ∧ M < 6 then M + 1 else M) ∧ oM ≤ 6) (fun (u : Nat × (Nat → Int32)) (t : State) => match u with | (oM, oma) => va_P (dC, dI) vwCl [(h0, .inr (11, [.ref st, .int (nI N), .int (nI B), .ref rp, .int vrs, .int vrb, .int vhs, .int vca, .int vxs, .int vxb, .ref tp, .int (nI T), .int vfa, .int vbr, .int vba, .int vsp, .int vhe, .int vtk, .int vva, .ref cu, .ref lt, .ref od, .ref th, .ref be, .ref ln, .int (nI S), .ref ma, .int (nI oM), .ref ah, .ref bh, .ref ik, .ref la, .ref lg, .ref ce, .int vto])), (ma, .inl (G 0, 12, .inl oma))] t.heap ∧ va_D (va_A [(h0, .inr (11, [.ref st, .int (nI N), .int (nI B), .ref rp, .int vrs, .int vrb, .int vhs, .int vca, .int vxs, .int vxb, .ref tp, .int (nI T), .int vfa, .int vbr, .int vba, .int vsp, .int vhe, .int vtk, .int vva, .ref cu, .ref lt, .ref od, .ref th, .ref be, .ref ln, .int (nI S), .ref ma, .int (nI M), .ref ah, .ref bh, .ref ik, .ref la, .ref lg, .ref ce, .int vto])), (ma, .inl (G 0, 12, .inl fma))] sz) [(h0, .inr (11, [.ref st, .int (nI N), .int (nI B), .ref rp, .int vrs, .int vrb, .int vhs, .int vca, .int vxs, .int vxb, .ref tp, .int (nI T), .int vfa, .int vbr, .int vba, .int vsp, .int vhe, .int vtk, .int vva, .ref cu, .ref lt, .ref od, .ref th, .ref be, .ref ln, .int (nI S), .ref ma, .int (nI oM), .ref ah, .ref bh, .ref ik, .ref la, .ref lg, .ref ce, .int vto])), (ma, .inl (G 0, 12, .inl oma))]) (va_A [(h0, .inr (11, [.ref st, .int (nI N), .int (nI B), .ref rp, .int vrs, .int vrb, .int vhs, .int vca, .int vxs, .int vxb, .ref tp, .int (nI T), .int vfa, .int vbr, .int vba, .int vsp, .int vhe, .int vtk, .int vva, .ref cu, .ref lt, .ref od, .ref th, .ref be, .ref ln, .int (nI S), .ref ma, .int (nI M), .ref ah, .ref bh, .ref ik, .ref la, .ref lg, .ref ce, .int vto])), (ma, .inl (G 0, 12, .inl fma))] sz)) 0 0 (va_A [(h0, .inr (11, [.ref st, .int (nI N), .int (nI B), .ref rp, .int vrs, .int vrb, .int vhs, .int vca, .int vxs, .int vxb, .ref tp, .int (nI T), .int vfa, .int vbr, .int vba, .int vsp, .int vhe, .int vtk, .int vva, .ref cu, .ref lt, .ref od, .ref th, .ref be, .ref ln, .int (nI S), .ref ma, .int (nI M), .ref ah, .ref bh, .ref ik, .ref la, .ref lg, .ref ce, .int vto])), (ma, .inl (G 0, 12, .inl fma))] sz) := by
  refine Met.ofW (cc := cX11_mark) (maxL := 3) (ret := (some .int)) (by decide) rfl ?_
  intro p e s m args below meth c s₁ Bd hml hv
  obtain ⟨rfl, hsz, hP, hK, hD0⟩ := hv
  have hx := Bd.exec
  have hb := Bd.bytes
  have hr := Bd.returns
  have hg : ∀ w ∈ GT, w.before ([.ref h0, .int i, .int d] : List Value).toArray s = true := fun w h => atoms_spec (ws := Cond.code yX11_mark cX11_mark 3 (some .int) :: GT) Bd.pre w (List.mem_cons_of_mem _ h)
  have hown : s.vm.findClass RX11 = some m.cls := findClass_of_methodNamed Bd.named
  have hlocks := Bd.notSynchronized
  subst hsz
  have hD := hD0.self (sz := s.heap.size)
  generalize hAe : va_A [(h0, .inr (11, [.ref st, .int (nI N), .int (nI B), .ref rp, .int vrs, .int vrb, .int vhs, .int vca, .int vxs, .int vxb, .ref tp, .int (nI T), .int vfa, .int vbr, .int vba, .int vsp, .int vhe, .int vtk, .int vva, .ref cu, .ref lt, .ref od, .ref th, .ref be, .ref ln, .int (nI S), .ref ma, .int (nI M), .ref ah, .ref bh, .ref ik, .ref la, .ref lg, .ref ce, .int vto])), (ma, .inl (G 0, 12, .inl fma))] s.heap.size = A at hD ⊢
  have hA : ∀ q : Nat, s.heap.size ≤ q → A q := fun q h => by rw [← hAe]; exact Or.inr h
  have hS : va_S A s.heap s.heap [] := va_S.rf
  have hl := lv_entry ([.ref h0, .int i, .int d]) (n := 3) (Nat.le_of_ble_eq_true rfl)
  rw [lg_entry_eq]
  generalize (lg_sl ([.ref h0, .int i, .int d]) ++ List.replicate (3 - (lg_sl ([.ref h0, .int i, .int d])).length) Slot.unset).toArray = ls at hl ⊢
  have hl : lv_has ls 3 [(0, .ref h0), (1, .int i), (2, .int d)] := hl
  refine lv_aload_n hx hb dX11_mark_0 rfl (lv_at hl 0 rfl) ?_
  refine lv_iload_n hx hb dX11_mark_1 rfl (lv_at hl 1 rfl) ?_
  have hPc := hP.sub (ws' := [(h0, .inr (11, [.ref st, .int (nI N), .int (nI B), .ref rp, .int vrs, .int vrb, .int vhs, .int vca, .int vxs, .int vxb, .ref tp, .int (nI T), .int vfa, .int vbr, .int vba, .int vsp, .int vhe, .int vtk, .int vva, .ref cu, .ref lt, .ref od, .ref th, .ref be, .ref ln, .int (nI S), .ref ma, .int (nI M), .ref ah, .ref bh, .ref ik, .ref la, .ref lg, .ref ce, .int vto]))]) [0] rfl
  refine va_calli (va_runV (As := [.int i]) (rest := []) ⟨hx, hb, hml, hown, hg⟩ (c_X11_isStretch l dC dI G _ h0 st N B rp tp T cu lt od th be ln S ma M ah bh ik la lg ce i vrs vrb vhs vca vxs vxb vfa vbr vba vsp vhe vtk vva vto (by have t_n0 : (nI N).toInt = (N : Int) := nI_toInt (by omega); have t_n1 : (nI B).toInt = (B : Int) := nI_toInt (by omega); have t_n2 : (nI T).toInt = (T : Int) := nI_toInt (by omega); have t_n3 : (nI S).toInt = (S : Int) := nI_toInt (by omega); have t_n4 : (nI M).toInt = (M : Int) := nI_toInt (by omega); omega) (by have t_n0 : (nI N).toInt = (N : Int) := nI_toInt (by omega); have t_n1 : (nI B).toInt = (B : Int) := nI_toInt (by omega); have t_n2 : (nI T).toInt = (T : Int) := nI_toInt (by omega); have t_n3 : (nI S).toInt = (S : Int) := nI_toInt (by omega); have t_n4 : (nI M).toInt = (M : Int) := nI_toInt (by omega); omega) (by have t_n0 : (nI N).toInt = (N : Int) := nI_toInt (by omega); have t_n1 : (nI B).toInt = (B : Int) := nI_toInt (by omega); have t_n2 : (nI T).toInt = (T : Int) := nI_toInt (by omega); have t_n3 : (nI S).toInt = (S : Int) := nI_toInt (by omega); have t_n4 : (nI M).toInt = (M : Int) := nI_toInt (by omega); omega) (by have t_n0 : (nI N).toInt = (N : Int) := nI_toInt (by omega); have t_n1 : (nI B).toInt = (B : Int) := nI_toInt (by omega); have t_n2 : (nI T).toInt = (T : Int) := nI_toInt (by omega); have t_n3 : (nI S).toInt = (S : Int) := nI_toInt (by omega); have t_n4 : (nI M).toInt = (M : Int) := nI_toInt (by omega); omega) (by have t_n0 : (nI N).toInt = (N : Int) := nI_toInt (by omega); have t_n1 : (nI B).toInt = (B : Int) := nI_toInt (by omega); have t_n2 : (nI T).toInt = (T : Int) := nI_toInt (by omega); have t_n3 : (nI S).toInt = (S : Int) := nI_toInt (by omega); have t_n4 : (nI M).toInt = (M : Int) := nI_toInt (by omega); omega)) (kwV hg mfX11_isStretch wt_1052 ⟨Nat.le_of_ble_eq_true rfl, Nat.le_of_ble_eq_true rfl⟩) (preVR hK hPc (ci := 11) rfl rfl) rfl rfl hl.1 rfl (lv_room (Nat.le_of_ble_eq_true rfl)) dX11_mark_2 ⟨Nat.le_of_ble_eq_true rfl, Nat.le_of_ble_eq_true rfl⟩) hS (fun q h1 h2 => absurd h2 (Nat.not_le.mpr h1)) (fun q h => hA q (Nat.le_trans hS.1 h)) (fun r1 ur1 t H1 locs ht hvm w2 hB hz1 hk1 hS => ?_)
  have hP := keepR hP hk1
  obtain ⟨w2, w2x⟩ := w2
  try simp only [l_ii, show (0 : Int32).toInt = 0 from by decide] at w2
  try rw [nI_toInt (n := N) (by omega)] at w2
  subst w2
  refine lv_if_eq (tgt := 20) hx hb dX11_mark_5 (by decide) (fun c3 => ?_) (fun c3 => ?_)
  · skip
    have b4 := if10_n c3
    refine lv_iconst (v := (-1)) hx hb dX11_mark_20 (by decide) ?_
    have hpost : ((-1) : Int32) = if ((0 ≤ i.toInt ∧ i.toInt < ((N : Nat) : Int)) ∧ 0 ≤ d.toInt ∧ d.toInt ≤ 9) then (if M < 6 then nI (M + 1) else -3) else -1 := by
      have t_b4 := b4
      have t_n0 : (nI N).toInt = (N : Int) := nI_toInt (by omega)
      have t_n1 : (nI B).toInt = (B : Int) := nI_toInt (by omega)
      have t_n2 : (nI T).toInt = (T : Int) := nI_toInt (by omega)
      have t_n3 : (nI S).toInt = (S : Int) := nI_toInt (by omega)
      have t_n4 : (nI M).toInt = (M : Int) := nI_toInt (by omega)
      have z0 : (0 : Int32).toInt = 0 := (by decide)
      have z1 : (1 : Int32).toInt = 1 := (by decide)
      have z2 : (2 : Int32).toInt = 2 := (by decide)
      have z3 : (3 : Int32).toInt = 3 := (by decide)
      have z5 : (5 : Int32).toInt = 5 := (by decide)
      have z9 : (9 : Int32).toInt = 9 := (by decide)
      have z20 : (20 : Int32).toInt = 20 := (by decide)
      have z4 : (-4 : Int32).toInt = -4 := (by decide)
      have z10 : (10 : Int32).toInt = 10 := (by decide)
      rw [if_neg (by omega)]
    have hP9 := hP.sub (ws' := [(h0, .inr (11, [.ref st, .int (nI N), .int (nI B), .ref rp, .int vrs, .int vrb, .int vhs, .int vca, .int vxs, .int vxb, .ref tp, .int (nI T), .int vfa, .int vbr, .int vba, .int vsp, .int vhe, .int vtk, .int vva, .ref cu, .ref lt, .ref od, .ref th, .ref be, .ref ln, .int (nI S), .ref ma, .int (nI M), .ref ah, .ref bh, .ref ik, .ref la, .ref lg, .ref ce, .int vto])), (ma, .inl (G 0, 12, .inl fma))]) [0, 1] rfl
    have hD9 := hD.sub (ws' := [(h0, .inr (11, [.ref st, .int (nI N), .int (nI B), .ref rp, .int vrs, .int vrb, .int vhs, .int vca, .int vxs, .int vxb, .ref tp, .int (nI T), .int vfa, .int vbr, .int vba, .int vsp, .int vhe, .int vtk, .int vva, .ref cu, .ref lt, .ref od, .ref th, .ref be, .ref ln, .int (nI S), .ref ma, .int (nI M), .ref ah, .ref bh, .ref ik, .ref la, .ref lg, .ref ce, .int vto])), (ma, .inl (G 0, 12, .inl fma))]) [0, 1] (by decide) rfl
    refine W.widen (k := 0) (n := 0) (by omega) (by omega) ?_
    exact W.iret (v := (-1)) hx hb hr (fun t ht hW => ⟨⟨(-1), (M, fma), rfl, ⟨hpost, (by have t_b4 := b4; have t_n0 : (nI N).toInt = (N : Int) := nI_toInt (by omega); have t_n1 : (nI B).toInt = (B : Int) := nI_toInt (by omega); have t_n2 : (nI T).toInt = (T : Int) := nI_toInt (by omega); have t_n3 : (nI S).toInt = (S : Int) := nI_toInt (by omega); have t_n4 : (nI M).toInt = (M : Int) := nI_toInt (by omega); have z0 : (0 : Int32).toInt = 0 := (by decide); have z1 : (1 : Int32).toInt = 1 := (by decide); have z2 : (2 : Int32).toInt = 2 := (by decide); have z3 : (3 : Int32).toInt = 3 := (by decide); have z5 : (5 : Int32).toInt = 5 := (by decide); have z9 : (9 : Int32).toInt = 9 := (by decide); have z20 : (20 : Int32).toInt = 20 := (by decide); have z4 : (-4 : Int32).toInt = -4 := (by decide); have z10 : (10 : Int32).toInt = 10 := (by decide); refine ⟨?_, by omega⟩; first | (rw [if_neg (by omega)]; done) | (rw [if_pos ⟨by omega, by omega⟩]; done))⟩, ⟨by rw [ht]; exact hP9, hD9⟩⟩, hS.F ht⟩) hS.2.2 dX11_mark_21
  · skip
    have b5 := if10_p c3
    refine lv_iload_n hx hb dX11_mark_8 rfl (lv_at hl 2 rfl) ?_
    refine lv_i2l (v := d.toInt64) hx hb dX11_mark_9 rfl ?_
    refine lv_lconst (v := 0) hx hb dX11_mark_10 (by decide) ?_
    refine lv_ldc2 (v := 9) hx hb hown (hg _ wt_1069) dX11_mark_11 ?_
    have hPc := hP.sub (ws' := []) [] rfl
    refine va_calli (va_runS (As := [.long d.toInt64, .long 0, .long 9]) (rest := []) ⟨hx, hb, hml, hown, hg⟩ (c_X11_in l dC dI G _ d.toInt64 0 9 ) (kwS hg mfX11_in wt_992 ⟨Nat.le_of_ble_eq_true rfl, Nat.le_of_ble_eq_true rfl⟩) (preSR hK hPc) rfl rfl hl.1 rfl (lv_room (Nat.le_of_ble_eq_true rfl)) dX11_mark_14 ⟨Nat.le_of_ble_eq_true rfl, Nat.le_of_ble_eq_true rfl⟩) hS (fun q h1 h2 => absurd h2 (Nat.not_le.mpr h1)) (fun q h => hA q (Nat.le_trans hS.1 h)) (fun r6 ur6 t H1 locs ht hvm w7 hB hz1 hk1 hS => ?_)
    have hP := keepR hP hk1
    obtain ⟨w7, w7x⟩ := w7
    try simp only [l_ii, show (0 : Int64).toInt = 0 from by decide, show (9 : Int64).toInt = 9 from by decide] at w7
    subst w7
    refine lv_if_ne (tgt := 22) hx hb dX11_mark_17 (by decide) (fun c8 => ?_) (fun c8 => ?_)
    · skip
      have b9 := if10_p c8
      refine lv_aload_n hx hb dX11_mark_22 rfl (lv_at hl 0 rfl) ?_
      refine va_get (D := (dC, dI)) (ci := 11) (v := .int (nI M)) (C := RX11) (T := TX11) (N := 35) hx hb hg inG11 hown hK.1 hP 0 rfl rfl 27 (by decide) (hg _ wt_905) (fun _ h9 => h9) rfl dX11_mark_23 ?_
      refine lv_bipush (v := 6) hx hb dX11_mark_26 (by decide) ?_
      refine lv_icmp_ne (tgt := 34) hx hb dX11_mark_28 (by decide) (fun c10 => ?_) (fun c10 => ?_)
      · skip
        have n11 : M ≠ 6 := by have t := neI c10; rw [nI_toInt (n := M) (by omega)] at t; have : (6 : Int32).toInt = 6 := (by decide); omega
        refine lv_aload_n hx hb dX11_mark_34 rfl (lv_at hl 0 rfl) ?_
        refine va_get (D := (dC, dI)) (ci := 11) (v := .ref ma) (C := RX11) (T := TX11) (N := 35) hx hb hg inG11 hown hK.1 hP 0 rfl rfl 26 (by decide) (hg _ wt_904) (fun _ h9 => h9) rfl dX11_mark_35 ?_
        refine lv_iconst (v := 2) hx hb dX11_mark_38 (by decide) ?_
        refine lv_aload_n hx hb dX11_mark_39 rfl (lv_at hl 0 rfl) ?_
        refine va_get (D := (dC, dI)) (ci := 11) (v := .int (nI M)) (C := RX11) (T := TX11) (N := 35) hx hb hg inG11 hown hK.1 hP 0 rfl rfl 27 (by decide) (hg _ wt_905) (fun _ h9 => h9) rfl dX11_mark_40 ?_
        refine lv_imul hx hb dX11_mark_43 ?_
        refine lv_cg (y := nI (2 * M)) (by rw [show (2 : Int32) = nI 2 from rfl]; exact pk_mul _ _) ?_
        refine lv_iload_n hx hb dX11_mark_44 rfl (lv_at hl 1 rfl) ?_
        refine va_iast hx hb hK.1 hP hD hS 1 0 rfl rfl (vp_in_nI (by have t_b5 := b5; have t_b9 := b9; have t_n11 := n11; have t_n0 : (nI N).toInt = (N : Int) := nI_toInt (by omega); have t_n1 : (nI B).toInt = (B : Int) := nI_toInt (by omega); have t_n2 : (nI T).toInt = (T : Int) := nI_toInt (by omega); have t_n3 : (nI S).toInt = (S : Int) := nI_toInt (by omega); have t_n4 : (nI M).toInt = (M : Int) := nI_toInt (by omega); omega) (by decide)) dX11_mark_45 (fun H locs hP hD hS => ?_)
        rw [nI_clamp (by omega)] at hP hD
        have hP : va_P (dC, dI) vwCl [(h0, .inr (11, [.ref st, .int (nI N), .int (nI B), .ref rp, .int vrs, .int vrb, .int vhs, .int vca, .int vxs, .int vxb, .ref tp, .int (nI T), .int vfa, .int vbr, .int vba, .int vsp, .int vhe, .int vtk, .int vva, .ref cu, .ref lt, .ref od, .ref th, .ref be, .ref ln, .int (nI S), .ref ma, .int (nI M), .ref ah, .ref bh, .ref ik, .ref la, .ref lg, .ref ce, .int vto])), (ma, .inl (G 0, 12, .inl (upd fma (2 * M) i)))] H := hP
        have hD : va_D A [(h0, .inr (11, [.ref st, .int (nI N), .int (nI B), .ref rp, .int vrs, .int vrb, .int vhs, .int vca, .int vxs, .int vxb, .ref tp, .int (nI T), .int vfa, .int vbr, .int vba, .int vsp, .int vhe, .int vtk, .int vva, .ref cu, .ref lt, .ref od, .ref th, .ref be, .ref ln, .int (nI S), .ref ma, .int (nI M), .ref ah, .ref bh, .ref ik, .ref la, .ref lg, .ref ce, .int vto])), (ma, .inl (G 0, 12, .inl (upd fma (2 * M) i)))] := hD
        refine lv_aload_n hx hb dX11_mark_46 rfl (lv_at hl 0 rfl) ?_
        refine va_get (D := (dC, dI)) (ci := 11) (v := .ref ma) (C := RX11) (T := TX11) (N := 35) hx hb hg inG11 hown hK.1 hP 0 rfl rfl 26 (by decide) (hg _ wt_904) (fun _ h9 => h9) rfl dX11_mark_47 ?_
        refine lv_iconst (v := 2) hx hb dX11_mark_50 (by decide) ?_
        refine lv_aload_n hx hb dX11_mark_51 rfl (lv_at hl 0 rfl) ?_
        refine va_get (D := (dC, dI)) (ci := 11) (v := .int (nI M)) (C := RX11) (T := TX11) (N := 35) hx hb hg inG11 hown hK.1 hP 0 rfl rfl 27 (by decide) (hg _ wt_905) (fun _ h9 => h9) rfl dX11_mark_52 ?_
        refine lv_imul hx hb dX11_mark_55 ?_
        refine lv_cg (y := nI (2 * M)) (by rw [show (2 : Int32) = nI 2 from rfl]; exact pk_mul _ _) ?_
        refine lv_iconst (v := 1) hx hb dX11_mark_56 (by decide) ?_
        refine lv_iadd hx hb dX11_mark_57 ?_
        refine lv_cg (y := nI ((2 * M) + 1)) (by rw [show (1 : Int32) = nI 1 from rfl]; exact nI_add _ _) ?_
        refine lv_iload_n hx hb dX11_mark_58 rfl (lv_at hl 2 rfl) ?_
        refine va_iast hx hb hK.1 hP hD hS 1 0 rfl rfl (vp_in_nI (by have t_b5 := b5; have t_b9 := b9; have t_n11 := n11; have t_n0 : (nI N).toInt = (N : Int) := nI_toInt (by omega); have t_n1 : (nI B).toInt = (B : Int) := nI_toInt (by omega); have t_n2 : (nI T).toInt = (T : Int) := nI_toInt (by omega); have t_n3 : (nI S).toInt = (S : Int) := nI_toInt (by omega); have t_n4 : (nI M).toInt = (M : Int) := nI_toInt (by omega); omega) (by decide)) dX11_mark_59 (fun H locs hP hD hS => ?_)
        rw [nI_clamp (by omega)] at hP hD
        have hP : va_P (dC, dI) vwCl [(h0, .inr (11, [.ref st, .int (nI N), .int (nI B), .ref rp, .int vrs, .int vrb, .int vhs, .int vca, .int vxs, .int vxb, .ref tp, .int (nI T), .int vfa, .int vbr, .int vba, .int vsp, .int vhe, .int vtk, .int vva, .ref cu, .ref lt, .ref od, .ref th, .ref be, .ref ln, .int (nI S), .ref ma, .int (nI M), .ref ah, .ref bh, .ref ik, .ref la, .ref lg, .ref ce, .int vto])), (ma, .inl (G 0, 12, .inl (upd (upd fma (2 * M) i) ((2 * M) + 1) d)))] H := hP
        have hD : va_D A [(h0, .inr (11, [.ref st, .int (nI N), .int (nI B), .ref rp, .int vrs, .int vrb, .int vhs, .int vca, .int vxs, .int vxb, .ref tp, .int (nI T), .int vfa, .int vbr, .int vba, .int vsp, .int vhe, .int vtk, .int vva, .ref cu, .ref lt, .ref od, .ref th, .ref be, .ref ln, .int (nI S), .ref ma, .int (nI M), .ref ah, .ref bh, .ref ik, .ref la, .ref lg, .ref ce, .int vto])), (ma, .inl (G 0, 12, .inl (upd (upd fma (2 * M) i) ((2 * M) + 1) d)))] := hD
        refine lv_aload_n hx hb dX11_mark_60 rfl (lv_at hl 0 rfl) ?_
        refine lv_dup hx hb dX11_mark_61 rfl ?_
        refine va_get (D := (dC, dI)) (ci := 11) (v := .int (nI M)) (C := RX11) (T := TX11) (N := 35) hx hb hg inG11 hown hK.1 hP 0 rfl rfl 27 (by decide) (hg _ wt_905) (fun _ h9 => h9) rfl dX11_mark_62 ?_
        refine lv_iconst (v := 1) hx hb dX11_mark_65 (by decide) ?_
        refine lv_iadd hx hb dX11_mark_66 ?_
        refine lv_cg (y := nI (M + 1)) (by rw [show (1 : Int32) = nI 1 from rfl]; exact nI_add _ _) ?_
        refine va_put (D := (dC, dI)) (ci := 11) (v := .int (nI (M + 1))) (ty := .int) (C := RX11) (T := TX11) (N := 35) hx hb hg inG11 tyX11 tyX11_ok nmX11 hown hK.1 hP hD hS 0 rfl rfl 27 (by decide) (hg _ wt_905) (fun _ h9 => h9) rfl (by decide +kernel) rfl rfl (Nat.le_of_ble_eq_true rfl) dX11_mark_67 (fun H locs hP hD hS => ?_)
        have hP : va_P (dC, dI) vwCl [(h0, .inr (11, [.ref st, .int (nI N), .int (nI B), .ref rp, .int vrs, .int vrb, .int vhs, .int vca, .int vxs, .int vxb, .ref tp, .int (nI T), .int vfa, .int vbr, .int vba, .int vsp, .int vhe, .int vtk, .int vva, .ref cu, .ref lt, .ref od, .ref th, .ref be, .ref ln, .int (nI S), .ref ma, .int (nI (M + 1)), .ref ah, .ref bh, .ref ik, .ref la, .ref lg, .ref ce, .int vto])), (ma, .inl (G 0, 12, .inl (upd (upd fma (2 * M) i) ((2 * M) + 1) d)))] H := hP
        have hD : va_D A [(h0, .inr (11, [.ref st, .int (nI N), .int (nI B), .ref rp, .int vrs, .int vrb, .int vhs, .int vca, .int vxs, .int vxb, .ref tp, .int (nI T), .int vfa, .int vbr, .int vba, .int vsp, .int vhe, .int vtk, .int vva, .ref cu, .ref lt, .ref od, .ref th, .ref be, .ref ln, .int (nI S), .ref ma, .int (nI (M + 1)), .ref ah, .ref bh, .ref ik, .ref la, .ref lg, .ref ce, .int vto])), (ma, .inl (G 0, 12, .inl (upd (upd fma (2 * M) i) ((2 * M) + 1) d)))] := hD
        refine lv_aload_n hx hb dX11_mark_70 rfl (lv_at hl 0 rfl) ?_
        refine va_get (D := (dC, dI)) (ci := 11) (v := .int (nI (M + 1))) (C := RX11) (T := TX11) (N := 35) hx hb hg inG11 hown hK.1 hP 0 rfl rfl 27 (by decide) (hg _ wt_905) (fun _ h9 => h9) rfl dX11_mark_71 ?_
        have hpost : (nI (M + 1) : Int32) = if ((0 ≤ i.toInt ∧ i.toInt < ((N : Nat) : Int)) ∧ 0 ≤ d.toInt ∧ d.toInt ≤ 9) then (if M < 6 then nI (M + 1) else -3) else -1 := by
          have t_b5 := b5
          have t_b9 := b9
          have t_n11 := n11
          have t_n0 : (nI N).toInt = (N : Int) := nI_toInt (by omega)
          have t_n1 : (nI B).toInt = (B : Int) := nI_toInt (by omega)
          have t_n2 : (nI T).toInt = (T : Int) := nI_toInt (by omega)
          have t_n3 : (nI S).toInt = (S : Int) := nI_toInt (by omega)
          have t_n4 : (nI M).toInt = (M : Int) := nI_toInt (by omega)
          have z0 : (0 : Int32).toInt = 0 := (by decide)
          have z1 : (1 : Int32).toInt = 1 := (by decide)
          have z2 : (2 : Int32).toInt = 2 := (by decide)
          have z3 : (3 : Int32).toInt = 3 := (by decide)
          have z5 : (5 : Int32).toInt = 5 := (by decide)
          have z9 : (9 : Int32).toInt = 9 := (by decide)
          have z20 : (20 : Int32).toInt = 20 := (by decide)
          have z4 : (-4 : Int32).toInt = -4 := (by decide)
          have z10 : (10 : Int32).toInt = 10 := (by decide)
          rw [if_pos (by omega), if_pos (by omega)]
        have hP9 := hP.sub (ws' := [(h0, .inr (11, [.ref st, .int (nI N), .int (nI B), .ref rp, .int vrs, .int vrb, .int vhs, .int vca, .int vxs, .int vxb, .ref tp, .int (nI T), .int vfa, .int vbr, .int vba, .int vsp, .int vhe, .int vtk, .int vva, .ref cu, .ref lt, .ref od, .ref th, .ref be, .ref ln, .int (nI S), .ref ma, .int (nI (M + 1)), .ref ah, .ref bh, .ref ik, .ref la, .ref lg, .ref ce, .int vto])), (ma, .inl (G 0, 12, .inl (upd (upd fma (2 * M) i) ((2 * M) + 1) d)))]) [0, 1] rfl
        have hD9 := hD.sub (ws' := [(h0, .inr (11, [.ref st, .int (nI N), .int (nI B), .ref rp, .int vrs, .int vrb, .int vhs, .int vca, .int vxs, .int vxb, .ref tp, .int (nI T), .int vfa, .int vbr, .int vba, .int vsp, .int vhe, .int vtk, .int vva, .ref cu, .ref lt, .ref od, .ref th, .ref be, .ref ln, .int (nI S), .ref ma, .int (nI (M + 1)), .ref ah, .ref bh, .ref ik, .ref la, .ref lg, .ref ce, .int vto])), (ma, .inl (G 0, 12, .inl (upd (upd fma (2 * M) i) ((2 * M) + 1) d)))]) [0, 1] (by decide) rfl
        refine W.widen (k := 0) (n := 0) (by omega) (by omega) ?_
        exact W.iret (v := nI (M + 1)) hx hb hr (fun t ht hW => ⟨⟨nI (M + 1), ((M + 1), (upd (upd fma (2 * M) i) ((2 * M) + 1) d)), rfl, ⟨hpost, (by have t_b5 := b5; have t_b9 := b9; have t_n11 := n11; have t_n0 : (nI N).toInt = (N : Int) := nI_toInt (by omega); have t_n1 : (nI B).toInt = (B : Int) := nI_toInt (by omega); have t_n2 : (nI T).toInt = (T : Int) := nI_toInt (by omega); have t_n3 : (nI S).toInt = (S : Int) := nI_toInt (by omega); have t_n4 : (nI M).toInt = (M : Int) := nI_toInt (by omega); have z0 : (0 : Int32).toInt = 0 := (by decide); have z1 : (1 : Int32).toInt = 1 := (by decide); have z2 : (2 : Int32).toInt = 2 := (by decide); have z3 : (3 : Int32).toInt = 3 := (by decide); have z5 : (5 : Int32).toInt = 5 := (by decide); have z9 : (9 : Int32).toInt = 9 := (by decide); have z20 : (20 : Int32).toInt = 20 := (by decide); have z4 : (-4 : Int32).toInt = -4 := (by decide); have z10 : (10 : Int32).toInt = 10 := (by decide); refine ⟨?_, by omega⟩; first | (rw [if_neg (by omega)]; done) | (rw [if_pos ⟨by omega, by omega⟩]; done))⟩, ⟨by rw [ht]; exact hP9, hD9⟩⟩, hS.F ht⟩) hS.2.2 dX11_mark_74
      · skip
        have n12 : M = 6 := by have t := eqI c10; rw [nI_toInt (n := M) (by omega)] at t; have : (6 : Int32).toInt = 6 := (by decide); omega
        refine lv_bipush (v := (-3)) hx hb dX11_mark_31 (by decide) ?_
        have hpost : ((-3) : Int32) = if ((0 ≤ i.toInt ∧ i.toInt < ((N : Nat) : Int)) ∧ 0 ≤ d.toInt ∧ d.toInt ≤ 9) then (if M < 6 then nI (M + 1) else -3) else -1 := by
          have t_b5 := b5
          have t_b9 := b9
          have t_n12 := n12
          have t_n0 : (nI N).toInt = (N : Int) := nI_toInt (by omega)
          have t_n1 : (nI B).toInt = (B : Int) := nI_toInt (by omega)
          have t_n2 : (nI T).toInt = (T : Int) := nI_toInt (by omega)
          have t_n3 : (nI S).toInt = (S : Int) := nI_toInt (by omega)
          have t_n4 : (nI M).toInt = (M : Int) := nI_toInt (by omega)
          have z0 : (0 : Int32).toInt = 0 := (by decide)
          have z1 : (1 : Int32).toInt = 1 := (by decide)
          have z2 : (2 : Int32).toInt = 2 := (by decide)
          have z3 : (3 : Int32).toInt = 3 := (by decide)
          have z5 : (5 : Int32).toInt = 5 := (by decide)
          have z9 : (9 : Int32).toInt = 9 := (by decide)
          have z20 : (20 : Int32).toInt = 20 := (by decide)
          have z4 : (-4 : Int32).toInt = -4 := (by decide)
          have z10 : (10 : Int32).toInt = 10 := (by decide)
          rw [if_pos (by omega), if_neg (by omega)]
        have hP9 := hP.sub (ws' := [(h0, .inr (11, [.ref st, .int (nI N), .int (nI B), .ref rp, .int vrs, .int vrb, .int vhs, .int vca, .int vxs, .int vxb, .ref tp, .int (nI T), .int vfa, .int vbr, .int vba, .int vsp, .int vhe, .int vtk, .int vva, .ref cu, .ref lt, .ref od, .ref th, .ref be, .ref ln, .int (nI S), .ref ma, .int (nI M), .ref ah, .ref bh, .ref ik, .ref la, .ref lg, .ref ce, .int vto])), (ma, .inl (G 0, 12, .inl fma))]) [0, 1] rfl
        have hD9 := hD.sub (ws' := [(h0, .inr (11, [.ref st, .int (nI N), .int (nI B), .ref rp, .int vrs, .int vrb, .int vhs, .int vca, .int vxs, .int vxb, .ref tp, .int (nI T), .int vfa, .int vbr, .int vba, .int vsp, .int vhe, .int vtk, .int vva, .ref cu, .ref lt, .ref od, .ref th, .ref be, .ref ln, .int (nI S), .ref ma, .int (nI M), .ref ah, .ref bh, .ref ik, .ref la, .ref lg, .ref ce, .int vto])), (ma, .inl (G 0, 12, .inl fma))]) [0, 1] (by decide) rfl
        refine W.widen (k := 0) (n := 0) (by omega) (by omega) ?_
        exact W.iret (v := (-3)) hx hb hr (fun t ht hW => ⟨⟨(-3), (M, fma), rfl, ⟨hpost, (by have t_b5 := b5; have t_b9 := b9; have t_n12 := n12; have t_n0 : (nI N).toInt = (N : Int) := nI_toInt (by omega); have t_n1 : (nI B).toInt = (B : Int) := nI_toInt (by omega); have t_n2 : (nI T).toInt = (T : Int) := nI_toInt (by omega); have t_n3 : (nI S).toInt = (S : Int) := nI_toInt (by omega); have t_n4 : (nI M).toInt = (M : Int) := nI_toInt (by omega); have z0 : (0 : Int32).toInt = 0 := (by decide); have z1 : (1 : Int32).toInt = 1 := (by decide); have z2 : (2 : Int32).toInt = 2 := (by decide); have z3 : (3 : Int32).toInt = 3 := (by decide); have z5 : (5 : Int32).toInt = 5 := (by decide); have z9 : (9 : Int32).toInt = 9 := (by decide); have z20 : (20 : Int32).toInt = 20 := (by decide); have z4 : (-4 : Int32).toInt = -4 := (by decide); have z10 : (10 : Int32).toInt = 10 := (by decide); refine ⟨?_, by omega⟩; first | (rw [if_neg (by omega)]; done) | (rw [if_pos ⟨by omega, by omega⟩]; done))⟩, ⟨by rw [ht]; exact hP9, hD9⟩⟩, hS.F ht⟩) hS.2.2 dX11_mark_33
    · skip
      have b13 := if10_n c8
      refine lv_iconst (v := (-1)) hx hb dX11_mark_20 (by decide) ?_
      have hpost : ((-1) : Int32) = if ((0 ≤ i.toInt ∧ i.toInt < ((N : Nat) : Int)) ∧ 0 ≤ d.toInt ∧ d.toInt ≤ 9) then (if M < 6 then nI (M + 1) else -3) else -1 := by
        have t_b5 := b5
        have t_b13 := b13
        have t_n0 : (nI N).toInt = (N : Int) := nI_toInt (by omega)
        have t_n1 : (nI B).toInt = (B : Int) := nI_toInt (by omega)
        have t_n2 : (nI T).toInt = (T : Int) := nI_toInt (by omega)
        have t_n3 : (nI S).toInt = (S : Int) := nI_toInt (by omega)
        have t_n4 : (nI M).toInt = (M : Int) := nI_toInt (by omega)
        have z0 : (0 : Int32).toInt = 0 := (by decide)
        have z1 : (1 : Int32).toInt = 1 := (by decide)
        have z2 : (2 : Int32).toInt = 2 := (by decide)
        have z3 : (3 : Int32).toInt = 3 := (by decide)
        have z5 : (5 : Int32).toInt = 5 := (by decide)
        have z9 : (9 : Int32).toInt = 9 := (by decide)
        have z20 : (20 : Int32).toInt = 20 := (by decide)
        have z4 : (-4 : Int32).toInt = -4 := (by decide)
        have z10 : (10 : Int32).toInt = 10 := (by decide)
        rw [if_neg (by omega)]
      have hP9 := hP.sub (ws' := [(h0, .inr (11, [.ref st, .int (nI N), .int (nI B), .ref rp, .int vrs, .int vrb, .int vhs, .int vca, .int vxs, .int vxb, .ref tp, .int (nI T), .int vfa, .int vbr, .int vba, .int vsp, .int vhe, .int vtk, .int vva, .ref cu, .ref lt, .ref od, .ref th, .ref be, .ref ln, .int (nI S), .ref ma, .int (nI M), .ref ah, .ref bh, .ref ik, .ref la, .ref lg, .ref ce, .int vto])), (ma, .inl (G 0, 12, .inl fma))]) [0, 1] rfl
      have hD9 := hD.sub (ws' := [(h0, .inr (11, [.ref st, .int (nI N), .int (nI B), .ref rp, .int vrs, .int vrb, .int vhs, .int vca, .int vxs, .int vxb, .ref tp, .int (nI T), .int vfa, .int vbr, .int vba, .int vsp, .int vhe, .int vtk, .int vva, .ref cu, .ref lt, .ref od, .ref th, .ref be, .ref ln, .int (nI S), .ref ma, .int (nI M), .ref ah, .ref bh, .ref ik, .ref la, .ref lg, .ref ce, .int vto])), (ma, .inl (G 0, 12, .inl fma))]) [0, 1] (by decide) rfl
      refine W.widen (k := 0) (n := 0) (by omega) (by omega) ?_
      exact W.iret (v := (-1)) hx hb hr (fun t ht hW => ⟨⟨(-1), (M, fma), rfl, ⟨hpost, (by have t_b5 := b5; have t_b13 := b13; have t_n0 : (nI N).toInt = (N : Int) := nI_toInt (by omega); have t_n1 : (nI B).toInt = (B : Int) := nI_toInt (by omega); have t_n2 : (nI T).toInt = (T : Int) := nI_toInt (by omega); have t_n3 : (nI S).toInt = (S : Int) := nI_toInt (by omega); have t_n4 : (nI M).toInt = (M : Int) := nI_toInt (by omega); have z0 : (0 : Int32).toInt = 0 := (by decide); have z1 : (1 : Int32).toInt = 1 := (by decide); have z2 : (2 : Int32).toInt = 2 := (by decide); have z3 : (3 : Int32).toInt = 3 := (by decide); have z5 : (5 : Int32).toInt = 5 := (by decide); have z9 : (9 : Int32).toInt = 9 := (by decide); have z20 : (20 : Int32).toInt = 20 := (by decide); have z4 : (-4 : Int32).toInt = -4 := (by decide); have z10 : (10 : Int32).toInt = 10 := (by decide); refine ⟨?_, by omega⟩; first | (rw [if_neg (by omega)]; done) | (rw [if_pos ⟨by omega, by omega⟩]; done))⟩, ⟨by rw [ht]; exact hP9, hD9⟩⟩, hS.F ht⟩) hS.2.2 dX11_mark_21

set_option maxHeartbeats 1000000 in
set_option maxRecDepth 100000 in
theorem c_X11_forgetE (l : Launch) (dC : Nat → ClassId) (dI : Nat → Nat → Nat) (G : Nat → ClassId) (sz : Nat) (h0 st N B rp tp T cu lt od th be ln S ma M ah bh ik la lg ce : Nat) (n vrs vrb vhs vca vxs vxb vfa vbr vba vsp vhe vtk vva vto : Int32) (hN : N ≤ 10) (hB : B ≤ 6) (hT : T ≤ 320) (hS0 : S ≤ 8) (hM : M ≤ 6) : Met l yX11_forget (Cond.code yX11_forget cX11_forget 3 (some .int) :: GT) ({ frames := 1, cells := 0, slots := 0, locals := 25 } : Room) (PcW [.ref h0, .int n] dC dI G [(h0, .inr (11, [.ref st, .int (nI N), .int (nI B), .ref rp, .int vrs, .int vrb, .int vhs, .int vca, .int vxs, .int vxb, .ref tp, .int (nI T), .int vfa, .int vbr, .int vba, .int vsp, .int vhe, .int vtk, .int vva, .ref cu, .ref lt, .ref od, .ref th, .ref be, .ref ln, .int (nI S), .ref ma, .int (nI M), .ref ah, .ref bh, .ref ik, .ref la, .ref lg, .ref ce, .int vto]))] sz) (va_Qi (fun (r : Int32) (u : Nat) => match u with | oS => (r = if 0 ≤ n.toInt ∧ n.toInt ≤ ((S : Nat) : Int) then nI S else -1) ∧ oS = (if 0 ≤ n.toInt ∧ n.toInt ≤ ((S : Nat) : Int) then n.toNatClampNeg else S) ∧ oS ≤ 8) (fun (u : Nat) (t : State) => match u with | oS => va_P (dC, dI) vwCl [(h0, .inr (11, [.ref st, .int (nI N), .int (nI B), .ref rp, .int vrs, .int vrb, .int vhs, .int vca, .int vxs, .int vxb, .ref tp, .int (nI T), .int vfa, .int vbr, .int vba, .int vsp, .int vhe, .int vtk, .int vva, .ref cu, .ref lt, .ref od, .ref th, .ref be, .ref ln, .int (nI oS), .ref ma, .int (nI M), .ref ah, .ref bh, .ref ik, .ref la, .ref lg, .ref ce, .int vto]))] t.heap ∧ va_D (va_A [(h0, .inr (11, [.ref st, .int (nI N), .int (nI B), .ref rp, .int vrs, .int vrb, .int vhs, .int vca, .int vxs, .int vxb, .ref tp, .int (nI T), .int vfa, .int vbr, .int vba, .int vsp, .int vhe, .int vtk, .int vva, .ref cu, .ref lt, .ref od, .ref th, .ref be, .ref ln, .int (nI S), .ref ma, .int (nI M), .ref ah, .ref bh, .ref ik, .ref la, .ref lg, .ref ce, .int vto]))] sz) [(h0, .inr (11, [.ref st, .int (nI N), .int (nI B), .ref rp, .int vrs, .int vrb, .int vhs, .int vca, .int vxs, .int vxb, .ref tp, .int (nI T), .int vfa, .int vbr, .int vba, .int vsp, .int vhe, .int vtk, .int vva, .ref cu, .ref lt, .ref od, .ref th, .ref be, .ref ln, .int (nI oS), .ref ma, .int (nI M), .ref ah, .ref bh, .ref ik, .ref la, .ref lg, .ref ce, .int vto]))]) (va_A [(h0, .inr (11, [.ref st, .int (nI N), .int (nI B), .ref rp, .int vrs, .int vrb, .int vhs, .int vca, .int vxs, .int vxb, .ref tp, .int (nI T), .int vfa, .int vbr, .int vba, .int vsp, .int vhe, .int vtk, .int vva, .ref cu, .ref lt, .ref od, .ref th, .ref be, .ref ln, .int (nI S), .ref ma, .int (nI M), .ref ah, .ref bh, .ref ik, .ref la, .ref lg, .ref ce, .int vto]))] sz)) 0 0 (va_A [(h0, .inr (11, [.ref st, .int (nI N), .int (nI B), .ref rp, .int vrs, .int vrb, .int vhs, .int vca, .int vxs, .int vxb, .ref tp, .int (nI T), .int vfa, .int vbr, .int vba, .int vsp, .int vhe, .int vtk, .int vva, .ref cu, .ref lt, .ref od, .ref th, .ref be, .ref ln, .int (nI S), .ref ma, .int (nI M), .ref ah, .ref bh, .ref ik, .ref la, .ref lg, .ref ce, .int vto]))] sz) := by
  refine Met.ofW (cc := cX11_forget) (maxL := 3) (ret := (some .int)) (by decide) rfl ?_
  intro p e s m args below meth c s₁ Bd hml hv
  obtain ⟨rfl, hsz, hP, hK, hD0⟩ := hv
  have hx := Bd.exec
  have hb := Bd.bytes
  have hr := Bd.returns
  have hg : ∀ w ∈ GT, w.before ([.ref h0, .int n] : List Value).toArray s = true := fun w h => atoms_spec (ws := Cond.code yX11_forget cX11_forget 3 (some .int) :: GT) Bd.pre w (List.mem_cons_of_mem _ h)
  have hown : s.vm.findClass RX11 = some m.cls := findClass_of_methodNamed Bd.named
  have hlocks := Bd.notSynchronized
  subst hsz
  have hD := hD0.self (sz := s.heap.size)
  generalize hAe : va_A [(h0, .inr (11, [.ref st, .int (nI N), .int (nI B), .ref rp, .int vrs, .int vrb, .int vhs, .int vca, .int vxs, .int vxb, .ref tp, .int (nI T), .int vfa, .int vbr, .int vba, .int vsp, .int vhe, .int vtk, .int vva, .ref cu, .ref lt, .ref od, .ref th, .ref be, .ref ln, .int (nI S), .ref ma, .int (nI M), .ref ah, .ref bh, .ref ik, .ref la, .ref lg, .ref ce, .int vto]))] s.heap.size = A at hD ⊢
  have hA : ∀ q : Nat, s.heap.size ≤ q → A q := fun q h => by rw [← hAe]; exact Or.inr h
  have hS : va_S A s.heap s.heap [] := va_S.rf
  have hl := lv_entry ([.ref h0, .int n]) (n := 3) (Nat.le_of_ble_eq_true rfl)
  rw [lg_entry_eq]
  generalize (lg_sl ([.ref h0, .int n]) ++ List.replicate (3 - (lg_sl ([.ref h0, .int n])).length) Slot.unset).toArray = ls at hl ⊢
  have hl : lv_has ls 3 [(0, .ref h0), (1, .int n)] := hl
  refine lv_iload_n hx hb dX11_forget_0 rfl (lv_at hl 1 rfl) ?_
  refine lv_i2l (v := n.toInt64) hx hb dX11_forget_1 rfl ?_
  refine lv_lconst (v := 0) hx hb dX11_forget_2 (by decide) ?_
  refine lv_aload_n hx hb dX11_forget_3 rfl (lv_at hl 0 rfl) ?_
  refine va_get (D := (dC, dI)) (ci := 11) (v := .int (nI S)) (C := RX11) (T := TX11) (N := 35) hx hb hg inG11 hown hK.1 hP 0 rfl rfl 25 (by decide) (hg _ wt_903) (fun _ h9 => h9) rfl dX11_forget_4 ?_
  refine lv_i2l (v := (nI S).toInt64) hx hb dX11_forget_7 rfl ?_
  have hPc := hP.sub (ws' := []) [] rfl
  refine va_calli (va_runS (As := [.long n.toInt64, .long 0, .long ((nI S).toInt64)]) (rest := []) ⟨hx, hb, hml, hown, hg⟩ (c_X11_in l dC dI G _ n.toInt64 0 ((nI S).toInt64) ) (kwS hg mfX11_in wt_992 ⟨Nat.le_of_ble_eq_true rfl, Nat.le_of_ble_eq_true rfl⟩) (preSR hK hPc) rfl rfl hl.1 rfl (lv_room (Nat.le_of_ble_eq_true rfl)) dX11_forget_8 ⟨Nat.le_of_ble_eq_true rfl, Nat.le_of_ble_eq_true rfl⟩) hS (fun q h1 h2 => absurd h2 (Nat.not_le.mpr h1)) (fun q h => hA q (Nat.le_trans hS.1 h)) (fun r1 ur1 t H1 locs ht hvm w2 hB hz1 hk1 hS => ?_)
  have hP := keepR hP hk1
  obtain ⟨w2, w2x⟩ := w2
  try simp only [l_ii, show (0 : Int64).toInt = 0 from by decide] at w2
  subst w2
  refine lv_if_ne (tgt := 16) hx hb dX11_forget_11 (by decide) (fun c3 => ?_) (fun c3 => ?_)
  · skip
    have b4 := if10_p c3
    obtain ⟨nn, hnn, rfl⟩ : ∃ j : Nat, j < 9 ∧ n = nI j := by
      have t_b4 := b4
      have t_n0 : (nI N).toInt = (N : Int) := nI_toInt (by omega)
      have t_n1 : (nI B).toInt = (B : Int) := nI_toInt (by omega)
      have t_n2 : (nI T).toInt = (T : Int) := nI_toInt (by omega)
      have t_n3 : (nI S).toInt = (S : Int) := nI_toInt (by omega)
      have t_n4 : (nI M).toInt = (M : Int) := nI_toInt (by omega)
      exact i32_nat (by omega) (by omega)
    refine lv_aload_n hx hb dX11_forget_16 rfl (lv_at hl 0 rfl) ?_
    refine va_get (D := (dC, dI)) (ci := 11) (v := .int (nI S)) (C := RX11) (T := TX11) (N := 35) hx hb hg inG11 hown hK.1 hP 0 rfl rfl 25 (by decide) (hg _ wt_903) (fun _ h9 => h9) rfl dX11_forget_17 ?_
    refine lv_istore_n (lv' := [(2, .int (nI S)), (0, .ref h0), (1, .int (nI nn))]) hx hb dX11_forget_20 rfl hl (by decide) rfl (fun ls hl => ?_)
    refine lv_aload_n hx hb dX11_forget_21 rfl (lv_at hl 1 rfl) ?_
    refine lv_iload_n hx hb dX11_forget_22 rfl (lv_at hl 2 rfl) ?_
    refine va_put (D := (dC, dI)) (ci := 11) (v := .int (nI nn)) (ty := .int) (C := RX11) (T := TX11) (N := 35) hx hb hg inG11 tyX11 tyX11_ok nmX11 hown hK.1 hP hD hS 0 rfl rfl 25 (by decide) (hg _ wt_903) (fun _ h9 => h9) rfl (by decide +kernel) rfl rfl (Nat.le_of_ble_eq_true rfl) dX11_forget_23 (fun H locs hP hD hS => ?_)
    have hP : va_P (dC, dI) vwCl [(h0, .inr (11, [.ref st, .int (nI N), .int (nI B), .ref rp, .int vrs, .int vrb, .int vhs, .int vca, .int vxs, .int vxb, .ref tp, .int (nI T), .int vfa, .int vbr, .int vba, .int vsp, .int vhe, .int vtk, .int vva, .ref cu, .ref lt, .ref od, .ref th, .ref be, .ref ln, .int (nI nn), .ref ma, .int (nI M), .ref ah, .ref bh, .ref ik, .ref la, .ref lg, .ref ce, .int vto]))] H := hP
    have hD : va_D A [(h0, .inr (11, [.ref st, .int (nI N), .int (nI B), .ref rp, .int vrs, .int vrb, .int vhs, .int vca, .int vxs, .int vxb, .ref tp, .int (nI T), .int vfa, .int vbr, .int vba, .int vsp, .int vhe, .int vtk, .int vva, .ref cu, .ref lt, .ref od, .ref th, .ref be, .ref ln, .int (nI nn), .ref ma, .int (nI M), .ref ah, .ref bh, .ref ik, .ref la, .ref lg, .ref ce, .int vto]))] := hD
    refine lv_iload_n hx hb dX11_forget_26 rfl (lv_at hl 0 rfl) ?_
    have hpost : (nI S : Int32) = if 0 ≤ (nI nn).toInt ∧ (nI nn).toInt ≤ ((S : Nat) : Int) then nI S else -1 := by
      have t_b4 := b4
      have t_hnn := hnn
      have t_n0 : (nI N).toInt = (N : Int) := nI_toInt (by omega)
      have t_n1 : (nI B).toInt = (B : Int) := nI_toInt (by omega)
      have t_n2 : (nI T).toInt = (T : Int) := nI_toInt (by omega)
      have t_n3 : (nI S).toInt = (S : Int) := nI_toInt (by omega)
      have t_n4 : (nI M).toInt = (M : Int) := nI_toInt (by omega)
      have t_n5 : (nI nn).toInt = (nn : Int) := nI_toInt (by omega)
      have t_n0 : (nI N).toInt = (N : Int) := nI_toInt (by omega)
      have t_n1 : (nI B).toInt = (B : Int) := nI_toInt (by omega)
      have t_n2 : (nI T).toInt = (T : Int) := nI_toInt (by omega)
      have t_n3 : (nI S).toInt = (S : Int) := nI_toInt (by omega)
      have t_n4 : (nI M).toInt = (M : Int) := nI_toInt (by omega)
      have t_n5 : (nI nn).toInt = (nn : Int) := nI_toInt (by omega)
      first | rfl | ((repeat' split) <;> first | rfl | omega)
    have hP9 := hP.sub (ws' := [(h0, .inr (11, [.ref st, .int (nI N), .int (nI B), .ref rp, .int vrs, .int vrb, .int vhs, .int vca, .int vxs, .int vxb, .ref tp, .int (nI T), .int vfa, .int vbr, .int vba, .int vsp, .int vhe, .int vtk, .int vva, .ref cu, .ref lt, .ref od, .ref th, .ref be, .ref ln, .int (nI nn), .ref ma, .int (nI M), .ref ah, .ref bh, .ref ik, .ref la, .ref lg, .ref ce, .int vto]))]) [0] rfl
    have hD9 := hD.sub (ws' := [(h0, .inr (11, [.ref st, .int (nI N), .int (nI B), .ref rp, .int vrs, .int vrb, .int vhs, .int vca, .int vxs, .int vxb, .ref tp, .int (nI T), .int vfa, .int vbr, .int vba, .int vsp, .int vhe, .int vtk, .int vva, .ref cu, .ref lt, .ref od, .ref th, .ref be, .ref ln, .int (nI nn), .ref ma, .int (nI M), .ref ah, .ref bh, .ref ik, .ref la, .ref lg, .ref ce, .int vto]))]) [0] (by decide) rfl
    refine W.widen (k := 0) (n := 0) (by omega) (by omega) ?_
    exact W.iret (v := nI S) hx hb hr (fun t ht hW => ⟨⟨nI S, nn, rfl, ⟨hpost, (by have t_b4 := b4; have t_hnn := hnn; have t_n0 : (nI N).toInt = (N : Int) := nI_toInt (by omega); have t_n1 : (nI B).toInt = (B : Int) := nI_toInt (by omega); have t_n2 : (nI T).toInt = (T : Int) := nI_toInt (by omega); have t_n3 : (nI S).toInt = (S : Int) := nI_toInt (by omega); have t_n4 : (nI M).toInt = (M : Int) := nI_toInt (by omega); have t_n5 : (nI nn).toInt = (nn : Int) := nI_toInt (by omega); refine ⟨?_, by omega⟩; split <;> first | exact (nI_clamp (by omega)).symm | rfl | omega)⟩, ⟨by rw [ht]; exact hP9, hD9⟩⟩, hS.F ht⟩) hS.2.2 dX11_forget_27
  · skip
    have b5 := if10_n c3
    refine lv_iconst (v := (-1)) hx hb dX11_forget_14 (by decide) ?_
    have hpost : ((-1) : Int32) = if 0 ≤ n.toInt ∧ n.toInt ≤ ((S : Nat) : Int) then nI S else -1 := by
      have t_b5 := b5
      have t_n0 : (nI N).toInt = (N : Int) := nI_toInt (by omega)
      have t_n1 : (nI B).toInt = (B : Int) := nI_toInt (by omega)
      have t_n2 : (nI T).toInt = (T : Int) := nI_toInt (by omega)
      have t_n3 : (nI S).toInt = (S : Int) := nI_toInt (by omega)
      have t_n4 : (nI M).toInt = (M : Int) := nI_toInt (by omega)
      have t_n0 : (nI N).toInt = (N : Int) := nI_toInt (by omega)
      have t_n1 : (nI B).toInt = (B : Int) := nI_toInt (by omega)
      have t_n2 : (nI T).toInt = (T : Int) := nI_toInt (by omega)
      have t_n3 : (nI S).toInt = (S : Int) := nI_toInt (by omega)
      have t_n4 : (nI M).toInt = (M : Int) := nI_toInt (by omega)
      first | rfl | ((repeat' split) <;> first | rfl | omega)
    have hP9 := hP.sub (ws' := [(h0, .inr (11, [.ref st, .int (nI N), .int (nI B), .ref rp, .int vrs, .int vrb, .int vhs, .int vca, .int vxs, .int vxb, .ref tp, .int (nI T), .int vfa, .int vbr, .int vba, .int vsp, .int vhe, .int vtk, .int vva, .ref cu, .ref lt, .ref od, .ref th, .ref be, .ref ln, .int (nI S), .ref ma, .int (nI M), .ref ah, .ref bh, .ref ik, .ref la, .ref lg, .ref ce, .int vto]))]) [0] rfl
    have hD9 := hD.sub (ws' := [(h0, .inr (11, [.ref st, .int (nI N), .int (nI B), .ref rp, .int vrs, .int vrb, .int vhs, .int vca, .int vxs, .int vxb, .ref tp, .int (nI T), .int vfa, .int vbr, .int vba, .int vsp, .int vhe, .int vtk, .int vva, .ref cu, .ref lt, .ref od, .ref th, .ref be, .ref ln, .int (nI S), .ref ma, .int (nI M), .ref ah, .ref bh, .ref ik, .ref la, .ref lg, .ref ce, .int vto]))]) [0] (by decide) rfl
    refine W.widen (k := 0) (n := 0) (by omega) (by omega) ?_
    exact W.iret (v := (-1)) hx hb hr (fun t ht hW => ⟨⟨(-1), S, rfl, ⟨hpost, (by have t_b5 := b5; have t_n0 : (nI N).toInt = (N : Int) := nI_toInt (by omega); have t_n1 : (nI B).toInt = (B : Int) := nI_toInt (by omega); have t_n2 : (nI T).toInt = (T : Int) := nI_toInt (by omega); have t_n3 : (nI S).toInt = (S : Int) := nI_toInt (by omega); have t_n4 : (nI M).toInt = (M : Int) := nI_toInt (by omega); refine ⟨?_, by omega⟩; split <;> first | exact (nI_clamp (by omega)).symm | rfl | omega)⟩, ⟨by rw [ht]; exact hP9, hD9⟩⟩, hS.F ht⟩) hS.2.2 dX11_forget_15

set_option maxHeartbeats 1000000 in
set_option maxRecDepth 100000 in
theorem c_X11_wipeE (l : Launch) (dC : Nat → ClassId) (dI : Nat → Nat → Nat) (G : Nat → ClassId) (sz : Nat) (h0 st N B rp tp T cu lt od th be ln S ma M ah bh ik la lg ce : Nat) (n vrs vrb vhs vca vxs vxb vfa vbr vba vsp vhe vtk vva vto : Int32) (hN : N ≤ 10) (hB : B ≤ 6) (hT : T ≤ 320) (hS0 : S ≤ 8) (hM : M ≤ 6) : Met l yX11_wipe (Cond.code yX11_wipe cX11_wipe 3 (some .int) :: GT) ({ frames := 1, cells := 0, slots := 0, locals := 25 } : Room) (PcW [.ref h0, .int n] dC dI G [(h0, .inr (11, [.ref st, .int (nI N), .int (nI B), .ref rp, .int vrs, .int vrb, .int vhs, .int vca, .int vxs, .int vxb, .ref tp, .int (nI T), .int vfa, .int vbr, .int vba, .int vsp, .int vhe, .int vtk, .int vva, .ref cu, .ref lt, .ref od, .ref th, .ref be, .ref ln, .int (nI S), .ref ma, .int (nI M), .ref ah, .ref bh, .ref ik, .ref la, .ref lg, .ref ce, .int vto]))] sz) (va_Qi (fun (r : Int32) (u : Nat) => match u with | oM => (r = if 0 ≤ n.toInt ∧ n.toInt ≤ ((M : Nat) : Int) then nI M else -1) ∧ oM = (if 0 ≤ n.toInt ∧ n.toInt ≤ ((M : Nat) : Int) then n.toNatClampNeg else M) ∧ oM ≤ 6) (fun (u : Nat) (t : State) => match u with | oM => va_P (dC, dI) vwCl [(h0, .inr (11, [.ref st, .int (nI N), .int (nI B), .ref rp, .int vrs, .int vrb, .int vhs, .int vca, .int vxs, .int vxb, .ref tp, .int (nI T), .int vfa, .int vbr, .int vba, .int vsp, .int vhe, .int vtk, .int vva, .ref cu, .ref lt, .ref od, .ref th, .ref be, .ref ln, .int (nI S), .ref ma, .int (nI oM), .ref ah, .ref bh, .ref ik, .ref la, .ref lg, .ref ce, .int vto]))] t.heap ∧ va_D (va_A [(h0, .inr (11, [.ref st, .int (nI N), .int (nI B), .ref rp, .int vrs, .int vrb, .int vhs, .int vca, .int vxs, .int vxb, .ref tp, .int (nI T), .int vfa, .int vbr, .int vba, .int vsp, .int vhe, .int vtk, .int vva, .ref cu, .ref lt, .ref od, .ref th, .ref be, .ref ln, .int (nI S), .ref ma, .int (nI M), .ref ah, .ref bh, .ref ik, .ref la, .ref lg, .ref ce, .int vto]))] sz) [(h0, .inr (11, [.ref st, .int (nI N), .int (nI B), .ref rp, .int vrs, .int vrb, .int vhs, .int vca, .int vxs, .int vxb, .ref tp, .int (nI T), .int vfa, .int vbr, .int vba, .int vsp, .int vhe, .int vtk, .int vva, .ref cu, .ref lt, .ref od, .ref th, .ref be, .ref ln, .int (nI S), .ref ma, .int (nI oM), .ref ah, .ref bh, .ref ik, .ref la, .ref lg, .ref ce, .int vto]))]) (va_A [(h0, .inr (11, [.ref st, .int (nI N), .int (nI B), .ref rp, .int vrs, .int vrb, .int vhs, .int vca, .int vxs, .int vxb, .ref tp, .int (nI T), .int vfa, .int vbr, .int vba, .int vsp, .int vhe, .int vtk, .int vva, .ref cu, .ref lt, .ref od, .ref th, .ref be, .ref ln, .int (nI S), .ref ma, .int (nI M), .ref ah, .ref bh, .ref ik, .ref la, .ref lg, .ref ce, .int vto]))] sz)) 0 0 (va_A [(h0, .inr (11, [.ref st, .int (nI N), .int (nI B), .ref rp, .int vrs, .int vrb, .int vhs, .int vca, .int vxs, .int vxb, .ref tp, .int (nI T), .int vfa, .int vbr, .int vba, .int vsp, .int vhe, .int vtk, .int vva, .ref cu, .ref lt, .ref od, .ref th, .ref be, .ref ln, .int (nI S), .ref ma, .int (nI M), .ref ah, .ref bh, .ref ik, .ref la, .ref lg, .ref ce, .int vto]))] sz) := by
  refine Met.ofW (cc := cX11_wipe) (maxL := 3) (ret := (some .int)) (by decide) rfl ?_
  intro p e s m args below meth c s₁ Bd hml hv
  obtain ⟨rfl, hsz, hP, hK, hD0⟩ := hv
  have hx := Bd.exec
  have hb := Bd.bytes
  have hr := Bd.returns
  have hg : ∀ w ∈ GT, w.before ([.ref h0, .int n] : List Value).toArray s = true := fun w h => atoms_spec (ws := Cond.code yX11_wipe cX11_wipe 3 (some .int) :: GT) Bd.pre w (List.mem_cons_of_mem _ h)
  have hown : s.vm.findClass RX11 = some m.cls := findClass_of_methodNamed Bd.named
  have hlocks := Bd.notSynchronized
  subst hsz
  have hD := hD0.self (sz := s.heap.size)
  generalize hAe : va_A [(h0, .inr (11, [.ref st, .int (nI N), .int (nI B), .ref rp, .int vrs, .int vrb, .int vhs, .int vca, .int vxs, .int vxb, .ref tp, .int (nI T), .int vfa, .int vbr, .int vba, .int vsp, .int vhe, .int vtk, .int vva, .ref cu, .ref lt, .ref od, .ref th, .ref be, .ref ln, .int (nI S), .ref ma, .int (nI M), .ref ah, .ref bh, .ref ik, .ref la, .ref lg, .ref ce, .int vto]))] s.heap.size = A at hD ⊢
  have hA : ∀ q : Nat, s.heap.size ≤ q → A q := fun q h => by rw [← hAe]; exact Or.inr h
  have hS : va_S A s.heap s.heap [] := va_S.rf
  have hl := lv_entry ([.ref h0, .int n]) (n := 3) (Nat.le_of_ble_eq_true rfl)
  rw [lg_entry_eq]
  generalize (lg_sl ([.ref h0, .int n]) ++ List.replicate (3 - (lg_sl ([.ref h0, .int n])).length) Slot.unset).toArray = ls at hl ⊢
  have hl : lv_has ls 3 [(0, .ref h0), (1, .int n)] := hl
  refine lv_iload_n hx hb dX11_wipe_0 rfl (lv_at hl 1 rfl) ?_
  refine lv_i2l (v := n.toInt64) hx hb dX11_wipe_1 rfl ?_
  refine lv_lconst (v := 0) hx hb dX11_wipe_2 (by decide) ?_
  refine lv_aload_n hx hb dX11_wipe_3 rfl (lv_at hl 0 rfl) ?_
  refine va_get (D := (dC, dI)) (ci := 11) (v := .int (nI M)) (C := RX11) (T := TX11) (N := 35) hx hb hg inG11 hown hK.1 hP 0 rfl rfl 27 (by decide) (hg _ wt_905) (fun _ h9 => h9) rfl dX11_wipe_4 ?_
  refine lv_i2l (v := (nI M).toInt64) hx hb dX11_wipe_7 rfl ?_
  have hPc := hP.sub (ws' := []) [] rfl
  refine va_calli (va_runS (As := [.long n.toInt64, .long 0, .long ((nI M).toInt64)]) (rest := []) ⟨hx, hb, hml, hown, hg⟩ (c_X11_in l dC dI G _ n.toInt64 0 ((nI M).toInt64) ) (kwS hg mfX11_in wt_992 ⟨Nat.le_of_ble_eq_true rfl, Nat.le_of_ble_eq_true rfl⟩) (preSR hK hPc) rfl rfl hl.1 rfl (lv_room (Nat.le_of_ble_eq_true rfl)) dX11_wipe_8 ⟨Nat.le_of_ble_eq_true rfl, Nat.le_of_ble_eq_true rfl⟩) hS (fun q h1 h2 => absurd h2 (Nat.not_le.mpr h1)) (fun q h => hA q (Nat.le_trans hS.1 h)) (fun r1 ur1 t H1 locs ht hvm w2 hB hz1 hk1 hS => ?_)
  have hP := keepR hP hk1
  obtain ⟨w2, w2x⟩ := w2
  try simp only [l_ii, show (0 : Int64).toInt = 0 from by decide] at w2
  subst w2
  refine lv_if_ne (tgt := 16) hx hb dX11_wipe_11 (by decide) (fun c3 => ?_) (fun c3 => ?_)
  · skip
    have b4 := if10_p c3
    obtain ⟨nn, hnn, rfl⟩ : ∃ j : Nat, j < 7 ∧ n = nI j := by
      have t_b4 := b4
      have t_n0 : (nI N).toInt = (N : Int) := nI_toInt (by omega)
      have t_n1 : (nI B).toInt = (B : Int) := nI_toInt (by omega)
      have t_n2 : (nI T).toInt = (T : Int) := nI_toInt (by omega)
      have t_n3 : (nI S).toInt = (S : Int) := nI_toInt (by omega)
      have t_n4 : (nI M).toInt = (M : Int) := nI_toInt (by omega)
      exact i32_nat (by omega) (by omega)
    refine lv_aload_n hx hb dX11_wipe_16 rfl (lv_at hl 0 rfl) ?_
    refine va_get (D := (dC, dI)) (ci := 11) (v := .int (nI M)) (C := RX11) (T := TX11) (N := 35) hx hb hg inG11 hown hK.1 hP 0 rfl rfl 27 (by decide) (hg _ wt_905) (fun _ h9 => h9) rfl dX11_wipe_17 ?_
    refine lv_istore_n (lv' := [(2, .int (nI M)), (0, .ref h0), (1, .int (nI nn))]) hx hb dX11_wipe_20 rfl hl (by decide) rfl (fun ls hl => ?_)
    refine lv_aload_n hx hb dX11_wipe_21 rfl (lv_at hl 1 rfl) ?_
    refine lv_iload_n hx hb dX11_wipe_22 rfl (lv_at hl 2 rfl) ?_
    refine va_put (D := (dC, dI)) (ci := 11) (v := .int (nI nn)) (ty := .int) (C := RX11) (T := TX11) (N := 35) hx hb hg inG11 tyX11 tyX11_ok nmX11 hown hK.1 hP hD hS 0 rfl rfl 27 (by decide) (hg _ wt_905) (fun _ h9 => h9) rfl (by decide +kernel) rfl rfl (Nat.le_of_ble_eq_true rfl) dX11_wipe_23 (fun H locs hP hD hS => ?_)
    have hP : va_P (dC, dI) vwCl [(h0, .inr (11, [.ref st, .int (nI N), .int (nI B), .ref rp, .int vrs, .int vrb, .int vhs, .int vca, .int vxs, .int vxb, .ref tp, .int (nI T), .int vfa, .int vbr, .int vba, .int vsp, .int vhe, .int vtk, .int vva, .ref cu, .ref lt, .ref od, .ref th, .ref be, .ref ln, .int (nI S), .ref ma, .int (nI nn), .ref ah, .ref bh, .ref ik, .ref la, .ref lg, .ref ce, .int vto]))] H := hP
    have hD : va_D A [(h0, .inr (11, [.ref st, .int (nI N), .int (nI B), .ref rp, .int vrs, .int vrb, .int vhs, .int vca, .int vxs, .int vxb, .ref tp, .int (nI T), .int vfa, .int vbr, .int vba, .int vsp, .int vhe, .int vtk, .int vva, .ref cu, .ref lt, .ref od, .ref th, .ref be, .ref ln, .int (nI S), .ref ma, .int (nI nn), .ref ah, .ref bh, .ref ik, .ref la, .ref lg, .ref ce, .int vto]))] := hD
    refine lv_iload_n hx hb dX11_wipe_26 rfl (lv_at hl 0 rfl) ?_
    have hpost : (nI M : Int32) = if 0 ≤ (nI nn).toInt ∧ (nI nn).toInt ≤ ((M : Nat) : Int) then nI M else -1 := by
      have t_b4 := b4
      have t_hnn := hnn
      have t_n0 : (nI N).toInt = (N : Int) := nI_toInt (by omega)
      have t_n1 : (nI B).toInt = (B : Int) := nI_toInt (by omega)
      have t_n2 : (nI T).toInt = (T : Int) := nI_toInt (by omega)
      have t_n3 : (nI S).toInt = (S : Int) := nI_toInt (by omega)
      have t_n4 : (nI M).toInt = (M : Int) := nI_toInt (by omega)
      have t_n5 : (nI nn).toInt = (nn : Int) := nI_toInt (by omega)
      have t_n0 : (nI N).toInt = (N : Int) := nI_toInt (by omega)
      have t_n1 : (nI B).toInt = (B : Int) := nI_toInt (by omega)
      have t_n2 : (nI T).toInt = (T : Int) := nI_toInt (by omega)
      have t_n3 : (nI S).toInt = (S : Int) := nI_toInt (by omega)
      have t_n4 : (nI M).toInt = (M : Int) := nI_toInt (by omega)
      have t_n5 : (nI nn).toInt = (nn : Int) := nI_toInt (by omega)
      first | rfl | ((repeat' split) <;> first | rfl | omega)
    have hP9 := hP.sub (ws' := [(h0, .inr (11, [.ref st, .int (nI N), .int (nI B), .ref rp, .int vrs, .int vrb, .int vhs, .int vca, .int vxs, .int vxb, .ref tp, .int (nI T), .int vfa, .int vbr, .int vba, .int vsp, .int vhe, .int vtk, .int vva, .ref cu, .ref lt, .ref od, .ref th, .ref be, .ref ln, .int (nI S), .ref ma, .int (nI nn), .ref ah, .ref bh, .ref ik, .ref la, .ref lg, .ref ce, .int vto]))]) [0] rfl
    have hD9 := hD.sub (ws' := [(h0, .inr (11, [.ref st, .int (nI N), .int (nI B), .ref rp, .int vrs, .int vrb, .int vhs, .int vca, .int vxs, .int vxb, .ref tp, .int (nI T), .int vfa, .int vbr, .int vba, .int vsp, .int vhe, .int vtk, .int vva, .ref cu, .ref lt, .ref od, .ref th, .ref be, .ref ln, .int (nI S), .ref ma, .int (nI nn), .ref ah, .ref bh, .ref ik, .ref la, .ref lg, .ref ce, .int vto]))]) [0] (by decide) rfl
    refine W.widen (k := 0) (n := 0) (by omega) (by omega) ?_
    exact W.iret (v := nI M) hx hb hr (fun t ht hW => ⟨⟨nI M, nn, rfl, ⟨hpost, (by have t_b4 := b4; have t_hnn := hnn; have t_n0 : (nI N).toInt = (N : Int) := nI_toInt (by omega); have t_n1 : (nI B).toInt = (B : Int) := nI_toInt (by omega); have t_n2 : (nI T).toInt = (T : Int) := nI_toInt (by omega); have t_n3 : (nI S).toInt = (S : Int) := nI_toInt (by omega); have t_n4 : (nI M).toInt = (M : Int) := nI_toInt (by omega); have t_n5 : (nI nn).toInt = (nn : Int) := nI_toInt (by omega); refine ⟨?_, by omega⟩; split <;> first | exact (nI_clamp (by omega)).symm | rfl | omega)⟩, ⟨by rw [ht]; exact hP9, hD9⟩⟩, hS.F ht⟩) hS.2.2 dX11_wipe_27
  · skip
    have b5 := if10_n c3
    refine lv_iconst (v := (-1)) hx hb dX11_wipe_14 (by decide) ?_
    have hpost : ((-1) : Int32) = if 0 ≤ n.toInt ∧ n.toInt ≤ ((M : Nat) : Int) then nI M else -1 := by
      have t_b5 := b5
      have t_n0 : (nI N).toInt = (N : Int) := nI_toInt (by omega)
      have t_n1 : (nI B).toInt = (B : Int) := nI_toInt (by omega)
      have t_n2 : (nI T).toInt = (T : Int) := nI_toInt (by omega)
      have t_n3 : (nI S).toInt = (S : Int) := nI_toInt (by omega)
      have t_n4 : (nI M).toInt = (M : Int) := nI_toInt (by omega)
      have t_n0 : (nI N).toInt = (N : Int) := nI_toInt (by omega)
      have t_n1 : (nI B).toInt = (B : Int) := nI_toInt (by omega)
      have t_n2 : (nI T).toInt = (T : Int) := nI_toInt (by omega)
      have t_n3 : (nI S).toInt = (S : Int) := nI_toInt (by omega)
      have t_n4 : (nI M).toInt = (M : Int) := nI_toInt (by omega)
      first | rfl | ((repeat' split) <;> first | rfl | omega)
    have hP9 := hP.sub (ws' := [(h0, .inr (11, [.ref st, .int (nI N), .int (nI B), .ref rp, .int vrs, .int vrb, .int vhs, .int vca, .int vxs, .int vxb, .ref tp, .int (nI T), .int vfa, .int vbr, .int vba, .int vsp, .int vhe, .int vtk, .int vva, .ref cu, .ref lt, .ref od, .ref th, .ref be, .ref ln, .int (nI S), .ref ma, .int (nI M), .ref ah, .ref bh, .ref ik, .ref la, .ref lg, .ref ce, .int vto]))]) [0] rfl
    have hD9 := hD.sub (ws' := [(h0, .inr (11, [.ref st, .int (nI N), .int (nI B), .ref rp, .int vrs, .int vrb, .int vhs, .int vca, .int vxs, .int vxb, .ref tp, .int (nI T), .int vfa, .int vbr, .int vba, .int vsp, .int vhe, .int vtk, .int vva, .ref cu, .ref lt, .ref od, .ref th, .ref be, .ref ln, .int (nI S), .ref ma, .int (nI M), .ref ah, .ref bh, .ref ik, .ref la, .ref lg, .ref ce, .int vto]))]) [0] (by decide) rfl
    refine W.widen (k := 0) (n := 0) (by omega) (by omega) ?_
    exact W.iret (v := (-1)) hx hb hr (fun t ht hW => ⟨⟨(-1), M, rfl, ⟨hpost, (by have t_b5 := b5; have t_n0 : (nI N).toInt = (N : Int) := nI_toInt (by omega); have t_n1 : (nI B).toInt = (B : Int) := nI_toInt (by omega); have t_n2 : (nI T).toInt = (T : Int) := nI_toInt (by omega); have t_n3 : (nI S).toInt = (S : Int) := nI_toInt (by omega); have t_n4 : (nI M).toInt = (M : Int) := nI_toInt (by omega); refine ⟨?_, by omega⟩; split <;> first | exact (nI_clamp (by omega)).symm | rfl | omega)⟩, ⟨by rw [ht]; exact hP9, hD9⟩⟩, hS.F ht⟩) hS.2.2 dX11_wipe_15

set_option maxHeartbeats 1000000 in
set_option maxRecDepth 100000 in
theorem c_X11_keepE (l : Launch) (dC : Nat → ClassId) (dI : Nat → Nat → Nat) (G : Nat → ClassId) (sz : Nat) (h0 st N B rp tp T cu lt od th be ln S ma M ah bh ik la lg ce : Nat) (k vrs vrb vhs vca vxs vxb vfa vbr vba vsp vhe vtk vva vto : Int32) (fst : Nat → Int32) (fik : Nat → Int32) (hN : N ≤ 10) (hB : B ≤ 6) (hT : T ≤ 320) (hS0 : S ≤ 8) (hM : M ≤ 6) (hst : OKS fst) : Met l yX11_keep (Cond.code yX11_keep cX11_keep 3 (some .int) :: GT) ({ frames := 1, cells := 0, slots := 0, locals := 25 } : Room) (PcW [.ref h0, .int k] dC dI G [(h0, .inr (11, [.ref st, .int (nI N), .int (nI B), .ref rp, .int vrs, .int vrb, .int vhs, .int vca, .int vxs, .int vxb, .ref tp, .int (nI T), .int vfa, .int vbr, .int vba, .int vsp, .int vhe, .int vtk, .int vva, .ref cu, .ref lt, .ref od, .ref th, .ref be, .ref ln, .int (nI S), .ref ma, .int (nI M), .ref ah, .ref bh, .ref ik, .ref la, .ref lg, .ref ce, .int vto])), (st, .inl (G 0, 196, .inl fst)), (ik, .inl (G 2, 2, .inl fik))] sz) (va_Qi (fun (r : Int32) (u : (Nat → Int32) × (Nat → Int32)) => match u with | (ost, oik) => (r = if (0 ≤ k.toInt ∧ k.toInt < 2) then (if fik k.toNatClampNeg = 0 then 0 else 1) else -1) ∧ OKS ost ∧ oik = (if (0 ≤ k.toInt ∧ k.toInt < 2) then upd fik k.toNatClampNeg 1 else fik)) (fun (u : (Nat → Int32) × (Nat → Int32)) (t : State) => match u with | (ost, oik) => va_P (dC, dI) vwCl [(h0, .inr (11, [.ref st, .int (nI N), .int (nI B), .ref rp, .int vrs, .int vrb, .int vhs, .int vca, .int vxs, .int vxb, .ref tp, .int (nI T), .int vfa, .int vbr, .int vba, .int vsp, .int vhe, .int vtk, .int vva, .ref cu, .ref lt, .ref od, .ref th, .ref be, .ref ln, .int (nI S), .ref ma, .int (nI M), .ref ah, .ref bh, .ref ik, .ref la, .ref lg, .ref ce, .int vto])), (st, .inl (G 0, 196, .inl ost)), (ik, .inl (G 2, 2, .inl oik))] t.heap ∧ va_D (va_A [(h0, .inr (11, [.ref st, .int (nI N), .int (nI B), .ref rp, .int vrs, .int vrb, .int vhs, .int vca, .int vxs, .int vxb, .ref tp, .int (nI T), .int vfa, .int vbr, .int vba, .int vsp, .int vhe, .int vtk, .int vva, .ref cu, .ref lt, .ref od, .ref th, .ref be, .ref ln, .int (nI S), .ref ma, .int (nI M), .ref ah, .ref bh, .ref ik, .ref la, .ref lg, .ref ce, .int vto])), (st, .inl (G 0, 196, .inl fst)), (ik, .inl (G 2, 2, .inl fik))] sz) [(h0, .inr (11, [.ref st, .int (nI N), .int (nI B), .ref rp, .int vrs, .int vrb, .int vhs, .int vca, .int vxs, .int vxb, .ref tp, .int (nI T), .int vfa, .int vbr, .int vba, .int vsp, .int vhe, .int vtk, .int vva, .ref cu, .ref lt, .ref od, .ref th, .ref be, .ref ln, .int (nI S), .ref ma, .int (nI M), .ref ah, .ref bh, .ref ik, .ref la, .ref lg, .ref ce, .int vto])), (st, .inl (G 0, 196, .inl ost)), (ik, .inl (G 2, 2, .inl oik))]) (va_A [(h0, .inr (11, [.ref st, .int (nI N), .int (nI B), .ref rp, .int vrs, .int vrb, .int vhs, .int vca, .int vxs, .int vxb, .ref tp, .int (nI T), .int vfa, .int vbr, .int vba, .int vsp, .int vhe, .int vtk, .int vva, .ref cu, .ref lt, .ref od, .ref th, .ref be, .ref ln, .int (nI S), .ref ma, .int (nI M), .ref ah, .ref bh, .ref ik, .ref la, .ref lg, .ref ce, .int vto])), (st, .inl (G 0, 196, .inl fst)), (ik, .inl (G 2, 2, .inl fik))] sz)) 0 0 (va_A [(h0, .inr (11, [.ref st, .int (nI N), .int (nI B), .ref rp, .int vrs, .int vrb, .int vhs, .int vca, .int vxs, .int vxb, .ref tp, .int (nI T), .int vfa, .int vbr, .int vba, .int vsp, .int vhe, .int vtk, .int vva, .ref cu, .ref lt, .ref od, .ref th, .ref be, .ref ln, .int (nI S), .ref ma, .int (nI M), .ref ah, .ref bh, .ref ik, .ref la, .ref lg, .ref ce, .int vto])), (st, .inl (G 0, 196, .inl fst)), (ik, .inl (G 2, 2, .inl fik))] sz) := by
  refine Met.ofW (cc := cX11_keep) (maxL := 3) (ret := (some .int)) (by decide) rfl ?_
  intro p e s m args below meth c s₁ Bd hml hv
  obtain ⟨rfl, hsz, hP, hK, hD0⟩ := hv
  have hx := Bd.exec
  have hb := Bd.bytes
  have hr := Bd.returns
  have hg : ∀ w ∈ GT, w.before ([.ref h0, .int k] : List Value).toArray s = true := fun w h => atoms_spec (ws := Cond.code yX11_keep cX11_keep 3 (some .int) :: GT) Bd.pre w (List.mem_cons_of_mem _ h)
  have hown : s.vm.findClass RX11 = some m.cls := findClass_of_methodNamed Bd.named
  have hlocks := Bd.notSynchronized
  subst hsz
  have hD := hD0.self (sz := s.heap.size)
  generalize hAe : va_A [(h0, .inr (11, [.ref st, .int (nI N), .int (nI B), .ref rp, .int vrs, .int vrb, .int vhs, .int vca, .int vxs, .int vxb, .ref tp, .int (nI T), .int vfa, .int vbr, .int vba, .int vsp, .int vhe, .int vtk, .int vva, .ref cu, .ref lt, .ref od, .ref th, .ref be, .ref ln, .int (nI S), .ref ma, .int (nI M), .ref ah, .ref bh, .ref ik, .ref la, .ref lg, .ref ce, .int vto])), (st, .inl (G 0, 196, .inl fst)), (ik, .inl (G 2, 2, .inl fik))] s.heap.size = A at hD ⊢
  have hA : ∀ q : Nat, s.heap.size ≤ q → A q := fun q h => by rw [← hAe]; exact Or.inr h
  have hS : va_S A s.heap s.heap [] := va_S.rf
  have hl := lv_entry ([.ref h0, .int k]) (n := 3) (Nat.le_of_ble_eq_true rfl)
  rw [lg_entry_eq]
  generalize (lg_sl ([.ref h0, .int k]) ++ List.replicate (3 - (lg_sl ([.ref h0, .int k])).length) Slot.unset).toArray = ls at hl ⊢
  have hl : lv_has ls 3 [(0, .ref h0), (1, .int k)] := hl
  refine lv_iload_n hx hb dX11_keep_0 rfl (lv_at hl 1 rfl) ?_
  refine lv_i2l (v := k.toInt64) hx hb dX11_keep_1 rfl ?_
  refine lv_lconst (v := 0) hx hb dX11_keep_2 (by decide) ?_
  refine lv_lconst (v := 1) hx hb dX11_keep_3 (by decide) ?_
  have hPc := hP.sub (ws' := []) [] rfl
  refine va_calli (va_runS (As := [.long k.toInt64, .long 0, .long 1]) (rest := []) ⟨hx, hb, hml, hown, hg⟩ (c_X11_in l dC dI G _ k.toInt64 0 1 ) (kwS hg mfX11_in wt_992 ⟨Nat.le_of_ble_eq_true rfl, Nat.le_of_ble_eq_true rfl⟩) (preSR hK hPc) rfl rfl hl.1 rfl (lv_room (Nat.le_of_ble_eq_true rfl)) dX11_keep_4 ⟨Nat.le_of_ble_eq_true rfl, Nat.le_of_ble_eq_true rfl⟩) hS (fun q h1 h2 => absurd h2 (Nat.not_le.mpr h1)) (fun q h => hA q (Nat.le_trans hS.1 h)) (fun r1 ur1 t H1 locs ht hvm w2 hB hz1 hk1 hS => ?_)
  have hP := keepR hP hk1
  obtain ⟨w2, w2x⟩ := w2
  try simp only [l_ii, show (0 : Int64).toInt = 0 from by decide, show (1 : Int64).toInt = 1 from by decide] at w2
  subst w2
  refine lv_if_ne (tgt := 12) hx hb dX11_keep_7 (by decide) (fun c3 => ?_) (fun c3 => ?_)
  · skip
    have b4 := if10_p c3
    obtain ⟨kk, hkk, rfl⟩ : ∃ j : Nat, j < 2 ∧ k = nI j := by
      have t_b4 := b4
      have t_n0 : (nI N).toInt = (N : Int) := nI_toInt (by omega)
      have t_n1 : (nI B).toInt = (B : Int) := nI_toInt (by omega)
      have t_n2 : (nI T).toInt = (T : Int) := nI_toInt (by omega)
      have t_n3 : (nI S).toInt = (S : Int) := nI_toInt (by omega)
      have t_n4 : (nI M).toInt = (M : Int) := nI_toInt (by omega)
      exact i32_nat (by omega) (by omega)
    refine lv_aload_n hx hb dX11_keep_12 rfl (lv_at hl 0 rfl) ?_
    refine lv_iconst (v := 0) hx hb dX11_keep_13 (by decide) ?_
    refine lv_bipush (v := 49) hx hb dX11_keep_14 (by decide) ?_
    refine lv_iload_n hx hb dX11_keep_16 rfl (lv_at hl 1 rfl) ?_
    refine lv_iconst (v := 1) hx hb dX11_keep_17 (by decide) ?_
    refine lv_iadd hx hb dX11_keep_18 ?_
    refine lv_cg (y := nI (kk + 1)) (by rw [show (1 : Int32) = nI 1 from rfl]; exact nI_add _ _) ?_
    refine lv_imul hx hb dX11_keep_19 ?_
    refine lv_cg (y := nI (49 * (kk + 1))) (by rw [show (49 : Int32) = nI 49 from rfl]; exact pk_mul _ _) ?_
    have hPc := hP.sub (ws' := [(h0, .inr (11, [.ref st, .int (nI N), .int (nI B), .ref rp, .int vrs, .int vrb, .int vhs, .int vca, .int vxs, .int vxb, .ref tp, .int (nI T), .int vfa, .int vbr, .int vba, .int vsp, .int vhe, .int vtk, .int vva, .ref cu, .ref lt, .ref od, .ref th, .ref be, .ref ln, .int (nI S), .ref ma, .int (nI M), .ref ah, .ref bh, .ref ik, .ref la, .ref lg, .ref ce, .int vto])), (st, .inl (G 0, 196, .inl fst))]) [0, 1] rfl
    have hDc := hD.sub (ws' := [(h0, .inr (11, [.ref st, .int (nI N), .int (nI B), .ref rp, .int vrs, .int vrb, .int vhs, .int vca, .int vxs, .int vxb, .ref tp, .int (nI T), .int vfa, .int vbr, .int vba, .int vsp, .int vhe, .int vtk, .int vva, .ref cu, .ref lt, .ref od, .ref th, .ref be, .ref ln, .int (nI S), .ref ma, .int (nI M), .ref ah, .ref bh, .ref ik, .ref la, .ref lg, .ref ce, .int vto])), (st, .inl (G 0, 196, .inl fst))]) [0, 1] (by decide) rfl
    have hFc := va_free (wc := [(h0, .inr (11, [.ref st, .int (nI N), .int (nI B), .ref rp, .int vrs, .int vrb, .int vhs, .int vca, .int vxs, .int vxb, .ref tp, .int (nI T), .int vfa, .int vbr, .int vba, .int vsp, .int vhe, .int vtk, .int vva, .ref cu, .ref lt, .ref od, .ref th, .ref be, .ref ln, .int (nI S), .ref ma, .int (nI M), .ref ah, .ref bh, .ref ik, .ref la, .ref lg, .ref ce, .int vto])), (st, .inl (G 0, 196, .inl fst))]) hD hS hA [0, 1] rfl
    refine va_callv (va_runV (As := [.int 0, .int (nI (49 * (kk + 1)))]) (rest := []) ⟨hx, hb, hml, hown, hg⟩ (c_X11_copies l dC dI G _ h0 0 (49 * (kk + 1)) st N B rp tp T cu lt od th be ln S ma M ah bh ik la lg ce vrs vrb vhs vca vxs vxb vfa vbr vba vsp vhe vtk vva vto fst (by have t_b4 := b4; have t_hkk := hkk; have t_n0 : (nI N).toInt = (N : Int) := nI_toInt (by omega); have t_n1 : (nI B).toInt = (B : Int) := nI_toInt (by omega); have t_n2 : (nI T).toInt = (T : Int) := nI_toInt (by omega); have t_n3 : (nI S).toInt = (S : Int) := nI_toInt (by omega); have t_n4 : (nI M).toInt = (M : Int) := nI_toInt (by omega); have t_n5 : (nI kk).toInt = (kk : Int) := nI_toInt (by omega); omega) (by have t_b4 := b4; have t_hkk := hkk; have t_n0 : (nI N).toInt = (N : Int) := nI_toInt (by omega); have t_n1 : (nI B).toInt = (B : Int) := nI_toInt (by omega); have t_n2 : (nI T).toInt = (T : Int) := nI_toInt (by omega); have t_n3 : (nI S).toInt = (S : Int) := nI_toInt (by omega); have t_n4 : (nI M).toInt = (M : Int) := nI_toInt (by omega); have t_n5 : (nI kk).toInt = (kk : Int) := nI_toInt (by omega); omega) (by have t_b4 := b4; have t_hkk := hkk; have t_n0 : (nI N).toInt = (N : Int) := nI_toInt (by omega); have t_n1 : (nI B).toInt = (B : Int) := nI_toInt (by omega); have t_n2 : (nI T).toInt = (T : Int) := nI_toInt (by omega); have t_n3 : (nI S).toInt = (S : Int) := nI_toInt (by omega); have t_n4 : (nI M).toInt = (M : Int) := nI_toInt (by omega); have t_n5 : (nI kk).toInt = (kk : Int) := nI_toInt (by omega); omega) (by have t_b4 := b4; have t_hkk := hkk; have t_n0 : (nI N).toInt = (N : Int) := nI_toInt (by omega); have t_n1 : (nI B).toInt = (B : Int) := nI_toInt (by omega); have t_n2 : (nI T).toInt = (T : Int) := nI_toInt (by omega); have t_n3 : (nI S).toInt = (S : Int) := nI_toInt (by omega); have t_n4 : (nI M).toInt = (M : Int) := nI_toInt (by omega); have t_n5 : (nI kk).toInt = (kk : Int) := nI_toInt (by omega); omega) (by have t_b4 := b4; have t_hkk := hkk; have t_n0 : (nI N).toInt = (N : Int) := nI_toInt (by omega); have t_n1 : (nI B).toInt = (B : Int) := nI_toInt (by omega); have t_n2 : (nI T).toInt = (T : Int) := nI_toInt (by omega); have t_n3 : (nI S).toInt = (S : Int) := nI_toInt (by omega); have t_n4 : (nI M).toInt = (M : Int) := nI_toInt (by omega); have t_n5 : (nI kk).toInt = (kk : Int) := nI_toInt (by omega); omega) hst (by have t_b4 := b4; have t_hkk := hkk; have t_n0 : (nI N).toInt = (N : Int) := nI_toInt (by omega); have t_n1 : (nI B).toInt = (B : Int) := nI_toInt (by omega); have t_n2 : (nI T).toInt = (T : Int) := nI_toInt (by omega); have t_n3 : (nI S).toInt = (S : Int) := nI_toInt (by omega); have t_n4 : (nI M).toInt = (M : Int) := nI_toInt (by omega); have t_n5 : (nI kk).toInt = (kk : Int) := nI_toInt (by omega); omega) (by have t_b4 := b4; have t_hkk := hkk; have t_n0 : (nI N).toInt = (N : Int) := nI_toInt (by omega); have t_n1 : (nI B).toInt = (B : Int) := nI_toInt (by omega); have t_n2 : (nI T).toInt = (T : Int) := nI_toInt (by omega); have t_n3 : (nI S).toInt = (S : Int) := nI_toInt (by omega); have t_n4 : (nI M).toInt = (M : Int) := nI_toInt (by omega); have t_n5 : (nI kk).toInt = (kk : Int) := nI_toInt (by omega); omega)) (kwV hg mfX11_copies wt_1248 ⟨Nat.le_of_ble_eq_true rfl, Nat.le_of_ble_eq_true rfl⟩) (preVW hK hPc hDc (ci := 11) rfl rfl) rfl rfl hl.1 rfl (lv_room (Nat.le_of_ble_eq_true rfl)) dX11_keep_20 ⟨Nat.le_of_ble_eq_true rfl, Nat.le_of_ble_eq_true rfl⟩) hS (fun q _ h => hFc q h) hFc (fun ur5 t H1 locs ht hvm w6 hB hz1 hk1 hS => ?_)
    obtain ⟨u7, rfl⟩ : ∃ z, z = ur5 := ⟨_, rfl⟩
    obtain ⟨hP1, hD1⟩ := hB
    rw [ht] at hP1
    obtain ⟨hP, hD⟩ := va_join (wr := [(ik, .inl (G 2, 2, .inl fik))]) (w1 := [(h0, .inr (11, [.ref st, .int (nI N), .int (nI B), .ref rp, .int vrs, .int vrb, .int vhs, .int vca, .int vxs, .int vxb, .ref tp, .int (nI T), .int vfa, .int vbr, .int vba, .int vsp, .int vhe, .int vtk, .int vva, .ref cu, .ref lt, .ref od, .ref th, .ref be, .ref ln, .int (nI S), .ref ma, .int (nI M), .ref ah, .ref bh, .ref ik, .ref la, .ref lg, .ref ce, .int vto])), (st, .inl (G 0, 196, .inl u7))]) hP hD [0, 1] [2] rfl rfl (by decide) (by decide) hk1 hFc hP1 hD1
    have w6 : OKS u7 := w6
    generalize H1 = H at hP hS ⊢
    have hP : va_P (dC, dI) vwCl [(ik, .inl (G 2, 2, .inl fik)), (h0, .inr (11, [.ref st, .int (nI N), .int (nI B), .ref rp, .int vrs, .int vrb, .int vhs, .int vca, .int vxs, .int vxb, .ref tp, .int (nI T), .int vfa, .int vbr, .int vba, .int vsp, .int vhe, .int vtk, .int vva, .ref cu, .ref lt, .ref od, .ref th, .ref be, .ref ln, .int (nI S), .ref ma, .int (nI M), .ref ah, .ref bh, .ref ik, .ref la, .ref lg, .ref ce, .int vto])), (st, .inl (G 0, 196, .inl u7))] H := hP
    have hD : va_D A [(ik, .inl (G 2, 2, .inl fik)), (h0, .inr (11, [.ref st, .int (nI N), .int (nI B), .ref rp, .int vrs, .int vrb, .int vhs, .int vca, .int vxs, .int vxb, .ref tp, .int (nI T), .int vfa, .int vbr, .int vba, .int vsp, .int vhe, .int vtk, .int vva, .ref cu, .ref lt, .ref od, .ref th, .ref be, .ref ln, .int (nI S), .ref ma, .int (nI M), .ref ah, .ref bh, .ref ik, .ref la, .ref lg, .ref ce, .int vto])), (st, .inl (G 0, 196, .inl u7))] := hD
    refine lv_aload_n hx hb dX11_keep_23 rfl (lv_at hl 0 rfl) ?_
    refine va_get (D := (dC, dI)) (ci := 11) (v := .ref ik) (C := RX11) (T := TX11) (N := 35) hx hb hg inG11 hown hK.1 hP 1 rfl rfl 30 (by decide) (hg _ wt_908) (fun _ h9 => h9) rfl dX11_keep_24 ?_
    refine lv_iload_n hx hb dX11_keep_27 rfl (lv_at hl 1 rfl) ?_
    refine va_zald hx hb hK.1 hP 0 2 rfl rfl (vp_in_nI (by have t_b4 := b4; have t_hkk := hkk; have t_n0 : (nI N).toInt = (N : Int) := nI_toInt (by omega); have t_n1 : (nI B).toInt = (B : Int) := nI_toInt (by omega); have t_n2 : (nI T).toInt = (T : Int) := nI_toInt (by omega); have t_n3 : (nI S).toInt = (S : Int) := nI_toInt (by omega); have t_n4 : (nI M).toInt = (M : Int) := nI_toInt (by omega); have t_n5 : (nI kk).toInt = (kk : Int) := nI_toInt (by omega); omega) (by decide)) dX11_keep_28 ?_
    refine lv_cg (y := fik kk) (by rw [nI_clamp (by omega)]) ?_
    refine lv_if_eq (tgt := 36) hx hb dX11_keep_29 (by decide) (fun c8 => ?_) (fun c8 => ?_)
    · skip
      refine lv_iconst (v := 0) hx hb dX11_keep_36 (by decide) ?_
      refine lv_istore_n (lv' := [(2, .int 0), (0, .ref h0), (1, .int (nI kk))]) hx hb dX11_keep_37 rfl hl (by decide) rfl (fun ls hl => ?_)
      refine lv_aload_n hx hb dX11_keep_38 rfl (lv_at hl 1 rfl) ?_
      refine va_get (D := (dC, dI)) (ci := 11) (v := .ref ik) (C := RX11) (T := TX11) (N := 35) hx hb hg inG11 hown hK.1 hP 1 rfl rfl 30 (by decide) (hg _ wt_908) (fun _ h9 => h9) rfl dX11_keep_39 ?_
      refine lv_iload_n hx hb dX11_keep_42 rfl (lv_at hl 2 rfl) ?_
      refine lv_iconst (v := 1) hx hb dX11_keep_43 (by decide) ?_
      refine va_zast hx hb hK.1 hP hD hS 0 2 rfl rfl (vp_in_nI (by have t_b4 := b4; have t_hkk := hkk; have t_c8 := eqI c8; have : (0 : Int32).toInt = 0 := (by decide); have t_n0 : (nI N).toInt = (N : Int) := nI_toInt (by omega); have t_n1 : (nI B).toInt = (B : Int) := nI_toInt (by omega); have t_n2 : (nI T).toInt = (T : Int) := nI_toInt (by omega); have t_n3 : (nI S).toInt = (S : Int) := nI_toInt (by omega); have t_n4 : (nI M).toInt = (M : Int) := nI_toInt (by omega); have t_n5 : (nI kk).toInt = (kk : Int) := nI_toInt (by omega); omega) (by decide)) dX11_keep_44 (fun H locs hP hD hS => ?_)
      rw [nI_clamp (by omega)] at hP hD
      have hP : va_P (dC, dI) vwCl [(ik, .inl (G 2, 2, .inl (upd fik kk (vp_nar .boolean 1)))), (h0, .inr (11, [.ref st, .int (nI N), .int (nI B), .ref rp, .int vrs, .int vrb, .int vhs, .int vca, .int vxs, .int vxb, .ref tp, .int (nI T), .int vfa, .int vbr, .int vba, .int vsp, .int vhe, .int vtk, .int vva, .ref cu, .ref lt, .ref od, .ref th, .ref be, .ref ln, .int (nI S), .ref ma, .int (nI M), .ref ah, .ref bh, .ref ik, .ref la, .ref lg, .ref ce, .int vto])), (st, .inl (G 0, 196, .inl u7))] H := hP
      have hD : va_D A [(ik, .inl (G 2, 2, .inl (upd fik kk (vp_nar .boolean 1)))), (h0, .inr (11, [.ref st, .int (nI N), .int (nI B), .ref rp, .int vrs, .int vrb, .int vhs, .int vca, .int vxs, .int vxb, .ref tp, .int (nI T), .int vfa, .int vbr, .int vba, .int vsp, .int vhe, .int vtk, .int vva, .ref cu, .ref lt, .ref od, .ref th, .ref be, .ref ln, .int (nI S), .ref ma, .int (nI M), .ref ah, .ref bh, .ref ik, .ref la, .ref lg, .ref ce, .int vto])), (st, .inl (G 0, 196, .inl u7))] := hD
      refine lv_iload_n hx hb dX11_keep_45 rfl (lv_at hl 0 rfl) ?_
      have hpost : (0 : Int32) = if (0 ≤ (nI kk).toInt ∧ (nI kk).toInt < 2) then (if fik (nI kk).toNatClampNeg = 0 then 0 else 1) else -1 := by
        have t_b4 := b4
        have t_hkk := hkk
        have t_c8 := eqI c8
        have : (0 : Int32).toInt = 0 := (by decide)
        have t_n0 : (nI N).toInt = (N : Int) := nI_toInt (by omega)
        have t_n1 : (nI B).toInt = (B : Int) := nI_toInt (by omega)
        have t_n2 : (nI T).toInt = (T : Int) := nI_toInt (by omega)
        have t_n3 : (nI S).toInt = (S : Int) := nI_toInt (by omega)
        have t_n4 : (nI M).toInt = (M : Int) := nI_toInt (by omega)
        have t_n5 : (nI kk).toInt = (kk : Int) := nI_toInt (by omega)
        have z0 : (0 : Int32).toInt = 0 := (by decide)
        have z1 : (1 : Int32).toInt = 1 := (by decide)
        have z2 : (2 : Int32).toInt = 2 := (by decide)
        have z3 : (3 : Int32).toInt = 3 := (by decide)
        have z5 : (5 : Int32).toInt = 5 := (by decide)
        have z9 : (9 : Int32).toInt = 9 := (by decide)
        have z20 : (20 : Int32).toInt = 20 := (by decide)
        have z4 : (-4 : Int32).toInt = -4 := (by decide)
        have z10 : (10 : Int32).toInt = 10 := (by decide)
        first | (rw [if_neg (by omega)]; done) | (rw [if_pos (by omega), nI_clamp (by omega)]; first | (rw [if_pos (by assumption)]; done) | (rw [if_neg (by assumption)]; done))
      have hP9 := hP.sub (ws' := [(h0, .inr (11, [.ref st, .int (nI N), .int (nI B), .ref rp, .int vrs, .int vrb, .int vhs, .int vca, .int vxs, .int vxb, .ref tp, .int (nI T), .int vfa, .int vbr, .int vba, .int vsp, .int vhe, .int vtk, .int vva, .ref cu, .ref lt, .ref od, .ref th, .ref be, .ref ln, .int (nI S), .ref ma, .int (nI M), .ref ah, .ref bh, .ref ik, .ref la, .ref lg, .ref ce, .int vto])), (st, .inl (G 0, 196, .inl u7)), (ik, .inl (G 2, 2, .inl (upd fik kk (vp_nar .boolean 1))))]) [1, 2, 0] rfl
      have hD9 := hD.sub (ws' := [(h0, .inr (11, [.ref st, .int (nI N), .int (nI B), .ref rp, .int vrs, .int vrb, .int vhs, .int vca, .int vxs, .int vxb, .ref tp, .int (nI T), .int vfa, .int vbr, .int vba, .int vsp, .int vhe, .int vtk, .int vva, .ref cu, .ref lt, .ref od, .ref th, .ref be, .ref ln, .int (nI S), .ref ma, .int (nI M), .ref ah, .ref bh, .ref ik, .ref la, .ref lg, .ref ce, .int vto])), (st, .inl (G 0, 196, .inl u7)), (ik, .inl (G 2, 2, .inl (upd fik kk (vp_nar .boolean 1))))]) [1, 2, 0] (by decide) rfl
      refine W.widen (k := 0) (n := 0) (by omega) (by omega) ?_
      exact W.iret (v := 0) hx hb hr (fun t ht hW => ⟨⟨0, (u7, (upd fik kk (vp_nar .boolean 1))), rfl, ⟨hpost, ⟨w6, (by have t_b4 := b4; have t_hkk := hkk; have t_c8 := eqI c8; have : (0 : Int32).toInt = 0 := (by decide); have t_n0 : (nI N).toInt = (N : Int) := nI_toInt (by omega); have t_n1 : (nI B).toInt = (B : Int) := nI_toInt (by omega); have t_n2 : (nI T).toInt = (T : Int) := nI_toInt (by omega); have t_n3 : (nI S).toInt = (S : Int) := nI_toInt (by omega); have t_n4 : (nI M).toInt = (M : Int) := nI_toInt (by omega); have t_n5 : (nI kk).toInt = (kk : Int) := nI_toInt (by omega); have z0 : (0 : Int32).toInt = 0 := (by decide); have z1 : (1 : Int32).toInt = 1 := (by decide); have z2 : (2 : Int32).toInt = 2 := (by decide); have z3 : (3 : Int32).toInt = 3 := (by decide); have z5 : (5 : Int32).toInt = 5 := (by decide); have z9 : (9 : Int32).toInt = 9 := (by decide); have z20 : (20 : Int32).toInt = 20 := (by decide); have z4 : (-4 : Int32).toInt = -4 := (by decide); have z10 : (10 : Int32).toInt = 10 := (by decide); first | (rw [if_neg (by omega)]; done) | (rw [if_pos (by omega), nI_clamp (by omega)]; first | done | rfl))⟩⟩, ⟨by rw [ht]; exact hP9, hD9⟩⟩, hS.F ht⟩) hS.2.2 dX11_keep_46
    · skip
      refine lv_iconst (v := 1) hx hb dX11_keep_32 (by decide) ?_
      refine lv_goto (tgt := 37) hx hb dX11_keep_33 (by decide) ?_
      refine lv_istore_n (lv' := [(2, .int 1), (0, .ref h0), (1, .int (nI kk))]) hx hb dX11_keep_37 rfl hl (by decide) rfl (fun ls hl => ?_)
      refine lv_aload_n hx hb dX11_keep_38 rfl (lv_at hl 1 rfl) ?_
      refine va_get (D := (dC, dI)) (ci := 11) (v := .ref ik) (C := RX11) (T := TX11) (N := 35) hx hb hg inG11 hown hK.1 hP 1 rfl rfl 30 (by decide) (hg _ wt_908) (fun _ h9 => h9) rfl dX11_keep_39 ?_
      refine lv_iload_n hx hb dX11_keep_42 rfl (lv_at hl 2 rfl) ?_
      refine lv_iconst (v := 1) hx hb dX11_keep_43 (by decide) ?_
      refine va_zast hx hb hK.1 hP hD hS 0 2 rfl rfl (vp_in_nI (by have t_b4 := b4; have t_hkk := hkk; have t_c8 := neI c8; have : (0 : Int32).toInt = 0 := (by decide); have t_n0 : (nI N).toInt = (N : Int) := nI_toInt (by omega); have t_n1 : (nI B).toInt = (B : Int) := nI_toInt (by omega); have t_n2 : (nI T).toInt = (T : Int) := nI_toInt (by omega); have t_n3 : (nI S).toInt = (S : Int) := nI_toInt (by omega); have t_n4 : (nI M).toInt = (M : Int) := nI_toInt (by omega); have t_n5 : (nI kk).toInt = (kk : Int) := nI_toInt (by omega); omega) (by decide)) dX11_keep_44 (fun H locs hP hD hS => ?_)
      rw [nI_clamp (by omega)] at hP hD
      have hP : va_P (dC, dI) vwCl [(ik, .inl (G 2, 2, .inl (upd fik kk (vp_nar .boolean 1)))), (h0, .inr (11, [.ref st, .int (nI N), .int (nI B), .ref rp, .int vrs, .int vrb, .int vhs, .int vca, .int vxs, .int vxb, .ref tp, .int (nI T), .int vfa, .int vbr, .int vba, .int vsp, .int vhe, .int vtk, .int vva, .ref cu, .ref lt, .ref od, .ref th, .ref be, .ref ln, .int (nI S), .ref ma, .int (nI M), .ref ah, .ref bh, .ref ik, .ref la, .ref lg, .ref ce, .int vto])), (st, .inl (G 0, 196, .inl u7))] H := hP
      have hD : va_D A [(ik, .inl (G 2, 2, .inl (upd fik kk (vp_nar .boolean 1)))), (h0, .inr (11, [.ref st, .int (nI N), .int (nI B), .ref rp, .int vrs, .int vrb, .int vhs, .int vca, .int vxs, .int vxb, .ref tp, .int (nI T), .int vfa, .int vbr, .int vba, .int vsp, .int vhe, .int vtk, .int vva, .ref cu, .ref lt, .ref od, .ref th, .ref be, .ref ln, .int (nI S), .ref ma, .int (nI M), .ref ah, .ref bh, .ref ik, .ref la, .ref lg, .ref ce, .int vto])), (st, .inl (G 0, 196, .inl u7))] := hD
      refine lv_iload_n hx hb dX11_keep_45 rfl (lv_at hl 0 rfl) ?_
      have hpost : (1 : Int32) = if (0 ≤ (nI kk).toInt ∧ (nI kk).toInt < 2) then (if fik (nI kk).toNatClampNeg = 0 then 0 else 1) else -1 := by
        have t_b4 := b4
        have t_hkk := hkk
        have t_c8 := neI c8
        have : (0 : Int32).toInt = 0 := (by decide)
        have t_n0 : (nI N).toInt = (N : Int) := nI_toInt (by omega)
        have t_n1 : (nI B).toInt = (B : Int) := nI_toInt (by omega)
        have t_n2 : (nI T).toInt = (T : Int) := nI_toInt (by omega)
        have t_n3 : (nI S).toInt = (S : Int) := nI_toInt (by omega)
        have t_n4 : (nI M).toInt = (M : Int) := nI_toInt (by omega)
        have t_n5 : (nI kk).toInt = (kk : Int) := nI_toInt (by omega)
        have z0 : (0 : Int32).toInt = 0 := (by decide)
        have z1 : (1 : Int32).toInt = 1 := (by decide)
        have z2 : (2 : Int32).toInt = 2 := (by decide)
        have z3 : (3 : Int32).toInt = 3 := (by decide)
        have z5 : (5 : Int32).toInt = 5 := (by decide)
        have z9 : (9 : Int32).toInt = 9 := (by decide)
        have z20 : (20 : Int32).toInt = 20 := (by decide)
        have z4 : (-4 : Int32).toInt = -4 := (by decide)
        have z10 : (10 : Int32).toInt = 10 := (by decide)
        first | (rw [if_neg (by omega)]; done) | (rw [if_pos (by omega), nI_clamp (by omega)]; first | (rw [if_pos (by assumption)]; done) | (rw [if_neg (by assumption)]; done))
      have hP9 := hP.sub (ws' := [(h0, .inr (11, [.ref st, .int (nI N), .int (nI B), .ref rp, .int vrs, .int vrb, .int vhs, .int vca, .int vxs, .int vxb, .ref tp, .int (nI T), .int vfa, .int vbr, .int vba, .int vsp, .int vhe, .int vtk, .int vva, .ref cu, .ref lt, .ref od, .ref th, .ref be, .ref ln, .int (nI S), .ref ma, .int (nI M), .ref ah, .ref bh, .ref ik, .ref la, .ref lg, .ref ce, .int vto])), (st, .inl (G 0, 196, .inl u7)), (ik, .inl (G 2, 2, .inl (upd fik kk (vp_nar .boolean 1))))]) [1, 2, 0] rfl
      have hD9 := hD.sub (ws' := [(h0, .inr (11, [.ref st, .int (nI N), .int (nI B), .ref rp, .int vrs, .int vrb, .int vhs, .int vca, .int vxs, .int vxb, .ref tp, .int (nI T), .int vfa, .int vbr, .int vba, .int vsp, .int vhe, .int vtk, .int vva, .ref cu, .ref lt, .ref od, .ref th, .ref be, .ref ln, .int (nI S), .ref ma, .int (nI M), .ref ah, .ref bh, .ref ik, .ref la, .ref lg, .ref ce, .int vto])), (st, .inl (G 0, 196, .inl u7)), (ik, .inl (G 2, 2, .inl (upd fik kk (vp_nar .boolean 1))))]) [1, 2, 0] (by decide) rfl
      refine W.widen (k := 0) (n := 0) (by omega) (by omega) ?_
      exact W.iret (v := 1) hx hb hr (fun t ht hW => ⟨⟨1, (u7, (upd fik kk (vp_nar .boolean 1))), rfl, ⟨hpost, ⟨w6, (by have t_b4 := b4; have t_hkk := hkk; have t_c8 := neI c8; have : (0 : Int32).toInt = 0 := (by decide); have t_n0 : (nI N).toInt = (N : Int) := nI_toInt (by omega); have t_n1 : (nI B).toInt = (B : Int) := nI_toInt (by omega); have t_n2 : (nI T).toInt = (T : Int) := nI_toInt (by omega); have t_n3 : (nI S).toInt = (S : Int) := nI_toInt (by omega); have t_n4 : (nI M).toInt = (M : Int) := nI_toInt (by omega); have t_n5 : (nI kk).toInt = (kk : Int) := nI_toInt (by omega); have z0 : (0 : Int32).toInt = 0 := (by decide); have z1 : (1 : Int32).toInt = 1 := (by decide); have z2 : (2 : Int32).toInt = 2 := (by decide); have z3 : (3 : Int32).toInt = 3 := (by decide); have z5 : (5 : Int32).toInt = 5 := (by decide); have z9 : (9 : Int32).toInt = 9 := (by decide); have z20 : (20 : Int32).toInt = 20 := (by decide); have z4 : (-4 : Int32).toInt = -4 := (by decide); have z10 : (10 : Int32).toInt = 10 := (by decide); first | (rw [if_neg (by omega)]; done) | (rw [if_pos (by omega), nI_clamp (by omega)]; first | done | rfl))⟩⟩, ⟨by rw [ht]; exact hP9, hD9⟩⟩, hS.F ht⟩) hS.2.2 dX11_keep_46
  · skip
    have b9 := if10_n c3
    refine lv_iconst (v := (-1)) hx hb dX11_keep_10 (by decide) ?_
    have hpost : ((-1) : Int32) = if (0 ≤ k.toInt ∧ k.toInt < 2) then (if fik k.toNatClampNeg = 0 then 0 else 1) else -1 := by
      have t_b9 := b9
      have t_n0 : (nI N).toInt = (N : Int) := nI_toInt (by omega)
      have t_n1 : (nI B).toInt = (B : Int) := nI_toInt (by omega)
      have t_n2 : (nI T).toInt = (T : Int) := nI_toInt (by omega)
      have t_n3 : (nI S).toInt = (S : Int) := nI_toInt (by omega)
      have t_n4 : (nI M).toInt = (M : Int) := nI_toInt (by omega)
      have z0 : (0 : Int32).toInt = 0 := (by decide)
      have z1 : (1 : Int32).toInt = 1 := (by decide)
      have z2 : (2 : Int32).toInt = 2 := (by decide)
      have z3 : (3 : Int32).toInt = 3 := (by decide)
      have z5 : (5 : Int32).toInt = 5 := (by decide)
      have z9 : (9 : Int32).toInt = 9 := (by decide)
      have z20 : (20 : Int32).toInt = 20 := (by decide)
      have z4 : (-4 : Int32).toInt = -4 := (by decide)
      have z10 : (10 : Int32).toInt = 10 := (by decide)
      first | (rw [if_neg (by omega)]; done) | (rw [if_pos (by omega), nI_clamp (by omega)]; first | (rw [if_pos (by assumption)]; done) | (rw [if_neg (by assumption)]; done))
    have hP9 := hP.sub (ws' := [(h0, .inr (11, [.ref st, .int (nI N), .int (nI B), .ref rp, .int vrs, .int vrb, .int vhs, .int vca, .int vxs, .int vxb, .ref tp, .int (nI T), .int vfa, .int vbr, .int vba, .int vsp, .int vhe, .int vtk, .int vva, .ref cu, .ref lt, .ref od, .ref th, .ref be, .ref ln, .int (nI S), .ref ma, .int (nI M), .ref ah, .ref bh, .ref ik, .ref la, .ref lg, .ref ce, .int vto])), (st, .inl (G 0, 196, .inl fst)), (ik, .inl (G 2, 2, .inl fik))]) [0, 1, 2] rfl
    have hD9 := hD.sub (ws' := [(h0, .inr (11, [.ref st, .int (nI N), .int (nI B), .ref rp, .int vrs, .int vrb, .int vhs, .int vca, .int vxs, .int vxb, .ref tp, .int (nI T), .int vfa, .int vbr, .int vba, .int vsp, .int vhe, .int vtk, .int vva, .ref cu, .ref lt, .ref od, .ref th, .ref be, .ref ln, .int (nI S), .ref ma, .int (nI M), .ref ah, .ref bh, .ref ik, .ref la, .ref lg, .ref ce, .int vto])), (st, .inl (G 0, 196, .inl fst)), (ik, .inl (G 2, 2, .inl fik))]) [0, 1, 2] (by decide) rfl
    refine W.widen (k := 0) (n := 0) (by omega) (by omega) ?_
    exact W.iret (v := (-1)) hx hb hr (fun t ht hW => ⟨⟨(-1), (fst, fik), rfl, ⟨hpost, ⟨hst, (by have t_b9 := b9; have t_n0 : (nI N).toInt = (N : Int) := nI_toInt (by omega); have t_n1 : (nI B).toInt = (B : Int) := nI_toInt (by omega); have t_n2 : (nI T).toInt = (T : Int) := nI_toInt (by omega); have t_n3 : (nI S).toInt = (S : Int) := nI_toInt (by omega); have t_n4 : (nI M).toInt = (M : Int) := nI_toInt (by omega); have z0 : (0 : Int32).toInt = 0 := (by decide); have z1 : (1 : Int32).toInt = 1 := (by decide); have z2 : (2 : Int32).toInt = 2 := (by decide); have z3 : (3 : Int32).toInt = 3 := (by decide); have z5 : (5 : Int32).toInt = 5 := (by decide); have z9 : (9 : Int32).toInt = 9 := (by decide); have z20 : (20 : Int32).toInt = 20 := (by decide); have z4 : (-4 : Int32).toInt = -4 := (by decide); have z10 : (10 : Int32).toInt = 10 := (by decide); first | (rw [if_neg (by omega)]; done) | (rw [if_pos (by omega), nI_clamp (by omega)]; first | done | rfl))⟩⟩, ⟨by rw [ht]; exact hP9, hD9⟩⟩, hS.F ht⟩) hS.2.2 dX11_keep_11

set_option maxHeartbeats 1000000 in
set_option maxRecDepth 100000 in
theorem c_X11_backE (l : Launch) (dC : Nat → ClassId) (dI : Nat → Nat → Nat) (G : Nat → ClassId) (sz : Nat) (h0 st N B rp tp T cu lt od th be ln S ma M ah bh ik la lg ce : Nat) (k vrs vrb vhs vca vxs vxb vfa vbr vba vsp vhe vtk vva vto : Int32) (fst : Nat → Int32) (fik : Nat → Int32) (hN : N ≤ 10) (hB : B ≤ 6) (hT : T ≤ 320) (hS0 : S ≤ 8) (hM : M ≤ 6) (hst : OKS fst) : Met l yX11_back (Cond.code yX11_back cX11_back 2 (some .int) :: GT) ({ frames := 1, cells := 0, slots := 0, locals := 25 } : Room) (PcW [.ref h0, .int k] dC dI G [(h0, .inr (11, [.ref st, .int (nI N), .int (nI B), .ref rp, .int vrs, .int vrb, .int vhs, .int vca, .int vxs, .int vxb, .ref tp, .int (nI T), .int vfa, .int vbr, .int vba, .int vsp, .int vhe, .int vtk, .int vva, .ref cu, .ref lt, .ref od, .ref th, .ref be, .ref ln, .int (nI S), .ref ma, .int (nI M), .ref ah, .ref bh, .ref ik, .ref la, .ref lg, .ref ce, .int vto])), (st, .inl (G 0, 196, .inl fst)), (ik, .inl (G 2, 2, .inl fik))] sz) (va_Qi (fun (r : Int32) (u : (Nat → Int32)) => match u with | ost => (r = if (0 ≤ k.toInt ∧ k.toInt < 2) then (if fik k.toNatClampNeg = 0 then -2 else nI N) else -1) ∧ OKS ost) (fun (u : (Nat → Int32)) (t : State) => match u with | ost => va_P (dC, dI) vwCl [(h0, .inr (11, [.ref st, .int (nI N), .int (nI B), .ref rp, .int vrs, .int vrb, .int vhs, .int vca, .int vxs, .int vxb, .ref tp, .int (nI T), .int vfa, .int vbr, .int vba, .int vsp, .int vhe, .int vtk, .int vva, .ref cu, .ref lt, .ref od, .ref th, .ref be, .ref ln, .int (nI S), .ref ma, .int (nI M), .ref ah, .ref bh, .ref ik, .ref la, .ref lg, .ref ce, .int vto])), (st, .inl (G 0, 196, .inl ost)), (ik, .inl (G 2, 2, .inl fik))] t.heap ∧ va_D (va_A [(h0, .inr (11, [.ref st, .int (nI N), .int (nI B), .ref rp, .int vrs, .int vrb, .int vhs, .int vca, .int vxs, .int vxb, .ref tp, .int (nI T), .int vfa, .int vbr, .int vba, .int vsp, .int vhe, .int vtk, .int vva, .ref cu, .ref lt, .ref od, .ref th, .ref be, .ref ln, .int (nI S), .ref ma, .int (nI M), .ref ah, .ref bh, .ref ik, .ref la, .ref lg, .ref ce, .int vto])), (st, .inl (G 0, 196, .inl fst)), (ik, .inl (G 2, 2, .inl fik))] sz) [(h0, .inr (11, [.ref st, .int (nI N), .int (nI B), .ref rp, .int vrs, .int vrb, .int vhs, .int vca, .int vxs, .int vxb, .ref tp, .int (nI T), .int vfa, .int vbr, .int vba, .int vsp, .int vhe, .int vtk, .int vva, .ref cu, .ref lt, .ref od, .ref th, .ref be, .ref ln, .int (nI S), .ref ma, .int (nI M), .ref ah, .ref bh, .ref ik, .ref la, .ref lg, .ref ce, .int vto])), (st, .inl (G 0, 196, .inl ost)), (ik, .inl (G 2, 2, .inl fik))]) (va_A [(h0, .inr (11, [.ref st, .int (nI N), .int (nI B), .ref rp, .int vrs, .int vrb, .int vhs, .int vca, .int vxs, .int vxb, .ref tp, .int (nI T), .int vfa, .int vbr, .int vba, .int vsp, .int vhe, .int vtk, .int vva, .ref cu, .ref lt, .ref od, .ref th, .ref be, .ref ln, .int (nI S), .ref ma, .int (nI M), .ref ah, .ref bh, .ref ik, .ref la, .ref lg, .ref ce, .int vto])), (st, .inl (G 0, 196, .inl fst)), (ik, .inl (G 2, 2, .inl fik))] sz)) 0 0 (va_A [(h0, .inr (11, [.ref st, .int (nI N), .int (nI B), .ref rp, .int vrs, .int vrb, .int vhs, .int vca, .int vxs, .int vxb, .ref tp, .int (nI T), .int vfa, .int vbr, .int vba, .int vsp, .int vhe, .int vtk, .int vva, .ref cu, .ref lt, .ref od, .ref th, .ref be, .ref ln, .int (nI S), .ref ma, .int (nI M), .ref ah, .ref bh, .ref ik, .ref la, .ref lg, .ref ce, .int vto])), (st, .inl (G 0, 196, .inl fst)), (ik, .inl (G 2, 2, .inl fik))] sz) := by
  refine Met.ofW (cc := cX11_back) (maxL := 2) (ret := (some .int)) (by decide) rfl ?_
  intro p e s m args below meth c s₁ Bd hml hv
  obtain ⟨rfl, hsz, hP, hK, hD0⟩ := hv
  have hx := Bd.exec
  have hb := Bd.bytes
  have hr := Bd.returns
  have hg : ∀ w ∈ GT, w.before ([.ref h0, .int k] : List Value).toArray s = true := fun w h => atoms_spec (ws := Cond.code yX11_back cX11_back 2 (some .int) :: GT) Bd.pre w (List.mem_cons_of_mem _ h)
  have hown : s.vm.findClass RX11 = some m.cls := findClass_of_methodNamed Bd.named
  have hlocks := Bd.notSynchronized
  subst hsz
  have hD := hD0.self (sz := s.heap.size)
  generalize hAe : va_A [(h0, .inr (11, [.ref st, .int (nI N), .int (nI B), .ref rp, .int vrs, .int vrb, .int vhs, .int vca, .int vxs, .int vxb, .ref tp, .int (nI T), .int vfa, .int vbr, .int vba, .int vsp, .int vhe, .int vtk, .int vva, .ref cu, .ref lt, .ref od, .ref th, .ref be, .ref ln, .int (nI S), .ref ma, .int (nI M), .ref ah, .ref bh, .ref ik, .ref la, .ref lg, .ref ce, .int vto])), (st, .inl (G 0, 196, .inl fst)), (ik, .inl (G 2, 2, .inl fik))] s.heap.size = A at hD ⊢
  have hA : ∀ q : Nat, s.heap.size ≤ q → A q := fun q h => by rw [← hAe]; exact Or.inr h
  have hS : va_S A s.heap s.heap [] := va_S.rf
  have hl := lv_entry ([.ref h0, .int k]) (n := 2) (Nat.le_of_ble_eq_true rfl)
  rw [lg_entry_eq]
  generalize (lg_sl ([.ref h0, .int k]) ++ List.replicate (2 - (lg_sl ([.ref h0, .int k])).length) Slot.unset).toArray = ls at hl ⊢
  have hl : lv_has ls 2 [(0, .ref h0), (1, .int k)] := hl
  refine lv_iload_n hx hb dX11_back_0 rfl (lv_at hl 1 rfl) ?_
  refine lv_i2l (v := k.toInt64) hx hb dX11_back_1 rfl ?_
  refine lv_lconst (v := 0) hx hb dX11_back_2 (by decide) ?_
  refine lv_lconst (v := 1) hx hb dX11_back_3 (by decide) ?_
  have hPc := hP.sub (ws' := []) [] rfl
  refine va_calli (va_runS (As := [.long k.toInt64, .long 0, .long 1]) (rest := []) ⟨hx, hb, hml, hown, hg⟩ (c_X11_in l dC dI G _ k.toInt64 0 1 ) (kwS hg mfX11_in wt_992 ⟨Nat.le_of_ble_eq_true rfl, Nat.le_of_ble_eq_true rfl⟩) (preSR hK hPc) rfl rfl hl.1 rfl (lv_room (Nat.le_of_ble_eq_true rfl)) dX11_back_4 ⟨Nat.le_of_ble_eq_true rfl, Nat.le_of_ble_eq_true rfl⟩) hS (fun q h1 h2 => absurd h2 (Nat.not_le.mpr h1)) (fun q h => hA q (Nat.le_trans hS.1 h)) (fun r1 ur1 t H1 locs ht hvm w2 hB hz1 hk1 hS => ?_)
  have hP := keepR hP hk1
  obtain ⟨w2, w2x⟩ := w2
  try simp only [l_ii, show (0 : Int64).toInt = 0 from by decide, show (1 : Int64).toInt = 1 from by decide] at w2
  subst w2
  refine lv_if_ne (tgt := 12) hx hb dX11_back_7 (by decide) (fun c3 => ?_) (fun c3 => ?_)
  · skip
    have b4 := if10_p c3
    obtain ⟨kk, hkk, rfl⟩ : ∃ j : Nat, j < 2 ∧ k = nI j := by
      have t_b4 := b4
      have t_n0 : (nI N).toInt = (N : Int) := nI_toInt (by omega)
      have t_n1 : (nI B).toInt = (B : Int) := nI_toInt (by omega)
      have t_n2 : (nI T).toInt = (T : Int) := nI_toInt (by omega)
      have t_n3 : (nI S).toInt = (S : Int) := nI_toInt (by omega)
      have t_n4 : (nI M).toInt = (M : Int) := nI_toInt (by omega)
      exact i32_nat (by omega) (by omega)
    refine lv_aload_n hx hb dX11_back_12 rfl (lv_at hl 0 rfl) ?_
    refine va_get (D := (dC, dI)) (ci := 11) (v := .ref ik) (C := RX11) (T := TX11) (N := 35) hx hb hg inG11 hown hK.1 hP 0 rfl rfl 30 (by decide) (hg _ wt_908) (fun _ h9 => h9) rfl dX11_back_13 ?_
    refine lv_iload_n hx hb dX11_back_16 rfl (lv_at hl 1 rfl) ?_
    refine va_zald hx hb hK.1 hP 2 2 rfl rfl (vp_in_nI (by have t_b4 := b4; have t_hkk := hkk; have t_n0 : (nI N).toInt = (N : Int) := nI_toInt (by omega); have t_n1 : (nI B).toInt = (B : Int) := nI_toInt (by omega); have t_n2 : (nI T).toInt = (T : Int) := nI_toInt (by omega); have t_n3 : (nI S).toInt = (S : Int) := nI_toInt (by omega); have t_n4 : (nI M).toInt = (M : Int) := nI_toInt (by omega); have t_n5 : (nI kk).toInt = (kk : Int) := nI_toInt (by omega); omega) (by decide)) dX11_back_17 ?_
    refine lv_cg (y := fik kk) (by rw [nI_clamp (by omega)]) ?_
    refine lv_if_ne (tgt := 24) hx hb dX11_back_18 (by decide) (fun c5 => ?_) (fun c5 => ?_)
    · skip
      refine lv_aload_n hx hb dX11_back_24 rfl (lv_at hl 0 rfl) ?_
      refine lv_bipush (v := 49) hx hb dX11_back_25 (by decide) ?_
      refine lv_iload_n hx hb dX11_back_27 rfl (lv_at hl 1 rfl) ?_
      refine lv_iconst (v := 1) hx hb dX11_back_28 (by decide) ?_
      refine lv_iadd hx hb dX11_back_29 ?_
      refine lv_cg (y := nI (kk + 1)) (by rw [show (1 : Int32) = nI 1 from rfl]; exact nI_add _ _) ?_
      refine lv_imul hx hb dX11_back_30 ?_
      refine lv_cg (y := nI (49 * (kk + 1))) (by rw [show (49 : Int32) = nI 49 from rfl]; exact pk_mul _ _) ?_
      refine lv_iconst (v := 0) hx hb dX11_back_31 (by decide) ?_
      have hPc := hP.sub (ws' := [(h0, .inr (11, [.ref st, .int (nI N), .int (nI B), .ref rp, .int vrs, .int vrb, .int vhs, .int vca, .int vxs, .int vxb, .ref tp, .int (nI T), .int vfa, .int vbr, .int vba, .int vsp, .int vhe, .int vtk, .int vva, .ref cu, .ref lt, .ref od, .ref th, .ref be, .ref ln, .int (nI S), .ref ma, .int (nI M), .ref ah, .ref bh, .ref ik, .ref la, .ref lg, .ref ce, .int vto])), (st, .inl (G 0, 196, .inl fst))]) [0, 1] rfl
      have hDc := hD.sub (ws' := [(h0, .inr (11, [.ref st, .int (nI N), .int (nI B), .ref rp, .int vrs, .int vrb, .int vhs, .int vca, .int vxs, .int vxb, .ref tp, .int (nI T), .int vfa, .int vbr, .int vba, .int vsp, .int vhe, .int vtk, .int vva, .ref cu, .ref lt, .ref od, .ref th, .ref be, .ref ln, .int (nI S), .ref ma, .int (nI M), .ref ah, .ref bh, .ref ik, .ref la, .ref lg, .ref ce, .int vto])), (st, .inl (G 0, 196, .inl fst))]) [0, 1] (by decide) rfl
      have hFc := va_free (wc := [(h0, .inr (11, [.ref st, .int (nI N), .int (nI B), .ref rp, .int vrs, .int vrb, .int vhs, .int vca, .int vxs, .int vxb, .ref tp, .int (nI T), .int vfa, .int vbr, .int vba, .int vsp, .int vhe, .int vtk, .int vva, .ref cu, .ref lt, .ref od, .ref th, .ref be, .ref ln, .int (nI S), .ref ma, .int (nI M), .ref ah, .ref bh, .ref ik, .ref la, .ref lg, .ref ce, .int vto])), (st, .inl (G 0, 196, .inl fst))]) hD hS hA [0, 1] rfl
      refine va_callv (va_runV (As := [.int (nI (49 * (kk + 1))), .int 0]) (rest := []) ⟨hx, hb, hml, hown, hg⟩ (c_X11_copies l dC dI G _ h0 (49 * (kk + 1)) 0 st N B rp tp T cu lt od th be ln S ma M ah bh ik la lg ce vrs vrb vhs vca vxs vxb vfa vbr vba vsp vhe vtk vva vto fst (by have t_b4 := b4; have t_hkk := hkk; have t_c5 := neI c5; have : (0 : Int32).toInt = 0 := (by decide); have t_n0 : (nI N).toInt = (N : Int) := nI_toInt (by omega); have t_n1 : (nI B).toInt = (B : Int) := nI_toInt (by omega); have t_n2 : (nI T).toInt = (T : Int) := nI_toInt (by omega); have t_n3 : (nI S).toInt = (S : Int) := nI_toInt (by omega); have t_n4 : (nI M).toInt = (M : Int) := nI_toInt (by omega); have t_n5 : (nI kk).toInt = (kk : Int) := nI_toInt (by omega); omega) (by have t_b4 := b4; have t_hkk := hkk; have t_c5 := neI c5; have : (0 : Int32).toInt = 0 := (by decide); have t_n0 : (nI N).toInt = (N : Int) := nI_toInt (by omega); have t_n1 : (nI B).toInt = (B : Int) := nI_toInt (by omega); have t_n2 : (nI T).toInt = (T : Int) := nI_toInt (by omega); have t_n3 : (nI S).toInt = (S : Int) := nI_toInt (by omega); have t_n4 : (nI M).toInt = (M : Int) := nI_toInt (by omega); have t_n5 : (nI kk).toInt = (kk : Int) := nI_toInt (by omega); omega) (by have t_b4 := b4; have t_hkk := hkk; have t_c5 := neI c5; have : (0 : Int32).toInt = 0 := (by decide); have t_n0 : (nI N).toInt = (N : Int) := nI_toInt (by omega); have t_n1 : (nI B).toInt = (B : Int) := nI_toInt (by omega); have t_n2 : (nI T).toInt = (T : Int) := nI_toInt (by omega); have t_n3 : (nI S).toInt = (S : Int) := nI_toInt (by omega); have t_n4 : (nI M).toInt = (M : Int) := nI_toInt (by omega); have t_n5 : (nI kk).toInt = (kk : Int) := nI_toInt (by omega); omega) (by have t_b4 := b4; have t_hkk := hkk; have t_c5 := neI c5; have : (0 : Int32).toInt = 0 := (by decide); have t_n0 : (nI N).toInt = (N : Int) := nI_toInt (by omega); have t_n1 : (nI B).toInt = (B : Int) := nI_toInt (by omega); have t_n2 : (nI T).toInt = (T : Int) := nI_toInt (by omega); have t_n3 : (nI S).toInt = (S : Int) := nI_toInt (by omega); have t_n4 : (nI M).toInt = (M : Int) := nI_toInt (by omega); have t_n5 : (nI kk).toInt = (kk : Int) := nI_toInt (by omega); omega) (by have t_b4 := b4; have t_hkk := hkk; have t_c5 := neI c5; have : (0 : Int32).toInt = 0 := (by decide); have t_n0 : (nI N).toInt = (N : Int) := nI_toInt (by omega); have t_n1 : (nI B).toInt = (B : Int) := nI_toInt (by omega); have t_n2 : (nI T).toInt = (T : Int) := nI_toInt (by omega); have t_n3 : (nI S).toInt = (S : Int) := nI_toInt (by omega); have t_n4 : (nI M).toInt = (M : Int) := nI_toInt (by omega); have t_n5 : (nI kk).toInt = (kk : Int) := nI_toInt (by omega); omega) hst (by have t_b4 := b4; have t_hkk := hkk; have t_c5 := neI c5; have : (0 : Int32).toInt = 0 := (by decide); have t_n0 : (nI N).toInt = (N : Int) := nI_toInt (by omega); have t_n1 : (nI B).toInt = (B : Int) := nI_toInt (by omega); have t_n2 : (nI T).toInt = (T : Int) := nI_toInt (by omega); have t_n3 : (nI S).toInt = (S : Int) := nI_toInt (by omega); have t_n4 : (nI M).toInt = (M : Int) := nI_toInt (by omega); have t_n5 : (nI kk).toInt = (kk : Int) := nI_toInt (by omega); omega) (by have t_b4 := b4; have t_hkk := hkk; have t_c5 := neI c5; have : (0 : Int32).toInt = 0 := (by decide); have t_n0 : (nI N).toInt = (N : Int) := nI_toInt (by omega); have t_n1 : (nI B).toInt = (B : Int) := nI_toInt (by omega); have t_n2 : (nI T).toInt = (T : Int) := nI_toInt (by omega); have t_n3 : (nI S).toInt = (S : Int) := nI_toInt (by omega); have t_n4 : (nI M).toInt = (M : Int) := nI_toInt (by omega); have t_n5 : (nI kk).toInt = (kk : Int) := nI_toInt (by omega); omega)) (kwV hg mfX11_copies wt_1248 ⟨Nat.le_of_ble_eq_true rfl, Nat.le_of_ble_eq_true rfl⟩) (preVW hK hPc hDc (ci := 11) rfl rfl) rfl rfl hl.1 rfl (lv_room (Nat.le_of_ble_eq_true rfl)) dX11_back_32 ⟨Nat.le_of_ble_eq_true rfl, Nat.le_of_ble_eq_true rfl⟩) hS (fun q _ h => hFc q h) hFc (fun ur6 t H1 locs ht hvm w7 hB hz1 hk1 hS => ?_)
      obtain ⟨u8, rfl⟩ : ∃ z, z = ur6 := ⟨_, rfl⟩
      obtain ⟨hP1, hD1⟩ := hB
      rw [ht] at hP1
      obtain ⟨hP, hD⟩ := va_join (wr := [(ik, .inl (G 2, 2, .inl fik))]) (w1 := [(h0, .inr (11, [.ref st, .int (nI N), .int (nI B), .ref rp, .int vrs, .int vrb, .int vhs, .int vca, .int vxs, .int vxb, .ref tp, .int (nI T), .int vfa, .int vbr, .int vba, .int vsp, .int vhe, .int vtk, .int vva, .ref cu, .ref lt, .ref od, .ref th, .ref be, .ref ln, .int (nI S), .ref ma, .int (nI M), .ref ah, .ref bh, .ref ik, .ref la, .ref lg, .ref ce, .int vto])), (st, .inl (G 0, 196, .inl u8))]) hP hD [0, 1] [2] rfl rfl (by decide) (by decide) hk1 hFc hP1 hD1
      have w7 : OKS u8 := w7
      generalize H1 = H at hP hS ⊢
      have hP : va_P (dC, dI) vwCl [(ik, .inl (G 2, 2, .inl fik)), (h0, .inr (11, [.ref st, .int (nI N), .int (nI B), .ref rp, .int vrs, .int vrb, .int vhs, .int vca, .int vxs, .int vxb, .ref tp, .int (nI T), .int vfa, .int vbr, .int vba, .int vsp, .int vhe, .int vtk, .int vva, .ref cu, .ref lt, .ref od, .ref th, .ref be, .ref ln, .int (nI S), .ref ma, .int (nI M), .ref ah, .ref bh, .ref ik, .ref la, .ref lg, .ref ce, .int vto])), (st, .inl (G 0, 196, .inl u8))] H := hP
      have hD : va_D A [(ik, .inl (G 2, 2, .inl fik)), (h0, .inr (11, [.ref st, .int (nI N), .int (nI B), .ref rp, .int vrs, .int vrb, .int vhs, .int vca, .int vxs, .int vxb, .ref tp, .int (nI T), .int vfa, .int vbr, .int vba, .int vsp, .int vhe, .int vtk, .int vva, .ref cu, .ref lt, .ref od, .ref th, .ref be, .ref ln, .int (nI S), .ref ma, .int (nI M), .ref ah, .ref bh, .ref ik, .ref la, .ref lg, .ref ce, .int vto])), (st, .inl (G 0, 196, .inl u8))] := hD
      refine lv_aload_n hx hb dX11_back_35 rfl (lv_at hl 0 rfl) ?_
      refine va_get (D := (dC, dI)) (ci := 11) (v := .int (nI N)) (C := RX11) (T := TX11) (N := 35) hx hb hg inG11 hown hK.1 hP 1 rfl rfl 1 (by decide) (hg _ wt_879) (fun _ h9 => h9) rfl dX11_back_36 ?_
      have hpost : (nI N : Int32) = if (0 ≤ (nI kk).toInt ∧ (nI kk).toInt < 2) then (if fik (nI kk).toNatClampNeg = 0 then -2 else nI N) else -1 := by
        have t_b4 := b4
        have t_hkk := hkk
        have t_c5 := neI c5
        have : (0 : Int32).toInt = 0 := (by decide)
        have t_n0 : (nI N).toInt = (N : Int) := nI_toInt (by omega)
        have t_n1 : (nI B).toInt = (B : Int) := nI_toInt (by omega)
        have t_n2 : (nI T).toInt = (T : Int) := nI_toInt (by omega)
        have t_n3 : (nI S).toInt = (S : Int) := nI_toInt (by omega)
        have t_n4 : (nI M).toInt = (M : Int) := nI_toInt (by omega)
        have t_n5 : (nI kk).toInt = (kk : Int) := nI_toInt (by omega)
        have z0 : (0 : Int32).toInt = 0 := (by decide)
        have z1 : (1 : Int32).toInt = 1 := (by decide)
        have z2 : (2 : Int32).toInt = 2 := (by decide)
        have z3 : (3 : Int32).toInt = 3 := (by decide)
        have z5 : (5 : Int32).toInt = 5 := (by decide)
        have z9 : (9 : Int32).toInt = 9 := (by decide)
        have z20 : (20 : Int32).toInt = 20 := (by decide)
        have z4 : (-4 : Int32).toInt = -4 := (by decide)
        have z10 : (10 : Int32).toInt = 10 := (by decide)
        first | (rw [if_neg (by omega)]; done) | (rw [if_pos (by omega), nI_clamp (by omega)]; first | (rw [if_pos (by assumption)]; done) | (rw [if_neg (by assumption)]; done))
      have hP9 := hP.sub (ws' := [(h0, .inr (11, [.ref st, .int (nI N), .int (nI B), .ref rp, .int vrs, .int vrb, .int vhs, .int vca, .int vxs, .int vxb, .ref tp, .int (nI T), .int vfa, .int vbr, .int vba, .int vsp, .int vhe, .int vtk, .int vva, .ref cu, .ref lt, .ref od, .ref th, .ref be, .ref ln, .int (nI S), .ref ma, .int (nI M), .ref ah, .ref bh, .ref ik, .ref la, .ref lg, .ref ce, .int vto])), (st, .inl (G 0, 196, .inl u8)), (ik, .inl (G 2, 2, .inl fik))]) [1, 2, 0] rfl
      have hD9 := hD.sub (ws' := [(h0, .inr (11, [.ref st, .int (nI N), .int (nI B), .ref rp, .int vrs, .int vrb, .int vhs, .int vca, .int vxs, .int vxb, .ref tp, .int (nI T), .int vfa, .int vbr, .int vba, .int vsp, .int vhe, .int vtk, .int vva, .ref cu, .ref lt, .ref od, .ref th, .ref be, .ref ln, .int (nI S), .ref ma, .int (nI M), .ref ah, .ref bh, .ref ik, .ref la, .ref lg, .ref ce, .int vto])), (st, .inl (G 0, 196, .inl u8)), (ik, .inl (G 2, 2, .inl fik))]) [1, 2, 0] (by decide) rfl
      refine W.widen (k := 0) (n := 0) (by omega) (by omega) ?_
      exact W.iret (v := nI N) hx hb hr (fun t ht hW => ⟨⟨nI N, u8, rfl, ⟨hpost, w7⟩, ⟨by rw [ht]; exact hP9, hD9⟩⟩, hS.F ht⟩) hS.2.2 dX11_back_39
    · skip
      refine lv_bipush (v := (-2)) hx hb dX11_back_21 (by decide) ?_
      have hpost : ((-2) : Int32) = if (0 ≤ (nI kk).toInt ∧ (nI kk).toInt < 2) then (if fik (nI kk).toNatClampNeg = 0 then -2 else nI N) else -1 := by
        have t_b4 := b4
        have t_hkk := hkk
        have t_c5 := eqI c5
        have : (0 : Int32).toInt = 0 := (by decide)
        have t_n0 : (nI N).toInt = (N : Int) := nI_toInt (by omega)
        have t_n1 : (nI B).toInt = (B : Int) := nI_toInt (by omega)
        have t_n2 : (nI T).toInt = (T : Int) := nI_toInt (by omega)
        have t_n3 : (nI S).toInt = (S : Int) := nI_toInt (by omega)
        have t_n4 : (nI M).toInt = (M : Int) := nI_toInt (by omega)
        have t_n5 : (nI kk).toInt = (kk : Int) := nI_toInt (by omega)
        have z0 : (0 : Int32).toInt = 0 := (by decide)
        have z1 : (1 : Int32).toInt = 1 := (by decide)
        have z2 : (2 : Int32).toInt = 2 := (by decide)
        have z3 : (3 : Int32).toInt = 3 := (by decide)
        have z5 : (5 : Int32).toInt = 5 := (by decide)
        have z9 : (9 : Int32).toInt = 9 := (by decide)
        have z20 : (20 : Int32).toInt = 20 := (by decide)
        have z4 : (-4 : Int32).toInt = -4 := (by decide)
        have z10 : (10 : Int32).toInt = 10 := (by decide)
        first | (rw [if_neg (by omega)]; done) | (rw [if_pos (by omega), nI_clamp (by omega)]; first | (rw [if_pos (by assumption)]; done) | (rw [if_neg (by assumption)]; done))
      have hP9 := hP.sub (ws' := [(h0, .inr (11, [.ref st, .int (nI N), .int (nI B), .ref rp, .int vrs, .int vrb, .int vhs, .int vca, .int vxs, .int vxb, .ref tp, .int (nI T), .int vfa, .int vbr, .int vba, .int vsp, .int vhe, .int vtk, .int vva, .ref cu, .ref lt, .ref od, .ref th, .ref be, .ref ln, .int (nI S), .ref ma, .int (nI M), .ref ah, .ref bh, .ref ik, .ref la, .ref lg, .ref ce, .int vto])), (st, .inl (G 0, 196, .inl fst)), (ik, .inl (G 2, 2, .inl fik))]) [0, 1, 2] rfl
      have hD9 := hD.sub (ws' := [(h0, .inr (11, [.ref st, .int (nI N), .int (nI B), .ref rp, .int vrs, .int vrb, .int vhs, .int vca, .int vxs, .int vxb, .ref tp, .int (nI T), .int vfa, .int vbr, .int vba, .int vsp, .int vhe, .int vtk, .int vva, .ref cu, .ref lt, .ref od, .ref th, .ref be, .ref ln, .int (nI S), .ref ma, .int (nI M), .ref ah, .ref bh, .ref ik, .ref la, .ref lg, .ref ce, .int vto])), (st, .inl (G 0, 196, .inl fst)), (ik, .inl (G 2, 2, .inl fik))]) [0, 1, 2] (by decide) rfl
      refine W.widen (k := 0) (n := 0) (by omega) (by omega) ?_
      exact W.iret (v := (-2)) hx hb hr (fun t ht hW => ⟨⟨(-2), fst, rfl, ⟨hpost, hst⟩, ⟨by rw [ht]; exact hP9, hD9⟩⟩, hS.F ht⟩) hS.2.2 dX11_back_23
  · skip
    have b9 := if10_n c3
    refine lv_iconst (v := (-1)) hx hb dX11_back_10 (by decide) ?_
    have hpost : ((-1) : Int32) = if (0 ≤ k.toInt ∧ k.toInt < 2) then (if fik k.toNatClampNeg = 0 then -2 else nI N) else -1 := by
      have t_b9 := b9
      have t_n0 : (nI N).toInt = (N : Int) := nI_toInt (by omega)
      have t_n1 : (nI B).toInt = (B : Int) := nI_toInt (by omega)
      have t_n2 : (nI T).toInt = (T : Int) := nI_toInt (by omega)
      have t_n3 : (nI S).toInt = (S : Int) := nI_toInt (by omega)
      have t_n4 : (nI M).toInt = (M : Int) := nI_toInt (by omega)
      have z0 : (0 : Int32).toInt = 0 := (by decide)
      have z1 : (1 : Int32).toInt = 1 := (by decide)
      have z2 : (2 : Int32).toInt = 2 := (by decide)
      have z3 : (3 : Int32).toInt = 3 := (by decide)
      have z5 : (5 : Int32).toInt = 5 := (by decide)
      have z9 : (9 : Int32).toInt = 9 := (by decide)
      have z20 : (20 : Int32).toInt = 20 := (by decide)
      have z4 : (-4 : Int32).toInt = -4 := (by decide)
      have z10 : (10 : Int32).toInt = 10 := (by decide)
      first | (rw [if_neg (by omega)]; done) | (rw [if_pos (by omega), nI_clamp (by omega)]; first | (rw [if_pos (by assumption)]; done) | (rw [if_neg (by assumption)]; done))
    have hP9 := hP.sub (ws' := [(h0, .inr (11, [.ref st, .int (nI N), .int (nI B), .ref rp, .int vrs, .int vrb, .int vhs, .int vca, .int vxs, .int vxb, .ref tp, .int (nI T), .int vfa, .int vbr, .int vba, .int vsp, .int vhe, .int vtk, .int vva, .ref cu, .ref lt, .ref od, .ref th, .ref be, .ref ln, .int (nI S), .ref ma, .int (nI M), .ref ah, .ref bh, .ref ik, .ref la, .ref lg, .ref ce, .int vto])), (st, .inl (G 0, 196, .inl fst)), (ik, .inl (G 2, 2, .inl fik))]) [0, 1, 2] rfl
    have hD9 := hD.sub (ws' := [(h0, .inr (11, [.ref st, .int (nI N), .int (nI B), .ref rp, .int vrs, .int vrb, .int vhs, .int vca, .int vxs, .int vxb, .ref tp, .int (nI T), .int vfa, .int vbr, .int vba, .int vsp, .int vhe, .int vtk, .int vva, .ref cu, .ref lt, .ref od, .ref th, .ref be, .ref ln, .int (nI S), .ref ma, .int (nI M), .ref ah, .ref bh, .ref ik, .ref la, .ref lg, .ref ce, .int vto])), (st, .inl (G 0, 196, .inl fst)), (ik, .inl (G 2, 2, .inl fik))]) [0, 1, 2] (by decide) rfl
    refine W.widen (k := 0) (n := 0) (by omega) (by omega) ?_
    exact W.iret (v := (-1)) hx hb hr (fun t ht hW => ⟨⟨(-1), fst, rfl, ⟨hpost, hst⟩, ⟨by rw [ht]; exact hP9, hD9⟩⟩, hS.F ht⟩) hS.2.2 dX11_back_11
