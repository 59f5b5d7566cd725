set_option maxHeartbeats 1000000 in
set_option maxRecDepth 100000 in
theorem c_X11_learnE (l : Launch) (dC : Nat → ClassId) (dI : Nat → Nat → Nat) (G : Nat → ClassId) (sz : Nat) (h0 st N B rp tp T cu lt od th be ln S ma M ah bh ik la lg ce : Nat) (i g k hm vrs vrb vhs vca vxs vxb vfa vbr vba vsp vhe vtk vva vto : Int32) (fln : Nat → Int32) (hN : N ≤ 10) (hB : B ≤ 6) (hT : T ≤ 320) (hS0 : S ≤ 8) (hM : M ≤ 6) (hln : OKL fln) : Met l yX11_learn (Cond.code yX11_learn cX11_learn 6 (some .int) :: GT) ({ frames := 3, cells := 0, slots := 0, locals := 69 } : Room) (PcW [.ref h0, .int i, .int g, .int k, .int hm] dC dI G [(h0, .inr (11, [.ref st, .int (nI N), .int (nI B), .ref rp, .int vrs, .int vrb, .int vhs, .int vca, .int vxs, .int vxb, .ref tp, .int (nI T), .int vfa, .int vbr, .int vba, .int vsp, .int vhe, .int vtk, .int vva, .ref cu, .ref lt, .ref od, .ref th, .ref be, .ref ln, .int (nI S), .ref ma, .int (nI M), .ref ah, .ref bh, .ref ik, .ref la, .ref lg, .ref ce, .int vto])), (ln, .inl (G 0, 32, .inl fln))] sz) (va_Qi (fun (r : Int32) (u : Nat × (Nat → Int32)) => match u with | (oS, oln) => (r = if ((0 ≤ i.toInt ∧ i.toInt < ((N : Nat) : Int)) ∧ (g.toInt = -4 ∨ (0 ≤ g.toInt ∧ g.toInt < ((B : Nat) : Int))) ∧ (0 ≤ k.toInt ∧ k.toInt < ((B : Nat) : Int)) ∧ 0 ≤ hm.toInt ∧ hm.toInt ≤ 20) then (if S < 8 then nI (S + 1) else -3) else -1) ∧ (oS ≤ 8 ∧ OKL oln) ∧ oS = (if ((0 ≤ i.toInt ∧ i.toInt < ((N : Nat) : Int)) ∧ (g.toInt = -4 ∨ (0 ≤ g.toInt ∧ g.toInt < ((B : Nat) : Int))) ∧ (0 ≤ k.toInt ∧ k.toInt < ((B : Nat) : Int)) ∧ 0 ≤ hm.toInt ∧ hm.toInt ≤ 20) ∧ S < 8 then S + 1 else S)) (fun (u : Nat × (Nat → Int32)) (t : State) => match u with | (oS, oln) => va_P (dC, dI) vwCl [(h0, .inr (11, [.ref st, .int (nI N), .int (nI B), .ref rp, .int vrs, .int vrb, .int vhs, .int vca, .int vxs, .int vxb, .ref tp, .int (nI T), .int vfa, .int vbr, .int vba, .int vsp, .int vhe, .int vtk, .int vva, .ref cu, .ref lt, .ref od, .ref th, .ref be, .ref ln, .int (nI oS), .ref ma, .int (nI M), .ref ah, .ref bh, .ref ik, .ref la, .ref lg, .ref ce, .int vto])), (ln, .inl (G 0, 32, .inl oln))] t.heap ∧ va_D (va_A [(h0, .inr (11, [.ref st, .int (nI N), .int (nI B), .ref rp, .int vrs, .int vrb, .int vhs, .int vca, .int vxs, .int vxb, .ref tp, .int (nI T), .int vfa, .int vbr, .int vba, .int vsp, .int vhe, .int vtk, .int vva, .ref cu, .ref lt, .ref od, .ref th, .ref be, .ref ln, .int (nI S), .ref ma, .int (nI M), .ref ah, .ref bh, .ref ik, .ref la, .ref lg, .ref ce, .int vto])), (ln, .inl (G 0, 32, .inl fln))] sz) [(h0, .inr (11, [.ref st, .int (nI N), .int (nI B), .ref rp, .int vrs, .int vrb, .int vhs, .int vca, .int vxs, .int vxb, .ref tp, .int (nI T), .int vfa, .int vbr, .int vba, .int vsp, .int vhe, .int vtk, .int vva, .ref cu, .ref lt, .ref od, .ref th, .ref be, .ref ln, .int (nI oS), .ref ma, .int (nI M), .ref ah, .ref bh, .ref ik, .ref la, .ref lg, .ref ce, .int vto])), (ln, .inl (G 0, 32, .inl oln))]) (va_A [(h0, .inr (11, [.ref st, .int (nI N), .int (nI B), .ref rp, .int vrs, .int vrb, .int vhs, .int vca, .int vxs, .int vxb, .ref tp, .int (nI T), .int vfa, .int vbr, .int vba, .int vsp, .int vhe, .int vtk, .int vva, .ref cu, .ref lt, .ref od, .ref th, .ref be, .ref ln, .int (nI S), .ref ma, .int (nI M), .ref ah, .ref bh, .ref ik, .ref la, .ref lg, .ref ce, .int vto])), (ln, .inl (G 0, 32, .inl fln))] sz)) 0 0 (va_A [(h0, .inr (11, [.ref st, .int (nI N), .int (nI B), .ref rp, .int vrs, .int vrb, .int vhs, .int vca, .int vxs, .int vxb, .ref tp, .int (nI T), .int vfa, .int vbr, .int vba, .int vsp, .int vhe, .int vtk, .int vva, .ref cu, .ref lt, .ref od, .ref th, .ref be, .ref ln, .int (nI S), .ref ma, .int (nI M), .ref ah, .ref bh, .ref ik, .ref la, .ref lg, .ref ce, .int vto])), (ln, .inl (G 0, 32, .inl fln))] sz) := by
  refine Met.ofW (cc := cX11_learn) (maxL := 6) (ret := (some .int)) (by decide) rfl ?_
  intro p e s m args below meth c s₁ Bd hml hv
  obtain ⟨rfl, hsz, hP, hK, hD0⟩ := hv
  have hx := Bd.exec
  have hb := Bd.bytes
  have hr := Bd.returns
  have hg : ∀ w ∈ GT, w.before ([.ref h0, .int i, .int g, .int k, .int hm] : List Value).toArray s = true := fun w h => atoms_spec (ws := Cond.code yX11_learn cX11_learn 6 (some .int) :: GT) Bd.pre w (List.mem_cons_of_mem _ h)
  have hown : s.vm.findClass RX11 = some m.cls := findClass_of_methodNamed Bd.named
  have hlocks := Bd.notSynchronized
  subst hsz
  have hD := hD0.self (sz := s.heap.size)
  generalize hAe : va_A [(h0, .inr (11, [.ref st, .int (nI N), .int (nI B), .ref rp, .int vrs, .int vrb, .int vhs, .int vca, .int vxs, .int vxb, .ref tp, .int (nI T), .int vfa, .int vbr, .int vba, .int vsp, .int vhe, .int vtk, .int vva, .ref cu, .ref lt, .ref od, .ref th, .ref be, .ref ln, .int (nI S), .ref ma, .int (nI M), .ref ah, .ref bh, .ref ik, .ref la, .ref lg, .ref ce, .int vto])), (ln, .inl (G 0, 32, .inl fln))] s.heap.size = A at hD ⊢
  have hA : ∀ q : Nat, s.heap.size ≤ q → A q := fun q h => by rw [← hAe]; exact Or.inr h
  have hS : va_S A s.heap s.heap [] := va_S.rf
  have hl := lv_entry ([.ref h0, .int i, .int g, .int k, .int hm]) (n := 6) (Nat.le_of_ble_eq_true rfl)
  rw [lg_entry_eq]
  generalize (lg_sl ([.ref h0, .int i, .int g, .int k, .int hm]) ++ List.replicate (6 - (lg_sl ([.ref h0, .int i, .int g, .int k, .int hm])).length) Slot.unset).toArray = ls at hl ⊢
  have hl : lv_has ls 6 [(0, .ref h0), (1, .int i), (2, .int g), (3, .int k), (4, .int hm)] := hl
  refine lv_aload_n hx hb dX11_learn_0 rfl (lv_at hl 0 rfl) ?_
  refine lv_iload_n hx hb dX11_learn_1 rfl (lv_at hl 1 rfl) ?_
  refine lv_iload_n hx hb dX11_learn_2 rfl (lv_at hl 2 rfl) ?_
  refine lv_iload_n hx hb dX11_learn_3 rfl (lv_at hl 3 rfl) ?_
  have hPc := hP.sub (ws' := [(h0, .inr (11, [.ref st, .int (nI N), .int (nI B), .ref rp, .int vrs, .int vrb, .int vhs, .int vca, .int vxs, .int vxb, .ref tp, .int (nI T), .int vfa, .int vbr, .int vba, .int vsp, .int vhe, .int vtk, .int vva, .ref cu, .ref lt, .ref od, .ref th, .ref be, .ref ln, .int (nI S), .ref ma, .int (nI M), .ref ah, .ref bh, .ref ik, .ref la, .ref lg, .ref ce, .int vto]))]) [0] rfl
  refine va_calli (va_runV (As := [.int i, .int g, .int k]) (rest := []) ⟨hx, hb, hml, hown, hg⟩ (c_X11_canHarm l dC dI G _ h0 st N B rp tp T cu lt od th be ln S ma M ah bh ik la lg ce i g k vrs vrb vhs vca vxs vxb vfa vbr vba vsp vhe vtk vva vto (by have t_n0 : (nI N).toInt = (N : Int) := nI_toInt (by omega); have t_n1 : (nI B).toInt = (B : Int) := nI_toInt (by omega); have t_n2 : (nI T).toInt = (T : Int) := nI_toInt (by omega); have t_n3 : (nI S).toInt = (S : Int) := nI_toInt (by omega); have t_n4 : (nI M).toInt = (M : Int) := nI_toInt (by omega); omega) (by have t_n0 : (nI N).toInt = (N : Int) := nI_toInt (by omega); have t_n1 : (nI B).toInt = (B : Int) := nI_toInt (by omega); have t_n2 : (nI T).toInt = (T : Int) := nI_toInt (by omega); have t_n3 : (nI S).toInt = (S : Int) := nI_toInt (by omega); have t_n4 : (nI M).toInt = (M : Int) := nI_toInt (by omega); omega) (by have t_n0 : (nI N).toInt = (N : Int) := nI_toInt (by omega); have t_n1 : (nI B).toInt = (B : Int) := nI_toInt (by omega); have t_n2 : (nI T).toInt = (T : Int) := nI_toInt (by omega); have t_n3 : (nI S).toInt = (S : Int) := nI_toInt (by omega); have t_n4 : (nI M).toInt = (M : Int) := nI_toInt (by omega); omega) (by have t_n0 : (nI N).toInt = (N : Int) := nI_toInt (by omega); have t_n1 : (nI B).toInt = (B : Int) := nI_toInt (by omega); have t_n2 : (nI T).toInt = (T : Int) := nI_toInt (by omega); have t_n3 : (nI S).toInt = (S : Int) := nI_toInt (by omega); have t_n4 : (nI M).toInt = (M : Int) := nI_toInt (by omega); omega) (by have t_n0 : (nI N).toInt = (N : Int) := nI_toInt (by omega); have t_n1 : (nI B).toInt = (B : Int) := nI_toInt (by omega); have t_n2 : (nI T).toInt = (T : Int) := nI_toInt (by omega); have t_n3 : (nI S).toInt = (S : Int) := nI_toInt (by omega); have t_n4 : (nI M).toInt = (M : Int) := nI_toInt (by omega); omega)) (kwV hg mfX11_canHarm wt_1102 ⟨Nat.le_of_ble_eq_true rfl, Nat.le_of_ble_eq_true rfl⟩) (preVR hK hPc (ci := 11) rfl rfl) rfl rfl hl.1 rfl (lv_room (Nat.le_of_ble_eq_true rfl)) dX11_learn_4 ⟨Nat.le_of_ble_eq_true rfl, Nat.le_of_ble_eq_true rfl⟩) hS (fun q h1 h2 => absurd h2 (Nat.not_le.mpr h1)) (fun q h => hA q (Nat.le_trans hS.1 h)) (fun r1 ur1 t H1 locs ht hvm w2 hB hz1 hk1 hS => ?_)
  have hP := keepR hP hk1
  obtain ⟨w2, w2x⟩ := w2
  try simp only [l_ii] at w2
  subst w2
  refine lv_if_eq (tgt := 23) hx hb dX11_learn_7 (by decide) (fun c3 => ?_) (fun c3 => ?_)
  · skip
    have b4 := if10_n c3
    refine lv_iconst (v := (-1)) hx hb dX11_learn_23 (by decide) ?_
    have hpost : ((-1) : Int32) = if ((0 ≤ i.toInt ∧ i.toInt < ((N : Nat) : Int)) ∧ (g.toInt = -4 ∨ (0 ≤ g.toInt ∧ g.toInt < ((B : Nat) : Int))) ∧ (0 ≤ k.toInt ∧ k.toInt < ((B : Nat) : Int)) ∧ 0 ≤ hm.toInt ∧ hm.toInt ≤ 20) then (if S < 8 then nI (S + 1) else -3) else -1 := by
      have t_b4 := b4
      have t_n0 : (nI N).toInt = (N : Int) := nI_toInt (by omega)
      have t_n1 : (nI B).toInt = (B : Int) := nI_toInt (by omega)
      have t_n2 : (nI T).toInt = (T : Int) := nI_toInt (by omega)
      have t_n3 : (nI S).toInt = (S : Int) := nI_toInt (by omega)
      have t_n4 : (nI M).toInt = (M : Int) := nI_toInt (by omega)
      have z0 : (0 : Int32).toInt = 0 := (by decide)
      have z1 : (1 : Int32).toInt = 1 := (by decide)
      have z2 : (2 : Int32).toInt = 2 := (by decide)
      have z3 : (3 : Int32).toInt = 3 := (by decide)
      have z5 : (5 : Int32).toInt = 5 := (by decide)
      have z9 : (9 : Int32).toInt = 9 := (by decide)
      have z20 : (20 : Int32).toInt = 20 := (by decide)
      have z4 : (-4 : Int32).toInt = -4 := (by decide)
      have z10 : (10 : Int32).toInt = 10 := (by decide)
      rw [if_neg (by omega)]
    have hP9 := hP.sub (ws' := [(h0, .inr (11, [.ref st, .int (nI N), .int (nI B), .ref rp, .int vrs, .int vrb, .int vhs, .int vca, .int vxs, .int vxb, .ref tp, .int (nI T), .int vfa, .int vbr, .int vba, .int vsp, .int vhe, .int vtk, .int vva, .ref cu, .ref lt, .ref od, .ref th, .ref be, .ref ln, .int (nI S), .ref ma, .int (nI M), .ref ah, .ref bh, .ref ik, .ref la, .ref lg, .ref ce, .int vto])), (ln, .inl (G 0, 32, .inl fln))]) [0, 1] rfl
    have hD9 := hD.sub (ws' := [(h0, .inr (11, [.ref st, .int (nI N), .int (nI B), .ref rp, .int vrs, .int vrb, .int vhs, .int vca, .int vxs, .int vxb, .ref tp, .int (nI T), .int vfa, .int vbr, .int vba, .int vsp, .int vhe, .int vtk, .int vva, .ref cu, .ref lt, .ref od, .ref th, .ref be, .ref ln, .int (nI S), .ref ma, .int (nI M), .ref ah, .ref bh, .ref ik, .ref la, .ref lg, .ref ce, .int vto])), (ln, .inl (G 0, 32, .inl fln))]) [0, 1] (by decide) rfl
    refine W.widen (k := 0) (n := 0) (by omega) (by omega) ?_
    exact W.iret (v := (-1)) hx hb hr (fun t ht hW => ⟨⟨(-1), (S, fln), rfl, ⟨hpost, ⟨⟨(by have t_b4 := b4; have t_n0 : (nI N).toInt = (N : Int) := nI_toInt (by omega); have t_n1 : (nI B).toInt = (B : Int) := nI_toInt (by omega); have t_n2 : (nI T).toInt = (T : Int) := nI_toInt (by omega); have t_n3 : (nI S).toInt = (S : Int) := nI_toInt (by omega); have t_n4 : (nI M).toInt = (M : Int) := nI_toInt (by omega); omega), hln⟩, (by have t_b4 := b4; have t_n0 : (nI N).toInt = (N : Int) := nI_toInt (by omega); have t_n1 : (nI B).toInt = (B : Int) := nI_toInt (by omega); have t_n2 : (nI T).toInt = (T : Int) := nI_toInt (by omega); have t_n3 : (nI S).toInt = (S : Int) := nI_toInt (by omega); have t_n4 : (nI M).toInt = (M : Int) := nI_toInt (by omega); have z0 : (0 : Int32).toInt = 0 := (by decide); have z1 : (1 : Int32).toInt = 1 := (by decide); have z2 : (2 : Int32).toInt = 2 := (by decide); have z3 : (3 : Int32).toInt = 3 := (by decide); have z5 : (5 : Int32).toInt = 5 := (by decide); have z9 : (9 : Int32).toInt = 9 := (by decide); have z20 : (20 : Int32).toInt = 20 := (by decide); have z4 : (-4 : Int32).toInt = -4 := (by decide); have z10 : (10 : Int32).toInt = 10 := (by decide); first | (rw [if_neg (by omega)]; done) | (rw [if_pos ⟨by omega, by omega⟩]; done))⟩⟩, ⟨by rw [ht]; exact hP9, hD9⟩⟩, hS.F ht⟩) hS.2.2 dX11_learn_24
  · skip
    have b5 := if10_p c3
    refine lv_iload hx hb dX11_learn_10 (lv_at hl 4 rfl) ?_
    refine lv_i2l (v := hm.toInt64) hx hb dX11_learn_12 rfl ?_
    refine lv_lconst (v := 0) hx hb dX11_learn_13 (by decide) ?_
    refine lv_ldc2 (v := 20) hx hb hown (hg _ wt_1127) dX11_learn_14 ?_
    have hPc := hP.sub (ws' := []) [] rfl
    refine va_calli (va_runS (As := [.long hm.toInt64, .long 0, .long 20]) (rest := []) ⟨hx, hb, hml, hown, hg⟩ (c_X11_in l dC dI G _ hm.toInt64 0 20 ) (kwS hg mfX11_in wt_992 ⟨Nat.le_of_ble_eq_true rfl, Nat.le_of_ble_eq_true rfl⟩) (preSR hK hPc) rfl rfl hl.1 rfl (lv_room (Nat.le_of_ble_eq_true rfl)) dX11_learn_17 ⟨Nat.le_of_ble_eq_true rfl, Nat.le_of_ble_eq_true rfl⟩) hS (fun q h1 h2 => absurd h2 (Nat.not_le.mpr h1)) (fun q h => hA q (Nat.le_trans hS.1 h)) (fun r6 ur6 t H1 locs ht hvm w7 hB hz1 hk1 hS => ?_)
    have hP := keepR hP hk1
    obtain ⟨w7, w7x⟩ := w7
    try simp only [l_ii, show (0 : Int64).toInt = 0 from by decide, show (20 : Int64).toInt = 20 from by decide] at w7
    subst w7
    refine lv_if_ne (tgt := 25) hx hb dX11_learn_20 (by decide) (fun c8 => ?_) (fun c8 => ?_)
    · skip
      have b9 := if10_p c8
      refine lv_aload_n hx hb dX11_learn_25 rfl (lv_at hl 0 rfl) ?_
      refine va_get (D := (dC, dI)) (ci := 11) (v := .int (nI S)) (C := RX11) (T := TX11) (N := 35) hx hb hg inG11 hown hK.1 hP 0 rfl rfl 25 (by decide) (hg _ wt_903) (fun _ h9 => h9) rfl dX11_learn_26 ?_
      refine lv_bipush (v := 8) hx hb dX11_learn_29 (by decide) ?_
      refine lv_icmp_ne (tgt := 37) hx hb dX11_learn_31 (by decide) (fun c10 => ?_) (fun c10 => ?_)
      · skip
        have n11 : S ≠ 8 := by have t := neI c10; rw [nI_toInt (n := S) (by omega)] at t; have : (8 : Int32).toInt = 8 := (by decide); omega
        refine lv_iconst (v := 4) hx hb dX11_learn_37 (by decide) ?_
        refine lv_aload_n hx hb dX11_learn_38 rfl (lv_at hl 0 rfl) ?_
        refine va_get (D := (dC, dI)) (ci := 11) (v := .int (nI S)) (C := RX11) (T := TX11) (N := 35) hx hb hg inG11 hown hK.1 hP 0 rfl rfl 25 (by decide) (hg _ wt_903) (fun _ h9 => h9) rfl dX11_learn_39 ?_
        refine lv_imul hx hb dX11_learn_42 ?_
        refine lv_cg (y := nI (4 * S)) (by rw [show (4 : Int32) = nI 4 from rfl]; exact pk_mul _ _) ?_
        refine lv_istore (lv' := [(5, .int (nI (4 * S))), (0, .ref h0), (1, .int i), (2, .int g), (3, .int k), (4, .int hm)]) hx hb dX11_learn_43 hl (by decide) rfl (fun ls hl => ?_)
        refine lv_aload_n hx hb dX11_learn_45 rfl (lv_at hl 1 rfl) ?_
        refine va_get (D := (dC, dI)) (ci := 11) (v := .ref ln) (C := RX11) (T := TX11) (N := 35) hx hb hg inG11 hown hK.1 hP 0 rfl rfl 24 (by decide) (hg _ wt_902) (fun _ h9 => h9) rfl dX11_learn_46 ?_
        refine lv_iload hx hb dX11_learn_49 (lv_at hl 0 rfl) ?_
        refine lv_iload_n hx hb dX11_learn_51 rfl (lv_at hl 2 rfl) ?_
        refine va_iast hx hb hK.1 hP hD hS 1 0 rfl rfl (vp_in_nI (by have t_b5 := b5; have t_b9 := b9; have t_n11 := n11; have t_n0 : (nI N).toInt = (N : Int) := nI_toInt (by omega); have t_n1 : (nI B).toInt = (B : Int) := nI_toInt (by omega); have t_n2 : (nI T).toInt = (T : Int) := nI_toInt (by omega); have t_n3 : (nI S).toInt = (S : Int) := nI_toInt (by omega); have t_n4 : (nI M).toInt = (M : Int) := nI_toInt (by omega); omega) (by decide)) dX11_learn_52 (fun H locs hP hD hS => ?_)
        rw [nI_clamp (by omega)] at hP hD
        have hP : va_P (dC, dI) vwCl [(h0, .inr (11, [.ref st, .int (nI N), .int (nI B), .ref rp, .int vrs, .int vrb, .int vhs, .int vca, .int vxs, .int vxb, .ref tp, .int (nI T), .int vfa, .int vbr, .int vba, .int vsp, .int vhe, .int vtk, .int vva, .ref cu, .ref lt, .ref od, .ref th, .ref be, .ref ln, .int (nI S), .ref ma, .int (nI M), .ref ah, .ref bh, .ref ik, .ref la, .ref lg, .ref ce, .int vto])), (ln, .inl (G 0, 32, .inl (upd fln (4 * S) i)))] H := hP
        have hD : va_D A [(h0, .inr (11, [.ref st, .int (nI N), .int (nI B), .ref rp, .int vrs, .int vrb, .int vhs, .int vca, .int vxs, .int vxb, .ref tp, .int (nI T), .int vfa, .int vbr, .int vba, .int vsp, .int vhe, .int vtk, .int vva, .ref cu, .ref lt, .ref od, .ref th, .ref be, .ref ln, .int (nI S), .ref ma, .int (nI M), .ref ah, .ref bh, .ref ik, .ref la, .ref lg, .ref ce, .int vto])), (ln, .inl (G 0, 32, .inl (upd fln (4 * S) i)))] := hD
        refine lv_aload_n hx hb dX11_learn_53 rfl (lv_at hl 1 rfl) ?_
        refine va_get (D := (dC, dI)) (ci := 11) (v := .ref ln) (C := RX11) (T := TX11) (N := 35) hx hb hg inG11 hown hK.1 hP 0 rfl rfl 24 (by decide) (hg _ wt_902) (fun _ h9 => h9) rfl dX11_learn_54 ?_
        refine lv_iload hx hb dX11_learn_57 (lv_at hl 0 rfl) ?_
        refine lv_iconst (v := 1) hx hb dX11_learn_59 (by decide) ?_
        refine lv_iadd hx hb dX11_learn_60 ?_
        refine lv_cg (y := nI ((4 * S) + 1)) (by rw [show (1 : Int32) = nI 1 from rfl]; exact nI_add _ _) ?_
        refine lv_iload_n hx hb dX11_learn_61 rfl (lv_at hl 3 rfl) ?_
        refine va_iast hx hb hK.1 hP hD hS 1 0 rfl rfl (vp_in_nI (by have t_b5 := b5; have t_b9 := b9; have t_n11 := n11; have t_n0 : (nI N).toInt = (N : Int) := nI_toInt (by omega); have t_n1 : (nI B).toInt = (B : Int) := nI_toInt (by omega); have t_n2 : (nI T).toInt = (T : Int) := nI_toInt (by omega); have t_n3 : (nI S).toInt = (S : Int) := nI_toInt (by omega); have t_n4 : (nI M).toInt = (M : Int) := nI_toInt (by omega); omega) (by decide)) dX11_learn_62 (fun H locs hP hD hS => ?_)
        rw [nI_clamp (by omega)] at hP hD
        have hP : va_P (dC, dI) vwCl [(h0, .inr (11, [.ref st, .int (nI N), .int (nI B), .ref rp, .int vrs, .int vrb, .int vhs, .int vca, .int vxs, .int vxb, .ref tp, .int (nI T), .int vfa, .int vbr, .int vba, .int vsp, .int vhe, .int vtk, .int vva, .ref cu, .ref lt, .ref od, .ref th, .ref be, .ref ln, .int (nI S), .ref ma, .int (nI M), .ref ah, .ref bh, .ref ik, .ref la, .ref lg, .ref ce, .int vto])), (ln, .inl (G 0, 32, .inl (upd (upd fln (4 * S) i) ((4 * S) + 1) g)))] H := hP
        have hD : va_D A [(h0, .inr (11, [.ref st, .int (nI N), .int (nI B), .ref rp, .int vrs, .int vrb, .int vhs, .int vca, .int vxs, .int vxb, .ref tp, .int (nI T), .int vfa, .int vbr, .int vba, .int vsp, .int vhe, .int vtk, .int vva, .ref cu, .ref lt, .ref od, .ref th, .ref be, .ref ln, .int (nI S), .ref ma, .int (nI M), .ref ah, .ref bh, .ref ik, .ref la, .ref lg, .ref ce, .int vto])), (ln, .inl (G 0, 32, .inl (upd (upd fln (4 * S) i) ((4 * S) + 1) g)))] := hD
        refine lv_aload_n hx hb dX11_learn_63 rfl (lv_at hl 1 rfl) ?_
        refine va_get (D := (dC, dI)) (ci := 11) (v := .ref ln) (C := RX11) (T := TX11) (N := 35) hx hb hg inG11 hown hK.1 hP 0 rfl rfl 24 (by decide) (hg _ wt_902) (fun _ h9 => h9) rfl dX11_learn_64 ?_
        refine lv_iload hx hb dX11_learn_67 (lv_at hl 0 rfl) ?_
        refine lv_iconst (v := 2) hx hb dX11_learn_69 (by decide) ?_
        refine lv_iadd hx hb dX11_learn_70 ?_
        refine lv_cg (y := nI ((4 * S) + 2)) (by rw [show (2 : Int32) = nI 2 from rfl]; exact nI_add _ _) ?_
        refine lv_iload_n hx hb dX11_learn_71 rfl (lv_at hl 4 rfl) ?_
        refine va_iast hx hb hK.1 hP hD hS 1 0 rfl rfl (vp_in_nI (by have t_b5 := b5; have t_b9 := b9; have t_n11 := n11; have t_n0 : (nI N).toInt = (N : Int) := nI_toInt (by omega); have t_n1 : (nI B).toInt = (B : Int) := nI_toInt (by omega); have t_n2 : (nI T).toInt = (T : Int) := nI_toInt (by omega); have t_n3 : (nI S).toInt = (S : Int) := nI_toInt (by omega); have t_n4 : (nI M).toInt = (M : Int) := nI_toInt (by omega); omega) (by decide)) dX11_learn_72 (fun H locs hP hD hS => ?_)
        rw [nI_clamp (by omega)] at hP hD
        have hP : va_P (dC, dI) vwCl [(h0, .inr (11, [.ref st, .int (nI N), .int (nI B), .ref rp, .int vrs, .int vrb, .int vhs, .int vca, .int vxs, .int vxb, .ref tp, .int (nI T), .int vfa, .int vbr, .int vba, .int vsp, .int vhe, .int vtk, .int vva, .ref cu, .ref lt, .ref od, .ref th, .ref be, .ref ln, .int (nI S), .ref ma, .int (nI M), .ref ah, .ref bh, .ref ik, .ref la, .ref lg, .ref ce, .int vto])), (ln, .inl (G 0, 32, .inl (upd (upd (upd fln (4 * S) i) ((4 * S) + 1) g) ((4 * S) + 2) k)))] H := hP
        have hD : va_D A [(h0, .inr (11, [.ref st, .int (nI N), .int (nI B), .ref rp, .int vrs, .int vrb, .int vhs, .int vca, .int vxs, .int vxb, .ref tp, .int (nI T), .int vfa, .int vbr, .int vba, .int vsp, .int vhe, .int vtk, .int vva, .ref cu, .ref lt, .ref od, .ref th, .ref be, .ref ln, .int (nI S), .ref ma, .int (nI M), .ref ah, .ref bh, .ref ik, .ref la, .ref lg, .ref ce, .int vto])), (ln, .inl (G 0, 32, .inl (upd (upd (upd fln (4 * S) i) ((4 * S) + 1) g) ((4 * S) + 2) k)))] := hD
        refine lv_aload_n hx hb dX11_learn_73 rfl (lv_at hl 1 rfl) ?_
        refine va_get (D := (dC, dI)) (ci := 11) (v := .ref ln) (C := RX11) (T := TX11) (N := 35) hx hb hg inG11 hown hK.1 hP 0 rfl rfl 24 (by decide) (hg _ wt_902) (fun _ h9 => h9) rfl dX11_learn_74 ?_
        refine lv_iload hx hb dX11_learn_77 (lv_at hl 0 rfl) ?_
        refine lv_iconst (v := 3) hx hb dX11_learn_79 (by decide) ?_
        refine lv_iadd hx hb dX11_learn_80 ?_
        refine lv_cg (y := nI ((4 * S) + 3)) (by rw [show (3 : Int32) = nI 3 from rfl]; exact nI_add _ _) ?_
        refine lv_iload hx hb dX11_learn_81 (lv_at hl 5 rfl) ?_
        refine va_iast hx hb hK.1 hP hD hS 1 0 rfl rfl (vp_in_nI (by have t_b5 := b5; have t_b9 := b9; have t_n11 := n11; have t_n0 : (nI N).toInt = (N : Int) := nI_toInt (by omega); have t_n1 : (nI B).toInt = (B : Int) := nI_toInt (by omega); have t_n2 : (nI T).toInt = (T : Int) := nI_toInt (by omega); have t_n3 : (nI S).toInt = (S : Int) := nI_toInt (by omega); have t_n4 : (nI M).toInt = (M : Int) := nI_toInt (by omega); omega) (by decide)) dX11_learn_83 (fun H locs hP hD hS => ?_)
        rw [nI_clamp (by omega)] at hP hD
        have hP : va_P (dC, dI) vwCl [(h0, .inr (11, [.ref st, .int (nI N), .int (nI B), .ref rp, .int vrs, .int vrb, .int vhs, .int vca, .int vxs, .int vxb, .ref tp, .int (nI T), .int vfa, .int vbr, .int vba, .int vsp, .int vhe, .int vtk, .int vva, .ref cu, .ref lt, .ref od, .ref th, .ref be, .ref ln, .int (nI S), .ref ma, .int (nI M), .ref ah, .ref bh, .ref ik, .ref la, .ref lg, .ref ce, .int vto])), (ln, .inl (G 0, 32, .inl (upd (upd (upd (upd fln (4 * S) i) ((4 * S) + 1) g) ((4 * S) + 2) k) ((4 * S) + 3) hm)))] H := hP
        have hD : va_D A [(h0, .inr (11, [.ref st, .int (nI N), .int (nI B), .ref rp, .int vrs, .int vrb, .int vhs, .int vca, .int vxs, .int vxb, .ref tp, .int (nI T), .int vfa, .int vbr, .int vba, .int vsp, .int vhe, .int vtk, .int vva, .ref cu, .ref lt, .ref od, .ref th, .ref be, .ref ln, .int (nI S), .ref ma, .int (nI M), .ref ah, .ref bh, .ref ik, .ref la, .ref lg, .ref ce, .int vto])), (ln, .inl (G 0, 32, .inl (upd (upd (upd (upd fln (4 * S) i) ((4 * S) + 1) g) ((4 * S) + 2) k) ((4 * S) + 3) hm)))] := hD
        refine lv_aload_n hx hb dX11_learn_84 rfl (lv_at hl 1 rfl) ?_
        refine lv_dup hx hb dX11_learn_85 rfl ?_
        refine va_get (D := (dC, dI)) (ci := 11) (v := .int (nI S)) (C := RX11) (T := TX11) (N := 35) hx hb hg inG11 hown hK.1 hP 0 rfl rfl 25 (by decide) (hg _ wt_903) (fun _ h9 => h9) rfl dX11_learn_86 ?_
        refine lv_iconst (v := 1) hx hb dX11_learn_89 (by decide) ?_
        refine lv_iadd hx hb dX11_learn_90 ?_
        refine lv_cg (y := nI (S + 1)) (by rw [show (1 : Int32) = nI 1 from rfl]; exact nI_add _ _) ?_
        refine va_put (D := (dC, dI)) (ci := 11) (v := .int (nI (S + 1))) (ty := .int) (C := RX11) (T := TX11) (N := 35) hx hb hg inG11 tyX11 tyX11_ok nmX11 hown hK.1 hP hD hS 0 rfl rfl 25 (by decide) (hg _ wt_903) (fun _ h9 => h9) rfl (by decide +kernel) rfl rfl (Nat.le_of_ble_eq_true rfl) dX11_learn_91 (fun H locs hP hD hS => ?_)
        have hP : va_P (dC, dI) vwCl [(h0, .inr (11, [.ref st, .int (nI N), .int (nI B), .ref rp, .int vrs, .int vrb, .int vhs, .int vca, .int vxs, .int vxb, .ref tp, .int (nI T), .int vfa, .int vbr, .int vba, .int vsp, .int vhe, .int vtk, .int vva, .ref cu, .ref lt, .ref od, .ref th, .ref be, .ref ln, .int (nI (S + 1)), .ref ma, .int (nI M), .ref ah, .ref bh, .ref ik, .ref la, .ref lg, .ref ce, .int vto])), (ln, .inl (G 0, 32, .inl (upd (upd (upd (upd fln (4 * S) i) ((4 * S) + 1) g) ((4 * S) + 2) k) ((4 * S) + 3) hm)))] H := hP
        have hD : va_D A [(h0, .inr (11, [.ref st, .int (nI N), .int (nI B), .ref rp, .int vrs, .int vrb, .int vhs, .int vca, .int vxs, .int vxb, .ref tp, .int (nI T), .int vfa, .int vbr, .int vba, .int vsp, .int vhe, .int vtk, .int vva, .ref cu, .ref lt, .ref od, .ref th, .ref be, .ref ln, .int (nI (S + 1)), .ref ma, .int (nI M), .ref ah, .ref bh, .ref ik, .ref la, .ref lg, .ref ce, .int vto])), (ln, .inl (G 0, 32, .inl (upd (upd (upd (upd fln (4 * S) i) ((4 * S) + 1) g) ((4 * S) + 2) k) ((4 * S) + 3) hm)))] := hD
        refine lv_aload_n hx hb dX11_learn_94 rfl (lv_at hl 1 rfl) ?_
        refine va_get (D := (dC, dI)) (ci := 11) (v := .int (nI (S + 1))) (C := RX11) (T := TX11) (N := 35) hx hb hg inG11 hown hK.1 hP 0 rfl rfl 25 (by decide) (hg _ wt_903) (fun _ h9 => h9) rfl dX11_learn_95 ?_
        have hpost : (nI (S + 1) : Int32) = if ((0 ≤ i.toInt ∧ i.toInt < ((N : Nat) : Int)) ∧ (g.toInt = -4 ∨ (0 ≤ g.toInt ∧ g.toInt < ((B : Nat) : Int))) ∧ (0 ≤ k.toInt ∧ k.toInt < ((B : Nat) : Int)) ∧ 0 ≤ hm.toInt ∧ hm.toInt ≤ 20) then (if S < 8 then nI (S + 1) else -3) else -1 := by
          have t_b5 := b5
          have t_b9 := b9
          have t_n11 := n11
          have t_n0 : (nI N).toInt = (N : Int) := nI_toInt (by omega)
          have t_n1 : (nI B).toInt = (B : Int) := nI_toInt (by omega)
          have t_n2 : (nI T).toInt = (T : Int) := nI_toInt (by omega)
          have t_n3 : (nI S).toInt = (S : Int) := nI_toInt (by omega)
          have t_n4 : (nI M).toInt = (M : Int) := nI_toInt (by omega)
          have z0 : (0 : Int32).toInt = 0 := (by decide)
          have z1 : (1 : Int32).toInt = 1 := (by decide)
          have z2 : (2 : Int32).toInt = 2 := (by decide)
          have z3 : (3 : Int32).toInt = 3 := (by decide)
          have z5 : (5 : Int32).toInt = 5 := (by decide)
          have z9 : (9 : Int32).toInt = 9 := (by decide)
          have z20 : (20 : Int32).toInt = 20 := (by decide)
          have z4 : (-4 : Int32).toInt = -4 := (by decide)
          have z10 : (10 : Int32).toInt = 10 := (by decide)
          rw [if_pos (by omega), if_pos (by omega)]
        have hP9 := hP.sub (ws' := [(h0, .inr (11, [.ref st, .int (nI N), .int (nI B), .ref rp, .int vrs, .int vrb, .int vhs, .int vca, .int vxs, .int vxb, .ref tp, .int (nI T), .int vfa, .int vbr, .int vba, .int vsp, .int vhe, .int vtk, .int vva, .ref cu, .ref lt, .ref od, .ref th, .ref be, .ref ln, .int (nI (S + 1)), .ref ma, .int (nI M), .ref ah, .ref bh, .ref ik, .ref la, .ref lg, .ref ce, .int vto])), (ln, .inl (G 0, 32, .inl (upd (upd (upd (upd fln (4 * S) i) ((4 * S) + 1) g) ((4 * S) + 2) k) ((4 * S) + 3) hm)))]) [0, 1] rfl
        have hD9 := hD.sub (ws' := [(h0, .inr (11, [.ref st, .int (nI N), .int (nI B), .ref rp, .int vrs, .int vrb, .int vhs, .int vca, .int vxs, .int vxb, .ref tp, .int (nI T), .int vfa, .int vbr, .int vba, .int vsp, .int vhe, .int vtk, .int vva, .ref cu, .ref lt, .ref od, .ref th, .ref be, .ref ln, .int (nI (S + 1)), .ref ma, .int (nI M), .ref ah, .ref bh, .ref ik, .ref la, .ref lg, .ref ce, .int vto])), (ln, .inl (G 0, 32, .inl (upd (upd (upd (upd fln (4 * S) i) ((4 * S) + 1) g) ((4 * S) + 2) k) ((4 * S) + 3) hm)))]) [0, 1] (by decide) rfl
        refine W.widen (k := 0) (n := 0) (by omega) (by omega) ?_
        exact W.iret (v := nI (S + 1)) hx hb hr (fun t ht hW => ⟨⟨nI (S + 1), ((S + 1), (upd (upd (upd (upd fln (4 * S) i) ((4 * S) + 1) g) ((4 * S) + 2) k) ((4 * S) + 3) hm)), rfl, ⟨hpost, ⟨⟨(by have t_b5 := b5; have t_b9 := b9; have t_n11 := n11; have t_n0 : (nI N).toInt = (N : Int) := nI_toInt (by omega); have t_n1 : (nI B).toInt = (B : Int) := nI_toInt (by omega); have t_n2 : (nI T).toInt = (T : Int) := nI_toInt (by omega); have t_n3 : (nI S).toInt = (S : Int) := nI_toInt (by omega); have t_n4 : (nI M).toInt = (M : Int) := nI_toInt (by omega); omega), OKL.add hln (by have t_b5 := b5; have t_b9 := b9; have t_n11 := n11; have t_n0 : (nI N).toInt = (N : Int) := nI_toInt (by omega); have t_n1 : (nI B).toInt = (B : Int) := nI_toInt (by omega); have t_n2 : (nI T).toInt = (T : Int) := nI_toInt (by omega); have t_n3 : (nI S).toInt = (S : Int) := nI_toInt (by omega); have t_n4 : (nI M).toInt = (M : Int) := nI_toInt (by omega); omega) (by have t_b5 := b5; have t_b9 := b9; have t_n11 := n11; have t_n0 : (nI N).toInt = (N : Int) := nI_toInt (by omega); have t_n1 : (nI B).toInt = (B : Int) := nI_toInt (by omega); have t_n2 : (nI T).toInt = (T : Int) := nI_toInt (by omega); have t_n3 : (nI S).toInt = (S : Int) := nI_toInt (by omega); have t_n4 : (nI M).toInt = (M : Int) := nI_toInt (by omega); rcases (show g.toInt = -4 ∨ (0 ≤ g.toInt ∧ g.toInt < 6) by omega) with h9 | h9; exact Or.inl (m4I h9); exact Or.inr h9) (by have t_b5 := b5; have t_b9 := b9; have t_n11 := n11; have t_n0 : (nI N).toInt = (N : Int) := nI_toInt (by omega); have t_n1 : (nI B).toInt = (B : Int) := nI_toInt (by omega); have t_n2 : (nI T).toInt = (T : Int) := nI_toInt (by omega); have t_n3 : (nI S).toInt = (S : Int) := nI_toInt (by omega); have t_n4 : (nI M).toInt = (M : Int) := nI_toInt (by omega); omega)⟩, (by have t_b5 := b5; have t_b9 := b9; have t_n11 := n11; have t_n0 : (nI N).toInt = (N : Int) := nI_toInt (by omega); have t_n1 : (nI B).toInt = (B : Int) := nI_toInt (by omega); have t_n2 : (nI T).toInt = (T : Int) := nI_toInt (by omega); have t_n3 : (nI S).toInt = (S : Int) := nI_toInt (by omega); have t_n4 : (nI M).toInt = (M : Int) := nI_toInt (by omega); have z0 : (0 : Int32).toInt = 0 := (by decide); have z1 : (1 : Int32).toInt = 1 := (by decide); have z2 : (2 : Int32).toInt = 2 := (by decide); have z3 : (3 : Int32).toInt = 3 := (by decide); have z5 : (5 : Int32).toInt = 5 := (by decide); have z9 : (9 : Int32).toInt = 9 := (by decide); have z20 : (20 : Int32).toInt = 20 := (by decide); have z4 : (-4 : Int32).toInt = -4 := (by decide); have z10 : (10 : Int32).toInt = 10 := (by decide); first | (rw [if_neg (by omega)]; done) | (rw [if_pos ⟨by omega, by omega⟩]; done))⟩⟩, ⟨by rw [ht]; exact hP9, hD9⟩⟩, hS.F ht⟩) hS.2.2 dX11_learn_98
      · skip
        have n12 : S = 8 := by have t := eqI c10; rw [nI_toInt (n := S) (by omega)] at t; have : (8 : Int32).toInt = 8 := (by decide); omega
        refine lv_bipush (v := (-3)) hx hb dX11_learn_34 (by decide) ?_
        have hpost : ((-3) : Int32) = if ((0 ≤ i.toInt ∧ i.toInt < ((N : Nat) : Int)) ∧ (g.toInt = -4 ∨ (0 ≤ g.toInt ∧ g.toInt < ((B : Nat) : Int))) ∧ (0 ≤ k.toInt ∧ k.toInt < ((B : Nat) : Int)) ∧ 0 ≤ hm.toInt ∧ hm.toInt ≤ 20) then (if S < 8 then nI (S + 1) else -3) else -1 := by
          have t_b5 := b5
          have t_b9 := b9
          have t_n12 := n12
          have t_n0 : (nI N).toInt = (N : Int) := nI_toInt (by omega)
          have t_n1 : (nI B).toInt = (B : Int) := nI_toInt (by omega)
          have t_n2 : (nI T).toInt = (T : Int) := nI_toInt (by omega)
          have t_n3 : (nI S).toInt = (S : Int) := nI_toInt (by omega)
          have t_n4 : (nI M).toInt = (M : Int) := nI_toInt (by omega)
          have z0 : (0 : Int32).toInt = 0 := (by decide)
          have z1 : (1 : Int32).toInt = 1 := (by decide)
          have z2 : (2 : Int32).toInt = 2 := (by decide)
          have z3 : (3 : Int32).toInt = 3 := (by decide)
          have z5 : (5 : Int32).toInt = 5 := (by decide)
          have z9 : (9 : Int32).toInt = 9 := (by decide)
          have z20 : (20 : Int32).toInt = 20 := (by decide)
          have z4 : (-4 : Int32).toInt = -4 := (by decide)
          have z10 : (10 : Int32).toInt = 10 := (by decide)
          rw [if_pos (by omega), if_neg (by omega)]
        have hP9 := hP.sub (ws' := [(h0, .inr (11, [.ref st, .int (nI N), .int (nI B), .ref rp, .int vrs, .int vrb, .int vhs, .int vca, .int vxs, .int vxb, .ref tp, .int (nI T), .int vfa, .int vbr, .int vba, .int vsp, .int vhe, .int vtk, .int vva, .ref cu, .ref lt, .ref od, .ref th, .ref be, .ref ln, .int (nI S), .ref ma, .int (nI M), .ref ah, .ref bh, .ref ik, .ref la, .ref lg, .ref ce, .int vto])), (ln, .inl (G 0, 32, .inl fln))]) [0, 1] rfl
        have hD9 := hD.sub (ws' := [(h0, .inr (11, [.ref st, .int (nI N), .int (nI B), .ref rp, .int vrs, .int vrb, .int vhs, .int vca, .int vxs, .int vxb, .ref tp, .int (nI T), .int vfa, .int vbr, .int vba, .int vsp, .int vhe, .int vtk, .int vva, .ref cu, .ref lt, .ref od, .ref th, .ref be, .ref ln, .int (nI S), .ref ma, .int (nI M), .ref ah, .ref bh, .ref ik, .ref la, .ref lg, .ref ce, .int vto])), (ln, .inl (G 0, 32, .inl fln))]) [0, 1] (by decide) rfl
        refine W.widen (k := 0) (n := 0) (by omega) (by omega) ?_
        exact W.iret (v := (-3)) hx hb hr (fun t ht hW => ⟨⟨(-3), (S, fln), rfl, ⟨hpost, ⟨⟨(by have t_b5 := b5; have t_b9 := b9; have t_n12 := n12; have t_n0 : (nI N).toInt = (N : Int) := nI_toInt (by omega); have t_n1 : (nI B).toInt = (B : Int) := nI_toInt (by omega); have t_n2 : (nI T).toInt = (T : Int) := nI_toInt (by omega); have t_n3 : (nI S).toInt = (S : Int) := nI_toInt (by omega); have t_n4 : (nI M).toInt = (M : Int) := nI_toInt (by omega); omega), hln⟩, (by have t_b5 := b5; have t_b9 := b9; have t_n12 := n12; have t_n0 : (nI N).toInt = (N : Int) := nI_toInt (by omega); have t_n1 : (nI B).toInt = (B : Int) := nI_toInt (by omega); have t_n2 : (nI T).toInt = (T : Int) := nI_toInt (by omega); have t_n3 : (nI S).toInt = (S : Int) := nI_toInt (by omega); have t_n4 : (nI M).toInt = (M : Int) := nI_toInt (by omega); have z0 : (0 : Int32).toInt = 0 := (by decide); have z1 : (1 : Int32).toInt = 1 := (by decide); have z2 : (2 : Int32).toInt = 2 := (by decide); have z3 : (3 : Int32).toInt = 3 := (by decide); have z5 : (5 : Int32).toInt = 5 := (by decide); have z9 : (9 : Int32).toInt = 9 := (by decide); have z20 : (20 : Int32).toInt = 20 := (by decide); have z4 : (-4 : Int32).toInt = -4 := (by decide); have z10 : (10 : Int32).toInt = 10 := (by decide); first | (rw [if_neg (by omega)]; done) | (rw [if_pos ⟨by omega, by omega⟩]; done))⟩⟩, ⟨by rw [ht]; exact hP9, hD9⟩⟩, hS.F ht⟩) hS.2.2 dX11_learn_36
    · skip
      have b13 := if10_n c8
      refine lv_iconst (v := (-1)) hx hb dX11_learn_23 (by decide) ?_
      have hpost : ((-1) : Int32) = if ((0 ≤ i.toInt ∧ i.toInt < ((N : Nat) : Int)) ∧ (g.toInt = -4 ∨ (0 ≤ g.toInt ∧ g.toInt < ((B : Nat) : Int))) ∧ (0 ≤ k.toInt ∧ k.toInt < ((B : Nat) : Int)) ∧ 0 ≤ hm.toInt ∧ hm.toInt ≤ 20) then (if S < 8 then nI (S + 1) else -3) else -1 := by
        have t_b5 := b5
        have t_b13 := b13
        have t_n0 : (nI N).toInt = (N : Int) := nI_toInt (by omega)
        have t_n1 : (nI B).toInt = (B : Int) := nI_toInt (by omega)
        have t_n2 : (nI T).toInt = (T : Int) := nI_toInt (by omega)
        have t_n3 : (nI S).toInt = (S : Int) := nI_toInt (by omega)
        have t_n4 : (nI M).toInt = (M : Int) := nI_toInt (by omega)
        have z0 : (0 : Int32).toInt = 0 := (by decide)
        have z1 : (1 : Int32).toInt = 1 := (by decide)
        have z2 : (2 : Int32).toInt = 2 := (by decide)
        have z3 : (3 : Int32).toInt = 3 := (by decide)
        have z5 : (5 : Int32).toInt = 5 := (by decide)
        have z9 : (9 : Int32).toInt = 9 := (by decide)
        have z20 : (20 : Int32).toInt = 20 := (by decide)
        have z4 : (-4 : Int32).toInt = -4 := (by decide)
        have z10 : (10 : Int32).toInt = 10 := (by decide)
        rw [if_neg (by omega)]
      have hP9 := hP.sub (ws' := [(h0, .inr (11, [.ref st, .int (nI N), .int (nI B), .ref rp, .int vrs, .int vrb, .int vhs, .int vca, .int vxs, .int vxb, .ref tp, .int (nI T), .int vfa, .int vbr, .int vba, .int vsp, .int vhe, .int vtk, .int vva, .ref cu, .ref lt, .ref od, .ref th, .ref be, .ref ln, .int (nI S), .ref ma, .int (nI M), .ref ah, .ref bh, .ref ik, .ref la, .ref lg, .ref ce, .int vto])), (ln, .inl (G 0, 32, .inl fln))]) [0, 1] rfl
      have hD9 := hD.sub (ws' := [(h0, .inr (11, [.ref st, .int (nI N), .int (nI B), .ref rp, .int vrs, .int vrb, .int vhs, .int vca, .int vxs, .int vxb, .ref tp, .int (nI T), .int vfa, .int vbr, .int vba, .int vsp, .int vhe, .int vtk, .int vva, .ref cu, .ref lt, .ref od, .ref th, .ref be, .ref ln, .int (nI S), .ref ma, .int (nI M), .ref ah, .ref bh, .ref ik, .ref la, .ref lg, .ref ce, .int vto])), (ln, .inl (G 0, 32, .inl fln))]) [0, 1] (by decide) rfl
      refine W.widen (k := 0) (n := 0) (by omega) (by omega) ?_
      exact W.iret (v := (-1)) hx hb hr (fun t ht hW => ⟨⟨(-1), (S, fln), rfl, ⟨hpost, ⟨⟨(by have t_b5 := b5; have t_b13 := b13; have t_n0 : (nI N).toInt = (N : Int) := nI_toInt (by omega); have t_n1 : (nI B).toInt = (B : Int) := nI_toInt (by omega); have t_n2 : (nI T).toInt = (T : Int) := nI_toInt (by omega); have t_n3 : (nI S).toInt = (S : Int) := nI_toInt (by omega); have t_n4 : (nI M).toInt = (M : Int) := nI_toInt (by omega); omega), hln⟩, (by have t_b5 := b5; have t_b13 := b13; have t_n0 : (nI N).toInt = (N : Int) := nI_toInt (by omega); have t_n1 : (nI B).toInt = (B : Int) := nI_toInt (by omega); have t_n2 : (nI T).toInt = (T : Int) := nI_toInt (by omega); have t_n3 : (nI S).toInt = (S : Int) := nI_toInt (by omega); have t_n4 : (nI M).toInt = (M : Int) := nI_toInt (by omega); have z0 : (0 : Int32).toInt = 0 := (by decide); have z1 : (1 : Int32).toInt = 1 := (by decide); have z2 : (2 : Int32).toInt = 2 := (by decide); have z3 : (3 : Int32).toInt = 3 := (by decide); have z5 : (5 : Int32).toInt = 5 := (by decide); have z9 : (9 : Int32).toInt = 9 := (by decide); have z20 : (20 : Int32).toInt = 20 := (by decide); have z4 : (-4 : Int32).toInt = -4 := (by decide); have z10 : (10 : Int32).toInt = 10 := (by decide); first | (rw [if_neg (by omega)]; done) | (rw [if_pos ⟨by omega, by omega⟩]; done))⟩⟩, ⟨by rw [ht]; exact hP9, hD9⟩⟩, hS.F ht⟩) hS.2.2 dX11_learn_24

set_option maxHeartbeats 1000000 in
set_option maxRecDepth 100000 in
theorem c_X11_markE (l : Launch) (dC : Nat → ClassId) (dI : Nat → Nat → Nat) (G : Nat → ClassId) (sz : Nat) (h0 st N B rp tp T cu lt od th be ln S ma M ah bh ik la lg ce : Nat) (i d vrs vrb vhs vca vxs vxb vfa vbr vba vsp vhe vtk vva vto : Int32) (fma : Nat → Int32) (hN : N ≤ 10) (hB : B ≤ 6) (hT : T ≤ 320) (hS0 : S ≤ 8) (hM : M ≤ 6) : Met l yX11_mark (Cond.code yX11_mark cX11_mark 3 (some .int) :: GT) ({ frames := 2, cells := 0, slots := 0, locals := 46 } : Room) (PcW [.ref h0, .int i, .int d] dC dI G [(h0, .inr (11, [.ref st, .int (nI N), .int (nI B), .ref rp, .int vrs, .int vrb, .int vhs, .int vca, .int vxs, .int vxb, .ref tp, .int (nI T), .int vfa, .int vbr, .int vba, .int vsp, .int vhe, .int vtk, .int vva, .ref cu, .ref lt, .ref od, .ref th, .ref be, .ref ln, .int (nI S), .ref ma, .int (nI M), .ref ah, .ref bh, .ref ik, .ref la, .ref lg, .ref ce, .int vto])), (ma, .inl (G 0, 12, .inl fma))] sz) (va_Qi (fun (r : Int32) (u : Nat × (Nat → Int32)) => match u with | (oM, oma) => (r = if ((0 ≤ i.toInt ∧ i.toInt < ((N : Nat) : Int)) ∧ 0 ≤ d.toInt ∧ d.toInt ≤ 9) then (if M < 6 then nI (M + 1) else -3) else -1) ∧ oM = (if ((0 ≤ i.toInt ∧ i.toInt < ((N : Nat) : Int)) ∧ 0 ≤ d.toInt ∧ d.toInt ≤ 9) ∧ M < 6 then M + 1 else M) ∧ oM ≤ 6) (fun (u : Nat × (Nat → Int32)) (t : State) => match u with | (oM, oma) => va_P (dC, dI) vwCl [(h0, .inr (11, [.ref st, .int (nI N), .int (nI B), .ref rp, .int vrs, .int vrb, .int vhs, .int vca, .int vxs, .int vxb, .ref tp, .int (nI T), .int vfa, .int vbr, .int vba, .int vsp, .int vhe, .int vtk, .int vva, .ref cu, .ref lt, .ref od, .ref th, .ref be, .ref ln, .int (nI S), .ref ma, .int (nI oM), .ref ah, .ref bh, .ref ik, .ref la, .ref lg, .ref ce, .int vto])), (ma, .inl (G 0, 12, .inl oma))] t.heap ∧ va_D (va_A [(h0, .inr (11, [.ref st, .int (nI N), .int (nI B), .ref rp, .int vrs, .int vrb, .int vhs, .int vca, .int vxs, .int vxb, .ref tp, .int (nI T), .int vfa, .int vbr, .int vba, .int vsp, .int vhe, .int vtk, .int vva, .ref cu, .ref lt, .ref od, .ref th, .ref be, .ref ln, .int (nI S), .ref ma, .int (nI M), .ref ah, .ref bh, .ref ik, .ref la, .ref lg, .ref ce, .int vto])), (ma, .inl (G 0, 12, .inl fma))] sz) [(h0, .inr (11, [.ref st, .int (nI N), .int (nI B), .ref rp, .int vrs, .int vrb, .int vhs, .int vca, .int vxs, .int vxb, .ref tp, .int (nI T), .int vfa, .int vbr, .int vba, .int vsp, .int vhe, .int vtk, .int vva, .ref cu, .ref lt, .ref od, .ref th, .ref be, .ref ln, .int (nI S), .ref ma, .int (nI oM), .ref ah, .ref bh, .ref ik, .ref la, .ref lg, .ref ce, .int vto])), (ma, .inl (G 0, 12, .inl oma))]) (va_A [(h0, .inr (11, [.ref st, .int (nI N), .int (nI B), .ref rp, .int vrs, .int vrb, .int vhs, .int vca, .int vxs, .int vxb, .ref tp, .int (nI T), .int vfa, .int vbr, .int vba, .int vsp, .int vhe, .int vtk, .int vva, .ref cu, .ref lt, .ref od, .ref th, .ref be, .ref ln, .int (nI S), .ref ma, .int (nI M), .ref ah, .ref bh, .ref ik, .ref la, .ref lg, .ref ce, .int vto])), (ma, .inl (G 0, 12, .inl fma))] sz)) 0 0 (va_A [(h0, .inr (11, [.ref st, .int (nI N), .int (nI B), .ref rp, .int vrs, .int vrb, .int vhs, .int vca, .int vxs, .int vxb, .ref tp, .int (nI T), .int vfa, .int vbr, .int vba, .int vsp, .int vhe, .int vtk, .int vva, .ref cu, .ref lt, .ref od, .ref th, .ref be, .ref ln, .int (nI S), .ref ma, .int (nI M), .ref ah, .ref bh, .ref ik, .ref la, .ref lg, .ref ce, .int vto])), (ma, .inl (G 0, 12, .inl fma))] sz) := by
  refine Met.ofW (cc := cX11_mark) (maxL := 3) (ret := (some .int)) (by decide) rfl ?_
  intro p e s m args below meth c s₁ Bd hml hv
  obtain ⟨rfl, hsz, hP, hK, hD0⟩ := hv
  have hx := Bd.exec
  have hb := Bd.bytes
  have hr := Bd.returns
  have hg : ∀ w ∈ GT, w.before ([.ref h0, .int i, .int d] : List Value).toArray s = true := fun w h => atoms_spec (ws := Cond.code yX11_mark cX11_mark 3 (some .int) :: GT) Bd.pre w (List.mem_cons_of_mem _ h)
  have hown : s.vm.findClass RX11 = some m.cls := findClass_of_methodNamed Bd.named
  have hlocks := Bd.notSynchronized
  subst hsz
  have hD := hD0.self (sz := s.heap.size)
  generalize hAe : va_A [(h0, .inr (11, [.ref st, .int (nI N), .int (nI B), .ref rp, .int vrs, .int vrb, .int vhs, .int vca, .int vxs, .int vxb, .ref tp, .int (nI T), .int vfa, .int vbr, .int vba, .int vsp, .int vhe, .int vtk, .int vva, .ref cu, .ref lt, .ref od, .ref th, .ref be, .ref ln, .int (nI S), .ref ma, .int (nI M), .ref ah, .ref bh, .ref ik, .ref la, .ref lg, .ref ce, .int vto])), (ma, .inl (G 0, 12, .inl fma))] s.heap.size = A at hD ⊢
  have hA : ∀ q : Nat, s.heap.size ≤ q → A q := fun q h => by rw [← hAe]; exact Or.inr h
  have hS : va_S A s.heap s.heap [] := va_S.rf
  have hl := lv_entry ([.ref h0, .int i, .int d]) (n := 3) (Nat.le_of_ble_eq_true rfl)
  rw [lg_entry_eq]
  generalize (lg_sl ([.ref h0, .int i, .int d]) ++ List.replicate (3 - (lg_sl ([.ref h0, .int i, .int d])).length) Slot.unset).toArray = ls at hl ⊢
  have hl : lv_has ls 3 [(0, .ref h0), (1, .int i), (2, .int d)] := hl
  refine lv_aload_n hx hb dX11_mark_0 rfl (lv_at hl 0 rfl) ?_
  refine lv_iload_n hx hb dX11_mark_1 rfl (lv_at hl 1 rfl) ?_
  have hPc := hP.sub (ws' := [(h0, .inr (11, [.ref st, .int (nI N), .int (nI B), .ref rp, .int vrs, .int vrb, .int vhs, .int vca, .int vxs, .int vxb, .ref tp, .int (nI T), .int vfa, .int vbr, .int vba, .int vsp, .int vhe, .int vtk, .int vva, .ref cu, .ref lt, .ref od, .ref th, .ref be, .ref ln, .int (nI S), .ref ma, .int (nI M), .ref ah, .ref bh, .ref ik, .ref la, .ref lg, .ref ce, .int vto]))]) [0] rfl
  refine va_calli (va_runV (As := [.int i]) (rest := []) ⟨hx, hb, hml, hown, hg⟩ (c_X11_isStretch l dC dI G _ h0 st N B rp tp T cu lt od th be ln S ma M ah bh ik la lg ce i vrs vrb vhs vca vxs vxb vfa vbr vba vsp vhe vtk vva vto (by have t_n0 : (nI N).toInt = (N : Int) := nI_toInt (by omega); have t_n1 : (nI B).toInt = (B : Int) := nI_toInt (by omega); have t_n2 : (nI T).toInt = (T : Int) := nI_toInt (by omega); have t_n3 : (nI S).toInt = (S : Int) := nI_toInt (by omega); have t_n4 : (nI M).toInt = (M : Int) := nI_toInt (by omega); omega) (by have t_n0 : (nI N).toInt = (N : Int) := nI_toInt (by omega); have t_n1 : (nI B).toInt = (B : Int) := nI_toInt (by omega); have t_n2 : (nI T).toInt = (T : Int) := nI_toInt (by omega); have t_n3 : (nI S).toInt = (S : Int) := nI_toInt (by omega); have t_n4 : (nI M).toInt = (M : Int) := nI_toInt (by omega); omega) (by have t_n0 : (nI N).toInt = (N : Int) := nI_toInt (by omega); have t_n1 : (nI B).toInt = (B : Int) := nI_toInt (by omega); have t_n2 : (nI T).toInt = (T : Int) := nI_toInt (by omega); have t_n3 : (nI S).toInt = (S : Int) := nI_toInt (by omega); have t_n4 : (nI M).toInt = (M : Int) := nI_toInt (by omega); omega) (by have t_n0 : (nI N).toInt = (N : Int) := nI_toInt (by omega); have t_n1 : (nI B).toInt = (B : Int) := nI_toInt (by omega); have t_n2 : (nI T).toInt = (T : Int) := nI_toInt (by omega); have t_n3 : (nI S).toInt = (S : Int) := nI_toInt (by omega); have t_n4 : (nI M).toInt = (M : Int) := nI_toInt (by omega); omega) (by have t_n0 : (nI N).toInt = (N : Int) := nI_toInt (by omega); have t_n1 : (nI B).toInt = (B : Int) := nI_toInt (by omega); have t_n2 : (nI T).toInt = (T : Int) := nI_toInt (by omega); have t_n3 : (nI S).toInt = (S : Int) := nI_toInt (by omega); have t_n4 : (nI M).toInt = (M : Int) := nI_toInt (by omega); omega)) (kwV hg mfX11_isStretch wt_1052 ⟨Nat.le_of_ble_eq_true rfl, Nat.le_of_ble_eq_true rfl⟩) (preVR hK hPc (ci := 11) rfl rfl) rfl rfl hl.1 rfl (lv_room (Nat.le_of_ble_eq_true rfl)) dX11_mark_2 ⟨Nat.le_of_ble_eq_true rfl, Nat.le_of_ble_eq_true rfl⟩) hS (fun q h1 h2 => absurd h2 (Nat.not_le.mpr h1)) (fun q h => hA q (Nat.le_trans hS.1 h)) (fun r1 ur1 t H1 locs ht hvm w2 hB hz1 hk1 hS => ?_)
  have hP := keepR hP hk1
  obtain ⟨w2, w2x⟩ := w2
  try simp only [l_ii, show (0 : Int32).toInt = 0 from by decide] at w2
  try rw [nI_toInt (n := N) (by omega)] at w2
  subst w2
  refine lv_if_eq (tgt := 20) hx hb dX11_mark_5 (by decide) (fun c3 => ?_) (fun c3 => ?_)
  · skip
    have b4 := if10_n c3
    refine lv_iconst (v := (-1)) hx hb dX11_mark_20 (by decide) ?_
    have hpost : ((-1) : Int32) = if ((0 ≤ i.toInt ∧ i.toInt < ((N : Nat) : Int)) ∧ 0 ≤ d.toInt ∧ d.toInt ≤ 9) then (if M < 6 then nI (M + 1) else -3) else -1 := by
      have t_b4 := b4
      have t_n0 : (nI N).toInt = (N : Int) := nI_toInt (by omega)
      have t_n1 : (nI B).toInt = (B : Int) := nI_toInt (by omega)
      have t_n2 : (nI T).toInt = (T : Int) := nI_toInt (by omega)
      have t_n3 : (nI S).toInt = (S : Int) := nI_toInt (by omega)
      have t_n4 : (nI M).toInt = (M : Int) := nI_toInt (by omega)
      have z0 : (0 : Int32).toInt = 0 := (by decide)
      have z1 : (1 : Int32).toInt = 1 := (by decide)
      have z2 : (2 : Int32).toInt = 2 := (by decide)
      have z3 : (3 : Int32).toInt = 3 := (by decide)
      have z5 : (5 : Int32).toInt = 5 := (by decide)
      have z9 : (9 : Int32).toInt = 9 := (by decide)
      have z20 : (20 : Int32).toInt = 20 := (by decide)
      have z4 : (-4 : Int32).toInt = -4 := (by decide)
      have z10 : (10 : Int32).toInt = 10 := (by decide)
      rw [if_neg (by omega)]
    have hP9 := hP.sub (ws' := [(h0, .inr (11, [.ref st, .int (nI N), .int (nI B), .ref rp, .int vrs, .int vrb, .int vhs, .int vca, .int vxs, .int vxb, .ref tp, .int (nI T), .int vfa, .int vbr, .int vba, .int vsp, .int vhe, .int vtk, .int vva, .ref cu, .ref lt, .ref od, .ref th, .ref be, .ref ln, .int (nI S), .ref ma, .int (nI M), .ref ah, .ref bh, .ref ik, .ref la, .ref lg, .ref ce, .int vto])), (ma, .inl (G 0, 12, .inl fma))]) [0, 1] rfl
    have hD9 := hD.sub (ws' := [(h0, .inr (11, [.ref st, .int (nI N), .int (nI B), .ref rp, .int vrs, .int vrb, .int vhs, .int vca, .int vxs, .int vxb, .ref tp, .int (nI T), .int vfa, .int vbr, .int vba, .int vsp, .int vhe, .int vtk, .int vva, .ref cu, .ref lt, .ref od, .ref th, .ref be, .ref ln, .int (nI S), .ref ma, .int (nI M), .ref ah, .ref bh, .ref ik, .ref la, .ref lg, .ref ce, .int vto])), (ma, .inl (G 0, 12, .inl fma))]) [0, 1] (by decide) rfl
    refine W.widen (k := 0) (n := 0) (by omega) (by omega) ?_
    exact W.iret (v := (-1)) hx hb hr (fun t ht hW => ⟨⟨(-1), (M, fma), rfl, ⟨hpost, (by have t_b4 := b4; have t_n0 : (nI N).toInt = (N : Int) := nI_toInt (by omega); have t_n1 : (nI B).toInt = (B : Int) := nI_toInt (by omega); have t_n2 : (nI T).toInt = (T : Int) := nI_toInt (by omega); have t_n3 : (nI S).toInt = (S : Int) := nI_toInt (by omega); have t_n4 : (nI M).toInt = (M : Int) := nI_toInt (by omega); have z0 : (0 : Int32).toInt = 0 := (by decide); have z1 : (1 : Int32).toInt = 1 := (by decide); have z2 : (2 : Int32).toInt = 2 := (by decide); have z3 : (3 : Int32).toInt = 3 := (by decide); have z5 : (5 : Int32).toInt = 5 := (by decide); have z9 : (9 : Int32).toInt = 9 := (by decide); have z20 : (20 : Int32).toInt = 20 := (by decide); have z4 : (-4 : Int32).toInt = -4 := (by decide); have z10 : (10 : Int32).toInt = 10 := (by decide); refine ⟨?_, by omega⟩; first | (rw [if_neg (by omega)]; done) | (rw [if_pos ⟨by omega, by omega⟩]; done))⟩, ⟨by rw [ht]; exact hP9, hD9⟩⟩, hS.F ht⟩) hS.2.2 dX11_mark_21
  · skip
    have b5 := if10_p c3
    refine lv_iload_n hx hb dX11_mark_8 rfl (lv_at hl 2 rfl) ?_
    refine lv_i2l (v := d.toInt64) hx hb dX11_mark_9 rfl ?_
    refine lv_lconst (v := 0) hx hb dX11_mark_10 (by decide) ?_
    refine lv_ldc2 (v := 9) hx hb hown (hg _ wt_1069) dX11_mark_11 ?_
    have hPc := hP.sub (ws' := []) [] rfl
    refine va_calli (va_runS (As := [.long d.toInt64, .long 0, .long 9]) (rest := []) ⟨hx, hb, hml, hown, hg⟩ (c_X11_in l dC dI G _ d.toInt64 0 9 ) (kwS hg mfX11_in wt_992 ⟨Nat.le_of_ble_eq_true rfl, Nat.le_of_ble_eq_true rfl⟩) (preSR hK hPc) rfl rfl hl.1 rfl (lv_room (Nat.le_of_ble_eq_true rfl)) dX11_mark_14 ⟨Nat.le_of_ble_eq_true rfl, Nat.le_of_ble_eq_true rfl⟩) hS (fun q h1 h2 => absurd h2 (Nat.not_le.mpr h1)) (fun q h => hA q (Nat.le_trans hS.1 h)) (fun r6 ur6 t H1 locs ht hvm w7 hB hz1 hk1 hS => ?_)
    have hP := keepR hP hk1
    obtain ⟨w7, w7x⟩ := w7
    try simp only [l_ii, show (0 : Int64).toInt = 0 from by decide, show (9 : Int64).toInt = 9 from by decide] at w7
    subst w7
    refine lv_if_ne (tgt := 22) hx hb dX11_mark_17 (by decide) (fun c8 => ?_) (fun c8 => ?_)
    · skip
      have b9 := if10_p c8
      refine lv_aload_n hx hb dX11_mark_22 rfl (lv_at hl 0 rfl) ?_
      refine va_get (D := (dC, dI)) (ci := 11) (v := .int (nI M)) (C := RX11) (T := TX11) (N := 35) hx hb hg inG11 hown hK.1 hP 0 rfl rfl 27 (by decide) (hg _ wt_905) (fun _ h9 => h9) rfl dX11_mark_23 ?_
      refine lv_bipush (v := 6) hx hb dX11_mark_26 (by decide) ?_
      refine lv_icmp_ne (tgt := 34) hx hb dX11_mark_28 (by decide) (fun c10 => ?_) (fun c10 => ?_)
      · skip
        have n11 : M ≠ 6 := by have t := neI c10; rw [nI_toInt (n := M) (by omega)] at t; have : (6 : Int32).toInt = 6 := (by decide); omega
        refine lv_aload_n hx hb dX11_mark_34 rfl (lv_at hl 0 rfl) ?_
        refine va_get (D := (dC, dI)) (ci := 11) (v := .ref ma) (C := RX11) (T := TX11) (N := 35) hx hb hg inG11 hown hK.1 hP 0 rfl rfl 26 (by decide) (hg _ wt_904) (fun _ h9 => h9) rfl dX11_mark_35 ?_
        refine lv_iconst (v := 2) hx hb dX11_mark_38 (by decide) ?_
        refine lv_aload_n hx hb dX11_mark_39 rfl (lv_at hl 0 rfl) ?_
        refine va_get (D := (dC, dI)) (ci := 11) (v := .int (nI M)) (C := RX11) (T := TX11) (N := 35) hx hb hg inG11 hown hK.1 hP 0 rfl rfl 27 (by decide) (hg _ wt_905) (fun _ h9 => h9) rfl dX11_mark_40 ?_
        refine lv_imul hx hb dX11_mark_43 ?_
        refine lv_cg (y := nI (2 * M)) (by rw [show (2 : Int32) = nI 2 from rfl]; exact pk_mul _ _) ?_
        refine lv_iload_n hx hb dX11_mark_44 rfl (lv_at hl 1 rfl) ?_
        refine va_iast hx hb hK.1 hP hD hS 1 0 rfl rfl (vp_in_nI (by have t_b5 := b5; have t_b9 := b9; have t_n11 := n11; have t_n0 : (nI N).toInt = (N : Int) := nI_toInt (by omega); have t_n1 : (nI B).toInt = (B : Int) := nI_toInt (by omega); have t_n2 : (nI T).toInt = (T : Int) := nI_toInt (by omega); have t_n3 : (nI S).toInt = (S : Int) := nI_toInt (by omega); have t_n4 : (nI M).toInt = (M : Int) := nI_toInt (by omega); omega) (by decide)) dX11_mark_45 (fun H locs hP hD hS => ?_)
        rw [nI_clamp (by omega)] at hP hD
        have hP : va_P (dC, dI) vwCl [(h0, .inr (11, [.ref st, .int (nI N), .int (nI B), .ref rp, .int vrs, .int vrb, .int vhs, .int vca, .int vxs, .int vxb, .ref tp, .int (nI T), .int vfa, .int vbr, .int vba, .int vsp, .int vhe, .int vtk, .int vva, .ref cu, .ref lt, .ref od, .ref th, .ref be, .ref ln, .int (nI S), .ref ma, .int (nI M), .ref ah, .ref bh, .ref ik, .ref la, .ref lg, .ref ce, .int vto])), (ma, .inl (G 0, 12, .inl (upd fma (2 * M) i)))] H := hP
        have hD : va_D A [(h0, .inr (11, [.ref st, .int (nI N), .int (nI B), .ref rp, .int vrs, .int vrb, .int vhs, .int vca, .int vxs, .int vxb, .ref tp, .int (nI T), .int vfa, .int vbr, .int vba, .int vsp, .int vhe, .int vtk, .int vva, .ref cu, .ref lt, .ref od, .ref th, .ref be, .ref ln, .int (nI S), .ref ma, .int (nI M), .ref ah, .ref bh, .ref ik, .ref la, .ref lg, .ref ce, .int vto])), (ma, .inl (G 0, 12, .inl (upd fma (2 * M) i)))] := hD
        refine lv_aload_n hx hb dX11_mark_46 rfl (lv_at hl 0 rfl) ?_
        refine va_get (D := (dC, dI)) (ci := 11) (v := .ref ma) (C := RX11) (T := TX11) (N := 35) hx hb hg inG11 hown hK.1 hP 0 rfl rfl 26 (by decide) (hg _ wt_904) (fun _ h9 => h9) rfl dX11_mark_47 ?_
        refine lv_iconst (v := 2) hx hb dX11_mark_50 (by decide) ?_
        refine lv_aload_n hx hb dX11_mark_51 rfl (lv_at hl 0 rfl) ?_
        refine va_get (D := (dC, dI)) (ci := 11) (v := .int (nI M)) (C := RX11) (T := TX11) (N := 35) hx hb hg inG11 hown hK.1 hP 0 rfl rfl 27 (by decide) (hg _ wt_905) (fun _ h9 => h9) rfl dX11_mark_52 ?_
        refine lv_imul hx hb dX11_mark_55 ?_
        refine lv_cg (y := nI (2 * M)) (by rw [show (2 : Int32) = nI 2 from rfl]; exact pk_mul _ _) ?_
        refine lv_iconst (v := 1) hx hb dX11_mark_56 (by decide) ?_
        refine lv_iadd hx hb dX11_mark_57 ?_
        refine lv_cg (y := nI ((2 * M) + 1)) (by rw [show (1 : Int32) = nI 1 from rfl]; exact nI_add _ _) ?_
        refine lv_iload_n hx hb dX11_mark_58 rfl (lv_at hl 2 rfl) ?_
        refine va_iast hx hb hK.1 hP hD hS 1 0 rfl rfl (vp_in_nI (by have t_b5 := b5; have t_b9 := b9; have t_n11 := n11; have t_n0 : (nI N).toInt = (N : Int) := nI_toInt (by omega); have t_n1 : (nI B).toInt = (B : Int) := nI_toInt (by omega); have t_n2 : (nI T).toInt = (T : Int) := nI_toInt (by omega); have t_n3 : (nI S).toInt = (S : Int) := nI_toInt (by omega); have t_n4 : (nI M).toInt = (M : Int) := nI_toInt (by omega); omega) (by decide)) dX11_mark_59 (fun H locs hP hD hS => ?_)
        rw [nI_clamp (by omega)] at hP hD
        have hP : va_P (dC, dI) vwCl [(h0, .inr (11, [.ref st, .int (nI N), .int (nI B), .ref rp, .int vrs, .int vrb, .int vhs, .int vca, .int vxs, .int vxb, .ref tp, .int (nI T), .int vfa, .int vbr, .int vba, .int vsp, .int vhe, .int vtk, .int vva, .ref cu, .ref lt, .ref od, .ref th, .ref be, .ref ln, .int (nI S), .ref ma, .int (nI M), .ref ah, .ref bh, .ref ik, .ref la, .ref lg, .ref ce, .int vto])), (ma, .inl (G 0, 12, .inl (upd (upd fma (2 * M) i) ((2 * M) + 1) d)))] H := hP
        have hD : va_D A [(h0, .inr (11, [.ref st, .int (nI N), .int (nI B), .ref rp, .int vrs, .int vrb, .int vhs, .int vca, .int vxs, .int vxb, .ref tp, .int (nI T), .int vfa, .int vbr, .int vba, .int vsp, .int vhe, .int vtk, .int vva, .ref cu, .ref lt, .ref od, .ref th, .ref be, .ref ln, .int (nI S), .ref ma, .int (nI M), .ref ah, .ref bh, .ref ik, .ref la, .ref lg, .ref ce, .int vto])), (ma, .inl (G 0, 12, .inl (upd (upd fma (2 * M) i) ((2 * M) + 1) d)))] := hD
        refine lv_aload_n hx hb dX11_mark_60 rfl (lv_at hl 0 rfl) ?_
        refine lv_dup hx hb dX11_mark_61 rfl ?_
        refine va_get (D := (dC, dI)) (ci := 11) (v := .int (nI M)) (C := RX11) (T := TX11) (N := 35) hx hb hg inG11 hown hK.1 hP 0 rfl rfl 27 (by decide) (hg _ wt_905) (fun _ h9 => h9) rfl dX11_mark_62 ?_
        refine lv_iconst (v := 1) hx hb dX11_mark_65 (by decide) ?_
        refine lv_iadd hx hb dX11_mark_66 ?_
        refine lv_cg (y := nI (M + 1)) (by rw [show (1 : Int32) = nI 1 from rfl]; exact nI_add _ _) ?_
        refine va_put (D := (dC, dI)) (ci := 11) (v := .int (nI (M + 1))) (ty := .int) (C := RX11) (T := TX11) (N := 35) hx hb hg inG11 tyX11 tyX11_ok nmX11 hown hK.1 hP hD hS 0 rfl rfl 27 (by decide) (hg _ wt_905) (fun _ h9 => h9) rfl (by decide +kernel) rfl rfl (Nat.le_of_ble_eq_true rfl) dX11_mark_67 (fun H locs hP hD hS => ?_)
        have hP : va_P (dC, dI) vwCl [(h0, .inr (11, [.ref st, .int (nI N), .int (nI B), .ref rp, .int vrs, .int vrb, .int vhs, .int vca, .int vxs, .int vxb, .ref tp, .int (nI T), .int vfa, .int vbr, .int vba, .int vsp, .int vhe, .int vtk, .int vva, .ref cu, .ref lt, .ref od, .ref th, .ref be, .ref ln, .int (nI S), .ref ma, .int (nI (M + 1)), .ref ah, .ref bh, .ref ik, .ref la, .ref lg, .ref ce, .int vto])), (ma, .inl (G 0, 12, .inl (upd (upd fma (2 * M) i) ((2 * M) + 1) d)))] H := hP
        have hD : va_D A [(h0, .inr (11, [.ref st, .int (nI N), .int (nI B), .ref rp, .int vrs, .int vrb, .int vhs, .int vca, .int vxs, .int vxb, .ref tp, .int (nI T), .int vfa, .int vbr, .int vba, .int vsp, .int vhe, .int vtk, .int vva, .ref cu, .ref lt, .ref od, .ref th, .ref be, .ref ln, .int (nI S), .ref ma, .int (nI (M + 1)), .ref ah, .ref bh, .ref ik, .ref la, .ref lg, .ref ce, .int vto])), (ma, .inl (G 0, 12, .inl (upd (upd fma (2 * M) i) ((2 * M) + 1) d)))] := hD
        refine lv_aload_n hx hb dX11_mark_70 rfl (lv_at hl 0 rfl) ?_
        refine va_get (D := (dC, dI)) (ci := 11) (v := .int (nI (M + 1))) (C := RX11) (T := TX11) (N := 35) hx hb hg inG11 hown hK.1 hP 0 rfl rfl 27 (by decide) (hg _ wt_905) (fun _ h9 => h9) rfl dX11_mark_71 ?_
        have hpost : (nI (M + 1) : Int32) = if ((0 ≤ i.toInt ∧ i.toInt < ((N : Nat) : Int)) ∧ 0 ≤ d.toInt ∧ d.toInt ≤ 9) then (if M < 6 then nI (M + 1) else -3) else -1 := by
          have t_b5 := b5
          have t_b9 := b9
          have t_n11 := n11
          have t_n0 : (nI N).toInt = (N : Int) := nI_toInt (by omega)
          have t_n1 : (nI B).toInt = (B : Int) := nI_toInt (by omega)
          have t_n2 : (nI T).toInt = (T : Int) := nI_toInt (by omega)
          have t_n3 : (nI S).toInt = (S : Int) := nI_toInt (by omega)
          have t_n4 : (nI M).toInt = (M : Int) := nI_toInt (by omega)
          have z0 : (0 : Int32).toInt = 0 := (by decide)
          have z1 : (1 : Int32).toInt = 1 := (by decide)
          have z2 : (2 : Int32).toInt = 2 := (by decide)
          have z3 : (3 : Int32).toInt = 3 := (by decide)
          have z5 : (5 : Int32).toInt = 5 := (by decide)
          have z9 : (9 : Int32).toInt = 9 := (by decide)
          have z20 : (20 : Int32).toInt = 20 := (by decide)
          have z4 : (-4 : Int32).toInt = -4 := (by decide)
          have z10 : (10 : Int32).toInt = 10 := (by decide)
          rw [if_pos (by omega), if_pos (by omega)]
        have hP9 := hP.sub (ws' := [(h0, .inr (11, [.ref st, .int (nI N), .int (nI B), .ref rp, .int vrs, .int vrb, .int vhs, .int vca, .int vxs, .int vxb, .ref tp, .int (nI T), .int vfa, .int vbr, .int vba, .int vsp, .int vhe, .int vtk, .int vva, .ref cu, .ref lt, .ref od, .ref th, .ref be, .ref ln, .int (nI S), .ref ma, .int (nI (M + 1)), .ref ah, .ref bh, .ref ik, .ref la, .ref lg, .ref ce, .int vto])), (ma, .inl (G 0, 12, .inl (upd (upd fma (2 * M) i) ((2 * M) + 1) d)))]) [0, 1] rfl
        have hD9 := hD.sub (ws' := [(h0, .inr (11, [.ref st, .int (nI N), .int (nI B), .ref rp, .int vrs, .int vrb, .int vhs, .int vca, .int vxs, .int vxb, .ref tp, .int (nI T), .int vfa, .int vbr, .int vba, .int vsp, .int vhe, .int vtk, .int vva, .ref cu, .ref lt, .ref od, .ref th, .ref be, .ref ln, .int (nI S), .ref ma, .int (nI (M + 1)), .ref ah, .ref bh, .ref ik, .ref la, .ref lg, .ref ce, .int vto])), (ma, .inl (G 0, 12, .inl (upd (upd fma (2 * M) i) ((2 * M) + 1) d)))]) [0, 1] (by decide) rfl
        refine W.widen (k := 0) (n := 0) (by omega) (by omega) ?_
        exact W.iret (v := nI (M + 1)) hx hb hr (fun t ht hW => ⟨⟨nI (M + 1), ((M + 1), (upd (upd fma (2 * M) i) ((2 * M) + 1) d)), rfl, ⟨hpost, (by have t_b5 := b5; have t_b9 := b9; have t_n11 := n11; have t_n0 : (nI N).toInt = (N : Int) := nI_toInt (by omega); have t_n1 : (nI B).toInt = (B : Int) := nI_toInt (by omega); have t_n2 : (nI T).toInt = (T : Int) := nI_toInt (by omega); have t_n3 : (nI S).toInt = (S : Int) := nI_toInt (by omega); have t_n4 : (nI M).toInt = (M : Int) := nI_toInt (by omega); have z0 : (0 : Int32).toInt = 0 := (by decide); have z1 : (1 : Int32).toInt = 1 := (by decide); have z2 : (2 : Int32).toInt = 2 := (by decide); have z3 : (3 : Int32).toInt = 3 := (by decide); have z5 : (5 : Int32).toInt = 5 := (by decide); have z9 : (9 : Int32).toInt = 9 := (by decide); have z20 : (20 : Int32).toInt = 20 := (by decide); have z4 : (-4 : Int32).toInt = -4 := (by decide); have z10 : (10 : Int32).toInt = 10 := (by decide); refine ⟨?_, by omega⟩; first | (rw [if_neg (by omega)]; done) | (rw [if_pos ⟨by omega, by omega⟩]; done))⟩, ⟨by rw [ht]; exact hP9, hD9⟩⟩, hS.F ht⟩) hS.2.2 dX11_mark_74
      · skip
        have n12 : M = 6 := by have t := eqI c10; rw [nI_toInt (n := M) (by omega)] at t; have : (6 : Int32).toInt = 6 := (by decide); omega
        refine lv_bipush (v := (-3)) hx hb dX11_mark_31 (by decide) ?_
        have hpost : ((-3) : Int32) = if ((0 ≤ i.toInt ∧ i.toInt < ((N : Nat) : Int)) ∧ 0 ≤ d.toInt ∧ d.toInt ≤ 9) then (if M < 6 then nI (M + 1) else -3) else -1 := by
          have t_b5 := b5
          have t_b9 := b9
          have t_n12 := n12
          have t_n0 : (nI N).toInt = (N : Int) := nI_toInt (by omega)
          have t_n1 : (nI B).toInt = (B : Int) := nI_toInt (by omega)
          have t_n2 : (nI T).toInt = (T : Int) := nI_toInt (by omega)
          have t_n3 : (nI S).toInt = (S : Int) := nI_toInt (by omega)
          have t_n4 : (nI M).toInt = (M : Int) := nI_toInt (by omega)
          have z0 : (0 : Int32).toInt = 0 := (by decide)
          have z1 : (1 : Int32).toInt = 1 := (by decide)
          have z2 : (2 : Int32).toInt = 2 := (by decide)
          have z3 : (3 : Int32).toInt = 3 := (by decide)
          have z5 : (5 : Int32).toInt = 5 := (by decide)
          have z9 : (9 : Int32).toInt = 9 := (by decide)
          have z20 : (20 : Int32).toInt = 20 := (by decide)
          have z4 : (-4 : Int32).toInt = -4 := (by decide)
          have z10 : (10 : Int32).toInt = 10 := (by decide)
          rw [if_pos (by omega), if_neg (by omega)]
        have hP9 := hP.sub (ws' := [(h0, .inr (11, [.ref st, .int (nI N), .int (nI B), .ref rp, .int vrs, .int vrb, .int vhs, .int vca, .int vxs, .int vxb, .ref tp, .int (nI T), .int vfa, .int vbr, .int vba, .int vsp, .int vhe, .int vtk, .int vva, .ref cu, .ref lt, .ref od, .ref th, .ref be, .ref ln, .int (nI S), .ref ma, .int (nI M), .ref ah, .ref bh, .ref ik, .ref la, .ref lg, .ref ce, .int vto])), (ma, .inl (G 0, 12, .inl fma))]) [0, 1] rfl
        have hD9 := hD.sub (ws' := [(h0, .inr (11, [.ref st, .int (nI N), .int (nI B), .ref rp, .int vrs, .int vrb, .int vhs, .int vca, .int vxs, .int vxb, .ref tp, .int (nI T), .int vfa, .int vbr, .int vba, .int vsp, .int vhe, .int vtk, .int vva, .ref cu, .ref lt, .ref od, .ref th, .ref be, .ref ln, .int (nI S), .ref ma, .int (nI M), .ref ah, .ref bh, .ref ik, .ref la, .ref lg, .ref ce, .int vto])), (ma, .inl (G 0, 12, .inl fma))]) [0, 1] (by decide) rfl
        refine W.widen (k := 0) (n := 0) (by omega) (by omega) ?_
        exact W.iret (v := (-3)) hx hb hr (fun t ht hW => ⟨⟨(-3), (M, fma), rfl, ⟨hpost, (by have t_b5 := b5; have t_b9 := b9; have t_n12 := n12; have t_n0 : (nI N).toInt = (N : Int) := nI_toInt (by omega); have t_n1 : (nI B).toInt = (B : Int) := nI_toInt (by omega); have t_n2 : (nI T).toInt = (T : Int) := nI_toInt (by omega); have t_n3 : (nI S).toInt = (S : Int) := nI_toInt (by omega); have t_n4 : (nI M).toInt = (M : Int) := nI_toInt (by omega); have z0 : (0 : Int32).toInt = 0 := (by decide); have z1 : (1 : Int32).toInt = 1 := (by decide); have z2 : (2 : Int32).toInt = 2 := (by decide); have z3 : (3 : Int32).toInt = 3 := (by decide); have z5 : (5 : Int32).toInt = 5 := (by decide); have z9 : (9 : Int32).toInt = 9 := (by decide); have z20 : (20 : Int32).toInt = 20 := (by decide); have z4 : (-4 : Int32).toInt = -4 := (by decide); have z10 : (10 : Int32).toInt = 10 := (by decide); refine ⟨?_, by omega⟩; first | (rw [if_neg (by omega)]; done) | (rw [if_pos ⟨by omega, by omega⟩]; done))⟩, ⟨by rw [ht]; exact hP9, hD9⟩⟩, hS.F ht⟩) hS.2.2 dX11_mark_33
    · skip
      have b13 := if10_n c8
      refine lv_iconst (v := (-1)) hx hb dX11_mark_20 (by decide) ?_
      have hpost : ((-1) : Int32) = if ((0 ≤ i.toInt ∧ i.toInt < ((N : Nat) : Int)) ∧ 0 ≤ d.toInt ∧ d.toInt ≤ 9) then (if M < 6 then nI (M + 1) else -3) else -1 := by
        have t_b5 := b5
        have t_b13 := b13
        have t_n0 : (nI N).toInt = (N : Int) := nI_toInt (by omega)
        have t_n1 : (nI B).toInt = (B : Int) := nI_toInt (by omega)
        have t_n2 : (nI T).toInt = (T : Int) := nI_toInt (by omega)
        have t_n3 : (nI S).toInt = (S : Int) := nI_toInt (by omega)
        have t_n4 : (nI M).toInt = (M : Int) := nI_toInt (by omega)
        have z0 : (0 : Int32).toInt = 0 := (by decide)
        have z1 : (1 : Int32).toInt = 1 := (by decide)
        have z2 : (2 : Int32).toInt = 2 := (by decide)
        have z3 : (3 : Int32).toInt = 3 := (by decide)
        have z5 : (5 : Int32).toInt = 5 := (by decide)
        have z9 : (9 : Int32).toInt = 9 := (by decide)
        have z20 : (20 : Int32).toInt = 20 := (by decide)
        have z4 : (-4 : Int32).toInt = -4 := (by decide)
        have z10 : (10 : Int32).toInt = 10 := (by decide)
        rw [if_neg (by omega)]
      have hP9 := hP.sub (ws' := [(h0, .inr (11, [.ref st, .int (nI N), .int (nI B), .ref rp, .int vrs, .int vrb, .int vhs, .int vca, .int vxs, .int vxb, .ref tp, .int (nI T), .int vfa, .int vbr, .int vba, .int vsp, .int vhe, .int vtk, .int vva, .ref cu, .ref lt, .ref od, .ref th, .ref be, .ref ln, .int (nI S), .ref ma, .int (nI M), .ref ah, .ref bh, .ref ik, .ref la, .ref lg, .ref ce, .int vto])), (ma, .inl (G 0, 12, .inl fma))]) [0, 1] rfl
      have hD9 := hD.sub (ws' := [(h0, .inr (11, [.ref st, .int (nI N), .int (nI B), .ref rp, .int vrs, .int vrb, .int vhs, .int vca, .int vxs, .int vxb, .ref tp, .int (nI T), .int vfa, .int vbr, .int vba, .int vsp, .int vhe, .int vtk, .int vva, .ref cu, .ref lt, .ref od, .ref th, .ref be, .ref ln, .int (nI S), .ref ma, .int (nI M), .ref ah, .ref bh, .ref ik, .ref la, .ref lg, .ref ce, .int vto])), (ma, .inl (G 0, 12, .inl fma))]) [0, 1] (by decide) rfl
      refine W.widen (k := 0) (n := 0) (by omega) (by omega) ?_
      exact W.iret (v := (-1)) hx hb hr (fun t ht hW => ⟨⟨(-1), (M, fma), rfl, ⟨hpost, (by have t_b5 := b5; have t_b13 := b13; have t_n0 : (nI N).toInt = (N : Int) := nI_toInt (by omega); have t_n1 : (nI B).toInt = (B : Int) := nI_toInt (by omega); have t_n2 : (nI T).toInt = (T : Int) := nI_toInt (by omega); have t_n3 : (nI S).toInt = (S : Int) := nI_toInt (by omega); have t_n4 : (nI M).toInt = (M : Int) := nI_toInt (by omega); have z0 : (0 : Int32).toInt = 0 := (by decide); have z1 : (1 : Int32).toInt = 1 := (by decide); have z2 : (2 : Int32).toInt = 2 := (by decide); have z3 : (3 : Int32).toInt = 3 := (by decide); have z5 : (5 : Int32).toInt = 5 := (by decide); have z9 : (9 : Int32).toInt = 9 := (by decide); have z20 : (20 : Int32).toInt = 20 := (by decide); have z4 : (-4 : Int32).toInt = -4 := (by decide); have z10 : (10 : Int32).toInt = 10 := (by decide); refine ⟨?_, by omega⟩; first | (rw [if_neg (by omega)]; done) | (rw [if_pos ⟨by omega, by omega⟩]; done))⟩, ⟨by rw [ht]; exact hP9, hD9⟩⟩, hS.F ht⟩) hS.2.2 dX11_mark_21

set_option maxHeartbeats 1000000 in
set_option maxRecDepth 100000 in
theorem c_X11_forgetE (l : Launch) (dC : Nat → ClassId) (dI : Nat → Nat → Nat) (G : Nat → ClassId) (sz : Nat) (h0 st N B rp tp T cu lt od th be ln S ma M ah bh ik la lg ce : Nat) (n vrs vrb vhs vca vxs vxb vfa vbr vba vsp vhe vtk vva vto : Int32) (hN : N ≤ 10) (hB : B ≤ 6) (hT : T ≤ 320) (hS0 : S ≤ 8) (hM : M ≤ 6) : Met l yX11_forget (Cond.code yX11_forget cX11_forget 3 (some .int) :: GT) ({ frames := 1, cells := 0, slots := 0, locals := 25 } : Room) (PcW [.ref h0, .int n] dC dI G [(h0, .inr (11, [.ref st, .int (nI N), .int (nI B), .ref rp, .int vrs, .int vrb, .int vhs, .int vca, .int vxs, .int vxb, .ref tp, .int (nI T), .int vfa, .int vbr, .int vba, .int vsp, .int vhe, .int vtk, .int vva, .ref cu, .ref lt, .ref od, .ref th, .ref be, .ref ln, .int (nI S), .ref ma, .int (nI M), .ref ah, .ref bh, .ref ik, .ref la, .ref lg, .ref ce, .int vto]))] sz) (va_Qi (fun (r : Int32) (u : Nat) => match u with | oS => (r = if 0 ≤ n.toInt ∧ n.toInt ≤ ((S : Nat) : Int) then nI S else -1) ∧ oS = (if 0 ≤ n.toInt ∧ n.toInt ≤ ((S : Nat) : Int) then n.toNatClampNeg else S) ∧ oS ≤ 8) (fun (u : Nat) (t : State) => match u with | oS => va_P (dC, dI) vwCl [(h0, .inr (11, [.ref st, .int (nI N), .int (nI B), .ref rp, .int vrs, .int vrb, .int vhs, .int vca, .int vxs, .int vxb, .ref tp, .int (nI T), .int vfa, .int vbr, .int vba, .int vsp, .int vhe, .int vtk, .int vva, .ref cu, .ref lt, .ref od, .ref th, .ref be, .ref ln, .int (nI oS), .ref ma, .int (nI M), .ref ah, .ref bh, .ref ik, .ref la, .ref lg, .ref ce, .int vto]))] t.heap ∧ va_D (va_A [(h0, .inr (11, [.ref st, .int (nI N), .int (nI B), .ref rp, .int vrs, .int vrb, .int vhs, .int vca, .int vxs, .int vxb, .ref tp, .int (nI T), .int vfa, .int vbr, .int vba, .int vsp, .int vhe, .int vtk, .int vva, .ref cu, .ref lt, .ref od, .ref th, .ref be, .ref ln, .int (nI S), .ref ma, .int (nI M), .ref ah, .ref bh, .ref ik, .ref la, .ref lg, .ref ce, .int vto]))] sz) [(h0, .inr (11, [.ref st, .int (nI N), .int (nI B), .ref rp, .int vrs, .int vrb, .int vhs, .int vca, .int vxs, .int vxb, .ref tp, .int (nI T), .int vfa, .int vbr, .int vba, .int vsp, .int vhe, .int vtk, .int vva, .ref cu, .ref lt, .ref od, .ref th, .ref be, .ref ln, .int (nI oS), .ref ma, .int (nI M), .ref ah, .ref bh, .ref ik, .ref la, .ref lg, .ref ce, .int vto]))]) (va_A [(h0, .inr (11, [.ref st, .int (nI N), .int (nI B), .ref rp, .int vrs, .int vrb, .int vhs, .int vca, .int vxs, .int vxb, .ref tp, .int (nI T), .int vfa, .int vbr, .int vba, .int vsp, .int vhe, .int vtk, .int vva, .ref cu, .ref lt, .ref od, .ref th, .ref be, .ref ln, .int (nI S), .ref ma, .int (nI M), .ref ah, .ref bh, .ref ik, .ref la, .ref lg, .ref ce, .int vto]))] sz)) 0 0 (va_A [(h0, .inr (11, [.ref st, .int (nI N), .int (nI B), .ref rp, .int vrs, .int vrb, .int vhs, .int vca, .int vxs, .int vxb, .ref tp, .int (nI T), .int vfa, .int vbr, .int vba, .int vsp, .int vhe, .int vtk, .int vva, .ref cu, .ref lt, .ref od, .ref th, .ref be, .ref ln, .int (nI S), .ref ma, .int (nI M), .ref ah, .ref bh, .ref ik, .ref la, .ref lg, .ref ce, .int vto]))] sz) := by
  refine Met.ofW (cc := cX11_forget) (maxL := 3) (ret := (some .int)) (by decide) rfl ?_
  intro p e s m args below meth c s₁ Bd hml hv
  obtain ⟨rfl, hsz, hP, hK, hD0⟩ := hv
  have hx := Bd.exec
  have hb := Bd.bytes
  have hr := Bd.returns
  have hg : ∀ w ∈ GT, w.before ([.ref h0, .int n] : List Value).toArray s = true := fun w h => atoms_spec (ws := Cond.code yX11_forget cX11_forget 3 (some .int) :: GT) Bd.pre w (List.mem_cons_of_mem _ h)
  have hown : s.vm.findClass RX11 = some m.cls := findClass_of_methodNamed Bd.named
  have hlocks := Bd.notSynchronized
  subst hsz
  have hD := hD0.self (sz := s.heap.size)
  generalize hAe : va_A [(h0, .inr (11, [.ref st, .int (nI N), .int (nI B), .ref rp, .int vrs, .int vrb, .int vhs, .int vca, .int vxs, .int vxb, .ref tp, .int (nI T), .int vfa, .int vbr, .int vba, .int vsp, .int vhe, .int vtk, .int vva, .ref cu, .ref lt, .ref od, .ref th, .ref be, .ref ln, .int (nI S), .ref ma, .int (nI M), .ref ah, .ref bh, .ref ik, .ref la, .ref lg, .ref ce, .int vto]))] s.heap.size = A at hD ⊢
  have hA : ∀ q : Nat, s.heap.size ≤ q → A q := fun q h => by rw [← hAe]; exact Or.inr h
  have hS : va_S A s.heap s.heap [] := va_S.rf
  have hl := lv_entry ([.ref h0, .int n]) (n := 3) (Nat.le_of_ble_eq_true rfl)
  rw [lg_entry_eq]
  generalize (lg_sl ([.ref h0, .int n]) ++ List.replicate (3 - (lg_sl ([.ref h0, .int n])).length) Slot.unset).toArray = ls at hl ⊢
  have hl : lv_has ls 3 [(0, .ref h0), (1, .int n)] := hl
  refine lv_iload_n hx hb dX11_forget_0 rfl (lv_at hl 1 rfl) ?_
  refine lv_i2l (v := n.toInt64) hx hb dX11_forget_1 rfl ?_
  refine lv_lconst (v := 0) hx hb dX11_forget_2 (by decide) ?_
  refine lv_aload_n hx hb dX11_forget_3 rfl (lv_at hl 0 rfl) ?_
  refine va_get (D := (dC, dI)) (ci := 11) (v := .int (nI S)) (C := RX11) (T := TX11) (N := 35) hx hb hg inG11 hown hK.1 hP 0 rfl rfl 25 (by decide) (hg _ wt_903) (fun _ h9 => h9) rfl dX11_forget_4 ?_
  refine lv_i2l (v := (nI S).toInt64) hx hb dX11_forget_7 rfl ?_
  have hPc := hP.sub (ws' := []) [] rfl
  refine va_calli (va_runS (As := [.long n.toInt64, .long 0, .long ((nI S).toInt64)]) (rest := []) ⟨hx, hb, hml, hown, hg⟩ (c_X11_in l dC dI G _ n.toInt64 0 ((nI S).toInt64) ) (kwS hg mfX11_in wt_992 ⟨Nat.le_of_ble_eq_true rfl, Nat.le_of_ble_eq_true rfl⟩) (preSR hK hPc) rfl rfl hl.1 rfl (lv_room (Nat.le_of_ble_eq_true rfl)) dX11_forget_8 ⟨Nat.le_of_ble_eq_true rfl, Nat.le_of_ble_eq_true rfl⟩) hS (fun q h1 h2 => absurd h2 (Nat.not_le.mpr h1)) (fun q h => hA q (Nat.le_trans hS.1 h)) (fun r1 ur1 t H1 locs ht hvm w2 hB hz1 hk1 hS => ?_)
  have hP := keepR hP hk1
  obtain ⟨w2, w2x⟩ := w2
  try simp only [l_ii, show (0 : Int64).toInt = 0 from by decide] at w2
  subst w2
  refine lv_if_ne (tgt := 16) hx hb dX11_forget_11 (by decide) (fun c3 => ?_) (fun c3 => ?_)
  · skip
    have b4 := if10_p c3
    obtain ⟨nn, hnn, rfl⟩ : ∃ j : Nat, j < 9 ∧ n = nI j := by
      have t_b4 := b4
      have t_n0 : (nI N).toInt = (N : Int) := nI_toInt (by omega)
      have t_n1 : (nI B).toInt = (B : Int) := nI_toInt (by omega)
      have t_n2 : (nI T).toInt = (T : Int) := nI_toInt (by omega)
      have t_n3 : (nI S).toInt = (S : Int) := nI_toInt (by omega)
      have t_n4 : (nI M).toInt = (M : Int) := nI_toInt (by omega)
      exact i32_nat (by omega) (by omega)
    refine lv_aload_n hx hb dX11_forget_16 rfl (lv_at hl 0 rfl) ?_
    refine va_get (D := (dC, dI)) (ci := 11) (v := .int (nI S)) (C := RX11) (T := TX11) (N := 35) hx hb hg inG11 hown hK.1 hP 0 rfl rfl 25 (by decide) (hg _ wt_903) (fun _ h9 => h9) rfl dX11_forget_17 ?_
    refine lv_istore_n (lv' := [(2, .int (nI S)), (0, .ref h0), (1, .int (nI nn))]) hx hb dX11_forget_20 rfl hl (by decide) rfl (fun ls hl => ?_)
    refine lv_aload_n hx hb dX11_forget_21 rfl (lv_at hl 1 rfl) ?_
    refine lv_iload_n hx hb dX11_forget_22 rfl (lv_at hl 2 rfl) ?_
    refine va_put (D := (dC, dI)) (ci := 11) (v := .int (nI nn)) (ty := .int) (C := RX11) (T := TX11) (N := 35) hx hb hg inG11 tyX11 tyX11_ok nmX11 hown hK.1 hP hD hS 0 rfl rfl 25 (by decide) (hg _ wt_903) (fun _ h9 => h9) rfl (by decide +kernel) rfl rfl (Nat.le_of_ble_eq_true rfl) dX11_forget_23 (fun H locs hP hD hS => ?_)
    have hP : va_P (dC, dI) vwCl [(h0, .inr (11, [.ref st, .int (nI N), .int (nI B), .ref rp, .int vrs, .int vrb, .int vhs, .int vca, .int vxs, .int vxb, .ref tp, .int (nI T), .int vfa, .int vbr, .int vba, .int vsp, .int vhe, .int vtk, .int vva, .ref cu, .ref lt, .ref od, .ref th, .ref be, .ref ln, .int (nI nn), .ref ma, .int (nI M), .ref ah, .ref bh, .ref ik, .ref la, .ref lg, .ref ce, .int vto]))] H := hP
    have hD : va_D A [(h0, .inr (11, [.ref st, .int (nI N), .int (nI B), .ref rp, .int vrs, .int vrb, .int vhs, .int vca, .int vxs, .int vxb, .ref tp, .int (nI T), .int vfa, .int vbr, .int vba, .int vsp, .int vhe, .int vtk, .int vva, .ref cu, .ref lt, .ref od, .ref th, .ref be, .ref ln, .int (nI nn), .ref ma, .int (nI M), .ref ah, .ref bh, .ref ik, .ref la, .ref lg, .ref ce, .int vto]))] := hD
    refine lv_iload_n hx hb dX11_forget_26 rfl (lv_at hl 0 rfl) ?_
    have hpost : (nI S : Int32) = if 0 ≤ (nI nn).toInt ∧ (nI nn).toInt ≤ ((S : Nat) : Int) then nI S else -1 := by
      have t_b4 := b4
      have t_hnn := hnn
      have t_n0 : (nI N).toInt = (N : Int) := nI_toInt (by omega)
      have t_n1 : (nI B).toInt = (B : Int) := nI_toInt (by omega)
      have t_n2 : (nI T).toInt = (T : Int) := nI_toInt (by omega)
      have t_n3 : (nI S).toInt = (S : Int) := nI_toInt (by omega)
      have t_n4 : (nI M).toInt = (M : Int) := nI_toInt (by omega)
      have t_n5 : (nI nn).toInt = (nn : Int) := nI_toInt (by omega)
      have t_n0 : (nI N).toInt = (N : Int) := nI_toInt (by omega)
      have t_n1 : (nI B).toInt = (B : Int) := nI_toInt (by omega)
      have t_n2 : (nI T).toInt = (T : Int) := nI_toInt (by omega)
      have t_n3 : (nI S).toInt = (S : Int) := nI_toInt (by omega)
      have t_n4 : (nI M).toInt = (M : Int) := nI_toInt (by omega)
      have t_n5 : (nI nn).toInt = (nn : Int) := nI_toInt (by omega)
      first | rfl | ((repeat' split) <;> first | rfl | omega)
    have hP9 := hP.sub (ws' := [(h0, .inr (11, [.ref st, .int (nI N), .int (nI B), .ref rp, .int vrs, .int vrb, .int vhs, .int vca, .int vxs, .int vxb, .ref tp, .int (nI T), .int vfa, .int vbr, .int vba, .int vsp, .int vhe, .int vtk, .int vva, .ref cu, .ref lt, .ref od, .ref th, .ref be, .ref ln, .int (nI nn), .ref ma, .int (nI M), .ref ah, .ref bh, .ref ik, .ref la, .ref lg, .ref ce, .int vto]))]) [0] rfl
    have hD9 := hD.sub (ws' := [(h0, .inr (11, [.ref st, .int (nI N), .int (nI B), .ref rp, .int vrs, .int vrb, .int vhs, .int vca, .int vxs, .int vxb, .ref tp, .int (nI T), .int vfa, .int vbr, .int vba, .int vsp, .int vhe, .int vtk, .int vva, .ref cu, .ref lt, .ref od, .ref th, .ref be, .ref ln, .int (nI nn), .ref ma, .int (nI M), .ref ah, .ref bh, .ref ik, .ref la, .ref lg, .ref ce, .int vto]))]) [0] (by decide) rfl
    refine W.widen (k := 0) (n := 0) (by omega) (by omega) ?_
    exact W.iret (v := nI S) hx hb hr (fun t ht hW => ⟨⟨nI S, nn, rfl, ⟨hpost, (by have t_b4 := b4; have t_hnn := hnn; have t_n0 : (nI N).toInt = (N : Int) := nI_toInt (by omega); have t_n1 : (nI B).toInt = (B : Int) := nI_toInt (by omega); have t_n2 : (nI T).toInt = (T : Int) := nI_toInt (by omega); have t_n3 : (nI S).toInt = (S : Int) := nI_toInt (by omega); have t_n4 : (nI M).toInt = (M : Int) := nI_toInt (by omega); have t_n5 : (nI nn).toInt = (nn : Int) := nI_toInt (by omega); refine ⟨?_, by omega⟩; split <;> first | exact (nI_clamp (by omega)).symm | rfl | omega)⟩, ⟨by rw [ht]; exact hP9, hD9⟩⟩, hS.F ht⟩) hS.2.2 dX11_forget_27
  · skip
    have b5 := if10_n c3
    refine lv_iconst (v := (-1)) hx hb dX11_forget_14 (by decide) ?_
    have hpost : ((-1) : Int32) = if 0 ≤ n.toInt ∧ n.toInt ≤ ((S : Nat) : Int) then nI S else -1 := by
      have t_b5 := b5
      have t_n0 : (nI N).toInt = (N : Int) := nI_toInt (by omega)
      have t_n1 : (nI B).toInt = (B : Int) := nI_toInt (by omega)
      have t_n2 : (nI T).toInt = (T : Int) := nI_toInt (by omega)
      have t_n3 : (nI S).toInt = (S : Int) := nI_toInt (by omega)
      have t_n4 : (nI M).toInt = (M : Int) := nI_toInt (by omega)
      have t_n0 : (nI N).toInt = (N : Int) := nI_toInt (by omega)
      have t_n1 : (nI B).toInt = (B : Int) := nI_toInt (by omega)
      have t_n2 : (nI T).toInt = (T : Int) := nI_toInt (by omega)
      have t_n3 : (nI S).toInt = (S : Int) := nI_toInt (by omega)
      have t_n4 : (nI M).toInt = (M : Int) := nI_toInt (by omega)
      first | rfl | ((repeat' split) <;> first | rfl | omega)
    have hP9 := hP.sub (ws' := [(h0, .inr (11, [.ref st, .int (nI N), .int (nI B), .ref rp, .int vrs, .int vrb, .int vhs, .int vca, .int vxs, .int vxb, .ref tp, .int (nI T), .int vfa, .int vbr, .int vba, .int vsp, .int vhe, .int vtk, .int vva, .ref cu, .ref lt, .ref od, .ref th, .ref be, .ref ln, .int (nI S), .ref ma, .int (nI M), .ref ah, .ref bh, .ref ik, .ref la, .ref lg, .ref ce, .int vto]))]) [0] rfl
    have hD9 := hD.sub (ws' := [(h0, .inr (11, [.ref st, .int (nI N), .int (nI B), .ref rp, .int vrs, .int vrb, .int vhs, .int vca, .int vxs, .int vxb, .ref tp, .int (nI T), .int vfa, .int vbr, .int vba, .int vsp, .int vhe, .int vtk, .int vva, .ref cu, .ref lt, .ref od, .ref th, .ref be, .ref ln, .int (nI S), .ref ma, .int (nI M), .ref ah, .ref bh, .ref ik, .ref la, .ref lg, .ref ce, .int vto]))]) [0] (by decide) rfl
    refine W.widen (k := 0) (n := 0) (by omega) (by omega) ?_
    exact W.iret (v := (-1)) hx hb hr (fun t ht hW => ⟨⟨(-1), S, rfl, ⟨hpost, (by have t_b5 := b5; have t_n0 : (nI N).toInt = (N : Int) := nI_toInt (by omega); have t_n1 : (nI B).toInt = (B : Int) := nI_toInt (by omega); have t_n2 : (nI T).toInt = (T : Int) := nI_toInt (by omega); have t_n3 : (nI S).toInt = (S : Int) := nI_toInt (by omega); have t_n4 : (nI M).toInt = (M : Int) := nI_toInt (by omega); refine ⟨?_, by omega⟩; split <;> first | exact (nI_clamp (by omega)).symm | rfl | omega)⟩, ⟨by rw [ht]; exact hP9, hD9⟩⟩, hS.F ht⟩) hS.2.2 dX11_forget_15

set_option maxHeartbeats 1000000 in
set_option maxRecDepth 100000 in
theorem c_X11_wipeE (l : Launch) (dC : Nat → ClassId) (dI : Nat → Nat → Nat) (G : Nat → ClassId) (sz : Nat) (h0 st N B rp tp T cu lt od th be ln S ma M ah bh ik la lg ce : Nat) (n vrs vrb vhs vca vxs vxb vfa vbr vba vsp vhe vtk vva vto : Int32) (hN : N ≤ 10) (hB : B ≤ 6) (hT : T ≤ 320) (hS0 : S ≤ 8) (hM : M ≤ 6) : Met l yX11_wipe (Cond.code yX11_wipe cX11_wipe 3 (some .int) :: GT) ({ frames := 1, cells := 0, slots := 0, locals := 25 } : Room) (PcW [.ref h0, .int n] dC dI G [(h0, .inr (11, [.ref st, .int (nI N), .int (nI B), .ref rp, .int vrs, .int vrb, .int vhs, .int vca, .int vxs, .int vxb, .ref tp, .int (nI T), .int vfa, .int vbr, .int vba, .int vsp, .int vhe, .int vtk, .int vva, .ref cu, .ref lt, .ref od, .ref th, .ref be, .ref ln, .int (nI S), .ref ma, .int (nI M), .ref ah, .ref bh, .ref ik, .ref la, .ref lg, .ref ce, .int vto]))] sz) (va_Qi (fun (r : Int32) (u : Nat) => match u with | oM => (r = if 0 ≤ n.toInt ∧ n.toInt ≤ ((M : Nat) : Int) then nI M else -1) ∧ oM = (if 0 ≤ n.toInt ∧ n.toInt ≤ ((M : Nat) : Int) then n.toNatClampNeg else M) ∧ oM ≤ 6) (fun (u : Nat) (t : State) => match u with | oM => va_P (dC, dI) vwCl [(h0, .inr (11, [.ref st, .int (nI N), .int (nI B), .ref rp, .int vrs, .int vrb, .int vhs, .int vca, .int vxs, .int vxb, .ref tp, .int (nI T), .int vfa, .int vbr, .int vba, .int vsp, .int vhe, .int vtk, .int vva, .ref cu, .ref lt, .ref od, .ref th, .ref be, .ref ln, .int (nI S), .ref ma, .int (nI oM), .ref ah, .ref bh, .ref ik, .ref la, .ref lg, .ref ce, .int vto]))] t.heap ∧ va_D (va_A [(h0, .inr (11, [.ref st, .int (nI N), .int (nI B), .ref rp, .int vrs, .int vrb, .int vhs, .int vca, .int vxs, .int vxb, .ref tp, .int (nI T), .int vfa, .int vbr, .int vba, .int vsp, .int vhe, .int vtk, .int vva, .ref cu, .ref lt, .ref od, .ref th, .ref be, .ref ln, .int (nI S), .ref ma, .int (nI M), .ref ah, .ref bh, .ref ik, .ref la, .ref lg, .ref ce, .int vto]))] sz) [(h0, .inr (11, [.ref st, .int (nI N), .int (nI B), .ref rp, .int vrs, .int vrb, .int vhs, .int vca, .int vxs, .int vxb, .ref tp, .int (nI T), .int vfa, .int vbr, .int vba, .int vsp, .int vhe, .int vtk, .int vva, .ref cu, .ref lt, .ref od, .ref th, .ref be, .ref ln, .int (nI S), .ref ma, .int (nI oM), .ref ah, .ref bh, .ref ik, .ref la, .ref lg, .ref ce, .int vto]))]) (va_A [(h0, .inr (11, [.ref st, .int (nI N), .int (nI B), .ref rp, .int vrs, .int vrb, .int vhs, .int vca, .int vxs, .int vxb, .ref tp, .int (nI T), .int vfa, .int vbr, .int vba, .int vsp, .int vhe, .int vtk, .int vva, .ref cu, .ref lt, .ref od, .ref th, .ref be, .ref ln, .int (nI S), .ref ma, .int (nI M), .ref ah, .ref bh, .ref ik, .ref la, .ref lg, .ref ce, .int vto]))] sz)) 0 0 (va_A [(h0, .inr (11, [.ref st, .int (nI N), .int (nI B), .ref rp, .int vrs, .int vrb, .int vhs, .int vca, .int vxs, .int vxb, .ref tp, .int (nI T), .int vfa, .int vbr, .int vba, .int vsp, .int vhe, .int vtk, .int vva, .ref cu, .ref lt, .ref od, .ref th, .ref be, .ref ln, .int (nI S), .ref ma, .int (nI M), .ref ah, .ref bh, .ref ik, .ref la, .ref lg, .ref ce, .int vto]))] sz) := by
  refine Met.ofW (cc := cX11_wipe) (maxL := 3) (ret := (some .int)) (by decide) rfl ?_
  intro p e s m args below meth c s₁ Bd hml hv
  obtain ⟨rfl, hsz, hP, hK, hD0⟩ := hv
  have hx := Bd.exec
  have hb := Bd.bytes
  have hr := Bd.returns
  have hg : ∀ w ∈ GT, w.before ([.ref h0, .int n] : List Value).toArray s = true := fun w h => atoms_spec (ws := Cond.code yX11_wipe cX11_wipe 3 (some .int) :: GT) Bd.pre w (List.mem_cons_of_mem _ h)
  have hown : s.vm.findClass RX11 = some m.cls := findClass_of_methodNamed Bd.named
  have hlocks := Bd.notSynchronized
  subst hsz
  have hD := hD0.self (sz := s.heap.size)
  generalize hAe : va_A [(h0, .inr (11, [.ref st, .int (nI N), .int (nI B), .ref rp, .int vrs, .int vrb, .int vhs, .int vca, .int vxs, .int vxb, .ref tp, .int (nI T), .int vfa, .int vbr, .int vba, .int vsp, .int vhe, .int vtk, .int vva, .ref cu, .ref lt, .ref od, .ref th, .ref be, .ref ln, .int (nI S), .ref ma, .int (nI M), .ref ah, .ref bh, .ref ik, .ref la, .ref lg, .ref ce, .int vto]))] s.heap.size = A at hD ⊢
  have hA : ∀ q : Nat, s.heap.size ≤ q → A q := fun q h => by rw [← hAe]; exact Or.inr h
  have hS : va_S A s.heap s.heap [] := va_S.rf
  have hl := lv_entry ([.ref h0, .int n]) (n := 3) (Nat.le_of_ble_eq_true rfl)
  rw [lg_entry_eq]
  generalize (lg_sl ([.ref h0, .int n]) ++ List.replicate (3 - (lg_sl ([.ref h0, .int n])).length) Slot.unset).toArray = ls at hl ⊢
  have hl : lv_has ls 3 [(0, .ref h0), (1, .int n)] := hl
  refine lv_iload_n hx hb dX11_wipe_0 rfl (lv_at hl 1 rfl) ?_
  refine lv_i2l (v := n.toInt64) hx hb dX11_wipe_1 rfl ?_
  refine lv_lconst (v := 0) hx hb dX11_wipe_2 (by decide) ?_
  refine lv_aload_n hx hb dX11_wipe_3 rfl (lv_at hl 0 rfl) ?_
  refine va_get (D := (dC, dI)) (ci := 11) (v := .int (nI M)) (C := RX11) (T := TX11) (N := 35) hx hb hg inG11 hown hK.1 hP 0 rfl rfl 27 (by decide) (hg _ wt_905) (fun _ h9 => h9) rfl dX11_wipe_4 ?_
  refine lv_i2l (v := (nI M).toInt64) hx hb dX11_wipe_7 rfl ?_
  have hPc := hP.sub (ws' := []) [] rfl
  refine va_calli (va_runS (As := [.long n.toInt64, .long 0, .long ((nI M).toInt64)]) (rest := []) ⟨hx, hb, hml, hown, hg⟩ (c_X11_in l dC dI G _ n.toInt64 0 ((nI M).toInt64) ) (kwS hg mfX11_in wt_992 ⟨Nat.le_of_ble_eq_true rfl, Nat.le_of_ble_eq_true rfl⟩) (preSR hK hPc) rfl rfl hl.1 rfl (lv_room (Nat.le_of_ble_eq_true rfl)) dX11_wipe_8 ⟨Nat.le_of_ble_eq_true rfl, Nat.le_of_ble_eq_true rfl⟩) hS (fun q h1 h2 => absurd h2 (Nat.not_le.mpr h1)) (fun q h => hA q (Nat.le_trans hS.1 h)) (fun r1 ur1 t H1 locs ht hvm w2 hB hz1 hk1 hS => ?_)
  have hP := keepR hP hk1
  obtain ⟨w2, w2x⟩ := w2
  try simp only [l_ii, show (0 : Int64).toInt = 0 from by decide] at w2
  subst w2
  refine lv_if_ne (tgt := 16) hx hb dX11_wipe_11 (by decide) (fun c3 => ?_) (fun c3 => ?_)
  · skip
    have b4 := if10_p c3
    obtain ⟨nn, hnn, rfl⟩ : ∃ j : Nat, j < 7 ∧ n = nI j := by
      have t_b4 := b4
      have t_n0 : (nI N).toInt = (N : Int) := nI_toInt (by omega)
      have t_n1 : (nI B).toInt = (B : Int) := nI_toInt (by omega)
      have t_n2 : (nI T).toInt = (T : Int) := nI_toInt (by omega)
      have t_n3 : (nI S).toInt = (S : Int) := nI_toInt (by omega)
      have t_n4 : (nI M).toInt = (M : Int) := nI_toInt (by omega)
      exact i32_nat (by omega) (by omega)
    refine lv_aload_n hx hb dX11_wipe_16 rfl (lv_at hl 0 rfl) ?_
    refine va_get (D := (dC, dI)) (ci := 11) (v := .int (nI M)) (C := RX11) (T := TX11) (N := 35) hx hb hg inG11 hown hK.1 hP 0 rfl rfl 27 (by decide) (hg _ wt_905) (fun _ h9 => h9) rfl dX11_wipe_17 ?_
    refine lv_istore_n (lv' := [(2, .int (nI M)), (0, .ref h0), (1, .int (nI nn))]) hx hb dX11_wipe_20 rfl hl (by decide) rfl (fun ls hl => ?_)
    refine lv_aload_n hx hb dX11_wipe_21 rfl (lv_at hl 1 rfl) ?_
    refine lv_iload_n hx hb dX11_wipe_22 rfl (lv_at hl 2 rfl) ?_
    refine va_put (D := (dC, dI)) (ci := 11) (v := .int (nI nn)) (ty := .int) (C := RX11) (T := TX11) (N := 35) hx hb hg inG11 tyX11 tyX11_ok nmX11 hown hK.1 hP hD hS 0 rfl rfl 27 (by decide) (hg _ wt_905) (fun _ h9 => h9) rfl (by decide +kernel) rfl rfl (Nat.le_of_ble_eq_true rfl) dX11_wipe_23 (fun H locs hP hD hS => ?_)
    have hP : va_P (dC, dI) vwCl [(h0, .inr (11, [.ref st, .int (nI N), .int (nI B), .ref rp, .int vrs, .int vrb, .int vhs, .int vca, .int vxs, .int vxb, .ref tp, .int (nI T), .int vfa, .int vbr, .int vba, .int vsp, .int vhe, .int vtk, .int vva, .ref cu, .ref lt, .ref od, .ref th, .ref be, .ref ln, .int (nI S), .ref ma, .int (nI nn), .ref ah, .ref bh, .ref ik, .ref la, .ref lg, .ref ce, .int vto]))] H := hP
    have hD : va_D A [(h0, .inr (11, [.ref st, .int (nI N), .int (nI B), .ref rp, .int vrs, .int vrb, .int vhs, .int vca, .int vxs, .int vxb, .ref tp, .int (nI T), .int vfa, .int vbr, .int vba, .int vsp, .int vhe, .int vtk, .int vva, .ref cu, .ref lt, .ref od, .ref th, .ref be, .ref ln, .int (nI S), .ref ma, .int (nI nn), .ref ah, .ref bh, .ref ik, .ref la, .ref lg, .ref ce, .int vto]))] := hD
    refine lv_iload_n hx hb dX11_wipe_26 rfl (lv_at hl 0 rfl) ?_
    have hpost : (nI M : Int32) = if 0 ≤ (nI nn).toInt ∧ (nI nn).toInt ≤ ((M : Nat) : Int) then nI M else -1 := by
      have t_b4 := b4
      have t_hnn := hnn
      have t_n0 : (nI N).toInt = (N : Int) := nI_toInt (by omega)
      have t_n1 : (nI B).toInt = (B : Int) := nI_toInt (by omega)
      have t_n2 : (nI T).toInt = (T : Int) := nI_toInt (by omega)
      have t_n3 : (nI S).toInt = (S : Int) := nI_toInt (by omega)
      have t_n4 : (nI M).toInt = (M : Int) := nI_toInt (by omega)
      have t_n5 : (nI nn).toInt = (nn : Int) := nI_toInt (by omega)
      have t_n0 : (nI N).toInt = (N : Int) := nI_toInt (by omega)
      have t_n1 : (nI B).toInt = (B : Int) := nI_toInt (by omega)
      have t_n2 : (nI T).toInt = (T : Int) := nI_toInt (by omega)
      have t_n3 : (nI S).toInt = (S : Int) := nI_toInt (by omega)
      have t_n4 : (nI M).toInt = (M : Int) := nI_toInt (by omega)
      have t_n5 : (nI nn).toInt = (nn : Int) := nI_toInt (by omega)
      first | rfl | ((repeat' split) <;> first | rfl | omega)
    have hP9 := hP.sub (ws' := [(h0, .inr (11, [.ref st, .int (nI N), .int (nI B), .ref rp, .int vrs, .int vrb, .int vhs, .int vca, .int vxs, .int vxb, .ref tp, .int (nI T), .int vfa, .int vbr, .int vba, .int vsp, .int vhe, .int vtk, .int vva, .ref cu, .ref lt, .ref od, .ref th, .ref be, .ref ln, .int (nI S), .ref ma, .int (nI nn), .ref ah, .ref bh, .ref ik, .ref la, .ref lg, .ref ce, .int vto]))]) [0] rfl
    have hD9 := hD.sub (ws' := [(h0, .inr (11, [.ref st, .int (nI N), .int (nI B), .ref rp, .int vrs, .int vrb, .int vhs, .int vca, .int vxs, .int vxb, .ref tp, .int (nI T), .int vfa, .int vbr, .int vba, .int vsp, .int vhe, .int vtk, .int vva, .ref cu, .ref lt, .ref od, .ref th, .ref be, .ref ln, .int (nI S), .ref ma, .int (nI nn), .ref ah, .ref bh, .ref ik, .ref la, .ref lg, .ref ce, .int vto]))]) [0] (by decide) rfl
    refine W.widen (k := 0) (n := 0) (by omega) (by omega) ?_
    exact W.iret (v := nI M) hx hb hr (fun t ht hW => ⟨⟨nI M, nn, rfl, ⟨hpost, (by have t_b4 := b4; have t_hnn := hnn; have t_n0 : (nI N).toInt = (N : Int) := nI_toInt (by omega); have t_n1 : (nI B).toInt = (B : Int) := nI_toInt (by omega); have t_n2 : (nI T).toInt = (T : Int) := nI_toInt (by omega); have t_n3 : (nI S).toInt = (S : Int) := nI_toInt (by omega); have t_n4 : (nI M).toInt = (M : Int) := nI_toInt (by omega); have t_n5 : (nI nn).toInt = (nn : Int) := nI_toInt (by omega); refine ⟨?_, by omega⟩; split <;> first | exact (nI_clamp (by omega)).symm | rfl | omega)⟩, ⟨by rw [ht]; exact hP9, hD9⟩⟩, hS.F ht⟩) hS.2.2 dX11_wipe_27
  · skip
    have b5 := if10_n c3
    refine lv_iconst (v := (-1)) hx hb dX11_wipe_14 (by decide) ?_
    have hpost : ((-1) : Int32) = if 0 ≤ n.toInt ∧ n.toInt ≤ ((M : Nat) : Int) then nI M else -1 := by
      have t_b5 := b5
      have t_n0 : (nI N).toInt = (N : Int) := nI_toInt (by omega)
      have t_n1 : (nI B).toInt = (B : Int) := nI_toInt (by omega)
      have t_n2 : (nI T).toInt = (T : Int) := nI_toInt (by omega)
      have t_n3 : (nI S).toInt = (S : Int) := nI_toInt (by omega)
      have t_n4 : (nI M).toInt = (M : Int) := nI_toInt (by omega)
      have t_n0 : (nI N).toInt = (N : Int) := nI_toInt (by omega)
      have t_n1 : (nI B).toInt = (B : Int) := nI_toInt (by omega)
      have t_n2 : (nI T).toInt = (T : Int) := nI_toInt (by omega)
      have t_n3 : (nI S).toInt = (S : Int) := nI_toInt (by omega)
      have t_n4 : (nI M).toInt = (M : Int) := nI_toInt (by omega)
      first | rfl | ((repeat' split) <;> first | rfl | omega)
    have hP9 := hP.sub (ws' := [(h0, .inr (11, [.ref st, .int (nI N), .int (nI B), .ref rp, .int vrs, .int vrb, .int vhs, .int vca, .int vxs, .int vxb, .ref tp, .int (nI T), .int vfa, .int vbr, .int vba, .int vsp, .int vhe, .int vtk, .int vva, .ref cu, .ref lt, .ref od, .ref th, .ref be, .ref ln, .int (nI S), .ref ma, .int (nI M), .ref ah, .ref bh, .ref ik, .ref la, .ref lg, .ref ce, .int vto]))]) [0] rfl
    have hD9 := hD.sub (ws' := [(h0, .inr (11, [.ref st, .int (nI N), .int (nI B), .ref rp, .int vrs, .int vrb, .int vhs, .int vca, .int vxs, .int vxb, .ref tp, .int (nI T), .int vfa, .int vbr, .int vba, .int vsp, .int vhe, .int vtk, .int vva, .ref cu, .ref lt, .ref od, .ref th, .ref be, .ref ln, .int (nI S), .ref ma, .int (nI M), .ref ah, .ref bh, .ref ik, .ref la, .ref lg, .ref ce, .int vto]))]) [0] (by decide) rfl
    refine W.widen (k := 0) (n := 0) (by omega) (by omega) ?_
    exact W.iret (v := (-1)) hx hb hr (fun t ht hW => ⟨⟨(-1), M, rfl, ⟨hpost, (by have t_b5 := b5; have t_n0 : (nI N).toInt = (N : Int) := nI_toInt (by omega); have t_n1 : (nI B).toInt = (B : Int) := nI_toInt (by omega); have t_n2 : (nI T).toInt = (T : Int) := nI_toInt (by omega); have t_n3 : (nI S).toInt = (S : Int) := nI_toInt (by omega); have t_n4 : (nI M).toInt = (M : Int) := nI_toInt (by omega); refine ⟨?_, by omega⟩; split <;> first | exact (nI_clamp (by omega)).symm | rfl | omega)⟩, ⟨by rw [ht]; exact hP9, hD9⟩⟩, hS.F ht⟩) hS.2.2 dX11_wipe_15

set_option maxHeartbeats 1000000 in
set_option maxRecDepth 100000 in
theorem c_X11_keepE (l : Launch) (dC : Nat → ClassId) (dI : Nat → Nat → Nat) (G : Nat → ClassId) (sz : Nat) (h0 st N B rp tp T cu lt od th be ln S ma M ah bh ik la lg ce : Nat) (k vrs vrb vhs vca vxs vxb vfa vbr vba vsp vhe vtk vva vto : Int32) (fst : Nat → Int32) (fik : Nat → Int32) (hN : N ≤ 10) (hB : B ≤ 6) (hT : T ≤ 320) (hS0 : S ≤ 8) (hM : M ≤ 6) (hst : OKS fst) : Met l yX11_keep (Cond.code yX11_keep cX11_keep 3 (some .int) :: GT) ({ frames := 1, cells := 0, slots := 0, locals := 25 } : Room) (PcW [.ref h0, .int k] dC dI G [(h0, .inr (11, [.ref st, .int (nI N), .int (nI B), .ref rp, .int vrs, .int vrb, .int vhs, .int vca, .int vxs, .int vxb, .ref tp, .int (nI T), .int vfa, .int vbr, .int vba, .int vsp, .int vhe, .int vtk, .int vva, .ref cu, .ref lt, .ref od, .ref th, .ref be, .ref ln, .int (nI S), .ref ma, .int (nI M), .ref ah, .ref bh, .ref ik, .ref la, .ref lg, .ref ce, .int vto])), (st, .inl (G 0, 196, .inl fst)), (ik, .inl (G 2, 2, .inl fik))] sz) (va_Qi (fun (r : Int32) (u : (Nat → Int32) × (Nat → Int32)) => match u with | (ost, oik) => (r = if (0 ≤ k.toInt ∧ k.toInt < 2) then (if fik k.toNatClampNeg = 0 then 0 else 1) else -1) ∧ OKS ost ∧ oik = (if (0 ≤ k.toInt ∧ k.toInt < 2) then upd fik k.toNatClampNeg 1 else fik)) (fun (u : (Nat → Int32) × (Nat → Int32)) (t : State) => match u with | (ost, oik) => va_P (dC, dI) vwCl [(h0, .inr (11, [.ref st, .int (nI N), .int (nI B), .ref rp, .int vrs, .int vrb, .int vhs, .int vca, .int vxs, .int vxb, .ref tp, .int (nI T), .int vfa, .int vbr, .int vba, .int vsp, .int vhe, .int vtk, .int vva, .ref cu, .ref lt, .ref od, .ref th, .ref be, .ref ln, .int (nI S), .ref ma, .int (nI M), .ref ah, .ref bh, .ref ik, .ref la, .ref lg, .ref ce, .int vto])), (st, .inl (G 0, 196, .inl ost)), (ik, .inl (G 2, 2, .inl oik))] t.heap ∧ va_D (va_A [(h0, .inr (11, [.ref st, .int (nI N), .int (nI B), .ref rp, .int vrs, .int vrb, .int vhs, .int vca, .int vxs, .int vxb, .ref tp, .int (nI T), .int vfa, .int vbr, .int vba, .int vsp, .int vhe, .int vtk, .int vva, .ref cu, .ref lt, .ref od, .ref th, .ref be, .ref ln, .int (nI S), .ref ma, .int (nI M), .ref ah, .ref bh, .ref ik, .ref la, .ref lg, .ref ce, .int vto])), (st, .inl (G 0, 196, .inl fst)), (ik, .inl (G 2, 2, .inl fik))] sz) [(h0, .inr (11, [.ref st, .int (nI N), .int (nI B), .ref rp, .int vrs, .int vrb, .int vhs, .int vca, .int vxs, .int vxb, .ref tp, .int (nI T), .int vfa, .int vbr, .int vba, .int vsp, .int vhe, .int vtk, .int vva, .ref cu, .ref lt, .ref od, .ref th, .ref be, .ref ln, .int (nI S), .ref ma, .int (nI M), .ref ah, .ref bh, .ref ik, .ref la, .ref lg, .ref ce, .int vto])), (st, .inl (G 0, 196, .inl ost)), (ik, .inl (G 2, 2, .inl oik))]) (va_A [(h0, .inr (11, [.ref st, .int (nI N), .int (nI B), .ref rp, .int vrs, .int vrb, .int vhs, .int vca, .int vxs, .int vxb, .ref tp, .int (nI T), .int vfa, .int vbr, .int vba, .int vsp, .int vhe, .int vtk, .int vva, .ref cu, .ref lt, .ref od, .ref th, .ref be, .ref ln, .int (nI S), .ref ma, .int (nI M), .ref ah, .ref bh, .ref ik, .ref la, .ref lg, .ref ce, .int vto])), (st, .inl (G 0, 196, .inl fst)), (ik, .inl (G 2, 2, .inl fik))] sz)) 0 0 (va_A [(h0, .inr (11, [.ref st, .int (nI N), .int (nI B), .ref rp, .int vrs, .int vrb, .int vhs, .int vca, .int vxs, .int vxb, .ref tp, .int (nI T), .int vfa, .int vbr, .int vba, .int vsp, .int vhe, .int vtk, .int vva, .ref cu, .ref lt, .ref od, .ref th, .ref be, .ref ln, .int (nI S), .ref ma, .int (nI M), .ref ah, .ref bh, .ref ik, .ref la, .ref lg, .ref ce, .int vto])), (st, .inl (G 0, 196, .inl fst)), (ik, .inl (G 2, 2, .inl fik))] sz) := by
  refine Met.ofW (cc := cX11_keep) (maxL := 3) (ret := (some .int)) (by decide) rfl ?_
  intro p e s m args below meth c s₁ Bd hml hv
  obtain ⟨rfl, hsz, hP, hK, hD0⟩ := hv
  have hx := Bd.exec
  have hb := Bd.bytes
  have hr := Bd.returns
  have hg : ∀ w ∈ GT, w.before ([.ref h0, .int k] : List Value).toArray s = true := fun w h => atoms_spec (ws := Cond.code yX11_keep cX11_keep 3 (some .int) :: GT) Bd.pre w (List.mem_cons_of_mem _ h)
  have hown : s.vm.findClass RX11 = some m.cls := findClass_of_methodNamed Bd.named
  have hlocks := Bd.notSynchronized
  subst hsz
  have hD := hD0.self (sz := s.heap.size)
  generalize hAe : va_A [(h0, .inr (11, [.ref st, .int (nI N), .int (nI B), .ref rp, .int vrs, .int vrb, .int vhs, .int vca, .int vxs, .int vxb, .ref tp, .int (nI T), .int vfa, .int vbr, .int vba, .int vsp, .int vhe, .int vtk, .int vva, .ref cu, .ref lt, .ref od, .ref th, .ref be, .ref ln, .int (nI S), .ref ma, .int (nI M), .ref ah, .ref bh, .ref ik, .ref la, .ref lg, .ref ce, .int vto])), (st, .inl (G 0, 196, .inl fst)), (ik, .inl (G 2, 2, .inl fik))] s.heap.size = A at hD ⊢
  have hA : ∀ q : Nat, s.heap.size ≤ q → A q := fun q h => by rw [← hAe]; exact Or.inr h
  have hS : va_S A s.heap s.heap [] := va_S.rf
  have hl := lv_entry ([.ref h0, .int k]) (n := 3) (Nat.le_of_ble_eq_true rfl)
  rw [lg_entry_eq]
  generalize (lg_sl ([.ref h0, .int k]) ++ List.replicate (3 - (lg_sl ([.ref h0, .int k])).length) Slot.unset).toArray = ls at hl ⊢
  have hl : lv_has ls 3 [(0, .ref h0), (1, .int k)] := hl
  refine lv_iload_n hx hb dX11_keep_0 rfl (lv_at hl 1 rfl) ?_
  refine lv_i2l (v := k.toInt64) hx hb dX11_keep_1 rfl ?_
  refine lv_lconst (v := 0) hx hb dX11_keep_2 (by decide) ?_
  refine lv_lconst (v := 1) hx hb dX11_keep_3 (by decide) ?_
  have hPc := hP.sub (ws' := []) [] rfl
  refine va_calli (va_runS (As := [.long k.toInt64, .long 0, .long 1]) (rest := []) ⟨hx, hb, hml, hown, hg⟩ (c_X11_in l dC dI G _ k.toInt64 0 1 ) (kwS hg mfX11_in wt_992 ⟨Nat.le_of_ble_eq_true rfl, Nat.le_of_ble_eq_true rfl⟩) (preSR hK hPc) rfl rfl hl.1 rfl (lv_room (Nat.le_of_ble_eq_true rfl)) dX11_keep_4 ⟨Nat.le_of_ble_eq_true rfl, Nat.le_of_ble_eq_true rfl⟩) hS (fun q h1 h2 => absurd h2 (Nat.not_le.mpr h1)) (fun q h => hA q (Nat.le_trans hS.1 h)) (fun r1 ur1 t H1 locs ht hvm w2 hB hz1 hk1 hS => ?_)
  have hP := keepR hP hk1
  obtain ⟨w2, w2x⟩ := w2
  try simp only [l_ii, show (0 : Int64).toInt = 0 from by decide, show (1 : Int64).toInt = 1 from by decide] at w2
  subst w2
  refine lv_if_ne (tgt := 12) hx hb dX11_keep_7 (by decide) (fun c3 => ?_) (fun c3 => ?_)
  · skip
    have b4 := if10_p c3
    obtain ⟨kk, hkk, rfl⟩ : ∃ j : Nat, j < 2 ∧ k = nI j := by
      have t_b4 := b4
      have t_n0 : (nI N).toInt = (N : Int) := nI_toInt (by omega)
      have t_n1 : (nI B).toInt = (B : Int) := nI_toInt (by omega)
      have t_n2 : (nI T).toInt = (T : Int) := nI_toInt (by omega)
      have t_n3 : (nI S).toInt = (S : Int) := nI_toInt (by omega)
      have t_n4 : (nI M).toInt = (M : Int) := nI_toInt (by omega)
      exact i32_nat (by omega) (by omega)
    refine lv_aload_n hx hb dX11_keep_12 rfl (lv_at hl 0 rfl) ?_
    refine lv_iconst (v := 0) hx hb dX11_keep_13 (by decide) ?_
    refine lv_bipush (v := 49) hx hb dX11_keep_14 (by decide) ?_
    refine lv_iload_n hx hb dX11_keep_16 rfl (lv_at hl 1 rfl) ?_
    refine lv_iconst (v := 1) hx hb dX11_keep_17 (by decide) ?_
    refine lv_iadd hx hb dX11_keep_18 ?_
    refine lv_cg (y := nI (kk + 1)) (by rw [show (1 : Int32) = nI 1 from rfl]; exact nI_add _ _) ?_
    refine lv_imul hx hb dX11_keep_19 ?_
    refine lv_cg (y := nI (49 * (kk + 1))) (by rw [show (49 : Int32) = nI 49 from rfl]; exact pk_mul _ _) ?_
    have hPc := hP.sub (ws' := [(h0, .inr (11, [.ref st, .int (nI N), .int (nI B), .ref rp, .int vrs, .int vrb, .int vhs, .int vca, .int vxs, .int vxb, .ref tp, .int (nI T), .int vfa, .int vbr, .int vba, .int vsp, .int vhe, .int vtk, .int vva, .ref cu, .ref lt, .ref od, .ref th, .ref be, .ref ln, .int (nI S), .ref ma, .int (nI M), .ref ah, .ref bh, .ref ik, .ref la, .ref lg, .ref ce, .int vto])), (st, .inl (G 0, 196, .inl fst))]) [0, 1] rfl
    have hDc := hD.sub (ws' := [(h0, .inr (11, [.ref st, .int (nI N), .int (nI B), .ref rp, .int vrs, .int vrb, .int vhs, .int vca, .int vxs, .int vxb, .ref tp, .int (nI T), .int vfa, .int vbr, .int vba, .int vsp, .int vhe, .int vtk, .int vva, .ref cu, .ref lt, .ref od, .ref th, .ref be, .ref ln, .int (nI S), .ref ma, .int (nI M), .ref ah, .ref bh, .ref ik, .ref la, .ref lg, .ref ce, .int vto])), (st, .inl (G 0, 196, .inl fst))]) [0, 1] (by decide) rfl
    have hFc := va_free (wc := [(h0, .inr (11, [.ref st, .int (nI N), .int (nI B), .ref rp, .int vrs, .int vrb, .int vhs, .int vca, .int vxs, .int vxb, .ref tp, .int (nI T), .int vfa, .int vbr, .int vba, .int vsp, .int vhe, .int vtk, .int vva, .ref cu, .ref lt, .ref od, .ref th, .ref be, .ref ln, .int (nI S), .ref ma, .int (nI M), .ref ah, .ref bh, .ref ik, .ref la, .ref lg, .ref ce, .int vto])), (st, .inl (G 0, 196, .inl fst))]) hD hS hA [0, 1] rfl
    refine va_callv (va_runV (As := [.int 0, .int (nI (49 * (kk + 1)))]) (rest := []) ⟨hx, hb, hml, hown, hg⟩ (c_X11_copies l dC dI G _ h0 0 (49 * (kk + 1)) st N B rp tp T cu lt od th be ln S ma M ah bh ik la lg ce vrs vrb vhs vca vxs vxb vfa vbr vba vsp vhe vtk vva vto fst (by have t_b4 := b4; have t_hkk := hkk; have t_n0 : (nI N).toInt = (N : Int) := nI_toInt (by omega); have t_n1 : (nI B).toInt = (B : Int) := nI_toInt (by omega); have t_n2 : (nI T).toInt = (T : Int) := nI_toInt (by omega); have t_n3 : (nI S).toInt = (S : Int) := nI_toInt (by omega); have t_n4 : (nI M).toInt = (M : Int) := nI_toInt (by omega); have t_n5 : (nI kk).toInt = (kk : Int) := nI_toInt (by omega); omega) (by have t_b4 := b4; have t_hkk := hkk; have t_n0 : (nI N).toInt = (N : Int) := nI_toInt (by omega); have t_n1 : (nI B).toInt = (B : Int) := nI_toInt (by omega); have t_n2 : (nI T).toInt = (T : Int) := nI_toInt (by omega); have t_n3 : (nI S).toInt = (S : Int) := nI_toInt (by omega); have t_n4 : (nI M).toInt = (M : Int) := nI_toInt (by omega); have t_n5 : (nI kk).toInt = (kk : Int) := nI_toInt (by omega); omega) (by have t_b4 := b4; have t_hkk := hkk; have t_n0 : (nI N).toInt = (N : Int) := nI_toInt (by omega); have t_n1 : (nI B).toInt = (B : Int) := nI_toInt (by omega); have t_n2 : (nI T).toInt = (T : Int) := nI_toInt (by omega); have t_n3 : (nI S).toInt = (S : Int) := nI_toInt (by omega); have t_n4 : (nI M).toInt = (M : Int) := nI_toInt (by omega); have t_n5 : (nI kk).toInt = (kk : Int) := nI_toInt (by omega); omega) (by have t_b4 := b4; have t_hkk := hkk; have t_n0 : (nI N).toInt = (N : Int) := nI_toInt (by omega); have t_n1 : (nI B).toInt = (B : Int) := nI_toInt (by omega); have t_n2 : (nI T).toInt = (T : Int) := nI_toInt (by omega); have t_n3 : (nI S).toInt = (S : Int) := nI_toInt (by omega); have t_n4 : (nI M).toInt = (M : Int) := nI_toInt (by omega); have t_n5 : (nI kk).toInt = (kk : Int) := nI_toInt (by omega); omega) (by have t_b4 := b4; have t_hkk := hkk; have t_n0 : (nI N).toInt = (N : Int) := nI_toInt (by omega); have t_n1 : (nI B).toInt = (B : Int) := nI_toInt (by omega); have t_n2 : (nI T).toInt = (T : Int) := nI_toInt (by omega); have t_n3 : (nI S).toInt = (S : Int) := nI_toInt (by omega); have t_n4 : (nI M).toInt = (M : Int) := nI_toInt (by omega); have t_n5 : (nI kk).toInt = (kk : Int) := nI_toInt (by omega); omega) hst (by have t_b4 := b4; have t_hkk := hkk; have t_n0 : (nI N).toInt = (N : Int) := nI_toInt (by omega); have t_n1 : (nI B).toInt = (B : Int) := nI_toInt (by omega); have t_n2 : (nI T).toInt = (T : Int) := nI_toInt (by omega); have t_n3 : (nI S).toInt = (S : Int) := nI_toInt (by omega); have t_n4 : (nI M).toInt = (M : Int) := nI_toInt (by omega); have t_n5 : (nI kk).toInt = (kk : Int) := nI_toInt (by omega); omega) (by have t_b4 := b4; have t_hkk := hkk; have t_n0 : (nI N).toInt = (N : Int) := nI_toInt (by omega); have t_n1 : (nI B).toInt = (B : Int) := nI_toInt (by omega); have t_n2 : (nI T).toInt = (T : Int) := nI_toInt (by omega); have t_n3 : (nI S).toInt = (S : Int) := nI_toInt (by omega); have t_n4 : (nI M).toInt = (M : Int) := nI_toInt (by omega); have t_n5 : (nI kk).toInt = (kk : Int) := nI_toInt (by omega); omega)) (kwV hg mfX11_copies wt_1248 ⟨Nat.le_of_ble_eq_true rfl, Nat.le_of_ble_eq_true rfl⟩) (preVW hK hPc hDc (ci := 11) rfl rfl) rfl rfl hl.1 rfl (lv_room (Nat.le_of_ble_eq_true rfl)) dX11_keep_20 ⟨Nat.le_of_ble_eq_true rfl, Nat.le_of_ble_eq_true rfl⟩) hS (fun q _ h => hFc q h) hFc (fun ur5 t H1 locs ht hvm w6 hB hz1 hk1 hS => ?_)
    obtain ⟨u7, rfl⟩ : ∃ z, z = ur5 := ⟨_, rfl⟩
    obtain ⟨hP1, hD1⟩ := hB
    rw [ht] at hP1
    obtain ⟨hP, hD⟩ := va_join (wr := [(ik, .inl (G 2, 2, .inl fik))]) (w1 := [(h0, .inr (11, [.ref st, .int (nI N), .int (nI B), .ref rp, .int vrs, .int vrb, .int vhs, .int vca, .int vxs, .int vxb, .ref tp, .int (nI T), .int vfa, .int vbr, .int vba, .int vsp, .int vhe, .int vtk, .int vva, .ref cu, .ref lt, .ref od, .ref th, .ref be, .ref ln, .int (nI S), .ref ma, .int (nI M), .ref ah, .ref bh, .ref ik, .ref la, .ref lg, .ref ce, .int vto])), (st, .inl (G 0, 196, .inl u7))]) hP hD [0, 1] [2] rfl rfl (by decide) (by decide) hk1 hFc hP1 hD1
    have w6 : OKS u7 := w6
    generalize H1 = H at hP hS ⊢
    have hP : va_P (dC, dI) vwCl [(ik, .inl (G 2, 2, .inl fik)), (h0, .inr (11, [.ref st, .int (nI N), .int (nI B), .ref rp, .int vrs, .int vrb, .int vhs, .int vca, .int vxs, .int vxb, .ref tp, .int (nI T), .int vfa, .int vbr, .int vba, .int vsp, .int vhe, .int vtk, .int vva, .ref cu, .ref lt, .ref od, .ref th, .ref be, .ref ln, .int (nI S), .ref ma, .int (nI M), .ref ah, .ref bh, .ref ik, .ref la, .ref lg, .ref ce, .int vto])), (st, .inl (G 0, 196, .inl u7))] H := hP
    have hD : va_D A [(ik, .inl (G 2, 2, .inl fik)), (h0, .inr (11, [.ref st, .int (nI N), .int (nI B), .ref rp, .int vrs, .int vrb, .int vhs, .int vca, .int vxs, .int vxb, .ref tp, .int (nI T), .int vfa, .int vbr, .int vba, .int vsp, .int vhe, .int vtk, .int vva, .ref cu, .ref lt, .ref od, .ref th, .ref be, .ref ln, .int (nI S), .ref ma, .int (nI M), .ref ah, .ref bh, .ref ik, .ref la, .ref lg, .ref ce, .int vto])), (st, .inl (G 0, 196, .inl u7))] := hD
    refine lv_aload_n hx hb dX11_keep_23 rfl (lv_at hl 0 rfl) ?_
    refine va_get (D := (dC, dI)) (ci := 11) (v := .ref ik) (C := RX11) (T := TX11) (N := 35) hx hb hg inG11 hown hK.1 hP 1 rfl rfl 30 (by decide) (hg _ wt_908) (fun _ h9 => h9) rfl dX11_keep_24 ?_
    refine lv_iload_n hx hb dX11_keep_27 rfl (lv_at hl 1 rfl) ?_
    refine va_zald hx hb hK.1 hP 0 2 rfl rfl (vp_in_nI (by have t_b4 := b4; have t_hkk := hkk; have t_n0 : (nI N).toInt = (N : Int) := nI_toInt (by omega); have t_n1 : (nI B).toInt = (B : Int) := nI_toInt (by omega); have t_n2 : (nI T).toInt = (T : Int) := nI_toInt (by omega); have t_n3 : (nI S).toInt = (S : Int) := nI_toInt (by omega); have t_n4 : (nI M).toInt = (M : Int) := nI_toInt (by omega); have t_n5 : (nI kk).toInt = (kk : Int) := nI_toInt (by omega); omega) (by decide)) dX11_keep_28 ?_
    refine lv_cg (y := fik kk) (by rw [nI_clamp (by omega)]) ?_
    refine lv_if_eq (tgt := 36) hx hb dX11_keep_29 (by decide) (fun c8 => ?_) (fun c8 => ?_)
    · skip
      refine lv_iconst (v := 0) hx hb dX11_keep_36 (by decide) ?_
      refine lv_istore_n (lv' := [(2, .int 0), (0, .ref h0), (1, .int (nI kk))]) hx hb dX11_keep_37 rfl hl (by decide) rfl (fun ls hl => ?_)
      refine lv_aload_n hx hb dX11_keep_38 rfl (lv_at hl 1 rfl) ?_
      refine va_get (D := (dC, dI)) (ci := 11) (v := .ref ik) (C := RX11) (T := TX11) (N := 35) hx hb hg inG11 hown hK.1 hP 1 rfl rfl 30 (by decide) (hg _ wt_908) (fun _ h9 => h9) rfl dX11_keep_39 ?_
      refine lv_iload_n hx hb dX11_keep_42 rfl (lv_at hl 2 rfl) ?_
      refine lv_iconst (v := 1) hx hb dX11_keep_43 (by decide) ?_
      refine va_zast hx hb hK.1 hP hD hS 0 2 rfl rfl (vp_in_nI (by have t_b4 := b4; have t_hkk := hkk; have t_c8 := eqI c8; have : (0 : Int32).toInt = 0 := (by decide); have t_n0 : (nI N).toInt = (N : Int) := nI_toInt (by omega); have t_n1 : (nI B).toInt = (B : Int) := nI_toInt (by omega); have t_n2 : (nI T).toInt = (T : Int) := nI_toInt (by omega); have t_n3 : (nI S).toInt = (S : Int) := nI_toInt (by omega); have t_n4 : (nI M).toInt = (M : Int) := nI_toInt (by omega); have t_n5 : (nI kk).toInt = (kk : Int) := nI_toInt (by omega); omega) (by decide)) dX11_keep_44 (fun H locs hP hD hS => ?_)
      rw [nI_clamp (by omega)] at hP hD
      have hP : va_P (dC, dI) vwCl [(ik, .inl (G 2, 2, .inl (upd fik kk (vp_nar .boolean 1)))), (h0, .inr (11, [.ref st, .int (nI N), .int (nI B), .ref rp, .int vrs, .int vrb, .int vhs, .int vca, .int vxs, .int vxb, .ref tp, .int (nI T), .int vfa, .int vbr, .int vba, .int vsp, .int vhe, .int vtk, .int vva, .ref cu, .ref lt, .ref od, .ref th, .ref be, .ref ln, .int (nI S), .ref ma, .int (nI M), .ref ah, .ref bh, .ref ik, .ref la, .ref lg, .ref ce, .int vto])), (st, .inl (G 0, 196, .inl u7))] H := hP
      have hD : va_D A [(ik, .inl (G 2, 2, .inl (upd fik kk (vp_nar .boolean 1)))), (h0, .inr (11, [.ref st, .int (nI N), .int (nI B), .ref rp, .int vrs, .int vrb, .int vhs, .int vca, .int vxs, .int vxb, .ref tp, .int (nI T), .int vfa, .int vbr, .int vba, .int vsp, .int vhe, .int vtk, .int vva, .ref cu, .ref lt, .ref od, .ref th, .ref be, .ref ln, .int (nI S), .ref ma, .int (nI M), .ref ah, .ref bh, .ref ik, .ref la, .ref lg, .ref ce, .int vto])), (st, .inl (G 0, 196, .inl u7))] := hD
      refine lv_iload_n hx hb dX11_keep_45 rfl (lv_at hl 0 rfl) ?_
      have hpost : (0 : Int32) = if (0 ≤ (nI kk).toInt ∧ (nI kk).toInt < 2) then (if fik (nI kk).toNatClampNeg = 0 then 0 else 1) else -1 := by
        have t_b4 := b4
        have t_hkk := hkk
        have t_c8 := eqI c8
        have : (0 : Int32).toInt = 0 := (by decide)
        have t_n0 : (nI N).toInt = (N : Int) := nI_toInt (by omega)
        have t_n1 : (nI B).toInt = (B : Int) := nI_toInt (by omega)
        have t_n2 : (nI T).toInt = (T : Int) := nI_toInt (by omega)
        have t_n3 : (nI S).toInt = (S : Int) := nI_toInt (by omega)
        have t_n4 : (nI M).toInt = (M : Int) := nI_toInt (by omega)
        have t_n5 : (nI kk).toInt = (kk : Int) := nI_toInt (by omega)
        have z0 : (0 : Int32).toInt = 0 := (by decide)
        have z1 : (1 : Int32).toInt = 1 := (by decide)
        have z2 : (2 : Int32).toInt = 2 := (by decide)
        have z3 : (3 : Int32).toInt = 3 := (by decide)
        have z5 : (5 : Int32).toInt = 5 := (by decide)
        have z9 : (9 : Int32).toInt = 9 := (by decide)
        have z20 : (20 : Int32).toInt = 20 := (by decide)
        have z4 : (-4 : Int32).toInt = -4 := (by decide)
        have z10 : (10 : Int32).toInt = 10 := (by decide)
        first | (rw [if_neg (by omega)]; done) | (rw [if_pos (by omega), nI_clamp (by omega)]; first | (rw [if_pos (by assumption)]; done) | (rw [if_neg (by assumption)]; done))
      have hP9 := hP.sub (ws' := [(h0, .inr (11, [.ref st, .int (nI N), .int (nI B), .ref rp, .int vrs, .int vrb, .int vhs, .int vca, .int vxs, .int vxb, .ref tp, .int (nI T), .int vfa, .int vbr, .int vba, .int vsp, .int vhe, .int vtk, .int vva, .ref cu, .ref lt, .ref od, .ref th, .ref be, .ref ln, .int (nI S), .ref ma, .int (nI M), .ref ah, .ref bh, .ref ik, .ref la, .ref lg, .ref ce, .int vto])), (st, .inl (G 0, 196, .inl u7)), (ik, .inl (G 2, 2, .inl (upd fik kk (vp_nar .boolean 1))))]) [1, 2, 0] rfl
      have hD9 := hD.sub (ws' := [(h0, .inr (11, [.ref st, .int (nI N), .int (nI B), .ref rp, .int vrs, .int vrb, .int vhs, .int vca, .int vxs, .int vxb, .ref tp, .int (nI T), .int vfa, .int vbr, .int vba, .int vsp, .int vhe, .int vtk, .int vva, .ref cu, .ref lt, .ref od, .ref th, .ref be, .ref ln, .int (nI S), .ref ma, .int (nI M), .ref ah, .ref bh, .ref ik, .ref la, .ref lg, .ref ce, .int vto])), (st, .inl (G 0, 196, .inl u7)), (ik, .inl (G 2, 2, .inl (upd fik kk (vp_nar .boolean 1))))]) [1, 2, 0] (by decide) rfl
      refine W.widen (k := 0) (n := 0) (by omega) (by omega) ?_
      exact W.iret (v := 0) hx hb hr (fun t ht hW => ⟨⟨0, (u7, (upd fik kk (vp_nar .boolean 1))), rfl, ⟨hpost, ⟨w6, (by have t_b4 := b4; have t_hkk := hkk; have t_c8 := eqI c8; have : (0 : Int32).toInt = 0 := (by decide); have t_n0 : (nI N).toInt = (N : Int) := nI_toInt (by omega); have t_n1 : (nI B).toInt = (B : Int) := nI_toInt (by omega); have t_n2 : (nI T).toInt = (T : Int) := nI_toInt (by omega); have t_n3 : (nI S).toInt = (S : Int) := nI_toInt (by omega); have t_n4 : (nI M).toInt = (M : Int) := nI_toInt (by omega); have t_n5 : (nI kk).toInt = (kk : Int) := nI_toInt (by omega); have z0 : (0 : Int32).toInt = 0 := (by decide); have z1 : (1 : Int32).toInt = 1 := (by decide); have z2 : (2 : Int32).toInt = 2 := (by decide); have z3 : (3 : Int32).toInt = 3 := (by decide); have z5 : (5 : Int32).toInt = 5 := (by decide); have z9 : (9 : Int32).toInt = 9 := (by decide); have z20 : (20 : Int32).toInt = 20 := (by decide); have z4 : (-4 : Int32).toInt = -4 := (by decide); have z10 : (10 : Int32).toInt = 10 := (by decide); first | (rw [if_neg (by omega)]; done) | (rw [if_pos (by omega), nI_clamp (by omega)]; first | done | rfl))⟩⟩, ⟨by rw [ht]; exact hP9, hD9⟩⟩, hS.F ht⟩) hS.2.2 dX11_keep_46
    · skip
      refine lv_iconst (v := 1) hx hb dX11_keep_32 (by decide) ?_
      refine lv_goto (tgt := 37) hx hb dX11_keep_33 (by decide) ?_
      refine lv_istore_n (lv' := [(2, .int 1), (0, .ref h0), (1, .int (nI kk))]) hx hb dX11_keep_37 rfl hl (by decide) rfl (fun ls hl => ?_)
      refine lv_aload_n hx hb dX11_keep_38 rfl (lv_at hl 1 rfl) ?_
      refine va_get (D := (dC, dI)) (ci := 11) (v := .ref ik) (C := RX11) (T := TX11) (N := 35) hx hb hg inG11 hown hK.1 hP 1 rfl rfl 30 (by decide) (hg _ wt_908) (fun _ h9 => h9) rfl dX11_keep_39 ?_
      refine lv_iload_n hx hb dX11_keep_42 rfl (lv_at hl 2 rfl) ?_
      refine lv_iconst (v := 1) hx hb dX11_keep_43 (by decide) ?_
      refine va_zast hx hb hK.1 hP hD hS 0 2 rfl rfl (vp_in_nI (by have t_b4 := b4; have t_hkk := hkk; have t_c8 := neI c8; have : (0 : Int32).toInt = 0 := (by decide); have t_n0 : (nI N).toInt = (N : Int) := nI_toInt (by omega); have t_n1 : (nI B).toInt = (B : Int) := nI_toInt (by omega); have t_n2 : (nI T).toInt = (T : Int) := nI_toInt (by omega); have t_n3 : (nI S).toInt = (S : Int) := nI_toInt (by omega); have t_n4 : (nI M).toInt = (M : Int) := nI_toInt (by omega); have t_n5 : (nI kk).toInt = (kk : Int) := nI_toInt (by omega); omega) (by decide)) dX11_keep_44 (fun H locs hP hD hS => ?_)
      rw [nI_clamp (by omega)] at hP hD
      have hP : va_P (dC, dI) vwCl [(ik, .inl (G 2, 2, .inl (upd fik kk (vp_nar .boolean 1)))), (h0, .inr (11, [.ref st, .int (nI N), .int (nI B), .ref rp, .int vrs, .int vrb, .int vhs, .int vca, .int vxs, .int vxb, .ref tp, .int (nI T), .int vfa, .int vbr, .int vba, .int vsp, .int vhe, .int vtk, .int vva, .ref cu, .ref lt, .ref od, .ref th, .ref be, .ref ln, .int (nI S), .ref ma, .int (nI M), .ref ah, .ref bh, .ref ik, .ref la, .ref lg, .ref ce, .int vto])), (st, .inl (G 0, 196, .inl u7))] H := hP
      have hD : va_D A [(ik, .inl (G 2, 2, .inl (upd fik kk (vp_nar .boolean 1)))), (h0, .inr (11, [.ref st, .int (nI N), .int (nI B), .ref rp, .int vrs, .int vrb, .int vhs, .int vca, .int vxs, .int vxb, .ref tp, .int (nI T), .int vfa, .int vbr, .int vba, .int vsp, .int vhe, .int vtk, .int vva, .ref cu, .ref lt, .ref od, .ref th, .ref be, .ref ln, .int (nI S), .ref ma, .int (nI M), .ref ah, .ref bh, .ref ik, .ref la, .ref lg, .ref ce, .int vto])), (st, .inl (G 0, 196, .inl u7))] := hD
      refine lv_iload_n hx hb dX11_keep_45 rfl (lv_at hl 0 rfl) ?_
      have hpost : (1 : Int32) = if (0 ≤ (nI kk).toInt ∧ (nI kk).toInt < 2) then (if fik (nI kk).toNatClampNeg = 0 then 0 else 1) else -1 := by
        have t_b4 := b4
        have t_hkk := hkk
        have t_c8 := neI c8
        have : (0 : Int32).toInt = 0 := (by decide)
        have t_n0 : (nI N).toInt = (N : Int) := nI_toInt (by omega)
        have t_n1 : (nI B).toInt = (B : Int) := nI_toInt (by omega)
        have t_n2 : (nI T).toInt = (T : Int) := nI_toInt (by omega)
        have t_n3 : (nI S).toInt = (S : Int) := nI_toInt (by omega)
        have t_n4 : (nI M).toInt = (M : Int) := nI_toInt (by omega)
        have t_n5 : (nI kk).toInt = (kk : Int) := nI_toInt (by omega)
        have z0 : (0 : Int32).toInt = 0 := (by decide)
        have z1 : (1 : Int32).toInt = 1 := (by decide)
        have z2 : (2 : Int32).toInt = 2 := (by decide)
        have z3 : (3 : Int32).toInt = 3 := (by decide)
        have z5 : (5 : Int32).toInt = 5 := (by decide)
        have z9 : (9 : Int32).toInt = 9 := (by decide)
        have z20 : (20 : Int32).toInt = 20 := (by decide)
        have z4 : (-4 : Int32).toInt = -4 := (by decide)
        have z10 : (10 : Int32).toInt = 10 := (by decide)
        first | (rw [if_neg (by omega)]; done) | (rw [if_pos (by omega), nI_clamp (by omega)]; first | (rw [if_pos (by assumption)]; done) | (rw [if_neg (by assumption)]; done))
      have hP9 := hP.sub (ws' := [(h0, .inr (11, [.ref st, .int (nI N), .int (nI B), .ref rp, .int vrs, .int vrb, .int vhs, .int vca, .int vxs, .int vxb, .ref tp, .int (nI T), .int vfa, .int vbr, .int vba, .int vsp, .int vhe, .int vtk, .int vva, .ref cu, .ref lt, .ref od, .ref th, .ref be, .ref ln, .int (nI S), .ref ma, .int (nI M), .ref ah, .ref bh, .ref ik, .ref la, .ref lg, .ref ce, .int vto])), (st, .inl (G 0, 196, .inl u7)), (ik, .inl (G 2, 2, .inl (upd fik kk (vp_nar .boolean 1))))]) [1, 2, 0] rfl
      have hD9 := hD.sub (ws' := [(h0, .inr (11, [.ref st, .int (nI N), .int (nI B), .ref rp, .int vrs, .int vrb, .int vhs, .int vca, .int vxs, .int vxb, .ref tp, .int (nI T), .int vfa, .int vbr, .int vba, .int vsp, .int vhe, .int vtk, .int vva, .ref cu, .ref lt, .ref od, .ref th, .ref be, .ref ln, .int (nI S), .ref ma, .int (nI M), .ref ah, .ref bh, .ref ik, .ref la, .ref lg, .ref ce, .int vto])), (st, .inl (G 0, 196, .inl u7)), (ik, .inl (G 2, 2, .inl (upd fik kk (vp_nar .boolean 1))))]) [1, 2, 0] (by decide) rfl
      refine W.widen (k := 0) (n := 0) (by omega) (by omega) ?_
      exact W.iret (v := 1) hx hb hr (fun t ht hW => ⟨⟨1, (u7, (upd fik kk (vp_nar .boolean 1))), rfl, ⟨hpost, ⟨w6, (by have t_b4 := b4; have t_hkk := hkk; have t_c8 := neI c8; have : (0 : Int32).toInt = 0 := (by decide); have t_n0 : (nI N).toInt = (N : Int) := nI_toInt (by omega); have t_n1 : (nI B).toInt = (B : Int) := nI_toInt (by omega); have t_n2 : (nI T).toInt = (T : Int) := nI_toInt (by omega); have t_n3 : (nI S).toInt = (S : Int) := nI_toInt (by omega); have t_n4 : (nI M).toInt = (M : Int) := nI_toInt (by omega); have t_n5 : (nI kk).toInt = (kk : Int) := nI_toInt (by omega); have z0 : (0 : Int32).toInt = 0 := (by decide); have z1 : (1 : Int32).toInt = 1 := (by decide); have z2 : (2 : Int32).toInt = 2 := (by decide); have z3 : (3 : Int32).toInt = 3 := (by decide); have z5 : (5 : Int32).toInt = 5 := (by decide); have z9 : (9 : Int32).toInt = 9 := (by decide); have z20 : (20 : Int32).toInt = 20 := (by decide); have z4 : (-4 : Int32).toInt = -4 := (by decide); have z10 : (10 : Int32).toInt = 10 := (by decide); first | (rw [if_neg (by omega)]; done) | (rw [if_pos (by omega), nI_clamp (by omega)]; first | done | rfl))⟩⟩, ⟨by rw [ht]; exact hP9, hD9⟩⟩, hS.F ht⟩) hS.2.2 dX11_keep_46
  · skip
    have b9 := if10_n c3
    refine lv_iconst (v := (-1)) hx hb dX11_keep_10 (by decide) ?_
    have hpost : ((-1) : Int32) = if (0 ≤ k.toInt ∧ k.toInt < 2) then (if fik k.toNatClampNeg = 0 then 0 else 1) else -1 := by
      have t_b9 := b9
      have t_n0 : (nI N).toInt = (N : Int) := nI_toInt (by omega)
      have t_n1 : (nI B).toInt = (B : Int) := nI_toInt (by omega)
      have t_n2 : (nI T).toInt = (T : Int) := nI_toInt (by omega)
      have t_n3 : (nI S).toInt = (S : Int) := nI_toInt (by omega)
      have t_n4 : (nI M).toInt = (M : Int) := nI_toInt (by omega)
      have z0 : (0 : Int32).toInt = 0 := (by decide)
      have z1 : (1 : Int32).toInt = 1 := (by decide)
      have z2 : (2 : Int32).toInt = 2 := (by decide)
      have z3 : (3 : Int32).toInt = 3 := (by decide)
      have z5 : (5 : Int32).toInt = 5 := (by decide)
      have z9 : (9 : Int32).toInt = 9 := (by decide)
      have z20 : (20 : Int32).toInt = 20 := (by decide)
      have z4 : (-4 : Int32).toInt = -4 := (by decide)
      have z10 : (10 : Int32).toInt = 10 := (by decide)
      first | (rw [if_neg (by omega)]; done) | (rw [if_pos (by omega), nI_clamp (by omega)]; first | (rw [if_pos (by assumption)]; done) | (rw [if_neg (by assumption)]; done))
    have hP9 := hP.sub (ws' := [(h0, .inr (11, [.ref st, .int (nI N), .int (nI B), .ref rp, .int vrs, .int vrb, .int vhs, .int vca, .int vxs, .int vxb, .ref tp, .int (nI T), .int vfa, .int vbr, .int vba, .int vsp, .int vhe, .int vtk, .int vva, .ref cu, .ref lt, .ref od, .ref th, .ref be, .ref ln, .int (nI S), .ref ma, .int (nI M), .ref ah, .ref bh, .ref ik, .ref la, .ref lg, .ref ce, .int vto])), (st, .inl (G 0, 196, .inl fst)), (ik, .inl (G 2, 2, .inl fik))]) [0, 1, 2] rfl
    have hD9 := hD.sub (ws' := [(h0, .inr (11, [.ref st, .int (nI N), .int (nI B), .ref rp, .int vrs, .int vrb, .int vhs, .int vca, .int vxs, .int vxb, .ref tp, .int (nI T), .int vfa, .int vbr, .int vba, .int vsp, .int vhe, .int vtk, .int vva, .ref cu, .ref lt, .ref od, .ref th, .ref be, .ref ln, .int (nI S), .ref ma, .int (nI M), .ref ah, .ref bh, .ref ik, .ref la, .ref lg, .ref ce, .int vto])), (st, .inl (G 0, 196, .inl fst)), (ik, .inl (G 2, 2, .inl fik))]) [0, 1, 2] (by decide) rfl
    refine W.widen (k := 0) (n := 0) (by omega) (by omega) ?_
    exact W.iret (v := (-1)) hx hb hr (fun t ht hW => ⟨⟨(-1), (fst, fik), rfl, ⟨hpost, ⟨hst, (by have t_b9 := b9; have t_n0 : (nI N).toInt = (N : Int) := nI_toInt (by omega); have t_n1 : (nI B).toInt = (B : Int) := nI_toInt (by omega); have t_n2 : (nI T).toInt = (T : Int) := nI_toInt (by omega); have t_n3 : (nI S).toInt = (S : Int) := nI_toInt (by omega); have t_n4 : (nI M).toInt = (M : Int) := nI_toInt (by omega); have z0 : (0 : Int32).toInt = 0 := (by decide); have z1 : (1 : Int32).toInt = 1 := (by decide); have z2 : (2 : Int32).toInt = 2 := (by decide); have z3 : (3 : Int32).toInt = 3 := (by decide); have z5 : (5 : Int32).toInt = 5 := (by decide); have z9 : (9 : Int32).toInt = 9 := (by decide); have z20 : (20 : Int32).toInt = 20 := (by decide); have z4 : (-4 : Int32).toInt = -4 := (by decide); have z10 : (10 : Int32).toInt = 10 := (by decide); first | (rw [if_neg (by omega)]; done) | (rw [if_pos (by omega), nI_clamp (by omega)]; first | done | rfl))⟩⟩, ⟨by rw [ht]; exact hP9, hD9⟩⟩, hS.F ht⟩) hS.2.2 dX11_keep_11

set_option maxHeartbeats 1000000 in
set_option maxRecDepth 100000 in
theorem c_X11_backE (l : Launch) (dC : Nat → ClassId) (dI : Nat → Nat → Nat) (G : Nat → ClassId) (sz : Nat) (h0 st N B rp tp T cu lt od th be ln S ma M ah bh ik la lg ce : Nat) (k vrs vrb vhs vca vxs vxb vfa vbr vba vsp vhe vtk vva vto : Int32) (fst : Nat → Int32) (fik : Nat → Int32) (hN : N ≤ 10) (hB : B ≤ 6) (hT : T ≤ 320) (hS0 : S ≤ 8) (hM : M ≤ 6) (hst : OKS fst) : Met l yX11_back (Cond.code yX11_back cX11_back 2 (some .int) :: GT) ({ frames := 1, cells := 0, slots := 0, locals := 25 } : Room) (PcW [.ref h0, .int k] dC dI G [(h0, .inr (11, [.ref st, .int (nI N), .int (nI B), .ref rp, .int vrs, .int vrb, .int vhs, .int vca, .int vxs, .int vxb, .ref tp, .int (nI T), .int vfa, .int vbr, .int vba, .int vsp, .int vhe, .int vtk, .int vva, .ref cu, .ref lt, .ref od, .ref th, .ref be, .ref ln, .int (nI S), .ref ma, .int (nI M), .ref ah, .ref bh, .ref ik, .ref la, .ref lg, .ref ce, .int vto])), (st, .inl (G 0, 196, .inl fst)), (ik, .inl (G 2, 2, .inl fik))] sz) (va_Qi (fun (r : Int32) (u : (Nat → Int32)) => match u with | ost => (r = if (0 ≤ k.toInt ∧ k.toInt < 2) then (if fik k.toNatClampNeg = 0 then -2 else nI N) else -1) ∧ OKS ost) (fun (u : (Nat → Int32)) (t : State) => match u with | ost => va_P (dC, dI) vwCl [(h0, .inr (11, [.ref st, .int (nI N), .int (nI B), .ref rp, .int vrs, .int vrb, .int vhs, .int vca, .int vxs, .int vxb, .ref tp, .int (nI T), .int vfa, .int vbr, .int vba, .int vsp, .int vhe, .int vtk, .int vva, .ref cu, .ref lt, .ref od, .ref th, .ref be, .ref ln, .int (nI S), .ref ma, .int (nI M), .ref ah, .ref bh, .ref ik, .ref la, .ref lg, .ref ce, .int vto])), (st, .inl (G 0, 196, .inl ost)), (ik, .inl (G 2, 2, .inl fik))] t.heap ∧ va_D (va_A [(h0, .inr (11, [.ref st, .int (nI N), .int (nI B), .ref rp, .int vrs, .int vrb, .int vhs, .int vca, .int vxs, .int vxb, .ref tp, .int (nI T), .int vfa, .int vbr, .int vba, .int vsp, .int vhe, .int vtk, .int vva, .ref cu, .ref lt, .ref od, .ref th, .ref be, .ref ln, .int (nI S), .ref ma, .int (nI M), .ref ah, .ref bh, .ref ik, .ref la, .ref lg, .ref ce, .int vto])), (st, .inl (G 0, 196, .inl fst)), (ik, .inl (G 2, 2, .inl fik))] sz) [(h0, .inr (11, [.ref st, .int (nI N), .int (nI B), .ref rp, .int vrs, .int vrb, .int vhs, .int vca, .int vxs, .int vxb, .ref tp, .int (nI T), .int vfa, .int vbr, .int vba, .int vsp, .int vhe, .int vtk, .int vva, .ref cu, .ref lt, .ref od, .ref th, .ref be, .ref ln, .int (nI S), .ref ma, .int (nI M), .ref ah, .ref bh, .ref ik, .ref la, .ref lg, .ref ce, .int vto])), (st, .inl (G 0, 196, .inl ost)), (ik, .inl (G 2, 2, .inl fik))]) (va_A [(h0, .inr (11, [.ref st, .int (nI N), .int (nI B), .ref rp, .int vrs, .int vrb, .int vhs, .int vca, .int vxs, .int vxb, .ref tp, .int (nI T), .int vfa, .int vbr, .int vba, .int vsp, .int vhe, .int vtk, .int vva, .ref cu, .ref lt, .ref od, .ref th, .ref be, .ref ln, .int (nI S), .ref ma, .int (nI M), .ref ah, .ref bh, .ref ik, .ref la, .ref lg, .ref ce, .int vto])), (st, .inl (G 0, 196, .inl fst)), (ik, .inl (G 2, 2, .inl fik))] sz)) 0 0 (va_A [(h0, .inr (11, [.ref st, .int (nI N), .int (nI B), .ref rp, .int vrs, .int vrb, .int vhs, .int vca, .int vxs, .int vxb, .ref tp, .int (nI T), .int vfa, .int vbr, .int vba, .int vsp, .int vhe, .int vtk, .int vva, .ref cu, .ref lt, .ref od, .ref th, .ref be, .ref ln, .int (nI S), .ref ma, .int (nI M), .ref ah, .ref bh, .ref ik, .ref la, .ref lg, .ref ce, .int vto])), (st, .inl (G 0, 196, .inl fst)), (ik, .inl (G 2, 2, .inl fik))] sz) := by
  refine Met.ofW (cc := cX11_back) (maxL := 2) (ret := (some .int)) (by decide) rfl ?_
  intro p e s m args below meth c s₁ Bd hml hv
  obtain ⟨rfl, hsz, hP, hK, hD0⟩ := hv
  have hx := Bd.exec
  have hb := Bd.bytes
  have hr := Bd.returns
  have hg : ∀ w ∈ GT, w.before ([.ref h0, .int k] : List Value).toArray s = true := fun w h => atoms_spec (ws := Cond.code yX11_back cX11_back 2 (some .int) :: GT) Bd.pre w (List.mem_cons_of_mem _ h)
  have hown : s.vm.findClass RX11 = some m.cls := findClass_of_methodNamed Bd.named
  have hlocks := Bd.notSynchronized
  subst hsz
  have hD := hD0.self (sz := s.heap.size)
  generalize hAe : va_A [(h0, .inr (11, [.ref st, .int (nI N), .int (nI B), .ref rp, .int vrs, .int vrb, .int vhs, .int vca, .int vxs, .int vxb, .ref tp, .int (nI T), .int vfa, .int vbr, .int vba, .int vsp, .int vhe, .int vtk, .int vva, .ref cu, .ref lt, .ref od, .ref th, .ref be, .ref ln, .int (nI S), .ref ma, .int (nI M), .ref ah, .ref bh, .ref ik, .ref la, .ref lg, .ref ce, .int vto])), (st, .inl (G 0, 196, .inl fst)), (ik, .inl (G 2, 2, .inl fik))] s.heap.size = A at hD ⊢
  have hA : ∀ q : Nat, s.heap.size ≤ q → A q := fun q h => by rw [← hAe]; exact Or.inr h
  have hS : va_S A s.heap s.heap [] := va_S.rf
  have hl := lv_entry ([.ref h0, .int k]) (n := 2) (Nat.le_of_ble_eq_true rfl)
  rw [lg_entry_eq]
  generalize (lg_sl ([.ref h0, .int k]) ++ List.replicate (2 - (lg_sl ([.ref h0, .int k])).length) Slot.unset).toArray = ls at hl ⊢
  have hl : lv_has ls 2 [(0, .ref h0), (1, .int k)] := hl
  refine lv_iload_n hx hb dX11_back_0 rfl (lv_at hl 1 rfl) ?_
  refine lv_i2l (v := k.toInt64) hx hb dX11_back_1 rfl ?_
  refine lv_lconst (v := 0) hx hb dX11_back_2 (by decide) ?_
  refine lv_lconst (v := 1) hx hb dX11_back_3 (by decide) ?_
  have hPc := hP.sub (ws' := []) [] rfl
  refine va_calli (va_runS (As := [.long k.toInt64, .long 0, .long 1]) (rest := []) ⟨hx, hb, hml, hown, hg⟩ (c_X11_in l dC dI G _ k.toInt64 0 1 ) (kwS hg mfX11_in wt_992 ⟨Nat.le_of_ble_eq_true rfl, Nat.le_of_ble_eq_true rfl⟩) (preSR hK hPc) rfl rfl hl.1 rfl (lv_room (Nat.le_of_ble_eq_true rfl)) dX11_back_4 ⟨Nat.le_of_ble_eq_true rfl, Nat.le_of_ble_eq_true rfl⟩) hS (fun q h1 h2 => absurd h2 (Nat.not_le.mpr h1)) (fun q h => hA q (Nat.le_trans hS.1 h)) (fun r1 ur1 t H1 locs ht hvm w2 hB hz1 hk1 hS => ?_)
  have hP := keepR hP hk1
  obtain ⟨w2, w2x⟩ := w2
  try simp only [l_ii, show (0 : Int64).toInt = 0 from by decide, show (1 : Int64).toInt = 1 from by decide] at w2
  subst w2
  refine lv_if_ne (tgt := 12) hx hb dX11_back_7 (by decide) (fun c3 => ?_) (fun c3 => ?_)
  · skip
    have b4 := if10_p c3
    obtain ⟨kk, hkk, rfl⟩ : ∃ j : Nat, j < 2 ∧ k = nI j := by
      have t_b4 := b4
      have t_n0 : (nI N).toInt = (N : Int) := nI_toInt (by omega)
      have t_n1 : (nI B).toInt = (B : Int) := nI_toInt (by omega)
      have t_n2 : (nI T).toInt = (T : Int) := nI_toInt (by omega)
      have t_n3 : (nI S).toInt = (S : Int) := nI_toInt (by omega)
      have t_n4 : (nI M).toInt = (M : Int) := nI_toInt (by omega)
      exact i32_nat (by omega) (by omega)
    refine lv_aload_n hx hb dX11_back_12 rfl (lv_at hl 0 rfl) ?_
    refine va_get (D := (dC, dI)) (ci := 11) (v := .ref ik) (C := RX11) (T := TX11) (N := 35) hx hb hg inG11 hown hK.1 hP 0 rfl rfl 30 (by decide) (hg _ wt_908) (fun _ h9 => h9) rfl dX11_back_13 ?_
    refine lv_iload_n hx hb dX11_back_16 rfl (lv_at hl 1 rfl) ?_
    refine va_zald hx hb hK.1 hP 2 2 rfl rfl (vp_in_nI (by have t_b4 := b4; have t_hkk := hkk; have t_n0 : (nI N).toInt = (N : Int) := nI_toInt (by omega); have t_n1 : (nI B).toInt = (B : Int) := nI_toInt (by omega); have t_n2 : (nI T).toInt = (T : Int) := nI_toInt (by omega); have t_n3 : (nI S).toInt = (S : Int) := nI_toInt (by omega); have t_n4 : (nI M).toInt = (M : Int) := nI_toInt (by omega); have t_n5 : (nI kk).toInt = (kk : Int) := nI_toInt (by omega); omega) (by decide)) dX11_back_17 ?_
    refine lv_cg (y := fik kk) (by rw [nI_clamp (by omega)]) ?_
    refine lv_if_ne (tgt := 24) hx hb dX11_back_18 (by decide) (fun c5 => ?_) (fun c5 => ?_)
    · skip
      refine lv_aload_n hx hb dX11_back_24 rfl (lv_at hl 0 rfl) ?_
      refine lv_bipush (v := 49) hx hb dX11_back_25 (by decide) ?_
      refine lv_iload_n hx hb dX11_back_27 rfl (lv_at hl 1 rfl) ?_
      refine lv_iconst (v := 1) hx hb dX11_back_28 (by decide) ?_
      refine lv_iadd hx hb dX11_back_29 ?_
      refine lv_cg (y := nI (kk + 1)) (by rw [show (1 : Int32) = nI 1 from rfl]; exact nI_add _ _) ?_
      refine lv_imul hx hb dX11_back_30 ?_
      refine lv_cg (y := nI (49 * (kk + 1))) (by rw [show (49 : Int32) = nI 49 from rfl]; exact pk_mul _ _) ?_
      refine lv_iconst (v := 0) hx hb dX11_back_31 (by decide) ?_
      have hPc := hP.sub (ws' := [(h0, .inr (11, [.ref st, .int (nI N), .int (nI B), .ref rp, .int vrs, .int vrb, .int vhs, .int vca, .int vxs, .int vxb, .ref tp, .int (nI T), .int vfa, .int vbr, .int vba, .int vsp, .int vhe, .int vtk, .int vva, .ref cu, .ref lt, .ref od, .ref th, .ref be, .ref ln, .int (nI S), .ref ma, .int (nI M), .ref ah, .ref bh, .ref ik, .ref la, .ref lg, .ref ce, .int vto])), (st, .inl (G 0, 196, .inl fst))]) [0, 1] rfl
      have hDc := hD.sub (ws' := [(h0, .inr (11, [.ref st, .int (nI N), .int (nI B), .ref rp, .int vrs, .int vrb, .int vhs, .int vca, .int vxs, .int vxb, .ref tp, .int (nI T), .int vfa, .int vbr, .int vba, .int vsp, .int vhe, .int vtk, .int vva, .ref cu, .ref lt, .ref od, .ref th, .ref be, .ref ln, .int (nI S), .ref ma, .int (nI M), .ref ah, .ref bh, .ref ik, .ref la, .ref lg, .ref ce, .int vto])), (st, .inl (G 0, 196, .inl fst))]) [0, 1] (by decide) rfl
      have hFc := va_free (wc := [(h0, .inr (11, [.ref st, .int (nI N), .int (nI B), .ref rp, .int vrs, .int vrb, .int vhs, .int vca, .int vxs, .int vxb, .ref tp, .int (nI T), .int vfa, .int vbr, .int vba, .int vsp, .int vhe, .int vtk, .int vva, .ref cu, .ref lt, .ref od, .ref th, .ref be, .ref ln, .int (nI S), .ref ma, .int (nI M), .ref ah, .ref bh, .ref ik, .ref la, .ref lg, .ref ce, .int vto])), (st, .inl (G 0, 196, .inl fst))]) hD hS hA [0, 1] rfl
      refine va_callv (va_runV (As := [.int (nI (49 * (kk + 1))), .int 0]) (rest := []) ⟨hx, hb, hml, hown, hg⟩ (c_X11_copies l dC dI G _ h0 (49 * (kk + 1)) 0 st N B rp tp T cu lt od th be ln S ma M ah bh ik la lg ce vrs vrb vhs vca vxs vxb vfa vbr vba vsp vhe vtk vva vto fst (by have t_b4 := b4; have t_hkk := hkk; have t_c5 := neI c5; have : (0 : Int32).toInt = 0 := (by decide); have t_n0 : (nI N).toInt = (N : Int) := nI_toInt (by omega); have t_n1 : (nI B).toInt = (B : Int) := nI_toInt (by omega); have t_n2 : (nI T).toInt = (T : Int) := nI_toInt (by omega); have t_n3 : (nI S).toInt = (S : Int) := nI_toInt (by omega); have t_n4 : (nI M).toInt = (M : Int) := nI_toInt (by omega); have t_n5 : (nI kk).toInt = (kk : Int) := nI_toInt (by omega); omega) (by have t_b4 := b4; have t_hkk := hkk; have t_c5 := neI c5; have : (0 : Int32).toInt = 0 := (by decide); have t_n0 : (nI N).toInt = (N : Int) := nI_toInt (by omega); have t_n1 : (nI B).toInt = (B : Int) := nI_toInt (by omega); have t_n2 : (nI T).toInt = (T : Int) := nI_toInt (by omega); have t_n3 : (nI S).toInt = (S : Int) := nI_toInt (by omega); have t_n4 : (nI M).toInt = (M : Int) := nI_toInt (by omega); have t_n5 : (nI kk).toInt = (kk : Int) := nI_toInt (by omega); omega) (by have t_b4 := b4; have t_hkk := hkk; have t_c5 := neI c5; have : (0 : Int32).toInt = 0 := (by decide); have t_n0 : (nI N).toInt = (N : Int) := nI_toInt (by omega); have t_n1 : (nI B).toInt = (B : Int) := nI_toInt (by omega); have t_n2 : (nI T).toInt = (T : Int) := nI_toInt (by omega); have t_n3 : (nI S).toInt = (S : Int) := nI_toInt (by omega); have t_n4 : (nI M).toInt = (M : Int) := nI_toInt (by omega); have t_n5 : (nI kk).toInt = (kk : Int) := nI_toInt (by omega); omega) (by have t_b4 := b4; have t_hkk := hkk; have t_c5 := neI c5; have : (0 : Int32).toInt = 0 := (by decide); have t_n0 : (nI N).toInt = (N : Int) := nI_toInt (by omega); have t_n1 : (nI B).toInt = (B : Int) := nI_toInt (by omega); have t_n2 : (nI T).toInt = (T : Int) := nI_toInt (by omega); have t_n3 : (nI S).toInt = (S : Int) := nI_toInt (by omega); have t_n4 : (nI M).toInt = (M : Int) := nI_toInt (by omega); have t_n5 : (nI kk).toInt = (kk : Int) := nI_toInt (by omega); omega) (by have t_b4 := b4; have t_hkk := hkk; have t_c5 := neI c5; have : (0 : Int32).toInt = 0 := (by decide); have t_n0 : (nI N).toInt = (N : Int) := nI_toInt (by omega); have t_n1 : (nI B).toInt = (B : Int) := nI_toInt (by omega); have t_n2 : (nI T).toInt = (T : Int) := nI_toInt (by omega); have t_n3 : (nI S).toInt = (S : Int) := nI_toInt (by omega); have t_n4 : (nI M).toInt = (M : Int) := nI_toInt (by omega); have t_n5 : (nI kk).toInt = (kk : Int) := nI_toInt (by omega); omega) hst (by have t_b4 := b4; have t_hkk := hkk; have t_c5 := neI c5; have : (0 : Int32).toInt = 0 := (by decide); have t_n0 : (nI N).toInt = (N : Int) := nI_toInt (by omega); have t_n1 : (nI B).toInt = (B : Int) := nI_toInt (by omega); have t_n2 : (nI T).toInt = (T : Int) := nI_toInt (by omega); have t_n3 : (nI S).toInt = (S : Int) := nI_toInt (by omega); have t_n4 : (nI M).toInt = (M : Int) := nI_toInt (by omega); have t_n5 : (nI kk).toInt = (kk : Int) := nI_toInt (by omega); omega) (by have t_b4 := b4; have t_hkk := hkk; have t_c5 := neI c5; have : (0 : Int32).toInt = 0 := (by decide); have t_n0 : (nI N).toInt = (N : Int) := nI_toInt (by omega); have t_n1 : (nI B).toInt = (B : Int) := nI_toInt (by omega); have t_n2 : (nI T).toInt = (T : Int) := nI_toInt (by omega); have t_n3 : (nI S).toInt = (S : Int) := nI_toInt (by omega); have t_n4 : (nI M).toInt = (M : Int) := nI_toInt (by omega); have t_n5 : (nI kk).toInt = (kk : Int) := nI_toInt (by omega); omega)) (kwV hg mfX11_copies wt_1248 ⟨Nat.le_of_ble_eq_true rfl, Nat.le_of_ble_eq_true rfl⟩) (preVW hK hPc hDc (ci := 11) rfl rfl) rfl rfl hl.1 rfl (lv_room (Nat.le_of_ble_eq_true rfl)) dX11_back_32 ⟨Nat.le_of_ble_eq_true rfl, Nat.le_of_ble_eq_true rfl⟩) hS (fun q _ h => hFc q h) hFc (fun ur6 t H1 locs ht hvm w7 hB hz1 hk1 hS => ?_)
      obtain ⟨u8, rfl⟩ : ∃ z, z = ur6 := ⟨_, rfl⟩
      obtain ⟨hP1, hD1⟩ := hB
      rw [ht] at hP1
      obtain ⟨hP, hD⟩ := va_join (wr := [(ik, .inl (G 2, 2, .inl fik))]) (w1 := [(h0, .inr (11, [.ref st, .int (nI N), .int (nI B), .ref rp, .int vrs, .int vrb, .int vhs, .int vca, .int vxs, .int vxb, .ref tp, .int (nI T), .int vfa, .int vbr, .int vba, .int vsp, .int vhe, .int vtk, .int vva, .ref cu, .ref lt, .ref od, .ref th, .ref be, .ref ln, .int (nI S), .ref ma, .int (nI M), .ref ah, .ref bh, .ref ik, .ref la, .ref lg, .ref ce, .int vto])), (st, .inl (G 0, 196, .inl u8))]) hP hD [0, 1] [2] rfl rfl (by decide) (by decide) hk1 hFc hP1 hD1
      have w7 : OKS u8 := w7
      generalize H1 = H at hP hS ⊢
      have hP : va_P (dC, dI) vwCl [(ik, .inl (G 2, 2, .inl fik)), (h0, .inr (11, [.ref st, .int (nI N), .int (nI B), .ref rp, .int vrs, .int vrb, .int vhs, .int vca, .int vxs, .int vxb, .ref tp, .int (nI T), .int vfa, .int vbr, .int vba, .int vsp, .int vhe, .int vtk, .int vva, .ref cu, .ref lt, .ref od, .ref th, .ref be, .ref ln, .int (nI S), .ref ma, .int (nI M), .ref ah, .ref bh, .ref ik, .ref la, .ref lg, .ref ce, .int vto])), (st, .inl (G 0, 196, .inl u8))] H := hP
      have hD : va_D A [(ik, .inl (G 2, 2, .inl fik)), (h0, .inr (11, [.ref st, .int (nI N), .int (nI B), .ref rp, .int vrs, .int vrb, .int vhs, .int vca, .int vxs, .int vxb, .ref tp, .int (nI T), .int vfa, .int vbr, .int vba, .int vsp, .int vhe, .int vtk, .int vva, .ref cu, .ref lt, .ref od, .ref th, .ref be, .ref ln, .int (nI S), .ref ma, .int (nI M), .ref ah, .ref bh, .ref ik, .ref la, .ref lg, .ref ce, .int vto])), (st, .inl (G 0, 196, .inl u8))] := hD
      refine lv_aload_n hx hb dX11_back_35 rfl (lv_at hl 0 rfl) ?_
      refine va_get (D := (dC, dI)) (ci := 11) (v := .int (nI N)) (C := RX11) (T := TX11) (N := 35) hx hb hg inG11 hown hK.1 hP 1 rfl rfl 1 (by decide) (hg _ wt_879) (fun _ h9 => h9) rfl dX11_back_36 ?_
      have hpost : (nI N : Int32) = if (0 ≤ (nI kk).toInt ∧ (nI kk).toInt < 2) then (if fik (nI kk).toNatClampNeg = 0 then -2 else nI N) else -1 := by
        have t_b4 := b4
        have t_hkk := hkk
        have t_c5 := neI c5
        have : (0 : Int32).toInt = 0 := (by decide)
        have t_n0 : (nI N).toInt = (N : Int) := nI_toInt (by omega)
        have t_n1 : (nI B).toInt = (B : Int) := nI_toInt (by omega)
        have t_n2 : (nI T).toInt = (T : Int) := nI_toInt (by omega)
        have t_n3 : (nI S).toInt = (S : Int) := nI_toInt (by omega)
        have t_n4 : (nI M).toInt = (M : Int) := nI_toInt (by omega)
        have t_n5 : (nI kk).toInt = (kk : Int) := nI_toInt (by omega)
        have z0 : (0 : Int32).toInt = 0 := (by decide)
        have z1 : (1 : Int32).toInt = 1 := (by decide)
        have z2 : (2 : Int32).toInt = 2 := (by decide)
        have z3 : (3 : Int32).toInt = 3 := (by decide)
        have z5 : (5 : Int32).toInt = 5 := (by decide)
        have z9 : (9 : Int32).toInt = 9 := (by decide)
        have z20 : (20 : Int32).toInt = 20 := (by decide)
        have z4 : (-4 : Int32).toInt = -4 := (by decide)
        have z10 : (10 : Int32).toInt = 10 := (by decide)
        first | (rw [if_neg (by omega)]; done) | (rw [if_pos (by omega), nI_clamp (by omega)]; first | (rw [if_pos (by assumption)]; done) | (rw [if_neg (by assumption)]; done))
      have hP9 := hP.sub (ws' := [(h0, .inr (11, [.ref st, .int (nI N), .int (nI B), .ref rp, .int vrs, .int vrb, .int vhs, .int vca, .int vxs, .int vxb, .ref tp, .int (nI T), .int vfa, .int vbr, .int vba, .int vsp, .int vhe, .int vtk, .int vva, .ref cu, .ref lt, .ref od, .ref th, .ref be, .ref ln, .int (nI S), .ref ma, .int (nI M), .ref ah, .ref bh, .ref ik, .ref la, .ref lg, .ref ce, .int vto])), (st, .inl (G 0, 196, .inl u8)), (ik, .inl (G 2, 2, .inl fik))]) [1, 2, 0] rfl
      have hD9 := hD.sub (ws' := [(h0, .inr (11, [.ref st, .int (nI N), .int (nI B), .ref rp, .int vrs, .int vrb, .int vhs, .int vca, .int vxs, .int vxb, .ref tp, .int (nI T), .int vfa, .int vbr, .int vba, .int vsp, .int vhe, .int vtk, .int vva, .ref cu, .ref lt, .ref od, .ref th, .ref be, .ref ln, .int (nI S), .ref ma, .int (nI M), .ref ah, .ref bh, .ref ik, .ref la, .ref lg, .ref ce, .int vto])), (st, .inl (G 0, 196, .inl u8)), (ik, .inl (G 2, 2, .inl fik))]) [1, 2, 0] (by decide) rfl
      refine W.widen (k := 0) (n := 0) (by omega) (by omega) ?_
      exact W.iret (v := nI N) hx hb hr (fun t ht hW => ⟨⟨nI N, u8, rfl, ⟨hpost, w7⟩, ⟨by rw [ht]; exact hP9, hD9⟩⟩, hS.F ht⟩) hS.2.2 dX11_back_39
    · skip
      refine lv_bipush (v := (-2)) hx hb dX11_back_21 (by decide) ?_
      have hpost : ((-2) : Int32) = if (0 ≤ (nI kk).toInt ∧ (nI kk).toInt < 2) then (if fik (nI kk).toNatClampNeg = 0 then -2 else nI N) else -1 := by
        have t_b4 := b4
        have t_hkk := hkk
        have t_c5 := eqI c5
        have : (0 : Int32).toInt = 0 := (by decide)
        have t_n0 : (nI N).toInt = (N : Int) := nI_toInt (by omega)
        have t_n1 : (nI B).toInt = (B : Int) := nI_toInt (by omega)
        have t_n2 : (nI T).toInt = (T : Int) := nI_toInt (by omega)
        have t_n3 : (nI S).toInt = (S : Int) := nI_toInt (by omega)
        have t_n4 : (nI M).toInt = (M : Int) := nI_toInt (by omega)
        have t_n5 : (nI kk).toInt = (kk : Int) := nI_toInt (by omega)
        have z0 : (0 : Int32).toInt = 0 := (by decide)
        have z1 : (1 : Int32).toInt = 1 := (by decide)
        have z2 : (2 : Int32).toInt = 2 := (by decide)
        have z3 : (3 : Int32).toInt = 3 := (by decide)
        have z5 : (5 : Int32).toInt = 5 := (by decide)
        have z9 : (9 : Int32).toInt = 9 := (by decide)
        have z20 : (20 : Int32).toInt = 20 := (by decide)
        have z4 : (-4 : Int32).toInt = -4 := (by decide)
        have z10 : (10 : Int32).toInt = 10 := (by decide)
        first | (rw [if_neg (by omega)]; done) | (rw [if_pos (by omega), nI_clamp (by omega)]; first | (rw [if_pos (by assumption)]; done) | (rw [if_neg (by assumption)]; done))
      have hP9 := hP.sub (ws' := [(h0, .inr (11, [.ref st, .int (nI N), .int (nI B), .ref rp, .int vrs, .int vrb, .int vhs, .int vca, .int vxs, .int vxb, .ref tp, .int (nI T), .int vfa, .int vbr, .int vba, .int vsp, .int vhe, .int vtk, .int vva, .ref cu, .ref lt, .ref od, .ref th, .ref be, .ref ln, .int (nI S), .ref ma, .int (nI M), .ref ah, .ref bh, .ref ik, .ref la, .ref lg, .ref ce, .int vto])), (st, .inl (G 0, 196, .inl fst)), (ik, .inl (G 2, 2, .inl fik))]) [0, 1, 2] rfl
      have hD9 := hD.sub (ws' := [(h0, .inr (11, [.ref st, .int (nI N), .int (nI B), .ref rp, .int vrs, .int vrb, .int vhs, .int vca, .int vxs, .int vxb, .ref tp, .int (nI T), .int vfa, .int vbr, .int vba, .int vsp, .int vhe, .int vtk, .int vva, .ref cu, .ref lt, .ref od, .ref th, .ref be, .ref ln, .int (nI S), .ref ma, .int (nI M), .ref ah, .ref bh, .ref ik, .ref la, .ref lg, .ref ce, .int vto])), (st, .inl (G 0, 196, .inl fst)), (ik, .inl (G 2, 2, .inl fik))]) [0, 1, 2] (by decide) rfl
      refine W.widen (k := 0) (n := 0) (by omega) (by omega) ?_
      exact W.iret (v := (-2)) hx hb hr (fun t ht hW => ⟨⟨(-2), fst, rfl, ⟨hpost, hst⟩, ⟨by rw [ht]; exact hP9, hD9⟩⟩, hS.F ht⟩) hS.2.2 dX11_back_23
  · skip
    have b9 := if10_n c3
    refine lv_iconst (v := (-1)) hx hb dX11_back_10 (by decide) ?_
    have hpost : ((-1) : Int32) = if (0 ≤ k.toInt ∧ k.toInt < 2) then (if fik k.toNatClampNeg = 0 then -2 else nI N) else -1 := by
      have t_b9 := b9
      have t_n0 : (nI N).toInt = (N : Int) := nI_toInt (by omega)
      have t_n1 : (nI B).toInt = (B : Int) := nI_toInt (by omega)
      have t_n2 : (nI T).toInt = (T : Int) := nI_toInt (by omega)
      have t_n3 : (nI S).toInt = (S : Int) := nI_toInt (by omega)
      have t_n4 : (nI M).toInt = (M : Int) := nI_toInt (by omega)
      have z0 : (0 : Int32).toInt = 0 := (by decide)
      have z1 : (1 : Int32).toInt = 1 := (by decide)
      have z2 : (2 : Int32).toInt = 2 := (by decide)
      have z3 : (3 : Int32).toInt = 3 := (by decide)
      have z5 : (5 : Int32).toInt = 5 := (by decide)
      have z9 : (9 : Int32).toInt = 9 := (by decide)
      have z20 : (20 : Int32).toInt = 20 := (by decide)
      have z4 : (-4 : Int32).toInt = -4 := (by decide)
      have z10 : (10 : Int32).toInt = 10 := (by decide)
      first | (rw [if_neg (by omega)]; done) | (rw [if_pos (by omega), nI_clamp (by omega)]; first | (rw [if_pos (by assumption)]; done) | (rw [if_neg (by assumption)]; done))
    have hP9 := hP.sub (ws' := [(h0, .inr (11, [.ref st, .int (nI N), .int (nI B), .ref rp, .int vrs, .int vrb, .int vhs, .int vca, .int vxs, .int vxb, .ref tp, .int (nI T), .int vfa, .int vbr, .int vba, .int vsp, .int vhe, .int vtk, .int vva, .ref cu, .ref lt, .ref od, .ref th, .ref be, .ref ln, .int (nI S), .ref ma, .int (nI M), .ref ah, .ref bh, .ref ik, .ref la, .ref lg, .ref ce, .int vto])), (st, .inl (G 0, 196, .inl fst)), (ik, .inl (G 2, 2, .inl fik))]) [0, 1, 2] rfl
    have hD9 := hD.sub (ws' := [(h0, .inr (11, [.ref st, .int (nI N), .int (nI B), .ref rp, .int vrs, .int vrb, .int vhs, .int vca, .int vxs, .int vxb, .ref tp, .int (nI T), .int vfa, .int vbr, .int vba, .int vsp, .int vhe, .int vtk, .int vva, .ref cu, .ref lt, .ref od, .ref th, .ref be, .ref ln, .int (nI S), .ref ma, .int (nI M), .ref ah, .ref bh, .ref ik, .ref la, .ref lg, .ref ce, .int vto])), (st, .inl (G 0, 196, .inl fst)), (ik, .inl (G 2, 2, .inl fik))]) [0, 1, 2] (by decide) rfl
    refine W.widen (k := 0) (n := 0) (by omega) (by omega) ?_
    exact W.iret (v := (-1)) hx hb hr (fun t ht hW => ⟨⟨(-1), fst, rfl, ⟨hpost, hst⟩, ⟨by rw [ht]; exact hP9, hD9⟩⟩, hS.F ht⟩) hS.2.2 dX11_back_11

def lmap (E : Nat → Int32) : Nat → Int32 := fun q => if E q = -1 then -4 else E q
theorem lmap_upd {E : Nat → Int32} {k : Nat} {lane : Int32} (h : ¬ lane = -1) : upd (lmap E) k lane = lmap (upd E k lane) := by
  funext q
  show (if q = k then lane else lmap E q) = (if (if q = k then lane else E q) = -1 then -4 else (if q = k then lane else E q))
  by_cases c : q = k
  · rw [if_pos c, if_pos c, if_neg h]
  · rw [if_neg c, if_neg c]; rfl
theorem lmap_step {E : Nat → Int32} {k lane n : Int32} : (if ((0 ≤ k.toInt ∧ k.toInt < 4) ∧ (0 ≤ lane.toInt ∧ lane.toInt ≤ 2) ∧ n.toInt ≤ 40 ∧ 0 ≤ n.toInt) then upd (lmap E) k.toNatClampNeg lane else lmap E) = lmap (if ((0 ≤ k.toInt ∧ k.toInt < 4) ∧ (0 ≤ lane.toInt ∧ lane.toInt ≤ 2) ∧ n.toInt ≤ 40 ∧ 0 ≤ n.toInt) then upd E k.toNatClampNeg lane else E) := by
  split
  · rename_i h
    exact lmap_upd (fun e => by rw [e] at h; exact absurd h.2.1.1 (by decide))
  · rfl
theorem E_inv {E : Nat → Int32} {k lane n : Int32} (h : ∀ q : Nat, q < 4 → E q = -1 ∨ (0 ≤ (E q).toInt ∧ (E q).toInt ≤ 2)) : ∀ q : Nat, q < 4 → (if ((0 ≤ k.toInt ∧ k.toInt < 4) ∧ (0 ≤ lane.toInt ∧ lane.toInt ≤ 2) ∧ n.toInt ≤ 40 ∧ 0 ≤ n.toInt) then upd E k.toNatClampNeg lane else E) q = -1 ∨ (0 ≤ ((if ((0 ≤ k.toInt ∧ k.toInt < 4) ∧ (0 ≤ lane.toInt ∧ lane.toInt ≤ 2) ∧ n.toInt ≤ 40 ∧ 0 ≤ n.toInt) then upd E k.toNatClampNeg lane else E) q).toInt ∧ ((if ((0 ≤ k.toInt ∧ k.toInt < 4) ∧ (0 ≤ lane.toInt ∧ lane.toInt ≤ 2) ∧ n.toInt ≤ 40 ∧ 0 ≤ n.toInt) then upd E k.toNatClampNeg lane else E) q).toInt ≤ 2) := by
  intro q hq
  split
  · rename_i c
    show (if q = k.toNatClampNeg then lane else E q) = -1 ∨ (0 ≤ (if q = k.toNatClampNeg then lane else E q).toInt ∧ (if q = k.toNatClampNeg then lane else E q).toInt ≤ 2)
    split
    · exact Or.inr c.2.1
    · exact h q hq
  · exact h q hq
theorem lay_eq {E Z : Nat → Int32} {k i : Int32} (h : ∀ q : Nat, q < 4 → E q = -1 ∨ (0 ≤ (E q).toInt ∧ (E q).toInt ≤ 2)) : (if 0 ≤ k.toInt ∧ k.toInt < 4 then (if lmap E k.toNatClampNeg = -4 then -11 else if 0 ≤ i.toInt ∧ i.toInt < (Z k.toNatClampNeg).toInt then 1 else -12) else -1) = (if 0 ≤ k.toInt ∧ k.toInt < 4 then (if E k.toNatClampNeg = -1 then -11 else if 0 ≤ i.toInt ∧ i.toInt < (Z k.toNatClampNeg).toInt then 1 else -12) else (-1 : Int32)) := by
  split
  · rename_i c
    obtain ⟨j, hj, rfl⟩ := i32_nat (x := k) (n := 4) c.1 (by omega)
    rw [nI_clamp (by omega)]
    have e : (lmap E j = -4) = (E j = -1) := by
      apply propext
      constructor
      · intro q
        rcases h j hj with a | a
        · exact a
        · exfalso
          have q' : (if E j = -1 then (-4 : Int32) else E j) = -4 := q
          split at q'
          · rename_i b; rw [b] at a; exact absurd a.1 (by decide)
          · rw [q'] at a; exact absurd a.1 (by decide)
      · intro q
        show (if E j = -1 then (-4 : Int32) else E j) = -4
        rw [if_pos q]
    by_cases d : E j = -1
    · rw [if_pos d, if_pos (e ▸ d)]
    · rw [if_neg d, if_neg (fun z => d (e ▸ z))]
  · rfl
theorem Met.pick {l : Launch} {y : MethodName} {ws : List Cond} {rm : Room} {P' : Array Value → State → Prop} {Q' : Array Value → State → Outcome → State → Prop} {mc ms : Nat} {F' : Addr → Prop} (h : ∀ (a : Array Value) (st : State), P' a st → ∃ (P : Array Value → State → Prop) (Q : Array Value → State → Outcome → State → Prop) (F : Addr → Prop), Met l y ws rm P Q mc ms F ∧ P a st ∧ (∀ q : Nat, F q → F' q) ∧ ∀ (o : Outcome) (t : State), Q a st o t → Q' a st o t) : Met l y ws rm P' Q' mc ms F' := by
  unfold Met MetFree
  intro p e h1 h2 h3 s m args below h4 h5 h6 h7
  obtain ⟨P, Q, F, hM, hP, hF, hQ⟩ := h args s h6
  unfold Met MetFree at hM
  obtain ⟨n, o, a1, a2, a3, a4, L, a5, a6⟩ := hM p e h1 h2 h3 s m args below h4 h5 hP trivial
  exact ⟨n, o, a1, a2, a3, hQ _ _ a4, L, a5, fun q hq => hF _ (a6 q hq)⟩
theorem vpc {D : va_G} {cl : List vw_C} {q : Nat × va_E} {ws : va_W} {H : Heap} (h : va_at D cl q H) (hw : va_P D cl ws H) : va_P D cl (q :: ws) H := by
  intro k x hk
  cases k with
  | zero =>
    have e : q = x := Option.some.inj hk
    subst e
    exact h
  | succ k => exact hw k x hk
theorem vp_mid {D : va_G} {cl : List vw_C} {X B Y : va_W} {H : Heap} (h : va_P D cl (X ++ (B ++ Y)) H) : va_P D cl B H := fun k q hk => h (X.length + k) q (by
  rw [List.getElem?_append_right (by omega), Nat.add_sub_cancel_left, List.getElem?_append_left (List.getElem?_eq_some_iff.mp hk).1]
  exact hk)
theorem vp_mid2 {D : va_G} {cl : List vw_C} {X A B Y : va_W} {H : Heap} (h : va_P D cl (X ++ (A ++ (B ++ Y))) H) : va_P D cl B H := vp_mid (X := X ++ A) (B := B) (Y := Y) (by rw [List.append_assoc]; exact h)
theorem blk_kept {D : va_G} {cl : List vw_C} {N : Nat} {f : Nat → Nat × va_E} {H H1 : Heap} (hb : va_P D cl ((List.range N).map f) H) (hk : ∀ i : Nat, i < N → (f i).1 < H.size → H1[(f i).1]? = H[(f i).1]?) : va_P D cl ((List.range N).map f) H1 :=
  hb.kept (fun k q hq => by
    have hlt := (hb k q hq).lt
    have hkN : k < N := by
      have h9 := (List.getElem?_eq_some_iff.mp hq).1
      simpa using h9
    have e : f k = q := by
      rw [List.getElem?_map, List.getElem?_range hkN] at hq
      exact Option.some.inj hq
    subst e
    exact hk k hkN hlt)
def adInj (n : Nat) (ax : Nat → Nat) : Prop := ∀ i j : Nat, i < n → j < n → ax i = ax j → i = j
def adX (lo hi : Nat) (ax : Nat → Nat) (sz : Nat) : Nat → Prop := fun q => (∃ i : Nat, lo ≤ i ∧ i < hi ∧ q = ax i) ∨ sz ≤ q
theorem ix_at {ax : Nat → Nat} {ws : va_W} (is : List Nat) (h : ws.map Prod.fst = is.map ax) {k : Nat} {q : Nat × va_E} (hq : ws[k]? = some q) : ∃ x : Nat, is[k]? = some x ∧ ax x = q.1 := by
  have a1 : (ws.map Prod.fst)[k]? = some q.1 := by rw [List.getElem?_map, hq]; rfl
  rw [h, List.getElem?_map] at a1
  cases e : is[k]? with
  | none => rw [e] at a1; cases a1
  | some x => rw [e] at a1; exact ⟨x, rfl, Option.some.inj a1⟩
theorem vD_ix {n : Nat} {ax : Nat → Nat} (hi : adInj n ax) {ws : va_W} (is : List Nat) (h : ws.map Prod.fst = is.map ax) (hl : is.all (fun x => decide (x < n)) = true) (hn : va_nd is = true) : va_D (fun _ => True) ws := by
  refine ⟨fun i j p q hp hq e => ?_, fun _ _ _ => trivial⟩
  obtain ⟨x, e1, f1⟩ := ix_at is h hp
  obtain ⟨y, e2, f2⟩ := ix_at is h hq
  have lx : x < n := of_decide_eq_true (List.all_eq_true.mp hl x (List.mem_of_getElem? e1))
  have ly : y < n := of_decide_eq_true (List.all_eq_true.mp hl y (List.mem_of_getElem? e2))
  have exy : x = y := hi x y lx ly (by rw [f1, f2, e])
  subst exy
  exact va_nd_inj is hn i j x e1 e2
theorem fr_ix {n lo hi : Nat} {ax : Nat → Nat} (hi' : adInj n ax) (hhi : hi ≤ n) {ws : va_W} {H H1 : Heap} (hk : ∀ q : Nat, q < H.size → ¬ va_A ws H.size q → H1[q]? = H[q]?) (is : List Nat) (h : ws.map Prod.fst = is.map ax) (hl : is.all (fun x => decide (x < n)) = true) (hb : is.all (fun x => decide (x < lo) || decide (hi ≤ x)) = true) : ∀ j : Nat, lo ≤ j → j < hi → ax j < H.size → H1[ax j]? = H[ax j]? := by
  intro j h1 h2 h3
  refine hk _ h3 (fun hA => ?_)
  rcases hA with ⟨k, e, hke⟩ | h4
  · obtain ⟨x, e1, f1⟩ := ix_at is h hke
    have hm := List.mem_of_getElem? e1
    have lx : x < n := of_decide_eq_true (List.all_eq_true.mp hl x hm)
    have exj : x = j := hi' x j lx (by omega) f1
    subst exj
    have b := List.all_eq_true.mp hb x hm
    rcases Bool.or_eq_true _ _ |>.mp b with b | b
    · have := of_decide_eq_true b; omega
    · have := of_decide_eq_true b; omega
  · omega
theorem ad_ix {lo hi : Nat} {ax : Nat → Nat} {ws : va_W} {sz : Nat} (is : List Nat) (h : ws.map Prod.fst = is.map ax) (hl : is.all (fun x => decide (lo ≤ x) && decide (x < hi)) = true) : ∀ q : Nat, va_A ws sz q → adX lo hi ax sz q := by
  intro q hA
  rcases hA with ⟨k, e, hke⟩ | h4
  · obtain ⟨x, e1, f1⟩ := ix_at is h hke
    have b := (Bool.and_eq_true _ _).mp (List.all_eq_true.mp hl x (List.mem_of_getElem? e1))
    exact Or.inl ⟨x, of_decide_eq_true b.1, of_decide_eq_true b.2, f1.symm⟩
  · exact Or.inr h4
theorem va_F.wide {A B : Nat → Prop} {st t : State} (hF : va_F A st t) (h : ∀ q : Nat, A q → B q) : va_F B st t := ⟨hF.1, fun q h1 h2 => hF.2 q h1 (fun h3 => h2 (h q h3))⟩
theorem fr_ad {n lo hi lo' hi' : Nat} {ax : Nat → Nat} (hi0 : adInj n ax) (hn : hi ≤ n) (hn' : hi' ≤ n) (hd : hi ≤ lo' ∨ hi' ≤ lo) {H H1 : Heap} (hk : ∀ q : Nat, q < H.size → ¬ adX lo hi ax H.size q → H1[q]? = H[q]?) : ∀ j : Nat, lo' ≤ j → j < hi' → ax j < H.size → H1[ax j]? = H[ax j]? := by
  intro j h1 h2 h3
  refine hk _ h3 (fun hA => ?_)
  rcases hA with ⟨i, a, b, c⟩ | h4
  · have := hi0 j i (by omega) (by omega) c
    omega
  · omega
def PcI (av : List Value) (dC : Nat → ClassId) (dI : Nat → Nat → Nat) (G : Nat → ClassId) (I : Heap → Prop) (sz : Nat) : Array Value → State → Prop := va_Pc av (fun U => U.heap.size = sz ∧ I U.heap ∧ KK dC dI G U)
def PcIS (av : List Value) (dC : Nat → ClassId) (dI : Nat → Nat → Nat) (G : Nat → ClassId) (I : Heap → Prop) (adK adV : Nat → Nat) (A : Nat → Prop) (sz : Nat) : Array Value → State → Prop := va_Pc av (fun U => U.heap.size = sz ∧ I U.heap ∧ KK dC dI G U ∧ SS adK adV A U U.heap)
theorem PcI.blind {av : List Value} {dC : Nat → ClassId} {dI : Nat → Nat → Nat} {G : Nat → ClassId} {I : Heap → Prop} {sz : Nat} : FrameBlind (PcI av dC dI G I sz) := fun a U g mk q => by
  obtain ⟨q0, q1, q2, q3⟩ := q
  exact ⟨q0, q1, q2, KK.calling (U := U) (V := U.calling g mk a) rfl q3⟩
theorem PcIS.blind {av : List Value} {dC : Nat → ClassId} {dI : Nat → Nat → Nat} {G : Nat → ClassId} {I : Heap → Prop} {adK adV : Nat → Nat} {A : Nat → Prop} {sz : Nat} : FrameBlind (PcIS av dC dI G I adK adV A sz) := fun a U g mk q => by
  obtain ⟨q0, q1, q2, q3, q4⟩ := q
  exact ⟨q0, q1, q2, KK.calling (U := U) (V := U.calling g mk a) rfl q3, SS.calling (U := U) (V := U.calling g mk a) rfl q4⟩
theorem preVI {s : State} {H : Heap} {As : List Value} {b : Nat} {dC : Nat → ClassId} {dI : Nat → Nat → Nat} {G : Nat → ClassId} {I : Heap → Prop} {C : String} (hK : KK dC dI G s) (hI : I H) (hr : ∃ cellB : Cell, H[b]? = some cellB ∧ cellB.vm.isStatics = false ∧ s.vm.findClass C = some cellB.cls) : PreV s H C b (PcI (.ref b :: As) dC dI G I H.size) As :=
  ⟨PcI.blind, hr, fun U hU hW => ⟨rfl, by rw [hU], by rw [hU]; exact hI, hK.warm hW⟩⟩
theorem preVIS {s : State} {H : Heap} {As : List Value} {b : Nat} {dC : Nat → ClassId} {dI : Nat → Nat → Nat} {G : Nat → ClassId} {I : Heap → Prop} {C : String} {adK adV : Nat → Nat} {A B : Nat → Prop} {locs : List Loc} (hK : KK dC dI G s) (hI : I H) (hr : ∃ cellB : Cell, H[b]? = some cellB ∧ cellB.vm.isStatics = false ∧ s.vm.findClass C = some cellB.cls) (hSS : SS adK adV A s s.heap) (hS : va_S A s.heap H locs) (hB : ∀ q : Nat, B q → A q) : PreV s H C b (PcIS (.ref b :: As) dC dI G I adK adV B H.size) As :=
  ⟨PcIS.blind, hr, fun U hU hW => ⟨rfl, by rw [hU], by rw [hU]; exact hI, hK.warm hW, hSS.go hS hB hU hW⟩⟩
theorem SS.narrow {adK adV : Nat → Nat} {A B : Nat → Prop} {U : State} {H : Heap} (h : SS adK adV A U H) (hB : ∀ q : Nat, B q → A q) : SS adK adV B U H := ⟨h.1.narrow hB, h.2.1, h.2.2.1.narrow hB, h.2.2.2.narrow hB⟩
def X10Pr (dC : Nat → ClassId) (dI : Nat → Nat → Nat) (G : Nat → ClassId) (ax : Nat → Nat) (fa : Int32) (H : Heap) : Prop := ∃ (zi0_13 : Int32), (va_at (dC, dI) vwCl (ax 0, .inr (10, [.ref (ax 1), .ref (ax 11), .ref (ax 18), .ref (ax 25), .ref (ax 40), .ref (ax 41), .ref (ax 44), .ref (ax 68), .ref (ax 69), .ref (ax 74), .ref (ax 77), .ref (ax 102), .int fa, .int zi0_13])) H)
theorem X10Pr.kept {dC : Nat → ClassId} {dI : Nat → Nat → Nat} {G : Nat → ClassId} {ax : Nat → Nat} {fa : Int32} {H H1 : Heap} (hk : ∀ j : Nat, 0 ≤ j → j < 1 → ax j < H.size → H1[ax j]? = H[ax j]?) (h : X10Pr dC dI G ax fa H) : X10Pr dC dI G ax fa H1 := by
  unfold X10Pr at h ⊢
  obtain ⟨zi0_13, q0⟩ := h
  exact ⟨zi0_13, q0.kept (hk 0 (by decide) (by decide) q0.lt)⟩
def X10P0 (dC : Nat → ClassId) (dI : Nat → Nat → Nat) (G : Nat → ClassId) (ax : Nat → Nat) (H : Heap) : Prop := ∃ (zi1_2 : Int32) (zi1_3 : Int32) (zi1_4 : Int32) (zi1_5 : Int32) (zi1_6 : Int32) (zi1_7 : Int32) (zi1_8 : Int32) (zi1_9 : Int32) (zi1_10 : Int32) (zi1_11 : Int32), (va_at (dC, dI) vwCl (ax 1, .inr (5, [.ref (ax 2), .ref (ax 4), .int zi1_2, .int zi1_3, .int zi1_4, .int zi1_5, .int zi1_6, .int zi1_7, .int zi1_8, .int zi1_9, .int zi1_10, .int zi1_11])) H)
theorem X10P0.kept {dC : Nat → ClassId} {dI : Nat → Nat → Nat} {G : Nat → ClassId} {ax : Nat → Nat} {H H1 : Heap} (hk : ∀ j : Nat, 1 ≤ j → j < 2 → ax j < H.size → H1[ax j]? = H[ax j]?) (h : X10P0 dC dI G ax H) : X10P0 dC dI G ax H1 := by
  unfold X10P0 at h ⊢
  obtain ⟨zi1_2, zi1_3, zi1_4, zi1_5, zi1_6, zi1_7, zi1_8, zi1_9, zi1_10, zi1_11, q1⟩ := h
  exact ⟨zi1_2, zi1_3, zi1_4, zi1_5, zi1_6, zi1_7, zi1_8, zi1_9, zi1_10, zi1_11, q1.kept (hk 1 (by decide) (by decide) q1.lt)⟩
def X10P0_0 (dC : Nat → ClassId) (dI : Nat → Nat → Nat) (G : Nat → ClassId) (ax : Nat → Nat) (T : Nat) (Y : Nat → Int32) (H : Heap) : Prop := (T ≤ 320) ∧ (va_at (dC, dI) vwCl (ax 2, .inr (7, [.int (nI T), .ref (ax 3)])) H) ∧ (va_at (dC, dI) vwCl (ax 3, .inl (G 0, 320, .inl Y)) H)
theorem X10P0_0.kept {dC : Nat → ClassId} {dI : Nat → Nat → Nat} {G : Nat → ClassId} {ax : Nat → Nat} {T : Nat} {Y : Nat → Int32} {H H1 : Heap} (hk : ∀ j : Nat, 2 ≤ j → j < 4 → ax j < H.size → H1[ax j]? = H[ax j]?) (h : X10P0_0 dC dI G ax T Y H) : X10P0_0 dC dI G ax T Y H1 := by
  unfold X10P0_0 at h ⊢
  obtain ⟨j0, q2, q3⟩ := h
  exact ⟨j0, q2.kept (hk 2 (by decide) (by decide) q2.lt), q3.kept (hk 3 (by decide) (by decide) q3.lt)⟩
def X10P0_1 (dC : Nat → ClassId) (dI : Nat → Nat → Nat) (G : Nat → ClassId) (ax : Nat → Nat) (H : Heap) : Prop := ∃ (zn4_0 : Nat) (zn4_1 : Nat) (zn4_2 : Nat) (zf5 : Nat → Int32) (zf6 : Nat → Int32) (zf7 : Nat → Int32) (zf8 : Nat → Int32) (zf9 : Nat → Int32) (zf10 : Nat → Int32), (zn4_0 ≤ 10) ∧ (zn4_1 ≤ 6) ∧ (1 ≤ zn4_2 ∧ zn4_2 ≤ 9) ∧ (va_at (dC, dI) vwCl (ax 4, .inr (9, [.int (nI zn4_0), .int (nI zn4_1), .int (nI zn4_2), .ref (ax 5), .ref (ax 6), .ref (ax 7), .ref (ax 8), .ref (ax 9), .ref (ax 10)])) H) ∧ (va_at (dC, dI) vwCl (ax 5, .inl (G 0, 10, .inl zf5)) H) ∧ (va_at (dC, dI) vwCl (ax 6, .inl (G 0, 10, .inl zf6)) H) ∧ (va_at (dC, dI) vwCl (ax 7, .inl (G 0, 10, .inl zf7)) H) ∧ (va_at (dC, dI) vwCl (ax 8, .inl (G 0, 6, .inl zf8)) H) ∧ (va_at (dC, dI) vwCl (ax 9, .inl (G 0, 6, .inl zf9)) H) ∧ (va_at (dC, dI) vwCl (ax 10, .inl (G 0, 6, .inl zf10)) H)
theorem X10P0_1.kept {dC : Nat → ClassId} {dI : Nat → Nat → Nat} {G : Nat → ClassId} {ax : Nat → Nat} {H H1 : Heap} (hk : ∀ j : Nat, 4 ≤ j → j < 11 → ax j < H.size → H1[ax j]? = H[ax j]?) (h : X10P0_1 dC dI G ax H) : X10P0_1 dC dI G ax H1 := by
  unfold X10P0_1 at h ⊢
  obtain ⟨zn4_0, zn4_1, zn4_2, zf5, zf6, zf7, zf8, zf9, zf10, j0, j1, j2, q4, q5, q6, q7, q8, q9, q10⟩ := h
  exact ⟨zn4_0, zn4_1, zn4_2, zf5, zf6, zf7, zf8, zf9, zf10, j0, j1, j2, q4.kept (hk 4 (by decide) (by decide) q4.lt), q5.kept (hk 5 (by decide) (by decide) q5.lt), q6.kept (hk 6 (by decide) (by decide) q6.lt), q7.kept (hk 7 (by decide) (by decide) q7.lt), q8.kept (hk 8 (by decide) (by decide) q8.lt), q9.kept (hk 9 (by decide) (by decide) q9.lt), q10.kept (hk 10 (by decide) (by decide) q10.lt)⟩
def X10P1 (dC : Nat → ClassId) (dI : Nat → Nat → Nat) (G : Nat → ClassId) (ax : Nat → Nat) (N : Nat) (B : Nat) (H : Heap) : Prop := ∃ (zn11_2 : Nat) (zf12 : Nat → Int32) (zf13 : Nat → Int32) (zf14 : Nat → Int32) (zf15 : Nat → Int32) (zf16 : Nat → Int32) (zf17 : Nat → Int32), (N ≤ 10) ∧ (B ≤ 6) ∧ (1 ≤ zn11_2 ∧ zn11_2 ≤ 9) ∧ (va_at (dC, dI) vwCl (ax 11, .inr (9, [.int (nI N), .int (nI B), .int (nI zn11_2), .ref (ax 12), .ref (ax 13), .ref (ax 14), .ref (ax 15), .ref (ax 16), .ref (ax 17)])) H) ∧ (va_at (dC, dI) vwCl (ax 12, .inl (G 0, 10, .inl zf12)) H) ∧ (va_at (dC, dI) vwCl (ax 13, .inl (G 0, 10, .inl zf13)) H) ∧ (va_at (dC, dI) vwCl (ax 14, .inl (G 0, 10, .inl zf14)) H) ∧ (va_at (dC, dI) vwCl (ax 15, .inl (G 0, 6, .inl zf15)) H) ∧ (va_at (dC, dI) vwCl (ax 16, .inl (G 0, 6, .inl zf16)) H) ∧ (va_at (dC, dI) vwCl (ax 17, .inl (G 0, 6, .inl zf17)) H)
theorem X10P1.kept {dC : Nat → ClassId} {dI : Nat → Nat → Nat} {G : Nat → ClassId} {ax : Nat → Nat} {N : Nat} {B : Nat} {H H1 : Heap} (hk : ∀ j : Nat, 11 ≤ j → j < 18 → ax j < H.size → H1[ax j]? = H[ax j]?) (h : X10P1 dC dI G ax N B H) : X10P1 dC dI G ax N B H1 := by
  unfold X10P1 at h ⊢
  obtain ⟨zn11_2, zf12, zf13, zf14, zf15, zf16, zf17, j0, j1, j2, q11, q12, q13, q14, q15, q16, q17⟩ := h
  exact ⟨zn11_2, zf12, zf13, zf14, zf15, zf16, zf17, j0, j1, j2, q11.kept (hk 11 (by decide) (by decide) q11.lt), q12.kept (hk 12 (by decide) (by decide) q12.lt), q13.kept (hk 13 (by decide) (by decide) q13.lt), q14.kept (hk 14 (by decide) (by decide) q14.lt), q15.kept (hk 15 (by decide) (by decide) q15.lt), q16.kept (hk 16 (by decide) (by decide) q16.lt), q17.kept (hk 17 (by decide) (by decide) q17.lt)⟩
def X10P2 (dC : Nat → ClassId) (dI : Nat → Nat → Nat) (G : Nat → ClassId) (ax : Nat → Nat) (H : Heap) : Prop := ∃ (zn18_0 : Nat) (zn18_1 : Nat) (zn18_2 : Nat) (zf19 : Nat → Int32) (zf20 : Nat → Int32) (zf21 : Nat → Int32) (zf22 : Nat → Int32) (zf23 : Nat → Int32) (zf24 : Nat → Int32), (zn18_0 ≤ 10) ∧ (zn18_1 ≤ 6) ∧ (1 ≤ zn18_2 ∧ zn18_2 ≤ 9) ∧ (va_at (dC, dI) vwCl (ax 18, .inr (9, [.int (nI zn18_0), .int (nI zn18_1), .int (nI zn18_2), .ref (ax 19), .ref (ax 20), .ref (ax 21), .ref (ax 22), .ref (ax 23), .ref (ax 24)])) H) ∧ (va_at (dC, dI) vwCl (ax 19, .inl (G 0, 10, .inl zf19)) H) ∧ (va_at (dC, dI) vwCl (ax 20, .inl (G 0, 10, .inl zf20)) H) ∧ (va_at (dC, dI) vwCl (ax 21, .inl (G 0, 10, .inl zf21)) H) ∧ (va_at (dC, dI) vwCl (ax 22, .inl (G 0, 6, .inl zf22)) H) ∧ (va_at (dC, dI) vwCl (ax 23, .inl (G 0, 6, .inl zf23)) H) ∧ (va_at (dC, dI) vwCl (ax 24, .inl (G 0, 6, .inl zf24)) H)
theorem X10P2.kept {dC : Nat → ClassId} {dI : Nat → Nat → Nat} {G : Nat → ClassId} {ax : Nat → Nat} {H H1 : Heap} (hk : ∀ j : Nat, 18 ≤ j → j < 25 → ax j < H.size → H1[ax j]? = H[ax j]?) (h : X10P2 dC dI G ax H) : X10P2 dC dI G ax H1 := by
  unfold X10P2 at h ⊢
  obtain ⟨zn18_0, zn18_1, zn18_2, zf19, zf20, zf21, zf22, zf23, zf24, j0, j1, j2, q18, q19, q20, q21, q22, q23, q24⟩ := h
  exact ⟨zn18_0, zn18_1, zn18_2, zf19, zf20, zf21, zf22, zf23, zf24, j0, j1, j2, q18.kept (hk 18 (by decide) (by decide) q18.lt), q19.kept (hk 19 (by decide) (by decide) q19.lt), q20.kept (hk 20 (by decide) (by decide) q20.lt), q21.kept (hk 21 (by decide) (by decide) q21.lt), q22.kept (hk 22 (by decide) (by decide) q22.lt), q23.kept (hk 23 (by decide) (by decide) q23.lt), q24.kept (hk 24 (by decide) (by decide) q24.lt)⟩
def X10P3 (dC : Nat → ClassId) (dI : Nat → Nat → Nat) (G : Nat → ClassId) (ax : Nat → Nat) (H : Heap) : Prop := (va_at (dC, dI) vwCl (ax 25, .inl (G 3, 2, .inr (.inr (.inr (.inr (va_up (va_up (fun _ => none) 0 (some (ax 26))) 1 (some (ax 33)))))))) H)
theorem X10P3.kept {dC : Nat → ClassId} {dI : Nat → Nat → Nat} {G : Nat → ClassId} {ax : Nat → Nat} {H H1 : Heap} (hk : ∀ j : Nat, 25 ≤ j → j < 26 → ax j < H.size → H1[ax j]? = H[ax j]?) (h : X10P3 dC dI G ax H) : X10P3 dC dI G ax H1 := by
  unfold X10P3 at h ⊢
  have q25 := h
  exact q25.kept (hk 25 (by decide) (by decide) q25.lt)
def X10P3_0 (dC : Nat → ClassId) (dI : Nat → Nat → Nat) (G : Nat → ClassId) (ax : Nat → Nat) (N1 : Nat) (B1 : Nat) (H : Heap) : Prop := ∃ (zn26_2 : Nat) (zf27 : Nat → Int32) (zf28 : Nat → Int32) (zf29 : Nat → Int32) (zf30 : Nat → Int32) (zf31 : Nat → Int32) (zf32 : Nat → Int32), (N1 ≤ 10) ∧ (B1 ≤ 6) ∧ (1 ≤ zn26_2 ∧ zn26_2 ≤ 9) ∧ (va_at (dC, dI) vwCl (ax 26, .inr (9, [.int (nI N1), .int (nI B1), .int (nI zn26_2), .ref (ax 27), .ref (ax 28), .ref (ax 29), .ref (ax 30), .ref (ax 31), .ref (ax 32)])) H) ∧ (va_at (dC, dI) vwCl (ax 27, .inl (G 0, 10, .inl zf27)) H) ∧ (va_at (dC, dI) vwCl (ax 28, .inl (G 0, 10, .inl zf28)) H) ∧ (va_at (dC, dI) vwCl (ax 29, .inl (G 0, 10, .inl zf29)) H) ∧ (va_at (dC, dI) vwCl (ax 30, .inl (G 0, 6, .inl zf30)) H) ∧ (va_at (dC, dI) vwCl (ax 31, .inl (G 0, 6, .inl zf31)) H) ∧ (va_at (dC, dI) vwCl (ax 32, .inl (G 0, 6, .inl zf32)) H)
theorem X10P3_0.kept {dC : Nat → ClassId} {dI : Nat → Nat → Nat} {G : Nat → ClassId} {ax : Nat → Nat} {N1 : Nat} {B1 : Nat} {H H1 : Heap} (hk : ∀ j : Nat, 26 ≤ j → j < 33 → ax j < H.size → H1[ax j]? = H[ax j]?) (h : X10P3_0 dC dI G ax N1 B1 H) : X10P3_0 dC dI G ax N1 B1 H1 := by
  unfold X10P3_0 at h ⊢
  obtain ⟨zn26_2, zf27, zf28, zf29, zf30, zf31, zf32, j0, j1, j2, q26, q27, q28, q29, q30, q31, q32⟩ := h
  exact ⟨zn26_2, zf27, zf28, zf29, zf30, zf31, zf32, j0, j1, j2, q26.kept (hk 26 (by decide) (by decide) q26.lt), q27.kept (hk 27 (by decide) (by decide) q27.lt), q28.kept (hk 28 (by decide) (by decide) q28.lt), q29.kept (hk 29 (by decide) (by decide) q29.lt), q30.kept (hk 30 (by decide) (by decide) q30.lt), q31.kept (hk 31 (by decide) (by decide) q31.lt), q32.kept (hk 32 (by decide) (by decide) q32.lt)⟩
def X10P3_1 (dC : Nat → ClassId) (dI : Nat → Nat → Nat) (G : Nat → ClassId) (ax : Nat → Nat) (N2 : Nat) (B2 : Nat) (H : Heap) : Prop := ∃ (zn33_2 : Nat) (zf34 : Nat → Int32) (zf35 : Nat → Int32) (zf36 : Nat → Int32) (zf37 : Nat → Int32) (zf38 : Nat → Int32) (zf39 : Nat → Int32), (N2 ≤ 10) ∧ (B2 ≤ 6) ∧ (1 ≤ zn33_2 ∧ zn33_2 ≤ 9) ∧ (va_at (dC, dI) vwCl (ax 33, .inr (9, [.int (nI N2), .int (nI B2), .int (nI zn33_2), .ref (ax 34), .ref (ax 35), .ref (ax 36), .ref (ax 37), .ref (ax 38), .ref (ax 39)])) H) ∧ (va_at (dC, dI) vwCl (ax 34, .inl (G 0, 10, .inl zf34)) H) ∧ (va_at (dC, dI) vwCl (ax 35, .inl (G 0, 10, .inl zf35)) H) ∧ (va_at (dC, dI) vwCl (ax 36, .inl (G 0, 10, .inl zf36)) H) ∧ (va_at (dC, dI) vwCl (ax 37, .inl (G 0, 6, .inl zf37)) H) ∧ (va_at (dC, dI) vwCl (ax 38, .inl (G 0, 6, .inl zf38)) H) ∧ (va_at (dC, dI) vwCl (ax 39, .inl (G 0, 6, .inl zf39)) H)
theorem X10P3_1.kept {dC : Nat → ClassId} {dI : Nat → Nat → Nat} {G : Nat → ClassId} {ax : Nat → Nat} {N2 : Nat} {B2 : Nat} {H H1 : Heap} (hk : ∀ j : Nat, 33 ≤ j → j < 40 → ax j < H.size → H1[ax j]? = H[ax j]?) (h : X10P3_1 dC dI G ax N2 B2 H) : X10P3_1 dC dI G ax N2 B2 H1 := by
  unfold X10P3_1 at h ⊢
  obtain ⟨zn33_2, zf34, zf35, zf36, zf37, zf38, zf39, j0, j1, j2, q33, q34, q35, q36, q37, q38, q39⟩ := h
  exact ⟨zn33_2, zf34, zf35, zf36, zf37, zf38, zf39, j0, j1, j2, q33.kept (hk 33 (by decide) (by decide) q33.lt), q34.kept (hk 34 (by decide) (by decide) q34.lt), q35.kept (hk 35 (by decide) (by decide) q35.lt), q36.kept (hk 36 (by decide) (by decide) q36.lt), q37.kept (hk 37 (by decide) (by decide) q37.lt), q38.kept (hk 38 (by decide) (by decide) q38.lt), q39.kept (hk 39 (by decide) (by decide) q39.lt)⟩
def X10P4 (dC : Nat → ClassId) (dI : Nat → Nat → Nat) (G : Nat → ClassId) (ax : Nat → Nat) (K : Nat → Int32) (H : Heap) : Prop := (va_at (dC, dI) vwCl (ax 40, .inl (G 2, 2, .inl K)) H)
theorem X10P4.kept {dC : Nat → ClassId} {dI : Nat → Nat → Nat} {G : Nat → ClassId} {ax : Nat → Nat} {K : Nat → Int32} {H H1 : Heap} (hk : ∀ j : Nat, 40 ≤ j → j < 41 → ax j < H.size → H1[ax j]? = H[ax j]?) (h : X10P4 dC dI G ax K H) : X10P4 dC dI G ax K H1 := by
  unfold X10P4 at h ⊢
  have q40 := h
  exact q40.kept (hk 40 (by decide) (by decide) q40.lt)
def X10P5 (dC : Nat → ClassId) (dI : Nat → Nat → Nat) (G : Nat → ClassId) (ax : Nat → Nat) (H : Heap) : Prop := ∃ (zl41_0 : Int64) (zf42 : Nat → Int64) (zf43 : Nat → Int64), (va_at (dC, dI) vwCl (ax 41, .inr (4, [.long zl41_0, .ref (ax 42), .ref (ax 43)])) H) ∧ (va_at (dC, dI) vwCl (ax 42, .inl (G 1, 10, .inr (.inl zf42))) H) ∧ (va_at (dC, dI) vwCl (ax 43, .inl (G 1, 10, .inr (.inl zf43))) H)
theorem X10P5.kept {dC : Nat → ClassId} {dI : Nat → Nat → Nat} {G : Nat → ClassId} {ax : Nat → Nat} {H H1 : Heap} (hk : ∀ j : Nat, 41 ≤ j → j < 44 → ax j < H.size → H1[ax j]? = H[ax j]?) (h : X10P5 dC dI G ax H) : X10P5 dC dI G ax H1 := by
  unfold X10P5 at h ⊢
  obtain ⟨zl41_0, zf42, zf43, q41, q42, q43⟩ := h
  exact ⟨zl41_0, zf42, zf43, q41.kept (hk 41 (by decide) (by decide) q41.lt), q42.kept (hk 42 (by decide) (by decide) q42.lt), q43.kept (hk 43 (by decide) (by decide) q43.lt)⟩
def X10P6 (dC : Nat → ClassId) (dI : Nat → Nat → Nat) (G : Nat → ClassId) (ax : Nat → Nat) (H : Heap) : Prop := ∃ (zl44_0 : Int64) (zF47 : Nat → Nat → Int64) (zF58 : Nat → Nat → Int32), (va_at (dC, dI) vwCl (ax 44, .inr (0, [.long zl44_0, .ref (ax 45), .ref (ax 46)])) H) ∧ (va_at (dC, dI) vwCl (ax 45, .inl (G 5, 11, .inr (.inr (.inr (.inr (fun ir => if ir < 11 then some (ax (47 + ir)) else none)))))) H) ∧ (va_at (dC, dI) vwCl (ax 46, .inl (G 4, 10, .inr (.inr (.inr (.inr (fun ir => if ir < 10 then some (ax (58 + ir)) else none)))))) H) ∧ (va_P (dC, dI) vwCl (((List.range 11).map (fun iq => (ax (47 + iq), .inl (G 1, 70, .inr (.inl (zF47 iq)))))) : va_W) H) ∧ (va_P (dC, dI) vwCl (((List.range 10).map (fun iq => (ax (58 + iq), .inl (G 0, 70, .inl (zF58 iq))))) : va_W) H)
theorem X10P6.kept {dC : Nat → ClassId} {dI : Nat → Nat → Nat} {G : Nat → ClassId} {ax : Nat → Nat} {H H1 : Heap} (hk : ∀ j : Nat, 44 ≤ j → j < 68 → ax j < H.size → H1[ax j]? = H[ax j]?) (h : X10P6 dC dI G ax H) : X10P6 dC dI G ax H1 := by
  unfold X10P6 at h ⊢
  obtain ⟨zl44_0, zF47, zF58, q44, q45, q46, q47, q58⟩ := h
  exact ⟨zl44_0, zF47, zF58, q44.kept (hk 44 (by decide) (by decide) q44.lt), q45.kept (hk 45 (by decide) (by decide) q45.lt), q46.kept (hk 46 (by decide) (by decide) q46.lt), blk_kept q47 (fun i h1 h2 => hk (47 + i) (by omega) (by omega) h2), blk_kept q58 (fun i h1 h2 => hk (58 + i) (by omega) (by omega) h2)⟩
def X10P7 (dC : Nat → ClassId) (dI : Nat → Nat → Nat) (G : Nat → ClassId) (ax : Nat → Nat) (H : Heap) : Prop := ∃ (zi68_0 : Int32) (zi68_1 : Int32) (zi68_2 : Int32), (va_at (dC, dI) vwCl (ax 68, .inr (1, [.int zi68_0, .int zi68_1, .int zi68_2])) H)
theorem X10P7.kept {dC : Nat → ClassId} {dI : Nat → Nat → Nat} {G : Nat → ClassId} {ax : Nat → Nat} {H H1 : Heap} (hk : ∀ j : Nat, 68 ≤ j → j < 69 → ax j < H.size → H1[ax j]? = H[ax j]?) (h : X10P7 dC dI G ax H) : X10P7 dC dI G ax H1 := by
  unfold X10P7 at h ⊢
  obtain ⟨zi68_0, zi68_1, zi68_2, q68⟩ := h
  exact ⟨zi68_0, zi68_1, zi68_2, q68.kept (hk 68 (by decide) (by decide) q68.lt)⟩
def X10P8 (dC : Nat → ClassId) (dI : Nat → Nat → Nat) (G : Nat → ClassId) (ax : Nat → Nat) (S : Nat) (H : Heap) : Prop := ∃ (zf70 : Nat → Int32) (zf71 : Nat → Int32) (zf72 : Nat → Int32) (zf73 : Nat → Int32), (S ≤ 8) ∧ (va_at (dC, dI) vwCl (ax 69, .inr (2, [.int (nI S), .ref (ax 70), .ref (ax 71), .ref (ax 72), .ref (ax 73)])) H) ∧ (va_at (dC, dI) vwCl (ax 70, .inl (G 0, 8, .inl zf70)) H) ∧ (va_at (dC, dI) vwCl (ax 71, .inl (G 0, 8, .inl zf71)) H) ∧ (va_at (dC, dI) vwCl (ax 72, .inl (G 0, 8, .inl zf72)) H) ∧ (va_at (dC, dI) vwCl (ax 73, .inl (G 0, 8, .inl zf73)) H)
theorem X10P8.kept {dC : Nat → ClassId} {dI : Nat → Nat → Nat} {G : Nat → ClassId} {ax : Nat → Nat} {S : Nat} {H H1 : Heap} (hk : ∀ j : Nat, 69 ≤ j → j < 74 → ax j < H.size → H1[ax j]? = H[ax j]?) (h : X10P8 dC dI G ax S H) : X10P8 dC dI G ax S H1 := by
  unfold X10P8 at h ⊢
  obtain ⟨zf70, zf71, zf72, zf73, j0, q69, q70, q71, q72, q73⟩ := h
  exact ⟨zf70, zf71, zf72, zf73, j0, q69.kept (hk 69 (by decide) (by decide) q69.lt), q70.kept (hk 70 (by decide) (by decide) q70.lt), q71.kept (hk 71 (by decide) (by decide) q71.lt), q72.kept (hk 72 (by decide) (by decide) q72.lt), q73.kept (hk 73 (by decide) (by decide) q73.lt)⟩
def X10P9 (dC : Nat → ClassId) (dI : Nat → Nat → Nat) (G : Nat → ClassId) (ax : Nat → Nat) (M : Nat) (H : Heap) : Prop := ∃ (zf75 : Nat → Int32) (zf76 : Nat → Int32), (M ≤ 6) ∧ (va_at (dC, dI) vwCl (ax 74, .inr (3, [.int (nI M), .ref (ax 75), .ref (ax 76)])) H) ∧ (va_at (dC, dI) vwCl (ax 75, .inl (G 0, 6, .inl zf75)) H) ∧ (va_at (dC, dI) vwCl (ax 76, .inl (G 0, 6, .inl zf76)) H)
theorem X10P9.kept {dC : Nat → ClassId} {dI : Nat → Nat → Nat} {G : Nat → ClassId} {ax : Nat → Nat} {M : Nat} {H H1 : Heap} (hk : ∀ j : Nat, 74 ≤ j → j < 77 → ax j < H.size → H1[ax j]? = H[ax j]?) (h : X10P9 dC dI G ax M H) : X10P9 dC dI G ax M H1 := by
  unfold X10P9 at h ⊢
  obtain ⟨zf75, zf76, j0, q74, q75, q76⟩ := h
  exact ⟨zf75, zf76, j0, q74.kept (hk 74 (by decide) (by decide) q74.lt), q75.kept (hk 75 (by decide) (by decide) q75.lt), q76.kept (hk 76 (by decide) (by decide) q76.lt)⟩
def X10P10 (dC : Nat → ClassId) (dI : Nat → Nat → Nat) (G : Nat → ClassId) (ax : Nat → Nat) (H : Heap) : Prop := ∃ (zi77_0 : Int32) (zF80 : Nat → Nat → Int32) (zF91 : Nat → Nat → Int32), (va_at (dC, dI) vwCl (ax 77, .inr (8, [.int zi77_0, .ref (ax 78), .ref (ax 79)])) H) ∧ (va_at (dC, dI) vwCl (ax 78, .inl (G 4, 11, .inr (.inr (.inr (.inr (fun ir => if ir < 11 then some (ax (80 + ir)) else none)))))) H) ∧ (va_at (dC, dI) vwCl (ax 79, .inl (G 4, 11, .inr (.inr (.inr (.inr (fun ir => if ir < 11 then some (ax (91 + ir)) else none)))))) H) ∧ (va_P (dC, dI) vwCl (((List.range 11).map (fun iq => (ax (80 + iq), .inl (G 0, 10, .inl (zF80 iq))))) : va_W) H) ∧ (va_P (dC, dI) vwCl (((List.range 11).map (fun iq => (ax (91 + iq), .inl (G 0, 10, .inl (zF91 iq))))) : va_W) H)
theorem X10P10.kept {dC : Nat → ClassId} {dI : Nat → Nat → Nat} {G : Nat → ClassId} {ax : Nat → Nat} {H H1 : Heap} (hk : ∀ j : Nat, 77 ≤ j → j < 102 → ax j < H.size → H1[ax j]? = H[ax j]?) (h : X10P10 dC dI G ax H) : X10P10 dC dI G ax H1 := by
  unfold X10P10 at h ⊢
  obtain ⟨zi77_0, zF80, zF91, q77, q78, q79, q80, q91⟩ := h
  exact ⟨zi77_0, zF80, zF91, q77.kept (hk 77 (by decide) (by decide) q77.lt), q78.kept (hk 78 (by decide) (by decide) q78.lt), q79.kept (hk 79 (by decide) (by decide) q79.lt), blk_kept q80 (fun i h1 h2 => hk (80 + i) (by omega) (by omega) h2), blk_kept q91 (fun i h1 h2 => hk (91 + i) (by omega) (by omega) h2)⟩
def X10P11 (dC : Nat → ClassId) (dI : Nat → Nat → Nat) (G : Nat → ClassId) (ax : Nat → Nat) (E : Nat → Int32) (Z : Nat → Int32) (H : Heap) : Prop := ∃ (zi102_3 : Int32) (zi102_4 : Int32) (zf106 : Nat → Int32) (zf107 : Nat → Int32) (zF108 : Nat → Nat → Int32), (∀ q : Nat, q < 4 → E q = -1 ∨ (0 ≤ (E q).toInt ∧ (E q).toInt ≤ 2)) ∧ (∀ q : Nat, q < 4 → 0 ≤ (Z q).toInt ∧ (Z q).toInt ≤ 40) ∧ (va_at (dC, dI) vwCl (ax 102, .inr (6, [.ref (ax 103), .ref (ax 104), .ref (ax 105), .int zi102_3, .int zi102_4, .ref (ax 106), .ref (ax 107)])) H) ∧ (va_at (dC, dI) vwCl (ax 103, .inl (G 0, 4, .inl E)) H) ∧ (va_at (dC, dI) vwCl (ax 104, .inl (G 0, 4, .inl Z)) H) ∧ (va_at (dC, dI) vwCl (ax 105, .inl (G 4, 4, .inr (.inr (.inr (.inr (fun ir => if ir < 4 then some (ax (108 + ir)) else none)))))) H) ∧ (va_at (dC, dI) vwCl (ax 106, .inl (G 0, 20, .inl zf106)) H) ∧ (va_at (dC, dI) vwCl (ax 107, .inl (G 0, 20, .inl zf107)) H) ∧ (va_P (dC, dI) vwCl (((List.range 4).map (fun iq => (ax (108 + iq), .inl (G 0, 40, .inl (zF108 iq))))) : va_W) H)
theorem X10P11.kept {dC : Nat → ClassId} {dI : Nat → Nat → Nat} {G : Nat → ClassId} {ax : Nat → Nat} {E : Nat → Int32} {Z : Nat → Int32} {H H1 : Heap} (hk : ∀ j : Nat, 102 ≤ j → j < 112 → ax j < H.size → H1[ax j]? = H[ax j]?) (h : X10P11 dC dI G ax E Z H) : X10P11 dC dI G ax E Z H1 := by
  unfold X10P11 at h ⊢
  obtain ⟨zi102_3, zi102_4, zf106, zf107, zF108, j0, j1, q102, q103, q104, q105, q106, q107, q108⟩ := h
  exact ⟨zi102_3, zi102_4, zf106, zf107, zF108, j0, j1, q102.kept (hk 102 (by decide) (by decide) q102.lt), q103.kept (hk 103 (by decide) (by decide) q103.lt), q104.kept (hk 104 (by decide) (by decide) q104.lt), q105.kept (hk 105 (by decide) (by decide) q105.lt), q106.kept (hk 106 (by decide) (by decide) q106.lt), q107.kept (hk 107 (by decide) (by decide) q107.lt), blk_kept q108 (fun i h1 h2 => hk (108 + i) (by omega) (by omega) h2)⟩
def X10I (dC : Nat → ClassId) (dI : Nat → Nat → Nat) (G : Nat → ClassId) (ax : Nat → Nat) (T : Nat) (Y : Nat → Int32) (fa : Int32) (N : Nat) (B : Nat) (N1 : Nat) (B1 : Nat) (N2 : Nat) (B2 : Nat) (K : Nat → Int32) (S : Nat) (M : Nat) (E : Nat → Int32) (Z : Nat → Int32) (H : Heap) : Prop := X10Pr dC dI G ax fa H ∧ X10P0 dC dI G ax H ∧ X10P0_0 dC dI G ax T Y H ∧ X10P0_1 dC dI G ax H ∧ X10P1 dC dI G ax N B H ∧ X10P2 dC dI G ax H ∧ X10P3 dC dI G ax H ∧ X10P3_0 dC dI G ax N1 B1 H ∧ X10P3_1 dC dI G ax N2 B2 H ∧ X10P4 dC dI G ax K H ∧ X10P5 dC dI G ax H ∧ X10P6 dC dI G ax H ∧ X10P7 dC dI G ax H ∧ X10P8 dC dI G ax S H ∧ X10P9 dC dI G ax M H ∧ X10P10 dC dI G ax H ∧ X10P11 dC dI G ax E Z H ∧ XIN N B K N1 B1 N2 B2
theorem X10I.kept {dC : Nat → ClassId} {dI : Nat → Nat → Nat} {G : Nat → ClassId} {ax : Nat → Nat} {T : Nat} {Y : Nat → Int32} {fa : Int32} {N : Nat} {B : Nat} {N1 : Nat} {B1 : Nat} {N2 : Nat} {B2 : Nat} {K : Nat → Int32} {S : Nat} {M : Nat} {E : Nat → Int32} {Z : Nat → Int32} {H H1 : Heap} (hk : ∀ j : Nat, 0 ≤ j → j < 112 → ax j < H.size → H1[ax j]? = H[ax j]?) (h : X10I dC dI G ax T Y fa N B N1 B1 N2 B2 K S M E Z H) : X10I dC dI G ax T Y fa N B N1 B1 N2 B2 K S M E Z H1 := by
  unfold X10I at h ⊢
  obtain ⟨p0, p1, p2, p3, p4, p5, p6, p7, p8, p9, p10, p11, p12, p13, p14, p15, p16, hX⟩ := h
  exact ⟨p0.kept (fun j h1 h2 => hk j (by omega) (by omega)), p1.kept (fun j h1 h2 => hk j (by omega) (by omega)), p2.kept (fun j h1 h2 => hk j (by omega) (by omega)), p3.kept (fun j h1 h2 => hk j (by omega) (by omega)), p4.kept (fun j h1 h2 => hk j (by omega) (by omega)), p5.kept (fun j h1 h2 => hk j (by omega) (by omega)), p6.kept (fun j h1 h2 => hk j (by omega) (by omega)), p7.kept (fun j h1 h2 => hk j (by omega) (by omega)), p8.kept (fun j h1 h2 => hk j (by omega) (by omega)), p9.kept (fun j h1 h2 => hk j (by omega) (by omega)), p10.kept (fun j h1 h2 => hk j (by omega) (by omega)), p11.kept (fun j h1 h2 => hk j (by omega) (by omega)), p12.kept (fun j h1 h2 => hk j (by omega) (by omega)), p13.kept (fun j h1 h2 => hk j (by omega) (by omega)), p14.kept (fun j h1 h2 => hk j (by omega) (by omega)), p15.kept (fun j h1 h2 => hk j (by omega) (by omega)), p16.kept (fun j h1 h2 => hk j (by omega) (by omega)), hX⟩
theorem X10I.recv {dC : Nat → ClassId} {dI : Nat → Nat → Nat} {G : Nat → ClassId} {ax : Nat → Nat} {T : Nat} {Y : Nat → Int32} {fa : Int32} {N : Nat} {B : Nat} {N1 : Nat} {B1 : Nat} {N2 : Nat} {B2 : Nat} {K : Nat → Int32} {S : Nat} {M : Nat} {E : Nat → Int32} {Z : Nat → Int32} {H : Heap} {s : State} (hK : KK dC dI G s) (h : X10I dC dI G ax T Y fa N B N1 B1 N2 B2 K S M E Z H) : ∃ cellB : Cell, H[ax 0]? = some cellB ∧ cellB.vm.isStatics = false ∧ s.vm.findClass RX10 = some cellB.cls := by
  unfold X10I X10Pr at h
  obtain ⟨⟨zi0_13, q⟩, -⟩ := h
  exact va_recv (ci := 10) (q0 := 0) hK.1 (vpc q va_nilP) rfl rfl
def X11Pr (dC : Nat → ClassId) (dI : Nat → Nat → Nat) (G : Nat → ClassId) (ax : Nat → Nat) (N : Nat) (B : Nat) (T : Nat) (fa : Int32) (S : Nat) (M : Nat) (H : Heap) : Prop := ∃ (zi112_4 : Int32) (zi112_5 : Int32) (zi112_6 : Int32) (zi112_7 : Int32) (zi112_8 : Int32) (zi112_9 : Int32) (zi112_13 : Int32) (zi112_14 : Int32) (zi112_15 : Int32) (zn112_16 : Nat) (zi112_17 : Int32) (zi112_18 : Int32) (zi112_34 : Int32), (N ≤ 10) ∧ (B ≤ 6) ∧ (T ≤ 320) ∧ (S ≤ 8) ∧ (M ≤ 6) ∧ (N = 0 ∨ 0 < B) ∧ (zn112_16 ≤ 320) ∧ (va_at (dC, dI) vwCl (ax 112, .inr (11, [.ref (ax 113), .int (nI N), .int (nI B), .ref (ax 114), .int zi112_4, .int zi112_5, .int zi112_6, .int zi112_7, .int zi112_8, .int zi112_9, .ref (ax 115), .int (nI T), .int fa, .int zi112_13, .int zi112_14, .int zi112_15, .int (nI zn112_16), .int zi112_17, .int zi112_18, .ref (ax 116), .ref (ax 117), .ref (ax 118), .ref (ax 119), .ref (ax 120), .ref (ax 121), .int (nI S), .ref (ax 122), .int (nI M), .ref (ax 123), .ref (ax 124), .ref (ax 125), .ref (ax 126), .ref (ax 127), .ref (ax 128), .int zi112_34])) H)
theorem X11Pr.kept {dC : Nat → ClassId} {dI : Nat → Nat → Nat} {G : Nat → ClassId} {ax : Nat → Nat} {N : Nat} {B : Nat} {T : Nat} {fa : Int32} {S : Nat} {M : Nat} {H H1 : Heap} (hk : ∀ j : Nat, 112 ≤ j → j < 113 → ax j < H.size → H1[ax j]? = H[ax j]?) (h : X11Pr dC dI G ax N B T fa S M H) : X11Pr dC dI G ax N B T fa S M H1 := by
  unfold X11Pr at h ⊢
  obtain ⟨zi112_4, zi112_5, zi112_6, zi112_7, zi112_8, zi112_9, zi112_13, zi112_14, zi112_15, zn112_16, zi112_17, zi112_18, zi112_34, j0, j1, j2, j3, j4, j5, j6, q112⟩ := h
  exact ⟨zi112_4, zi112_5, zi112_6, zi112_7, zi112_8, zi112_9, zi112_13, zi112_14, zi112_15, zn112_16, zi112_17, zi112_18, zi112_34, j0, j1, j2, j3, j4, j5, j6, q112.kept (hk 112 (by decide) (by decide) q112.lt)⟩
def X11P0 (dC : Nat → ClassId) (dI : Nat → Nat → Nat) (G : Nat → ClassId) (ax : Nat → Nat) (H : Heap) : Prop := ∃ (zf113 : Nat → Int32), (OKS zf113) ∧ (va_at (dC, dI) vwCl (ax 113, .inl (G 0, 196, .inl zf113)) H)
theorem X11P0.kept {dC : Nat → ClassId} {dI : Nat → Nat → Nat} {G : Nat → ClassId} {ax : Nat → Nat} {H H1 : Heap} (hk : ∀ j : Nat, 113 ≤ j → j < 114 → ax j < H.size → H1[ax j]? = H[ax j]?) (h : X11P0 dC dI G ax H) : X11P0 dC dI G ax H1 := by
  unfold X11P0 at h ⊢
  obtain ⟨zf113, j0, q113⟩ := h
  exact ⟨zf113, j0, q113.kept (hk 113 (by decide) (by decide) q113.lt)⟩
def X11P3 (dC : Nat → ClassId) (dI : Nat → Nat → Nat) (G : Nat → ClassId) (ax : Nat → Nat) (H : Heap) : Prop := ∃ (zf114 : Nat → Int32), (va_at (dC, dI) vwCl (ax 114, .inl (G 0, 49, .inl zf114)) H)
theorem X11P3.kept {dC : Nat → ClassId} {dI : Nat → Nat → Nat} {G : Nat → ClassId} {ax : Nat → Nat} {H H1 : Heap} (hk : ∀ j : Nat, 114 ≤ j → j < 115 → ax j < H.size → H1[ax j]? = H[ax j]?) (h : X11P3 dC dI G ax H) : X11P3 dC dI G ax H1 := by
  unfold X11P3 at h ⊢
  obtain ⟨zf114, q114⟩ := h
  exact ⟨zf114, q114.kept (hk 114 (by decide) (by decide) q114.lt)⟩
def X11P10 (dC : Nat → ClassId) (dI : Nat → Nat → Nat) (G : Nat → ClassId) (ax : Nat → Nat) (Y : Nat → Int32) (H : Heap) : Prop := (∀ q : Nat, q < 320 → 0 ≤ (Y q).toInt) ∧ (va_at (dC, dI) vwCl (ax 115, .inl (G 0, 320, .inl Y)) H)
theorem X11P10.kept {dC : Nat → ClassId} {dI : Nat → Nat → Nat} {G : Nat → ClassId} {ax : Nat → Nat} {Y : Nat → Int32} {H H1 : Heap} (hk : ∀ j : Nat, 115 ≤ j → j < 116 → ax j < H.size → H1[ax j]? = H[ax j]?) (h : X11P10 dC dI G ax Y H) : X11P10 dC dI G ax Y H1 := by
  unfold X11P10 at h ⊢
  obtain ⟨j0, q115⟩ := h
  exact ⟨j0, q115.kept (hk 115 (by decide) (by decide) q115.lt)⟩
def X11P19 (dC : Nat → ClassId) (dI : Nat → Nat → Nat) (G : Nat → ClassId) (ax : Nat → Nat) (H : Heap) : Prop := ∃ (zf116 : Nat → Int32), (∀ q : Nat, q < 11 → zf116 q = nI (cutL.getD q 0)) ∧ (va_at (dC, dI) vwCl (ax 116, .inl (G 0, 11, .inl zf116)) H)
theorem X11P19.kept {dC : Nat → ClassId} {dI : Nat → Nat → Nat} {G : Nat → ClassId} {ax : Nat → Nat} {H H1 : Heap} (hk : ∀ j : Nat, 116 ≤ j → j < 117 → ax j < H.size → H1[ax j]? = H[ax j]?) (h : X11P19 dC dI G ax H) : X11P19 dC dI G ax H1 := by
  unfold X11P19 at h ⊢
  obtain ⟨zf116, j0, q116⟩ := h
  exact ⟨zf116, j0, q116.kept (hk 116 (by decide) (by decide) q116.lt)⟩
def X11P20 (dC : Nat → ClassId) (dI : Nat → Nat → Nat) (G : Nat → ClassId) (ax : Nat → Nat) (H : Heap) : Prop := ∃ (zf117 : Nat → Int32), (∀ q : Nat, q < 54 → zf117 q = letL.getD q 0) ∧ (va_at (dC, dI) vwCl (ax 117, .inl (G 0, 54, .inl zf117)) H)
theorem X11P20.kept {dC : Nat → ClassId} {dI : Nat → Nat → Nat} {G : Nat → ClassId} {ax : Nat → Nat} {H H1 : Heap} (hk : ∀ j : Nat, 117 ≤ j → j < 118 → ax j < H.size → H1[ax j]? = H[ax j]?) (h : X11P20 dC dI G ax H) : X11P20 dC dI G ax H1 := by
  unfold X11P20 at h ⊢
  obtain ⟨zf117, j0, q117⟩ := h
  exact ⟨zf117, j0, q117.kept (hk 117 (by decide) (by decide) q117.lt)⟩
def X11P21 (dC : Nat → ClassId) (dI : Nat → Nat → Nat) (G : Nat → ClassId) (ax : Nat → Nat) (H : Heap) : Prop := ∃ (zf118 : Nat → Int64), (va_at (dC, dI) vwCl (ax 118, .inl (G 1, 10, .inr (.inl zf118))) H)
theorem X11P21.kept {dC : Nat → ClassId} {dI : Nat → Nat → Nat} {G : Nat → ClassId} {ax : Nat → Nat} {H H1 : Heap} (hk : ∀ j : Nat, 118 ≤ j → j < 119 → ax j < H.size → H1[ax j]? = H[ax j]?) (h : X11P21 dC dI G ax H) : X11P21 dC dI G ax H1 := by
  unfold X11P21 at h ⊢
  obtain ⟨zf118, q118⟩ := h
  exact ⟨zf118, q118.kept (hk 118 (by decide) (by decide) q118.lt)⟩
def X11P22 (dC : Nat → ClassId) (dI : Nat → Nat → Nat) (G : Nat → ClassId) (ax : Nat → Nat) (H : Heap) : Prop := ∃ (zf119 : Nat → Int64), (va_at (dC, dI) vwCl (ax 119, .inl (G 1, 10, .inr (.inl zf119))) H)
theorem X11P22.kept {dC : Nat → ClassId} {dI : Nat → Nat → Nat} {G : Nat → ClassId} {ax : Nat → Nat} {H H1 : Heap} (hk : ∀ j : Nat, 119 ≤ j → j < 120 → ax j < H.size → H1[ax j]? = H[ax j]?) (h : X11P22 dC dI G ax H) : X11P22 dC dI G ax H1 := by
  unfold X11P22 at h ⊢
  obtain ⟨zf119, q119⟩ := h
  exact ⟨zf119, q119.kept (hk 119 (by decide) (by decide) q119.lt)⟩
def X11P23 (dC : Nat → ClassId) (dI : Nat → Nat → Nat) (G : Nat → ClassId) (ax : Nat → Nat) (H : Heap) : Prop := ∃ (zf120 : Nat → Int64), (va_at (dC, dI) vwCl (ax 120, .inl (G 1, 770, .inr (.inl zf120))) H)
theorem X11P23.kept {dC : Nat → ClassId} {dI : Nat → Nat → Nat} {G : Nat → ClassId} {ax : Nat → Nat} {H H1 : Heap} (hk : ∀ j : Nat, 120 ≤ j → j < 121 → ax j < H.size → H1[ax j]? = H[ax j]?) (h : X11P23 dC dI G ax H) : X11P23 dC dI G ax H1 := by
  unfold X11P23 at h ⊢
  obtain ⟨zf120, q120⟩ := h
  exact ⟨zf120, q120.kept (hk 120 (by decide) (by decide) q120.lt)⟩
def X11P24 (dC : Nat → ClassId) (dI : Nat → Nat → Nat) (G : Nat → ClassId) (ax : Nat → Nat) (H : Heap) : Prop := ∃ (zf121 : Nat → Int32), (OKL zf121) ∧ (va_at (dC, dI) vwCl (ax 121, .inl (G 0, 32, .inl zf121)) H)
theorem X11P24.kept {dC : Nat → ClassId} {dI : Nat → Nat → Nat} {G : Nat → ClassId} {ax : Nat → Nat} {H H1 : Heap} (hk : ∀ j : Nat, 121 ≤ j → j < 122 → ax j < H.size → H1[ax j]? = H[ax j]?) (h : X11P24 dC dI G ax H) : X11P24 dC dI G ax H1 := by
  unfold X11P24 at h ⊢
  obtain ⟨zf121, j0, q121⟩ := h
  exact ⟨zf121, j0, q121.kept (hk 121 (by decide) (by decide) q121.lt)⟩
def X11P26 (dC : Nat → ClassId) (dI : Nat → Nat → Nat) (G : Nat → ClassId) (ax : Nat → Nat) (H : Heap) : Prop := ∃ (zf122 : Nat → Int32), (va_at (dC, dI) vwCl (ax 122, .inl (G 0, 12, .inl zf122)) H)
theorem X11P26.kept {dC : Nat → ClassId} {dI : Nat → Nat → Nat} {G : Nat → ClassId} {ax : Nat → Nat} {H H1 : Heap} (hk : ∀ j : Nat, 122 ≤ j → j < 123 → ax j < H.size → H1[ax j]? = H[ax j]?) (h : X11P26 dC dI G ax H) : X11P26 dC dI G ax H1 := by
  unfold X11P26 at h ⊢
  obtain ⟨zf122, q122⟩ := h
  exact ⟨zf122, q122.kept (hk 122 (by decide) (by decide) q122.lt)⟩
def X11P28 (dC : Nat → ClassId) (dI : Nat → Nat → Nat) (G : Nat → ClassId) (ax : Nat → Nat) (H : Heap) : Prop := ∃ (zf123 : Nat → Int32), (va_at (dC, dI) vwCl (ax 123, .inl (G 0, 110, .inl zf123)) H)
theorem X11P28.kept {dC : Nat → ClassId} {dI : Nat → Nat → Nat} {G : Nat → ClassId} {ax : Nat → Nat} {H H1 : Heap} (hk : ∀ j : Nat, 123 ≤ j → j < 124 → ax j < H.size → H1[ax j]? = H[ax j]?) (h : X11P28 dC dI G ax H) : X11P28 dC dI G ax H1 := by
  unfold X11P28 at h ⊢
  obtain ⟨zf123, q123⟩ := h
  exact ⟨zf123, q123.kept (hk 123 (by decide) (by decide) q123.lt)⟩
def X11P29 (dC : Nat → ClassId) (dI : Nat → Nat → Nat) (G : Nat → ClassId) (ax : Nat → Nat) (H : Heap) : Prop := ∃ (zf124 : Nat → Int32), (va_at (dC, dI) vwCl (ax 124, .inl (G 0, 110, .inl zf124)) H)
theorem X11P29.kept {dC : Nat → ClassId} {dI : Nat → Nat → Nat} {G : Nat → ClassId} {ax : Nat → Nat} {H H1 : Heap} (hk : ∀ j : Nat, 124 ≤ j → j < 125 → ax j < H.size → H1[ax j]? = H[ax j]?) (h : X11P29 dC dI G ax H) : X11P29 dC dI G ax H1 := by
  unfold X11P29 at h ⊢
  obtain ⟨zf124, q124⟩ := h
  exact ⟨zf124, q124.kept (hk 124 (by decide) (by decide) q124.lt)⟩
def X11P30 (dC : Nat → ClassId) (dI : Nat → Nat → Nat) (G : Nat → ClassId) (ax : Nat → Nat) (K : Nat → Int32) (H : Heap) : Prop := (va_at (dC, dI) vwCl (ax 125, .inl (G 2, 2, .inl K)) H)
theorem X11P30.kept {dC : Nat → ClassId} {dI : Nat → Nat → Nat} {G : Nat → ClassId} {ax : Nat → Nat} {K : Nat → Int32} {H H1 : Heap} (hk : ∀ j : Nat, 125 ≤ j → j < 126 → ax j < H.size → H1[ax j]? = H[ax j]?) (h : X11P30 dC dI G ax K H) : X11P30 dC dI G ax K H1 := by
  unfold X11P30 at h ⊢
  have q125 := h
  exact q125.kept (hk 125 (by decide) (by decide) q125.lt)
def X11P31 (dC : Nat → ClassId) (dI : Nat → Nat → Nat) (G : Nat → ClassId) (ax : Nat → Nat) (E : Nat → Int32) (H : Heap) : Prop := (∀ q : Nat, q < 4 → E q = -1 ∨ (0 ≤ (E q).toInt ∧ (E q).toInt ≤ 2)) ∧ (va_at (dC, dI) vwCl (ax 126, .inl (G 0, 4, .inl (lmap E))) H)
theorem X11P31.kept {dC : Nat → ClassId} {dI : Nat → Nat → Nat} {G : Nat → ClassId} {ax : Nat → Nat} {E : Nat → Int32} {H H1 : Heap} (hk : ∀ j : Nat, 126 ≤ j → j < 127 → ax j < H.size → H1[ax j]? = H[ax j]?) (h : X11P31 dC dI G ax E H) : X11P31 dC dI G ax E H1 := by
  unfold X11P31 at h ⊢
  obtain ⟨j0, q126⟩ := h
  exact ⟨j0, q126.kept (hk 126 (by decide) (by decide) q126.lt)⟩
def X11P32 (dC : Nat → ClassId) (dI : Nat → Nat → Nat) (G : Nat → ClassId) (ax : Nat → Nat) (Z : Nat → Int32) (H : Heap) : Prop := (∀ q : Nat, q < 4 → 0 ≤ (Z q).toInt ∧ (Z q).toInt ≤ 40) ∧ (va_at (dC, dI) vwCl (ax 127, .inl (G 0, 4, .inl Z)) H)
theorem X11P32.kept {dC : Nat → ClassId} {dI : Nat → Nat → Nat} {G : Nat → ClassId} {ax : Nat → Nat} {Z : Nat → Int32} {H H1 : Heap} (hk : ∀ j : Nat, 127 ≤ j → j < 128 → ax j < H.size → H1[ax j]? = H[ax j]?) (h : X11P32 dC dI G ax Z H) : X11P32 dC dI G ax Z H1 := by
  unfold X11P32 at h ⊢
  obtain ⟨j0, q127⟩ := h
  exact ⟨j0, q127.kept (hk 127 (by decide) (by decide) q127.lt)⟩
def X11P33 (dC : Nat → ClassId) (dI : Nat → Nat → Nat) (G : Nat → ClassId) (ax : Nat → Nat) (H : Heap) : Prop := ∃ (zf128 : Nat → Int32), (va_at (dC, dI) vwCl (ax 128, .inl (G 0, 160, .inl zf128)) H)
theorem X11P33.kept {dC : Nat → ClassId} {dI : Nat → Nat → Nat} {G : Nat → ClassId} {ax : Nat → Nat} {H H1 : Heap} (hk : ∀ j : Nat, 128 ≤ j → j < 129 → ax j < H.size → H1[ax j]? = H[ax j]?) (h : X11P33 dC dI G ax H) : X11P33 dC dI G ax H1 := by
  unfold X11P33 at h ⊢
  obtain ⟨zf128, q128⟩ := h
  exact ⟨zf128, q128.kept (hk 128 (by decide) (by decide) q128.lt)⟩
def X11I (dC : Nat → ClassId) (dI : Nat → Nat → Nat) (G : Nat → ClassId) (ax : Nat → Nat) (T : Nat) (Y : Nat → Int32) (fa : Int32) (N : Nat) (B : Nat) (N1 : Nat) (B1 : Nat) (N2 : Nat) (B2 : Nat) (K : Nat → Int32) (S : Nat) (M : Nat) (E : Nat → Int32) (Z : Nat → Int32) (H : Heap) : Prop := X11Pr dC dI G ax N B T fa S M H ∧ X11P0 dC dI G ax H ∧ X11P3 dC dI G ax H ∧ X11P10 dC dI G ax Y H ∧ X11P19 dC dI G ax H ∧ X11P20 dC dI G ax H ∧ X11P21 dC dI G ax H ∧ X11P22 dC dI G ax H ∧ X11P23 dC dI G ax H ∧ X11P24 dC dI G ax H ∧ X11P26 dC dI G ax H ∧ X11P28 dC dI G ax H ∧ X11P29 dC dI G ax H ∧ X11P30 dC dI G ax K H ∧ X11P31 dC dI G ax E H ∧ X11P32 dC dI G ax Z H ∧ X11P33 dC dI G ax H
theorem X11I.kept {dC : Nat → ClassId} {dI : Nat → Nat → Nat} {G : Nat → ClassId} {ax : Nat → Nat} {T : Nat} {Y : Nat → Int32} {fa : Int32} {N : Nat} {B : Nat} {N1 : Nat} {B1 : Nat} {N2 : Nat} {B2 : Nat} {K : Nat → Int32} {S : Nat} {M : Nat} {E : Nat → Int32} {Z : Nat → Int32} {H H1 : Heap} (hk : ∀ j : Nat, 112 ≤ j → j < 129 → ax j < H.size → H1[ax j]? = H[ax j]?) (h : X11I dC dI G ax T Y fa N B N1 B1 N2 B2 K S M E Z H) : X11I dC dI G ax T Y fa N B N1 B1 N2 B2 K S M E Z H1 := by
  unfold X11I at h ⊢
  obtain ⟨p0, p1, p2, p3, p4, p5, p6, p7, p8, p9, p10, p11, p12, p13, p14, p15, p16⟩ := h
  exact ⟨p0.kept (fun j h1 h2 => hk j (by omega) (by omega)), p1.kept (fun j h1 h2 => hk j (by omega) (by omega)), p2.kept (fun j h1 h2 => hk j (by omega) (by omega)), p3.kept (fun j h1 h2 => hk j (by omega) (by omega)), p4.kept (fun j h1 h2 => hk j (by omega) (by omega)), p5.kept (fun j h1 h2 => hk j (by omega) (by omega)), p6.kept (fun j h1 h2 => hk j (by omega) (by omega)), p7.kept (fun j h1 h2 => hk j (by omega) (by omega)), p8.kept (fun j h1 h2 => hk j (by omega) (by omega)), p9.kept (fun j h1 h2 => hk j (by omega) (by omega)), p10.kept (fun j h1 h2 => hk j (by omega) (by omega)), p11.kept (fun j h1 h2 => hk j (by omega) (by omega)), p12.kept (fun j h1 h2 => hk j (by omega) (by omega)), p13.kept (fun j h1 h2 => hk j (by omega) (by omega)), p14.kept (fun j h1 h2 => hk j (by omega) (by omega)), p15.kept (fun j h1 h2 => hk j (by omega) (by omega)), p16.kept (fun j h1 h2 => hk j (by omega) (by omega))⟩
theorem X11I.recv {dC : Nat → ClassId} {dI : Nat → Nat → Nat} {G : Nat → ClassId} {ax : Nat → Nat} {T : Nat} {Y : Nat → Int32} {fa : Int32} {N : Nat} {B : Nat} {N1 : Nat} {B1 : Nat} {N2 : Nat} {B2 : Nat} {K : Nat → Int32} {S : Nat} {M : Nat} {E : Nat → Int32} {Z : Nat → Int32} {H : Heap} {s : State} (hK : KK dC dI G s) (h : X11I dC dI G ax T Y fa N B N1 B1 N2 B2 K S M E Z H) : ∃ cellB : Cell, H[ax 112]? = some cellB ∧ cellB.vm.isStatics = false ∧ s.vm.findClass RX11 = some cellB.cls := by
  unfold X11I X11Pr at h
  obtain ⟨⟨zi112_4, zi112_5, zi112_6, zi112_7, zi112_8, zi112_9, zi112_13, zi112_14, zi112_15, zn112_16, zi112_17, zi112_18, zi112_34, j0, j1, j2, j3, j4, j5, j6, q⟩, -⟩ := h
  exact va_recv (ci := 11) (q0 := 0) hK.1 (vpc q va_nilP) rfl rfl

set_option maxHeartbeats 1000000 in
set_option maxRecDepth 100000 in
theorem k_X10_feedE (l : Launch) (dC : Nat → ClassId) (dI : Nat → Nat → Nat) (G : Nat → ClassId) (sz : Nat) (ax : Nat → Nat) (hi : adInj 129 ax) (T : Nat) (Y : Nat → Int32) (fa : Int32) (N : Nat) (B : Nat) (N1 : Nat) (B1 : Nat) (N2 : Nat) (B2 : Nat) (K : Nat → Int32) (S : Nat) (M : Nat) (E : Nat → Int32) (Z : Nat → Int32) (v : Int64) : Met l yX10_feed (Cond.code yX10_feed cX10_feed 3 (some .int) :: GT) ({ frames := 1, cells := 0, slots := 0, locals := 23 } : Room) (PcI [.ref (ax 0), .long v] dC dI G (X10I dC dI G ax T Y fa N B N1 B1 N2 B2 K S M E Z) sz) (va_Qi (fun (r : Int32) (_ : Unit) => r = if T + 8 ≤ 320 then nI (T + 8) else -3) (fun _ t => X10I dC dI G ax (if T + 8 ≤ 320 then T + 8 else T) (if T + 8 ≤ 320 then fdC Y T v else Y) fa N B N1 B1 N2 B2 K S M E Z t.heap) (adX 0 112 ax sz)) 0 0 (adX 0 112 ax sz) := by
  refine Met.pick (fun a st hp => ?_)
  obtain ⟨e0, hsz, hI, hK⟩ := hp
  subst hsz
  have hI0 := hI
  unfold X10I at hI
  obtain ⟨p0, p1, p2, p3, p4, p5, p6, p7, p8, p9, p10, p11, p12, p13, p14, p15, p16, hX⟩ := hI
  unfold X10Pr at p0
  obtain ⟨zi0_13, q0⟩ := p0
  unfold X10P0 at p1
  obtain ⟨zi1_2, zi1_3, zi1_4, zi1_5, zi1_6, zi1_7, zi1_8, zi1_9, zi1_10, zi1_11, q1⟩ := p1
  unfold X10P0_0 at p2
  obtain ⟨p2j0, q2, q3⟩ := p2
  refine ⟨_, _, _, c_X10_feedE l dC dI G _ (ax 0) (ax 1) (ax 11) (ax 18) (ax 25) (ax 40) (ax 41) (ax 44) (ax 68) (ax 69) (ax 74) (ax 77) (ax 102) (ax 2) (ax 4) (ax 3) T fa zi0_13 zi1_2 zi1_3 zi1_4 zi1_5 zi1_6 zi1_7 zi1_8 zi1_9 zi1_10 zi1_11 v Y (by assumption), ⟨e0, rfl, (vpc q0 (vpc q1 (vpc q2 (vpc q3 va_nilP)))), hK, vD_ix hi [0, 1, 2, 3] (by rfl) (by decide) (by decide)⟩, ad_ix [0, 1, 2, 3] (by rfl) (by decide), fun o t hq => ?_⟩
  obtain ⟨⟨r, ⟨u1, u2⟩, ho, ⟨hr, hu⟩, hP1, -⟩, hF⟩ := hq
  have FR : ∀ lo hi' : Nat, hi' ≤ 129 → ([0, 1, 2, 3] : List Nat).all (fun x => decide (x < lo) || decide (hi' ≤ x)) = true → ∀ j : Nat, lo ≤ j → j < hi' → ax j < st.heap.size → t.heap[ax j]? = st.heap[ax j]? := fun lo hi' h1 h2 => fr_ix hi h1 hF.2 [0, 1, 2, 3] (by rfl) (by decide) h2
  have xT : (if T + 8 ≤ 320 then T + 8 else T) = u1 := Eq.symm (by first | exact hu | exact hu.1 | exact hu.2 | exact hu.1.1 | exact hu.1.2 | exact hu.2.1.trans (txt_cf (by assumption)) | exact hu.2.1.trans (txt_rf (by assumption)) | exact hu.1.1.trans lmap_step | omega)
  subst xT
  have y3 : (if T + 8 ≤ 320 then fdC Y T v else Y) = u2 := Eq.symm (by first | exact hu | exact hu.1 | exact hu.2 | exact hu.1.1 | exact hu.1.2 | exact hu.2.1.trans (txt_cf (by assumption)) | exact hu.2.1.trans (txt_rf (by assumption)) | exact hu.1.1.trans lmap_step | omega)
  subst y3
  have np0 : X10Pr dC dI G ax fa t.heap := ⟨zi0_13, hP1 0 _ rfl⟩
  have np1 : X10P0 dC dI G ax t.heap := ⟨zi1_2, zi1_3, zi1_4, zi1_5, zi1_6, zi1_7, zi1_8, zi1_9, zi1_10, zi1_11, hP1 1 _ rfl⟩
  have np2 : X10P0_0 dC dI G ax (if T + 8 ≤ 320 then T + 8 else T) (if T + 8 ≤ 320 then fdC Y T v else Y) t.heap := ⟨(by first | omega | exact hu | exact hu.1 | exact hu.1.1 | exact hu.1.2 | exact hu.2 | exact fd_nn (by assumption) | (split at hu <;> omega) | (split <;> omega) | exact E_inv (by assumption)), hP1 2 _ rfl, hP1 3 _ rfl⟩
  exact ⟨⟨r, (), ho, hr, ⟨np0, np1, np2, p3.kept (FR 4 11 (by decide) (by decide)), p4.kept (FR 11 18 (by decide) (by decide)), p5.kept (FR 18 25 (by decide) (by decide)), p6.kept (FR 25 26 (by decide) (by decide)), p7.kept (FR 26 33 (by decide) (by decide)), p8.kept (FR 33 40 (by decide) (by decide)), p9.kept (FR 40 41 (by decide) (by decide)), p10.kept (FR 41 44 (by decide) (by decide)), p11.kept (FR 44 68 (by decide) (by decide)), p12.kept (FR 68 69 (by decide) (by decide)), p13.kept (FR 69 74 (by decide) (by decide)), p14.kept (FR 74 77 (by decide) (by decide)), p15.kept (FR 77 102 (by decide) (by decide)), p16.kept (FR 102 112 (by decide) (by decide)), hX⟩⟩, hF.wide (ad_ix [0, 1, 2, 3] (by rfl) (by decide))⟩

set_option maxHeartbeats 1000000 in
set_option maxRecDepth 100000 in
theorem k_X10_end (l : Launch) (dC : Nat → ClassId) (dI : Nat → Nat → Nat) (G : Nat → ClassId) (sz : Nat) (ax : Nat → Nat) (hi : adInj 129 ax) (T : Nat) (Y : Nat → Int32) (fa : Int32) (N : Nat) (B : Nat) (N1 : Nat) (B1 : Nat) (N2 : Nat) (B2 : Nat) (K : Nat → Int32) (S : Nat) (M : Nat) (E : Nat → Int32) (Z : Nat → Int32) (n : Int32) : Met l yX10_end (Cond.code yX10_end cX10_end 3 (some .int) :: GT) ({ frames := 0, cells := 0, slots := 0, locals := 0 } : Room) (PcI [.ref (ax 0), .int n] dC dI G (X10I dC dI G ax T Y fa N B N1 B1 N2 B2 K S M E Z) sz) (va_Qi (fun (r : Int32) (_ : Unit) => r = if 0 ≤ n.toInt ∧ n.toInt ≤ ((T : Nat) : Int) then nI T else -1) (fun _ t => X10I dC dI G ax (if 0 ≤ n.toInt ∧ n.toInt ≤ ((T : Nat) : Int) then n.toNatClampNeg else T) Y fa N B N1 B1 N2 B2 K S M E Z t.heap) (adX 0 112 ax sz)) 0 0 (adX 0 112 ax sz) := by
  refine Met.pick (fun a st hp => ?_)
  obtain ⟨e0, hsz, hI, hK⟩ := hp
  subst hsz
  have hI0 := hI
  unfold X10I at hI
  obtain ⟨p0, p1, p2, p3, p4, p5, p6, p7, p8, p9, p10, p11, p12, p13, p14, p15, p16, hX⟩ := hI
  unfold X10Pr at p0
  obtain ⟨zi0_13, q0⟩ := p0
  unfold X10P0 at p1
  obtain ⟨zi1_2, zi1_3, zi1_4, zi1_5, zi1_6, zi1_7, zi1_8, zi1_9, zi1_10, zi1_11, q1⟩ := p1
  unfold X10P0_0 at p2
  obtain ⟨p2j0, q2, q3⟩ := p2
  refine ⟨_, _, _, c_X10_end l dC dI G _ (ax 0) (ax 1) (ax 11) (ax 18) (ax 25) (ax 40) (ax 41) (ax 44) (ax 68) (ax 69) (ax 74) (ax 77) (ax 102) (ax 2) (ax 4) (ax 3) T fa zi0_13 n zi1_2 zi1_3 zi1_4 zi1_5 zi1_6 zi1_7 zi1_8 zi1_9 zi1_10 zi1_11 (by assumption), ⟨e0, rfl, (vpc q0 (vpc q1 (vpc q2 va_nilP))), hK, vD_ix hi [0, 1, 2] (by rfl) (by decide) (by decide)⟩, ad_ix [0, 1, 2] (by rfl) (by decide), fun o t hq => ?_⟩
  obtain ⟨⟨r, u1, ho, ⟨hr, hu⟩, hP1, -⟩, hF⟩ := hq
  have FR : ∀ lo hi' : Nat, hi' ≤ 129 → ([0, 1, 2] : List Nat).all (fun x => decide (x < lo) || decide (hi' ≤ x)) = true → ∀ j : Nat, lo ≤ j → j < hi' → ax j < st.heap.size → t.heap[ax j]? = st.heap[ax j]? := fun lo hi' h1 h2 => fr_ix hi h1 hF.2 [0, 1, 2] (by rfl) (by decide) h2
  have xT : (if 0 ≤ n.toInt ∧ n.toInt ≤ ((T : Nat) : Int) then n.toNatClampNeg else T) = u1 := Eq.symm (by first | exact hu | exact hu.1 | exact hu.2 | exact hu.1.1 | exact hu.1.2 | exact hu.2.1.trans (txt_cf (by assumption)) | exact hu.2.1.trans (txt_rf (by assumption)) | exact hu.1.1.trans lmap_step | omega)
  subst xT
  have np0 : X10Pr dC dI G ax fa t.heap := ⟨zi0_13, hP1 0 _ rfl⟩
  have np1 : X10P0 dC dI G ax t.heap := ⟨zi1_2, zi1_3, zi1_4, zi1_5, zi1_6, zi1_7, zi1_8, zi1_9, zi1_10, zi1_11, hP1 1 _ rfl⟩
  have np2 : X10P0_0 dC dI G ax (if 0 ≤ n.toInt ∧ n.toInt ≤ ((T : Nat) : Int) then n.toNatClampNeg else T) Y t.heap := ⟨(by first | omega | exact hu | exact hu.1 | exact hu.1.1 | exact hu.1.2 | exact hu.2 | exact fd_nn (by assumption) | (split at hu <;> omega) | (split <;> omega) | exact E_inv (by assumption)), hP1 2 _ rfl, q3.kept (FR 3 4 (by decide) (by decide) 3 (by decide) (by decide) q3.lt)⟩
  exact ⟨⟨r, (), ho, hr, ⟨np0, np1, np2, p3.kept (FR 4 11 (by decide) (by decide)), p4.kept (FR 11 18 (by decide) (by decide)), p5.kept (FR 18 25 (by decide) (by decide)), p6.kept (FR 25 26 (by decide) (by decide)), p7.kept (FR 26 33 (by decide) (by decide)), p8.kept (FR 33 40 (by decide) (by decide)), p9.kept (FR 40 41 (by decide) (by decide)), p10.kept (FR 41 44 (by decide) (by decide)), p11.kept (FR 44 68 (by decide) (by decide)), p12.kept (FR 68 69 (by decide) (by decide)), p13.kept (FR 69 74 (by decide) (by decide)), p14.kept (FR 74 77 (by decide) (by decide)), p15.kept (FR 77 102 (by decide) (by decide)), p16.kept (FR 102 112 (by decide) (by decide)), hX⟩⟩, hF.wide (ad_ix [0, 1, 2] (by rfl) (by decide))⟩

set_option maxHeartbeats 1000000 in
set_option maxRecDepth 100000 in
theorem k_X10_textE (l : Launch) (dC : Nat → ClassId) (dI : Nat → Nat → Nat) (G : Nat → ClassId) (sz : Nat) (ax : Nat → Nat) (hi : adInj 129 ax) (T : Nat) (Y : Nat → Int32) (fa : Int32) (N : Nat) (B : Nat) (N1 : Nat) (B1 : Nat) (N2 : Nat) (B2 : Nat) (K : Nat → Int32) (S : Nat) (M : Nat) (E : Nat → Int32) (Z : Nat → Int32) (adK adV : Nat → Nat) : Met l yX10_text (Cond.code yX10_text cX10_text 2 (some .int) :: GT) ({ frames := 10, cells := 0, slots := 0, locals := 213 } : Room) (PcIS [.ref (ax 0)] dC dI G (X10I dC dI G ax T Y fa N B N1 B1 N2 B2 K S M E Z) adK adV (adX 0 112 ax sz) sz) (va_Qi (fun (r : Int32) (_ : Unit) => r = txA Y T) (fun _ t => X10I dC dI G ax 0 Y (txF Y T) (txN Y T N) (txB Y T B) N1 B1 N2 B2 (txK Y T K) (txS Y T S) (txS Y T M) E Z t.heap) (adX 0 112 ax sz)) 0 0 (adX 0 112 ax sz) := by
  refine Met.pick (fun a st hp => ?_)
  obtain ⟨e0, hsz, hI, hK, hSS⟩ := hp
  subst hsz
  have hI0 := hI
  unfold X10I at hI
  obtain ⟨p0, p1, p2, p3, p4, p5, p6, p7, p8, p9, p10, p11, p12, p13, p14, p15, p16, hX⟩ := hI
  unfold X10Pr at p0
  obtain ⟨zi0_13, q0⟩ := p0
  unfold X10P0 at p1
  obtain ⟨zi1_2, zi1_3, zi1_4, zi1_5, zi1_6, zi1_7, zi1_8, zi1_9, zi1_10, zi1_11, q1⟩ := p1
  unfold X10P0_0 at p2
  obtain ⟨p2j0, q2, q3⟩ := p2
  unfold X10P0_1 at p3
  obtain ⟨zn4_0, zn4_1, zn4_2, zf5, zf6, zf7, zf8, zf9, zf10, p3j0, p3j1, p3j2, q4, q5, q6, q7, q8, q9, q10⟩ := p3
  unfold X10P1 at p4
  obtain ⟨zn11_2, zf12, zf13, zf14, zf15, zf16, zf17, p4j0, p4j1, p4j2, q11, q12, q13, q14, q15, q16, q17⟩ := p4
  unfold X10P4 at p9
  have q40 := p9
  unfold X10P8 at p13
  obtain ⟨zf70, zf71, zf72, zf73, p13j0, q69, q70, q71, q72, q73⟩ := p13
  unfold X10P9 at p14
  obtain ⟨zf75, zf76, p14j0, q74, q75, q76⟩ := p14
  refine ⟨_, _, _, c_X10_textE l dC dI G _ (ax 0) (ax 1) (ax 11) (ax 18) (ax 25) (ax 40) (ax 41) (ax 44) (ax 68) (ax 69) (ax 74) (ax 77) (ax 102) (ax 2) (ax 4) (ax 3) T (ax 5) (ax 6) (ax 7) (ax 8) (ax 9) (ax 10) zn4_0 zn4_1 zn4_2 (ax 12) (ax 13) (ax 14) (ax 15) (ax 16) (ax 17) N B zn11_2 (ax 70) (ax 71) (ax 72) (ax 73) (ax 75) (ax 76) S M fa zi0_13 zi1_2 zi1_3 zi1_4 zi1_5 zi1_6 zi1_7 zi1_8 zi1_9 zi1_10 zi1_11 Y zf5 zf6 zf7 zf8 zf9 zf10 zf12 zf13 zf14 zf15 zf16 zf17 K adK adV (by assumption) (by assumption) (by assumption) (by assumption) (by assumption) (by assumption) (by assumption) (by assumption) (by assumption), ⟨e0, rfl, (vpc q0 (vpc q1 (vpc q2 (vpc q3 (vpc q4 (vpc q5 (vpc q6 (vpc q7 (vpc q8 (vpc q9 (vpc q10 (vpc q11 (vpc q12 (vpc q13 (vpc q14 (vpc q15 (vpc q16 (vpc q17 (vpc q69 (vpc q74 (vpc q40 va_nilP))))))))))))))))))))), hK, vD_ix hi [0, 1, 2, 3, 4, 5, 6, 7, 8, 9, 10, 11, 12, 13, 14, 15, 16, 17, 69, 74, 40] (by rfl) (by decide) (by decide), hSS.narrow (ad_ix [0, 1, 2, 3, 4, 5, 6, 7, 8, 9, 10, 11, 12, 13, 14, 15, 16, 17, 69, 74, 40] (by rfl) (by decide))⟩, ad_ix [0, 1, 2, 3, 4, 5, 6, 7, 8, 9, 10, 11, 12, 13, 14, 15, 16, 17, 69, 74, 40] (by rfl) (by decide), fun o t hq => ?_⟩
  obtain ⟨⟨r, ⟨ou0, ou1, ou2, ou3, ou4, ou5, ou6, ou7, ou8, ou9, ou10, n0, n1, n2, v1, v2, v3, v4, v5, v6, w0, w1, w2, y1, y2, y3, y4, y5, y6, s0, s1, s2⟩, ho, ⟨hr, hu⟩, hP1, -⟩, hF⟩ := hq
  have FR : ∀ lo hi' : Nat, hi' ≤ 129 → ([0, 1, 2, 3, 4, 5, 6, 7, 8, 9, 10, 11, 12, 13, 14, 15, 16, 17, 69, 74, 40] : List Nat).all (fun x => decide (x < lo) || decide (hi' ≤ x)) = true → ∀ j : Nat, lo ≤ j → j < hi' → ax j < st.heap.size → t.heap[ax j]? = st.heap[ax j]? := fun lo hi' h1 h2 => fr_ix hi h1 hF.2 [0, 1, 2, 3, 4, 5, 6, 7, 8, 9, 10, 11, 12, 13, 14, 15, 16, 17, 69, 74, 40] (by rfl) (by decide) h2
  have xfa : (txF Y T) = ou10 := Eq.symm (hu.2.1.trans (txt_cf (by assumption)))
  subst xfa
  have xN : (txN Y T N) = w0 := Eq.symm (hu.2.2.1.trans (txt_cN (by assumption)))
  subst xN
  have xB : (txB Y T B) = w1 := Eq.symm (hu.2.2.2.1.trans (txt_cB (by assumption)))
  subst xB
  have xS : (txS Y T S) = s0 := Eq.symm (hu.2.2.2.2.2.2.2.2.2.2.2.1.trans (txt_c1 (by assumption)))
  subst xS
  have xM : (txS Y T M) = s1 := Eq.symm (hu.2.2.2.2.2.2.2.2.2.2.2.2.1.trans (txt_c1 (by assumption)))
  subst xM
  have y40 : (txK Y T K) = s2 := Eq.symm (hu.2.2.2.2.2.2.2.2.2.2.2.2.2.trans (txt_c1 (by assumption)))
  subst y40
  replace hu := hu.1
  have np0 : X10Pr dC dI G ax (txF Y T) t.heap := ⟨zi0_13, hP1 0 _ rfl⟩
  have np1 : X10P0 dC dI G ax t.heap := ⟨ou0, ou1, ou2, ou3, ou4, ou5, ou6, ou7, ou8, ou9, hP1 1 _ rfl⟩
  have np2 : X10P0_0 dC dI G ax 0 Y t.heap := ⟨(by first | omega | exact hu | exact hu.1 | exact hu.1.1 | exact hu.1.2 | exact hu.2 | exact fd_nn (by assumption) | (split at hu <;> omega) | (split <;> omega) | exact E_inv (by assumption)), hP1 2 _ rfl, hP1 3 _ rfl⟩
  have np3 : X10P0_1 dC dI G ax t.heap := ⟨n0, n1, n2, v1, v2, v3, v4, v5, v6, (by first | omega | exact hu | exact hu.1 | exact hu.1.1 | exact hu.1.2 | exact hu.2 | exact fd_nn (by assumption) | (split at hu <;> omega) | (split <;> omega) | exact E_inv (by assumption)), (by first | omega | exact hu | exact hu.1 | exact hu.1.1 | exact hu.1.2 | exact hu.2 | exact fd_nn (by assumption) | (split at hu <;> omega) | (split <;> omega) | exact E_inv (by assumption)), (by first | omega | exact hu | exact hu.1 | exact hu.1.1 | exact hu.1.2 | exact hu.2 | exact fd_nn (by assumption) | (split at hu <;> omega) | (split <;> omega) | exact E_inv (by assumption)), hP1 4 _ rfl, hP1 5 _ rfl, hP1 6 _ rfl, hP1 7 _ rfl, hP1 8 _ rfl, hP1 9 _ rfl, hP1 10 _ rfl⟩
  have np4 : X10P1 dC dI G ax (txN Y T N) (txB Y T B) t.heap := ⟨w2, y1, y2, y3, y4, y5, y6, (by first | omega | exact hu | exact hu.1 | exact hu.1.1 | exact hu.1.2 | exact hu.2 | exact fd_nn (by assumption) | (split at hu <;> omega) | (split <;> omega) | exact E_inv (by assumption)), (by first | omega | exact hu | exact hu.1 | exact hu.1.1 | exact hu.1.2 | exact hu.2 | exact fd_nn (by assumption) | (split at hu <;> omega) | (split <;> omega) | exact E_inv (by assumption)), (by first | omega | exact hu | exact hu.1 | exact hu.1.1 | exact hu.1.2 | exact hu.2 | exact fd_nn (by assumption) | (split at hu <;> omega) | (split <;> omega) | exact E_inv (by assumption)), hP1 11 _ rfl, hP1 12 _ rfl, hP1 13 _ rfl, hP1 14 _ rfl, hP1 15 _ rfl, hP1 16 _ rfl, hP1 17 _ rfl⟩
  have np9 : X10P4 dC dI G ax (txK Y T K) t.heap := hP1 20 _ rfl
  have np13 : X10P8 dC dI G ax (txS Y T S) t.heap := ⟨zf70, zf71, zf72, zf73, (by first | omega | exact hu | exact hu.1 | exact hu.1.1 | exact hu.1.2 | exact hu.2 | exact fd_nn (by assumption) | (split at hu <;> omega) | (split <;> omega) | exact E_inv (by assumption)), hP1 18 _ rfl, q70.kept (FR 70 71 (by decide) (by decide) 70 (by decide) (by decide) q70.lt), q71.kept (FR 71 72 (by decide) (by decide) 71 (by decide) (by decide) q71.lt), q72.kept (FR 72 73 (by decide) (by decide) 72 (by decide) (by decide) q72.lt), q73.kept (FR 73 74 (by decide) (by decide) 73 (by decide) (by decide) q73.lt)⟩
  have np14 : X10P9 dC dI G ax (txS Y T M) t.heap := ⟨zf75, zf76, (by first | omega | exact hu | exact hu.1 | exact hu.1.1 | exact hu.1.2 | exact hu.2 | exact fd_nn (by assumption) | (split at hu <;> omega) | (split <;> omega) | exact E_inv (by assumption)), hP1 19 _ rfl, q75.kept (FR 75 76 (by decide) (by decide) 75 (by decide) (by decide) q75.lt), q76.kept (FR 76 77 (by decide) (by decide) 76 (by decide) (by decide) q76.lt)⟩
  exact ⟨⟨r, (), ho, hr.trans (txt_ca (by assumption)), ⟨np0, np1, np2, np3, np4, p5.kept (FR 18 25 (by decide) (by decide)), p6.kept (FR 25 26 (by decide) (by decide)), p7.kept (FR 26 33 (by decide) (by decide)), p8.kept (FR 33 40 (by decide) (by decide)), np9, p10.kept (FR 41 44 (by decide) (by decide)), p11.kept (FR 44 68 (by decide) (by decide)), p12.kept (FR 68 69 (by decide) (by decide)), np13, np14, p15.kept (FR 77 102 (by decide) (by decide)), p16.kept (FR 102 112 (by decide) (by decide)), tx_X hX⟩⟩, hF.wide (ad_ix [0, 1, 2, 3, 4, 5, 6, 7, 8, 9, 10, 11, 12, 13, 14, 15, 16, 17, 69, 74, 40] (by rfl) (by decide))⟩

set_option maxHeartbeats 1000000 in
set_option maxRecDepth 100000 in
theorem k_X10_faultE (l : Launch) (dC : Nat → ClassId) (dI : Nat → Nat → Nat) (G : Nat → ClassId) (sz : Nat) (ax : Nat → Nat) (hi : adInj 129 ax) (T : Nat) (Y : Nat → Int32) (fa : Int32) (N : Nat) (B : Nat) (N1 : Nat) (B1 : Nat) (N2 : Nat) (B2 : Nat) (K : Nat → Int32) (S : Nat) (M : Nat) (E : Nat → Int32) (Z : Nat → Int32) : Met l yX10_fault (Cond.code yX10_fault cX10_fault 1 (some .int) :: GT) ({ frames := 0, cells := 0, slots := 0, locals := 0 } : Room) (PcI [.ref (ax 0)] dC dI G (X10I dC dI G ax T Y fa N B N1 B1 N2 B2 K S M E Z) sz) (va_Qi (fun (r : Int32) (_ : Unit) => r = fa) (fun _ t => X10I dC dI G ax T Y fa N B N1 B1 N2 B2 K S M E Z t.heap) (adX 0 112 ax sz)) 0 0 (adX 0 112 ax sz) := by
  refine Met.pick (fun a st hp => ?_)
  obtain ⟨e0, hsz, hI, hK⟩ := hp
  subst hsz
  have hI0 := hI
  unfold X10I at hI
  obtain ⟨p0, p1, p2, p3, p4, p5, p6, p7, p8, p9, p10, p11, p12, p13, p14, p15, p16, hX⟩ := hI
  unfold X10Pr at p0
  obtain ⟨zi0_13, q0⟩ := p0
  refine ⟨_, _, _, c_X10_faultE l dC dI G _ (ax 0) (ax 1) (ax 11) (ax 18) (ax 25) (ax 40) (ax 41) (ax 44) (ax 68) (ax 69) (ax 74) (ax 77) (ax 102) fa zi0_13 , ⟨e0, rfl, (vpc q0 va_nilP), hK⟩, fun q h => Or.inr h, fun o t hq => ?_⟩
  obtain ⟨⟨r, u, ho, ⟨hr, hu⟩, -⟩, hF⟩ := hq
  exact ⟨⟨r, (), ho, hr, hI0.kept (fun j _ _ h => hF.2 _ h (Nat.not_le.mpr h))⟩, hF.wide (fun q h => Or.inr h)⟩

set_option maxHeartbeats 1000000 in
set_option maxRecDepth 100000 in
theorem k_X10_rule (l : Launch) (dC : Nat → ClassId) (dI : Nat → Nat → Nat) (G : Nat → ClassId) (sz : Nat) (ax : Nat → Nat) (hi : adInj 129 ax) (T : Nat) (Y : Nat → Int32) (fa : Int32) (N : Nat) (B : Nat) (N1 : Nat) (B1 : Nat) (N2 : Nat) (B2 : Nat) (K : Nat → Int32) (S : Nat) (M : Nat) (E : Nat → Int32) (Z : Nat → Int32) (what : Int32) : Met l yX10_rule (Cond.code yX10_rule cX10_rule 2 (some .int) :: GT) ({ frames := 0, cells := 0, slots := 0, locals := 0 } : Room) (PcI [.ref (ax 0), .int what] dC dI G (X10I dC dI G ax T Y fa N B N1 B1 N2 B2 K S M E Z) sz) (va_Qi (fun (r : Int32) (_ : Unit) => True) (fun _ t => X10I dC dI G ax T Y fa N B N1 B1 N2 B2 K S M E Z t.heap) (adX 0 112 ax sz)) 0 0 (adX 0 112 ax sz) := by
  refine Met.pick (fun a st hp => ?_)
  obtain ⟨e0, hsz, hI, hK⟩ := hp
  subst hsz
  have hI0 := hI
  unfold X10I at hI
  obtain ⟨p0, p1, p2, p3, p4, p5, p6, p7, p8, p9, p10, p11, p12, p13, p14, p15, p16, hX⟩ := hI
  unfold X10Pr at p0
  obtain ⟨zi0_13, q0⟩ := p0
  unfold X10P1 at p4
  obtain ⟨zn11_2, zf12, zf13, zf14, zf15, zf16, zf17, p4j0, p4j1, p4j2, q11, q12, q13, q14, q15, q16, q17⟩ := p4
  refine ⟨_, _, _, c_X10_rule l dC dI G _ (ax 0) (ax 1) (ax 11) (ax 18) (ax 25) (ax 40) (ax 41) (ax 44) (ax 68) (ax 69) (ax 74) (ax 77) (ax 102) (ax 12) (ax 13) (ax 14) (ax 15) (ax 16) (ax 17) N B zn11_2 fa zi0_13 what (by assumption) (by assumption) (by assumption), ⟨e0, rfl, (vpc q0 (vpc q11 va_nilP)), hK⟩, fun q h => Or.inr h, fun o t hq => ?_⟩
  obtain ⟨⟨r, u, ho, ⟨hr, hu⟩, -⟩, hF⟩ := hq
  exact ⟨⟨r, (), ho, trivial, hI0.kept (fun j _ _ h => hF.2 _ h (Nat.not_le.mpr h))⟩, hF.wide (fun q h => Or.inr h)⟩

set_option maxHeartbeats 1000000 in
set_option maxRecDepth 100000 in
theorem k_X10_stretch (l : Launch) (dC : Nat → ClassId) (dI : Nat → Nat → Nat) (G : Nat → ClassId) (sz : Nat) (ax : Nat → Nat) (hi : adInj 129 ax) (T : Nat) (Y : Nat → Int32) (fa : Int32) (N : Nat) (B : Nat) (N1 : Nat) (B1 : Nat) (N2 : Nat) (B2 : Nat) (K : Nat → Int32) (S : Nat) (M : Nat) (E : Nat → Int32) (Z : Nat → Int32) (i : Int32) (what : Int32) : Met l yX10_stretch (Cond.code yX10_stretch cX10_stretch 3 (some .int) :: GT) ({ frames := 1, cells := 0, slots := 0, locals := 21 } : Room) (PcI [.ref (ax 0), .int i, .int what] dC dI G (X10I dC dI G ax T Y fa N B N1 B1 N2 B2 K S M E Z) sz) (va_Qi (fun (r : Int32) (_ : Unit) => True) (fun _ t => X10I dC dI G ax T Y fa N B N1 B1 N2 B2 K S M E Z t.heap) (adX 0 112 ax sz)) 0 0 (adX 0 112 ax sz) := by
  refine Met.pick (fun a st hp => ?_)
  obtain ⟨e0, hsz, hI, hK⟩ := hp
  subst hsz
  have hI0 := hI
  unfold X10I at hI
  obtain ⟨p0, p1, p2, p3, p4, p5, p6, p7, p8, p9, p10, p11, p12, p13, p14, p15, p16, hX⟩ := hI
  unfold X10Pr at p0
  obtain ⟨zi0_13, q0⟩ := p0
  unfold X10P1 at p4
  obtain ⟨zn11_2, zf12, zf13, zf14, zf15, zf16, zf17, p4j0, p4j1, p4j2, q11, q12, q13, q14, q15, q16, q17⟩ := p4
  refine ⟨_, _, _, c_X10_stretch l dC dI G _ (ax 0) (ax 1) (ax 11) (ax 18) (ax 25) (ax 40) (ax 41) (ax 44) (ax 68) (ax 69) (ax 74) (ax 77) (ax 102) (ax 12) (ax 13) (ax 14) (ax 15) (ax 16) (ax 17) N B zn11_2 fa zi0_13 i what zf12 zf13 zf14 (by assumption) (by assumption) (by assumption), ⟨e0, rfl, (vpc q0 (vpc q11 (vpc q12 (vpc q13 (vpc q14 va_nilP))))), hK⟩, fun q h => Or.inr h, fun o t hq => ?_⟩
  obtain ⟨⟨r, u, ho, ⟨hr, hu⟩, -⟩, hF⟩ := hq
  exact ⟨⟨r, (), ho, trivial, hI0.kept (fun j _ _ h => hF.2 _ h (Nat.not_le.mpr h))⟩, hF.wide (fun q h => Or.inr h)⟩

set_option maxHeartbeats 1000000 in
set_option maxRecDepth 100000 in
theorem k_X10_bearer (l : Launch) (dC : Nat → ClassId) (dI : Nat → Nat → Nat) (G : Nat → ClassId) (sz : Nat) (ax : Nat → Nat) (hi : adInj 129 ax) (T : Nat) (Y : Nat → Int32) (fa : Int32) (N : Nat) (B : Nat) (N1 : Nat) (B1 : Nat) (N2 : Nat) (B2 : Nat) (K : Nat → Int32) (S : Nat) (M : Nat) (E : Nat → Int32) (Z : Nat → Int32) (i : Int32) (what : Int32) : Met l yX10_bearer (Cond.code yX10_bearer cX10_bearer 3 (some .int) :: GT) ({ frames := 1, cells := 0, slots := 0, locals := 21 } : Room) (PcI [.ref (ax 0), .int i, .int what] dC dI G (X10I dC dI G ax T Y fa N B N1 B1 N2 B2 K S M E Z) sz) (va_Qi (fun (r : Int32) (_ : Unit) => True) (fun _ t => X10I dC dI G ax T Y fa N B N1 B1 N2 B2 K S M E Z t.heap) (adX 0 112 ax sz)) 0 0 (adX 0 112 ax sz) := by
  refine Met.pick (fun a st hp => ?_)
  obtain ⟨e0, hsz, hI, hK⟩ := hp
  subst hsz
  have hI0 := hI
  unfold X10I at hI
  obtain ⟨p0, p1, p2, p3, p4, p5, p6, p7, p8, p9, p10, p11, p12, p13, p14, p15, p16, hX⟩ := hI
  unfold X10Pr at p0
  obtain ⟨zi0_13, q0⟩ := p0
  unfold X10P1 at p4
  obtain ⟨zn11_2, zf12, zf13, zf14, zf15, zf16, zf17, p4j0, p4j1, p4j2, q11, q12, q13, q14, q15, q16, q17⟩ := p4
  refine ⟨_, _, _, c_X10_bearer l dC dI G _ (ax 0) (ax 1) (ax 11) (ax 18) (ax 25) (ax 40) (ax 41) (ax 44) (ax 68) (ax 69) (ax 74) (ax 77) (ax 102) (ax 12) (ax 13) (ax 14) (ax 15) (ax 16) (ax 17) N B zn11_2 fa zi0_13 i what zf15 zf16 zf17 (by assumption) (by assumption) (by assumption), ⟨e0, rfl, (vpc q0 (vpc q11 (vpc q15 (vpc q16 (vpc q17 va_nilP))))), hK⟩, fun q h => Or.inr h, fun o t hq => ?_⟩
  obtain ⟨⟨r, u, ho, ⟨hr, hu⟩, -⟩, hF⟩ := hq
  exact ⟨⟨r, (), ho, trivial, hI0.kept (fun j _ _ h => hF.2 _ h (Nat.not_le.mpr h))⟩, hF.wide (fun q h => Or.inr h)⟩

set_option maxHeartbeats 1000000 in
set_option maxRecDepth 100000 in
theorem k_X10_start (l : Launch) (dC : Nat → ClassId) (dI : Nat → Nat → Nat) (G : Nat → ClassId) (sz : Nat) (ax : Nat → Nat) (hi : adInj 129 ax) (T : Nat) (Y : Nat → Int32) (fa : Int32) (N : Nat) (B : Nat) (N1 : Nat) (B1 : Nat) (N2 : Nat) (B2 : Nat) (K : Nat → Int32) (S : Nat) (M : Nat) (E : Nat → Int32) (Z : Nat → Int32) (v : Int32) : Met l yX10_start (Cond.code yX10_start cX10_start 3 (some .int) :: GT) ({ frames := 0, cells := 0, slots := 0, locals := 0 } : Room) (PcI [.ref (ax 0), .int v] dC dI G (X10I dC dI G ax T Y fa N B N1 B1 N2 B2 K S M E Z) sz) (va_Qi (fun (r : Int32) (_ : Unit) => True) (fun _ t => X10I dC dI G ax T Y fa N B N1 B1 N2 B2 K S M E Z t.heap) (adX 0 112 ax sz)) 0 0 (adX 0 112 ax sz) := by
  refine Met.pick (fun a st hp => ?_)
  obtain ⟨e0, hsz, hI, hK⟩ := hp
  subst hsz
  have hI0 := hI
  unfold X10I at hI
  obtain ⟨p0, p1, p2, p3, p4, p5, p6, p7, p8, p9, p10, p11, p12, p13, p14, p15, p16, hX⟩ := hI
  unfold X10Pr at p0
  obtain ⟨zi0_13, q0⟩ := p0
  unfold X10P1 at p4
  obtain ⟨zn11_2, zf12, zf13, zf14, zf15, zf16, zf17, p4j0, p4j1, p4j2, q11, q12, q13, q14, q15, q16, q17⟩ := p4
  refine ⟨_, _, _, c_X10_start l dC dI G _ (ax 0) (ax 1) (ax 11) (ax 18) (ax 25) (ax 40) (ax 41) (ax 44) (ax 68) (ax 69) (ax 74) (ax 77) (ax 102) (ax 12) (ax 13) (ax 14) (ax 15) (ax 16) (ax 17) N B zn11_2 fa zi0_13 v (by assumption) (by assumption) (by assumption), ⟨e0, rfl, (vpc q0 (vpc q11 va_nilP)), hK, vD_ix hi [0, 11] (by rfl) (by decide) (by decide)⟩, ad_ix [0, 11] (by rfl) (by decide), fun o t hq => ?_⟩
  obtain ⟨⟨r, u0, ho, ⟨hr, hu⟩, hP1, -⟩, hF⟩ := hq
  have FR : ∀ lo hi' : Nat, hi' ≤ 129 → ([0, 11] : List Nat).all (fun x => decide (x < lo) || decide (hi' ≤ x)) = true → ∀ j : Nat, lo ≤ j → j < hi' → ax j < st.heap.size → t.heap[ax j]? = st.heap[ax j]? := fun lo hi' h1 h2 => fr_ix hi h1 hF.2 [0, 11] (by rfl) (by decide) h2
  have np0 : X10Pr dC dI G ax fa t.heap := ⟨zi0_13, hP1 0 _ rfl⟩
  have np4 : X10P1 dC dI G ax N B t.heap := ⟨u0, zf12, zf13, zf14, zf15, zf16, zf17, p4j0, p4j1, (by first | omega | exact hu | exact hu.1 | exact hu.1.1 | exact hu.1.2 | exact hu.2 | exact fd_nn (by assumption) | (split at hu <;> omega) | (split <;> omega) | exact E_inv (by assumption)), hP1 1 _ rfl, q12.kept (FR 12 13 (by decide) (by decide) 12 (by decide) (by decide) q12.lt), q13.kept (FR 13 14 (by decide) (by decide) 13 (by decide) (by decide) q13.lt), q14.kept (FR 14 15 (by decide) (by decide) 14 (by decide) (by decide) q14.lt), q15.kept (FR 15 16 (by decide) (by decide) 15 (by decide) (by decide) q15.lt), q16.kept (FR 16 17 (by decide) (by decide) 16 (by decide) (by decide) q16.lt), q17.kept (FR 17 18 (by decide) (by decide) 17 (by decide) (by decide) q17.lt)⟩
  exact ⟨⟨r, (), ho, trivial, ⟨np0, p1.kept (FR 1 2 (by decide) (by decide)), p2.kept (FR 2 4 (by decide) (by decide)), p3.kept (FR 4 11 (by decide) (by decide)), np4, p5.kept (FR 18 25 (by decide) (by decide)), p6.kept (FR 25 26 (by decide) (by decide)), p7.kept (FR 26 33 (by decide) (by decide)), p8.kept (FR 33 40 (by decide) (by decide)), p9.kept (FR 40 41 (by decide) (by decide)), p10.kept (FR 41 44 (by decide) (by decide)), p11.kept (FR 44 68 (by decide) (by decide)), p12.kept (FR 68 69 (by decide) (by decide)), p13.kept (FR 69 74 (by decide) (by decide)), p14.kept (FR 74 77 (by decide) (by decide)), p15.kept (FR 77 102 (by decide) (by decide)), p16.kept (FR 102 112 (by decide) (by decide)), hX⟩⟩, hF.wide (ad_ix [0, 11] (by rfl) (by decide))⟩

set_option maxHeartbeats 1000000 in
set_option maxRecDepth 100000 in
theorem k_X10_noise (l : Launch) (dC : Nat → ClassId) (dI : Nat → Nat → Nat) (G : Nat → ClassId) (sz : Nat) (ax : Nat → Nat) (hi : adInj 129 ax) (T : Nat) (Y : Nat → Int32) (fa : Int32) (N : Nat) (B : Nat) (N1 : Nat) (B1 : Nat) (N2 : Nat) (B2 : Nat) (K : Nat → Int32) (S : Nat) (M : Nat) (E : Nat → Int32) (Z : Nat → Int32) (i : Int32) (v : Int32) : Met l yX10_noise (Cond.code yX10_noise cX10_noise 3 (some .int) :: GT) ({ frames := 1, cells := 0, slots := 0, locals := 23 } : Room) (PcI [.ref (ax 0), .int i, .int v] dC dI G (X10I dC dI G ax T Y fa N B N1 B1 N2 B2 K S M E Z) sz) (va_Qi (fun (r : Int32) (_ : Unit) => True) (fun _ t => X10I dC dI G ax T Y fa N B N1 B1 N2 B2 K S M E Z t.heap) (adX 0 112 ax sz)) 0 0 (adX 0 112 ax sz) := by
  refine Met.pick (fun a st hp => ?_)
  obtain ⟨e0, hsz, hI, hK⟩ := hp
  subst hsz
  have hI0 := hI
  unfold X10I at hI
  obtain ⟨p0, p1, p2, p3, p4, p5, p6, p7, p8, p9, p10, p11, p12, p13, p14, p15, p16, hX⟩ := hI
  unfold X10Pr at p0
  obtain ⟨zi0_13, q0⟩ := p0
  unfold X10P1 at p4
  obtain ⟨zn11_2, zf12, zf13, zf14, zf15, zf16, zf17, p4j0, p4j1, p4j2, q11, q12, q13, q14, q15, q16, q17⟩ := p4
  refine ⟨_, _, _, c_X10_noise l dC dI G _ (ax 0) (ax 1) (ax 11) (ax 18) (ax 25) (ax 40) (ax 41) (ax 44) (ax 68) (ax 69) (ax 74) (ax 77) (ax 102) (ax 12) (ax 13) (ax 14) (ax 15) (ax 16) (ax 17) N B zn11_2 fa zi0_13 i v zf12 (by assumption) (by assumption) (by assumption), ⟨e0, rfl, (vpc q0 (vpc q11 (vpc q12 va_nilP))), hK, vD_ix hi [0, 11, 12] (by rfl) (by decide) (by decide)⟩, ad_ix [0, 11, 12] (by rfl) (by decide), fun o t hq => ?_⟩
  obtain ⟨⟨r, u0, ho, ⟨hr, hu⟩, hP1, -⟩, hF⟩ := hq
  have FR : ∀ lo hi' : Nat, hi' ≤ 129 → ([0, 11, 12] : List Nat).all (fun x => decide (x < lo) || decide (hi' ≤ x)) = true → ∀ j : Nat, lo ≤ j → j < hi' → ax j < st.heap.size → t.heap[ax j]? = st.heap[ax j]? := fun lo hi' h1 h2 => fr_ix hi h1 hF.2 [0, 11, 12] (by rfl) (by decide) h2
  have np0 : X10Pr dC dI G ax fa t.heap := ⟨zi0_13, hP1 0 _ rfl⟩
  have np4 : X10P1 dC dI G ax N B t.heap := ⟨zn11_2, u0, zf13, zf14, zf15, zf16, zf17, p4j0, p4j1, p4j2, hP1 1 _ rfl, hP1 2 _ rfl, q13.kept (FR 13 14 (by decide) (by decide) 13 (by decide) (by decide) q13.lt), q14.kept (FR 14 15 (by decide) (by decide) 14 (by decide) (by decide) q14.lt), q15.kept (FR 15 16 (by decide) (by decide) 15 (by decide) (by decide) q15.lt), q16.kept (FR 16 17 (by decide) (by decide) 16 (by decide) (by decide) q16.lt), q17.kept (FR 17 18 (by decide) (by decide) 17 (by decide) (by decide) q17.lt)⟩
  exact ⟨⟨r, (), ho, trivial, ⟨np0, p1.kept (FR 1 2 (by decide) (by decide)), p2.kept (FR 2 4 (by decide) (by decide)), p3.kept (FR 4 11 (by decide) (by decide)), np4, p5.kept (FR 18 25 (by decide) (by decide)), p6.kept (FR 25 26 (by decide) (by decide)), p7.kept (FR 26 33 (by decide) (by decide)), p8.kept (FR 33 40 (by decide) (by decide)), p9.kept (FR 40 41 (by decide) (by decide)), p10.kept (FR 41 44 (by decide) (by decide)), p11.kept (FR 44 68 (by decide) (by decide)), p12.kept (FR 68 69 (by decide) (by decide)), p13.kept (FR 69 74 (by decide) (by decide)), p14.kept (FR 74 77 (by decide) (by decide)), p15.kept (FR 77 102 (by decide) (by decide)), p16.kept (FR 102 112 (by decide) (by decide)), hX⟩⟩, hF.wide (ad_ix [0, 11, 12] (by rfl) (by decide))⟩

set_option maxHeartbeats 1000000 in
set_option maxRecDepth 100000 in
theorem k_X10_cold (l : Launch) (dC : Nat → ClassId) (dI : Nat → Nat → Nat) (G : Nat → ClassId) (sz : Nat) (ax : Nat → Nat) (hi : adInj 129 ax) (T : Nat) (Y : Nat → Int32) (fa : Int32) (N : Nat) (B : Nat) (N1 : Nat) (B1 : Nat) (N2 : Nat) (B2 : Nat) (K : Nat → Int32) (S : Nat) (M : Nat) (E : Nat → Int32) (Z : Nat → Int32) (i : Int32) (v : Int32) : Met l yX10_cold (Cond.code yX10_cold cX10_cold 3 (some .int) :: GT) ({ frames := 1, cells := 0, slots := 0, locals := 23 } : Room) (PcI [.ref (ax 0), .int i, .int v] dC dI G (X10I dC dI G ax T Y fa N B N1 B1 N2 B2 K S M E Z) sz) (va_Qi (fun (r : Int32) (_ : Unit) => True) (fun _ t => X10I dC dI G ax T Y fa N B N1 B1 N2 B2 K S M E Z t.heap) (adX 0 112 ax sz)) 0 0 (adX 0 112 ax sz) := by
  refine Met.pick (fun a st hp => ?_)
  obtain ⟨e0, hsz, hI, hK⟩ := hp
  subst hsz
  have hI0 := hI
  unfold X10I at hI
  obtain ⟨p0, p1, p2, p3, p4, p5, p6, p7, p8, p9, p10, p11, p12, p13, p14, p15, p16, hX⟩ := hI
  unfold X10Pr at p0
  obtain ⟨zi0_13, q0⟩ := p0
  unfold X10P1 at p4
  obtain ⟨zn11_2, zf12, zf13, zf14, zf15, zf16, zf17, p4j0, p4j1, p4j2, q11, q12, q13, q14, q15, q16, q17⟩ := p4
  refine ⟨_, _, _, c_X10_cold l dC dI G _ (ax 0) (ax 1) (ax 11) (ax 18) (ax 25) (ax 40) (ax 41) (ax 44) (ax 68) (ax 69) (ax 74) (ax 77) (ax 102) (ax 12) (ax 13) (ax 14) (ax 15) (ax 16) (ax 17) N B zn11_2 fa zi0_13 i v zf13 (by assumption) (by assumption) (by assumption), ⟨e0, rfl, (vpc q0 (vpc q11 (vpc q13 va_nilP))), hK, vD_ix hi [0, 11, 13] (by rfl) (by decide) (by decide)⟩, ad_ix [0, 11, 13] (by rfl) (by decide), fun o t hq => ?_⟩
  obtain ⟨⟨r, u0, ho, ⟨hr, hu⟩, hP1, -⟩, hF⟩ := hq
  have FR : ∀ lo hi' : Nat, hi' ≤ 129 → ([0, 11, 13] : List Nat).all (fun x => decide (x < lo) || decide (hi' ≤ x)) = true → ∀ j : Nat, lo ≤ j → j < hi' → ax j < st.heap.size → t.heap[ax j]? = st.heap[ax j]? := fun lo hi' h1 h2 => fr_ix hi h1 hF.2 [0, 11, 13] (by rfl) (by decide) h2
  have np0 : X10Pr dC dI G ax fa t.heap := ⟨zi0_13, hP1 0 _ rfl⟩
  have np4 : X10P1 dC dI G ax N B t.heap := ⟨zn11_2, zf12, u0, zf14, zf15, zf16, zf17, p4j0, p4j1, p4j2, hP1 1 _ rfl, q12.kept (FR 12 13 (by decide) (by decide) 12 (by decide) (by decide) q12.lt), hP1 2 _ rfl, q14.kept (FR 14 15 (by decide) (by decide) 14 (by decide) (by decide) q14.lt), q15.kept (FR 15 16 (by decide) (by decide) 15 (by decide) (by decide) q15.lt), q16.kept (FR 16 17 (by decide) (by decide) 16 (by decide) (by decide) q16.lt), q17.kept (FR 17 18 (by decide) (by decide) 17 (by decide) (by decide) q17.lt)⟩
  exact ⟨⟨r, (), ho, trivial, ⟨np0, p1.kept (FR 1 2 (by decide) (by decide)), p2.kept (FR 2 4 (by decide) (by decide)), p3.kept (FR 4 11 (by decide) (by decide)), np4, p5.kept (FR 18 25 (by decide) (by decide)), p6.kept (FR 25 26 (by decide) (by decide)), p7.kept (FR 26 33 (by decide) (by decide)), p8.kept (FR 33 40 (by decide) (by decide)), p9.kept (FR 40 41 (by decide) (by decide)), p10.kept (FR 41 44 (by decide) (by decide)), p11.kept (FR 44 68 (by decide) (by decide)), p12.kept (FR 68 69 (by decide) (by decide)), p13.kept (FR 69 74 (by decide) (by decide)), p14.kept (FR 74 77 (by decide) (by decide)), p15.kept (FR 77 102 (by decide) (by decide)), p16.kept (FR 102 112 (by decide) (by decide)), hX⟩⟩, hF.wide (ad_ix [0, 11, 13] (by rfl) (by decide))⟩

set_option maxHeartbeats 1000000 in
set_option maxRecDepth 100000 in
theorem k_X10_step (l : Launch) (dC : Nat → ClassId) (dI : Nat → Nat → Nat) (G : Nat → ClassId) (sz : Nat) (ax : Nat → Nat) (hi : adInj 129 ax) (T : Nat) (Y : Nat → Int32) (fa : Int32) (N : Nat) (B : Nat) (N1 : Nat) (B1 : Nat) (N2 : Nat) (B2 : Nat) (K : Nat → Int32) (S : Nat) (M : Nat) (E : Nat → Int32) (Z : Nat → Int32) (i : Int32) (v : Int32) : Met l yX10_step (Cond.code yX10_step cX10_step 3 (some .int) :: GT) ({ frames := 1, cells := 0, slots := 0, locals := 23 } : Room) (PcI [.ref (ax 0), .int i, .int v] dC dI G (X10I dC dI G ax T Y fa N B N1 B1 N2 B2 K S M E Z) sz) (va_Qi (fun (r : Int32) (_ : Unit) => True) (fun _ t => X10I dC dI G ax T Y fa N B N1 B1 N2 B2 K S M E Z t.heap) (adX 0 112 ax sz)) 0 0 (adX 0 112 ax sz) := by
  refine Met.pick (fun a st hp => ?_)
  obtain ⟨e0, hsz, hI, hK⟩ := hp
  subst hsz
  have hI0 := hI
  unfold X10I at hI
  obtain ⟨p0, p1, p2, p3, p4, p5, p6, p7, p8, p9, p10, p11, p12, p13, p14, p15, p16, hX⟩ := hI
  unfold X10Pr at p0
  obtain ⟨zi0_13, q0⟩ := p0
  unfold X10P1 at p4
  obtain ⟨zn11_2, zf12, zf13, zf14, zf15, zf16, zf17, p4j0, p4j1, p4j2, q11, q12, q13, q14, q15, q16, q17⟩ := p4
  refine ⟨_, _, _, c_X10_step l dC dI G _ (ax 0) (ax 1) (ax 11) (ax 18) (ax 25) (ax 40) (ax 41) (ax 44) (ax 68) (ax 69) (ax 74) (ax 77) (ax 102) (ax 12) (ax 13) (ax 14) (ax 15) (ax 16) (ax 17) N B zn11_2 fa zi0_13 i v zf16 (by assumption) (by assumption) (by assumption), ⟨e0, rfl, (vpc q0 (vpc q11 (vpc q16 va_nilP))), hK, vD_ix hi [0, 11, 16] (by rfl) (by decide) (by decide)⟩, ad_ix [0, 11, 16] (by rfl) (by decide), fun o t hq => ?_⟩
  obtain ⟨⟨r, u0, ho, ⟨hr, hu⟩, hP1, -⟩, hF⟩ := hq
  have FR : ∀ lo hi' : Nat, hi' ≤ 129 → ([0, 11, 16] : List Nat).all (fun x => decide (x < lo) || decide (hi' ≤ x)) = true → ∀ j : Nat, lo ≤ j → j < hi' → ax j < st.heap.size → t.heap[ax j]? = st.heap[ax j]? := fun lo hi' h1 h2 => fr_ix hi h1 hF.2 [0, 11, 16] (by rfl) (by decide) h2
  have np0 : X10Pr dC dI G ax fa t.heap := ⟨zi0_13, hP1 0 _ rfl⟩
  have np4 : X10P1 dC dI G ax N B t.heap := ⟨zn11_2, zf12, zf13, zf14, zf15, u0, zf17, p4j0, p4j1, p4j2, hP1 1 _ rfl, q12.kept (FR 12 13 (by decide) (by decide) 12 (by decide) (by decide) q12.lt), q13.kept (FR 13 14 (by decide) (by decide) 13 (by decide) (by decide) q13.lt), q14.kept (FR 14 15 (by decide) (by decide) 14 (by decide) (by decide) q14.lt), q15.kept (FR 15 16 (by decide) (by decide) 15 (by decide) (by decide) q15.lt), hP1 2 _ rfl, q17.kept (FR 17 18 (by decide) (by decide) 17 (by decide) (by decide) q17.lt)⟩
  exact ⟨⟨r, (), ho, trivial, ⟨np0, p1.kept (FR 1 2 (by decide) (by decide)), p2.kept (FR 2 4 (by decide) (by decide)), p3.kept (FR 4 11 (by decide) (by decide)), np4, p5.kept (FR 18 25 (by decide) (by decide)), p6.kept (FR 25 26 (by decide) (by decide)), p7.kept (FR 26 33 (by decide) (by decide)), p8.kept (FR 33 40 (by decide) (by decide)), p9.kept (FR 40 41 (by decide) (by decide)), p10.kept (FR 41 44 (by decide) (by decide)), p11.kept (FR 44 68 (by decide) (by decide)), p12.kept (FR 68 69 (by decide) (by decide)), p13.kept (FR 69 74 (by decide) (by decide)), p14.kept (FR 74 77 (by decide) (by decide)), p15.kept (FR 77 102 (by decide) (by decide)), p16.kept (FR 102 112 (by decide) (by decide)), hX⟩⟩, hF.wide (ad_ix [0, 11, 16] (by rfl) (by decide))⟩

set_option maxHeartbeats 1000000 in
set_option maxRecDepth 100000 in
theorem k_X10_warm (l : Launch) (dC : Nat → ClassId) (dI : Nat → Nat → Nat) (G : Nat → ClassId) (sz : Nat) (ax : Nat → Nat) (hi : adInj 129 ax) (T : Nat) (Y : Nat → Int32) (fa : Int32) (N : Nat) (B : Nat) (N1 : Nat) (B1 : Nat) (N2 : Nat) (B2 : Nat) (K : Nat → Int32) (S : Nat) (M : Nat) (E : Nat → Int32) (Z : Nat → Int32) (i : Int32) (v : Int32) : Met l yX10_warm (Cond.code yX10_warm cX10_warm 3 (some .int) :: GT) ({ frames := 1, cells := 0, slots := 0, locals := 23 } : Room) (PcI [.ref (ax 0), .int i, .int v] dC dI G (X10I dC dI G ax T Y fa N B N1 B1 N2 B2 K S M E Z) sz) (va_Qi (fun (r : Int32) (_ : Unit) => True) (fun _ t => X10I dC dI G ax T Y fa N B N1 B1 N2 B2 K S M E Z t.heap) (adX 0 112 ax sz)) 0 0 (adX 0 112 ax sz) := by
  refine Met.pick (fun a st hp => ?_)
  obtain ⟨e0, hsz, hI, hK⟩ := hp
  subst hsz
  have hI0 := hI
  unfold X10I at hI
  obtain ⟨p0, p1, p2, p3, p4, p5, p6, p7, p8, p9, p10, p11, p12, p13, p14, p15, p16, hX⟩ := hI
  unfold X10Pr at p0
  obtain ⟨zi0_13, q0⟩ := p0
  unfold X10P1 at p4
  obtain ⟨zn11_2, zf12, zf13, zf14, zf15, zf16, zf17, p4j0, p4j1, p4j2, q11, q12, q13, q14, q15, q16, q17⟩ := p4
  refine ⟨_, _, _, c_X10_warm l dC dI G _ (ax 0) (ax 1) (ax 11) (ax 18) (ax 25) (ax 40) (ax 41) (ax 44) (ax 68) (ax 69) (ax 74) (ax 77) (ax 102) (ax 12) (ax 13) (ax 14) (ax 15) (ax 16) (ax 17) N B zn11_2 fa zi0_13 i v zf17 (by assumption) (by assumption) (by assumption), ⟨e0, rfl, (vpc q0 (vpc q11 (vpc q17 va_nilP))), hK, vD_ix hi [0, 11, 17] (by rfl) (by decide) (by decide)⟩, ad_ix [0, 11, 17] (by rfl) (by decide), fun o t hq => ?_⟩
  obtain ⟨⟨r, u0, ho, ⟨hr, hu⟩, hP1, -⟩, hF⟩ := hq
  have FR : ∀ lo hi' : Nat, hi' ≤ 129 → ([0, 11, 17] : List Nat).all (fun x => decide (x < lo) || decide (hi' ≤ x)) = true → ∀ j : Nat, lo ≤ j → j < hi' → ax j < st.heap.size → t.heap[ax j]? = st.heap[ax j]? := fun lo hi' h1 h2 => fr_ix hi h1 hF.2 [0, 11, 17] (by rfl) (by decide) h2
  have np0 : X10Pr dC dI G ax fa t.heap := ⟨zi0_13, hP1 0 _ rfl⟩
  have np4 : X10P1 dC dI G ax N B t.heap := ⟨zn11_2, zf12, zf13, zf14, zf15, zf16, u0, p4j0, p4j1, p4j2, hP1 1 _ rfl, q12.kept (FR 12 13 (by decide) (by decide) 12 (by decide) (by decide) q12.lt), q13.kept (FR 13 14 (by decide) (by decide) 13 (by decide) (by decide) q13.lt), q14.kept (FR 14 15 (by decide) (by decide) 14 (by decide) (by decide) q14.lt), q15.kept (FR 15 16 (by decide) (by decide) 15 (by decide) (by decide) q15.lt), q16.kept (FR 16 17 (by decide) (by decide) 16 (by decide) (by decide) q16.lt), hP1 2 _ rfl⟩
  exact ⟨⟨r, (), ho, trivial, ⟨np0, p1.kept (FR 1 2 (by decide) (by decide)), p2.kept (FR 2 4 (by decide) (by decide)), p3.kept (FR 4 11 (by decide) (by decide)), np4, p5.kept (FR 18 25 (by decide) (by decide)), p6.kept (FR 25 26 (by decide) (by decide)), p7.kept (FR 26 33 (by decide) (by decide)), p8.kept (FR 33 40 (by decide) (by decide)), p9.kept (FR 40 41 (by decide) (by decide)), p10.kept (FR 41 44 (by decide) (by decide)), p11.kept (FR 44 68 (by decide) (by decide)), p12.kept (FR 68 69 (by decide) (by decide)), p13.kept (FR 69 74 (by decide) (by decide)), p14.kept (FR 74 77 (by decide) (by decide)), p15.kept (FR 77 102 (by decide) (by decide)), p16.kept (FR 102 112 (by decide) (by decide)), hX⟩⟩, hF.wide (ad_ix [0, 11, 17] (by rfl) (by decide))⟩

set_option maxHeartbeats 1000000 in
set_option maxRecDepth 100000 in
theorem k_X10_put (l : Launch) (dC : Nat → ClassId) (dI : Nat → Nat → Nat) (G : Nat → ClassId) (sz : Nat) (ax : Nat → Nat) (hi : adInj 129 ax) (T : Nat) (Y : Nat → Int32) (fa : Int32) (N : Nat) (B : Nat) (N1 : Nat) (B1 : Nat) (N2 : Nat) (B2 : Nat) (K : Nat → Int32) (S : Nat) (M : Nat) (E : Nat → Int32) (Z : Nat → Int32) (i : Int32) (k : Int32) : Met l yX10_put (Cond.code yX10_put cX10_put 4 (some .int) :: GT) ({ frames := 1, cells := 0, slots := 0, locals := 21 } : Room) (PcI [.ref (ax 0), .int i, .int k] dC dI G (X10I dC dI G ax T Y fa N B N1 B1 N2 B2 K S M E Z) sz) (va_Qi (fun (r : Int32) (_ : Unit) => True) (fun _ t => X10I dC dI G ax T Y fa N B N1 B1 N2 B2 K S M E Z t.heap) (adX 0 112 ax sz)) 0 0 (adX 0 112 ax sz) := by
  refine Met.pick (fun a st hp => ?_)
  obtain ⟨e0, hsz, hI, hK⟩ := hp
  subst hsz
  have hI0 := hI
  unfold X10I at hI
  obtain ⟨p0, p1, p2, p3, p4, p5, p6, p7, p8, p9, p10, p11, p12, p13, p14, p15, p16, hX⟩ := hI
  unfold X10Pr at p0
  obtain ⟨zi0_13, q0⟩ := p0
  unfold X10P1 at p4
  obtain ⟨zn11_2, zf12, zf13, zf14, zf15, zf16, zf17, p4j0, p4j1, p4j2, q11, q12, q13, q14, q15, q16, q17⟩ := p4
  refine ⟨_, _, _, c_X10_put l dC dI G _ (ax 0) (ax 1) (ax 11) (ax 18) (ax 25) (ax 40) (ax 41) (ax 44) (ax 68) (ax 69) (ax 74) (ax 77) (ax 102) (ax 12) (ax 13) (ax 14) (ax 15) (ax 16) (ax 17) N B zn11_2 fa zi0_13 i k zf14 (by assumption) (by assumption) (by assumption), ⟨e0, rfl, (vpc q0 (vpc q11 (vpc q14 va_nilP))), hK, vD_ix hi [0, 11, 14] (by rfl) (by decide) (by decide)⟩, ad_ix [0, 11, 14] (by rfl) (by decide), fun o t hq => ?_⟩
  obtain ⟨⟨r, u0, ho, ⟨hr, hu⟩, hP1, -⟩, hF⟩ := hq
  have FR : ∀ lo hi' : Nat, hi' ≤ 129 → ([0, 11, 14] : List Nat).all (fun x => decide (x < lo) || decide (hi' ≤ x)) = true → ∀ j : Nat, lo ≤ j → j < hi' → ax j < st.heap.size → t.heap[ax j]? = st.heap[ax j]? := fun lo hi' h1 h2 => fr_ix hi h1 hF.2 [0, 11, 14] (by rfl) (by decide) h2
  have np0 : X10Pr dC dI G ax fa t.heap := ⟨zi0_13, hP1 0 _ rfl⟩
  have np4 : X10P1 dC dI G ax N B t.heap := ⟨zn11_2, zf12, zf13, u0, zf15, zf16, zf17, p4j0, p4j1, p4j2, hP1 1 _ rfl, q12.kept (FR 12 13 (by decide) (by decide) 12 (by decide) (by decide) q12.lt), q13.kept (FR 13 14 (by decide) (by decide) 13 (by decide) (by decide) q13.lt), hP1 2 _ rfl, q15.kept (FR 15 16 (by decide) (by decide) 15 (by decide) (by decide) q15.lt), q16.kept (FR 16 17 (by decide) (by decide) 16 (by decide) (by decide) q16.lt), q17.kept (FR 17 18 (by decide) (by decide) 17 (by decide) (by decide) q17.lt)⟩
  exact ⟨⟨r, (), ho, trivial, ⟨np0, p1.kept (FR 1 2 (by decide) (by decide)), p2.kept (FR 2 4 (by decide) (by decide)), p3.kept (FR 4 11 (by decide) (by decide)), np4, p5.kept (FR 18 25 (by decide) (by decide)), p6.kept (FR 25 26 (by decide) (by decide)), p7.kept (FR 26 33 (by decide) (by decide)), p8.kept (FR 33 40 (by decide) (by decide)), p9.kept (FR 40 41 (by decide) (by decide)), p10.kept (FR 41 44 (by decide) (by decide)), p11.kept (FR 44 68 (by decide) (by decide)), p12.kept (FR 68 69 (by decide) (by decide)), p13.kept (FR 69 74 (by decide) (by decide)), p14.kept (FR 74 77 (by decide) (by decide)), p15.kept (FR 77 102 (by decide) (by decide)), p16.kept (FR 102 112 (by decide) (by decide)), hX⟩⟩, hF.wide (ad_ix [0, 11, 14] (by rfl) (by decide))⟩

set_option maxHeartbeats 1000000 in
set_option maxRecDepth 100000 in
theorem k_X10_harm (l : Launch) (dC : Nat → ClassId) (dI : Nat → Nat → Nat) (G : Nat → ClassId) (sz : Nat) (ax : Nat → Nat) (hi : adInj 129 ax) (T : Nat) (Y : Nat → Int32) (fa : Int32) (N : Nat) (B : Nat) (N1 : Nat) (B1 : Nat) (N2 : Nat) (B2 : Nat) (K : Nat → Int32) (S : Nat) (M : Nat) (E : Nat → Int32) (Z : Nat → Int32) (i : Int32) (g : Int32) (k : Int32) : Met l yX10_harm (Cond.code yX10_harm cX10_harm 4 (some .int) :: GT) ({ frames := 3, cells := 0, slots := 0, locals := 67 } : Room) (PcI [.ref (ax 0), .int i, .int g, .int k] dC dI G (X10I dC dI G ax T Y fa N B N1 B1 N2 B2 K S M E Z) sz) (va_Qi (fun (r : Int32) (_ : Unit) => True) (fun _ t => X10I dC dI G ax T Y fa N B N1 B1 N2 B2 K S M E Z t.heap) (adX 0 112 ax sz)) 0 0 (adX 0 112 ax sz) := by
  refine Met.pick (fun a st hp => ?_)
  obtain ⟨e0, hsz, hI, hK⟩ := hp
  subst hsz
  have hI0 := hI
  unfold X10I at hI
  obtain ⟨p0, p1, p2, p3, p4, p5, p6, p7, p8, p9, p10, p11, p12, p13, p14, p15, p16, hX⟩ := hI
  unfold X10Pr at p0
  obtain ⟨zi0_13, q0⟩ := p0
  unfold X10P1 at p4
  obtain ⟨zn11_2, zf12, zf13, zf14, zf15, zf16, zf17, p4j0, p4j1, p4j2, q11, q12, q13, q14, q15, q16, q17⟩ := p4
  refine ⟨_, _, _, c_X10_harm l dC dI G _ (ax 0) (ax 1) (ax 11) (ax 18) (ax 25) (ax 40) (ax 41) (ax 44) (ax 68) (ax 69) (ax 74) (ax 77) (ax 102) (ax 12) (ax 13) (ax 14) (ax 15) (ax 16) (ax 17) N B zn11_2 fa zi0_13 i g k zf12 zf13 zf15 zf16 zf17 (by assumption) (by assumption) (by assumption), ⟨e0, rfl, (vpc q0 (vpc q11 (vpc q12 (vpc q13 (vpc q15 (vpc q16 (vpc q17 va_nilP))))))), hK⟩, fun q h => Or.inr h, fun o t hq => ?_⟩
  obtain ⟨⟨r, u, ho, ⟨hr, hu⟩, -⟩, hF⟩ := hq
  exact ⟨⟨r, (), ho, trivial, hI0.kept (fun j _ _ h => hF.2 _ h (Nat.not_le.mpr h))⟩, hF.wide (fun q h => Or.inr h)⟩

set_option maxHeartbeats 1000000 in
set_option maxRecDepth 100000 in
theorem k_X10_wakes (l : Launch) (dC : Nat → ClassId) (dI : Nat → Nat → Nat) (G : Nat → ClassId) (sz : Nat) (ax : Nat → Nat) (hi : adInj 129 ax) (T : Nat) (Y : Nat → Int32) (fa : Int32) (N : Nat) (B : Nat) (N1 : Nat) (B1 : Nat) (N2 : Nat) (B2 : Nat) (K : Nat → Int32) (S : Nat) (M : Nat) (E : Nat → Int32) (Z : Nat → Int32) (what : Int32) : Met l yX10_wakes (Cond.code yX10_wakes cX10_wakes 2 (some .long) :: GT) ({ frames := 5, cells := 0, slots := 0, locals := 112 } : Room) (PcI [.ref (ax 0), .int what] dC dI G (X10I dC dI G ax T Y fa N B N1 B1 N2 B2 K S M E Z) sz) (va_Ql (fun (r : Int64) (_ : Unit) => True) (fun _ t => X10I dC dI G ax T Y fa N B N1 B1 N2 B2 K S M E Z t.heap) (adX 0 112 ax sz)) 0 0 (adX 0 112 ax sz) := by
  refine Met.pick (fun a st hp => ?_)
  obtain ⟨e0, hsz, hI, hK⟩ := hp
  subst hsz
  have hI0 := hI
  unfold X10I at hI
  obtain ⟨p0, p1, p2, p3, p4, p5, p6, p7, p8, p9, p10, p11, p12, p13, p14, p15, p16, hX⟩ := hI
  unfold X10Pr at p0
  obtain ⟨zi0_13, q0⟩ := p0
  unfold X10P1 at p4
  obtain ⟨zn11_2, zf12, zf13, zf14, zf15, zf16, zf17, p4j0, p4j1, p4j2, q11, q12, q13, q14, q15, q16, q17⟩ := p4
  unfold X10P5 at p10
  obtain ⟨zl41_0, zf42, zf43, q41, q42, q43⟩ := p10
  refine ⟨_, _, _, c_X10_wakes l dC dI G _ (ax 0) (ax 1) (ax 11) (ax 18) (ax 25) (ax 40) (ax 41) (ax 44) (ax 68) (ax 69) (ax 74) (ax 77) (ax 102) (ax 42) (ax 43) (ax 12) (ax 13) (ax 14) (ax 15) (ax 16) (ax 17) N B zn11_2 fa zi0_13 what zl41_0 zf12 zf13 zf14 zf15 zf16 zf17 zf42 zf43 (by assumption) (by assumption) (by assumption), ⟨e0, rfl, (vpc q0 (vpc q41 (vpc q42 (vpc q43 (vpc q11 (vpc q12 (vpc q13 (vpc q14 (vpc q15 (vpc q16 (vpc q17 va_nilP))))))))))), hK, vD_ix hi [0, 41, 42, 43, 11, 12, 13, 14, 15, 16, 17] (by rfl) (by decide) (by decide)⟩, ad_ix [0, 41, 42, 43, 11, 12, 13, 14, 15, 16, 17] (by rfl) (by decide), fun o t hq => ?_⟩
  obtain ⟨⟨r, ⟨u0, u1, u2⟩, ho, ⟨hr, hu⟩, hP1, -⟩, hF⟩ := hq
  have FR : ∀ lo hi' : Nat, hi' ≤ 129 → ([0, 41, 42, 43, 11, 12, 13, 14, 15, 16, 17] : List Nat).all (fun x => decide (x < lo) || decide (hi' ≤ x)) = true → ∀ j : Nat, lo ≤ j → j < hi' → ax j < st.heap.size → t.heap[ax j]? = st.heap[ax j]? := fun lo hi' h1 h2 => fr_ix hi h1 hF.2 [0, 41, 42, 43, 11, 12, 13, 14, 15, 16, 17] (by rfl) (by decide) h2
  have np0 : X10Pr dC dI G ax fa t.heap := ⟨zi0_13, hP1 0 _ rfl⟩
  have np4 : X10P1 dC dI G ax N B t.heap := ⟨zn11_2, zf12, zf13, zf14, zf15, zf16, zf17, p4j0, p4j1, p4j2, hP1 4 _ rfl, hP1 5 _ rfl, hP1 6 _ rfl, hP1 7 _ rfl, hP1 8 _ rfl, hP1 9 _ rfl, hP1 10 _ rfl⟩
  have np10 : X10P5 dC dI G ax t.heap := ⟨u0, u1, u2, hP1 1 _ rfl, hP1 2 _ rfl, hP1 3 _ rfl⟩
  exact ⟨⟨r, (), ho, trivial, ⟨np0, p1.kept (FR 1 2 (by decide) (by decide)), p2.kept (FR 2 4 (by decide) (by decide)), p3.kept (FR 4 11 (by decide) (by decide)), np4, p5.kept (FR 18 25 (by decide) (by decide)), p6.kept (FR 25 26 (by decide) (by decide)), p7.kept (FR 26 33 (by decide) (by decide)), p8.kept (FR 33 40 (by decide) (by decide)), p9.kept (FR 40 41 (by decide) (by decide)), np10, p11.kept (FR 44 68 (by decide) (by decide)), p12.kept (FR 68 69 (by decide) (by decide)), p13.kept (FR 69 74 (by decide) (by decide)), p14.kept (FR 74 77 (by decide) (by decide)), p15.kept (FR 77 102 (by decide) (by decide)), p16.kept (FR 102 112 (by decide) (by decide)), hX⟩⟩, hF.wide (ad_ix [0, 41, 42, 43, 11, 12, 13, 14, 15, 16, 17] (by rfl) (by decide))⟩

set_option maxHeartbeats 1000000 in
set_option maxRecDepth 100000 in
theorem k_X10_awake (l : Launch) (dC : Nat → ClassId) (dI : Nat → Nat → Nat) (G : Nat → ClassId) (sz : Nat) (ax : Nat → Nat) (hi : adInj 129 ax) (T : Nat) (Y : Nat → Int32) (fa : Int32) (N : Nat) (B : Nat) (N1 : Nat) (B1 : Nat) (N2 : Nat) (B2 : Nat) (K : Nat → Int32) (S : Nat) (M : Nat) (E : Nat → Int32) (Z : Nat → Int32) (i : Int32) (what : Int32) : Met l yX10_awake (Cond.code yX10_awake cX10_awake 3 (some .long) :: GT) ({ frames := 6, cells := 0, slots := 0, locals := 135 } : Room) (PcI [.ref (ax 0), .int i, .int what] dC dI G (X10I dC dI G ax T Y fa N B N1 B1 N2 B2 K S M E Z) sz) (va_Ql (fun (r : Int64) (_ : Unit) => True) (fun _ t => X10I dC dI G ax T Y fa N B N1 B1 N2 B2 K S M E Z t.heap) (adX 0 112 ax sz)) 0 0 (adX 0 112 ax sz) := by
  refine Met.pick (fun a st hp => ?_)
  obtain ⟨e0, hsz, hI, hK⟩ := hp
  subst hsz
  have hI0 := hI
  unfold X10I at hI
  obtain ⟨p0, p1, p2, p3, p4, p5, p6, p7, p8, p9, p10, p11, p12, p13, p14, p15, p16, hX⟩ := hI
  unfold X10Pr at p0
  obtain ⟨zi0_13, q0⟩ := p0
  unfold X10P1 at p4
  obtain ⟨zn11_2, zf12, zf13, zf14, zf15, zf16, zf17, p4j0, p4j1, p4j2, q11, q12, q13, q14, q15, q16, q17⟩ := p4
  unfold X10P5 at p10
  obtain ⟨zl41_0, zf42, zf43, q41, q42, q43⟩ := p10
  refine ⟨_, _, _, c_X10_awake l dC dI G _ (ax 0) (ax 1) (ax 11) (ax 18) (ax 25) (ax 40) (ax 41) (ax 44) (ax 68) (ax 69) (ax 74) (ax 77) (ax 102) (ax 42) (ax 43) (ax 12) (ax 13) (ax 14) (ax 15) (ax 16) (ax 17) N B zn11_2 fa zi0_13 i what zl41_0 zf12 zf13 zf14 zf15 zf16 zf17 zf42 zf43 (by assumption) (by assumption) (by assumption), ⟨e0, rfl, (vpc q0 (vpc q41 (vpc q42 (vpc q43 (vpc q11 (vpc q12 (vpc q13 (vpc q14 (vpc q15 (vpc q16 (vpc q17 va_nilP))))))))))), hK, vD_ix hi [0, 41, 42, 43, 11, 12, 13, 14, 15, 16, 17] (by rfl) (by decide) (by decide)⟩, ad_ix [0, 41, 42, 43, 11, 12, 13, 14, 15, 16, 17] (by rfl) (by decide), fun o t hq => ?_⟩
  obtain ⟨⟨r, ⟨u0, u1, u2⟩, ho, ⟨hr, hu⟩, hP1, -⟩, hF⟩ := hq
  have FR : ∀ lo hi' : Nat, hi' ≤ 129 → ([0, 41, 42, 43, 11, 12, 13, 14, 15, 16, 17] : List Nat).all (fun x => decide (x < lo) || decide (hi' ≤ x)) = true → ∀ j : Nat, lo ≤ j → j < hi' → ax j < st.heap.size → t.heap[ax j]? = st.heap[ax j]? := fun lo hi' h1 h2 => fr_ix hi h1 hF.2 [0, 41, 42, 43, 11, 12, 13, 14, 15, 16, 17] (by rfl) (by decide) h2
  have np0 : X10Pr dC dI G ax fa t.heap := ⟨zi0_13, hP1 0 _ rfl⟩
  have np4 : X10P1 dC dI G ax N B t.heap := ⟨zn11_2, zf12, zf13, zf14, zf15, zf16, zf17, p4j0, p4j1, p4j2, hP1 4 _ rfl, hP1 5 _ rfl, hP1 6 _ rfl, hP1 7 _ rfl, hP1 8 _ rfl, hP1 9 _ rfl, hP1 10 _ rfl⟩
  have np10 : X10P5 dC dI G ax t.heap := ⟨u0, u1, u2, hP1 1 _ rfl, hP1 2 _ rfl, hP1 3 _ rfl⟩
  exact ⟨⟨r, (), ho, trivial, ⟨np0, p1.kept (FR 1 2 (by decide) (by decide)), p2.kept (FR 2 4 (by decide) (by decide)), p3.kept (FR 4 11 (by decide) (by decide)), np4, p5.kept (FR 18 25 (by decide) (by decide)), p6.kept (FR 25 26 (by decide) (by decide)), p7.kept (FR 26 33 (by decide) (by decide)), p8.kept (FR 33 40 (by decide) (by decide)), p9.kept (FR 40 41 (by decide) (by decide)), np10, p11.kept (FR 44 68 (by decide) (by decide)), p12.kept (FR 68 69 (by decide) (by decide)), p13.kept (FR 69 74 (by decide) (by decide)), p14.kept (FR 74 77 (by decide) (by decide)), p15.kept (FR 77 102 (by decide) (by decide)), p16.kept (FR 102 112 (by decide) (by decide)), hX⟩⟩, hF.wide (ad_ix [0, 41, 42, 43, 11, 12, 13, 14, 15, 16, 17] (by rfl) (by decide))⟩

set_option maxHeartbeats 1000000 in
set_option maxRecDepth 100000 in
theorem k_X10_depth (l : Launch) (dC : Nat → ClassId) (dI : Nat → Nat → Nat) (G : Nat → ClassId) (sz : Nat) (ax : Nat → Nat) (hi : adInj 129 ax) (T : Nat) (Y : Nat → Int32) (fa : Int32) (N : Nat) (B : Nat) (N1 : Nat) (B1 : Nat) (N2 : Nat) (B2 : Nat) (K : Nat → Int32) (S : Nat) (M : Nat) (E : Nat → Int32) (Z : Nat → Int32) (i : Int32) (d : Int32) (what : Int32) : Met l yX10_depth (Cond.code yX10_depth cX10_depth 4 (some .long) :: GT) ({ frames := 5, cells := 0, slots := 0, locals := 112 } : Room) (PcI [.ref (ax 0), .int i, .int d, .int what] dC dI G (X10I dC dI G ax T Y fa N B N1 B1 N2 B2 K S M E Z) sz) (va_Ql (fun (r : Int64) (_ : Unit) => True) (fun _ t => X10I dC dI G ax T Y fa N B N1 B1 N2 B2 K S M E Z t.heap) (adX 0 112 ax sz)) 0 0 (adX 0 112 ax sz) := by
  refine Met.pick (fun a st hp => ?_)
  obtain ⟨e0, hsz, hI, hK⟩ := hp
  subst hsz
  have hI0 := hI
  unfold X10I at hI
  obtain ⟨p0, p1, p2, p3, p4, p5, p6, p7, p8, p9, p10, p11, p12, p13, p14, p15, p16, hX⟩ := hI
  unfold X10Pr at p0
  obtain ⟨zi0_13, q0⟩ := p0
  unfold X10P1 at p4
  obtain ⟨zn11_2, zf12, zf13, zf14, zf15, zf16, zf17, p4j0, p4j1, p4j2, q11, q12, q13, q14, q15, q16, q17⟩ := p4
  unfold X10P5 at p10
  obtain ⟨zl41_0, zf42, zf43, q41, q42, q43⟩ := p10
  refine ⟨_, _, _, c_X10_depth l dC dI G _ (ax 0) (ax 1) (ax 11) (ax 18) (ax 25) (ax 40) (ax 41) (ax 44) (ax 68) (ax 69) (ax 74) (ax 77) (ax 102) (ax 42) (ax 43) (ax 12) (ax 13) (ax 14) (ax 15) (ax 16) (ax 17) N B zn11_2 fa zi0_13 i d what zl41_0 zf12 zf13 zf14 zf15 zf16 zf17 zf42 zf43 (by assumption) (by assumption) (by assumption), ⟨e0, rfl, (vpc q0 (vpc q41 (vpc q42 (vpc q43 (vpc q11 (vpc q12 (vpc q13 (vpc q14 (vpc q15 (vpc q16 (vpc q17 va_nilP))))))))))), hK, vD_ix hi [0, 41, 42, 43, 11, 12, 13, 14, 15, 16, 17] (by rfl) (by decide) (by decide)⟩, ad_ix [0, 41, 42, 43, 11, 12, 13, 14, 15, 16, 17] (by rfl) (by decide), fun o t hq => ?_⟩
  obtain ⟨⟨r, ⟨u0, u1, u2⟩, ho, ⟨hr, hu⟩, hP1, -⟩, hF⟩ := hq
  have FR : ∀ lo hi' : Nat, hi' ≤ 129 → ([0, 41, 42, 43, 11, 12, 13, 14, 15, 16, 17] : List Nat).all (fun x => decide (x < lo) || decide (hi' ≤ x)) = true → ∀ j : Nat, lo ≤ j → j < hi' → ax j < st.heap.size → t.heap[ax j]? = st.heap[ax j]? := fun lo hi' h1 h2 => fr_ix hi h1 hF.2 [0, 41, 42, 43, 11, 12, 13, 14, 15, 16, 17] (by rfl) (by decide) h2
  have np0 : X10Pr dC dI G ax fa t.heap := ⟨zi0_13, hP1 0 _ rfl⟩
  have np4 : X10P1 dC dI G ax N B t.heap := ⟨zn11_2, zf12, zf13, zf14, zf15, zf16, zf17, p4j0, p4j1, p4j2, hP1 4 _ rfl, hP1 5 _ rfl, hP1 6 _ rfl, hP1 7 _ rfl, hP1 8 _ rfl, hP1 9 _ rfl, hP1 10 _ rfl⟩
  have np10 : X10P5 dC dI G ax t.heap := ⟨u0, u1, u2, hP1 1 _ rfl, hP1 2 _ rfl, hP1 3 _ rfl⟩
  exact ⟨⟨r, (), ho, trivial, ⟨np0, p1.kept (FR 1 2 (by decide) (by decide)), p2.kept (FR 2 4 (by decide) (by decide)), p3.kept (FR 4 11 (by decide) (by decide)), np4, p5.kept (FR 18 25 (by decide) (by decide)), p6.kept (FR 25 26 (by decide) (by decide)), p7.kept (FR 26 33 (by decide) (by decide)), p8.kept (FR 33 40 (by decide) (by decide)), p9.kept (FR 40 41 (by decide) (by decide)), np10, p11.kept (FR 44 68 (by decide) (by decide)), p12.kept (FR 68 69 (by decide) (by decide)), p13.kept (FR 69 74 (by decide) (by decide)), p14.kept (FR 74 77 (by decide) (by decide)), p15.kept (FR 77 102 (by decide) (by decide)), p16.kept (FR 102 112 (by decide) (by decide)), hX⟩⟩, hF.wide (ad_ix [0, 41, 42, 43, 11, 12, 13, 14, 15, 16, 17] (by rfl) (by decide))⟩

set_option maxHeartbeats 1000000 in
set_option maxRecDepth 100000 in
theorem k_X10_best (l : Launch) (dC : Nat → ClassId) (dI : Nat → Nat → Nat) (G : Nat → ClassId) (sz : Nat) (ax : Nat → Nat) (hi : adInj 129 ax) (T : Nat) (Y : Nat → Int32) (fa : Int32) (N : Nat) (B : Nat) (N1 : Nat) (B1 : Nat) (N2 : Nat) (B2 : Nat) (K : Nat → Int32) (S : Nat) (M : Nat) (E : Nat → Int32) (Z : Nat → Int32) (what : Int32) : Met l yX10_best (Cond.code yX10_best cX10_best 2 (some .long) :: GT) ({ frames := 5, cells := 0, slots := 0, locals := 116 } : Room) (PcI [.ref (ax 0), .int what] dC dI G (X10I dC dI G ax T Y fa N B N1 B1 N2 B2 K S M E Z) sz) (va_Ql (fun (r : Int64) (_ : Unit) => True) (fun _ t => X10I dC dI G ax T Y fa N B N1 B1 N2 B2 K S M E Z t.heap) (adX 0 112 ax sz)) 0 0 (adX 0 112 ax sz) := by
  refine Met.pick (fun a st hp => ?_)
  obtain ⟨e0, hsz, hI, hK⟩ := hp
  subst hsz
  have hI0 := hI
  unfold X10I at hI
  obtain ⟨p0, p1, p2, p3, p4, p5, p6, p7, p8, p9, p10, p11, p12, p13, p14, p15, p16, hX⟩ := hI
  unfold X10Pr at p0
  obtain ⟨zi0_13, q0⟩ := p0
  unfold X10P1 at p4
  obtain ⟨zn11_2, zf12, zf13, zf14, zf15, zf16, zf17, p4j0, p4j1, p4j2, q11, q12, q13, q14, q15, q16, q17⟩ := p4
  unfold X10P6 at p11
  obtain ⟨zl44_0, zF47, zF58, q44, q45, q46, q47, q58⟩ := p11
  refine ⟨_, _, _, c_X10_best l dC dI G _ (ax 0) (ax 1) (ax 11) (ax 18) (ax 25) (ax 40) (ax 41) (ax 44) (ax 68) (ax 69) (ax 74) (ax 77) (ax 102) (ax 45) (ax 46) (ax 12) (ax 13) (ax 14) (ax 15) (ax 16) (ax 17) N B zn11_2 fa zi0_13 what zl44_0 zf12 zf13 zf15 zf16 zf17 (fun iq => ax (47 + iq)) (fun iq => ax (58 + iq)) zF47 zF58 (by assumption) (by assumption) (by assumption), ⟨e0, rfl, (va_P.app (vpc q0 (vpc q44 (vpc q45 (vpc q46 (vpc q11 (vpc q12 (vpc q13 (vpc q15 (vpc q16 (vpc q17 va_nilP)))))))))) (va_P.app q47 (va_P.app q58 va_nilP))), hK, vD_ix hi [0, 44, 45, 46, 11, 12, 13, 15, 16, 17, 47, 48, 49, 50, 51, 52, 53, 54, 55, 56, 57, 58, 59, 60, 61, 62, 63, 64, 65, 66, 67] (by rfl) (by decide) (by decide)⟩, ad_ix [0, 44, 45, 46, 11, 12, 13, 15, 16, 17, 47, 48, 49, 50, 51, 52, 53, 54, 55, 56, 57, 58, 59, 60, 61, 62, 63, 64, 65, 66, 67] (by rfl) (by decide), fun o t hq => ?_⟩
  obtain ⟨⟨r, ⟨u0, u1, u2⟩, ho, ⟨hr, hu⟩, hP1, -⟩, hF⟩ := hq
  have FR : ∀ lo hi' : Nat, hi' ≤ 129 → ([0, 44, 45, 46, 11, 12, 13, 15, 16, 17, 47, 48, 49, 50, 51, 52, 53, 54, 55, 56, 57, 58, 59, 60, 61, 62, 63, 64, 65, 66, 67] : List Nat).all (fun x => decide (x < lo) || decide (hi' ≤ x)) = true → ∀ j : Nat, lo ≤ j → j < hi' → ax j < st.heap.size → t.heap[ax j]? = st.heap[ax j]? := fun lo hi' h1 h2 => fr_ix hi h1 hF.2 [0, 44, 45, 46, 11, 12, 13, 15, 16, 17, 47, 48, 49, 50, 51, 52, 53, 54, 55, 56, 57, 58, 59, 60, 61, 62, 63, 64, 65, 66, 67] (by rfl) (by decide) h2
  have np0 : X10Pr dC dI G ax fa t.heap := ⟨zi0_13, hP1 0 _ rfl⟩
  have np4 : X10P1 dC dI G ax N B t.heap := ⟨zn11_2, zf12, zf13, zf14, zf15, zf16, zf17, p4j0, p4j1, p4j2, hP1 4 _ rfl, hP1 5 _ rfl, hP1 6 _ rfl, q14.kept (FR 14 15 (by decide) (by decide) 14 (by decide) (by decide) q14.lt), hP1 7 _ rfl, hP1 8 _ rfl, hP1 9 _ rfl⟩
  have np11 : X10P6 dC dI G ax t.heap := ⟨u0, u1, u2, hP1 1 _ rfl, hP1 2 _ rfl, hP1 3 _ rfl, vp_mid hP1, vp_mid2 hP1⟩
  exact ⟨⟨r, (), ho, trivial, ⟨np0, p1.kept (FR 1 2 (by decide) (by decide)), p2.kept (FR 2 4 (by decide) (by decide)), p3.kept (FR 4 11 (by decide) (by decide)), np4, p5.kept (FR 18 25 (by decide) (by decide)), p6.kept (FR 25 26 (by decide) (by decide)), p7.kept (FR 26 33 (by decide) (by decide)), p8.kept (FR 33 40 (by decide) (by decide)), p9.kept (FR 40 41 (by decide) (by decide)), p10.kept (FR 41 44 (by decide) (by decide)), np11, p12.kept (FR 68 69 (by decide) (by decide)), p13.kept (FR 69 74 (by decide) (by decide)), p14.kept (FR 74 77 (by decide) (by decide)), p15.kept (FR 77 102 (by decide) (by decide)), p16.kept (FR 102 112 (by decide) (by decide)), hX⟩⟩, hF.wide (ad_ix [0, 44, 45, 46, 11, 12, 13, 15, 16, 17, 47, 48, 49, 50, 51, 52, 53, 54, 55, 56, 57, 58, 59, 60, 61, 62, 63, 64, 65, 66, 67] (by rfl) (by decide))⟩

set_option maxHeartbeats 1000000 in
set_option maxRecDepth 100000 in
theorem k_X10_next (l : Launch) (dC : Nat → ClassId) (dI : Nat → Nat → Nat) (G : Nat → ClassId) (sz : Nat) (ax : Nat → Nat) (hi : adInj 129 ax) (T : Nat) (Y : Nat → Int32) (fa : Int32) (N : Nat) (B : Nat) (N1 : Nat) (B1 : Nat) (N2 : Nat) (B2 : Nat) (K : Nat → Int32) (S : Nat) (M : Nat) (E : Nat → Int32) (Z : Nat → Int32) (i : Int32) (g : Int32) (d : Int32) : Met l yX10_next (Cond.code yX10_next cX10_next 5 (some .int) :: GT) ({ frames := 5, cells := 0, slots := 0, locals := 116 } : Room) (PcI [.ref (ax 0), .int i, .int g, .int d] dC dI G (X10I dC dI G ax T Y fa N B N1 B1 N2 B2 K S M E Z) sz) (va_Qi (fun (r : Int32) (_ : Unit) => True) (fun _ t => X10I dC dI G ax T Y fa N B N1 B1 N2 B2 K S M E Z t.heap) (adX 0 112 ax sz)) 0 0 (adX 0 112 ax sz) := by
  refine Met.pick (fun a st hp => ?_)
  obtain ⟨e0, hsz, hI, hK⟩ := hp
  subst hsz
  have hI0 := hI
  unfold X10I at hI
  obtain ⟨p0, p1, p2, p3, p4, p5, p6, p7, p8, p9, p10, p11, p12, p13, p14, p15, p16, hX⟩ := hI
  unfold X10Pr at p0
  obtain ⟨zi0_13, q0⟩ := p0
  unfold X10P1 at p4
  obtain ⟨zn11_2, zf12, zf13, zf14, zf15, zf16, zf17, p4j0, p4j1, p4j2, q11, q12, q13, q14, q15, q16, q17⟩ := p4
  unfold X10P6 at p11
  obtain ⟨zl44_0, zF47, zF58, q44, q45, q46, q47, q58⟩ := p11
  refine ⟨_, _, _, c_X10_next l dC dI G _ (ax 0) (ax 1) (ax 11) (ax 18) (ax 25) (ax 40) (ax 41) (ax 44) (ax 68) (ax 69) (ax 74) (ax 77) (ax 102) (ax 45) (ax 46) (ax 12) (ax 13) (ax 14) (ax 15) (ax 16) (ax 17) N B zn11_2 fa zi0_13 i g d zl44_0 zf12 zf13 zf15 zf16 zf17 (fun iq => ax (47 + iq)) (fun iq => ax (58 + iq)) zF47 zF58 (by assumption) (by assumption) (by assumption), ⟨e0, rfl, (va_P.app (vpc q0 (vpc q44 (vpc q45 (vpc q46 (vpc q11 (vpc q12 (vpc q13 (vpc q15 (vpc q16 (vpc q17 va_nilP)))))))))) (va_P.app q47 (va_P.app q58 va_nilP))), hK, vD_ix hi [0, 44, 45, 46, 11, 12, 13, 15, 16, 17, 47, 48, 49, 50, 51, 52, 53, 54, 55, 56, 57, 58, 59, 60, 61, 62, 63, 64, 65, 66, 67] (by rfl) (by decide) (by decide)⟩, ad_ix [0, 44, 45, 46, 11, 12, 13, 15, 16, 17, 47, 48, 49, 50, 51, 52, 53, 54, 55, 56, 57, 58, 59, 60, 61, 62, 63, 64, 65, 66, 67] (by rfl) (by decide), fun o t hq => ?_⟩
  obtain ⟨⟨r, ⟨u0, u1, u2⟩, ho, ⟨hr, hu⟩, hP1, -⟩, hF⟩ := hq
  have FR : ∀ lo hi' : Nat, hi' ≤ 129 → ([0, 44, 45, 46, 11, 12, 13, 15, 16, 17, 47, 48, 49, 50, 51, 52, 53, 54, 55, 56, 57, 58, 59, 60, 61, 62, 63, 64, 65, 66, 67] : List Nat).all (fun x => decide (x < lo) || decide (hi' ≤ x)) = true → ∀ j : Nat, lo ≤ j → j < hi' → ax j < st.heap.size → t.heap[ax j]? = st.heap[ax j]? := fun lo hi' h1 h2 => fr_ix hi h1 hF.2 [0, 44, 45, 46, 11, 12, 13, 15, 16, 17, 47, 48, 49, 50, 51, 52, 53, 54, 55, 56, 57, 58, 59, 60, 61, 62, 63, 64, 65, 66, 67] (by rfl) (by decide) h2
  have np0 : X10Pr dC dI G ax fa t.heap := ⟨zi0_13, hP1 0 _ rfl⟩
  have np4 : X10P1 dC dI G ax N B t.heap := ⟨zn11_2, zf12, zf13, zf14, zf15, zf16, zf17, p4j0, p4j1, p4j2, hP1 4 _ rfl, hP1 5 _ rfl, hP1 6 _ rfl, q14.kept (FR 14 15 (by decide) (by decide) 14 (by decide) (by decide) q14.lt), hP1 7 _ rfl, hP1 8 _ rfl, hP1 9 _ rfl⟩
  have np11 : X10P6 dC dI G ax t.heap := ⟨u0, u1, u2, hP1 1 _ rfl, hP1 2 _ rfl, hP1 3 _ rfl, vp_mid hP1, vp_mid2 hP1⟩
  exact ⟨⟨r, (), ho, trivial, ⟨np0, p1.kept (FR 1 2 (by decide) (by decide)), p2.kept (FR 2 4 (by decide) (by decide)), p3.kept (FR 4 11 (by decide) (by decide)), np4, p5.kept (FR 18 25 (by decide) (by decide)), p6.kept (FR 25 26 (by decide) (by decide)), p7.kept (FR 26 33 (by decide) (by decide)), p8.kept (FR 33 40 (by decide) (by decide)), p9.kept (FR 40 41 (by decide) (by decide)), p10.kept (FR 41 44 (by decide) (by decide)), np11, p12.kept (FR 68 69 (by decide) (by decide)), p13.kept (FR 69 74 (by decide) (by decide)), p14.kept (FR 74 77 (by decide) (by decide)), p15.kept (FR 77 102 (by decide) (by decide)), p16.kept (FR 102 112 (by decide) (by decide)), hX⟩⟩, hF.wide (ad_ix [0, 44, 45, 46, 11, 12, 13, 15, 16, 17, 47, 48, 49, 50, 51, 52, 53, 54, 55, 56, 57, 58, 59, 60, 61, 62, 63, 64, 65, 66, 67] (by rfl) (by decide))⟩

set_option maxHeartbeats 1000000 in
set_option maxRecDepth 100000 in
theorem k_X10_without (l : Launch) (dC : Nat → ClassId) (dI : Nat → Nat → Nat) (G : Nat → ClassId) (sz : Nat) (ax : Nat → Nat) (hi : adInj 129 ax) (T : Nat) (Y : Nat → Int32) (fa : Int32) (N : Nat) (B : Nat) (N1 : Nat) (B1 : Nat) (N2 : Nat) (B2 : Nat) (K : Nat → Int32) (S : Nat) (M : Nat) (E : Nat → Int32) (Z : Nat → Int32) (i : Int32) (what : Int32) : Met l yX10_without (Cond.code yX10_without cX10_without 3 (some .long) :: GT) ({ frames := 5, cells := 0, slots := 0, locals := 116 } : Room) (PcI [.ref (ax 0), .int i, .int what] dC dI G (X10I dC dI G ax T Y fa N B N1 B1 N2 B2 K S M E Z) sz) (va_Ql (fun (r : Int64) (_ : Unit) => True) (fun _ t => X10I dC dI G ax T Y fa N B N1 B1 N2 B2 K S M E Z t.heap) (adX 0 112 ax sz)) 0 0 (adX 0 112 ax sz) := by
  refine Met.pick (fun a st hp => ?_)
  obtain ⟨e0, hsz, hI, hK⟩ := hp
  subst hsz
  have hI0 := hI
  unfold X10I at hI
  obtain ⟨p0, p1, p2, p3, p4, p5, p6, p7, p8, p9, p10, p11, p12, p13, p14, p15, p16, hX⟩ := hI
  unfold X10Pr at p0
  obtain ⟨zi0_13, q0⟩ := p0
  unfold X10P1 at p4
  obtain ⟨zn11_2, zf12, zf13, zf14, zf15, zf16, zf17, p4j0, p4j1, p4j2, q11, q12, q13, q14, q15, q16, q17⟩ := p4
  unfold X10P6 at p11
  obtain ⟨zl44_0, zF47, zF58, q44, q45, q46, q47, q58⟩ := p11
  refine ⟨_, _, _, c_X10_without l dC dI G _ (ax 0) (ax 1) (ax 11) (ax 18) (ax 25) (ax 40) (ax 41) (ax 44) (ax 68) (ax 69) (ax 74) (ax 77) (ax 102) (ax 45) (ax 46) (ax 12) (ax 13) (ax 14) (ax 15) (ax 16) (ax 17) N B zn11_2 fa zi0_13 i what zl44_0 zf12 zf13 zf15 zf16 zf17 (fun iq => ax (47 + iq)) (fun iq => ax (58 + iq)) zF47 zF58 (by assumption) (by assumption) (by assumption), ⟨e0, rfl, (va_P.app (vpc q0 (vpc q44 (vpc q45 (vpc q46 (vpc q11 (vpc q12 (vpc q13 (vpc q15 (vpc q16 (vpc q17 va_nilP)))))))))) (va_P.app q47 (va_P.app q58 va_nilP))), hK, vD_ix hi [0, 44, 45, 46, 11, 12, 13, 15, 16, 17, 47, 48, 49, 50, 51, 52, 53, 54, 55, 56, 57, 58, 59, 60, 61, 62, 63, 64, 65, 66, 67] (by rfl) (by decide) (by decide)⟩, ad_ix [0, 44, 45, 46, 11, 12, 13, 15, 16, 17, 47, 48, 49, 50, 51, 52, 53, 54, 55, 56, 57, 58, 59, 60, 61, 62, 63, 64, 65, 66, 67] (by rfl) (by decide), fun o t hq => ?_⟩
  obtain ⟨⟨r, ⟨u0, u1, u2⟩, ho, ⟨hr, hu⟩, hP1, -⟩, hF⟩ := hq
  have FR : ∀ lo hi' : Nat, hi' ≤ 129 → ([0, 44, 45, 46, 11, 12, 13, 15, 16, 17, 47, 48, 49, 50, 51, 52, 53, 54, 55, 56, 57, 58, 59, 60, 61, 62, 63, 64, 65, 66, 67] : List Nat).all (fun x => decide (x < lo) || decide (hi' ≤ x)) = true → ∀ j : Nat, lo ≤ j → j < hi' → ax j < st.heap.size → t.heap[ax j]? = st.heap[ax j]? := fun lo hi' h1 h2 => fr_ix hi h1 hF.2 [0, 44, 45, 46, 11, 12, 13, 15, 16, 17, 47, 48, 49, 50, 51, 52, 53, 54, 55, 56, 57, 58, 59, 60, 61, 62, 63, 64, 65, 66, 67] (by rfl) (by decide) h2
  have np0 : X10Pr dC dI G ax fa t.heap := ⟨zi0_13, hP1 0 _ rfl⟩
  have np4 : X10P1 dC dI G ax N B t.heap := ⟨zn11_2, zf12, zf13, zf14, zf15, zf16, zf17, p4j0, p4j1, p4j2, hP1 4 _ rfl, hP1 5 _ rfl, hP1 6 _ rfl, q14.kept (FR 14 15 (by decide) (by decide) 14 (by decide) (by decide) q14.lt), hP1 7 _ rfl, hP1 8 _ rfl, hP1 9 _ rfl⟩
  have np11 : X10P6 dC dI G ax t.heap := ⟨u0, u1, u2, hP1 1 _ rfl, hP1 2 _ rfl, hP1 3 _ rfl, vp_mid hP1, vp_mid2 hP1⟩
  exact ⟨⟨r, (), ho, trivial, ⟨np0, p1.kept (FR 1 2 (by decide) (by decide)), p2.kept (FR 2 4 (by decide) (by decide)), p3.kept (FR 4 11 (by decide) (by decide)), np4, p5.kept (FR 18 25 (by decide) (by decide)), p6.kept (FR 25 26 (by decide) (by decide)), p7.kept (FR 26 33 (by decide) (by decide)), p8.kept (FR 33 40 (by decide) (by decide)), p9.kept (FR 40 41 (by decide) (by decide)), p10.kept (FR 41 44 (by decide) (by decide)), np11, p12.kept (FR 68 69 (by decide) (by decide)), p13.kept (FR 69 74 (by decide) (by decide)), p14.kept (FR 74 77 (by decide) (by decide)), p15.kept (FR 77 102 (by decide) (by decide)), p16.kept (FR 102 112 (by decide) (by decide)), hX⟩⟩, hF.wide (ad_ix [0, 44, 45, 46, 11, 12, 13, 15, 16, 17, 47, 48, 49, 50, 51, 52, 53, 54, 55, 56, 57, 58, 59, 60, 61, 62, 63, 64, 65, 66, 67] (by rfl) (by decide))⟩

set_option maxHeartbeats 1000000 in
set_option maxRecDepth 100000 in
theorem k_X10_quiet (l : Launch) (dC : Nat → ClassId) (dI : Nat → Nat → Nat) (G : Nat → ClassId) (sz : Nat) (ax : Nat → Nat) (hi : adInj 129 ax) (T : Nat) (Y : Nat → Int32) (fa : Int32) (N : Nat) (B : Nat) (N1 : Nat) (B1 : Nat) (N2 : Nat) (B2 : Nat) (K : Nat → Int32) (S : Nat) (M : Nat) (E : Nat → Int32) (Z : Nat → Int32) (mm : Int32) (what : Int32) : Met l yX10_quiet (Cond.code yX10_quiet cX10_quiet 10 (some .long) :: GT) ({ frames := 5, cells := 0, slots := 0, locals := 121 } : Room) (PcI [.ref (ax 0), .int mm, .int what] dC dI G (X10I dC dI G ax T Y fa N B N1 B1 N2 B2 K S M E Z) sz) (va_Ql (fun (r : Int64) (_ : Unit) => True) (fun _ t => X10I dC dI G ax T Y fa N B N1 B1 N2 B2 K S M E Z t.heap) (adX 0 112 ax sz)) 0 0 (adX 0 112 ax sz) := by
  refine Met.pick (fun a st hp => ?_)
  obtain ⟨e0, hsz, hI, hK⟩ := hp
  subst hsz
  have hI0 := hI
  unfold X10I at hI
  obtain ⟨p0, p1, p2, p3, p4, p5, p6, p7, p8, p9, p10, p11, p12, p13, p14, p15, p16, hX⟩ := hI
  unfold X10Pr at p0
  obtain ⟨zi0_13, q0⟩ := p0
  unfold X10P1 at p4
  obtain ⟨zn11_2, zf12, zf13, zf14, zf15, zf16, zf17, p4j0, p4j1, p4j2, q11, q12, q13, q14, q15, q16, q17⟩ := p4
  unfold X10P2 at p5
  obtain ⟨zn18_0, zn18_1, zn18_2, zf19, zf20, zf21, zf22, zf23, zf24, p5j0, p5j1, p5j2, q18, q19, q20, q21, q22, q23, q24⟩ := p5
  unfold X10P5 at p10
  obtain ⟨zl41_0, zf42, zf43, q41, q42, q43⟩ := p10
  refine ⟨_, _, _, c_X10_quiet l dC dI G _ (ax 0) (ax 1) (ax 11) (ax 18) (ax 25) (ax 40) (ax 41) (ax 44) (ax 68) (ax 69) (ax 74) (ax 77) (ax 102) (ax 42) (ax 43) (ax 12) (ax 13) (ax 14) (ax 15) (ax 16) (ax 17) N B zn11_2 (ax 19) (ax 20) (ax 21) (ax 22) (ax 23) (ax 24) zn18_0 zn18_1 zn18_2 fa zi0_13 mm what zl41_0 zf12 zf13 zf14 zf15 zf16 zf17 zf19 zf20 zf21 zf22 zf23 zf24 zf42 zf43 (by assumption) (by assumption) (by assumption) (by assumption) (by assumption) (by assumption), ⟨e0, rfl, (vpc q0 (vpc q18 (vpc q19 (vpc q20 (vpc q21 (vpc q22 (vpc q23 (vpc q24 (vpc q41 (vpc q42 (vpc q43 (vpc q11 (vpc q12 (vpc q13 (vpc q14 (vpc q15 (vpc q16 (vpc q17 va_nilP)))))))))))))))))), hK, vD_ix hi [0, 18, 19, 20, 21, 22, 23, 24, 41, 42, 43, 11, 12, 13, 14, 15, 16, 17] (by rfl) (by decide) (by decide)⟩, ad_ix [0, 18, 19, 20, 21, 22, 23, 24, 41, 42, 43, 11, 12, 13, 14, 15, 16, 17] (by rfl) (by decide), fun o t hq => ?_⟩
  obtain ⟨⟨r, ⟨u0, u1, u2, u3, u4, u5, u6, u7, u8, u9, v1, v2⟩, ho, ⟨hr, hu⟩, hP1, -⟩, hF⟩ := hq
  have FR : ∀ lo hi' : Nat, hi' ≤ 129 → ([0, 18, 19, 20, 21, 22, 23, 24, 41, 42, 43, 11, 12, 13, 14, 15, 16, 17] : List Nat).all (fun x => decide (x < lo) || decide (hi' ≤ x)) = true → ∀ j : Nat, lo ≤ j → j < hi' → ax j < st.heap.size → t.heap[ax j]? = st.heap[ax j]? := fun lo hi' h1 h2 => fr_ix hi h1 hF.2 [0, 18, 19, 20, 21, 22, 23, 24, 41, 42, 43, 11, 12, 13, 14, 15, 16, 17] (by rfl) (by decide) h2
  have np0 : X10Pr dC dI G ax fa t.heap := ⟨zi0_13, hP1 0 _ rfl⟩
  have np4 : X10P1 dC dI G ax N B t.heap := ⟨zn11_2, zf12, zf13, zf14, zf15, zf16, zf17, p4j0, p4j1, p4j2, hP1 11 _ rfl, hP1 12 _ rfl, hP1 13 _ rfl, hP1 14 _ rfl, hP1 15 _ rfl, hP1 16 _ rfl, hP1 17 _ rfl⟩
  have np5 : X10P2 dC dI G ax t.heap := ⟨u0, u1, u2, u3, u4, u5, u6, u7, u8, (by first | omega | exact hu | exact hu.1 | exact hu.1.1 | exact hu.1.2 | exact hu.2 | exact fd_nn (by assumption) | (split at hu <;> omega) | (split <;> omega) | exact E_inv (by assumption)), (by first | omega | exact hu | exact hu.1 | exact hu.1.1 | exact hu.1.2 | exact hu.2 | exact fd_nn (by assumption) | (split at hu <;> omega) | (split <;> omega) | exact E_inv (by assumption)), (by first | omega | exact hu | exact hu.1 | exact hu.1.1 | exact hu.1.2 | exact hu.2 | exact fd_nn (by assumption) | (split at hu <;> omega) | (split <;> omega) | exact E_inv (by assumption)), hP1 1 _ rfl, hP1 2 _ rfl, hP1 3 _ rfl, hP1 4 _ rfl, hP1 5 _ rfl, hP1 6 _ rfl, hP1 7 _ rfl⟩
  have np10 : X10P5 dC dI G ax t.heap := ⟨u9, v1, v2, hP1 8 _ rfl, hP1 9 _ rfl, hP1 10 _ rfl⟩
  exact ⟨⟨r, (), ho, trivial, ⟨np0, p1.kept (FR 1 2 (by decide) (by decide)), p2.kept (FR 2 4 (by decide) (by decide)), p3.kept (FR 4 11 (by decide) (by decide)), np4, np5, p6.kept (FR 25 26 (by decide) (by decide)), p7.kept (FR 26 33 (by decide) (by decide)), p8.kept (FR 33 40 (by decide) (by decide)), p9.kept (FR 40 41 (by decide) (by decide)), np10, p11.kept (FR 44 68 (by decide) (by decide)), p12.kept (FR 68 69 (by decide) (by decide)), p13.kept (FR 69 74 (by decide) (by decide)), p14.kept (FR 74 77 (by decide) (by decide)), p15.kept (FR 77 102 (by decide) (by decide)), p16.kept (FR 102 112 (by decide) (by decide)), hX⟩⟩, hF.wide (ad_ix [0, 18, 19, 20, 21, 22, 23, 24, 41, 42, 43, 11, 12, 13, 14, 15, 16, 17] (by rfl) (by decide))⟩

set_option maxHeartbeats 1000000 in
set_option maxRecDepth 100000 in
theorem k_X10_drop (l : Launch) (dC : Nat → ClassId) (dI : Nat → Nat → Nat) (G : Nat → ClassId) (sz : Nat) (ax : Nat → Nat) (hi : adInj 129 ax) (T : Nat) (Y : Nat → Int32) (fa : Int32) (N : Nat) (B : Nat) (N1 : Nat) (B1 : Nat) (N2 : Nat) (B2 : Nat) (K : Nat → Int32) (S : Nat) (M : Nat) (E : Nat → Int32) (Z : Nat → Int32) (what : Int32) : Met l yX10_drop (Cond.code yX10_drop cX10_drop 8 (some .long) :: GT) ({ frames := 5, cells := 0, slots := 0, locals := 112 } : Room) (PcI [.ref (ax 0), .int what] dC dI G (X10I dC dI G ax T Y fa N B N1 B1 N2 B2 K S M E Z) sz) (va_Ql (fun (r : Int64) (_ : Unit) => True) (fun _ t => X10I dC dI G ax T Y fa N B N1 B1 N2 B2 K S M E Z t.heap) (adX 0 112 ax sz)) 0 0 (adX 0 112 ax sz) := by
  refine Met.pick (fun a st hp => ?_)
  obtain ⟨e0, hsz, hI, hK⟩ := hp
  subst hsz
  have hI0 := hI
  unfold X10I at hI
  obtain ⟨p0, p1, p2, p3, p4, p5, p6, p7, p8, p9, p10, p11, p12, p13, p14, p15, p16, hX⟩ := hI
  unfold X10Pr at p0
  obtain ⟨zi0_13, q0⟩ := p0
  unfold X10P1 at p4
  obtain ⟨zn11_2, zf12, zf13, zf14, zf15, zf16, zf17, p4j0, p4j1, p4j2, q11, q12, q13, q14, q15, q16, q17⟩ := p4
  unfold X10P5 at p10
  obtain ⟨zl41_0, zf42, zf43, q41, q42, q43⟩ := p10
  refine ⟨_, _, _, c_X10_drop l dC dI G _ (ax 0) (ax 1) (ax 11) (ax 18) (ax 25) (ax 40) (ax 41) (ax 44) (ax 68) (ax 69) (ax 74) (ax 77) (ax 102) (ax 42) (ax 43) (ax 12) (ax 13) (ax 14) (ax 15) (ax 16) (ax 17) N B zn11_2 fa zi0_13 what zl41_0 zf12 zf13 zf14 zf15 zf16 zf17 zf42 zf43 (by assumption) (by assumption) (by assumption), ⟨e0, rfl, (vpc q0 (vpc q41 (vpc q42 (vpc q43 (vpc q11 (vpc q12 (vpc q13 (vpc q14 (vpc q15 (vpc q16 (vpc q17 va_nilP))))))))))), hK, vD_ix hi [0, 41, 42, 43, 11, 12, 13, 14, 15, 16, 17] (by rfl) (by decide) (by decide)⟩, ad_ix [0, 41, 42, 43, 11, 12, 13, 14, 15, 16, 17] (by rfl) (by decide), fun o t hq => ?_⟩
  obtain ⟨⟨r, ⟨u0, u1, u2⟩, ho, ⟨hr, hu⟩, hP1, -⟩, hF⟩ := hq
  have FR : ∀ lo hi' : Nat, hi' ≤ 129 → ([0, 41, 42, 43, 11, 12, 13, 14, 15, 16, 17] : List Nat).all (fun x => decide (x < lo) || decide (hi' ≤ x)) = true → ∀ j : Nat, lo ≤ j → j < hi' → ax j < st.heap.size → t.heap[ax j]? = st.heap[ax j]? := fun lo hi' h1 h2 => fr_ix hi h1 hF.2 [0, 41, 42, 43, 11, 12, 13, 14, 15, 16, 17] (by rfl) (by decide) h2
  have np0 : X10Pr dC dI G ax fa t.heap := ⟨zi0_13, hP1 0 _ rfl⟩
  have np4 : X10P1 dC dI G ax N B t.heap := ⟨zn11_2, zf12, zf13, zf14, zf15, zf16, zf17, p4j0, p4j1, p4j2, hP1 4 _ rfl, hP1 5 _ rfl, hP1 6 _ rfl, hP1 7 _ rfl, hP1 8 _ rfl, hP1 9 _ rfl, hP1 10 _ rfl⟩
  have np10 : X10P5 dC dI G ax t.heap := ⟨u0, u1, u2, hP1 1 _ rfl, hP1 2 _ rfl, hP1 3 _ rfl⟩
  exact ⟨⟨r, (), ho, trivial, ⟨np0, p1.kept (FR 1 2 (by decide) (by decide)), p2.kept (FR 2 4 (by decide) (by decide)), p3.kept (FR 4 11 (by decide) (by decide)), np4, p5.kept (FR 18 25 (by decide) (by decide)), p6.kept (FR 25 26 (by decide) (by decide)), p7.kept (FR 26 33 (by decide) (by decide)), p8.kept (FR 33 40 (by decide) (by decide)), p9.kept (FR 40 41 (by decide) (by decide)), np10, p11.kept (FR 44 68 (by decide) (by decide)), p12.kept (FR 68 69 (by decide) (by decide)), p13.kept (FR 69 74 (by decide) (by decide)), p14.kept (FR 74 77 (by decide) (by decide)), p15.kept (FR 77 102 (by decide) (by decide)), p16.kept (FR 102 112 (by decide) (by decide)), hX⟩⟩, hF.wide (ad_ix [0, 41, 42, 43, 11, 12, 13, 14, 15, 16, 17] (by rfl) (by decide))⟩

set_option maxHeartbeats 1000000 in
set_option maxRecDepth 100000 in
theorem k_X10_swap (l : Launch) (dC : Nat → ClassId) (dI : Nat → Nat → Nat) (G : Nat → ClassId) (sz : Nat) (ax : Nat → Nat) (hi : adInj 129 ax) (T : Nat) (Y : Nat → Int32) (fa : Int32) (N : Nat) (B : Nat) (N1 : Nat) (B1 : Nat) (N2 : Nat) (B2 : Nat) (K : Nat → Int32) (S : Nat) (M : Nat) (E : Nat → Int32) (Z : Nat → Int32) (what : Int32) : Met l yX10_swap (Cond.code yX10_swap cX10_swap 9 (some .long) :: GT) ({ frames := 5, cells := 0, slots := 0, locals := 121 } : Room) (PcI [.ref (ax 0), .int what] dC dI G (X10I dC dI G ax T Y fa N B N1 B1 N2 B2 K S M E Z) sz) (va_Ql (fun (r : Int64) (_ : Unit) => True) (fun _ t => X10I dC dI G ax T Y fa N B N1 B1 N2 B2 K S M E Z t.heap) (adX 0 112 ax sz)) 0 0 (adX 0 112 ax sz) := by
  refine Met.pick (fun a st hp => ?_)
  obtain ⟨e0, hsz, hI, hK⟩ := hp
  subst hsz
  have hI0 := hI
  unfold X10I at hI
  obtain ⟨p0, p1, p2, p3, p4, p5, p6, p7, p8, p9, p10, p11, p12, p13, p14, p15, p16, hX⟩ := hI
  unfold X10Pr at p0
  obtain ⟨zi0_13, q0⟩ := p0
  unfold X10P1 at p4
  obtain ⟨zn11_2, zf12, zf13, zf14, zf15, zf16, zf17, p4j0, p4j1, p4j2, q11, q12, q13, q14, q15, q16, q17⟩ := p4
  unfold X10P2 at p5
  obtain ⟨zn18_0, zn18_1, zn18_2, zf19, zf20, zf21, zf22, zf23, zf24, p5j0, p5j1, p5j2, q18, q19, q20, q21, q22, q23, q24⟩ := p5
  unfold X10P5 at p10
  obtain ⟨zl41_0, zf42, zf43, q41, q42, q43⟩ := p10
  refine ⟨_, _, _, c_X10_swap l dC dI G _ (ax 0) (ax 1) (ax 11) (ax 18) (ax 25) (ax 40) (ax 41) (ax 44) (ax 68) (ax 69) (ax 74) (ax 77) (ax 102) (ax 42) (ax 43) (ax 12) (ax 13) (ax 14) (ax 15) (ax 16) (ax 17) N B zn11_2 (ax 19) (ax 20) (ax 21) (ax 22) (ax 23) (ax 24) zn18_0 zn18_1 zn18_2 fa zi0_13 what zl41_0 zf12 zf13 zf14 zf15 zf16 zf17 zf19 zf20 zf21 zf22 zf23 zf24 zf42 zf43 (by assumption) (by assumption) (by assumption) (by assumption) (by assumption) (by assumption), ⟨e0, rfl, (vpc q0 (vpc q18 (vpc q19 (vpc q20 (vpc q21 (vpc q22 (vpc q23 (vpc q24 (vpc q41 (vpc q42 (vpc q43 (vpc q11 (vpc q12 (vpc q13 (vpc q14 (vpc q15 (vpc q16 (vpc q17 va_nilP)))))))))))))))))), hK, vD_ix hi [0, 18, 19, 20, 21, 22, 23, 24, 41, 42, 43, 11, 12, 13, 14, 15, 16, 17] (by rfl) (by decide) (by decide)⟩, ad_ix [0, 18, 19, 20, 21, 22, 23, 24, 41, 42, 43, 11, 12, 13, 14, 15, 16, 17] (by rfl) (by decide), fun o t hq => ?_⟩
  obtain ⟨⟨r, ⟨u0, u1, u2, u3, u4, u5, u6, u7, u8, u9, v1, v2⟩, ho, ⟨hr, hu⟩, hP1, -⟩, hF⟩ := hq
  have FR : ∀ lo hi' : Nat, hi' ≤ 129 → ([0, 18, 19, 20, 21, 22, 23, 24, 41, 42, 43, 11, 12, 13, 14, 15, 16, 17] : List Nat).all (fun x => decide (x < lo) || decide (hi' ≤ x)) = true → ∀ j : Nat, lo ≤ j → j < hi' → ax j < st.heap.size → t.heap[ax j]? = st.heap[ax j]? := fun lo hi' h1 h2 => fr_ix hi h1 hF.2 [0, 18, 19, 20, 21, 22, 23, 24, 41, 42, 43, 11, 12, 13, 14, 15, 16, 17] (by rfl) (by decide) h2
  have np0 : X10Pr dC dI G ax fa t.heap := ⟨zi0_13, hP1 0 _ rfl⟩
  have np4 : X10P1 dC dI G ax N B t.heap := ⟨zn11_2, zf12, zf13, zf14, zf15, zf16, zf17, p4j0, p4j1, p4j2, hP1 11 _ rfl, hP1 12 _ rfl, hP1 13 _ rfl, hP1 14 _ rfl, hP1 15 _ rfl, hP1 16 _ rfl, hP1 17 _ rfl⟩
  have np5 : X10P2 dC dI G ax t.heap := ⟨u0, u1, u2, u3, u4, u5, u6, u7, u8, (by first | omega | exact hu | exact hu.1 | exact hu.1.1 | exact hu.1.2 | exact hu.2 | exact fd_nn (by assumption) | (split at hu <;> omega) | (split <;> omega) | exact E_inv (by assumption)), (by first | omega | exact hu | exact hu.1 | exact hu.1.1 | exact hu.1.2 | exact hu.2 | exact fd_nn (by assumption) | (split at hu <;> omega) | (split <;> omega) | exact E_inv (by assumption)), (by first | omega | exact hu | exact hu.1 | exact hu.1.1 | exact hu.1.2 | exact hu.2 | exact fd_nn (by assumption) | (split at hu <;> omega) | (split <;> omega) | exact E_inv (by assumption)), hP1 1 _ rfl, hP1 2 _ rfl, hP1 3 _ rfl, hP1 4 _ rfl, hP1 5 _ rfl, hP1 6 _ rfl, hP1 7 _ rfl⟩
  have np10 : X10P5 dC dI G ax t.heap := ⟨u9, v1, v2, hP1 8 _ rfl, hP1 9 _ rfl, hP1 10 _ rfl⟩
  exact ⟨⟨r, (), ho, trivial, ⟨np0, p1.kept (FR 1 2 (by decide) (by decide)), p2.kept (FR 2 4 (by decide) (by decide)), p3.kept (FR 4 11 (by decide) (by decide)), np4, np5, p6.kept (FR 25 26 (by decide) (by decide)), p7.kept (FR 26 33 (by decide) (by decide)), p8.kept (FR 33 40 (by decide) (by decide)), p9.kept (FR 40 41 (by decide) (by decide)), np10, p11.kept (FR 44 68 (by decide) (by decide)), p12.kept (FR 68 69 (by decide) (by decide)), p13.kept (FR 69 74 (by decide) (by decide)), p14.kept (FR 74 77 (by decide) (by decide)), p15.kept (FR 77 102 (by decide) (by decide)), p16.kept (FR 102 112 (by decide) (by decide)), hX⟩⟩, hF.wide (ad_ix [0, 18, 19, 20, 21, 22, 23, 24, 41, 42, 43, 11, 12, 13, 14, 15, 16, 17] (by rfl) (by decide))⟩

set_option maxHeartbeats 1000000 in
set_option maxRecDepth 100000 in
theorem k_X10_carry (l : Launch) (dC : Nat → ClassId) (dI : Nat → Nat → Nat) (G : Nat → ClassId) (sz : Nat) (ax : Nat → Nat) (hi : adInj 129 ax) (T : Nat) (Y : Nat → Int32) (fa : Int32) (N : Nat) (B : Nat) (N1 : Nat) (B1 : Nat) (N2 : Nat) (B2 : Nat) (K : Nat → Int32) (S : Nat) (M : Nat) (E : Nat → Int32) (Z : Nat → Int32) (sd : Int32) (what : Int32) : Met l yX10_carry (Cond.code yX10_carry cX10_carry 3 (some .int) :: GT) ({ frames := 5, cells := 0, slots := 0, locals := 112 } : Room) (PcI [.ref (ax 0), .int sd, .int what] dC dI G (X10I dC dI G ax T Y fa N B N1 B1 N2 B2 K S M E Z) sz) (va_Qi (fun (r : Int32) (_ : Unit) => True) (fun _ t => X10I dC dI G ax T Y fa N B N1 B1 N2 B2 K S M E Z t.heap) (adX 0 112 ax sz)) 0 0 (adX 0 112 ax sz) := by
  refine Met.pick (fun a st hp => ?_)
  obtain ⟨e0, hsz, hI, hK⟩ := hp
  subst hsz
  have hI0 := hI
  unfold X10I at hI
  obtain ⟨p0, p1, p2, p3, p4, p5, p6, p7, p8, p9, p10, p11, p12, p13, p14, p15, p16, hX⟩ := hI
  unfold X10Pr at p0
  obtain ⟨zi0_13, q0⟩ := p0
  unfold X10P1 at p4
  obtain ⟨zn11_2, zf12, zf13, zf14, zf15, zf16, zf17, p4j0, p4j1, p4j2, q11, q12, q13, q14, q15, q16, q17⟩ := p4
  unfold X10P7 at p12
  obtain ⟨zi68_0, zi68_1, zi68_2, q68⟩ := p12
  refine ⟨_, _, _, c_X10_carry l dC dI G _ (ax 0) (ax 1) (ax 11) (ax 18) (ax 25) (ax 40) (ax 41) (ax 44) (ax 68) (ax 69) (ax 74) (ax 77) (ax 102) (ax 12) (ax 13) (ax 14) (ax 15) (ax 16) (ax 17) N B zn11_2 fa zi0_13 sd what zi68_0 zi68_1 zi68_2 zf12 zf13 zf14 zf15 zf16 zf17 (by assumption) (by assumption) (by assumption), ⟨e0, rfl, (vpc q0 (vpc q68 (vpc q11 (vpc q12 (vpc q13 (vpc q14 (vpc q15 (vpc q16 (vpc q17 va_nilP))))))))), hK, vD_ix hi [0, 68, 11, 12, 13, 14, 15, 16, 17] (by rfl) (by decide) (by decide)⟩, ad_ix [0, 68, 11, 12, 13, 14, 15, 16, 17] (by rfl) (by decide), fun o t hq => ?_⟩
  obtain ⟨⟨r, ⟨u0, u1, u2⟩, ho, ⟨hr, hu⟩, hP1, -⟩, hF⟩ := hq
  have FR : ∀ lo hi' : Nat, hi' ≤ 129 → ([0, 68, 11, 12, 13, 14, 15, 16, 17] : List Nat).all (fun x => decide (x < lo) || decide (hi' ≤ x)) = true → ∀ j : Nat, lo ≤ j → j < hi' → ax j < st.heap.size → t.heap[ax j]? = st.heap[ax j]? := fun lo hi' h1 h2 => fr_ix hi h1 hF.2 [0, 68, 11, 12, 13, 14, 15, 16, 17] (by rfl) (by decide) h2
  have np0 : X10Pr dC dI G ax fa t.heap := ⟨zi0_13, hP1 0 _ rfl⟩
  have np4 : X10P1 dC dI G ax N B t.heap := ⟨zn11_2, zf12, zf13, zf14, zf15, zf16, zf17, p4j0, p4j1, p4j2, hP1 2 _ rfl, hP1 3 _ rfl, hP1 4 _ rfl, hP1 5 _ rfl, hP1 6 _ rfl, hP1 7 _ rfl, hP1 8 _ rfl⟩
  have np12 : X10P7 dC dI G ax t.heap := ⟨u0, u1, u2, hP1 1 _ rfl⟩
  exact ⟨⟨r, (), ho, trivial, ⟨np0, p1.kept (FR 1 2 (by decide) (by decide)), p2.kept (FR 2 4 (by decide) (by decide)), p3.kept (FR 4 11 (by decide) (by decide)), np4, p5.kept (FR 18 25 (by decide) (by decide)), p6.kept (FR 25 26 (by decide) (by decide)), p7.kept (FR 26 33 (by decide) (by decide)), p8.kept (FR 33 40 (by decide) (by decide)), p9.kept (FR 40 41 (by decide) (by decide)), p10.kept (FR 41 44 (by decide) (by decide)), p11.kept (FR 44 68 (by decide) (by decide)), np12, p13.kept (FR 69 74 (by decide) (by decide)), p14.kept (FR 74 77 (by decide) (by decide)), p15.kept (FR 77 102 (by decide) (by decide)), p16.kept (FR 102 112 (by decide) (by decide)), hX⟩⟩, hF.wide (ad_ix [0, 68, 11, 12, 13, 14, 15, 16, 17] (by rfl) (by decide))⟩

set_option maxHeartbeats 1000000 in
set_option maxRecDepth 100000 in
theorem k_X10_learnE (l : Launch) (dC : Nat → ClassId) (dI : Nat → Nat → Nat) (G : Nat → ClassId) (sz : Nat) (ax : Nat → Nat) (hi : adInj 129 ax) (T : Nat) (Y : Nat → Int32) (fa : Int32) (N : Nat) (B : Nat) (N1 : Nat) (B1 : Nat) (N2 : Nat) (B2 : Nat) (K : Nat → Int32) (S : Nat) (M : Nat) (E : Nat → Int32) (Z : Nat → Int32) (i : Int32) (g : Int32) (k : Int32) (hm : Int32) : Met l yX10_learn (Cond.code yX10_learn cX10_learn 5 (some .int) :: GT) ({ frames := 2, cells := 0, slots := 0, locals := 44 } : Room) (PcI [.ref (ax 0), .int i, .int g, .int k, .int hm] dC dI G (X10I dC dI G ax T Y fa N B N1 B1 N2 B2 K S M E Z) sz) (va_Qi (fun (r : Int32) (_ : Unit) => r = if ((0 ≤ i.toInt ∧ i.toInt < ((N : Nat) : Int)) ∧ (g.toInt = -4 ∨ (0 ≤ g.toInt ∧ g.toInt < ((B : Nat) : Int))) ∧ (0 ≤ k.toInt ∧ k.toInt < ((B : Nat) : Int)) ∧ 0 ≤ hm.toInt ∧ hm.toInt ≤ 20) then (if S < 8 then nI (S + 1) else -3) else -1) (fun _ t => X10I dC dI G ax T Y fa N B N1 B1 N2 B2 K (if ((0 ≤ i.toInt ∧ i.toInt < ((N : Nat) : Int)) ∧ (g.toInt = -4 ∨ (0 ≤ g.toInt ∧ g.toInt < ((B : Nat) : Int))) ∧ (0 ≤ k.toInt ∧ k.toInt < ((B : Nat) : Int)) ∧ 0 ≤ hm.toInt ∧ hm.toInt ≤ 20) ∧ S < 8 then S + 1 else S) M E Z t.heap) (adX 0 112 ax sz)) 0 0 (adX 0 112 ax sz) := by
  refine Met.pick (fun a st hp => ?_)
  obtain ⟨e0, hsz, hI, hK⟩ := hp
  subst hsz
  have hI0 := hI
  unfold X10I at hI
  obtain ⟨p0, p1, p2, p3, p4, p5, p6, p7, p8, p9, p10, p11, p12, p13, p14, p15, p16, hX⟩ := hI
  unfold X10Pr at p0
  obtain ⟨zi0_13, q0⟩ := p0
  unfold X10P1 at p4
  obtain ⟨zn11_2, zf12, zf13, zf14, zf15, zf16, zf17, p4j0, p4j1, p4j2, q11, q12, q13, q14, q15, q16, q17⟩ := p4
  unfold X10P8 at p13
  obtain ⟨zf70, zf71, zf72, zf73, p13j0, q69, q70, q71, q72, q73⟩ := p13
  refine ⟨_, _, _, c_X10_learnE l dC dI G _ (ax 0) (ax 1) (ax 11) (ax 18) (ax 25) (ax 40) (ax 41) (ax 44) (ax 68) (ax 69) (ax 74) (ax 77) (ax 102) (ax 12) (ax 13) (ax 14) (ax 15) (ax 16) (ax 17) N B zn11_2 (ax 70) (ax 71) (ax 72) (ax 73) S fa zi0_13 i g k hm zf70 zf71 zf72 zf73 (by assumption) (by assumption) (by assumption) (by assumption), ⟨e0, rfl, (vpc q0 (vpc q11 (vpc q69 (vpc q70 (vpc q71 (vpc q72 (vpc q73 va_nilP))))))), hK, vD_ix hi [0, 11, 69, 70, 71, 72, 73] (by rfl) (by decide) (by decide)⟩, ad_ix [0, 11, 69, 70, 71, 72, 73] (by rfl) (by decide), fun o t hq => ?_⟩
  obtain ⟨⟨r, ⟨u0, u1, u2, u3, u4⟩, ho, ⟨hr, hu⟩, hP1, -⟩, hF⟩ := hq
  have FR : ∀ lo hi' : Nat, hi' ≤ 129 → ([0, 11, 69, 70, 71, 72, 73] : List Nat).all (fun x => decide (x < lo) || decide (hi' ≤ x)) = true → ∀ j : Nat, lo ≤ j → j < hi' → ax j < st.heap.size → t.heap[ax j]? = st.heap[ax j]? := fun lo hi' h1 h2 => fr_ix hi h1 hF.2 [0, 11, 69, 70, 71, 72, 73] (by rfl) (by decide) h2
  have xS : (if ((0 ≤ i.toInt ∧ i.toInt < ((N : Nat) : Int)) ∧ (g.toInt = -4 ∨ (0 ≤ g.toInt ∧ g.toInt < ((B : Nat) : Int))) ∧ (0 ≤ k.toInt ∧ k.toInt < ((B : Nat) : Int)) ∧ 0 ≤ hm.toInt ∧ hm.toInt ≤ 20) ∧ S < 8 then S + 1 else S) = u0 := Eq.symm (by first | exact hu | exact hu.1 | exact hu.2 | exact hu.1.1 | exact hu.1.2 | exact hu.2.1.trans (txt_cf (by assumption)) | exact hu.2.1.trans (txt_rf (by assumption)) | exact hu.1.1.trans lmap_step | omega)
  subst xS
  have np0 : X10Pr dC dI G ax fa t.heap := ⟨zi0_13, hP1 0 _ rfl⟩
  have np4 : X10P1 dC dI G ax N B t.heap := ⟨zn11_2, zf12, zf13, zf14, zf15, zf16, zf17, p4j0, p4j1, p4j2, hP1 1 _ rfl, q12.kept (FR 12 13 (by decide) (by decide) 12 (by decide) (by decide) q12.lt), q13.kept (FR 13 14 (by decide) (by decide) 13 (by decide) (by decide) q13.lt), q14.kept (FR 14 15 (by decide) (by decide) 14 (by decide) (by decide) q14.lt), q15.kept (FR 15 16 (by decide) (by decide) 15 (by decide) (by decide) q15.lt), q16.kept (FR 16 17 (by decide) (by decide) 16 (by decide) (by decide) q16.lt), q17.kept (FR 17 18 (by decide) (by decide) 17 (by decide) (by decide) q17.lt)⟩
  have np13 : X10P8 dC dI G ax (if ((0 ≤ i.toInt ∧ i.toInt < ((N : Nat) : Int)) ∧ (g.toInt = -4 ∨ (0 ≤ g.toInt ∧ g.toInt < ((B : Nat) : Int))) ∧ (0 ≤ k.toInt ∧ k.toInt < ((B : Nat) : Int)) ∧ 0 ≤ hm.toInt ∧ hm.toInt ≤ 20) ∧ S < 8 then S + 1 else S) t.heap := ⟨u1, u2, u3, u4, (by first | omega | exact hu | exact hu.1 | exact hu.1.1 | exact hu.1.2 | exact hu.2 | exact fd_nn (by assumption) | (split at hu <;> omega) | (split <;> omega) | exact E_inv (by assumption)), hP1 2 _ rfl, hP1 3 _ rfl, hP1 4 _ rfl, hP1 5 _ rfl, hP1 6 _ rfl⟩
  exact ⟨⟨r, (), ho, hr, ⟨np0, p1.kept (FR 1 2 (by decide) (by decide)), p2.kept (FR 2 4 (by decide) (by decide)), p3.kept (FR 4 11 (by decide) (by decide)), np4, p5.kept (FR 18 25 (by decide) (by decide)), p6.kept (FR 25 26 (by decide) (by decide)), p7.kept (FR 26 33 (by decide) (by decide)), p8.kept (FR 33 40 (by decide) (by decide)), p9.kept (FR 40 41 (by decide) (by decide)), p10.kept (FR 41 44 (by decide) (by decide)), p11.kept (FR 44 68 (by decide) (by decide)), p12.kept (FR 68 69 (by decide) (by decide)), np13, p14.kept (FR 74 77 (by decide) (by decide)), p15.kept (FR 77 102 (by decide) (by decide)), p16.kept (FR 102 112 (by decide) (by decide)), hX⟩⟩, hF.wide (ad_ix [0, 11, 69, 70, 71, 72, 73] (by rfl) (by decide))⟩

set_option maxHeartbeats 1000000 in
set_option maxRecDepth 100000 in
theorem k_X10_forgetE (l : Launch) (dC : Nat → ClassId) (dI : Nat → Nat → Nat) (G : Nat → ClassId) (sz : Nat) (ax : Nat → Nat) (hi : adInj 129 ax) (T : Nat) (Y : Nat → Int32) (fa : Int32) (N : Nat) (B : Nat) (N1 : Nat) (B1 : Nat) (N2 : Nat) (B2 : Nat) (K : Nat → Int32) (S : Nat) (M : Nat) (E : Nat → Int32) (Z : Nat → Int32) (n : Int32) : Met l yX10_forget (Cond.code yX10_forget cX10_forget 3 (some .int) :: GT) ({ frames := 0, cells := 0, slots := 0, locals := 0 } : Room) (PcI [.ref (ax 0), .int n] dC dI G (X10I dC dI G ax T Y fa N B N1 B1 N2 B2 K S M E Z) sz) (va_Qi (fun (r : Int32) (_ : Unit) => r = if 0 ≤ n.toInt ∧ n.toInt ≤ ((S : Nat) : Int) then nI S else -1) (fun _ t => X10I dC dI G ax T Y fa N B N1 B1 N2 B2 K (if 0 ≤ n.toInt ∧ n.toInt ≤ ((S : Nat) : Int) then n.toNatClampNeg else S) M E Z t.heap) (adX 0 112 ax sz)) 0 0 (adX 0 112 ax sz) := by
  refine Met.pick (fun a st hp => ?_)
  obtain ⟨e0, hsz, hI, hK⟩ := hp
  subst hsz
  have hI0 := hI
  unfold X10I at hI
  obtain ⟨p0, p1, p2, p3, p4, p5, p6, p7, p8, p9, p10, p11, p12, p13, p14, p15, p16, hX⟩ := hI
  unfold X10Pr at p0
  obtain ⟨zi0_13, q0⟩ := p0
  unfold X10P8 at p13
  obtain ⟨zf70, zf71, zf72, zf73, p13j0, q69, q70, q71, q72, q73⟩ := p13
  refine ⟨_, _, _, c_X10_forgetE l dC dI G _ (ax 0) (ax 1) (ax 11) (ax 18) (ax 25) (ax 40) (ax 41) (ax 44) (ax 68) (ax 69) (ax 74) (ax 77) (ax 102) (ax 70) (ax 71) (ax 72) (ax 73) S fa zi0_13 n (by assumption), ⟨e0, rfl, (vpc q0 (vpc q69 va_nilP)), hK, vD_ix hi [0, 69] (by rfl) (by decide) (by decide)⟩, ad_ix [0, 69] (by rfl) (by decide), fun o t hq => ?_⟩
  obtain ⟨⟨r, u1, ho, ⟨hr, hu⟩, hP1, -⟩, hF⟩ := hq
  have FR : ∀ lo hi' : Nat, hi' ≤ 129 → ([0, 69] : List Nat).all (fun x => decide (x < lo) || decide (hi' ≤ x)) = true → ∀ j : Nat, lo ≤ j → j < hi' → ax j < st.heap.size → t.heap[ax j]? = st.heap[ax j]? := fun lo hi' h1 h2 => fr_ix hi h1 hF.2 [0, 69] (by rfl) (by decide) h2
  have xS : (if 0 ≤ n.toInt ∧ n.toInt ≤ ((S : Nat) : Int) then n.toNatClampNeg else S) = u1 := Eq.symm (by first | exact hu | exact hu.1 | exact hu.2 | exact hu.1.1 | exact hu.1.2 | exact hu.2.1.trans (txt_cf (by assumption)) | exact hu.2.1.trans (txt_rf (by assumption)) | exact hu.1.1.trans lmap_step | omega)
  subst xS
  have np0 : X10Pr dC dI G ax fa t.heap := ⟨zi0_13, hP1 0 _ rfl⟩
  have np13 : X10P8 dC dI G ax (if 0 ≤ n.toInt ∧ n.toInt ≤ ((S : Nat) : Int) then n.toNatClampNeg else S) t.heap := ⟨zf70, zf71, zf72, zf73, (by first | omega | exact hu | exact hu.1 | exact hu.1.1 | exact hu.1.2 | exact hu.2 | exact fd_nn (by assumption) | (split at hu <;> omega) | (split <;> omega) | exact E_inv (by assumption)), hP1 1 _ rfl, q70.kept (FR 70 71 (by decide) (by decide) 70 (by decide) (by decide) q70.lt), q71.kept (FR 71 72 (by decide) (by decide) 71 (by decide) (by decide) q71.lt), q72.kept (FR 72 73 (by decide) (by decide) 72 (by decide) (by decide) q72.lt), q73.kept (FR 73 74 (by decide) (by decide) 73 (by decide) (by decide) q73.lt)⟩
  exact ⟨⟨r, (), ho, hr, ⟨np0, p1.kept (FR 1 2 (by decide) (by decide)), p2.kept (FR 2 4 (by decide) (by decide)), p3.kept (FR 4 11 (by decide) (by decide)), p4.kept (FR 11 18 (by decide) (by decide)), p5.kept (FR 18 25 (by decide) (by decide)), p6.kept (FR 25 26 (by decide) (by decide)), p7.kept (FR 26 33 (by decide) (by decide)), p8.kept (FR 33 40 (by decide) (by decide)), p9.kept (FR 40 41 (by decide) (by decide)), p10.kept (FR 41 44 (by decide) (by decide)), p11.kept (FR 44 68 (by decide) (by decide)), p12.kept (FR 68 69 (by decide) (by decide)), np13, p14.kept (FR 74 77 (by decide) (by decide)), p15.kept (FR 77 102 (by decide) (by decide)), p16.kept (FR 102 112 (by decide) (by decide)), hX⟩⟩, hF.wide (ad_ix [0, 69] (by rfl) (by decide))⟩

set_option maxHeartbeats 1000000 in
set_option maxRecDepth 100000 in
theorem k_X10_steps (l : Launch) (dC : Nat → ClassId) (dI : Nat → Nat → Nat) (G : Nat → ClassId) (sz : Nat) (ax : Nat → Nat) (hi : adInj 129 ax) (T : Nat) (Y : Nat → Int32) (fa : Int32) (N : Nat) (B : Nat) (N1 : Nat) (B1 : Nat) (N2 : Nat) (B2 : Nat) (K : Nat → Int32) (S : Nat) (M : Nat) (E : Nat → Int32) (Z : Nat → Int32) (b : Int32) (what : Int32) : Met l yX10_steps (Cond.code yX10_steps cX10_steps 7 (some .int) :: GT) ({ frames := 4, cells := 0, slots := 0, locals := 121 } : Room) (PcI [.ref (ax 0), .int b, .int what] dC dI G (X10I dC dI G ax T Y fa N B N1 B1 N2 B2 K S M E Z) sz) (va_Qi (fun (r : Int32) (_ : Unit) => True) (fun _ t => X10I dC dI G ax T Y fa N B N1 B1 N2 B2 K S M E Z t.heap) (adX 0 112 ax sz)) 0 0 (adX 0 112 ax sz) := by
  refine Met.pick (fun a st hp => ?_)
  obtain ⟨e0, hsz, hI, hK⟩ := hp
  subst hsz
  have hI0 := hI
  unfold X10I at hI
  obtain ⟨p0, p1, p2, p3, p4, p5, p6, p7, p8, p9, p10, p11, p12, p13, p14, p15, p16, hX⟩ := hI
  unfold X10Pr at p0
  obtain ⟨zi0_13, q0⟩ := p0
  unfold X10P1 at p4
  obtain ⟨zn11_2, zf12, zf13, zf14, zf15, zf16, zf17, p4j0, p4j1, p4j2, q11, q12, q13, q14, q15, q16, q17⟩ := p4
  unfold X10P2 at p5
  obtain ⟨zn18_0, zn18_1, zn18_2, zf19, zf20, zf21, zf22, zf23, zf24, p5j0, p5j1, p5j2, q18, q19, q20, q21, q22, q23, q24⟩ := p5
  unfold X10P8 at p13
  obtain ⟨zf70, zf71, zf72, zf73, p13j0, q69, q70, q71, q72, q73⟩ := p13
  refine ⟨_, _, _, c_X10_steps l dC dI G _ (ax 0) (ax 1) (ax 11) (ax 18) (ax 25) (ax 40) (ax 41) (ax 44) (ax 68) (ax 69) (ax 74) (ax 77) (ax 102) (ax 12) (ax 13) (ax 14) (ax 15) (ax 16) (ax 17) N B zn11_2 (ax 19) (ax 20) (ax 21) (ax 22) (ax 23) (ax 24) zn18_0 zn18_1 zn18_2 (ax 70) (ax 71) (ax 72) (ax 73) S fa zi0_13 b what zf12 zf13 zf14 zf15 zf16 zf17 zf19 zf20 zf21 zf22 zf23 zf24 zf70 zf71 zf72 zf73 (by assumption) (by assumption) (by assumption) (by assumption) (by assumption) (by assumption) (by assumption), ⟨e0, rfl, (vpc q0 (vpc q18 (vpc q19 (vpc q20 (vpc q21 (vpc q22 (vpc q23 (vpc q24 (vpc q11 (vpc q12 (vpc q13 (vpc q14 (vpc q15 (vpc q16 (vpc q17 (vpc q69 (vpc q70 (vpc q71 (vpc q72 (vpc q73 va_nilP)))))))))))))))))))), hK, vD_ix hi [0, 18, 19, 20, 21, 22, 23, 24, 11, 12, 13, 14, 15, 16, 17, 69, 70, 71, 72, 73] (by rfl) (by decide) (by decide)⟩, ad_ix [0, 18, 19, 20, 21, 22, 23, 24, 11, 12, 13, 14, 15, 16, 17, 69, 70, 71, 72, 73] (by rfl) (by decide), fun o t hq => ?_⟩
  obtain ⟨⟨r, ⟨u0, u1, u2, u3, u4, u5, u6, u7, u8⟩, ho, ⟨hr, hu⟩, hP1, -⟩, hF⟩ := hq
  have FR : ∀ lo hi' : Nat, hi' ≤ 129 → ([0, 18, 19, 20, 21, 22, 23, 24, 11, 12, 13, 14, 15, 16, 17, 69, 70, 71, 72, 73] : List Nat).all (fun x => decide (x < lo) || decide (hi' ≤ x)) = true → ∀ j : Nat, lo ≤ j → j < hi' → ax j < st.heap.size → t.heap[ax j]? = st.heap[ax j]? := fun lo hi' h1 h2 => fr_ix hi h1 hF.2 [0, 18, 19, 20, 21, 22, 23, 24, 11, 12, 13, 14, 15, 16, 17, 69, 70, 71, 72, 73] (by rfl) (by decide) h2
  have np0 : X10Pr dC dI G ax fa t.heap := ⟨zi0_13, hP1 0 _ rfl⟩
  have np4 : X10P1 dC dI G ax N B t.heap := ⟨zn11_2, zf12, zf13, zf14, zf15, zf16, zf17, p4j0, p4j1, p4j2, hP1 8 _ rfl, hP1 9 _ rfl, hP1 10 _ rfl, hP1 11 _ rfl, hP1 12 _ rfl, hP1 13 _ rfl, hP1 14 _ rfl⟩
  have np5 : X10P2 dC dI G ax t.heap := ⟨u0, u1, u2, u3, u4, u5, u6, u7, u8, (by first | omega | exact hu | exact hu.1 | exact hu.1.1 | exact hu.1.2 | exact hu.2 | exact fd_nn (by assumption) | (split at hu <;> omega) | (split <;> omega) | exact E_inv (by assumption)), (by first | omega | exact hu | exact hu.1 | exact hu.1.1 | exact hu.1.2 | exact hu.2 | exact fd_nn (by assumption) | (split at hu <;> omega) | (split <;> omega) | exact E_inv (by assumption)), (by first | omega | exact hu | exact hu.1 | exact hu.1.1 | exact hu.1.2 | exact hu.2 | exact fd_nn (by assumption) | (split at hu <;> omega) | (split <;> omega) | exact E_inv (by assumption)), hP1 1 _ rfl, hP1 2 _ rfl, hP1 3 _ rfl, hP1 4 _ rfl, hP1 5 _ rfl, hP1 6 _ rfl, hP1 7 _ rfl⟩
  have np13 : X10P8 dC dI G ax S t.heap := ⟨zf70, zf71, zf72, zf73, p13j0, hP1 15 _ rfl, hP1 16 _ rfl, hP1 17 _ rfl, hP1 18 _ rfl, hP1 19 _ rfl⟩
  exact ⟨⟨r, (), ho, trivial, ⟨np0, p1.kept (FR 1 2 (by decide) (by decide)), p2.kept (FR 2 4 (by decide) (by decide)), p3.kept (FR 4 11 (by decide) (by decide)), np4, np5, p6.kept (FR 25 26 (by decide) (by decide)), p7.kept (FR 26 33 (by decide) (by decide)), p8.kept (FR 33 40 (by decide) (by decide)), p9.kept (FR 40 41 (by decide) (by decide)), p10.kept (FR 41 44 (by decide) (by decide)), p11.kept (FR 44 68 (by decide) (by decide)), p12.kept (FR 68 69 (by decide) (by decide)), np13, p14.kept (FR 74 77 (by decide) (by decide)), p15.kept (FR 77 102 (by decide) (by decide)), p16.kept (FR 102 112 (by decide) (by decide)), hX⟩⟩, hF.wide (ad_ix [0, 18, 19, 20, 21, 22, 23, 24, 11, 12, 13, 14, 15, 16, 17, 69, 70, 71, 72, 73] (by rfl) (by decide))⟩

set_option maxHeartbeats 1000000 in
set_option maxRecDepth 100000 in
theorem k_X10_markE (l : Launch) (dC : Nat → ClassId) (dI : Nat → Nat → Nat) (G : Nat → ClassId) (sz : Nat) (ax : Nat → Nat) (hi : adInj 129 ax) (T : Nat) (Y : Nat → Int32) (fa : Int32) (N : Nat) (B : Nat) (N1 : Nat) (B1 : Nat) (N2 : Nat) (B2 : Nat) (K : Nat → Int32) (S : Nat) (M : Nat) (E : Nat → Int32) (Z : Nat → Int32) (i : Int32) (d : Int32) : Met l yX10_mark (Cond.code yX10_mark cX10_mark 3 (some .int) :: GT) ({ frames := 1, cells := 0, slots := 0, locals := 22 } : Room) (PcI [.ref (ax 0), .int i, .int d] dC dI G (X10I dC dI G ax T Y fa N B N1 B1 N2 B2 K S M E Z) sz) (va_Qi (fun (r : Int32) (_ : Unit) => r = if ((0 ≤ i.toInt ∧ i.toInt < ((N : Nat) : Int)) ∧ 0 ≤ d.toInt ∧ d.toInt ≤ 9) then (if M < 6 then nI (M + 1) else -3) else -1) (fun _ t => X10I dC dI G ax T Y fa N B N1 B1 N2 B2 K S (if ((0 ≤ i.toInt ∧ i.toInt < ((N : Nat) : Int)) ∧ 0 ≤ d.toInt ∧ d.toInt ≤ 9) ∧ M < 6 then M + 1 else M) E Z t.heap) (adX 0 112 ax sz)) 0 0 (adX 0 112 ax sz) := by
  refine Met.pick (fun a st hp => ?_)
  obtain ⟨e0, hsz, hI, hK⟩ := hp
  subst hsz
  have hI0 := hI
  unfold X10I at hI
  obtain ⟨p0, p1, p2, p3, p4, p5, p6, p7, p8, p9, p10, p11, p12, p13, p14, p15, p16, hX⟩ := hI
  unfold X10Pr at p0
  obtain ⟨zi0_13, q0⟩ := p0
  unfold X10P1 at p4
  obtain ⟨zn11_2, zf12, zf13, zf14, zf15, zf16, zf17, p4j0, p4j1, p4j2, q11, q12, q13, q14, q15, q16, q17⟩ := p4
  unfold X10P9 at p14
  obtain ⟨zf75, zf76, p14j0, q74, q75, q76⟩ := p14
  refine ⟨_, _, _, c_X10_markE l dC dI G _ (ax 0) (ax 1) (ax 11) (ax 18) (ax 25) (ax 40) (ax 41) (ax 44) (ax 68) (ax 69) (ax 74) (ax 77) (ax 102) (ax 12) (ax 13) (ax 14) (ax 15) (ax 16) (ax 17) N B zn11_2 (ax 75) (ax 76) M fa zi0_13 i d zf75 zf76 (by assumption) (by assumption) (by assumption) (by assumption), ⟨e0, rfl, (vpc q0 (vpc q11 (vpc q74 (vpc q75 (vpc q76 va_nilP))))), hK, vD_ix hi [0, 11, 74, 75, 76] (by rfl) (by decide) (by decide)⟩, ad_ix [0, 11, 74, 75, 76] (by rfl) (by decide), fun o t hq => ?_⟩
  obtain ⟨⟨r, ⟨u0, u1, u2⟩, ho, ⟨hr, hu⟩, hP1, -⟩, hF⟩ := hq
  have FR : ∀ lo hi' : Nat, hi' ≤ 129 → ([0, 11, 74, 75, 76] : List Nat).all (fun x => decide (x < lo) || decide (hi' ≤ x)) = true → ∀ j : Nat, lo ≤ j → j < hi' → ax j < st.heap.size → t.heap[ax j]? = st.heap[ax j]? := fun lo hi' h1 h2 => fr_ix hi h1 hF.2 [0, 11, 74, 75, 76] (by rfl) (by decide) h2
  have xM : (if ((0 ≤ i.toInt ∧ i.toInt < ((N : Nat) : Int)) ∧ 0 ≤ d.toInt ∧ d.toInt ≤ 9) ∧ M < 6 then M + 1 else M) = u0 := Eq.symm (by first | exact hu | exact hu.1 | exact hu.2 | exact hu.1.1 | exact hu.1.2 | exact hu.2.1.trans (txt_cf (by assumption)) | exact hu.2.1.trans (txt_rf (by assumption)) | exact hu.1.1.trans lmap_step | omega)
  subst xM
  have np0 : X10Pr dC dI G ax fa t.heap := ⟨zi0_13, hP1 0 _ rfl⟩
  have np4 : X10P1 dC dI G ax N B t.heap := ⟨zn11_2, zf12, zf13, zf14, zf15, zf16, zf17, p4j0, p4j1, p4j2, hP1 1 _ rfl, q12.kept (FR 12 13 (by decide) (by decide) 12 (by decide) (by decide) q12.lt), q13.kept (FR 13 14 (by decide) (by decide) 13 (by decide) (by decide) q13.lt), q14.kept (FR 14 15 (by decide) (by decide) 14 (by decide) (by decide) q14.lt), q15.kept (FR 15 16 (by decide) (by decide) 15 (by decide) (by decide) q15.lt), q16.kept (FR 16 17 (by decide) (by decide) 16 (by decide) (by decide) q16.lt), q17.kept (FR 17 18 (by decide) (by decide) 17 (by decide) (by decide) q17.lt)⟩
  have np14 : X10P9 dC dI G ax (if ((0 ≤ i.toInt ∧ i.toInt < ((N : Nat) : Int)) ∧ 0 ≤ d.toInt ∧ d.toInt ≤ 9) ∧ M < 6 then M + 1 else M) t.heap := ⟨u1, u2, (by first | omega | exact hu | exact hu.1 | exact hu.1.1 | exact hu.1.2 | exact hu.2 | exact fd_nn (by assumption) | (split at hu <;> omega) | (split <;> omega) | exact E_inv (by assumption)), hP1 2 _ rfl, hP1 3 _ rfl, hP1 4 _ rfl⟩
  exact ⟨⟨r, (), ho, hr, ⟨np0, p1.kept (FR 1 2 (by decide) (by decide)), p2.kept (FR 2 4 (by decide) (by decide)), p3.kept (FR 4 11 (by decide) (by decide)), np4, p5.kept (FR 18 25 (by decide) (by decide)), p6.kept (FR 25 26 (by decide) (by decide)), p7.kept (FR 26 33 (by decide) (by decide)), p8.kept (FR 33 40 (by decide) (by decide)), p9.kept (FR 40 41 (by decide) (by decide)), p10.kept (FR 41 44 (by decide) (by decide)), p11.kept (FR 44 68 (by decide) (by decide)), p12.kept (FR 68 69 (by decide) (by decide)), p13.kept (FR 69 74 (by decide) (by decide)), np14, p15.kept (FR 77 102 (by decide) (by decide)), p16.kept (FR 102 112 (by decide) (by decide)), hX⟩⟩, hF.wide (ad_ix [0, 11, 74, 75, 76] (by rfl) (by decide))⟩

set_option maxHeartbeats 1000000 in
set_option maxRecDepth 100000 in
theorem k_X10_wipeE (l : Launch) (dC : Nat → ClassId) (dI : Nat → Nat → Nat) (G : Nat → ClassId) (sz : Nat) (ax : Nat → Nat) (hi : adInj 129 ax) (T : Nat) (Y : Nat → Int32) (fa : Int32) (N : Nat) (B : Nat) (N1 : Nat) (B1 : Nat) (N2 : Nat) (B2 : Nat) (K : Nat → Int32) (S : Nat) (M : Nat) (E : Nat → Int32) (Z : Nat → Int32) (n : Int32) : Met l yX10_wipe (Cond.code yX10_wipe cX10_wipe 3 (some .int) :: GT) ({ frames := 0, cells := 0, slots := 0, locals := 0 } : Room) (PcI [.ref (ax 0), .int n] dC dI G (X10I dC dI G ax T Y fa N B N1 B1 N2 B2 K S M E Z) sz) (va_Qi (fun (r : Int32) (_ : Unit) => r = if 0 ≤ n.toInt ∧ n.toInt ≤ ((M : Nat) : Int) then nI M else -1) (fun _ t => X10I dC dI G ax T Y fa N B N1 B1 N2 B2 K S (if 0 ≤ n.toInt ∧ n.toInt ≤ ((M : Nat) : Int) then n.toNatClampNeg else M) E Z t.heap) (adX 0 112 ax sz)) 0 0 (adX 0 112 ax sz) := by
  refine Met.pick (fun a st hp => ?_)
  obtain ⟨e0, hsz, hI, hK⟩ := hp
  subst hsz
  have hI0 := hI
  unfold X10I at hI
  obtain ⟨p0, p1, p2, p3, p4, p5, p6, p7, p8, p9, p10, p11, p12, p13, p14, p15, p16, hX⟩ := hI
  unfold X10Pr at p0
  obtain ⟨zi0_13, q0⟩ := p0
  unfold X10P9 at p14
  obtain ⟨zf75, zf76, p14j0, q74, q75, q76⟩ := p14
  refine ⟨_, _, _, c_X10_wipeE l dC dI G _ (ax 0) (ax 1) (ax 11) (ax 18) (ax 25) (ax 40) (ax 41) (ax 44) (ax 68) (ax 69) (ax 74) (ax 77) (ax 102) (ax 75) (ax 76) M fa zi0_13 n (by assumption), ⟨e0, rfl, (vpc q0 (vpc q74 va_nilP)), hK, vD_ix hi [0, 74] (by rfl) (by decide) (by decide)⟩, ad_ix [0, 74] (by rfl) (by decide), fun o t hq => ?_⟩
  obtain ⟨⟨r, u1, ho, ⟨hr, hu⟩, hP1, -⟩, hF⟩ := hq
  have FR : ∀ lo hi' : Nat, hi' ≤ 129 → ([0, 74] : List Nat).all (fun x => decide (x < lo) || decide (hi' ≤ x)) = true → ∀ j : Nat, lo ≤ j → j < hi' → ax j < st.heap.size → t.heap[ax j]? = st.heap[ax j]? := fun lo hi' h1 h2 => fr_ix hi h1 hF.2 [0, 74] (by rfl) (by decide) h2
  have xM : (if 0 ≤ n.toInt ∧ n.toInt ≤ ((M : Nat) : Int) then n.toNatClampNeg else M) = u1 := Eq.symm (by first | exact hu | exact hu.1 | exact hu.2 | exact hu.1.1 | exact hu.1.2 | exact hu.2.1.trans (txt_cf (by assumption)) | exact hu.2.1.trans (txt_rf (by assumption)) | exact hu.1.1.trans lmap_step | omega)
  subst xM
  have np0 : X10Pr dC dI G ax fa t.heap := ⟨zi0_13, hP1 0 _ rfl⟩
  have np14 : X10P9 dC dI G ax (if 0 ≤ n.toInt ∧ n.toInt ≤ ((M : Nat) : Int) then n.toNatClampNeg else M) t.heap := ⟨zf75, zf76, (by first | omega | exact hu | exact hu.1 | exact hu.1.1 | exact hu.1.2 | exact hu.2 | exact fd_nn (by assumption) | (split at hu <;> omega) | (split <;> omega) | exact E_inv (by assumption)), hP1 1 _ rfl, q75.kept (FR 75 76 (by decide) (by decide) 75 (by decide) (by decide) q75.lt), q76.kept (FR 76 77 (by decide) (by decide) 76 (by decide) (by decide) q76.lt)⟩
  exact ⟨⟨r, (), ho, hr, ⟨np0, p1.kept (FR 1 2 (by decide) (by decide)), p2.kept (FR 2 4 (by decide) (by decide)), p3.kept (FR 4 11 (by decide) (by decide)), p4.kept (FR 11 18 (by decide) (by decide)), p5.kept (FR 18 25 (by decide) (by decide)), p6.kept (FR 25 26 (by decide) (by decide)), p7.kept (FR 26 33 (by decide) (by decide)), p8.kept (FR 33 40 (by decide) (by decide)), p9.kept (FR 40 41 (by decide) (by decide)), p10.kept (FR 41 44 (by decide) (by decide)), p11.kept (FR 44 68 (by decide) (by decide)), p12.kept (FR 68 69 (by decide) (by decide)), p13.kept (FR 69 74 (by decide) (by decide)), np14, p15.kept (FR 77 102 (by decide) (by decide)), p16.kept (FR 102 112 (by decide) (by decide)), hX⟩⟩, hF.wide (ad_ix [0, 74] (by rfl) (by decide))⟩

set_option maxHeartbeats 1000000 in
set_option maxRecDepth 100000 in
theorem k_X10_paths (l : Launch) (dC : Nat → ClassId) (dI : Nat → Nat → Nat) (G : Nat → ClassId) (sz : Nat) (ax : Nat → Nat) (hi : adInj 129 ax) (T : Nat) (Y : Nat → Int32) (fa : Int32) (N : Nat) (B : Nat) (N1 : Nat) (B1 : Nat) (N2 : Nat) (B2 : Nat) (K : Nat → Int32) (S : Nat) (M : Nat) (E : Nat → Int32) (Z : Nat → Int32) : Met l yX10_paths (Cond.code yX10_paths cX10_paths 1 (some .int) :: GT) ({ frames := 5, cells := 0, slots := 0, locals := 111 } : Room) (PcI [.ref (ax 0)] dC dI G (X10I dC dI G ax T Y fa N B N1 B1 N2 B2 K S M E Z) sz) (va_Qi (fun (r : Int32) (_ : Unit) => True) (fun _ t => X10I dC dI G ax T Y fa N B N1 B1 N2 B2 K S M E Z t.heap) (adX 0 112 ax sz)) 0 0 (adX 0 112 ax sz) := by
  refine Met.pick (fun a st hp => ?_)
  obtain ⟨e0, hsz, hI, hK⟩ := hp
  subst hsz
  have hI0 := hI
  unfold X10I at hI
  obtain ⟨p0, p1, p2, p3, p4, p5, p6, p7, p8, p9, p10, p11, p12, p13, p14, p15, p16, hX⟩ := hI
  unfold X10Pr at p0
  obtain ⟨zi0_13, q0⟩ := p0
  unfold X10P1 at p4
  obtain ⟨zn11_2, zf12, zf13, zf14, zf15, zf16, zf17, p4j0, p4j1, p4j2, q11, q12, q13, q14, q15, q16, q17⟩ := p4
  unfold X10P9 at p14
  obtain ⟨zf75, zf76, p14j0, q74, q75, q76⟩ := p14
  unfold X10P10 at p15
  obtain ⟨zi77_0, zF80, zF91, q77, q78, q79, q80, q91⟩ := p15
  refine ⟨_, _, _, c_X10_paths l dC dI G _ (ax 0) (ax 1) (ax 11) (ax 18) (ax 25) (ax 40) (ax 41) (ax 44) (ax 68) (ax 69) (ax 74) (ax 77) (ax 102) (ax 78) (ax 79) (ax 12) (ax 13) (ax 14) (ax 15) (ax 16) (ax 17) N B zn11_2 (ax 75) (ax 76) M fa zi0_13 zi77_0 zf12 zf13 zf14 zf15 zf16 zf17 zf75 zf76 (fun iq => ax (80 + iq)) (fun iq => ax (91 + iq)) zF80 zF91 (by assumption) (by assumption) (by assumption) (by assumption), ⟨e0, rfl, (va_P.app (vpc q0 (vpc q77 (vpc q78 (vpc q79 (vpc q11 (vpc q12 (vpc q13 (vpc q14 (vpc q15 (vpc q16 (vpc q17 (vpc q74 (vpc q75 (vpc q76 va_nilP)))))))))))))) (va_P.app q80 (va_P.app q91 va_nilP))), hK, vD_ix hi [0, 77, 78, 79, 11, 12, 13, 14, 15, 16, 17, 74, 75, 76, 80, 81, 82, 83, 84, 85, 86, 87, 88, 89, 90, 91, 92, 93, 94, 95, 96, 97, 98, 99, 100, 101] (by rfl) (by decide) (by decide)⟩, ad_ix [0, 77, 78, 79, 11, 12, 13, 14, 15, 16, 17, 74, 75, 76, 80, 81, 82, 83, 84, 85, 86, 87, 88, 89, 90, 91, 92, 93, 94, 95, 96, 97, 98, 99, 100, 101] (by rfl) (by decide), fun o t hq => ?_⟩
  obtain ⟨⟨r, ⟨u0, u1, u2⟩, ho, ⟨hr, hu⟩, hP1, -⟩, hF⟩ := hq
  have FR : ∀ lo hi' : Nat, hi' ≤ 129 → ([0, 77, 78, 79, 11, 12, 13, 14, 15, 16, 17, 74, 75, 76, 80, 81, 82, 83, 84, 85, 86, 87, 88, 89, 90, 91, 92, 93, 94, 95, 96, 97, 98, 99, 100, 101] : List Nat).all (fun x => decide (x < lo) || decide (hi' ≤ x)) = true → ∀ j : Nat, lo ≤ j → j < hi' → ax j < st.heap.size → t.heap[ax j]? = st.heap[ax j]? := fun lo hi' h1 h2 => fr_ix hi h1 hF.2 [0, 77, 78, 79, 11, 12, 13, 14, 15, 16, 17, 74, 75, 76, 80, 81, 82, 83, 84, 85, 86, 87, 88, 89, 90, 91, 92, 93, 94, 95, 96, 97, 98, 99, 100, 101] (by rfl) (by decide) h2
  have np0 : X10Pr dC dI G ax fa t.heap := ⟨zi0_13, hP1 0 _ rfl⟩
  have np4 : X10P1 dC dI G ax N B t.heap := ⟨zn11_2, zf12, zf13, zf14, zf15, zf16, zf17, p4j0, p4j1, p4j2, hP1 4 _ rfl, hP1 5 _ rfl, hP1 6 _ rfl, hP1 7 _ rfl, hP1 8 _ rfl, hP1 9 _ rfl, hP1 10 _ rfl⟩
  have np14 : X10P9 dC dI G ax M t.heap := ⟨zf75, zf76, p14j0, hP1 11 _ rfl, hP1 12 _ rfl, hP1 13 _ rfl⟩
  have np15 : X10P10 dC dI G ax t.heap := ⟨u0, u1, u2, hP1 1 _ rfl, hP1 2 _ rfl, hP1 3 _ rfl, vp_mid hP1, vp_mid2 hP1⟩
  exact ⟨⟨r, (), ho, trivial, ⟨np0, p1.kept (FR 1 2 (by decide) (by decide)), p2.kept (FR 2 4 (by decide) (by decide)), p3.kept (FR 4 11 (by decide) (by decide)), np4, p5.kept (FR 18 25 (by decide) (by decide)), p6.kept (FR 25 26 (by decide) (by decide)), p7.kept (FR 26 33 (by decide) (by decide)), p8.kept (FR 33 40 (by decide) (by decide)), p9.kept (FR 40 41 (by decide) (by decide)), p10.kept (FR 41 44 (by decide) (by decide)), p11.kept (FR 44 68 (by decide) (by decide)), p12.kept (FR 68 69 (by decide) (by decide)), p13.kept (FR 69 74 (by decide) (by decide)), np14, np15, p16.kept (FR 102 112 (by decide) (by decide)), hX⟩⟩, hF.wide (ad_ix [0, 77, 78, 79, 11, 12, 13, 14, 15, 16, 17, 74, 75, 76, 80, 81, 82, 83, 84, 85, 86, 87, 88, 89, 90, 91, 92, 93, 94, 95, 96, 97, 98, 99, 100, 101] (by rfl) (by decide))⟩

set_option maxHeartbeats 1000000 in
set_option maxRecDepth 100000 in
theorem k_X10_eye (l : Launch) (dC : Nat → ClassId) (dI : Nat → Nat → Nat) (G : Nat → ClassId) (sz : Nat) (ax : Nat → Nat) (hi : adInj 129 ax) (T : Nat) (Y : Nat → Int32) (fa : Int32) (N : Nat) (B : Nat) (N1 : Nat) (B1 : Nat) (N2 : Nat) (B2 : Nat) (K : Nat → Int32) (S : Nat) (M : Nat) (E : Nat → Int32) (Z : Nat → Int32) (d : Int32) : Met l yX10_eye (Cond.code yX10_eye cX10_eye 4 (some .int) :: GT) ({ frames := 5, cells := 0, slots := 0, locals := 111 } : Room) (PcI [.ref (ax 0), .int d] dC dI G (X10I dC dI G ax T Y fa N B N1 B1 N2 B2 K S M E Z) sz) (va_Qi (fun (r : Int32) (_ : Unit) => True) (fun _ t => X10I dC dI G ax T Y fa N B N1 B1 N2 B2 K S M E Z t.heap) (adX 0 112 ax sz)) 0 0 (adX 0 112 ax sz) := by
  refine Met.pick (fun a st hp => ?_)
  obtain ⟨e0, hsz, hI, hK⟩ := hp
  subst hsz
  have hI0 := hI
  unfold X10I at hI
  obtain ⟨p0, p1, p2, p3, p4, p5, p6, p7, p8, p9, p10, p11, p12, p13, p14, p15, p16, hX⟩ := hI
  unfold X10Pr at p0
  obtain ⟨zi0_13, q0⟩ := p0
  unfold X10P1 at p4
  obtain ⟨zn11_2, zf12, zf13, zf14, zf15, zf16, zf17, p4j0, p4j1, p4j2, q11, q12, q13, q14, q15, q16, q17⟩ := p4
  unfold X10P9 at p14
  obtain ⟨zf75, zf76, p14j0, q74, q75, q76⟩ := p14
  unfold X10P10 at p15
  obtain ⟨zi77_0, zF80, zF91, q77, q78, q79, q80, q91⟩ := p15
  refine ⟨_, _, _, c_X10_eye l dC dI G _ (ax 0) (ax 1) (ax 11) (ax 18) (ax 25) (ax 40) (ax 41) (ax 44) (ax 68) (ax 69) (ax 74) (ax 77) (ax 102) (ax 78) (ax 79) (ax 12) (ax 13) (ax 14) (ax 15) (ax 16) (ax 17) N B zn11_2 (ax 75) (ax 76) M fa zi0_13 d zi77_0 zf12 zf13 zf14 zf15 zf16 zf17 zf75 zf76 (fun iq => ax (80 + iq)) (fun iq => ax (91 + iq)) zF80 zF91 (by assumption) (by assumption) (by assumption) (by assumption), ⟨e0, rfl, (va_P.app (vpc q0 (vpc q77 (vpc q78 (vpc q79 (vpc q11 (vpc q12 (vpc q13 (vpc q14 (vpc q15 (vpc q16 (vpc q17 (vpc q74 (vpc q75 (vpc q76 va_nilP)))))))))))))) (va_P.app q80 (va_P.app q91 va_nilP))), hK, vD_ix hi [0, 77, 78, 79, 11, 12, 13, 14, 15, 16, 17, 74, 75, 76, 80, 81, 82, 83, 84, 85, 86, 87, 88, 89, 90, 91, 92, 93, 94, 95, 96, 97, 98, 99, 100, 101] (by rfl) (by decide) (by decide)⟩, ad_ix [0, 77, 78, 79, 11, 12, 13, 14, 15, 16, 17, 74, 75, 76, 80, 81, 82, 83, 84, 85, 86, 87, 88, 89, 90, 91, 92, 93, 94, 95, 96, 97, 98, 99, 100, 101] (by rfl) (by decide), fun o t hq => ?_⟩
  obtain ⟨⟨r, ⟨u0, u1, u2⟩, ho, ⟨hr, hu⟩, hP1, -⟩, hF⟩ := hq
  have FR : ∀ lo hi' : Nat, hi' ≤ 129 → ([0, 77, 78, 79, 11, 12, 13, 14, 15, 16, 17, 74, 75, 76, 80, 81, 82, 83, 84, 85, 86, 87, 88, 89, 90, 91, 92, 93, 94, 95, 96, 97, 98, 99, 100, 101] : List Nat).all (fun x => decide (x < lo) || decide (hi' ≤ x)) = true → ∀ j : Nat, lo ≤ j → j < hi' → ax j < st.heap.size → t.heap[ax j]? = st.heap[ax j]? := fun lo hi' h1 h2 => fr_ix hi h1 hF.2 [0, 77, 78, 79, 11, 12, 13, 14, 15, 16, 17, 74, 75, 76, 80, 81, 82, 83, 84, 85, 86, 87, 88, 89, 90, 91, 92, 93, 94, 95, 96, 97, 98, 99, 100, 101] (by rfl) (by decide) h2
  have np0 : X10Pr dC dI G ax fa t.heap := ⟨zi0_13, hP1 0 _ rfl⟩
  have np4 : X10P1 dC dI G ax N B t.heap := ⟨zn11_2, zf12, zf13, zf14, zf15, zf16, zf17, p4j0, p4j1, p4j2, hP1 4 _ rfl, hP1 5 _ rfl, hP1 6 _ rfl, hP1 7 _ rfl, hP1 8 _ rfl, hP1 9 _ rfl, hP1 10 _ rfl⟩
  have np14 : X10P9 dC dI G ax M t.heap := ⟨zf75, zf76, p14j0, hP1 11 _ rfl, hP1 12 _ rfl, hP1 13 _ rfl⟩
  have np15 : X10P10 dC dI G ax t.heap := ⟨u0, u1, u2, hP1 1 _ rfl, hP1 2 _ rfl, hP1 3 _ rfl, vp_mid hP1, vp_mid2 hP1⟩
  exact ⟨⟨r, (), ho, trivial, ⟨np0, p1.kept (FR 1 2 (by decide) (by decide)), p2.kept (FR 2 4 (by decide) (by decide)), p3.kept (FR 4 11 (by decide) (by decide)), np4, p5.kept (FR 18 25 (by decide) (by decide)), p6.kept (FR 25 26 (by decide) (by decide)), p7.kept (FR 26 33 (by decide) (by decide)), p8.kept (FR 33 40 (by decide) (by decide)), p9.kept (FR 40 41 (by decide) (by decide)), p10.kept (FR 41 44 (by decide) (by decide)), p11.kept (FR 44 68 (by decide) (by decide)), p12.kept (FR 68 69 (by decide) (by decide)), p13.kept (FR 69 74 (by decide) (by decide)), np14, np15, p16.kept (FR 102 112 (by decide) (by decide)), hX⟩⟩, hF.wide (ad_ix [0, 77, 78, 79, 11, 12, 13, 14, 15, 16, 17, 74, 75, 76, 80, 81, 82, 83, 84, 85, 86, 87, 88, 89, 90, 91, 92, 93, 94, 95, 96, 97, 98, 99, 100, 101] (by rfl) (by decide))⟩

set_option maxHeartbeats 1000000 in
set_option maxRecDepth 100000 in
theorem k_X10_sure (l : Launch) (dC : Nat → ClassId) (dI : Nat → Nat → Nat) (G : Nat → ClassId) (sz : Nat) (ax : Nat → Nat) (hi : adInj 129 ax) (T : Nat) (Y : Nat → Int32) (fa : Int32) (N : Nat) (B : Nat) (N1 : Nat) (B1 : Nat) (N2 : Nat) (B2 : Nat) (K : Nat → Int32) (S : Nat) (M : Nat) (E : Nat → Int32) (Z : Nat → Int32) (what : Int32) : Met l yX10_sure (Cond.code yX10_sure cX10_sure 5 (some .int) :: GT) ({ frames := 5, cells := 0, slots := 0, locals := 112 } : Room) (PcI [.ref (ax 0), .int what] dC dI G (X10I dC dI G ax T Y fa N B N1 B1 N2 B2 K S M E Z) sz) (va_Qi (fun (r : Int32) (_ : Unit) => True) (fun _ t => X10I dC dI G ax T Y fa N B N1 B1 N2 B2 K S M E Z t.heap) (adX 0 112 ax sz)) 0 0 (adX 0 112 ax sz) := by
  refine Met.pick (fun a st hp => ?_)
  obtain ⟨e0, hsz, hI, hK⟩ := hp
  subst hsz
  have hI0 := hI
  unfold X10I at hI
  obtain ⟨p0, p1, p2, p3, p4, p5, p6, p7, p8, p9, p10, p11, p12, p13, p14, p15, p16, hX⟩ := hI
  unfold X10Pr at p0
  obtain ⟨zi0_13, q0⟩ := p0
  unfold X10P1 at p4
  obtain ⟨zn11_2, zf12, zf13, zf14, zf15, zf16, zf17, p4j0, p4j1, p4j2, q11, q12, q13, q14, q15, q16, q17⟩ := p4
  unfold X10P9 at p14
  obtain ⟨zf75, zf76, p14j0, q74, q75, q76⟩ := p14
  unfold X10P10 at p15
  obtain ⟨zi77_0, zF80, zF91, q77, q78, q79, q80, q91⟩ := p15
  refine ⟨_, _, _, c_X10_sure l dC dI G _ (ax 0) (ax 1) (ax 11) (ax 18) (ax 25) (ax 40) (ax 41) (ax 44) (ax 68) (ax 69) (ax 74) (ax 77) (ax 102) (ax 78) (ax 79) (ax 12) (ax 13) (ax 14) (ax 15) (ax 16) (ax 17) N B zn11_2 (ax 75) (ax 76) M fa zi0_13 what zi77_0 zf12 zf13 zf14 zf15 zf16 zf17 zf75 zf76 (fun iq => ax (80 + iq)) (fun iq => ax (91 + iq)) zF80 zF91 (by assumption) (by assumption) (by assumption) (by assumption), ⟨e0, rfl, (va_P.app (vpc q0 (vpc q77 (vpc q78 (vpc q79 (vpc q11 (vpc q12 (vpc q13 (vpc q14 (vpc q15 (vpc q16 (vpc q17 (vpc q74 (vpc q75 (vpc q76 va_nilP)))))))))))))) (va_P.app q80 (va_P.app q91 va_nilP))), hK, vD_ix hi [0, 77, 78, 79, 11, 12, 13, 14, 15, 16, 17, 74, 75, 76, 80, 81, 82, 83, 84, 85, 86, 87, 88, 89, 90, 91, 92, 93, 94, 95, 96, 97, 98, 99, 100, 101] (by rfl) (by decide) (by decide)⟩, ad_ix [0, 77, 78, 79, 11, 12, 13, 14, 15, 16, 17, 74, 75, 76, 80, 81, 82, 83, 84, 85, 86, 87, 88, 89, 90, 91, 92, 93, 94, 95, 96, 97, 98, 99, 100, 101] (by rfl) (by decide), fun o t hq => ?_⟩
  obtain ⟨⟨r, ⟨u0, u1, u2⟩, ho, ⟨hr, hu⟩, hP1, -⟩, hF⟩ := hq
  have FR : ∀ lo hi' : Nat, hi' ≤ 129 → ([0, 77, 78, 79, 11, 12, 13, 14, 15, 16, 17, 74, 75, 76, 80, 81, 82, 83, 84, 85, 86, 87, 88, 89, 90, 91, 92, 93, 94, 95, 96, 97, 98, 99, 100, 101] : List Nat).all (fun x => decide (x < lo) || decide (hi' ≤ x)) = true → ∀ j : Nat, lo ≤ j → j < hi' → ax j < st.heap.size → t.heap[ax j]? = st.heap[ax j]? := fun lo hi' h1 h2 => fr_ix hi h1 hF.2 [0, 77, 78, 79, 11, 12, 13, 14, 15, 16, 17, 74, 75, 76, 80, 81, 82, 83, 84, 85, 86, 87, 88, 89, 90, 91, 92, 93, 94, 95, 96, 97, 98, 99, 100, 101] (by rfl) (by decide) h2
  have np0 : X10Pr dC dI G ax fa t.heap := ⟨zi0_13, hP1 0 _ rfl⟩
  have np4 : X10P1 dC dI G ax N B t.heap := ⟨zn11_2, zf12, zf13, zf14, zf15, zf16, zf17, p4j0, p4j1, p4j2, hP1 4 _ rfl, hP1 5 _ rfl, hP1 6 _ rfl, hP1 7 _ rfl, hP1 8 _ rfl, hP1 9 _ rfl, hP1 10 _ rfl⟩
  have np14 : X10P9 dC dI G ax M t.heap := ⟨zf75, zf76, p14j0, hP1 11 _ rfl, hP1 12 _ rfl, hP1 13 _ rfl⟩
  have np15 : X10P10 dC dI G ax t.heap := ⟨u0, u1, u2, hP1 1 _ rfl, hP1 2 _ rfl, hP1 3 _ rfl, vp_mid hP1, vp_mid2 hP1⟩
  exact ⟨⟨r, (), ho, trivial, ⟨np0, p1.kept (FR 1 2 (by decide) (by decide)), p2.kept (FR 2 4 (by decide) (by decide)), p3.kept (FR 4 11 (by decide) (by decide)), np4, p5.kept (FR 18 25 (by decide) (by decide)), p6.kept (FR 25 26 (by decide) (by decide)), p7.kept (FR 26 33 (by decide) (by decide)), p8.kept (FR 33 40 (by decide) (by decide)), p9.kept (FR 40 41 (by decide) (by decide)), p10.kept (FR 41 44 (by decide) (by decide)), p11.kept (FR 44 68 (by decide) (by decide)), p12.kept (FR 68 69 (by decide) (by decide)), p13.kept (FR 69 74 (by decide) (by decide)), np14, np15, p16.kept (FR 102 112 (by decide) (by decide)), hX⟩⟩, hF.wide (ad_ix [0, 77, 78, 79, 11, 12, 13, 14, 15, 16, 17, 74, 75, 76, 80, 81, 82, 83, 84, 85, 86, 87, 88, 89, 90, 91, 92, 93, 94, 95, 96, 97, 98, 99, 100, 101] (by rfl) (by decide))⟩

set_option maxHeartbeats 1000000 in
set_option maxRecDepth 100000 in
theorem k_X10_keepE (l : Launch) (dC : Nat → ClassId) (dI : Nat → Nat → Nat) (G : Nat → ClassId) (sz : Nat) (ax : Nat → Nat) (hi : adInj 129 ax) (T : Nat) (Y : Nat → Int32) (fa : Int32) (N : Nat) (B : Nat) (N1 : Nat) (B1 : Nat) (N2 : Nat) (B2 : Nat) (K : Nat → Int32) (S : Nat) (M : Nat) (E : Nat → Int32) (Z : Nat → Int32) (k : Int32) : Met l yX10_keep (Cond.code yX10_keep cX10_keep 3 (some .int) :: GT) ({ frames := 2, cells := 0, slots := 0, locals := 121 } : Room) (PcI [.ref (ax 0), .int k] dC dI G (X10I dC dI G ax T Y fa N B N1 B1 N2 B2 K S M E Z) sz) (va_Qi (fun (r : Int32) (_ : Unit) => r = if (0 ≤ k.toInt ∧ k.toInt < 2) then (if K k.toNatClampNeg = 0 then 0 else 1) else -1) (fun _ t => X10I dC dI G ax T Y fa N B (if k = 0 then N else N1) (if k = 0 then B else B1) (if k = 1 then N else N2) (if k = 1 then B else B2) (if (0 ≤ k.toInt ∧ k.toInt < 2) then upd K k.toNatClampNeg 1 else K) S M E Z t.heap) (adX 0 112 ax sz)) 0 0 (adX 0 112 ax sz) := by
  refine Met.pick (fun a st hp => ?_)
  obtain ⟨e0, hsz, hI, hK⟩ := hp
  subst hsz
  have hI0 := hI
  unfold X10I at hI
  obtain ⟨p0, p1, p2, p3, p4, p5, p6, p7, p8, p9, p10, p11, p12, p13, p14, p15, p16, hX⟩ := hI
  unfold X10Pr at p0
  obtain ⟨zi0_13, q0⟩ := p0
  unfold X10P1 at p4
  obtain ⟨zn11_2, zf12, zf13, zf14, zf15, zf16, zf17, p4j0, p4j1, p4j2, q11, q12, q13, q14, q15, q16, q17⟩ := p4
  unfold X10P3 at p6
  have q25 := p6
  unfold X10P3_0 at p7
  obtain ⟨zn26_2, zf27, zf28, zf29, zf30, zf31, zf32, p7j0, p7j1, p7j2, q26, q27, q28, q29, q30, q31, q32⟩ := p7
  unfold X10P3_1 at p8
  obtain ⟨zn33_2, zf34, zf35, zf36, zf37, zf38, zf39, p8j0, p8j1, p8j2, q33, q34, q35, q36, q37, q38, q39⟩ := p8
  unfold X10P4 at p9
  have q40 := p9
  refine ⟨_, _, _, c_X10_keepE l dC dI G _ (ax 0) (ax 1) (ax 11) (ax 18) (ax 25) (ax 40) (ax 41) (ax 44) (ax 68) (ax 69) (ax 74) (ax 77) (ax 102) (ax 12) (ax 13) (ax 14) (ax 15) (ax 16) (ax 17) N B zn11_2 (ax 26) (ax 33) (ax 27) (ax 28) (ax 29) (ax 30) (ax 31) (ax 32) (ax 34) (ax 35) (ax 36) (ax 37) (ax 38) (ax 39) N1 B1 zn26_2 N2 B2 zn33_2 fa zi0_13 k zf12 zf13 zf14 zf15 zf16 zf17 K zf27 zf28 zf29 zf30 zf31 zf32 zf34 zf35 zf36 zf37 zf38 zf39 (by assumption) (by assumption) (by assumption) (by assumption) (by assumption) (by assumption) (by assumption) (by assumption) (by assumption), ⟨e0, rfl, (vpc q0 (vpc q11 (vpc q12 (vpc q13 (vpc q14 (vpc q15 (vpc q16 (vpc q17 (vpc q25 (vpc q40 (vpc q26 (vpc q27 (vpc q28 (vpc q29 (vpc q30 (vpc q31 (vpc q32 (vpc q33 (vpc q34 (vpc q35 (vpc q36 (vpc q37 (vpc q38 (vpc q39 va_nilP)))))))))))))))))))))))), hK, vD_ix hi [0, 11, 12, 13, 14, 15, 16, 17, 25, 40, 26, 27, 28, 29, 30, 31, 32, 33, 34, 35, 36, 37, 38, 39] (by rfl) (by decide) (by decide)⟩, ad_ix [0, 11, 12, 13, 14, 15, 16, 17, 25, 40, 26, 27, 28, 29, 30, 31, 32, 33, 34, 35, 36, 37, 38, 39] (by rfl) (by decide), fun o t hq => ?_⟩
  obtain ⟨⟨r, ⟨u0, u1, u2, u3, u4, u5, u6, u7, u8, u9, u10, u11, u12, u13, u14, u15, u16, u17, u18⟩, ho, ⟨hr, hu⟩, hP1, -⟩, hF⟩ := hq
  have FR : ∀ lo hi' : Nat, hi' ≤ 129 → ([0, 11, 12, 13, 14, 15, 16, 17, 25, 40, 26, 27, 28, 29, 30, 31, 32, 33, 34, 35, 36, 37, 38, 39] : List Nat).all (fun x => decide (x < lo) || decide (hi' ≤ x)) = true → ∀ j : Nat, lo ≤ j → j < hi' → ax j < st.heap.size → t.heap[ax j]? = st.heap[ax j]? := fun lo hi' h1 h2 => fr_ix hi h1 hF.2 [0, 11, 12, 13, 14, 15, 16, 17, 25, 40, 26, 27, 28, 29, 30, 31, 32, 33, 34, 35, 36, 37, 38, 39] (by rfl) (by decide) h2
  have xN1 : (if k = 0 then N else N1) = u0 := Eq.symm (hu.2.2.1)
  subst xN1
  have xB1 : (if k = 0 then B else B1) = u1 := Eq.symm (hu.2.2.2.1)
  subst xB1
  have xN2 : (if k = 1 then N else N2) = u9 := Eq.symm (hu.2.2.2.2.1)
  subst xN2
  have xB2 : (if k = 1 then B else B2) = u10 := Eq.symm (hu.2.2.2.2.2)
  subst xB2
  have y40 : (if (0 ≤ k.toInt ∧ k.toInt < 2) then upd K k.toNatClampNeg 1 else K) = u18 := Eq.symm (hu.2.1)
  subst y40
  replace hu := hu.1
  have np0 : X10Pr dC dI G ax fa t.heap := ⟨zi0_13, hP1 0 _ rfl⟩
  have np4 : X10P1 dC dI G ax N B t.heap := ⟨zn11_2, zf12, zf13, zf14, zf15, zf16, zf17, p4j0, p4j1, p4j2, hP1 1 _ rfl, hP1 2 _ rfl, hP1 3 _ rfl, hP1 4 _ rfl, hP1 5 _ rfl, hP1 6 _ rfl, hP1 7 _ rfl⟩
  have np6 : X10P3 dC dI G ax t.heap := hP1 8 _ rfl
  have np7 : X10P3_0 dC dI G ax (if k = 0 then N else N1) (if k = 0 then B else B1) t.heap := ⟨u2, u3, u4, u5, u6, u7, u8, (by first | omega | exact hu | exact hu.1 | exact hu.1.1 | exact hu.1.2 | exact hu.2 | exact fd_nn (by assumption) | (split at hu <;> omega) | (split <;> omega) | exact E_inv (by assumption)), (by first | omega | exact hu | exact hu.1 | exact hu.1.1 | exact hu.1.2 | exact hu.2 | exact fd_nn (by assumption) | (split at hu <;> omega) | (split <;> omega) | exact E_inv (by assumption)), (by first | omega | exact hu | exact hu.1 | exact hu.1.1 | exact hu.1.2 | exact hu.2 | exact fd_nn (by assumption) | (split at hu <;> omega) | (split <;> omega) | exact E_inv (by assumption)), hP1 10 _ rfl, hP1 11 _ rfl, hP1 12 _ rfl, hP1 13 _ rfl, hP1 14 _ rfl, hP1 15 _ rfl, hP1 16 _ rfl⟩
  have np8 : X10P3_1 dC dI G ax (if k = 1 then N else N2) (if k = 1 then B else B2) t.heap := ⟨u11, u12, u13, u14, u15, u16, u17, (by first | omega | exact hu | exact hu.1 | exact hu.1.1 | exact hu.1.2 | exact hu.2 | exact fd_nn (by assumption) | (split at hu <;> omega) | (split <;> omega) | exact E_inv (by assumption)), (by first | omega | exact hu | exact hu.1 | exact hu.1.1 | exact hu.1.2 | exact hu.2 | exact fd_nn (by assumption) | (split at hu <;> omega) | (split <;> omega) | exact E_inv (by assumption)), (by first | omega | exact hu | exact hu.1 | exact hu.1.1 | exact hu.1.2 | exact hu.2 | exact fd_nn (by assumption) | (split at hu <;> omega) | (split <;> omega) | exact E_inv (by assumption)), hP1 17 _ rfl, hP1 18 _ rfl, hP1 19 _ rfl, hP1 20 _ rfl, hP1 21 _ rfl, hP1 22 _ rfl, hP1 23 _ rfl⟩
  have np9 : X10P4 dC dI G ax (if (0 ≤ k.toInt ∧ k.toInt < 2) then upd K k.toNatClampNeg 1 else K) t.heap := hP1 9 _ rfl
  exact ⟨⟨r, (), ho, hr, ⟨np0, p1.kept (FR 1 2 (by decide) (by decide)), p2.kept (FR 2 4 (by decide) (by decide)), p3.kept (FR 4 11 (by decide) (by decide)), np4, p5.kept (FR 18 25 (by decide) (by decide)), np6, np7, np8, np9, p10.kept (FR 41 44 (by decide) (by decide)), p11.kept (FR 44 68 (by decide) (by decide)), p12.kept (FR 68 69 (by decide) (by decide)), p13.kept (FR 69 74 (by decide) (by decide)), p14.kept (FR 74 77 (by decide) (by decide)), p15.kept (FR 77 102 (by decide) (by decide)), p16.kept (FR 102 112 (by decide) (by decide)), kp_X hX⟩⟩, hF.wide (ad_ix [0, 11, 12, 13, 14, 15, 16, 17, 25, 40, 26, 27, 28, 29, 30, 31, 32, 33, 34, 35, 36, 37, 38, 39] (by rfl) (by decide))⟩

set_option maxHeartbeats 1000000 in
set_option maxRecDepth 100000 in
theorem k_X10_backE (l : Launch) (dC : Nat → ClassId) (dI : Nat → Nat → Nat) (G : Nat → ClassId) (sz : Nat) (ax : Nat → Nat) (hi : adInj 129 ax) (T : Nat) (Y : Nat → Int32) (fa : Int32) (N : Nat) (B : Nat) (N1 : Nat) (B1 : Nat) (N2 : Nat) (B2 : Nat) (K : Nat → Int32) (S : Nat) (M : Nat) (E : Nat → Int32) (Z : Nat → Int32) (k : Int32) : Met l yX10_back (Cond.code yX10_back cX10_back 2 (some .int) :: GT) ({ frames := 2, cells := 0, slots := 0, locals := 121 } : Room) (PcI [.ref (ax 0), .int k] dC dI G (X10I dC dI G ax T Y fa N B N1 B1 N2 B2 K S M E Z) sz) (va_Qi (fun (r : Int32) (_ : Unit) => r = if (0 ≤ k.toInt ∧ k.toInt < 2) then (if K k.toNatClampNeg = 0 then -2 else nI N) else -1) (fun _ t => X10I dC dI G ax T Y fa N B N1 B1 N2 B2 K S M E Z t.heap) (adX 0 112 ax sz)) 0 0 (adX 0 112 ax sz) := by
  refine Met.pick (fun a st hp => ?_)
  obtain ⟨e0, hsz, hI, hK⟩ := hp
  subst hsz
  have hI0 := hI
  unfold X10I at hI
  obtain ⟨p0, p1, p2, p3, p4, p5, p6, p7, p8, p9, p10, p11, p12, p13, p14, p15, p16, hX⟩ := hI
  unfold X10Pr at p0
  obtain ⟨zi0_13, q0⟩ := p0
  unfold X10P1 at p4
  obtain ⟨zn11_2, zf12, zf13, zf14, zf15, zf16, zf17, p4j0, p4j1, p4j2, q11, q12, q13, q14, q15, q16, q17⟩ := p4
  unfold X10P3 at p6
  have q25 := p6
  unfold X10P3_0 at p7
  obtain ⟨zn26_2, zf27, zf28, zf29, zf30, zf31, zf32, p7j0, p7j1, p7j2, q26, q27, q28, q29, q30, q31, q32⟩ := p7
  unfold X10P3_1 at p8
  obtain ⟨zn33_2, zf34, zf35, zf36, zf37, zf38, zf39, p8j0, p8j1, p8j2, q33, q34, q35, q36, q37, q38, q39⟩ := p8
  unfold X10P4 at p9
  have q40 := p9
  refine ⟨_, _, _, c_X10_backE l dC dI G _ (ax 0) (ax 1) (ax 11) (ax 18) (ax 25) (ax 40) (ax 41) (ax 44) (ax 68) (ax 69) (ax 74) (ax 77) (ax 102) (ax 12) (ax 13) (ax 14) (ax 15) (ax 16) (ax 17) N B zn11_2 (ax 26) (ax 33) (ax 27) (ax 28) (ax 29) (ax 30) (ax 31) (ax 32) (ax 34) (ax 35) (ax 36) (ax 37) (ax 38) (ax 39) N1 B1 zn26_2 N2 B2 zn33_2 fa zi0_13 k zf12 zf13 zf14 zf15 zf16 zf17 K zf27 zf28 zf29 zf30 zf31 zf32 zf34 zf35 zf36 zf37 zf38 zf39 (by assumption) (by assumption) (by assumption) (by assumption) (by assumption) (by assumption) (by assumption) (by assumption) (by assumption), ⟨e0, rfl, (vpc q0 (vpc q11 (vpc q12 (vpc q13 (vpc q14 (vpc q15 (vpc q16 (vpc q17 (vpc q25 (vpc q40 (vpc q26 (vpc q27 (vpc q28 (vpc q29 (vpc q30 (vpc q31 (vpc q32 (vpc q33 (vpc q34 (vpc q35 (vpc q36 (vpc q37 (vpc q38 (vpc q39 va_nilP)))))))))))))))))))))))), hK, vD_ix hi [0, 11, 12, 13, 14, 15, 16, 17, 25, 40, 26, 27, 28, 29, 30, 31, 32, 33, 34, 35, 36, 37, 38, 39] (by rfl) (by decide) (by decide)⟩, ad_ix [0, 11, 12, 13, 14, 15, 16, 17, 25, 40, 26, 27, 28, 29, 30, 31, 32, 33, 34, 35, 36, 37, 38, 39] (by rfl) (by decide), fun o t hq => ?_⟩
  obtain ⟨⟨r, ⟨u0, u1, u2, u3, u4, u5, u6, u7, u8⟩, ho, ⟨hr, hu⟩, hP1, -⟩, hF⟩ := hq
  have FR : ∀ lo hi' : Nat, hi' ≤ 129 → ([0, 11, 12, 13, 14, 15, 16, 17, 25, 40, 26, 27, 28, 29, 30, 31, 32, 33, 34, 35, 36, 37, 38, 39] : List Nat).all (fun x => decide (x < lo) || decide (hi' ≤ x)) = true → ∀ j : Nat, lo ≤ j → j < hi' → ax j < st.heap.size → t.heap[ax j]? = st.heap[ax j]? := fun lo hi' h1 h2 => fr_ix hi h1 hF.2 [0, 11, 12, 13, 14, 15, 16, 17, 25, 40, 26, 27, 28, 29, 30, 31, 32, 33, 34, 35, 36, 37, 38, 39] (by rfl) (by decide) h2
  have xN : N = u0 := Eq.symm (hu.2.1.trans (bk_N hX))
  subst xN
  have xB : B = u1 := Eq.symm (hu.2.2.trans (bk_B hX))
  subst xB
  replace hu := hu.1
  have np0 : X10Pr dC dI G ax fa t.heap := ⟨zi0_13, hP1 0 _ rfl⟩
  have np4 : X10P1 dC dI G ax N B t.heap := ⟨u2, u3, u4, u5, u6, u7, u8, p4j0, p4j1, (by first | omega | exact hu | exact hu.1 | exact hu.1.1 | exact hu.1.2 | exact hu.2 | exact fd_nn (by assumption) | (split at hu <;> omega) | (split <;> omega) | exact E_inv (by assumption)), hP1 1 _ rfl, hP1 2 _ rfl, hP1 3 _ rfl, hP1 4 _ rfl, hP1 5 _ rfl, hP1 6 _ rfl, hP1 7 _ rfl⟩
  have np6 : X10P3 dC dI G ax t.heap := hP1 8 _ rfl
  have np7 : X10P3_0 dC dI G ax N1 B1 t.heap := ⟨zn26_2, zf27, zf28, zf29, zf30, zf31, zf32, p7j0, p7j1, p7j2, hP1 10 _ rfl, hP1 11 _ rfl, hP1 12 _ rfl, hP1 13 _ rfl, hP1 14 _ rfl, hP1 15 _ rfl, hP1 16 _ rfl⟩
  have np8 : X10P3_1 dC dI G ax N2 B2 t.heap := ⟨zn33_2, zf34, zf35, zf36, zf37, zf38, zf39, p8j0, p8j1, p8j2, hP1 17 _ rfl, hP1 18 _ rfl, hP1 19 _ rfl, hP1 20 _ rfl, hP1 21 _ rfl, hP1 22 _ rfl, hP1 23 _ rfl⟩
  have np9 : X10P4 dC dI G ax K t.heap := hP1 9 _ rfl
  exact ⟨⟨r, (), ho, hr.trans (bk_eq hX), ⟨np0, p1.kept (FR 1 2 (by decide) (by decide)), p2.kept (FR 2 4 (by decide) (by decide)), p3.kept (FR 4 11 (by decide) (by decide)), np4, p5.kept (FR 18 25 (by decide) (by decide)), np6, np7, np8, np9, p10.kept (FR 41 44 (by decide) (by decide)), p11.kept (FR 44 68 (by decide) (by decide)), p12.kept (FR 68 69 (by decide) (by decide)), p13.kept (FR 69 74 (by decide) (by decide)), p14.kept (FR 74 77 (by decide) (by decide)), p15.kept (FR 77 102 (by decide) (by decide)), p16.kept (FR 102 112 (by decide) (by decide)), hX⟩⟩, hF.wide (ad_ix [0, 11, 12, 13, 14, 15, 16, 17, 25, 40, 26, 27, 28, 29, 30, 31, 32, 33, 34, 35, 36, 37, 38, 39] (by rfl) (by decide))⟩

set_option maxHeartbeats 1000000 in
set_option maxRecDepth 100000 in
theorem k_X10_sheet (l : Launch) (dC : Nat → ClassId) (dI : Nat → Nat → Nat) (G : Nat → ClassId) (sz : Nat) (ax : Nat → Nat) (hi : adInj 129 ax) (T : Nat) (Y : Nat → Int32) (fa : Int32) (N : Nat) (B : Nat) (N1 : Nat) (B1 : Nat) (N2 : Nat) (B2 : Nat) (K : Nat → Int32) (S : Nat) (M : Nat) (E : Nat → Int32) (Z : Nat → Int32) (k : Int32) (lane : Int32) (n : Int32) : Met l yX10_sheet (Cond.code yX10_sheet cX10_sheet 4 (some .int) :: GT) ({ frames := 2, cells := 0, slots := 0, locals := 44 } : Room) (PcI [.ref (ax 0), .int k, .int lane, .int n] dC dI G (X10I dC dI G ax T Y fa N B N1 B1 N2 B2 K S M E Z) sz) (va_Qi (fun (r : Int32) (_ : Unit) => r = if (0 ≤ k.toInt ∧ k.toInt < 4) ∧ (0 ≤ lane.toInt ∧ lane.toInt ≤ 2) ∧ n.toInt ≤ 40 then (if n.toInt < 0 then -14 else 1) else -1) (fun _ t => X10I dC dI G ax T Y fa N B N1 B1 N2 B2 K S M (if ((0 ≤ k.toInt ∧ k.toInt < 4) ∧ (0 ≤ lane.toInt ∧ lane.toInt ≤ 2) ∧ n.toInt ≤ 40 ∧ 0 ≤ n.toInt) then upd E k.toNatClampNeg lane else E) (if ((0 ≤ k.toInt ∧ k.toInt < 4) ∧ (0 ≤ lane.toInt ∧ lane.toInt ≤ 2) ∧ n.toInt ≤ 40 ∧ 0 ≤ n.toInt) then upd Z k.toNatClampNeg n else Z) t.heap) (adX 0 112 ax sz)) 0 0 (adX 0 112 ax sz) := by
  refine Met.pick (fun a st hp => ?_)
  obtain ⟨e0, hsz, hI, hK⟩ := hp
  subst hsz
  have hI0 := hI
  unfold X10I at hI
  obtain ⟨p0, p1, p2, p3, p4, p5, p6, p7, p8, p9, p10, p11, p12, p13, p14, p15, p16, hX⟩ := hI
  unfold X10Pr at p0
  obtain ⟨zi0_13, q0⟩ := p0
  unfold X10P11 at p16
  obtain ⟨zi102_3, zi102_4, zf106, zf107, zF108, p16j0, p16j1, q102, q103, q104, q105, q106, q107, q108⟩ := p16
  refine ⟨_, _, _, c_X10_sheet l dC dI G _ (ax 0) (ax 1) (ax 11) (ax 18) (ax 25) (ax 40) (ax 41) (ax 44) (ax 68) (ax 69) (ax 74) (ax 77) (ax 102) (ax 103) (ax 104) (ax 105) (ax 106) (ax 107) fa zi0_13 k lane n zi102_3 zi102_4 E Z (fun iq => ax (108 + iq)) zF108 (by assumption), ⟨e0, rfl, (va_P.app (vpc q0 (vpc q102 (vpc q103 (vpc q104 (vpc q105 va_nilP))))) (va_P.app q108 va_nilP)), hK, vD_ix hi [0, 102, 103, 104, 105, 108, 109, 110, 111] (by rfl) (by decide) (by decide)⟩, ad_ix [0, 102, 103, 104, 105, 108, 109, 110, 111] (by rfl) (by decide), fun o t hq => ?_⟩
  obtain ⟨⟨r, ⟨u0, u1, u2⟩, ho, ⟨hr, hu⟩, hP1, -⟩, hF⟩ := hq
  have FR : ∀ lo hi' : Nat, hi' ≤ 129 → ([0, 102, 103, 104, 105, 108, 109, 110, 111] : List Nat).all (fun x => decide (x < lo) || decide (hi' ≤ x)) = true → ∀ j : Nat, lo ≤ j → j < hi' → ax j < st.heap.size → t.heap[ax j]? = st.heap[ax j]? := fun lo hi' h1 h2 => fr_ix hi h1 hF.2 [0, 102, 103, 104, 105, 108, 109, 110, 111] (by rfl) (by decide) h2
  have y103 : (if ((0 ≤ k.toInt ∧ k.toInt < 4) ∧ (0 ≤ lane.toInt ∧ lane.toInt ≤ 2) ∧ n.toInt ≤ 40 ∧ 0 ≤ n.toInt) then upd E k.toNatClampNeg lane else E) = u0 := Eq.symm (by first | exact hu | exact hu.1 | exact hu.2 | exact hu.1.1 | exact hu.1.2 | exact hu.2.1.trans (txt_cf (by assumption)) | exact hu.2.1.trans (txt_rf (by assumption)) | exact hu.1.1.trans lmap_step | omega)
  subst y103
  have y104 : (if ((0 ≤ k.toInt ∧ k.toInt < 4) ∧ (0 ≤ lane.toInt ∧ lane.toInt ≤ 2) ∧ n.toInt ≤ 40 ∧ 0 ≤ n.toInt) then upd Z k.toNatClampNeg n else Z) = u1 := Eq.symm (by first | exact hu | exact hu.1 | exact hu.2 | exact hu.1.1 | exact hu.1.2 | exact hu.2.1.trans (txt_cf (by assumption)) | exact hu.2.1.trans (txt_rf (by assumption)) | exact hu.1.1.trans lmap_step | omega)
  subst y104
  have np0 : X10Pr dC dI G ax fa t.heap := ⟨zi0_13, hP1 0 _ rfl⟩
  have np16 : X10P11 dC dI G ax (if ((0 ≤ k.toInt ∧ k.toInt < 4) ∧ (0 ≤ lane.toInt ∧ lane.toInt ≤ 2) ∧ n.toInt ≤ 40 ∧ 0 ≤ n.toInt) then upd E k.toNatClampNeg lane else E) (if ((0 ≤ k.toInt ∧ k.toInt < 4) ∧ (0 ≤ lane.toInt ∧ lane.toInt ≤ 2) ∧ n.toInt ≤ 40 ∧ 0 ≤ n.toInt) then upd Z k.toNatClampNeg n else Z) t.heap := ⟨zi102_3, zi102_4, zf106, zf107, u2, (by first | omega | exact hu | exact hu.1 | exact hu.1.1 | exact hu.1.2 | exact hu.2 | exact fd_nn (by assumption) | (split at hu <;> omega) | (split <;> omega) | exact E_inv (by assumption)), (by first | omega | exact hu | exact hu.1 | exact hu.1.1 | exact hu.1.2 | exact hu.2 | exact fd_nn (by assumption) | (split at hu <;> omega) | (split <;> omega) | exact E_inv (by assumption)), hP1 1 _ rfl, hP1 2 _ rfl, hP1 3 _ rfl, hP1 4 _ rfl, q106.kept (FR 106 107 (by decide) (by decide) 106 (by decide) (by decide) q106.lt), q107.kept (FR 107 108 (by decide) (by decide) 107 (by decide) (by decide) q107.lt), vp_mid hP1⟩
  exact ⟨⟨r, (), ho, hr, ⟨np0, p1.kept (FR 1 2 (by decide) (by decide)), p2.kept (FR 2 4 (by decide) (by decide)), p3.kept (FR 4 11 (by decide) (by decide)), p4.kept (FR 11 18 (by decide) (by decide)), p5.kept (FR 18 25 (by decide) (by decide)), p6.kept (FR 25 26 (by decide) (by decide)), p7.kept (FR 26 33 (by decide) (by decide)), p8.kept (FR 33 40 (by decide) (by decide)), p9.kept (FR 40 41 (by decide) (by decide)), p10.kept (FR 41 44 (by decide) (by decide)), p11.kept (FR 44 68 (by decide) (by decide)), p12.kept (FR 68 69 (by decide) (by decide)), p13.kept (FR 69 74 (by decide) (by decide)), p14.kept (FR 74 77 (by decide) (by decide)), p15.kept (FR 77 102 (by decide) (by decide)), np16, hX⟩⟩, hF.wide (ad_ix [0, 102, 103, 104, 105, 108, 109, 110, 111] (by rfl) (by decide))⟩

set_option maxHeartbeats 1000000 in
set_option maxRecDepth 100000 in
theorem k_X10_lay (l : Launch) (dC : Nat → ClassId) (dI : Nat → Nat → Nat) (G : Nat → ClassId) (sz : Nat) (ax : Nat → Nat) (hi : adInj 129 ax) (T : Nat) (Y : Nat → Int32) (fa : Int32) (N : Nat) (B : Nat) (N1 : Nat) (B1 : Nat) (N2 : Nat) (B2 : Nat) (K : Nat → Int32) (S : Nat) (M : Nat) (E : Nat → Int32) (Z : Nat → Int32) (k : Int32) (i : Int32) (v : Int32) : Met l yX10_lay (Cond.code yX10_lay cX10_lay 5 (some .int) :: GT) ({ frames := 2, cells := 0, slots := 0, locals := 46 } : Room) (PcI [.ref (ax 0), .int k, .int i, .int v] dC dI G (X10I dC dI G ax T Y fa N B N1 B1 N2 B2 K S M E Z) sz) (va_Qi (fun (r : Int32) (_ : Unit) => r = if 0 ≤ k.toInt ∧ k.toInt < 4 then (if E k.toNatClampNeg = -1 then -11 else if 0 ≤ i.toInt ∧ i.toInt < (Z k.toNatClampNeg).toInt then 1 else -12) else -1) (fun _ t => X10I dC dI G ax T Y fa N B N1 B1 N2 B2 K S M E Z t.heap) (adX 0 112 ax sz)) 0 0 (adX 0 112 ax sz) := by
  refine Met.pick (fun a st hp => ?_)
  obtain ⟨e0, hsz, hI, hK⟩ := hp
  subst hsz
  have hI0 := hI
  unfold X10I at hI
  obtain ⟨p0, p1, p2, p3, p4, p5, p6, p7, p8, p9, p10, p11, p12, p13, p14, p15, p16, hX⟩ := hI
  unfold X10Pr at p0
  obtain ⟨zi0_13, q0⟩ := p0
  unfold X10P11 at p16
  obtain ⟨zi102_3, zi102_4, zf106, zf107, zF108, p16j0, p16j1, q102, q103, q104, q105, q106, q107, q108⟩ := p16
  refine ⟨_, _, _, c_X10_lay l dC dI G _ (ax 0) (ax 1) (ax 11) (ax 18) (ax 25) (ax 40) (ax 41) (ax 44) (ax 68) (ax 69) (ax 74) (ax 77) (ax 102) (ax 103) (ax 104) (ax 105) (ax 106) (ax 107) fa zi0_13 k i v zi102_3 zi102_4 E Z (fun iq => ax (108 + iq)) zF108 (by assumption), ⟨e0, rfl, (va_P.app (vpc q0 (vpc q102 (vpc q103 (vpc q104 (vpc q105 va_nilP))))) (va_P.app q108 va_nilP)), hK, vD_ix hi [0, 102, 103, 104, 105, 108, 109, 110, 111] (by rfl) (by decide) (by decide)⟩, ad_ix [0, 102, 103, 104, 105, 108, 109, 110, 111] (by rfl) (by decide), fun o t hq => ?_⟩
  obtain ⟨⟨r, u0, ho, ⟨hr, hu⟩, hP1, -⟩, hF⟩ := hq
  have FR : ∀ lo hi' : Nat, hi' ≤ 129 → ([0, 102, 103, 104, 105, 108, 109, 110, 111] : List Nat).all (fun x => decide (x < lo) || decide (hi' ≤ x)) = true → ∀ j : Nat, lo ≤ j → j < hi' → ax j < st.heap.size → t.heap[ax j]? = st.heap[ax j]? := fun lo hi' h1 h2 => fr_ix hi h1 hF.2 [0, 102, 103, 104, 105, 108, 109, 110, 111] (by rfl) (by decide) h2
  have np0 : X10Pr dC dI G ax fa t.heap := ⟨zi0_13, hP1 0 _ rfl⟩
  have np16 : X10P11 dC dI G ax E Z t.heap := ⟨zi102_3, zi102_4, zf106, zf107, u0, p16j0, p16j1, hP1 1 _ rfl, hP1 2 _ rfl, hP1 3 _ rfl, hP1 4 _ rfl, q106.kept (FR 106 107 (by decide) (by decide) 106 (by decide) (by decide) q106.lt), q107.kept (FR 107 108 (by decide) (by decide) 107 (by decide) (by decide) q107.lt), vp_mid hP1⟩
  exact ⟨⟨r, (), ho, hr, ⟨np0, p1.kept (FR 1 2 (by decide) (by decide)), p2.kept (FR 2 4 (by decide) (by decide)), p3.kept (FR 4 11 (by decide) (by decide)), p4.kept (FR 11 18 (by decide) (by decide)), p5.kept (FR 18 25 (by decide) (by decide)), p6.kept (FR 25 26 (by decide) (by decide)), p7.kept (FR 26 33 (by decide) (by decide)), p8.kept (FR 33 40 (by decide) (by decide)), p9.kept (FR 40 41 (by decide) (by decide)), p10.kept (FR 41 44 (by decide) (by decide)), p11.kept (FR 44 68 (by decide) (by decide)), p12.kept (FR 68 69 (by decide) (by decide)), p13.kept (FR 69 74 (by decide) (by decide)), p14.kept (FR 74 77 (by decide) (by decide)), p15.kept (FR 77 102 (by decide) (by decide)), np16, hX⟩⟩, hF.wide (ad_ix [0, 102, 103, 104, 105, 108, 109, 110, 111] (by rfl) (by decide))⟩

set_option maxHeartbeats 1000000 in
set_option maxRecDepth 100000 in
theorem k_X10_read (l : Launch) (dC : Nat → ClassId) (dI : Nat → Nat → Nat) (G : Nat → ClassId) (sz : Nat) (ax : Nat → Nat) (hi : adInj 129 ax) (T : Nat) (Y : Nat → Int32) (fa : Int32) (N : Nat) (B : Nat) (N1 : Nat) (B1 : Nat) (N2 : Nat) (B2 : Nat) (K : Nat → Int32) (S : Nat) (M : Nat) (E : Nat → Int32) (Z : Nat → Int32) (k : Int32) (lane : Int32) (x1 : Int32) (n : Int32) : Met l yX10_read (Cond.code yX10_read cX10_read 6 (some .int) :: GT) ({ frames := 2, cells := 0, slots := 0, locals := 50 } : Room) (PcI [.ref (ax 0), .int k, .int lane, .int x1, .int n] dC dI G (X10I dC dI G ax T Y fa N B N1 B1 N2 B2 K S M E Z) sz) (va_Qi (fun (r : Int32) (_ : Unit) => True) (fun _ t => X10I dC dI G ax T Y fa N B N1 B1 N2 B2 K S M E Z t.heap) (adX 0 112 ax sz)) 0 0 (adX 0 112 ax sz) := by
  refine Met.pick (fun a st hp => ?_)
  obtain ⟨e0, hsz, hI, hK⟩ := hp
  subst hsz
  have hI0 := hI
  unfold X10I at hI
  obtain ⟨p0, p1, p2, p3, p4, p5, p6, p7, p8, p9, p10, p11, p12, p13, p14, p15, p16, hX⟩ := hI
  unfold X10Pr at p0
  obtain ⟨zi0_13, q0⟩ := p0
  unfold X10P1 at p4
  obtain ⟨zn11_2, zf12, zf13, zf14, zf15, zf16, zf17, p4j0, p4j1, p4j2, q11, q12, q13, q14, q15, q16, q17⟩ := p4
  unfold X10P11 at p16
  obtain ⟨zi102_3, zi102_4, zf106, zf107, zF108, p16j0, p16j1, q102, q103, q104, q105, q106, q107, q108⟩ := p16
  refine ⟨_, _, _, c_X10_read l dC dI G _ (ax 0) (ax 1) (ax 11) (ax 18) (ax 25) (ax 40) (ax 41) (ax 44) (ax 68) (ax 69) (ax 74) (ax 77) (ax 102) (ax 12) (ax 13) (ax 14) (ax 15) (ax 16) (ax 17) N B zn11_2 (ax 103) (ax 104) (ax 105) (ax 106) (ax 107) fa zi0_13 k lane x1 n zi102_3 zi102_4 zf14 E Z zf106 zf107 (fun iq => ax (108 + iq)) zF108 (by assumption) (by assumption) (by assumption) (by assumption), ⟨e0, rfl, (va_P.app (vpc q0 (vpc q11 (vpc q14 (vpc q102 (vpc q103 (vpc q104 (vpc q105 (vpc q106 (vpc q107 va_nilP))))))))) (va_P.app q108 va_nilP)), hK, vD_ix hi [0, 11, 14, 102, 103, 104, 105, 106, 107, 108, 109, 110, 111] (by rfl) (by decide) (by decide)⟩, ad_ix [0, 11, 14, 102, 103, 104, 105, 106, 107, 108, 109, 110, 111] (by rfl) (by decide), fun o t hq => ?_⟩
  obtain ⟨⟨r, ⟨u0, u1, u2, u3, u4, u5⟩, ho, ⟨hr, hu⟩, hP1, -⟩, hF⟩ := hq
  have FR : ∀ lo hi' : Nat, hi' ≤ 129 → ([0, 11, 14, 102, 103, 104, 105, 106, 107, 108, 109, 110, 111] : List Nat).all (fun x => decide (x < lo) || decide (hi' ≤ x)) = true → ∀ j : Nat, lo ≤ j → j < hi' → ax j < st.heap.size → t.heap[ax j]? = st.heap[ax j]? := fun lo hi' h1 h2 => fr_ix hi h1 hF.2 [0, 11, 14, 102, 103, 104, 105, 106, 107, 108, 109, 110, 111] (by rfl) (by decide) h2
  have np0 : X10Pr dC dI G ax fa t.heap := ⟨u5, hP1 0 _ rfl⟩
  have np4 : X10P1 dC dI G ax N B t.heap := ⟨zn11_2, zf12, zf13, u4, zf15, zf16, zf17, p4j0, p4j1, p4j2, hP1 1 _ rfl, q12.kept (FR 12 13 (by decide) (by decide) 12 (by decide) (by decide) q12.lt), q13.kept (FR 13 14 (by decide) (by decide) 13 (by decide) (by decide) q13.lt), hP1 2 _ rfl, q15.kept (FR 15 16 (by decide) (by decide) 15 (by decide) (by decide) q15.lt), q16.kept (FR 16 17 (by decide) (by decide) 16 (by decide) (by decide) q16.lt), q17.kept (FR 17 18 (by decide) (by decide) 17 (by decide) (by decide) q17.lt)⟩
  have np16 : X10P11 dC dI G ax E Z t.heap := ⟨u0, u1, u2, u3, zF108, p16j0, p16j1, hP1 3 _ rfl, hP1 4 _ rfl, hP1 5 _ rfl, hP1 6 _ rfl, hP1 7 _ rfl, hP1 8 _ rfl, vp_mid hP1⟩
  exact ⟨⟨r, (), ho, trivial, ⟨np0, p1.kept (FR 1 2 (by decide) (by decide)), p2.kept (FR 2 4 (by decide) (by decide)), p3.kept (FR 4 11 (by decide) (by decide)), np4, p5.kept (FR 18 25 (by decide) (by decide)), p6.kept (FR 25 26 (by decide) (by decide)), p7.kept (FR 26 33 (by decide) (by decide)), p8.kept (FR 33 40 (by decide) (by decide)), p9.kept (FR 40 41 (by decide) (by decide)), p10.kept (FR 41 44 (by decide) (by decide)), p11.kept (FR 44 68 (by decide) (by decide)), p12.kept (FR 68 69 (by decide) (by decide)), p13.kept (FR 69 74 (by decide) (by decide)), p14.kept (FR 74 77 (by decide) (by decide)), p15.kept (FR 77 102 (by decide) (by decide)), np16, hX⟩⟩, hF.wide (ad_ix [0, 11, 14, 102, 103, 104, 105, 106, 107, 108, 109, 110, 111] (by rfl) (by decide))⟩

set_option maxHeartbeats 1000000 in
set_option maxRecDepth 100000 in
theorem k_X10_torn (l : Launch) (dC : Nat → ClassId) (dI : Nat → Nat → Nat) (G : Nat → ClassId) (sz : Nat) (ax : Nat → Nat) (hi : adInj 129 ax) (T : Nat) (Y : Nat → Int32) (fa : Int32) (N : Nat) (B : Nat) (N1 : Nat) (B1 : Nat) (N2 : Nat) (B2 : Nat) (K : Nat → Int32) (S : Nat) (M : Nat) (E : Nat → Int32) (Z : Nat → Int32) : Met l yX10_torn (Cond.code yX10_torn cX10_torn 1 (some .int) :: GT) ({ frames := 0, cells := 0, slots := 0, locals := 0 } : Room) (PcI [.ref (ax 0)] dC dI G (X10I dC dI G ax T Y fa N B N1 B1 N2 B2 K S M E Z) sz) (va_Qi (fun (r : Int32) (_ : Unit) => True) (fun _ t => X10I dC dI G ax T Y fa N B N1 B1 N2 B2 K S M E Z t.heap) (adX 0 112 ax sz)) 0 0 (adX 0 112 ax sz) := by
  refine Met.pick (fun a st hp => ?_)
  obtain ⟨e0, hsz, hI, hK⟩ := hp
  subst hsz
  have hI0 := hI
  unfold X10I at hI
  obtain ⟨p0, p1, p2, p3, p4, p5, p6, p7, p8, p9, p10, p11, p12, p13, p14, p15, p16, hX⟩ := hI
  unfold X10Pr at p0
  obtain ⟨zi0_13, q0⟩ := p0
  refine ⟨_, _, _, c_X10_torn l dC dI G _ (ax 0) (ax 1) (ax 11) (ax 18) (ax 25) (ax 40) (ax 41) (ax 44) (ax 68) (ax 69) (ax 74) (ax 77) (ax 102) fa zi0_13 , ⟨e0, rfl, (vpc q0 va_nilP), hK⟩, fun q h => Or.inr h, fun o t hq => ?_⟩
  obtain ⟨⟨r, u, ho, ⟨hr, hu⟩, -⟩, hF⟩ := hq
  exact ⟨⟨r, (), ho, trivial, hI0.kept (fun j _ _ h => hF.2 _ h (Nat.not_le.mpr h))⟩, hF.wide (fun q h => Or.inr h)⟩

set_option maxHeartbeats 1000000 in
set_option maxRecDepth 100000 in
theorem k_X10_count (l : Launch) (dC : Nat → ClassId) (dI : Nat → Nat → Nat) (G : Nat → ClassId) (sz : Nat) (ax : Nat → Nat) (hi : adInj 129 ax) (T : Nat) (Y : Nat → Int32) (fa : Int32) (N : Nat) (B : Nat) (N1 : Nat) (B1 : Nat) (N2 : Nat) (B2 : Nat) (K : Nat → Int32) (S : Nat) (M : Nat) (E : Nat → Int32) (Z : Nat → Int32) (what : Int32) : Met l yX10_count (Cond.code yX10_count cX10_count 2 (some .int) :: GT) ({ frames := 1, cells := 0, slots := 0, locals := 22 } : Room) (PcI [.ref (ax 0), .int what] dC dI G (X10I dC dI G ax T Y fa N B N1 B1 N2 B2 K S M E Z) sz) (va_Qi (fun (r : Int32) (_ : Unit) => True) (fun _ t => X10I dC dI G ax T Y fa N B N1 B1 N2 B2 K S M E Z t.heap) (adX 0 112 ax sz)) 0 0 (adX 0 112 ax sz) := by
  refine Met.pick (fun a st hp => ?_)
  obtain ⟨e0, hsz, hI, hK⟩ := hp
  subst hsz
  have hI0 := hI
  unfold X10I at hI
  obtain ⟨p0, p1, p2, p3, p4, p5, p6, p7, p8, p9, p10, p11, p12, p13, p14, p15, p16, hX⟩ := hI
  unfold X10Pr at p0
  obtain ⟨zi0_13, q0⟩ := p0
  unfold X10P0 at p1
  obtain ⟨zi1_2, zi1_3, zi1_4, zi1_5, zi1_6, zi1_7, zi1_8, zi1_9, zi1_10, zi1_11, q1⟩ := p1
  unfold X10P0_0 at p2
  obtain ⟨p2j0, q2, q3⟩ := p2
  unfold X10P1 at p4
  obtain ⟨zn11_2, zf12, zf13, zf14, zf15, zf16, zf17, p4j0, p4j1, p4j2, q11, q12, q13, q14, q15, q16, q17⟩ := p4
  unfold X10P4 at p9
  have q40 := p9
  unfold X10P8 at p13
  obtain ⟨zf70, zf71, zf72, zf73, p13j0, q69, q70, q71, q72, q73⟩ := p13
  unfold X10P9 at p14
  obtain ⟨zf75, zf76, p14j0, q74, q75, q76⟩ := p14
  unfold X10P11 at p16
  obtain ⟨zi102_3, zi102_4, zf106, zf107, zF108, p16j0, p16j1, q102, q103, q104, q105, q106, q107, q108⟩ := p16
  refine ⟨_, _, _, c_X10_count l dC dI G _ (ax 0) (ax 1) (ax 11) (ax 18) (ax 25) (ax 40) (ax 41) (ax 44) (ax 68) (ax 69) (ax 74) (ax 77) (ax 102) (ax 70) (ax 71) (ax 72) (ax 73) (ax 75) (ax 76) S M (ax 2) (ax 4) (ax 3) T (ax 12) (ax 13) (ax 14) (ax 15) (ax 16) (ax 17) N B zn11_2 (ax 103) (ax 104) (ax 105) (ax 106) (ax 107) fa zi0_13 what zi1_2 zi1_3 zi1_4 zi1_5 zi1_6 zi1_7 zi1_8 zi1_9 zi1_10 zi1_11 zi102_3 zi102_4 K zf14 E Z (by assumption) (by assumption) (by assumption) (by assumption) (by assumption) (by assumption), ⟨e0, rfl, (vpc q0 (vpc q69 (vpc q74 (vpc q40 (vpc q1 (vpc q2 (vpc q11 (vpc q14 (vpc q102 (vpc q103 (vpc q104 va_nilP))))))))))), hK⟩, fun q h => Or.inr h, fun o t hq => ?_⟩
  obtain ⟨⟨r, u, ho, ⟨hr, hu⟩, -⟩, hF⟩ := hq
  exact ⟨⟨r, (), ho, trivial, hI0.kept (fun j _ _ h => hF.2 _ h (Nat.not_le.mpr h))⟩, hF.wide (fun q h => Or.inr h)⟩

set_option maxHeartbeats 1000000 in
set_option maxRecDepth 100000 in
theorem k_X11_feedE (l : Launch) (dC : Nat → ClassId) (dI : Nat → Nat → Nat) (G : Nat → ClassId) (sz : Nat) (ax : Nat → Nat) (hi : adInj 129 ax) (T : Nat) (Y : Nat → Int32) (fa : Int32) (N : Nat) (B : Nat) (N1 : Nat) (B1 : Nat) (N2 : Nat) (B2 : Nat) (K : Nat → Int32) (S : Nat) (M : Nat) (E : Nat → Int32) (Z : Nat → Int32) (v : Int64) : Met l yX11_feed (Cond.code yX11_feed cX11_feed 4 (some .int) :: GT) ({ frames := 0, cells := 0, slots := 0, locals := 0 } : Room) (PcI [.ref (ax 112), .long v] dC dI G (X11I dC dI G ax T Y fa N B N1 B1 N2 B2 K S M E Z) sz) (va_Qi (fun (r : Int32) (_ : Unit) => r = if T + 8 ≤ 320 then nI (T + 8) else -3) (fun _ t => X11I dC dI G ax (if T + 8 ≤ 320 then T + 8 else T) (if T + 8 ≤ 320 then fdC Y T v else Y) fa N B N1 B1 N2 B2 K S M E Z t.heap) (adX 112 129 ax sz)) 0 0 (adX 112 129 ax sz) := by
  refine Met.pick (fun a st hp => ?_)
  obtain ⟨e0, hsz, hI, hK⟩ := hp
  subst hsz
  have hI0 := hI
  unfold X11I at hI
  obtain ⟨p0, p1, p2, p3, p4, p5, p6, p7, p8, p9, p10, p11, p12, p13, p14, p15, p16⟩ := hI
  unfold X11Pr at p0
  obtain ⟨zi112_4, zi112_5, zi112_6, zi112_7, zi112_8, zi112_9, zi112_13, zi112_14, zi112_15, zn112_16, zi112_17, zi112_18, zi112_34, p0j0, p0j1, p0j2, p0j3, p0j4, p0j5, p0j6, q112⟩ := p0
  unfold X11P10 at p3
  obtain ⟨p3j0, q115⟩ := p3
  refine ⟨_, _, _, c_X11_feedE l dC dI G _ (ax 112) (ax 113) N B (ax 114) (ax 115) T (ax 116) (ax 117) (ax 118) (ax 119) (ax 120) (ax 121) S (ax 122) M (ax 123) (ax 124) (ax 125) (ax 126) (ax 127) (ax 128) zi112_4 zi112_5 zi112_6 zi112_7 zi112_8 zi112_9 fa zi112_13 zi112_14 zi112_15 (nI zn112_16) zi112_17 zi112_18 zi112_34 v Y (by assumption) (by assumption) (by assumption) (by assumption) (by assumption), ⟨e0, rfl, (vpc q112 (vpc q115 va_nilP)), hK, vD_ix hi [112, 115] (by rfl) (by decide) (by decide)⟩, ad_ix [112, 115] (by rfl) (by decide), fun o t hq => ?_⟩
  obtain ⟨⟨r, ⟨oT, otp⟩, ho, ⟨hr, hu⟩, hP1, -⟩, hF⟩ := hq
  have FR : ∀ lo hi' : Nat, hi' ≤ 129 → ([112, 115] : List Nat).all (fun x => decide (x < lo) || decide (hi' ≤ x)) = true → ∀ j : Nat, lo ≤ j → j < hi' → ax j < st.heap.size → t.heap[ax j]? = st.heap[ax j]? := fun lo hi' h1 h2 => fr_ix hi h1 hF.2 [112, 115] (by rfl) (by decide) h2
  have xT : (if T + 8 ≤ 320 then T + 8 else T) = oT := Eq.symm (by first | exact hu | exact hu.1 | exact hu.2 | exact hu.1.1 | exact hu.1.2 | exact hu.2.1.trans (txt_cf (by assumption)) | exact hu.2.1.trans (txt_rf (by assumption)) | exact hu.1.1.trans lmap_step | omega)
  subst xT
  have y115 : (if T + 8 ≤ 320 then fdC Y T v else Y) = otp := Eq.symm (by first | exact hu | exact hu.1 | exact hu.2 | exact hu.1.1 | exact hu.1.2 | exact hu.2.1.trans (txt_cf (by assumption)) | exact hu.2.1.trans (txt_rf (by assumption)) | exact hu.1.1.trans lmap_step | omega)
  subst y115
  have np0 : X11Pr dC dI G ax N B (if T + 8 ≤ 320 then T + 8 else T) fa S M t.heap := ⟨zi112_4, zi112_5, zi112_6, zi112_7, zi112_8, zi112_9, zi112_13, zi112_14, zi112_15, zn112_16, zi112_17, zi112_18, zi112_34, p0j0, p0j1, (by first | omega | exact hu | exact hu.1 | exact hu.1.1 | exact hu.1.2 | exact hu.2 | exact fd_nn (by assumption) | (split at hu <;> omega) | (split <;> omega) | exact E_inv (by assumption)), p0j3, p0j4, p0j5, p0j6, hP1 0 _ rfl⟩
  have np3 : X11P10 dC dI G ax (if T + 8 ≤ 320 then fdC Y T v else Y) t.heap := ⟨(by first | omega | exact hu | exact hu.1 | exact hu.1.1 | exact hu.1.2 | exact hu.2 | exact fd_nn (by assumption) | (split at hu <;> omega) | (split <;> omega) | exact E_inv (by assumption)), hP1 1 _ rfl⟩
  exact ⟨⟨r, (), ho, hr, ⟨np0, p1.kept (FR 113 114 (by decide) (by decide)), p2.kept (FR 114 115 (by decide) (by decide)), np3, p4.kept (FR 116 117 (by decide) (by decide)), p5.kept (FR 117 118 (by decide) (by decide)), p6.kept (FR 118 119 (by decide) (by decide)), p7.kept (FR 119 120 (by decide) (by decide)), p8.kept (FR 120 121 (by decide) (by decide)), p9.kept (FR 121 122 (by decide) (by decide)), p10.kept (FR 122 123 (by decide) (by decide)), p11.kept (FR 123 124 (by decide) (by decide)), p12.kept (FR 124 125 (by decide) (by decide)), p13.kept (FR 125 126 (by decide) (by decide)), p14.kept (FR 126 127 (by decide) (by decide)), p15.kept (FR 127 128 (by decide) (by decide)), p16.kept (FR 128 129 (by decide) (by decide))⟩⟩, hF.wide (ad_ix [112, 115] (by rfl) (by decide))⟩

set_option maxHeartbeats 1000000 in
set_option maxRecDepth 100000 in
theorem k_X11_end (l : Launch) (dC : Nat → ClassId) (dI : Nat → Nat → Nat) (G : Nat → ClassId) (sz : Nat) (ax : Nat → Nat) (hi : adInj 129 ax) (T : Nat) (Y : Nat → Int32) (fa : Int32) (N : Nat) (B : Nat) (N1 : Nat) (B1 : Nat) (N2 : Nat) (B2 : Nat) (K : Nat → Int32) (S : Nat) (M : Nat) (E : Nat → Int32) (Z : Nat → Int32) (n : Int32) : Met l yX11_end (Cond.code yX11_end cX11_end 3 (some .int) :: GT) ({ frames := 1, cells := 0, slots := 0, locals := 25 } : Room) (PcI [.ref (ax 112), .int n] dC dI G (X11I dC dI G ax T Y fa N B N1 B1 N2 B2 K S M E Z) sz) (va_Qi (fun (r : Int32) (_ : Unit) => r = if 0 ≤ n.toInt ∧ n.toInt ≤ ((T : Nat) : Int) then nI T else -1) (fun _ t => X11I dC dI G ax (if 0 ≤ n.toInt ∧ n.toInt ≤ ((T : Nat) : Int) then n.toNatClampNeg else T) Y fa N B N1 B1 N2 B2 K S M E Z t.heap) (adX 112 129 ax sz)) 0 0 (adX 112 129 ax sz) := by
  refine Met.pick (fun a st hp => ?_)
  obtain ⟨e0, hsz, hI, hK⟩ := hp
  subst hsz
  have hI0 := hI
  unfold X11I at hI
  obtain ⟨p0, p1, p2, p3, p4, p5, p6, p7, p8, p9, p10, p11, p12, p13, p14, p15, p16⟩ := hI
  unfold X11Pr at p0
  obtain ⟨zi112_4, zi112_5, zi112_6, zi112_7, zi112_8, zi112_9, zi112_13, zi112_14, zi112_15, zn112_16, zi112_17, zi112_18, zi112_34, p0j0, p0j1, p0j2, p0j3, p0j4, p0j5, p0j6, q112⟩ := p0
  refine ⟨_, _, _, c_X11_end l dC dI G _ (ax 112) (ax 113) N B (ax 114) (ax 115) T (ax 116) (ax 117) (ax 118) (ax 119) (ax 120) (ax 121) S (ax 122) M (ax 123) (ax 124) (ax 125) (ax 126) (ax 127) (ax 128) n zi112_4 zi112_5 zi112_6 zi112_7 zi112_8 zi112_9 fa zi112_13 zi112_14 zi112_15 (nI zn112_16) zi112_17 zi112_18 zi112_34 (by assumption) (by assumption) (by assumption) (by assumption) (by assumption), ⟨e0, rfl, (vpc q112 va_nilP), hK, vD_ix hi [112] (by rfl) (by decide) (by decide)⟩, ad_ix [112] (by rfl) (by decide), fun o t hq => ?_⟩
  obtain ⟨⟨r, oT, ho, ⟨hr, hu⟩, hP1, -⟩, hF⟩ := hq
  have FR : ∀ lo hi' : Nat, hi' ≤ 129 → ([112] : List Nat).all (fun x => decide (x < lo) || decide (hi' ≤ x)) = true → ∀ j : Nat, lo ≤ j → j < hi' → ax j < st.heap.size → t.heap[ax j]? = st.heap[ax j]? := fun lo hi' h1 h2 => fr_ix hi h1 hF.2 [112] (by rfl) (by decide) h2
  have xT : (if 0 ≤ n.toInt ∧ n.toInt ≤ ((T : Nat) : Int) then n.toNatClampNeg else T) = oT := Eq.symm (by first | exact hu | exact hu.1 | exact hu.2 | exact hu.1.1 | exact hu.1.2 | exact hu.2.1.trans (txt_cf (by assumption)) | exact hu.2.1.trans (txt_rf (by assumption)) | exact hu.1.1.trans lmap_step | omega)
  subst xT
  have np0 : X11Pr dC dI G ax N B (if 0 ≤ n.toInt ∧ n.toInt ≤ ((T : Nat) : Int) then n.toNatClampNeg else T) fa S M t.heap := ⟨zi112_4, zi112_5, zi112_6, zi112_7, zi112_8, zi112_9, zi112_13, zi112_14, zi112_15, zn112_16, zi112_17, zi112_18, zi112_34, p0j0, p0j1, (by first | omega | exact hu | exact hu.1 | exact hu.1.1 | exact hu.1.2 | exact hu.2 | exact fd_nn (by assumption) | (split at hu <;> omega) | (split <;> omega) | exact E_inv (by assumption)), p0j3, p0j4, p0j5, p0j6, hP1 0 _ rfl⟩
  exact ⟨⟨r, (), ho, hr, ⟨np0, p1.kept (FR 113 114 (by decide) (by decide)), p2.kept (FR 114 115 (by decide) (by decide)), p3.kept (FR 115 116 (by decide) (by decide)), p4.kept (FR 116 117 (by decide) (by decide)), p5.kept (FR 117 118 (by decide) (by decide)), p6.kept (FR 118 119 (by decide) (by decide)), p7.kept (FR 119 120 (by decide) (by decide)), p8.kept (FR 120 121 (by decide) (by decide)), p9.kept (FR 121 122 (by decide) (by decide)), p10.kept (FR 122 123 (by decide) (by decide)), p11.kept (FR 123 124 (by decide) (by decide)), p12.kept (FR 124 125 (by decide) (by decide)), p13.kept (FR 125 126 (by decide) (by decide)), p14.kept (FR 126 127 (by decide) (by decide)), p15.kept (FR 127 128 (by decide) (by decide)), p16.kept (FR 128 129 (by decide) (by decide))⟩⟩, hF.wide (ad_ix [112] (by rfl) (by decide))⟩

set_option maxHeartbeats 1000000 in
set_option maxRecDepth 100000 in
theorem k_X11_textE (l : Launch) (dC : Nat → ClassId) (dI : Nat → Nat → Nat) (G : Nat → ClassId) (sz : Nat) (ax : Nat → Nat) (hi : adInj 129 ax) (T : Nat) (Y : Nat → Int32) (fa : Int32) (N : Nat) (B : Nat) (N1 : Nat) (B1 : Nat) (N2 : Nat) (B2 : Nat) (K : Nat → Int32) (S : Nat) (M : Nat) (E : Nat → Int32) (Z : Nat → Int32) : Met l yX11_text (Cond.code yX11_text cX11_text 3 (some .int) :: GT) ({ frames := 5, cells := 0, slots := 0, locals := 114 } : Room) (PcI [.ref (ax 112)] dC dI G (X11I dC dI G ax T Y fa N B N1 B1 N2 B2 K S M E Z) sz) (va_Qi (fun (r : Int32) (_ : Unit) => r = txA Y T) (fun _ t => X11I dC dI G ax 0 Y (txF Y T) (txN Y T N) (txB Y T B) N1 B1 N2 B2 (txK Y T K) (txS Y T S) (txS Y T M) E Z t.heap) (adX 112 129 ax sz)) 0 0 (adX 112 129 ax sz) := by
  refine Met.pick (fun a st hp => ?_)
  obtain ⟨e0, hsz, hI, hK⟩ := hp
  subst hsz
  have hI0 := hI
  unfold X11I at hI
  obtain ⟨p0, p1, p2, p3, p4, p5, p6, p7, p8, p9, p10, p11, p12, p13, p14, p15, p16⟩ := hI
  unfold X11Pr at p0
  obtain ⟨zi112_4, zi112_5, zi112_6, zi112_7, zi112_8, zi112_9, zi112_13, zi112_14, zi112_15, zn112_16, zi112_17, zi112_18, zi112_34, p0j0, p0j1, p0j2, p0j3, p0j4, p0j5, p0j6, q112⟩ := p0
  unfold X11P0 at p1
  obtain ⟨zf113, p1j0, q113⟩ := p1
  unfold X11P3 at p2
  obtain ⟨zf114, q114⟩ := p2
  unfold X11P10 at p3
  obtain ⟨p3j0, q115⟩ := p3
  unfold X11P19 at p4
  obtain ⟨zf116, p4j0, q116⟩ := p4
  unfold X11P20 at p5
  obtain ⟨zf117, p5j0, q117⟩ := p5
  unfold X11P30 at p13
  have q125 := p13
  refine ⟨_, _, _, c_X11_textE l dC dI G _ (ax 112) (ax 113) N B (ax 114) (ax 115) T zn112_16 (ax 116) (ax 117) (ax 118) (ax 119) (ax 120) (ax 121) S (ax 122) M (ax 123) (ax 124) (ax 125) (ax 126) (ax 127) (ax 128) zi112_4 zi112_5 zi112_6 zi112_7 zi112_8 zi112_9 fa zi112_13 zi112_14 zi112_15 zi112_17 zi112_18 zi112_34 Y zf116 zf117 zf114 zf113 K (by assumption) (by assumption) (by assumption) (by assumption) (by assumption) (by assumption) (by assumption) (by assumption) (by assumption) (by assumption) (by assumption), ⟨e0, rfl, (vpc q112 (vpc q115 (vpc q116 (vpc q117 (vpc q114 (vpc q113 (vpc q125 va_nilP))))))), hK, vD_ix hi [112, 115, 116, 117, 114, 113, 125] (by rfl) (by decide) (by decide)⟩, ad_ix [112, 115, 116, 117, 114, 113, 125] (by rfl) (by decide), fun o t hq => ?_⟩
  obtain ⟨⟨r, ⟨obr, oba, osp, ohe, otk, ova, ors, orb, ohs, oca, oxs, oxb, ofa, oT, oN, oB, oS, oM, orp, ost, oik⟩, ho, ⟨hr, hu⟩, hP1, -⟩, hF⟩ := hq
  have FR : ∀ lo hi' : Nat, hi' ≤ 129 → ([112, 115, 116, 117, 114, 113, 125] : List Nat).all (fun x => decide (x < lo) || decide (hi' ≤ x)) = true → ∀ j : Nat, lo ≤ j → j < hi' → ax j < st.heap.size → t.heap[ax j]? = st.heap[ax j]? := fun lo hi' h1 h2 => fr_ix hi h1 hF.2 [112, 115, 116, 117, 114, 113, 125] (by rfl) (by decide) h2
  have xT : 0 = oT := Eq.symm (by first | exact hu | exact hu.1 | exact hu.2 | exact hu.1.1 | exact hu.1.2 | exact hu.2.1.trans (txt_cf (by assumption)) | exact hu.2.1.trans (txt_rf (by assumption)) | exact hu.1.1.trans lmap_step | omega)
  subst xT
  have xfa : (txF Y T) = ofa := Eq.symm (hu.2.1.trans (txt_rf (by assumption)))
  subst xfa
  have xN : (txN Y T N) = oN := Eq.symm (hu.2.2.1.trans (txt_rN (by assumption)))
  subst xN
  have xB : (txB Y T B) = oB := Eq.symm (hu.2.2.2.1.trans (txt_rB (by assumption)))
  subst xB
  have xS : (txS Y T S) = oS := Eq.symm (hu.2.2.2.2.1.trans (txt_r1 (by assumption)))
  subst xS
  have xM : (txS Y T M) = oM := Eq.symm (hu.2.2.2.2.2.1.trans (txt_r1 (by assumption)))
  subst xM
  have y125 : (txK Y T K) = oik := Eq.symm (hu.2.2.2.2.2.2.2.trans (txt_r1 (by assumption)))
  subst y125
  replace hu := hu.1
  have np0 : X11Pr dC dI G ax (txN Y T N) (txB Y T B) 0 (txF Y T) (txS Y T S) (txS Y T M) t.heap := ⟨ors, orb, ohs, oca, oxs, oxb, obr, oba, osp, ohe, otk, ova, zi112_34, (by first | omega | exact hu | exact hu.1 | exact hu.1.1 | exact hu.1.2 | exact hu.2 | exact fd_nn (by assumption) | (split at hu <;> omega) | (split <;> omega) | exact E_inv (by assumption)), (by first | omega | exact hu | exact hu.1 | exact hu.1.1 | exact hu.1.2 | exact hu.2 | exact fd_nn (by assumption) | (split at hu <;> omega) | (split <;> omega) | exact E_inv (by assumption)), (by first | omega | exact hu | exact hu.1 | exact hu.1.1 | exact hu.1.2 | exact hu.2 | exact fd_nn (by assumption) | (split at hu <;> omega) | (split <;> omega) | exact E_inv (by assumption)), (by first | omega | exact hu | exact hu.1 | exact hu.1.1 | exact hu.1.2 | exact hu.2 | exact fd_nn (by assumption) | (split at hu <;> omega) | (split <;> omega) | exact E_inv (by assumption)), (by first | omega | exact hu | exact hu.1 | exact hu.1.1 | exact hu.1.2 | exact hu.2 | exact fd_nn (by assumption) | (split at hu <;> omega) | (split <;> omega) | exact E_inv (by assumption)), (by first | omega | exact hu | exact hu.1 | exact hu.1.1 | exact hu.1.2 | exact hu.2 | exact fd_nn (by assumption) | (split at hu <;> omega) | (split <;> omega) | exact E_inv (by assumption)), (by first | omega | exact hu | exact hu.1 | exact hu.1.1 | exact hu.1.2 | exact hu.2 | exact fd_nn (by assumption) | (split at hu <;> omega) | (split <;> omega) | exact E_inv (by assumption)), hP1 0 _ rfl⟩
  have np1 : X11P0 dC dI G ax t.heap := ⟨ost, (by first | omega | exact hu | exact hu.1 | exact hu.1.1 | exact hu.1.2 | exact hu.2 | exact fd_nn (by assumption) | (split at hu <;> omega) | (split <;> omega) | exact E_inv (by assumption)), hP1 5 _ rfl⟩
  have np2 : X11P3 dC dI G ax t.heap := ⟨orp, hP1 4 _ rfl⟩
  have np3 : X11P10 dC dI G ax Y t.heap := ⟨p3j0, hP1 1 _ rfl⟩
  have np4 : X11P19 dC dI G ax t.heap := ⟨zf116, p4j0, hP1 2 _ rfl⟩
  have np5 : X11P20 dC dI G ax t.heap := ⟨zf117, p5j0, hP1 3 _ rfl⟩
  have np13 : X11P30 dC dI G ax (txK Y T K) t.heap := hP1 6 _ rfl
  exact ⟨⟨r, (), ho, hr.trans (txt_ra (by assumption)), ⟨np0, np1, np2, np3, np4, np5, p6.kept (FR 118 119 (by decide) (by decide)), p7.kept (FR 119 120 (by decide) (by decide)), p8.kept (FR 120 121 (by decide) (by decide)), p9.kept (FR 121 122 (by decide) (by decide)), p10.kept (FR 122 123 (by decide) (by decide)), p11.kept (FR 123 124 (by decide) (by decide)), p12.kept (FR 124 125 (by decide) (by decide)), np13, p14.kept (FR 126 127 (by decide) (by decide)), p15.kept (FR 127 128 (by decide) (by decide)), p16.kept (FR 128 129 (by decide) (by decide))⟩⟩, hF.wide (ad_ix [112, 115, 116, 117, 114, 113, 125] (by rfl) (by decide))⟩

set_option maxHeartbeats 1000000 in
set_option maxRecDepth 100000 in
theorem k_X11_faultE (l : Launch) (dC : Nat → ClassId) (dI : Nat → Nat → Nat) (G : Nat → ClassId) (sz : Nat) (ax : Nat → Nat) (hi : adInj 129 ax) (T : Nat) (Y : Nat → Int32) (fa : Int32) (N : Nat) (B : Nat) (N1 : Nat) (B1 : Nat) (N2 : Nat) (B2 : Nat) (K : Nat → Int32) (S : Nat) (M : Nat) (E : Nat → Int32) (Z : Nat → Int32) : Met l yX11_fault (Cond.code yX11_fault cX11_fault 1 (some .int) :: GT) ({ frames := 0, cells := 0, slots := 0, locals := 0 } : Room) (PcI [.ref (ax 112)] dC dI G (X11I dC dI G ax T Y fa N B N1 B1 N2 B2 K S M E Z) sz) (va_Qi (fun (r : Int32) (_ : Unit) => r = fa) (fun _ t => X11I dC dI G ax T Y fa N B N1 B1 N2 B2 K S M E Z t.heap) (adX 112 129 ax sz)) 0 0 (adX 112 129 ax sz) := by
  refine Met.pick (fun a st hp => ?_)
  obtain ⟨e0, hsz, hI, hK⟩ := hp
  subst hsz
  have hI0 := hI
  unfold X11I at hI
  obtain ⟨p0, p1, p2, p3, p4, p5, p6, p7, p8, p9, p10, p11, p12, p13, p14, p15, p16⟩ := hI
  unfold X11Pr at p0
  obtain ⟨zi112_4, zi112_5, zi112_6, zi112_7, zi112_8, zi112_9, zi112_13, zi112_14, zi112_15, zn112_16, zi112_17, zi112_18, zi112_34, p0j0, p0j1, p0j2, p0j3, p0j4, p0j5, p0j6, q112⟩ := p0
  refine ⟨_, _, _, c_X11_faultE l dC dI G _ (ax 112) (ax 113) N B (ax 114) (ax 115) T (ax 116) (ax 117) (ax 118) (ax 119) (ax 120) (ax 121) S (ax 122) M (ax 123) (ax 124) (ax 125) (ax 126) (ax 127) (ax 128) zi112_4 zi112_5 zi112_6 zi112_7 zi112_8 zi112_9 fa zi112_13 zi112_14 zi112_15 (nI zn112_16) zi112_17 zi112_18 zi112_34 (by assumption) (by assumption) (by assumption) (by assumption) (by assumption), ⟨e0, rfl, (vpc q112 va_nilP), hK⟩, fun q h => Or.inr h, fun o t hq => ?_⟩
  obtain ⟨⟨r, u, ho, ⟨hr, hu⟩, -⟩, hF⟩ := hq
  exact ⟨⟨r, (), ho, hr, hI0.kept (fun j _ _ h => hF.2 _ h (Nat.not_le.mpr h))⟩, hF.wide (fun q h => Or.inr h)⟩

set_option maxHeartbeats 1000000 in
set_option maxRecDepth 100000 in
theorem k_X11_rule (l : Launch) (dC : Nat → ClassId) (dI : Nat → Nat → Nat) (G : Nat → ClassId) (sz : Nat) (ax : Nat → Nat) (hi : adInj 129 ax) (T : Nat) (Y : Nat → Int32) (fa : Int32) (N : Nat) (B : Nat) (N1 : Nat) (B1 : Nat) (N2 : Nat) (B2 : Nat) (K : Nat → Int32) (S : Nat) (M : Nat) (E : Nat → Int32) (Z : Nat → Int32) (what : Int32) : Met l yX11_rule (Cond.code yX11_rule cX11_rule 2 (some .int) :: GT) ({ frames := 1, cells := 0, slots := 0, locals := 20 } : Room) (PcI [.ref (ax 112), .int what] dC dI G (X11I dC dI G ax T Y fa N B N1 B1 N2 B2 K S M E Z) sz) (va_Qi (fun (r : Int32) (_ : Unit) => True) (fun _ t => X11I dC dI G ax T Y fa N B N1 B1 N2 B2 K S M E Z t.heap) (adX 112 129 ax sz)) 0 0 (adX 112 129 ax sz) := by
  refine Met.pick (fun a st hp => ?_)
  obtain ⟨e0, hsz, hI, hK⟩ := hp
  subst hsz
  have hI0 := hI
  unfold X11I at hI
  obtain ⟨p0, p1, p2, p3, p4, p5, p6, p7, p8, p9, p10, p11, p12, p13, p14, p15, p16⟩ := hI
  unfold X11Pr at p0
  obtain ⟨zi112_4, zi112_5, zi112_6, zi112_7, zi112_8, zi112_9, zi112_13, zi112_14, zi112_15, zn112_16, zi112_17, zi112_18, zi112_34, p0j0, p0j1, p0j2, p0j3, p0j4, p0j5, p0j6, q112⟩ := p0
  unfold X11P0 at p1
  obtain ⟨zf113, p1j0, q113⟩ := p1
  refine ⟨_, _, _, c_X11_rule l dC dI G _ (ax 112) (ax 113) N B (ax 114) (ax 115) T (ax 116) (ax 117) (ax 118) (ax 119) (ax 120) (ax 121) S (ax 122) M (ax 123) (ax 124) (ax 125) (ax 126) (ax 127) (ax 128) what zi112_4 zi112_5 zi112_6 zi112_7 zi112_8 zi112_9 fa zi112_13 zi112_14 zi112_15 (nI zn112_16) zi112_17 zi112_18 zi112_34 zf113 (by assumption) (by assumption) (by assumption) (by assumption) (by assumption) (by assumption), ⟨e0, rfl, (vpc q112 (vpc q113 va_nilP)), hK⟩, fun q h => Or.inr h, fun o t hq => ?_⟩
  obtain ⟨⟨r, u, ho, ⟨hr, hu⟩, -⟩, hF⟩ := hq
  exact ⟨⟨r, (), ho, trivial, hI0.kept (fun j _ _ h => hF.2 _ h (Nat.not_le.mpr h))⟩, hF.wide (fun q h => Or.inr h)⟩

set_option maxHeartbeats 1000000 in
set_option maxRecDepth 100000 in
theorem k_X11_stretch (l : Launch) (dC : Nat → ClassId) (dI : Nat → Nat → Nat) (G : Nat → ClassId) (sz : Nat) (ax : Nat → Nat) (hi : adInj 129 ax) (T : Nat) (Y : Nat → Int32) (fa : Int32) (N : Nat) (B : Nat) (N1 : Nat) (B1 : Nat) (N2 : Nat) (B2 : Nat) (K : Nat → Int32) (S : Nat) (M : Nat) (E : Nat → Int32) (Z : Nat → Int32) (i : Int32) (what : Int32) : Met l yX11_stretch (Cond.code yX11_stretch cX11_stretch 3 (some .int) :: GT) ({ frames := 2, cells := 0, slots := 0, locals := 46 } : Room) (PcI [.ref (ax 112), .int i, .int what] dC dI G (X11I dC dI G ax T Y fa N B N1 B1 N2 B2 K S M E Z) sz) (va_Qi (fun (r : Int32) (_ : Unit) => True) (fun _ t => X11I dC dI G ax T Y fa N B N1 B1 N2 B2 K S M E Z t.heap) (adX 112 129 ax sz)) 0 0 (adX 112 129 ax sz) := by
  refine Met.pick (fun a st hp => ?_)
  obtain ⟨e0, hsz, hI, hK⟩ := hp
  subst hsz
  have hI0 := hI
  unfold X11I at hI
  obtain ⟨p0, p1, p2, p3, p4, p5, p6, p7, p8, p9, p10, p11, p12, p13, p14, p15, p16⟩ := hI
  unfold X11Pr at p0
  obtain ⟨zi112_4, zi112_5, zi112_6, zi112_7, zi112_8, zi112_9, zi112_13, zi112_14, zi112_15, zn112_16, zi112_17, zi112_18, zi112_34, p0j0, p0j1, p0j2, p0j3, p0j4, p0j5, p0j6, q112⟩ := p0
  unfold X11P0 at p1
  obtain ⟨zf113, p1j0, q113⟩ := p1
  refine ⟨_, _, _, c_X11_stretch l dC dI G _ (ax 112) (ax 113) N B (ax 114) (ax 115) T (ax 116) (ax 117) (ax 118) (ax 119) (ax 120) (ax 121) S (ax 122) M (ax 123) (ax 124) (ax 125) (ax 126) (ax 127) (ax 128) i what zi112_4 zi112_5 zi112_6 zi112_7 zi112_8 zi112_9 fa zi112_13 zi112_14 zi112_15 (nI zn112_16) zi112_17 zi112_18 zi112_34 zf113 (by assumption) (by assumption) (by assumption) (by assumption) (by assumption), ⟨e0, rfl, (vpc q112 (vpc q113 va_nilP)), hK⟩, fun q h => Or.inr h, fun o t hq => ?_⟩
  obtain ⟨⟨r, u, ho, ⟨hr, hu⟩, -⟩, hF⟩ := hq
  exact ⟨⟨r, (), ho, trivial, hI0.kept (fun j _ _ h => hF.2 _ h (Nat.not_le.mpr h))⟩, hF.wide (fun q h => Or.inr h)⟩

set_option maxHeartbeats 1000000 in
set_option maxRecDepth 100000 in
theorem k_X11_bearer (l : Launch) (dC : Nat → ClassId) (dI : Nat → Nat → Nat) (G : Nat → ClassId) (sz : Nat) (ax : Nat → Nat) (hi : adInj 129 ax) (T : Nat) (Y : Nat → Int32) (fa : Int32) (N : Nat) (B : Nat) (N1 : Nat) (B1 : Nat) (N2 : Nat) (B2 : Nat) (K : Nat → Int32) (S : Nat) (M : Nat) (E : Nat → Int32) (Z : Nat → Int32) (i : Int32) (what : Int32) : Met l yX11_bearer (Cond.code yX11_bearer cX11_bearer 3 (some .int) :: GT) ({ frames := 2, cells := 0, slots := 0, locals := 46 } : Room) (PcI [.ref (ax 112), .int i, .int what] dC dI G (X11I dC dI G ax T Y fa N B N1 B1 N2 B2 K S M E Z) sz) (va_Qi (fun (r : Int32) (_ : Unit) => True) (fun _ t => X11I dC dI G ax T Y fa N B N1 B1 N2 B2 K S M E Z t.heap) (adX 112 129 ax sz)) 0 0 (adX 112 129 ax sz) := by
  refine Met.pick (fun a st hp => ?_)
  obtain ⟨e0, hsz, hI, hK⟩ := hp
  subst hsz
  have hI0 := hI
  unfold X11I at hI
  obtain ⟨p0, p1, p2, p3, p4, p5, p6, p7, p8, p9, p10, p11, p12, p13, p14, p15, p16⟩ := hI
  unfold X11Pr at p0
  obtain ⟨zi112_4, zi112_5, zi112_6, zi112_7, zi112_8, zi112_9, zi112_13, zi112_14, zi112_15, zn112_16, zi112_17, zi112_18, zi112_34, p0j0, p0j1, p0j2, p0j3, p0j4, p0j5, p0j6, q112⟩ := p0
  unfold X11P0 at p1
  obtain ⟨zf113, p1j0, q113⟩ := p1
  refine ⟨_, _, _, c_X11_bearer l dC dI G _ (ax 112) (ax 113) N B (ax 114) (ax 115) T (ax 116) (ax 117) (ax 118) (ax 119) (ax 120) (ax 121) S (ax 122) M (ax 123) (ax 124) (ax 125) (ax 126) (ax 127) (ax 128) i what zi112_4 zi112_5 zi112_6 zi112_7 zi112_8 zi112_9 fa zi112_13 zi112_14 zi112_15 (nI zn112_16) zi112_17 zi112_18 zi112_34 zf113 (by assumption) (by assumption) (by assumption) (by assumption) (by assumption), ⟨e0, rfl, (vpc q112 (vpc q113 va_nilP)), hK⟩, fun q h => Or.inr h, fun o t hq => ?_⟩
  obtain ⟨⟨r, u, ho, ⟨hr, hu⟩, -⟩, hF⟩ := hq
  exact ⟨⟨r, (), ho, trivial, hI0.kept (fun j _ _ h => hF.2 _ h (Nat.not_le.mpr h))⟩, hF.wide (fun q h => Or.inr h)⟩

set_option maxHeartbeats 1000000 in
set_option maxRecDepth 100000 in
theorem k_X11_start (l : Launch) (dC : Nat → ClassId) (dI : Nat → Nat → Nat) (G : Nat → ClassId) (sz : Nat) (ax : Nat → Nat) (hi : adInj 129 ax) (T : Nat) (Y : Nat → Int32) (fa : Int32) (N : Nat) (B : Nat) (N1 : Nat) (B1 : Nat) (N2 : Nat) (B2 : Nat) (K : Nat → Int32) (S : Nat) (M : Nat) (E : Nat → Int32) (Z : Nat → Int32) (v : Int32) : Met l yX11_start (Cond.code yX11_start cX11_start 2 (some .int) :: GT) ({ frames := 1, cells := 0, slots := 0, locals := 25 } : Room) (PcI [.ref (ax 112), .int v] dC dI G (X11I dC dI G ax T Y fa N B N1 B1 N2 B2 K S M E Z) sz) (va_Qi (fun (r : Int32) (_ : Unit) => True) (fun _ t => X11I dC dI G ax T Y fa N B N1 B1 N2 B2 K S M E Z t.heap) (adX 112 129 ax sz)) 0 0 (adX 112 129 ax sz) := by
  refine Met.pick (fun a st hp => ?_)
  obtain ⟨e0, hsz, hI, hK⟩ := hp
  subst hsz
  have hI0 := hI
  unfold X11I at hI
  obtain ⟨p0, p1, p2, p3, p4, p5, p6, p7, p8, p9, p10, p11, p12, p13, p14, p15, p16⟩ := hI
  unfold X11Pr at p0
  obtain ⟨zi112_4, zi112_5, zi112_6, zi112_7, zi112_8, zi112_9, zi112_13, zi112_14, zi112_15, zn112_16, zi112_17, zi112_18, zi112_34, p0j0, p0j1, p0j2, p0j3, p0j4, p0j5, p0j6, q112⟩ := p0
  unfold X11P0 at p1
  obtain ⟨zf113, p1j0, q113⟩ := p1
  refine ⟨_, _, _, c_X11_start l dC dI G _ (ax 112) (ax 113) N B (ax 114) (ax 115) T (ax 116) (ax 117) (ax 118) (ax 119) (ax 120) (ax 121) S (ax 122) M (ax 123) (ax 124) (ax 125) (ax 126) (ax 127) (ax 128) v zi112_4 zi112_5 zi112_6 zi112_7 zi112_8 zi112_9 fa zi112_13 zi112_14 zi112_15 (nI zn112_16) zi112_17 zi112_18 zi112_34 zf113 (by assumption) (by assumption) (by assumption) (by assumption) (by assumption) (by assumption), ⟨e0, rfl, (vpc q112 (vpc q113 va_nilP)), hK, vD_ix hi [112, 113] (by rfl) (by decide) (by decide)⟩, ad_ix [112, 113] (by rfl) (by decide), fun o t hq => ?_⟩
  obtain ⟨⟨r, ost, ho, ⟨hr, hu⟩, hP1, -⟩, hF⟩ := hq
  have FR : ∀ lo hi' : Nat, hi' ≤ 129 → ([112, 113] : List Nat).all (fun x => decide (x < lo) || decide (hi' ≤ x)) = true → ∀ j : Nat, lo ≤ j → j < hi' → ax j < st.heap.size → t.heap[ax j]? = st.heap[ax j]? := fun lo hi' h1 h2 => fr_ix hi h1 hF.2 [112, 113] (by rfl) (by decide) h2
  have np0 : X11Pr dC dI G ax N B T fa S M t.heap := ⟨zi112_4, zi112_5, zi112_6, zi112_7, zi112_8, zi112_9, zi112_13, zi112_14, zi112_15, zn112_16, zi112_17, zi112_18, zi112_34, p0j0, p0j1, p0j2, p0j3, p0j4, p0j5, p0j6, hP1 0 _ rfl⟩
  have np1 : X11P0 dC dI G ax t.heap := ⟨ost, (by first | omega | exact hu | exact hu.1 | exact hu.1.1 | exact hu.1.2 | exact hu.2 | exact fd_nn (by assumption) | (split at hu <;> omega) | (split <;> omega) | exact E_inv (by assumption)), hP1 1 _ rfl⟩
  exact ⟨⟨r, (), ho, trivial, ⟨np0, np1, p2.kept (FR 114 115 (by decide) (by decide)), p3.kept (FR 115 116 (by decide) (by decide)), p4.kept (FR 116 117 (by decide) (by decide)), p5.kept (FR 117 118 (by decide) (by decide)), p6.kept (FR 118 119 (by decide) (by decide)), p7.kept (FR 119 120 (by decide) (by decide)), p8.kept (FR 120 121 (by decide) (by decide)), p9.kept (FR 121 122 (by decide) (by decide)), p10.kept (FR 122 123 (by decide) (by decide)), p11.kept (FR 123 124 (by decide) (by decide)), p12.kept (FR 124 125 (by decide) (by decide)), p13.kept (FR 125 126 (by decide) (by decide)), p14.kept (FR 126 127 (by decide) (by decide)), p15.kept (FR 127 128 (by decide) (by decide)), p16.kept (FR 128 129 (by decide) (by decide))⟩⟩, hF.wide (ad_ix [112, 113] (by rfl) (by decide))⟩

set_option maxHeartbeats 1000000 in
set_option maxRecDepth 100000 in
theorem k_X11_noise (l : Launch) (dC : Nat → ClassId) (dI : Nat → Nat → Nat) (G : Nat → ClassId) (sz : Nat) (ax : Nat → Nat) (hi : adInj 129 ax) (T : Nat) (Y : Nat → Int32) (fa : Int32) (N : Nat) (B : Nat) (N1 : Nat) (B1 : Nat) (N2 : Nat) (B2 : Nat) (K : Nat → Int32) (S : Nat) (M : Nat) (E : Nat → Int32) (Z : Nat → Int32) (i : Int32) (v : Int32) : Met l yX11_noise (Cond.code yX11_noise cX11_noise 3 (some .int) :: GT) ({ frames := 2, cells := 0, slots := 0, locals := 46 } : Room) (PcI [.ref (ax 112), .int i, .int v] dC dI G (X11I dC dI G ax T Y fa N B N1 B1 N2 B2 K S M E Z) sz) (va_Qi (fun (r : Int32) (_ : Unit) => True) (fun _ t => X11I dC dI G ax T Y fa N B N1 B1 N2 B2 K S M E Z t.heap) (adX 112 129 ax sz)) 0 0 (adX 112 129 ax sz) := by
  refine Met.pick (fun a st hp => ?_)
  obtain ⟨e0, hsz, hI, hK⟩ := hp
  subst hsz
  have hI0 := hI
  unfold X11I at hI
  obtain ⟨p0, p1, p2, p3, p4, p5, p6, p7, p8, p9, p10, p11, p12, p13, p14, p15, p16⟩ := hI
  unfold X11Pr at p0
  obtain ⟨zi112_4, zi112_5, zi112_6, zi112_7, zi112_8, zi112_9, zi112_13, zi112_14, zi112_15, zn112_16, zi112_17, zi112_18, zi112_34, p0j0, p0j1, p0j2, p0j3, p0j4, p0j5, p0j6, q112⟩ := p0
  unfold X11P0 at p1
  obtain ⟨zf113, p1j0, q113⟩ := p1
  refine ⟨_, _, _, c_X11_noise l dC dI G _ (ax 112) (ax 113) N B (ax 114) (ax 115) T (ax 116) (ax 117) (ax 118) (ax 119) (ax 120) (ax 121) S (ax 122) M (ax 123) (ax 124) (ax 125) (ax 126) (ax 127) (ax 128) i v zi112_4 zi112_5 zi112_6 zi112_7 zi112_8 zi112_9 fa zi112_13 zi112_14 zi112_15 (nI zn112_16) zi112_17 zi112_18 zi112_34 zf113 (by assumption) (by assumption) (by assumption) (by assumption) (by assumption) (by assumption), ⟨e0, rfl, (vpc q112 (vpc q113 va_nilP)), hK, vD_ix hi [112, 113] (by rfl) (by decide) (by decide)⟩, ad_ix [112, 113] (by rfl) (by decide), fun o t hq => ?_⟩
  obtain ⟨⟨r, ost, ho, ⟨hr, hu⟩, hP1, -⟩, hF⟩ := hq
  have FR : ∀ lo hi' : Nat, hi' ≤ 129 → ([112, 113] : List Nat).all (fun x => decide (x < lo) || decide (hi' ≤ x)) = true → ∀ j : Nat, lo ≤ j → j < hi' → ax j < st.heap.size → t.heap[ax j]? = st.heap[ax j]? := fun lo hi' h1 h2 => fr_ix hi h1 hF.2 [112, 113] (by rfl) (by decide) h2
  have np0 : X11Pr dC dI G ax N B T fa S M t.heap := ⟨zi112_4, zi112_5, zi112_6, zi112_7, zi112_8, zi112_9, zi112_13, zi112_14, zi112_15, zn112_16, zi112_17, zi112_18, zi112_34, p0j0, p0j1, p0j2, p0j3, p0j4, p0j5, p0j6, hP1 0 _ rfl⟩
  have np1 : X11P0 dC dI G ax t.heap := ⟨ost, (by first | omega | exact hu | exact hu.1 | exact hu.1.1 | exact hu.1.2 | exact hu.2 | exact fd_nn (by assumption) | (split at hu <;> omega) | (split <;> omega) | exact E_inv (by assumption)), hP1 1 _ rfl⟩
  exact ⟨⟨r, (), ho, trivial, ⟨np0, np1, p2.kept (FR 114 115 (by decide) (by decide)), p3.kept (FR 115 116 (by decide) (by decide)), p4.kept (FR 116 117 (by decide) (by decide)), p5.kept (FR 117 118 (by decide) (by decide)), p6.kept (FR 118 119 (by decide) (by decide)), p7.kept (FR 119 120 (by decide) (by decide)), p8.kept (FR 120 121 (by decide) (by decide)), p9.kept (FR 121 122 (by decide) (by decide)), p10.kept (FR 122 123 (by decide) (by decide)), p11.kept (FR 123 124 (by decide) (by decide)), p12.kept (FR 124 125 (by decide) (by decide)), p13.kept (FR 125 126 (by decide) (by decide)), p14.kept (FR 126 127 (by decide) (by decide)), p15.kept (FR 127 128 (by decide) (by decide)), p16.kept (FR 128 129 (by decide) (by decide))⟩⟩, hF.wide (ad_ix [112, 113] (by rfl) (by decide))⟩

set_option maxHeartbeats 1000000 in
set_option maxRecDepth 100000 in
theorem k_X11_cold (l : Launch) (dC : Nat → ClassId) (dI : Nat → Nat → Nat) (G : Nat → ClassId) (sz : Nat) (ax : Nat → Nat) (hi : adInj 129 ax) (T : Nat) (Y : Nat → Int32) (fa : Int32) (N : Nat) (B : Nat) (N1 : Nat) (B1 : Nat) (N2 : Nat) (B2 : Nat) (K : Nat → Int32) (S : Nat) (M : Nat) (E : Nat → Int32) (Z : Nat → Int32) (i : Int32) (v : Int32) : Met l yX11_cold (Cond.code yX11_cold cX11_cold 3 (some .int) :: GT) ({ frames := 2, cells := 0, slots := 0, locals := 46 } : Room) (PcI [.ref (ax 112), .int i, .int v] dC dI G (X11I dC dI G ax T Y fa N B N1 B1 N2 B2 K S M E Z) sz) (va_Qi (fun (r : Int32) (_ : Unit) => True) (fun _ t => X11I dC dI G ax T Y fa N B N1 B1 N2 B2 K S M E Z t.heap) (adX 112 129 ax sz)) 0 0 (adX 112 129 ax sz) := by
  refine Met.pick (fun a st hp => ?_)
  obtain ⟨e0, hsz, hI, hK⟩ := hp
  subst hsz
  have hI0 := hI
  unfold X11I at hI
  obtain ⟨p0, p1, p2, p3, p4, p5, p6, p7, p8, p9, p10, p11, p12, p13, p14, p15, p16⟩ := hI
  unfold X11Pr at p0
  obtain ⟨zi112_4, zi112_5, zi112_6, zi112_7, zi112_8, zi112_9, zi112_13, zi112_14, zi112_15, zn112_16, zi112_17, zi112_18, zi112_34, p0j0, p0j1, p0j2, p0j3, p0j4, p0j5, p0j6, q112⟩ := p0
  unfold X11P0 at p1
  obtain ⟨zf113, p1j0, q113⟩ := p1
  refine ⟨_, _, _, c_X11_cold l dC dI G _ (ax 112) (ax 113) N B (ax 114) (ax 115) T (ax 116) (ax 117) (ax 118) (ax 119) (ax 120) (ax 121) S (ax 122) M (ax 123) (ax 124) (ax 125) (ax 126) (ax 127) (ax 128) i v zi112_4 zi112_5 zi112_6 zi112_7 zi112_8 zi112_9 fa zi112_13 zi112_14 zi112_15 (nI zn112_16) zi112_17 zi112_18 zi112_34 zf113 (by assumption) (by assumption) (by assumption) (by assumption) (by assumption) (by assumption), ⟨e0, rfl, (vpc q112 (vpc q113 va_nilP)), hK, vD_ix hi [112, 113] (by rfl) (by decide) (by decide)⟩, ad_ix [112, 113] (by rfl) (by decide), fun o t hq => ?_⟩
  obtain ⟨⟨r, ost, ho, ⟨hr, hu⟩, hP1, -⟩, hF⟩ := hq
  have FR : ∀ lo hi' : Nat, hi' ≤ 129 → ([112, 113] : List Nat).all (fun x => decide (x < lo) || decide (hi' ≤ x)) = true → ∀ j : Nat, lo ≤ j → j < hi' → ax j < st.heap.size → t.heap[ax j]? = st.heap[ax j]? := fun lo hi' h1 h2 => fr_ix hi h1 hF.2 [112, 113] (by rfl) (by decide) h2
  have np0 : X11Pr dC dI G ax N B T fa S M t.heap := ⟨zi112_4, zi112_5, zi112_6, zi112_7, zi112_8, zi112_9, zi112_13, zi112_14, zi112_15, zn112_16, zi112_17, zi112_18, zi112_34, p0j0, p0j1, p0j2, p0j3, p0j4, p0j5, p0j6, hP1 0 _ rfl⟩
  have np1 : X11P0 dC dI G ax t.heap := ⟨ost, (by first | omega | exact hu | exact hu.1 | exact hu.1.1 | exact hu.1.2 | exact hu.2 | exact fd_nn (by assumption) | (split at hu <;> omega) | (split <;> omega) | exact E_inv (by assumption)), hP1 1 _ rfl⟩
  exact ⟨⟨r, (), ho, trivial, ⟨np0, np1, p2.kept (FR 114 115 (by decide) (by decide)), p3.kept (FR 115 116 (by decide) (by decide)), p4.kept (FR 116 117 (by decide) (by decide)), p5.kept (FR 117 118 (by decide) (by decide)), p6.kept (FR 118 119 (by decide) (by decide)), p7.kept (FR 119 120 (by decide) (by decide)), p8.kept (FR 120 121 (by decide) (by decide)), p9.kept (FR 121 122 (by decide) (by decide)), p10.kept (FR 122 123 (by decide) (by decide)), p11.kept (FR 123 124 (by decide) (by decide)), p12.kept (FR 124 125 (by decide) (by decide)), p13.kept (FR 125 126 (by decide) (by decide)), p14.kept (FR 126 127 (by decide) (by decide)), p15.kept (FR 127 128 (by decide) (by decide)), p16.kept (FR 128 129 (by decide) (by decide))⟩⟩, hF.wide (ad_ix [112, 113] (by rfl) (by decide))⟩

set_option maxHeartbeats 1000000 in
set_option maxRecDepth 100000 in
theorem k_X11_step (l : Launch) (dC : Nat → ClassId) (dI : Nat → Nat → Nat) (G : Nat → ClassId) (sz : Nat) (ax : Nat → Nat) (hi : adInj 129 ax) (T : Nat) (Y : Nat → Int32) (fa : Int32) (N : Nat) (B : Nat) (N1 : Nat) (B1 : Nat) (N2 : Nat) (B2 : Nat) (K : Nat → Int32) (S : Nat) (M : Nat) (E : Nat → Int32) (Z : Nat → Int32) (i : Int32) (v : Int32) : Met l yX11_step (Cond.code yX11_step cX11_step 3 (some .int) :: GT) ({ frames := 2, cells := 0, slots := 0, locals := 46 } : Room) (PcI [.ref (ax 112), .int i, .int v] dC dI G (X11I dC dI G ax T Y fa N B N1 B1 N2 B2 K S M E Z) sz) (va_Qi (fun (r : Int32) (_ : Unit) => True) (fun _ t => X11I dC dI G ax T Y fa N B N1 B1 N2 B2 K S M E Z t.heap) (adX 112 129 ax sz)) 0 0 (adX 112 129 ax sz) := by
  refine Met.pick (fun a st hp => ?_)
  obtain ⟨e0, hsz, hI, hK⟩ := hp
  subst hsz
  have hI0 := hI
  unfold X11I at hI
  obtain ⟨p0, p1, p2, p3, p4, p5, p6, p7, p8, p9, p10, p11, p12, p13, p14, p15, p16⟩ := hI
  unfold X11Pr at p0
  obtain ⟨zi112_4, zi112_5, zi112_6, zi112_7, zi112_8, zi112_9, zi112_13, zi112_14, zi112_15, zn112_16, zi112_17, zi112_18, zi112_34, p0j0, p0j1, p0j2, p0j3, p0j4, p0j5, p0j6, q112⟩ := p0
  unfold X11P0 at p1
  obtain ⟨zf113, p1j0, q113⟩ := p1
  refine ⟨_, _, _, c_X11_step l dC dI G _ (ax 112) (ax 113) N B (ax 114) (ax 115) T (ax 116) (ax 117) (ax 118) (ax 119) (ax 120) (ax 121) S (ax 122) M (ax 123) (ax 124) (ax 125) (ax 126) (ax 127) (ax 128) i v zi112_4 zi112_5 zi112_6 zi112_7 zi112_8 zi112_9 fa zi112_13 zi112_14 zi112_15 (nI zn112_16) zi112_17 zi112_18 zi112_34 zf113 (by assumption) (by assumption) (by assumption) (by assumption) (by assumption) (by assumption), ⟨e0, rfl, (vpc q112 (vpc q113 va_nilP)), hK, vD_ix hi [112, 113] (by rfl) (by decide) (by decide)⟩, ad_ix [112, 113] (by rfl) (by decide), fun o t hq => ?_⟩
  obtain ⟨⟨r, ost, ho, ⟨hr, hu⟩, hP1, -⟩, hF⟩ := hq
  have FR : ∀ lo hi' : Nat, hi' ≤ 129 → ([112, 113] : List Nat).all (fun x => decide (x < lo) || decide (hi' ≤ x)) = true → ∀ j : Nat, lo ≤ j → j < hi' → ax j < st.heap.size → t.heap[ax j]? = st.heap[ax j]? := fun lo hi' h1 h2 => fr_ix hi h1 hF.2 [112, 113] (by rfl) (by decide) h2
  have np0 : X11Pr dC dI G ax N B T fa S M t.heap := ⟨zi112_4, zi112_5, zi112_6, zi112_7, zi112_8, zi112_9, zi112_13, zi112_14, zi112_15, zn112_16, zi112_17, zi112_18, zi112_34, p0j0, p0j1, p0j2, p0j3, p0j4, p0j5, p0j6, hP1 0 _ rfl⟩
  have np1 : X11P0 dC dI G ax t.heap := ⟨ost, (by first | omega | exact hu | exact hu.1 | exact hu.1.1 | exact hu.1.2 | exact hu.2 | exact fd_nn (by assumption) | (split at hu <;> omega) | (split <;> omega) | exact E_inv (by assumption)), hP1 1 _ rfl⟩
  exact ⟨⟨r, (), ho, trivial, ⟨np0, np1, p2.kept (FR 114 115 (by decide) (by decide)), p3.kept (FR 115 116 (by decide) (by decide)), p4.kept (FR 116 117 (by decide) (by decide)), p5.kept (FR 117 118 (by decide) (by decide)), p6.kept (FR 118 119 (by decide) (by decide)), p7.kept (FR 119 120 (by decide) (by decide)), p8.kept (FR 120 121 (by decide) (by decide)), p9.kept (FR 121 122 (by decide) (by decide)), p10.kept (FR 122 123 (by decide) (by decide)), p11.kept (FR 123 124 (by decide) (by decide)), p12.kept (FR 124 125 (by decide) (by decide)), p13.kept (FR 125 126 (by decide) (by decide)), p14.kept (FR 126 127 (by decide) (by decide)), p15.kept (FR 127 128 (by decide) (by decide)), p16.kept (FR 128 129 (by decide) (by decide))⟩⟩, hF.wide (ad_ix [112, 113] (by rfl) (by decide))⟩

set_option maxHeartbeats 1000000 in
set_option maxRecDepth 100000 in
theorem k_X11_warm (l : Launch) (dC : Nat → ClassId) (dI : Nat → Nat → Nat) (G : Nat → ClassId) (sz : Nat) (ax : Nat → Nat) (hi : adInj 129 ax) (T : Nat) (Y : Nat → Int32) (fa : Int32) (N : Nat) (B : Nat) (N1 : Nat) (B1 : Nat) (N2 : Nat) (B2 : Nat) (K : Nat → Int32) (S : Nat) (M : Nat) (E : Nat → Int32) (Z : Nat → Int32) (i : Int32) (v : Int32) : Met l yX11_warm (Cond.code yX11_warm cX11_warm 3 (some .int) :: GT) ({ frames := 2, cells := 0, slots := 0, locals := 46 } : Room) (PcI [.ref (ax 112), .int i, .int v] dC dI G (X11I dC dI G ax T Y fa N B N1 B1 N2 B2 K S M E Z) sz) (va_Qi (fun (r : Int32) (_ : Unit) => True) (fun _ t => X11I dC dI G ax T Y fa N B N1 B1 N2 B2 K S M E Z t.heap) (adX 112 129 ax sz)) 0 0 (adX 112 129 ax sz) := by
  refine Met.pick (fun a st hp => ?_)
  obtain ⟨e0, hsz, hI, hK⟩ := hp
  subst hsz
  have hI0 := hI
  unfold X11I at hI
  obtain ⟨p0, p1, p2, p3, p4, p5, p6, p7, p8, p9, p10, p11, p12, p13, p14, p15, p16⟩ := hI
  unfold X11Pr at p0
  obtain ⟨zi112_4, zi112_5, zi112_6, zi112_7, zi112_8, zi112_9, zi112_13, zi112_14, zi112_15, zn112_16, zi112_17, zi112_18, zi112_34, p0j0, p0j1, p0j2, p0j3, p0j4, p0j5, p0j6, q112⟩ := p0
  unfold X11P0 at p1
  obtain ⟨zf113, p1j0, q113⟩ := p1
  refine ⟨_, _, _, c_X11_warm l dC dI G _ (ax 112) (ax 113) N B (ax 114) (ax 115) T (ax 116) (ax 117) (ax 118) (ax 119) (ax 120) (ax 121) S (ax 122) M (ax 123) (ax 124) (ax 125) (ax 126) (ax 127) (ax 128) i v zi112_4 zi112_5 zi112_6 zi112_7 zi112_8 zi112_9 fa zi112_13 zi112_14 zi112_15 (nI zn112_16) zi112_17 zi112_18 zi112_34 zf113 (by assumption) (by assumption) (by assumption) (by assumption) (by assumption) (by assumption), ⟨e0, rfl, (vpc q112 (vpc q113 va_nilP)), hK, vD_ix hi [112, 113] (by rfl) (by decide) (by decide)⟩, ad_ix [112, 113] (by rfl) (by decide), fun o t hq => ?_⟩
  obtain ⟨⟨r, ost, ho, ⟨hr, hu⟩, hP1, -⟩, hF⟩ := hq
  have FR : ∀ lo hi' : Nat, hi' ≤ 129 → ([112, 113] : List Nat).all (fun x => decide (x < lo) || decide (hi' ≤ x)) = true → ∀ j : Nat, lo ≤ j → j < hi' → ax j < st.heap.size → t.heap[ax j]? = st.heap[ax j]? := fun lo hi' h1 h2 => fr_ix hi h1 hF.2 [112, 113] (by rfl) (by decide) h2
  have np0 : X11Pr dC dI G ax N B T fa S M t.heap := ⟨zi112_4, zi112_5, zi112_6, zi112_7, zi112_8, zi112_9, zi112_13, zi112_14, zi112_15, zn112_16, zi112_17, zi112_18, zi112_34, p0j0, p0j1, p0j2, p0j3, p0j4, p0j5, p0j6, hP1 0 _ rfl⟩
  have np1 : X11P0 dC dI G ax t.heap := ⟨ost, (by first | omega | exact hu | exact hu.1 | exact hu.1.1 | exact hu.1.2 | exact hu.2 | exact fd_nn (by assumption) | (split at hu <;> omega) | (split <;> omega) | exact E_inv (by assumption)), hP1 1 _ rfl⟩
  exact ⟨⟨r, (), ho, trivial, ⟨np0, np1, p2.kept (FR 114 115 (by decide) (by decide)), p3.kept (FR 115 116 (by decide) (by decide)), p4.kept (FR 116 117 (by decide) (by decide)), p5.kept (FR 117 118 (by decide) (by decide)), p6.kept (FR 118 119 (by decide) (by decide)), p7.kept (FR 119 120 (by decide) (by decide)), p8.kept (FR 120 121 (by decide) (by decide)), p9.kept (FR 121 122 (by decide) (by decide)), p10.kept (FR 122 123 (by decide) (by decide)), p11.kept (FR 123 124 (by decide) (by decide)), p12.kept (FR 124 125 (by decide) (by decide)), p13.kept (FR 125 126 (by decide) (by decide)), p14.kept (FR 126 127 (by decide) (by decide)), p15.kept (FR 127 128 (by decide) (by decide)), p16.kept (FR 128 129 (by decide) (by decide))⟩⟩, hF.wide (ad_ix [112, 113] (by rfl) (by decide))⟩

set_option maxHeartbeats 1000000 in
set_option maxRecDepth 100000 in
theorem k_X11_put (l : Launch) (dC : Nat → ClassId) (dI : Nat → Nat → Nat) (G : Nat → ClassId) (sz : Nat) (ax : Nat → Nat) (hi : adInj 129 ax) (T : Nat) (Y : Nat → Int32) (fa : Int32) (N : Nat) (B : Nat) (N1 : Nat) (B1 : Nat) (N2 : Nat) (B2 : Nat) (K : Nat → Int32) (S : Nat) (M : Nat) (E : Nat → Int32) (Z : Nat → Int32) (i : Int32) (v : Int32) : Met l yX11_put (Cond.code yX11_put cX11_put 3 (some .int) :: GT) ({ frames := 3, cells := 0, slots := 0, locals := 68 } : Room) (PcI [.ref (ax 112), .int i, .int v] dC dI G (X11I dC dI G ax T Y fa N B N1 B1 N2 B2 K S M E Z) sz) (va_Qi (fun (r : Int32) (_ : Unit) => True) (fun _ t => X11I dC dI G ax T Y fa N B N1 B1 N2 B2 K S M E Z t.heap) (adX 112 129 ax sz)) 0 0 (adX 112 129 ax sz) := by
  refine Met.pick (fun a st hp => ?_)
  obtain ⟨e0, hsz, hI, hK⟩ := hp
  subst hsz
  have hI0 := hI
  unfold X11I at hI
  obtain ⟨p0, p1, p2, p3, p4, p5, p6, p7, p8, p9, p10, p11, p12, p13, p14, p15, p16⟩ := hI
  unfold X11Pr at p0
  obtain ⟨zi112_4, zi112_5, zi112_6, zi112_7, zi112_8, zi112_9, zi112_13, zi112_14, zi112_15, zn112_16, zi112_17, zi112_18, zi112_34, p0j0, p0j1, p0j2, p0j3, p0j4, p0j5, p0j6, q112⟩ := p0
  unfold X11P0 at p1
  obtain ⟨zf113, p1j0, q113⟩ := p1
  refine ⟨_, _, _, c_X11_put l dC dI G _ (ax 112) (ax 113) N B (ax 114) (ax 115) T (ax 116) (ax 117) (ax 118) (ax 119) (ax 120) (ax 121) S (ax 122) M (ax 123) (ax 124) (ax 125) (ax 126) (ax 127) (ax 128) i v zi112_4 zi112_5 zi112_6 zi112_7 zi112_8 zi112_9 fa zi112_13 zi112_14 zi112_15 (nI zn112_16) zi112_17 zi112_18 zi112_34 zf113 (by assumption) (by assumption) (by assumption) (by assumption) (by assumption) (by assumption), ⟨e0, rfl, (vpc q112 (vpc q113 va_nilP)), hK, vD_ix hi [112, 113] (by rfl) (by decide) (by decide)⟩, ad_ix [112, 113] (by rfl) (by decide), fun o t hq => ?_⟩
  obtain ⟨⟨r, ost, ho, ⟨hr, hu⟩, hP1, -⟩, hF⟩ := hq
  have FR : ∀ lo hi' : Nat, hi' ≤ 129 → ([112, 113] : List Nat).all (fun x => decide (x < lo) || decide (hi' ≤ x)) = true → ∀ j : Nat, lo ≤ j → j < hi' → ax j < st.heap.size → t.heap[ax j]? = st.heap[ax j]? := fun lo hi' h1 h2 => fr_ix hi h1 hF.2 [112, 113] (by rfl) (by decide) h2
  have np0 : X11Pr dC dI G ax N B T fa S M t.heap := ⟨zi112_4, zi112_5, zi112_6, zi112_7, zi112_8, zi112_9, zi112_13, zi112_14, zi112_15, zn112_16, zi112_17, zi112_18, zi112_34, p0j0, p0j1, p0j2, p0j3, p0j4, p0j5, p0j6, hP1 0 _ rfl⟩
  have np1 : X11P0 dC dI G ax t.heap := ⟨ost, (by first | omega | exact hu | exact hu.1 | exact hu.1.1 | exact hu.1.2 | exact hu.2 | exact fd_nn (by assumption) | (split at hu <;> omega) | (split <;> omega) | exact E_inv (by assumption)), hP1 1 _ rfl⟩
  exact ⟨⟨r, (), ho, trivial, ⟨np0, np1, p2.kept (FR 114 115 (by decide) (by decide)), p3.kept (FR 115 116 (by decide) (by decide)), p4.kept (FR 116 117 (by decide) (by decide)), p5.kept (FR 117 118 (by decide) (by decide)), p6.kept (FR 118 119 (by decide) (by decide)), p7.kept (FR 119 120 (by decide) (by decide)), p8.kept (FR 120 121 (by decide) (by decide)), p9.kept (FR 121 122 (by decide) (by decide)), p10.kept (FR 122 123 (by decide) (by decide)), p11.kept (FR 123 124 (by decide) (by decide)), p12.kept (FR 124 125 (by decide) (by decide)), p13.kept (FR 125 126 (by decide) (by decide)), p14.kept (FR 126 127 (by decide) (by decide)), p15.kept (FR 127 128 (by decide) (by decide)), p16.kept (FR 128 129 (by decide) (by decide))⟩⟩, hF.wide (ad_ix [112, 113] (by rfl) (by decide))⟩
