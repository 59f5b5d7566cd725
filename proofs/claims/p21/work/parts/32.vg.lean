set_option maxHeartbeats 1000000 in
set_option maxRecDepth 100000 in
theorem c_X11_swapW (l : Launch) (dC : Nat → ClassId) (dI : Nat → Nat → Nat) (G : Nat → ClassId) (sz : Nat) (h0 st N B rp tp T cu lt od th be ln S ma M ah bh ik la lg ce : Nat) (what vrs vrb vhs vca vxs vxb vfa vbr vba vsp vhe vtk vva vto : Int32) (fst : Nat → Int32) (fod : Nat → Int64) (fth : Nat → Int64) (hN : N ≤ 10) (hB : B ≤ 6) (hT : T ≤ 320) (hS0 : S ≤ 8) (hM : M ≤ 6) (hst : OKS fst) : Met l yX11_swap (Cond.code yX11_swap cX11_swap 7 (some .long) :: GT) ({ frames := 4, cells := 0, slots := 0, locals := 99 } : Room) (PcW [.ref h0, .int what] dC dI G [(h0, .inr (11, [.ref st, .int (nI N), .int (nI B), .ref rp, .int vrs, .int vrb, .int vhs, .int vca, .int vxs, .int vxb, .ref tp, .int (nI T), .int vfa, .int vbr, .int vba, .int vsp, .int vhe, .int vtk, .int vva, .ref cu, .ref lt, .ref od, .ref th, .ref be, .ref ln, .int (nI S), .ref ma, .int (nI M), .ref ah, .ref bh, .ref ik, .ref la, .ref lg, .ref ce, .int vto])), (st, .inl (G 0, 196, .inl fst)), (od, .inl (G 1, 10, .inr (.inl fod))), (th, .inl (G 1, 10, .inr (.inl fth)))] sz) (va_Ql (fun (r : Int64) (u : (Nat → Int32) × (Nat → Int64) × (Nat → Int64)) => match u with | (ost, ood, oth) => (True) ∧ OKS ost ∧ NO fst ost) (fun (u : (Nat → Int32) × (Nat → Int64) × (Nat → Int64)) (t : State) => match u with | (ost, ood, oth) => va_P (dC, dI) vwCl [(h0, .inr (11, [.ref st, .int (nI N), .int (nI B), .ref rp, .int vrs, .int vrb, .int vhs, .int vca, .int vxs, .int vxb, .ref tp, .int (nI T), .int vfa, .int vbr, .int vba, .int vsp, .int vhe, .int vtk, .int vva, .ref cu, .ref lt, .ref od, .ref th, .ref be, .ref ln, .int (nI S), .ref ma, .int (nI M), .ref ah, .ref bh, .ref ik, .ref la, .ref lg, .ref ce, .int vto])), (st, .inl (G 0, 196, .inl ost)), (od, .inl (G 1, 10, .inr (.inl ood))), (th, .inl (G 1, 10, .inr (.inl oth)))] t.heap ∧ va_D (va_A [(h0, .inr (11, [.ref st, .int (nI N), .int (nI B), .ref rp, .int vrs, .int vrb, .int vhs, .int vca, .int vxs, .int vxb, .ref tp, .int (nI T), .int vfa, .int vbr, .int vba, .int vsp, .int vhe, .int vtk, .int vva, .ref cu, .ref lt, .ref od, .ref th, .ref be, .ref ln, .int (nI S), .ref ma, .int (nI M), .ref ah, .ref bh, .ref ik, .ref la, .ref lg, .ref ce, .int vto])), (st, .inl (G 0, 196, .inl fst)), (od, .inl (G 1, 10, .inr (.inl fod))), (th, .inl (G 1, 10, .inr (.inl fth)))] sz) [(h0, .inr (11, [.ref st, .int (nI N), .int (nI B), .ref rp, .int vrs, .int vrb, .int vhs, .int vca, .int vxs, .int vxb, .ref tp, .int (nI T), .int vfa, .int vbr, .int vba, .int vsp, .int vhe, .int vtk, .int vva, .ref cu, .ref lt, .ref od, .ref th, .ref be, .ref ln, .int (nI S), .ref ma, .int (nI M), .ref ah, .ref bh, .ref ik, .ref la, .ref lg, .ref ce, .int vto])), (st, .inl (G 0, 196, .inl ost)), (od, .inl (G 1, 10, .inr (.inl ood))), (th, .inl (G 1, 10, .inr (.inl oth)))]) (va_A [(h0, .inr (11, [.ref st, .int (nI N), .int (nI B), .ref rp, .int vrs, .int vrb, .int vhs, .int vca, .int vxs, .int vxb, .ref tp, .int (nI T), .int vfa, .int vbr, .int vba, .int vsp, .int vhe, .int vtk, .int vva, .ref cu, .ref lt, .ref od, .ref th, .ref be, .ref ln, .int (nI S), .ref ma, .int (nI M), .ref ah, .ref bh, .ref ik, .ref la, .ref lg, .ref ce, .int vto])), (st, .inl (G 0, 196, .inl fst)), (od, .inl (G 1, 10, .inr (.inl fod))), (th, .inl (G 1, 10, .inr (.inl fth)))] sz)) 0 0 (va_A [(h0, .inr (11, [.ref st, .int (nI N), .int (nI B), .ref rp, .int vrs, .int vrb, .int vhs, .int vca, .int vxs, .int vxb, .ref tp, .int (nI T), .int vfa, .int vbr, .int vba, .int vsp, .int vhe, .int vtk, .int vva, .ref cu, .ref lt, .ref od, .ref th, .ref be, .ref ln, .int (nI S), .ref ma, .int (nI M), .ref ah, .ref bh, .ref ik, .ref la, .ref lg, .ref ce, .int vto])), (st, .inl (G 0, 196, .inl fst)), (od, .inl (G 1, 10, .inr (.inl fod))), (th, .inl (G 1, 10, .inr (.inl fth)))] sz) := by
  have hB_ := hB
  have hM_ := hM
  have hT_ := hT
  have tn2033_ : nIT N := fun _ => nI_toInt (by omega)
  have tn2034_ : nIT B := fun _ => nI_toInt (by omega)
  have tn2035_ : nIT T := fun _ => nI_toInt (by omega)
  have tn2036_ : nIT S := fun _ => nI_toInt (by omega)
  have tn2037_ : nIT M := fun _ => nI_toInt (by omega)
  refine Met.ofW (cc := cX11_swap) (maxL := 7) (ret := (some .long)) (by decide) rfl ?_
  intro p e s m args below meth c s₁ Bd hml hv
  obtain ⟨rfl, hsz, hP, hK, hD0⟩ := hv
  have hx := Bd.exec
  have hb := Bd.bytes
  have hr := Bd.returns
  have hg : ∀ w ∈ GT, w.before ([.ref h0, .int what] : List Value).toArray s = true := fun w h => atoms_spec (ws := Cond.code yX11_swap cX11_swap 7 (some .long) :: GT) Bd.pre w (List.mem_cons_of_mem _ h)
  have hown : s.vm.findClass RX11 = some m.cls := findClass_of_methodNamed Bd.named
  have hlocks := Bd.notSynchronized
  subst hsz
  have hD := hD0.self (sz := s.heap.size)
  generalize hAe : va_A [(h0, .inr (11, [.ref st, .int (nI N), .int (nI B), .ref rp, .int vrs, .int vrb, .int vhs, .int vca, .int vxs, .int vxb, .ref tp, .int (nI T), .int vfa, .int vbr, .int vba, .int vsp, .int vhe, .int vtk, .int vva, .ref cu, .ref lt, .ref od, .ref th, .ref be, .ref ln, .int (nI S), .ref ma, .int (nI M), .ref ah, .ref bh, .ref ik, .ref la, .ref lg, .ref ce, .int vto])), (st, .inl (G 0, 196, .inl fst)), (od, .inl (G 1, 10, .inr (.inl fod))), (th, .inl (G 1, 10, .inr (.inl fth)))] s.heap.size = A at hD ⊢
  have hA : ∀ q : Nat, s.heap.size ≤ q → A q := fun q h => by rw [← hAe]; exact Or.inr h
  have hS : va_S A s.heap s.heap [] := va_S.rf
  have hl := lv_entry ([.ref h0, .int what]) (n := 7) (Nat.le_of_ble_eq_true rfl)
  rw [lg_entry_eq]
  generalize (lg_sl ([.ref h0, .int what]) ++ List.replicate (7 - (lg_sl ([.ref h0, .int what])).length) Slot.unset).toArray = ls at hl ⊢
  have hl : lv_has ls 7 [(0, .ref h0), (1, .int what)] := hl
  refine lv_iload_n hx hb dX11_swap_0 rfl (lv_at hl 1 rfl) ?_
  refine lv_i2l (v := what.toInt64) hx hb dX11_swap_1 rfl ?_
  refine lv_lconst (v := 0) hx hb dX11_swap_2 (by decide) ?_
  refine lv_ldc2 (v := 2) hx hb hown (hg _ wt_1056) dX11_swap_3 ?_
  have hPc := hP.sub (ws' := []) [] rfl
  refine va_calli (va_runS (As := [.long what.toInt64, .long 0, .long 2]) (rest := []) ⟨hx, hb, hml, hown, hg⟩ (c_X11_in l dC dI G _ what.toInt64 0 2) (kwS hg mfX11_in wt_992 ⟨Nat.le_of_ble_eq_true rfl, Nat.le_of_ble_eq_true rfl⟩) (preSR hK hPc) rfl rfl hl.1 rfl (lv_room (Nat.le_of_ble_eq_true rfl)) dX11_swap_6 ⟨Nat.le_of_ble_eq_true rfl, Nat.le_of_ble_eq_true rfl⟩) hS (fun q h1 h2 => absurd h2 (Nat.not_le.mpr h1)) (fun q h => hA q (Nat.le_trans hS.1 h)) (fun r1 ur1 t H1 locs ht hvm w2 hB hz1 hk1 hS => ?_)
  have hP := keepR hP hk1
  obtain ⟨w2, w2x⟩ := w2
  try simp only [l_ii, show (0 : Int64).toInt = 0 from by decide, show (2 : Int64).toInt = 2 from by decide] at w2
  subst w2
  refine lv_if_ne (tgt := 16) hx hb dX11_swap_9 rfl (fun c3 => ?_) (fun c3 => ?_)
  · skip
    have b4 := if10_p c3
    refine lv_aload_n hx hb dX11_swap_16 rfl (lv_at hl 0 rfl) ?_
    refine lv_aload_n hx hb dX11_swap_17 rfl (lv_at hl 0 rfl) ?_
    refine va_get (D := (dC, dI)) (ci := 11) (v := .int (nI N)) (C := RX11) (T := TX11) (N := 35) hx hb hg inG11 hown hK.1 hP 0 rfl rfl 1 (Nat.le_of_ble_eq_true rfl) (hg _ wt_879) (fun _ h9 => h9) rfl dX11_swap_18 ?_
    refine lv_iconst (v := 0) hx hb dX11_swap_21 rfl ?_
    refine lv_bipush (v := (-4)) hx hb dX11_swap_22 rfl ?_
    obtain ⟨hPc, hDc, hFc⟩ := va_sub3 (ws' := [(h0, .inr (11, [.ref st, .int (nI N), .int (nI B), .ref rp, .int vrs, .int vrb, .int vhs, .int vca, .int vxs, .int vxb, .ref tp, .int (nI T), .int vfa, .int vbr, .int vba, .int vsp, .int vhe, .int vtk, .int vva, .ref cu, .ref lt, .ref od, .ref th, .ref be, .ref ln, .int (nI S), .ref ma, .int (nI M), .ref ah, .ref bh, .ref ik, .ref la, .ref lg, .ref ce, .int vto])), (st, .inl (G 0, 196, .inl fst)), (od, .inl (G 1, 10, .inr (.inl fod))), (th, .inl (G 1, 10, .inr (.inl fth)))]) hP hD hS hA [0, 1, 2, 3] (by decide +kernel) rfl
    refine va_callv (va_runV (As := [.int (nI N), .int 0, .int (-4)]) (rest := []) ⟨hx, hb, hml, hown, hg⟩ (c_X11_layOdds l dC dI G _ h0 N st N B rp tp T cu lt od th be ln S ma M ah bh ik la lg ce 0 (-4) vrs vrb vhs vca vxs vxb vfa vbr vba vsp vhe vtk vva vto fst fod fth hN hB_ hT_ hS0 hM_ (⟨hst, NO.rf⟩ : OKS fst ∧ NO fst fst).1 hN) (kwV hg mfX11_layOdds wt_1119 ⟨Nat.le_of_ble_eq_true rfl, Nat.le_of_ble_eq_true rfl⟩) (preVW hK hPc hDc (ci := 11) (r := (RX11, TX11, 35)) rfl rfl) rfl rfl hl.1 rfl (lv_room (Nat.le_of_ble_eq_true rfl)) dX11_swap_24 ⟨Nat.le_of_ble_eq_true rfl, Nat.le_of_ble_eq_true rfl⟩) hS (fun q _ h => hFc q h) hFc (fun ur5 t H1 locs ht hvm w6 hB hz1 hk1 hS => ?_)
    obtain ⟨u7, u8⟩ := ur5
    obtain ⟨hP1, hD1⟩ := hB
    rw [ht] at hP1
    obtain ⟨hP, hD⟩ := va_join (wr := []) (w1 := [(h0, .inr (11, [.ref st, .int (nI N), .int (nI B), .ref rp, .int vrs, .int vrb, .int vhs, .int vca, .int vxs, .int vxb, .ref tp, .int (nI T), .int vfa, .int vbr, .int vba, .int vsp, .int vhe, .int vtk, .int vva, .ref cu, .ref lt, .ref od, .ref th, .ref be, .ref ln, .int (nI S), .ref ma, .int (nI M), .ref ah, .ref bh, .ref ik, .ref la, .ref lg, .ref ce, .int vto])), (st, .inl (G 0, 196, .inl fst)), (od, .inl (G 1, 10, .inr (.inl u7))), (th, .inl (G 1, 10, .inr (.inl u8)))]) hP hD [0, 1, 2, 3] [] rfl rfl (by decide +kernel) (by decide +kernel) hk1 hFc hP1 hD1
    generalize H1 = H at hP hS ⊢
    refine lv_aload_n hx hb dX11_swap_27 rfl (lv_at hl 0 rfl) ?_
    refine va_get (D := (dC, dI)) (ci := 11) (v := .ref od) (C := RX11) (T := TX11) (N := 35) hx hb hg inG11 hown hK.1 hP 0 rfl rfl 21 (Nat.le_of_ble_eq_true rfl) (hg _ wt_899) (fun _ h9 => h9) rfl dX11_swap_28 ?_
    refine lv_iconst (v := 0) hx hb dX11_swap_31 rfl ?_
    refine va_lald hx hb hK.1 hP 2 1 rfl rfl (vp_in_iff.mpr ⟨by decide, by decide⟩) dX11_swap_32 ?_
    refine lv_cgl (y := u7 0) (by rfl) ?_
    refine lv_lstore_n (lv' := [(2, .long (u7 0)), (0, .ref h0), (1, .int what)]) hx hb dX11_swap_33 rfl hl (by decide) rfl (fun ls hl => ?_)
    refine lv_bipush (v := (-4)) hx hb dX11_swap_34 rfl ?_
    refine lv_istore (lv' := [(4, .int (-4)), (2, .long (u7 0)), (0, .ref h0), (1, .int what)]) hx hb dX11_swap_36 hl (by decide) rfl (fun ls hl => ?_)
    refine lv_iconst (v := 0) hx hb dX11_swap_38 rfl ?_
    refine lv_istore (lv' := [(5, .int 0), (4, .int (-4)), (2, .long (u7 0)), (0, .ref h0), (1, .int what)]) hx hb dX11_swap_39 hl (by decide) rfl (fun ls hl => ?_)
    have loop41_15 : ∀ (nf j9 : Nat), N + 1 ≤ j9 + nf → j9 ≤ N → ∀ (y10 : Int32) (y11 : Int64) (g12 : Nat → Int32) (g13 : Nat → Int64) (g14 : Nat → Int64) (H : Heap) (locs : List Loc), (OKS g12 ∧ NO fst g12) → va_P (dC, dI) vwCl [(h0, .inr (11, [.ref st, .int (nI N), .int (nI B), .ref rp, .int vrs, .int vrb, .int vhs, .int vca, .int vxs, .int vxb, .ref tp, .int (nI T), .int vfa, .int vbr, .int vba, .int vsp, .int vhe, .int vtk, .int vva, .ref cu, .ref lt, .ref od, .ref th, .ref be, .ref ln, .int (nI S), .ref ma, .int (nI M), .ref ah, .ref bh, .ref ik, .ref la, .ref lg, .ref ce, .int vto])), (st, .inl (G 0, 196, .inl g12)), (od, .inl (G 1, 10, .inr (.inl g13))), (th, .inl (G 1, 10, .inr (.inl g14)))] H → va_D A [(h0, .inr (11, [.ref st, .int (nI N), .int (nI B), .ref rp, .int vrs, .int vrb, .int vhs, .int vca, .int vxs, .int vxb, .ref tp, .int (nI T), .int vfa, .int vbr, .int vba, .int vsp, .int vhe, .int vtk, .int vva, .ref cu, .ref lt, .ref od, .ref th, .ref be, .ref ln, .int (nI S), .ref ma, .int (nI M), .ref ah, .ref bh, .ref ik, .ref la, .ref lg, .ref ce, .int vto])), (st, .inl (G 0, 196, .inl g12)), (od, .inl (G 1, 10, .inr (.inl g13))), (th, .inl (G 1, 10, .inr (.inl g14)))] → va_S A s.heap H locs → ∀ (ls : Array Slot), lv_has ls 7 [(5, .int (nI j9)), (4, .int y10), (2, .long y11), (0, .ref h0), (1, .int what)] → W p l e (headSpec (Cond.code yX11_swap cX11_swap 7 (some .long) :: GT) ({ frames := 4, cells := 0, slots := 0, locals := 99 } : Room)).room s m ([.ref h0, .int what] : List Value).toArray below meth c H locs 0 0 (MQ below (va_Ql (fun (r : Int64) (u : (Nat → Int32) × (Nat → Int64) × (Nat → Int64)) => match u with | (ost, ood, oth) => (True) ∧ OKS ost ∧ NO fst ost) (fun (u : (Nat → Int32) × (Nat → Int64) × (Nat → Int64)) (t : State) => match u with | (ost, ood, oth) => va_P (dC, dI) vwCl [(h0, .inr (11, [.ref st, .int (nI N), .int (nI B), .ref rp, .int vrs, .int vrb, .int vhs, .int vca, .int vxs, .int vxb, .ref tp, .int (nI T), .int vfa, .int vbr, .int vba, .int vsp, .int vhe, .int vtk, .int vva, .ref cu, .ref lt, .ref od, .ref th, .ref be, .ref ln, .int (nI S), .ref ma, .int (nI M), .ref ah, .ref bh, .ref ik, .ref la, .ref lg, .ref ce, .int vto])), (st, .inl (G 0, 196, .inl ost)), (od, .inl (G 1, 10, .inr (.inl ood))), (th, .inl (G 1, 10, .inr (.inl oth)))] t.heap ∧ va_D A [(h0, .inr (11, [.ref st, .int (nI N), .int (nI B), .ref rp, .int vrs, .int vrb, .int vhs, .int vca, .int vxs, .int vxb, .ref tp, .int (nI T), .int vfa, .int vbr, .int vba, .int vsp, .int vhe, .int vtk, .int vva, .ref cu, .ref lt, .ref od, .ref th, .ref be, .ref ln, .int (nI S), .ref ma, .int (nI M), .ref ah, .ref bh, .ref ik, .ref la, .ref lg, .ref ce, .int vto])), (st, .inl (G 0, 196, .inl ost)), (od, .inl (G 1, 10, .inr (.inl ood))), (th, .inl (G 1, 10, .inr (.inl oth)))]) A) ([.ref h0, .int what] : List Value).toArray s 0 0 A) (F0 m 41 ls []) := by
      intro nf
      induction nf with
      | zero => intro j9 h1 h2; exact absurd h1 (by omega)
      | succ nf ih41_15 =>
        intro j9 hn16 hj17 y10 y11 g12 g13 g14 H locs hinv hP hD hS ls hl
        refine lv_iload hx hb dX11_swap_41 (lv_at hl 0 rfl) ?_
        refine lv_aload_n hx hb dX11_swap_43 rfl (lv_at hl 3 rfl) ?_
        refine va_get (D := (dC, dI)) (ci := 11) (v := .int (nI N)) (C := RX11) (T := TX11) (N := 35) hx hb hg inG11 hown hK.1 hP 0 rfl rfl 1 (Nat.le_of_ble_eq_true rfl) (hg _ wt_879) (fun _ h9 => h9) rfl dX11_swap_44 ?_
        refine lv_icmp_ge (tgt := 152) hx hb dX11_swap_47 rfl (fun c18 => ?_) (fun c18 => ?_)
        · skip
          have tn2038_ : nIT j9 := fun _ => nI_toInt (by first | omega | (have t := leI c18; omega))
          have n19 : N ≤ j9 := by have t := leI c18; rw [show (nI (j9)).toInt = ((j9 : Nat) : Int) from tn2038_ ()] at t; rw [show (nI (N)).toInt = ((N : Nat) : Int) from tn2033_ ()] at t; omega
          refine lv_iload hx hb dX11_swap_152 (lv_at hl 1 rfl) ?_
          refine lv_bipush (v := (-4)) hx hb dX11_swap_154 rfl ?_
          have cut182_21 : ∀ (y20 : Int64) (H : Heap) (locs : List Loc), va_P (dC, dI) vwCl [(h0, .inr (11, [.ref st, .int (nI N), .int (nI B), .ref rp, .int vrs, .int vrb, .int vhs, .int vca, .int vxs, .int vxb, .ref tp, .int (nI T), .int vfa, .int vbr, .int vba, .int vsp, .int vhe, .int vtk, .int vva, .ref cu, .ref lt, .ref od, .ref th, .ref be, .ref ln, .int (nI S), .ref ma, .int (nI M), .ref ah, .ref bh, .ref ik, .ref la, .ref lg, .ref ce, .int vto])), (st, .inl (G 0, 196, .inl g12)), (od, .inl (G 1, 10, .inr (.inl g13))), (th, .inl (G 1, 10, .inr (.inl g14)))] H → va_D A [(h0, .inr (11, [.ref st, .int (nI N), .int (nI B), .ref rp, .int vrs, .int vrb, .int vhs, .int vca, .int vxs, .int vxb, .ref tp, .int (nI T), .int vfa, .int vbr, .int vba, .int vsp, .int vhe, .int vtk, .int vva, .ref cu, .ref lt, .ref od, .ref th, .ref be, .ref ln, .int (nI S), .ref ma, .int (nI M), .ref ah, .ref bh, .ref ik, .ref la, .ref lg, .ref ce, .int vto])), (st, .inl (G 0, 196, .inl g12)), (od, .inl (G 1, 10, .inr (.inl g13))), (th, .inl (G 1, 10, .inr (.inl g14)))] → va_S A s.heap H locs → ∀ (ls : Array Slot), lv_has ls 7 [(5, .int (nI j9)), (4, .int y10), (2, .long y11), (0, .ref h0), (1, .int what)] → W p l e (headSpec (Cond.code yX11_swap cX11_swap 7 (some .long) :: GT) ({ frames := 4, cells := 0, slots := 0, locals := 99 } : Room)).room s m ([.ref h0, .int what] : List Value).toArray below meth c H locs 0 0 (MQ below (va_Ql (fun (r : Int64) (u : (Nat → Int32) × (Nat → Int64) × (Nat → Int64)) => match u with | (ost, ood, oth) => (True) ∧ OKS ost ∧ NO fst ost) (fun (u : (Nat → Int32) × (Nat → Int64) × (Nat → Int64)) (t : State) => match u with | (ost, ood, oth) => va_P (dC, dI) vwCl [(h0, .inr (11, [.ref st, .int (nI N), .int (nI B), .ref rp, .int vrs, .int vrb, .int vhs, .int vca, .int vxs, .int vxb, .ref tp, .int (nI T), .int vfa, .int vbr, .int vba, .int vsp, .int vhe, .int vtk, .int vva, .ref cu, .ref lt, .ref od, .ref th, .ref be, .ref ln, .int (nI S), .ref ma, .int (nI M), .ref ah, .ref bh, .ref ik, .ref la, .ref lg, .ref ce, .int vto])), (st, .inl (G 0, 196, .inl ost)), (od, .inl (G 1, 10, .inr (.inl ood))), (th, .inl (G 1, 10, .inr (.inl oth)))] t.heap ∧ va_D A [(h0, .inr (11, [.ref st, .int (nI N), .int (nI B), .ref rp, .int vrs, .int vrb, .int vhs, .int vca, .int vxs, .int vxb, .ref tp, .int (nI T), .int vfa, .int vbr, .int vba, .int vsp, .int vhe, .int vtk, .int vva, .ref cu, .ref lt, .ref od, .ref th, .ref be, .ref ln, .int (nI S), .ref ma, .int (nI M), .ref ah, .ref bh, .ref ik, .ref la, .ref lg, .ref ce, .int vto])), (st, .inl (G 0, 196, .inl ost)), (od, .inl (G 1, 10, .inr (.inl ood))), (th, .inl (G 1, 10, .inr (.inl oth)))]) A) ([.ref h0, .int what] : List Value).toArray s 0 0 A) (F0 m 182 ls [.long y20]) := by
            intro y20 H locs hP hD hS ls hl
            have hpost : True := by
              trivial
            obtain ⟨hP9, hD9⟩ := va_sub2 (ws' := [(h0, .inr (11, [.ref st, .int (nI N), .int (nI B), .ref rp, .int vrs, .int vrb, .int vhs, .int vca, .int vxs, .int vxb, .ref tp, .int (nI T), .int vfa, .int vbr, .int vba, .int vsp, .int vhe, .int vtk, .int vva, .ref cu, .ref lt, .ref od, .ref th, .ref be, .ref ln, .int (nI S), .ref ma, .int (nI M), .ref ah, .ref bh, .ref ik, .ref la, .ref lg, .ref ce, .int vto])), (st, .inl (G 0, 196, .inl g12)), (od, .inl (G 1, 10, .inr (.inl g13))), (th, .inl (G 1, 10, .inr (.inl g14)))]) hP hD [0, 1, 2, 3] (by decide +kernel) rfl
            refine W.widen (k := 0) (n := 0) (Nat.le_of_ble_eq_true rfl) (Nat.le_of_ble_eq_true rfl) ?_
            exact W.lret (v := y20) hx hb hr (fun t ht hW => ⟨⟨y20, (g12, g13, g14), rfl, ⟨hpost, hinv⟩, ⟨by rw [ht]; exact hP9, hD9⟩⟩, hS.F ht⟩) hS.2.2 dX11_swap_182
          have cut164_22 : ∀ (H : Heap) (locs : List Loc), va_P (dC, dI) vwCl [(h0, .inr (11, [.ref st, .int (nI N), .int (nI B), .ref rp, .int vrs, .int vrb, .int vhs, .int vca, .int vxs, .int vxb, .ref tp, .int (nI T), .int vfa, .int vbr, .int vba, .int vsp, .int vhe, .int vtk, .int vva, .ref cu, .ref lt, .ref od, .ref th, .ref be, .ref ln, .int (nI S), .ref ma, .int (nI M), .ref ah, .ref bh, .ref ik, .ref la, .ref lg, .ref ce, .int vto])), (st, .inl (G 0, 196, .inl g12)), (od, .inl (G 1, 10, .inr (.inl g13))), (th, .inl (G 1, 10, .inr (.inl g14)))] H → va_D A [(h0, .inr (11, [.ref st, .int (nI N), .int (nI B), .ref rp, .int vrs, .int vrb, .int vhs, .int vca, .int vxs, .int vxb, .ref tp, .int (nI T), .int vfa, .int vbr, .int vba, .int vsp, .int vhe, .int vtk, .int vva, .ref cu, .ref lt, .ref od, .ref th, .ref be, .ref ln, .int (nI S), .ref ma, .int (nI M), .ref ah, .ref bh, .ref ik, .ref la, .ref lg, .ref ce, .int vto])), (st, .inl (G 0, 196, .inl g12)), (od, .inl (G 1, 10, .inr (.inl g13))), (th, .inl (G 1, 10, .inr (.inl g14)))] → va_S A s.heap H locs → ∀ (ls : Array Slot), lv_has ls 7 [(5, .int (nI j9)), (4, .int y10), (2, .long y11), (0, .ref h0), (1, .int what)] → W p l e (headSpec (Cond.code yX11_swap cX11_swap 7 (some .long) :: GT) ({ frames := 4, cells := 0, slots := 0, locals := 99 } : Room)).room s m ([.ref h0, .int what] : List Value).toArray below meth c H locs 0 0 (MQ below (va_Ql (fun (r : Int64) (u : (Nat → Int32) × (Nat → Int64) × (Nat → Int64)) => match u with | (ost, ood, oth) => (True) ∧ OKS ost ∧ NO fst ost) (fun (u : (Nat → Int32) × (Nat → Int64) × (Nat → Int64)) (t : State) => match u with | (ost, ood, oth) => va_P (dC, dI) vwCl [(h0, .inr (11, [.ref st, .int (nI N), .int (nI B), .ref rp, .int vrs, .int vrb, .int vhs, .int vca, .int vxs, .int vxb, .ref tp, .int (nI T), .int vfa, .int vbr, .int vba, .int vsp, .int vhe, .int vtk, .int vva, .ref cu, .ref lt, .ref od, .ref th, .ref be, .ref ln, .int (nI S), .ref ma, .int (nI M), .ref ah, .ref bh, .ref ik, .ref la, .ref lg, .ref ce, .int vto])), (st, .inl (G 0, 196, .inl ost)), (od, .inl (G 1, 10, .inr (.inl ood))), (th, .inl (G 1, 10, .inr (.inl oth)))] t.heap ∧ va_D A [(h0, .inr (11, [.ref st, .int (nI N), .int (nI B), .ref rp, .int vrs, .int vrb, .int vhs, .int vca, .int vxs, .int vxb, .ref tp, .int (nI T), .int vfa, .int vbr, .int vba, .int vsp, .int vhe, .int vtk, .int vva, .ref cu, .ref lt, .ref od, .ref th, .ref be, .ref ln, .int (nI S), .ref ma, .int (nI M), .ref ah, .ref bh, .ref ik, .ref la, .ref lg, .ref ce, .int vto])), (st, .inl (G 0, 196, .inl ost)), (od, .inl (G 1, 10, .inr (.inl ood))), (th, .inl (G 1, 10, .inr (.inl oth)))]) A) ([.ref h0, .int what] : List Value).toArray s 0 0 A) (F0 m 164 ls []) := by
            intro  H locs hP hD hS ls hl
            refine lv_iload hx hb dX11_swap_164 (lv_at hl 1 rfl) ?_
            refine lv_i2l (v := y10.toInt64) hx hb dX11_swap_166 rfl ?_
            refine lv_goto (tgt := 182) hx hb dX11_swap_167 rfl ?_
            exact cut182_21 y10.toInt64 _ _ hP hD hS ls (lv_sub hl [0, 1, 2, 3, 4] rfl)
          refine lv_icmp_eq (tgt := 164) hx hb dX11_swap_156 rfl (fun c23 => ?_) (fun c23 => ?_)
          · skip
            exact cut164_22  _ _ hP hD hS ls (lv_sub hl [0, 1, 2, 3, 4] rfl)
          · skip
            refine lv_iload_n hx hb dX11_swap_159 rfl (lv_at hl 4 rfl) ?_
            refine lv_iconst (v := 2) hx hb dX11_swap_160 rfl ?_
            refine lv_icmp_ne (tgt := 170) hx hb dX11_swap_161 rfl (fun c24 => ?_) (fun c24 => ?_)
            · skip
              refine lv_lload_n hx hb dX11_swap_170 rfl (lv_at hl 2 rfl) ?_
              refine lv_aload_n hx hb dX11_swap_171 rfl (lv_at hl 3 rfl) ?_
              refine va_get (D := (dC, dI)) (ci := 11) (v := .int (nI N)) (C := RX11) (T := TX11) (N := 35) hx hb hg inG11 hown hK.1 hP 0 rfl rfl 1 (Nat.le_of_ble_eq_true rfl) (hg _ wt_879) (fun _ h9 => h9) rfl dX11_swap_172 ?_
              have hPc := hP.sub (ws' := []) [] rfl
              refine va_calll (va_runS (As := [.int (nI N)]) (rest := [.long y11]) ⟨hx, hb, hml, hown, hg⟩ (c_X11_power l dC dI G _ N hN) (kwS hg mfX11_power wt_1131 ⟨Nat.le_of_ble_eq_true rfl, Nat.le_of_ble_eq_true rfl⟩) (preSR hK hPc) rfl rfl hl.1 rfl (lv_room (Nat.le_of_ble_eq_true rfl)) dX11_swap_175 ⟨Nat.le_of_ble_eq_true rfl, Nat.le_of_ble_eq_true rfl⟩) hS (fun q h1 h2 => absurd h2 (Nat.not_le.mpr h1)) (fun q h => hA q (Nat.le_trans hS.1 h)) (fun r25 ur25 t H1 locs ht hvm w26 hB hz1 hk1 hS => ?_)
              have hP := keepR hP hk1
              obtain ⟨w26, w26x⟩ := w26
              subst w26
              refine lv_iload_n hx hb dX11_swap_178 rfl (lv_at hl 4 rfl) ?_
              have hPc := hP.sub (ws' := []) [] rfl
              refine va_calll (va_runS (As := [.long y11, .long (powF N), .int what]) (rest := []) ⟨hx, hb, hml, hown, hg⟩ (c_X11_lowest l dC dI G _ what y11 (powF N) (powF_ne (by have t_b4 := b4; have t_hj17 := hj17; have t_n19 := n19; have t_c23 := neI c23; have t_c24 := neI c24; have tqz_ := qz10_; have tnb_ := nib6 tn2033_ tn2034_ tn2035_ tn2036_ tn2037_ tn2038_; omega))) (kwS hg mfX11_lowest wt_1134 ⟨Nat.le_of_ble_eq_true rfl, Nat.le_of_ble_eq_true rfl⟩) (preSR hK hPc) rfl rfl hl.1 rfl (lv_room (Nat.le_of_ble_eq_true rfl)) dX11_swap_179 ⟨Nat.le_of_ble_eq_true rfl, Nat.le_of_ble_eq_true rfl⟩) hS (fun q h1 h2 => absurd h2 (Nat.not_le.mpr h1)) (fun q h => hA q (Nat.le_trans hS.1 h)) (fun r27 ur27 t H1 locs ht hvm w28 hB hz1 hk1 hS => ?_)
              have hP := keepR hP hk1
              obtain ⟨w28, w28x⟩ := w28
              exact cut182_21 r27 _ _ hP hD hS ls (lv_sub hl [0, 1, 2, 3, 4] rfl)
            · skip
              exact cut164_22  _ _ hP hD hS ls (lv_sub hl [0, 1, 2, 3, 4] rfl)
        · skip
          have tn2039_ : nIT j9 := fun _ => nI_toInt (by first | omega | (have t := nleI c18; omega))
          have n29 : j9 < N := by have t := nleI c18; rw [show (nI (j9)).toInt = ((j9 : Nat) : Int) from tn2039_ ()] at t; rw [show (nI (N)).toInt = ((N : Nat) : Int) from tn2033_ ()] at t; omega
          refine lv_iload hx hb dX11_swap_50 (lv_at hl 0 rfl) ?_
          refine lv_iconst (v := 1) hx hb dX11_swap_52 rfl ?_
          refine lv_iadd hx hb dX11_swap_53 ?_
          refine lv_cg (y := nI (j9 + 1)) (by rw [show (1 : Int32) = nI 1 from rfl]; exact nI_add _ _) ?_
          refine lv_istore (lv' := [(6, .int (nI (j9 + 1))), (5, .int (nI j9)), (4, .int y10), (2, .long y11), (0, .ref h0), (1, .int what)]) hx hb dX11_swap_54 hl (by decide) rfl (fun ls hl => ?_)
          have loop56_36 : ∀ (nf j30 : Nat), N + 1 ≤ j30 + nf → j30 ≤ N → (j9 + 1) ≤ j30 → ∀ (y31 : Int32) (y32 : Int64) (g33 : Nat → Int32) (g34 : Nat → Int64) (g35 : Nat → Int64) (H : Heap) (locs : List Loc), (OKS g33 ∧ NO fst g33) → va_P (dC, dI) vwCl [(h0, .inr (11, [.ref st, .int (nI N), .int (nI B), .ref rp, .int vrs, .int vrb, .int vhs, .int vca, .int vxs, .int vxb, .ref tp, .int (nI T), .int vfa, .int vbr, .int vba, .int vsp, .int vhe, .int vtk, .int vva, .ref cu, .ref lt, .ref od, .ref th, .ref be, .ref ln, .int (nI S), .ref ma, .int (nI M), .ref ah, .ref bh, .ref ik, .ref la, .ref lg, .ref ce, .int vto])), (st, .inl (G 0, 196, .inl g33)), (od, .inl (G 1, 10, .inr (.inl g34))), (th, .inl (G 1, 10, .inr (.inl g35)))] H → va_D A [(h0, .inr (11, [.ref st, .int (nI N), .int (nI B), .ref rp, .int vrs, .int vrb, .int vhs, .int vca, .int vxs, .int vxb, .ref tp, .int (nI T), .int vfa, .int vbr, .int vba, .int vsp, .int vhe, .int vtk, .int vva, .ref cu, .ref lt, .ref od, .ref th, .ref be, .ref ln, .int (nI S), .ref ma, .int (nI M), .ref ah, .ref bh, .ref ik, .ref la, .ref lg, .ref ce, .int vto])), (st, .inl (G 0, 196, .inl g33)), (od, .inl (G 1, 10, .inr (.inl g34))), (th, .inl (G 1, 10, .inr (.inl g35)))] → va_S A s.heap H locs → ∀ (ls : Array Slot), lv_has ls 7 [(6, .int (nI j30)), (5, .int (nI j9)), (4, .int y31), (2, .long y32), (0, .ref h0), (1, .int what)] → W p l e (headSpec (Cond.code yX11_swap cX11_swap 7 (some .long) :: GT) ({ frames := 4, cells := 0, slots := 0, locals := 99 } : Room)).room s m ([.ref h0, .int what] : List Value).toArray below meth c H locs 0 0 (MQ below (va_Ql (fun (r : Int64) (u : (Nat → Int32) × (Nat → Int64) × (Nat → Int64)) => match u with | (ost, ood, oth) => (True) ∧ OKS ost ∧ NO fst ost) (fun (u : (Nat → Int32) × (Nat → Int64) × (Nat → Int64)) (t : State) => match u with | (ost, ood, oth) => va_P (dC, dI) vwCl [(h0, .inr (11, [.ref st, .int (nI N), .int (nI B), .ref rp, .int vrs, .int vrb, .int vhs, .int vca, .int vxs, .int vxb, .ref tp, .int (nI T), .int vfa, .int vbr, .int vba, .int vsp, .int vhe, .int vtk, .int vva, .ref cu, .ref lt, .ref od, .ref th, .ref be, .ref ln, .int (nI S), .ref ma, .int (nI M), .ref ah, .ref bh, .ref ik, .ref la, .ref lg, .ref ce, .int vto])), (st, .inl (G 0, 196, .inl ost)), (od, .inl (G 1, 10, .inr (.inl ood))), (th, .inl (G 1, 10, .inr (.inl oth)))] t.heap ∧ va_D A [(h0, .inr (11, [.ref st, .int (nI N), .int (nI B), .ref rp, .int vrs, .int vrb, .int vhs, .int vca, .int vxs, .int vxb, .ref tp, .int (nI T), .int vfa, .int vbr, .int vba, .int vsp, .int vhe, .int vtk, .int vva, .ref cu, .ref lt, .ref od, .ref th, .ref be, .ref ln, .int (nI S), .ref ma, .int (nI M), .ref ah, .ref bh, .ref ik, .ref la, .ref lg, .ref ce, .int vto])), (st, .inl (G 0, 196, .inl ost)), (od, .inl (G 1, 10, .inr (.inl ood))), (th, .inl (G 1, 10, .inr (.inl oth)))]) A) ([.ref h0, .int what] : List Value).toArray s 0 0 A) (F0 m 56 ls []) := by
            intro nf
            induction nf with
            | zero => intro j30 h1 h2; exact absurd h1 (by omega)
            | succ nf ih56_36 =>
              intro j30 hn37 hj38 hlo_j30 y31 y32 g33 g34 g35 H locs hinv hP hD hS ls hl
              refine lv_iload hx hb dX11_swap_56 (lv_at hl 0 rfl) ?_
              refine lv_aload_n hx hb dX11_swap_58 rfl (lv_at hl 4 rfl) ?_
              refine va_get (D := (dC, dI)) (ci := 11) (v := .int (nI N)) (C := RX11) (T := TX11) (N := 35) hx hb hg inG11 hown hK.1 hP 0 rfl rfl 1 (Nat.le_of_ble_eq_true rfl) (hg _ wt_879) (fun _ h9 => h9) rfl dX11_swap_59 ?_
              refine lv_icmp_ge (tgt := 146) hx hb dX11_swap_62 rfl (fun c39 => ?_) (fun c39 => ?_)
              · skip
                have tn2040_ : nIT j30 := fun _ => nI_toInt (by first | omega | (have t := leI c39; omega))
                have n40 : N ≤ j30 := by have t := leI c39; rw [show (nI (j30)).toInt = ((j30 : Nat) : Int) from tn2040_ ()] at t; rw [show (nI (N)).toInt = ((N : Nat) : Int) from tn2033_ ()] at t; omega
                refine lv_iinc (v := nI (j9 + 1)) (lv' := [(5, .int (nI (j9 + 1))), (6, .int (nI j30)), (4, .int y31), (2, .long y32), (0, .ref h0), (1, .int what)]) hx hb dX11_swap_146 hl (k := 1) rfl (by rw [show Int32.ofInt 1 = nI 1 from by decide]; exact nI_add _ _) (by decide) rfl (fun ls hl => ?_)
                refine lv_goto (tgt := 41) hx hb dX11_swap_149 rfl ?_
                exact ih41_15 (j9 + 1) (by omega) (by omega) y31 y32 g33 g34 g35 _ _ hinv hP hD hS ls (lv_sub hl [0, 2, 3, 4, 5] rfl)
              · skip
                have tn2041_ : nIT j30 := fun _ => nI_toInt (by first | omega | (have t := nleI c39; omega))
                have n41 : j30 < N := by have t := nleI c39; rw [show (nI (j30)).toInt = ((j30 : Nat) : Int) from tn2041_ ()] at t; rw [show (nI (N)).toInt = ((N : Nat) : Int) from tn2033_ ()] at t; omega
                refine lv_aload_n hx hb dX11_swap_65 rfl (lv_at hl 4 rfl) ?_
                refine lv_iload hx hb dX11_swap_66 (lv_at hl 1 rfl) ?_
                refine lv_iload hx hb dX11_swap_68 (lv_at hl 0 rfl) ?_
                obtain ⟨hPc, hDc, hFc⟩ := va_sub3 (ws' := [(h0, .inr (11, [.ref st, .int (nI N), .int (nI B), .ref rp, .int vrs, .int vrb, .int vhs, .int vca, .int vxs, .int vxb, .ref tp, .int (nI T), .int vfa, .int vbr, .int vba, .int vsp, .int vhe, .int vtk, .int vva, .ref cu, .ref lt, .ref od, .ref th, .ref be, .ref ln, .int (nI S), .ref ma, .int (nI M), .ref ah, .ref bh, .ref ik, .ref la, .ref lg, .ref ce, .int vto])), (st, .inl (G 0, 196, .inl g33))]) hP hD hS hA [0, 1] (by decide +kernel) rfl
                refine va_callv (va_runV (As := [.int (nI j9), .int (nI j30)]) (rest := []) ⟨hx, hb, hml, hown, hg⟩ (c_X11_changesW l dC dI G _ h0 j9 j30 st N B rp tp T cu lt od th be ln S ma M ah bh ik la lg ce vrs vrb vhs vca vxs vxb vfa vbr vba vsp vhe vtk vva vto g33 hN hB_ hT_ hS0 hM_ (hinv : OKS g33 ∧ NO fst g33).1 (by first | omega | (have t_b4 := b4; have t_hj17 := hj17; have t_n29 := n29; have t_hj38 := hj38; have t_hlo_j30 := hlo_j30; have t_n41 := n41; have tnb_ := nib7 tn2033_ tn2034_ tn2035_ tn2036_ tn2037_ tn2039_ tn2041_; omega)) (by first | omega | (have t_b4 := b4; have t_hj17 := hj17; have t_n29 := n29; have t_hj38 := hj38; have t_hlo_j30 := hlo_j30; have t_n41 := n41; have tnb_ := nib7 tn2033_ tn2034_ tn2035_ tn2036_ tn2037_ tn2039_ tn2041_; omega))) (kwV hg mfX11_changes wt_1187 ⟨Nat.le_of_ble_eq_true rfl, Nat.le_of_ble_eq_true rfl⟩) (preVW hK hPc hDc (ci := 11) (r := (RX11, TX11, 35)) rfl rfl) rfl rfl hl.1 rfl (lv_room (Nat.le_of_ble_eq_true rfl)) dX11_swap_70 ⟨Nat.le_of_ble_eq_true rfl, Nat.le_of_ble_eq_true rfl⟩) hS (fun q _ h => hFc q h) hFc (fun ur42 t H1 locs ht hvm w43 hB hz1 hk1 hS => ?_)
                obtain ⟨u44, rfl⟩ : ∃ z, z = ur42 := ⟨_, rfl⟩
                obtain ⟨hP1, hD1⟩ := hB
                rw [ht] at hP1
                obtain ⟨hP, hD⟩ := va_join (wr := [(od, .inl (G 1, 10, .inr (.inl g34))), (th, .inl (G 1, 10, .inr (.inl g35)))]) (w1 := [(h0, .inr (11, [.ref st, .int (nI N), .int (nI B), .ref rp, .int vrs, .int vrb, .int vhs, .int vca, .int vxs, .int vxb, .ref tp, .int (nI T), .int vfa, .int vbr, .int vba, .int vsp, .int vhe, .int vtk, .int vva, .ref cu, .ref lt, .ref od, .ref th, .ref be, .ref ln, .int (nI S), .ref ma, .int (nI M), .ref ah, .ref bh, .ref ik, .ref la, .ref lg, .ref ce, .int vto])), (st, .inl (G 0, 196, .inl u44))]) hP hD [0, 1] [2, 3] rfl rfl (by decide +kernel) (by decide +kernel) hk1 hFc hP1 hD1
                have w43 : OKS u44 ∧ NO g33 u44 := w43
                generalize H1 = H at hP hS ⊢
                have okw43 : OKS u44 ∧ NO fst u44 := ⟨w43.1, (hinv : OKS g33 ∧ NO fst g33).2.tr w43.2⟩
                refine lv_aload_n hx hb dX11_swap_73 rfl (lv_at hl 4 rfl) ?_
                refine lv_aload_n hx hb dX11_swap_74 rfl (lv_at hl 4 rfl) ?_
                refine va_get (D := (dC, dI)) (ci := 11) (v := .int (nI N)) (C := RX11) (T := TX11) (N := 35) hx hb hg inG11 hown hK.1 hP 2 rfl rfl 1 (Nat.le_of_ble_eq_true rfl) (hg _ wt_879) (fun _ h9 => h9) rfl dX11_swap_75 ?_
                refine lv_iconst (v := 0) hx hb dX11_swap_78 rfl ?_
                refine lv_bipush (v := (-4)) hx hb dX11_swap_79 rfl ?_
                obtain ⟨hPc, hDc, hFc⟩ := va_sub3 (ws' := [(h0, .inr (11, [.ref st, .int (nI N), .int (nI B), .ref rp, .int vrs, .int vrb, .int vhs, .int vca, .int vxs, .int vxb, .ref tp, .int (nI T), .int vfa, .int vbr, .int vba, .int vsp, .int vhe, .int vtk, .int vva, .ref cu, .ref lt, .ref od, .ref th, .ref be, .ref ln, .int (nI S), .ref ma, .int (nI M), .ref ah, .ref bh, .ref ik, .ref la, .ref lg, .ref ce, .int vto])), (st, .inl (G 0, 196, .inl u44)), (od, .inl (G 1, 10, .inr (.inl g34))), (th, .inl (G 1, 10, .inr (.inl g35)))]) hP hD hS hA [2, 3, 0, 1] (by decide +kernel) rfl
                refine va_callv (va_runV (As := [.int (nI N), .int 0, .int (-4)]) (rest := []) ⟨hx, hb, hml, hown, hg⟩ (c_X11_layOdds l dC dI G _ h0 N st N B rp tp T cu lt od th be ln S ma M ah bh ik la lg ce 0 (-4) vrs vrb vhs vca vxs vxb vfa vbr vba vsp vhe vtk vva vto u44 g34 g35 hN hB_ hT_ hS0 hM_ (okw43 : OKS u44 ∧ NO fst u44).1 hN) (kwV hg mfX11_layOdds wt_1119 ⟨Nat.le_of_ble_eq_true rfl, Nat.le_of_ble_eq_true rfl⟩) (preVW hK hPc hDc (ci := 11) (r := (RX11, TX11, 35)) rfl rfl) rfl rfl hl.1 rfl (lv_room (Nat.le_of_ble_eq_true rfl)) dX11_swap_81 ⟨Nat.le_of_ble_eq_true rfl, Nat.le_of_ble_eq_true rfl⟩) hS (fun q _ h => hFc q h) hFc (fun ur45 t H1 locs ht hvm w46 hB hz1 hk1 hS => ?_)
                obtain ⟨u47, u48⟩ := ur45
                obtain ⟨hP1, hD1⟩ := hB
                rw [ht] at hP1
                obtain ⟨hP, hD⟩ := va_join (wr := []) (w1 := [(h0, .inr (11, [.ref st, .int (nI N), .int (nI B), .ref rp, .int vrs, .int vrb, .int vhs, .int vca, .int vxs, .int vxb, .ref tp, .int (nI T), .int vfa, .int vbr, .int vba, .int vsp, .int vhe, .int vtk, .int vva, .ref cu, .ref lt, .ref od, .ref th, .ref be, .ref ln, .int (nI S), .ref ma, .int (nI M), .ref ah, .ref bh, .ref ik, .ref la, .ref lg, .ref ce, .int vto])), (st, .inl (G 0, 196, .inl u44)), (od, .inl (G 1, 10, .inr (.inl u47))), (th, .inl (G 1, 10, .inr (.inl u48)))]) hP hD [2, 3, 0, 1] [] rfl rfl (by decide +kernel) (by decide +kernel) hk1 hFc hP1 hD1
                generalize H1 = H at hP hS ⊢
                refine lv_aload_n hx hb dX11_swap_84 rfl (lv_at hl 4 rfl) ?_
                refine lv_iload hx hb dX11_swap_85 (lv_at hl 1 rfl) ?_
                refine lv_iload hx hb dX11_swap_87 (lv_at hl 0 rfl) ?_
                obtain ⟨hPc, hDc, hFc⟩ := va_sub3 (ws' := [(h0, .inr (11, [.ref st, .int (nI N), .int (nI B), .ref rp, .int vrs, .int vrb, .int vhs, .int vca, .int vxs, .int vxb, .ref tp, .int (nI T), .int vfa, .int vbr, .int vba, .int vsp, .int vhe, .int vtk, .int vva, .ref cu, .ref lt, .ref od, .ref th, .ref be, .ref ln, .int (nI S), .ref ma, .int (nI M), .ref ah, .ref bh, .ref ik, .ref la, .ref lg, .ref ce, .int vto])), (st, .inl (G 0, 196, .inl u44))]) hP hD hS hA [0, 1] (by decide +kernel) rfl
                refine va_callv (va_runV (As := [.int (nI j9), .int (nI j30)]) (rest := []) ⟨hx, hb, hml, hown, hg⟩ (c_X11_changesW l dC dI G _ h0 j9 j30 st N B rp tp T cu lt od th be ln S ma M ah bh ik la lg ce vrs vrb vhs vca vxs vxb vfa vbr vba vsp vhe vtk vva vto u44 hN hB_ hT_ hS0 hM_ (okw43 : OKS u44 ∧ NO fst u44).1 (by first | omega | (have t_b4 := b4; have t_hj17 := hj17; have t_n29 := n29; have t_hj38 := hj38; have t_hlo_j30 := hlo_j30; have t_n41 := n41; have tnb_ := nib7 tn2033_ tn2034_ tn2035_ tn2036_ tn2037_ tn2039_ tn2041_; omega)) (by first | omega | (have t_b4 := b4; have t_hj17 := hj17; have t_n29 := n29; have t_hj38 := hj38; have t_hlo_j30 := hlo_j30; have t_n41 := n41; have tnb_ := nib7 tn2033_ tn2034_ tn2035_ tn2036_ tn2037_ tn2039_ tn2041_; omega))) (kwV hg mfX11_changes wt_1187 ⟨Nat.le_of_ble_eq_true rfl, Nat.le_of_ble_eq_true rfl⟩) (preVW hK hPc hDc (ci := 11) (r := (RX11, TX11, 35)) rfl rfl) rfl rfl hl.1 rfl (lv_room (Nat.le_of_ble_eq_true rfl)) dX11_swap_89 ⟨Nat.le_of_ble_eq_true rfl, Nat.le_of_ble_eq_true rfl⟩) hS (fun q _ h => hFc q h) hFc (fun ur49 t H1 locs ht hvm w50 hB hz1 hk1 hS => ?_)
                obtain ⟨u51, rfl⟩ : ∃ z, z = ur49 := ⟨_, rfl⟩
                obtain ⟨hP1, hD1⟩ := hB
                rw [ht] at hP1
                obtain ⟨hP, hD⟩ := va_join (wr := [(od, .inl (G 1, 10, .inr (.inl u47))), (th, .inl (G 1, 10, .inr (.inl u48)))]) (w1 := [(h0, .inr (11, [.ref st, .int (nI N), .int (nI B), .ref rp, .int vrs, .int vrb, .int vhs, .int vca, .int vxs, .int vxb, .ref tp, .int (nI T), .int vfa, .int vbr, .int vba, .int vsp, .int vhe, .int vtk, .int vva, .ref cu, .ref lt, .ref od, .ref th, .ref be, .ref ln, .int (nI S), .ref ma, .int (nI M), .ref ah, .ref bh, .ref ik, .ref la, .ref lg, .ref ce, .int vto])), (st, .inl (G 0, 196, .inl u51))]) hP hD [0, 1] [2, 3] rfl rfl (by decide +kernel) (by decide +kernel) hk1 hFc hP1 hD1
                have w50 : OKS u51 ∧ NO u44 u51 := w50
                generalize H1 = H at hP hS ⊢
                have okw50 : OKS u51 ∧ NO fst u51 := ⟨w50.1, (okw43 : OKS u44 ∧ NO fst u44).2.tr w50.2⟩
                refine lv_aload_n hx hb dX11_swap_92 rfl (lv_at hl 4 rfl) ?_
                refine va_get (D := (dC, dI)) (ci := 11) (v := .ref od) (C := RX11) (T := TX11) (N := 35) hx hb hg inG11 hown hK.1 hP 2 rfl rfl 21 (Nat.le_of_ble_eq_true rfl) (hg _ wt_899) (fun _ h9 => h9) rfl dX11_swap_93 ?_
                refine lv_iconst (v := 0) hx hb dX11_swap_96 rfl ?_
                refine va_lald hx hb hK.1 hP 0 1 rfl rfl (vp_in_iff.mpr ⟨by decide, by decide⟩) dX11_swap_97 ?_
                refine lv_cgl (y := u47 0) (by rfl) ?_
                refine lv_lload_n hx hb dX11_swap_98 rfl (lv_at hl 3 rfl) ?_
                refine W.lcmp hx hb dX11_swap_99 ?_
                have cut116_53 : ∀ (y52 : Int32) (H : Heap) (locs : List Loc), va_P (dC, dI) vwCl [(od, .inl (G 1, 10, .inr (.inl u47))), (th, .inl (G 1, 10, .inr (.inl u48))), (h0, .inr (11, [.ref st, .int (nI N), .int (nI B), .ref rp, .int vrs, .int vrb, .int vhs, .int vca, .int vxs, .int vxb, .ref tp, .int (nI T), .int vfa, .int vbr, .int vba, .int vsp, .int vhe, .int vtk, .int vva, .ref cu, .ref lt, .ref od, .ref th, .ref be, .ref ln, .int (nI S), .ref ma, .int (nI M), .ref ah, .ref bh, .ref ik, .ref la, .ref lg, .ref ce, .int vto])), (st, .inl (G 0, 196, .inl u51))] H → va_D A [(od, .inl (G 1, 10, .inr (.inl u47))), (th, .inl (G 1, 10, .inr (.inl u48))), (h0, .inr (11, [.ref st, .int (nI N), .int (nI B), .ref rp, .int vrs, .int vrb, .int vhs, .int vca, .int vxs, .int vxb, .ref tp, .int (nI T), .int vfa, .int vbr, .int vba, .int vsp, .int vhe, .int vtk, .int vva, .ref cu, .ref lt, .ref od, .ref th, .ref be, .ref ln, .int (nI S), .ref ma, .int (nI M), .ref ah, .ref bh, .ref ik, .ref la, .ref lg, .ref ce, .int vto])), (st, .inl (G 0, 196, .inl u51))] → va_S A s.heap H locs → ∀ (ls : Array Slot), lv_has ls 7 [(6, .int (nI j30)), (5, .int (nI j9)), (4, .int y31), (2, .long y32), (0, .ref h0), (1, .int what)] → W p l e (headSpec (Cond.code yX11_swap cX11_swap 7 (some .long) :: GT) ({ frames := 4, cells := 0, slots := 0, locals := 99 } : Room)).room s m ([.ref h0, .int what] : List Value).toArray below meth c H locs 0 0 (MQ below (va_Ql (fun (r : Int64) (u : (Nat → Int32) × (Nat → Int64) × (Nat → Int64)) => match u with | (ost, ood, oth) => (True) ∧ OKS ost ∧ NO fst ost) (fun (u : (Nat → Int32) × (Nat → Int64) × (Nat → Int64)) (t : State) => match u with | (ost, ood, oth) => va_P (dC, dI) vwCl [(h0, .inr (11, [.ref st, .int (nI N), .int (nI B), .ref rp, .int vrs, .int vrb, .int vhs, .int vca, .int vxs, .int vxb, .ref tp, .int (nI T), .int vfa, .int vbr, .int vba, .int vsp, .int vhe, .int vtk, .int vva, .ref cu, .ref lt, .ref od, .ref th, .ref be, .ref ln, .int (nI S), .ref ma, .int (nI M), .ref ah, .ref bh, .ref ik, .ref la, .ref lg, .ref ce, .int vto])), (st, .inl (G 0, 196, .inl ost)), (od, .inl (G 1, 10, .inr (.inl ood))), (th, .inl (G 1, 10, .inr (.inl oth)))] t.heap ∧ va_D A [(h0, .inr (11, [.ref st, .int (nI N), .int (nI B), .ref rp, .int vrs, .int vrb, .int vhs, .int vca, .int vxs, .int vxb, .ref tp, .int (nI T), .int vfa, .int vbr, .int vba, .int vsp, .int vhe, .int vtk, .int vva, .ref cu, .ref lt, .ref od, .ref th, .ref be, .ref ln, .int (nI S), .ref ma, .int (nI M), .ref ah, .ref bh, .ref ik, .ref la, .ref lg, .ref ce, .int vto])), (st, .inl (G 0, 196, .inl ost)), (od, .inl (G 1, 10, .inr (.inl ood))), (th, .inl (G 1, 10, .inr (.inl oth)))]) A) ([.ref h0, .int what] : List Value).toArray s 0 0 A) (F0 m 116 ls [.int y52]) := by
                  intro y52 H locs hP hD hS ls hl
                  refine lv_istore (lv' := [(4, .int y52), (6, .int (nI j30)), (5, .int (nI j9)), (2, .long y32), (0, .ref h0), (1, .int what)]) hx hb dX11_swap_116 hl (by decide) rfl (fun ls hl => ?_)
                  refine lv_aload_n hx hb dX11_swap_118 rfl (lv_at hl 4 rfl) ?_
                  refine va_get (D := (dC, dI)) (ci := 11) (v := .ref od) (C := RX11) (T := TX11) (N := 35) hx hb hg inG11 hown hK.1 hP 2 rfl rfl 21 (Nat.le_of_ble_eq_true rfl) (hg _ wt_899) (fun _ h9 => h9) rfl dX11_swap_119 ?_
                  refine lv_iconst (v := 0) hx hb dX11_swap_122 rfl ?_
                  refine va_lald hx hb hK.1 hP 0 1 rfl rfl (vp_in_iff.mpr ⟨by decide, by decide⟩) dX11_swap_123 ?_
                  refine lv_cgl (y := u47 0) (by rfl) ?_
                  refine lv_lload_n hx hb dX11_swap_124 rfl (lv_at hl 3 rfl) ?_
                  refine W.lcmp hx hb dX11_swap_125 ?_
                  have cut139_55 : ∀ (y54 : Int64) (H : Heap) (locs : List Loc), va_P (dC, dI) vwCl [(od, .inl (G 1, 10, .inr (.inl u47))), (th, .inl (G 1, 10, .inr (.inl u48))), (h0, .inr (11, [.ref st, .int (nI N), .int (nI B), .ref rp, .int vrs, .int vrb, .int vhs, .int vca, .int vxs, .int vxb, .ref tp, .int (nI T), .int vfa, .int vbr, .int vba, .int vsp, .int vhe, .int vtk, .int vva, .ref cu, .ref lt, .ref od, .ref th, .ref be, .ref ln, .int (nI S), .ref ma, .int (nI M), .ref ah, .ref bh, .ref ik, .ref la, .ref lg, .ref ce, .int vto])), (st, .inl (G 0, 196, .inl u51))] H → va_D A [(od, .inl (G 1, 10, .inr (.inl u47))), (th, .inl (G 1, 10, .inr (.inl u48))), (h0, .inr (11, [.ref st, .int (nI N), .int (nI B), .ref rp, .int vrs, .int vrb, .int vhs, .int vca, .int vxs, .int vxb, .ref tp, .int (nI T), .int vfa, .int vbr, .int vba, .int vsp, .int vhe, .int vtk, .int vva, .ref cu, .ref lt, .ref od, .ref th, .ref be, .ref ln, .int (nI S), .ref ma, .int (nI M), .ref ah, .ref bh, .ref ik, .ref la, .ref lg, .ref ce, .int vto])), (st, .inl (G 0, 196, .inl u51))] → va_S A s.heap H locs → ∀ (ls : Array Slot), lv_has ls 7 [(4, .int y52), (6, .int (nI j30)), (5, .int (nI j9)), (2, .long y32), (0, .ref h0), (1, .int what)] → W p l e (headSpec (Cond.code yX11_swap cX11_swap 7 (some .long) :: GT) ({ frames := 4, cells := 0, slots := 0, locals := 99 } : Room)).room s m ([.ref h0, .int what] : List Value).toArray below meth c H locs 0 0 (MQ below (va_Ql (fun (r : Int64) (u : (Nat → Int32) × (Nat → Int64) × (Nat → Int64)) => match u with | (ost, ood, oth) => (True) ∧ OKS ost ∧ NO fst ost) (fun (u : (Nat → Int32) × (Nat → Int64) × (Nat → Int64)) (t : State) => match u with | (ost, ood, oth) => va_P (dC, dI) vwCl [(h0, .inr (11, [.ref st, .int (nI N), .int (nI B), .ref rp, .int vrs, .int vrb, .int vhs, .int vca, .int vxs, .int vxb, .ref tp, .int (nI T), .int vfa, .int vbr, .int vba, .int vsp, .int vhe, .int vtk, .int vva, .ref cu, .ref lt, .ref od, .ref th, .ref be, .ref ln, .int (nI S), .ref ma, .int (nI M), .ref ah, .ref bh, .ref ik, .ref la, .ref lg, .ref ce, .int vto])), (st, .inl (G 0, 196, .inl ost)), (od, .inl (G 1, 10, .inr (.inl ood))), (th, .inl (G 1, 10, .inr (.inl oth)))] t.heap ∧ va_D A [(h0, .inr (11, [.ref st, .int (nI N), .int (nI B), .ref rp, .int vrs, .int vrb, .int vhs, .int vca, .int vxs, .int vxb, .ref tp, .int (nI T), .int vfa, .int vbr, .int vba, .int vsp, .int vhe, .int vtk, .int vva, .ref cu, .ref lt, .ref od, .ref th, .ref be, .ref ln, .int (nI S), .ref ma, .int (nI M), .ref ah, .ref bh, .ref ik, .ref la, .ref lg, .ref ce, .int vto])), (st, .inl (G 0, 196, .inl ost)), (od, .inl (G 1, 10, .inr (.inl ood))), (th, .inl (G 1, 10, .inr (.inl oth)))]) A) ([.ref h0, .int what] : List Value).toArray s 0 0 A) (F0 m 139 ls [.long y54]) := by
                    intro y54 H locs hP hD hS ls hl
                    refine lv_lstore_n (lv' := [(2, .long y54), (4, .int y52), (6, .int (nI j30)), (5, .int (nI j9)), (0, .ref h0), (1, .int what)]) hx hb dX11_swap_139 rfl hl (by decide) rfl (fun ls hl => ?_)
                    refine lv_iinc (v := nI (j30 + 1)) (lv' := [(6, .int (nI (j30 + 1))), (2, .long y54), (4, .int y52), (5, .int (nI j9)), (0, .ref h0), (1, .int what)]) hx hb dX11_swap_140 hl (k := 2) rfl (by rw [show Int32.ofInt 1 = nI 1 from by decide]; exact nI_add _ _) (by decide) rfl (fun ls hl => ?_)
                    refine lv_goto (tgt := 56) hx hb dX11_swap_143 rfl ?_
                    exact ih56_36 (j30 + 1) (by omega) (by omega) (by omega) y52 y54 u51 u47 u48 _ _ okw50 (hP.sub [2, 3, 0, 1] rfl) (hD.sub [2, 3, 0, 1] (by decide) rfl) hS ls (lv_sub hl [0, 3, 2, 1, 4, 5] rfl)
                  refine lv_if_ge (tgt := 138) hx hb dX11_swap_126 rfl (fun c56 => ?_) (fun c56 => ?_)
                  · skip
                    refine lv_lload_n hx hb dX11_swap_138 rfl (lv_at hl 3 rfl) ?_
                    exact cut139_55 y32 _ _ hP hD hS ls (lv_sub hl [0, 1, 2, 3, 4, 5] rfl)
                  · skip
                    refine lv_aload_n hx hb dX11_swap_129 rfl (lv_at hl 4 rfl) ?_
                    refine va_get (D := (dC, dI)) (ci := 11) (v := .ref od) (C := RX11) (T := TX11) (N := 35) hx hb hg inG11 hown hK.1 hP 2 rfl rfl 21 (Nat.le_of_ble_eq_true rfl) (hg _ wt_899) (fun _ h9 => h9) rfl dX11_swap_130 ?_
                    refine lv_iconst (v := 0) hx hb dX11_swap_133 rfl ?_
                    refine va_lald hx hb hK.1 hP 0 1 rfl rfl (vp_in_iff.mpr ⟨by decide, by decide⟩) dX11_swap_134 ?_
                    refine lv_cgl (y := u47 0) (by rfl) ?_
                    refine lv_goto (tgt := 139) hx hb dX11_swap_135 rfl ?_
                    exact cut139_55 (u47 0) _ _ hP hD hS ls (lv_sub hl [0, 1, 2, 3, 4, 5] rfl)
                refine lv_if_ge (tgt := 114) hx hb dX11_swap_100 rfl (fun c57 => ?_) (fun c57 => ?_)
                · skip
                  refine lv_iload hx hb dX11_swap_114 (lv_at hl 2 rfl) ?_
                  exact cut116_53 y31 _ _ hP hD hS ls (lv_sub hl [0, 1, 2, 3, 4, 5] rfl)
                · skip
                  refine lv_bipush (v := 10) hx hb dX11_swap_103 rfl ?_
                  refine lv_iload hx hb dX11_swap_105 (lv_at hl 1 rfl) ?_
                  refine lv_imul hx hb dX11_swap_107 ?_
                  refine lv_cg (y := nI (10 * j9)) (by rw [show (10 : Int32) = nI 10 from rfl]; exact pk_mul _ _) ?_
                  refine lv_iload hx hb dX11_swap_108 (lv_at hl 0 rfl) ?_
                  refine lv_iadd hx hb dX11_swap_110 ?_
                  refine lv_cg (y := nI ((10 * j9) + j30)) (by exact nI_add _ _) ?_
                  refine lv_goto (tgt := 116) hx hb dX11_swap_111 rfl ?_
                  exact cut116_53 (nI ((10 * j9) + j30)) _ _ hP hD hS ls (lv_sub hl [0, 1, 2, 3, 4, 5] rfl)
          exact loop56_36 (N + 1) (j9 + 1) (by omega) (by omega) (by omega) y10 y11 g12 g13 g14 _ _ hinv hP hD hS ls (lv_sub hl [0, 1, 2, 3, 4, 5] rfl)
    exact loop41_15 (N + 1) 0 (by omega) (by omega) (-4) (u7 0) fst u7 u8 _ _ ⟨hst, NO.rf⟩ hP hD hS ls (lv_sub hl [0, 1, 2, 3, 4] rfl)
  · skip
    have b58 := if10_n c3
    refine lv_ldc2 (v := (-1)) hx hb hown (hg _ wt_1118) dX11_swap_12 ?_
    have hpost : True := by
      trivial
    obtain ⟨hP9, hD9⟩ := va_sub2 (ws' := [(h0, .inr (11, [.ref st, .int (nI N), .int (nI B), .ref rp, .int vrs, .int vrb, .int vhs, .int vca, .int vxs, .int vxb, .ref tp, .int (nI T), .int vfa, .int vbr, .int vba, .int vsp, .int vhe, .int vtk, .int vva, .ref cu, .ref lt, .ref od, .ref th, .ref be, .ref ln, .int (nI S), .ref ma, .int (nI M), .ref ah, .ref bh, .ref ik, .ref la, .ref lg, .ref ce, .int vto])), (st, .inl (G 0, 196, .inl fst)), (od, .inl (G 1, 10, .inr (.inl fod))), (th, .inl (G 1, 10, .inr (.inl fth)))]) hP hD [0, 1, 2, 3] (by decide +kernel) rfl
    refine W.widen (k := 0) (n := 0) (Nat.le_of_ble_eq_true rfl) (Nat.le_of_ble_eq_true rfl) ?_
    exact W.lret (v := (-1)) hx hb hr (fun t ht hW => ⟨⟨(-1), (fst, fod, fth), rfl, ⟨hpost, ⟨hst, NO.rf⟩⟩, ⟨by rw [ht]; exact hP9, hD9⟩⟩, hS.F ht⟩) hS.2.2 dX11_swap_15

set_option maxHeartbeats 1000000 in
set_option maxRecDepth 100000 in
theorem c_X11_stepsW (l : Launch) (dC : Nat → ClassId) (dI : Nat → Nat → Nat) (G : Nat → ClassId) (sz : Nat) (h0 st N B rp tp T cu lt od th be ln S ma M ah bh ik la lg ce : Nat) (b what vrs vrb vhs vca vxs vxb vfa vbr vba vsp vhe vtk vva vto : Int32) (fst : Nat → Int32) (fln : Nat → Int32) (hN : N ≤ 10) (hB : B ≤ 6) (hT : T ≤ 320) (hS0 : S ≤ 8) (hM : M ≤ 6) (hst : OKS fst) (hln : OKL fln) : Met l yX11_steps (Cond.code yX11_steps cX11_steps 11 (some .int) :: GT) ({ frames := 2, cells := 0, slots := 0, locals := 50 } : Room) (PcW [.ref h0, .int b, .int what] dC dI G [(h0, .inr (11, [.ref st, .int (nI N), .int (nI B), .ref rp, .int vrs, .int vrb, .int vhs, .int vca, .int vxs, .int vxb, .ref tp, .int (nI T), .int vfa, .int vbr, .int vba, .int vsp, .int vhe, .int vtk, .int vva, .ref cu, .ref lt, .ref od, .ref th, .ref be, .ref ln, .int (nI S), .ref ma, .int (nI M), .ref ah, .ref bh, .ref ik, .ref la, .ref lg, .ref ce, .int vto])), (st, .inl (G 0, 196, .inl fst)), (ln, .inl (G 0, 32, .inl fln))] sz) (va_Qi (fun (r : Int32) (u : (Nat → Int32)) => match u with | ost => (True) ∧ OKS ost ∧ ∀ q9 : Nat, ost q9 = fst q9) (fun (u : (Nat → Int32)) (t : State) => match u with | ost => va_P (dC, dI) vwCl [(h0, .inr (11, [.ref st, .int (nI N), .int (nI B), .ref rp, .int vrs, .int vrb, .int vhs, .int vca, .int vxs, .int vxb, .ref tp, .int (nI T), .int vfa, .int vbr, .int vba, .int vsp, .int vhe, .int vtk, .int vva, .ref cu, .ref lt, .ref od, .ref th, .ref be, .ref ln, .int (nI S), .ref ma, .int (nI M), .ref ah, .ref bh, .ref ik, .ref la, .ref lg, .ref ce, .int vto])), (st, .inl (G 0, 196, .inl ost)), (ln, .inl (G 0, 32, .inl fln))] t.heap ∧ va_D (va_A [(h0, .inr (11, [.ref st, .int (nI N), .int (nI B), .ref rp, .int vrs, .int vrb, .int vhs, .int vca, .int vxs, .int vxb, .ref tp, .int (nI T), .int vfa, .int vbr, .int vba, .int vsp, .int vhe, .int vtk, .int vva, .ref cu, .ref lt, .ref od, .ref th, .ref be, .ref ln, .int (nI S), .ref ma, .int (nI M), .ref ah, .ref bh, .ref ik, .ref la, .ref lg, .ref ce, .int vto])), (st, .inl (G 0, 196, .inl fst)), (ln, .inl (G 0, 32, .inl fln))] sz) [(h0, .inr (11, [.ref st, .int (nI N), .int (nI B), .ref rp, .int vrs, .int vrb, .int vhs, .int vca, .int vxs, .int vxb, .ref tp, .int (nI T), .int vfa, .int vbr, .int vba, .int vsp, .int vhe, .int vtk, .int vva, .ref cu, .ref lt, .ref od, .ref th, .ref be, .ref ln, .int (nI S), .ref ma, .int (nI M), .ref ah, .ref bh, .ref ik, .ref la, .ref lg, .ref ce, .int vto])), (st, .inl (G 0, 196, .inl ost)), (ln, .inl (G 0, 32, .inl fln))]) (va_A [(h0, .inr (11, [.ref st, .int (nI N), .int (nI B), .ref rp, .int vrs, .int vrb, .int vhs, .int vca, .int vxs, .int vxb, .ref tp, .int (nI T), .int vfa, .int vbr, .int vba, .int vsp, .int vhe, .int vtk, .int vva, .ref cu, .ref lt, .ref od, .ref th, .ref be, .ref ln, .int (nI S), .ref ma, .int (nI M), .ref ah, .ref bh, .ref ik, .ref la, .ref lg, .ref ce, .int vto])), (st, .inl (G 0, 196, .inl fst)), (ln, .inl (G 0, 32, .inl fln))] sz)) 0 0 (va_A [(h0, .inr (11, [.ref st, .int (nI N), .int (nI B), .ref rp, .int vrs, .int vrb, .int vhs, .int vca, .int vxs, .int vxb, .ref tp, .int (nI T), .int vfa, .int vbr, .int vba, .int vsp, .int vhe, .int vtk, .int vva, .ref cu, .ref lt, .ref od, .ref th, .ref be, .ref ln, .int (nI S), .ref ma, .int (nI M), .ref ah, .ref bh, .ref ik, .ref la, .ref lg, .ref ce, .int vto])), (st, .inl (G 0, 196, .inl fst)), (ln, .inl (G 0, 32, .inl fln))] sz) := by
  have hB_ := hB
  have hM_ := hM
  have hT_ := hT
  have tn2042_ : nIT N := fun _ => nI_toInt (by omega)
  have tn2043_ : nIT B := fun _ => nI_toInt (by omega)
  have tn2044_ : nIT T := fun _ => nI_toInt (by omega)
  have tn2045_ : nIT S := fun _ => nI_toInt (by omega)
  have tn2046_ : nIT M := fun _ => nI_toInt (by omega)
  refine Met.ofW (cc := cX11_steps) (maxL := 11) (ret := (some .int)) (by decide) rfl ?_
  intro p e s m args below meth c s₁ Bd hml hv
  obtain ⟨rfl, hsz, hP, hK, hD0⟩ := hv
  have hx := Bd.exec
  have hb := Bd.bytes
  have hr := Bd.returns
  have hg : ∀ w ∈ GT, w.before ([.ref h0, .int b, .int what] : List Value).toArray s = true := fun w h => atoms_spec (ws := Cond.code yX11_steps cX11_steps 11 (some .int) :: GT) Bd.pre w (List.mem_cons_of_mem _ h)
  have hown : s.vm.findClass RX11 = some m.cls := findClass_of_methodNamed Bd.named
  have hlocks := Bd.notSynchronized
  subst hsz
  have hD := hD0.self (sz := s.heap.size)
  generalize hAe : va_A [(h0, .inr (11, [.ref st, .int (nI N), .int (nI B), .ref rp, .int vrs, .int vrb, .int vhs, .int vca, .int vxs, .int vxb, .ref tp, .int (nI T), .int vfa, .int vbr, .int vba, .int vsp, .int vhe, .int vtk, .int vva, .ref cu, .ref lt, .ref od, .ref th, .ref be, .ref ln, .int (nI S), .ref ma, .int (nI M), .ref ah, .ref bh, .ref ik, .ref la, .ref lg, .ref ce, .int vto])), (st, .inl (G 0, 196, .inl fst)), (ln, .inl (G 0, 32, .inl fln))] s.heap.size = A at hD ⊢
  have hA : ∀ q : Nat, s.heap.size ≤ q → A q := fun q h => by rw [← hAe]; exact Or.inr h
  have hS : va_S A s.heap s.heap [] := va_S.rf
  have hl := lv_entry ([.ref h0, .int b, .int what]) (n := 11) (Nat.le_of_ble_eq_true rfl)
  rw [lg_entry_eq]
  generalize (lg_sl ([.ref h0, .int b, .int what]) ++ List.replicate (11 - (lg_sl ([.ref h0, .int b, .int what])).length) Slot.unset).toArray = ls at hl ⊢
  have hl : lv_has ls 11 [(0, .ref h0), (1, .int b), (2, .int what)] := hl
  refine lv_aload_n hx hb dX11_steps_0 rfl (lv_at hl 0 rfl) ?_
  refine lv_iload_n hx hb dX11_steps_1 rfl (lv_at hl 1 rfl) ?_
  have hPc := hP.sub (ws' := [(h0, .inr (11, [.ref st, .int (nI N), .int (nI B), .ref rp, .int vrs, .int vrb, .int vhs, .int vca, .int vxs, .int vxb, .ref tp, .int (nI T), .int vfa, .int vbr, .int vba, .int vsp, .int vhe, .int vtk, .int vva, .ref cu, .ref lt, .ref od, .ref th, .ref be, .ref ln, .int (nI S), .ref ma, .int (nI M), .ref ah, .ref bh, .ref ik, .ref la, .ref lg, .ref ce, .int vto]))]) [0] rfl
  refine va_calli (va_runV (As := [.int b]) (rest := []) ⟨hx, hb, hml, hown, hg⟩ (c_X11_isBearer l dC dI G _ h0 st N B rp tp T cu lt od th be ln S ma M ah bh ik la lg ce b vrs vrb vhs vca vxs vxb vfa vbr vba vsp vhe vtk vva vto hN hB_ hT_ hS0 hM_) (kwV hg mfX11_isBearer wt_1061 ⟨Nat.le_of_ble_eq_true rfl, Nat.le_of_ble_eq_true rfl⟩) (preVR hK hPc (ci := 11) (r := (RX11, TX11, 35)) rfl rfl) rfl rfl hl.1 rfl (lv_room (Nat.le_of_ble_eq_true rfl)) dX11_steps_2 ⟨Nat.le_of_ble_eq_true rfl, Nat.le_of_ble_eq_true rfl⟩) hS (fun q h1 h2 => absurd h2 (Nat.not_le.mpr h1)) (fun q h => hA q (Nat.le_trans hS.1 h)) (fun r1 ur1 t H1 locs ht hvm w2 hB hz1 hk1 hS => ?_)
  have hP := keepR hP hk1
  obtain ⟨w2, w2x⟩ := w2
  try simp only [l_ii, show (0 : Int32).toInt = 0 from by decide] at w2
  try rw [show (nI (B)).toInt = ((B : Nat) : Int) from tn2043_ ()] at w2
  subst w2
  have cut20_3 : ∀ (H : Heap) (locs : List Loc), va_P (dC, dI) vwCl [(h0, .inr (11, [.ref st, .int (nI N), .int (nI B), .ref rp, .int vrs, .int vrb, .int vhs, .int vca, .int vxs, .int vxb, .ref tp, .int (nI T), .int vfa, .int vbr, .int vba, .int vsp, .int vhe, .int vtk, .int vva, .ref cu, .ref lt, .ref od, .ref th, .ref be, .ref ln, .int (nI S), .ref ma, .int (nI M), .ref ah, .ref bh, .ref ik, .ref la, .ref lg, .ref ce, .int vto])), (st, .inl (G 0, 196, .inl fst)), (ln, .inl (G 0, 32, .inl fln))] H → va_D A [(h0, .inr (11, [.ref st, .int (nI N), .int (nI B), .ref rp, .int vrs, .int vrb, .int vhs, .int vca, .int vxs, .int vxb, .ref tp, .int (nI T), .int vfa, .int vbr, .int vba, .int vsp, .int vhe, .int vtk, .int vva, .ref cu, .ref lt, .ref od, .ref th, .ref be, .ref ln, .int (nI S), .ref ma, .int (nI M), .ref ah, .ref bh, .ref ik, .ref la, .ref lg, .ref ce, .int vto])), (st, .inl (G 0, 196, .inl fst)), (ln, .inl (G 0, 32, .inl fln))] → va_S A s.heap H locs → ∀ (ls : Array Slot), lv_has ls 11 [(0, .ref h0), (1, .int b), (2, .int what)] → W p l e (headSpec (Cond.code yX11_steps cX11_steps 11 (some .int) :: GT) ({ frames := 2, cells := 0, slots := 0, locals := 50 } : Room)).room s m ([.ref h0, .int b, .int what] : List Value).toArray below meth c H locs 0 0 (MQ below (va_Qi (fun (r : Int32) (u : (Nat → Int32)) => match u with | ost => (True) ∧ OKS ost ∧ ∀ q9 : Nat, ost q9 = fst q9) (fun (u : (Nat → Int32)) (t : State) => match u with | ost => va_P (dC, dI) vwCl [(h0, .inr (11, [.ref st, .int (nI N), .int (nI B), .ref rp, .int vrs, .int vrb, .int vhs, .int vca, .int vxs, .int vxb, .ref tp, .int (nI T), .int vfa, .int vbr, .int vba, .int vsp, .int vhe, .int vtk, .int vva, .ref cu, .ref lt, .ref od, .ref th, .ref be, .ref ln, .int (nI S), .ref ma, .int (nI M), .ref ah, .ref bh, .ref ik, .ref la, .ref lg, .ref ce, .int vto])), (st, .inl (G 0, 196, .inl ost)), (ln, .inl (G 0, 32, .inl fln))] t.heap ∧ va_D A [(h0, .inr (11, [.ref st, .int (nI N), .int (nI B), .ref rp, .int vrs, .int vrb, .int vhs, .int vca, .int vxs, .int vxb, .ref tp, .int (nI T), .int vfa, .int vbr, .int vba, .int vsp, .int vhe, .int vtk, .int vva, .ref cu, .ref lt, .ref od, .ref th, .ref be, .ref ln, .int (nI S), .ref ma, .int (nI M), .ref ah, .ref bh, .ref ik, .ref la, .ref lg, .ref ce, .int vto])), (st, .inl (G 0, 196, .inl ost)), (ln, .inl (G 0, 32, .inl fln))]) A) ([.ref h0, .int b, .int what] : List Value).toArray s 0 0 A) (F0 m 20 ls []) := by
    intro  H locs hP hD hS ls hl
    refine lv_iconst (v := (-1)) hx hb dX11_steps_20 rfl ?_
    have hpost : True := by
      trivial
    obtain ⟨hP9, hD9⟩ := va_sub2 (ws' := [(h0, .inr (11, [.ref st, .int (nI N), .int (nI B), .ref rp, .int vrs, .int vrb, .int vhs, .int vca, .int vxs, .int vxb, .ref tp, .int (nI T), .int vfa, .int vbr, .int vba, .int vsp, .int vhe, .int vtk, .int vva, .ref cu, .ref lt, .ref od, .ref th, .ref be, .ref ln, .int (nI S), .ref ma, .int (nI M), .ref ah, .ref bh, .ref ik, .ref la, .ref lg, .ref ce, .int vto])), (st, .inl (G 0, 196, .inl fst)), (ln, .inl (G 0, 32, .inl fln))]) hP hD [0, 1, 2] (by decide +kernel) rfl
    refine W.widen (k := 0) (n := 0) (Nat.le_of_ble_eq_true rfl) (Nat.le_of_ble_eq_true rfl) ?_
    exact W.iret (v := (-1)) hx hb hr (fun t ht hW => ⟨⟨(-1), fst, rfl, ⟨hpost, ⟨hst, fun _ => rfl⟩⟩, ⟨by rw [ht]; exact hP9, hD9⟩⟩, hS.F ht⟩) hS.2.2 dX11_steps_21
  refine lv_if_eq (tgt := 20) hx hb dX11_steps_5 rfl (fun c4 => ?_) (fun c4 => ?_)
  · skip
    have b5 := if10_n c4
    exact cut20_3  _ _ hP hD hS ls (lv_sub hl [0, 1, 2] rfl)
  · skip
    have b6 := if10_p c4
    refine lv_iload_n hx hb dX11_steps_8 rfl (lv_at hl 2 rfl) ?_
    refine lv_i2l (v := what.toInt64) hx hb dX11_steps_9 rfl ?_
    refine lv_lconst (v := 0) hx hb dX11_steps_10 (by decide) ?_
    refine lv_ldc2 (v := 2) hx hb hown (hg _ wt_1056) dX11_steps_11 ?_
    have hPc := hP.sub (ws' := []) [] rfl
    refine va_calli (va_runS (As := [.long what.toInt64, .long 0, .long 2]) (rest := []) ⟨hx, hb, hml, hown, hg⟩ (c_X11_in l dC dI G _ what.toInt64 0 2) (kwS hg mfX11_in wt_992 ⟨Nat.le_of_ble_eq_true rfl, Nat.le_of_ble_eq_true rfl⟩) (preSR hK hPc) rfl rfl hl.1 rfl (lv_room (Nat.le_of_ble_eq_true rfl)) dX11_steps_14 ⟨Nat.le_of_ble_eq_true rfl, Nat.le_of_ble_eq_true rfl⟩) hS (fun q h1 h2 => absurd h2 (Nat.not_le.mpr h1)) (fun q h => hA q (Nat.le_trans hS.1 h)) (fun r7 ur7 t H1 locs ht hvm w8 hB hz1 hk1 hS => ?_)
    have hP := keepR hP hk1
    obtain ⟨w8, w8x⟩ := w8
    try simp only [l_ii, show (0 : Int64).toInt = 0 from by decide, show (2 : Int64).toInt = 2 from by decide] at w8
    subst w8
    refine lv_if_ne (tgt := 22) hx hb dX11_steps_17 rfl (fun c9 => ?_) (fun c9 => ?_)
    · skip
      have b10 := if10_p c9
      obtain ⟨bb, hbb, rfl⟩ : ∃ j : Nat, j < 6 ∧ b = nI j := by
        have t_b6 := b6
        have t_b10 := b10
        have t_n0 : (nI N).toInt = (N : Int) := tn2042_ ()
        have t_n1 : (nI B).toInt = (B : Int) := tn2043_ ()
        have t_n2 : (nI T).toInt = (T : Int) := tn2044_ ()
        have t_n3 : (nI S).toInt = (S : Int) := tn2045_ ()
        have t_n4 : (nI M).toInt = (M : Int) := tn2046_ ()
        exact i32_nat (by omega) (by omega)
      refine lv_bipush (v := 20) hx hb dX11_steps_22 rfl ?_
      refine lv_iconst (v := 3) hx hb dX11_steps_24 rfl ?_
      refine lv_iload_n hx hb dX11_steps_25 rfl (lv_at hl 1 rfl) ?_
      refine lv_imul hx hb dX11_steps_26 ?_
      refine lv_cg (y := nI (3 * bb)) (by rw [show (3 : Int32) = nI 3 from rfl]; exact pk_mul _ _) ?_
      refine lv_iadd hx hb dX11_steps_27 ?_
      refine lv_cg (y := nI (20 + (3 * bb))) (by rw [show (20 : Int32) = nI 20 from rfl]; exact nI_add _ _) ?_
      refine lv_iconst (v := 1) hx hb dX11_steps_28 rfl ?_
      refine lv_iadd hx hb dX11_steps_29 ?_
      refine lv_cg (y := nI ((20 + (3 * bb)) + 1)) (by rw [show (1 : Int32) = nI 1 from rfl]; exact nI_add _ _) ?_
      refine lv_istore_n (lv' := [(3, .int (nI ((20 + (3 * bb)) + 1))), (0, .ref h0), (1, .int (nI bb)), (2, .int what)]) hx hb dX11_steps_30 rfl hl (by decide) rfl (fun ls hl => ?_)
      refine lv_aload_n hx hb dX11_steps_31 rfl (lv_at hl 1 rfl) ?_
      refine va_get (D := (dC, dI)) (ci := 11) (v := .ref st) (C := RX11) (T := TX11) (N := 35) hx hb hg inG11 hown hK.1 hP 0 rfl rfl 0 (Nat.le_of_ble_eq_true rfl) (hg _ wt_878) (fun _ h9 => h9) rfl dX11_steps_32 ?_
      refine lv_iload_n hx hb dX11_steps_35 rfl (lv_at hl 0 rfl) ?_
      have tn2047_ : nIT bb := fun _ => nI_toInt (by first | omega | (have t_b6 := b6; have t_b10 := b10; have t_hbb := hbb; omega))
      refine va_iald hx hb hK.1 hP 1 0 rfl rfl (vp_in_nI (by first | omega | (have t_b6 := b6; have t_b10 := b10; have t_hbb := hbb; have tnb_ := nib6 tn2042_ tn2043_ tn2044_ tn2045_ tn2046_ tn2047_; omega)) (by decide)) dX11_steps_36 ?_
      refine lv_cg (y := fst ((20 + (3 * bb)) + 1)) (by rw [nI_clamp (by omega)]) ?_
      refine lv_istore (lv' := [(4, .int (fst ((20 + (3 * bb)) + 1))), (3, .int (nI ((20 + (3 * bb)) + 1))), (0, .ref h0), (1, .int (nI bb)), (2, .int what)]) hx hb dX11_steps_37 hl (by decide) rfl (fun ls hl => ?_)
      refine lv_iconst (v := 0) hx hb dX11_steps_39 rfl ?_
      refine lv_istore (lv' := [(5, .int 0), (4, .int (fst ((20 + (3 * bb)) + 1))), (3, .int (nI ((20 + (3 * bb)) + 1))), (0, .ref h0), (1, .int (nI bb)), (2, .int what)]) hx hb dX11_steps_40 hl (by decide) rfl (fun ls hl => ?_)
      refine lv_bipush (v := (-4)) hx hb dX11_steps_42 rfl ?_
      refine lv_istore (lv' := [(6, .int (-4)), (5, .int 0), (4, .int (fst ((20 + (3 * bb)) + 1))), (3, .int (nI ((20 + (3 * bb)) + 1))), (0, .ref h0), (1, .int (nI bb)), (2, .int what)]) hx hb dX11_steps_44 hl (by decide) rfl (fun ls hl => ?_)
      refine lv_bipush (v := (-4)) hx hb dX11_steps_46 rfl ?_
      refine lv_istore (lv' := [(7, .int (-4)), (6, .int (-4)), (5, .int 0), (4, .int (fst ((20 + (3 * bb)) + 1))), (3, .int (nI ((20 + (3 * bb)) + 1))), (0, .ref h0), (1, .int (nI bb)), (2, .int what)]) hx hb dX11_steps_48 hl (by decide) rfl (fun ls hl => ?_)
      refine lv_iconst (v := 0) hx hb dX11_steps_50 rfl ?_
      refine lv_istore (lv' := [(8, .int 0), (7, .int (-4)), (6, .int (-4)), (5, .int 0), (4, .int (fst ((20 + (3 * bb)) + 1))), (3, .int (nI ((20 + (3 * bb)) + 1))), (0, .ref h0), (1, .int (nI bb)), (2, .int what)]) hx hb dX11_steps_51 hl (by decide) rfl (fun ls hl => ?_)
      have loop53_16 : ∀ (nf j11 : Nat), 10 + 1 ≤ j11 + nf → j11 ≤ 10 → ∀ (y12 : Int32) (y13 : Int32) (y14 : Int32) (g15 : Nat → Int32) (H : Heap) (locs : List Loc), (OKS g15 ∧ ∀ q9 : Nat, ¬ q9 = (20 + 3 * bb + 1) → g15 q9 = fst q9) → va_P (dC, dI) vwCl [(h0, .inr (11, [.ref st, .int (nI N), .int (nI B), .ref rp, .int vrs, .int vrb, .int vhs, .int vca, .int vxs, .int vxb, .ref tp, .int (nI T), .int vfa, .int vbr, .int vba, .int vsp, .int vhe, .int vtk, .int vva, .ref cu, .ref lt, .ref od, .ref th, .ref be, .ref ln, .int (nI S), .ref ma, .int (nI M), .ref ah, .ref bh, .ref ik, .ref la, .ref lg, .ref ce, .int vto])), (st, .inl (G 0, 196, .inl g15)), (ln, .inl (G 0, 32, .inl fln))] H → va_D A [(h0, .inr (11, [.ref st, .int (nI N), .int (nI B), .ref rp, .int vrs, .int vrb, .int vhs, .int vca, .int vxs, .int vxb, .ref tp, .int (nI T), .int vfa, .int vbr, .int vba, .int vsp, .int vhe, .int vtk, .int vva, .ref cu, .ref lt, .ref od, .ref th, .ref be, .ref ln, .int (nI S), .ref ma, .int (nI M), .ref ah, .ref bh, .ref ik, .ref la, .ref lg, .ref ce, .int vto])), (st, .inl (G 0, 196, .inl g15)), (ln, .inl (G 0, 32, .inl fln))] → va_S A s.heap H locs → ∀ (ls : Array Slot), lv_has ls 11 [(8, .int (nI j11)), (7, .int y12), (6, .int y13), (5, .int y14), (4, .int (fst ((20 + (3 * bb)) + 1))), (3, .int (nI ((20 + (3 * bb)) + 1))), (0, .ref h0), (1, .int (nI bb)), (2, .int what)] → W p l e (headSpec (Cond.code yX11_steps cX11_steps 11 (some .int) :: GT) ({ frames := 2, cells := 0, slots := 0, locals := 50 } : Room)).room s m ([.ref h0, .int (nI bb), .int what] : List Value).toArray below meth c H locs 0 0 (MQ below (va_Qi (fun (r : Int32) (u : (Nat → Int32)) => match u with | ost => (True) ∧ OKS ost ∧ ∀ q9 : Nat, ost q9 = fst q9) (fun (u : (Nat → Int32)) (t : State) => match u with | ost => va_P (dC, dI) vwCl [(h0, .inr (11, [.ref st, .int (nI N), .int (nI B), .ref rp, .int vrs, .int vrb, .int vhs, .int vca, .int vxs, .int vxb, .ref tp, .int (nI T), .int vfa, .int vbr, .int vba, .int vsp, .int vhe, .int vtk, .int vva, .ref cu, .ref lt, .ref od, .ref th, .ref be, .ref ln, .int (nI S), .ref ma, .int (nI M), .ref ah, .ref bh, .ref ik, .ref la, .ref lg, .ref ce, .int vto])), (st, .inl (G 0, 196, .inl ost)), (ln, .inl (G 0, 32, .inl fln))] t.heap ∧ va_D A [(h0, .inr (11, [.ref st, .int (nI N), .int (nI B), .ref rp, .int vrs, .int vrb, .int vhs, .int vca, .int vxs, .int vxb, .ref tp, .int (nI T), .int vfa, .int vbr, .int vba, .int vsp, .int vhe, .int vtk, .int vva, .ref cu, .ref lt, .ref od, .ref th, .ref be, .ref ln, .int (nI S), .ref ma, .int (nI M), .ref ah, .ref bh, .ref ik, .ref la, .ref lg, .ref ce, .int vto])), (st, .inl (G 0, 196, .inl ost)), (ln, .inl (G 0, 32, .inl fln))]) A) ([.ref h0, .int (nI bb), .int what] : List Value).toArray s 0 0 A) (F0 m 53 ls []) := by
        intro nf
        induction nf with
        | zero => intro j11 h1 h2; exact absurd h1 (by omega)
        | succ nf ih53_16 =>
          intro j11 hn17 hj18 y12 y13 y14 g15 H locs hinv hP hD hS ls hl
          refine lv_iload hx hb dX11_steps_53 (lv_at hl 0 rfl) ?_
          refine lv_bipush (v := 10) hx hb dX11_steps_55 rfl ?_
          refine lv_icmp_ge (tgt := 205) hx hb dX11_steps_57 rfl (fun c19 => ?_) (fun c19 => ?_)
          · skip
            have tn2048_ : nIT j11 := fun _ => nI_toInt (by first | omega | (have t := leI c19; omega))
            have n20 : 10 ≤ j11 := by have t := leI c19; rw [show (nI (j11)).toInt = ((j11 : Nat) : Int) from tn2048_ ()] at t; have : (10 : Int32).toInt = 10 := qI_10; omega
            refine lv_aload_n hx hb dX11_steps_205 rfl (lv_at hl 6 rfl) ?_
            refine va_get (D := (dC, dI)) (ci := 11) (v := .ref st) (C := RX11) (T := TX11) (N := 35) hx hb hg inG11 hown hK.1 hP 0 rfl rfl 0 (Nat.le_of_ble_eq_true rfl) (hg _ wt_878) (fun _ h9 => h9) rfl dX11_steps_206 ?_
            refine lv_iload_n hx hb dX11_steps_209 rfl (lv_at hl 5 rfl) ?_
            refine lv_iload hx hb dX11_steps_210 (lv_at hl 4 rfl) ?_
            refine va_iast hx hb hK.1 hP hD hS 1 0 rfl rfl (vp_in_nI (by first | omega | (have t_b6 := b6; have t_b10 := b10; have t_hbb := hbb; have t_hj18 := hj18; have t_n20 := n20; have tnb_ := nib7 tn2042_ tn2043_ tn2044_ tn2045_ tn2046_ tn2047_ tn2048_; omega)) (by decide)) dX11_steps_212 (fun H locs hP hD hS => ?_)
            rw [nI_clamp (by omega)] at hP hD
            refine lv_iload_n hx hb dX11_steps_213 rfl (lv_at hl 8 rfl) ?_
            have cut234_22 : ∀ (y21 : Int32) (H : Heap) (locs : List Loc), va_P (dC, dI) vwCl [(h0, .inr (11, [.ref st, .int (nI N), .int (nI B), .ref rp, .int vrs, .int vrb, .int vhs, .int vca, .int vxs, .int vxb, .ref tp, .int (nI T), .int vfa, .int vbr, .int vba, .int vsp, .int vhe, .int vtk, .int vva, .ref cu, .ref lt, .ref od, .ref th, .ref be, .ref ln, .int (nI S), .ref ma, .int (nI M), .ref ah, .ref bh, .ref ik, .ref la, .ref lg, .ref ce, .int vto])), (st, .inl (G 0, 196, .inl (upd g15 ((20 + (3 * bb)) + 1) (fst ((20 + (3 * bb)) + 1))))), (ln, .inl (G 0, 32, .inl fln))] H → va_D A [(h0, .inr (11, [.ref st, .int (nI N), .int (nI B), .ref rp, .int vrs, .int vrb, .int vhs, .int vca, .int vxs, .int vxb, .ref tp, .int (nI T), .int vfa, .int vbr, .int vba, .int vsp, .int vhe, .int vtk, .int vva, .ref cu, .ref lt, .ref od, .ref th, .ref be, .ref ln, .int (nI S), .ref ma, .int (nI M), .ref ah, .ref bh, .ref ik, .ref la, .ref lg, .ref ce, .int vto])), (st, .inl (G 0, 196, .inl (upd g15 ((20 + (3 * bb)) + 1) (fst ((20 + (3 * bb)) + 1))))), (ln, .inl (G 0, 32, .inl fln))] → va_S A s.heap H locs → ∀ (ls : Array Slot), lv_has ls 11 [(8, .int (nI j11)), (7, .int y12), (6, .int y13), (5, .int y14), (4, .int (fst ((20 + (3 * bb)) + 1))), (3, .int (nI ((20 + (3 * bb)) + 1))), (0, .ref h0), (1, .int (nI bb)), (2, .int what)] → W p l e (headSpec (Cond.code yX11_steps cX11_steps 11 (some .int) :: GT) ({ frames := 2, cells := 0, slots := 0, locals := 50 } : Room)).room s m ([.ref h0, .int (nI bb), .int what] : List Value).toArray below meth c H locs 0 0 (MQ below (va_Qi (fun (r : Int32) (u : (Nat → Int32)) => match u with | ost => (True) ∧ OKS ost ∧ ∀ q9 : Nat, ost q9 = fst q9) (fun (u : (Nat → Int32)) (t : State) => match u with | ost => va_P (dC, dI) vwCl [(h0, .inr (11, [.ref st, .int (nI N), .int (nI B), .ref rp, .int vrs, .int vrb, .int vhs, .int vca, .int vxs, .int vxb, .ref tp, .int (nI T), .int vfa, .int vbr, .int vba, .int vsp, .int vhe, .int vtk, .int vva, .ref cu, .ref lt, .ref od, .ref th, .ref be, .ref ln, .int (nI S), .ref ma, .int (nI M), .ref ah, .ref bh, .ref ik, .ref la, .ref lg, .ref ce, .int vto])), (st, .inl (G 0, 196, .inl ost)), (ln, .inl (G 0, 32, .inl fln))] t.heap ∧ va_D A [(h0, .inr (11, [.ref st, .int (nI N), .int (nI B), .ref rp, .int vrs, .int vrb, .int vhs, .int vca, .int vxs, .int vxb, .ref tp, .int (nI T), .int vfa, .int vbr, .int vba, .int vsp, .int vhe, .int vtk, .int vva, .ref cu, .ref lt, .ref od, .ref th, .ref be, .ref ln, .int (nI S), .ref ma, .int (nI M), .ref ah, .ref bh, .ref ik, .ref la, .ref lg, .ref ce, .int vto])), (st, .inl (G 0, 196, .inl ost)), (ln, .inl (G 0, 32, .inl fln))]) A) ([.ref h0, .int (nI bb), .int what] : List Value).toArray s 0 0 A) (F0 m 234 ls [.int y21]) := by
              intro y21 H locs hP hD hS ls hl
              have hpost : True := by
                trivial
              obtain ⟨hP9, hD9⟩ := va_sub2 (ws' := [(h0, .inr (11, [.ref st, .int (nI N), .int (nI B), .ref rp, .int vrs, .int vrb, .int vhs, .int vca, .int vxs, .int vxb, .ref tp, .int (nI T), .int vfa, .int vbr, .int vba, .int vsp, .int vhe, .int vtk, .int vva, .ref cu, .ref lt, .ref od, .ref th, .ref be, .ref ln, .int (nI S), .ref ma, .int (nI M), .ref ah, .ref bh, .ref ik, .ref la, .ref lg, .ref ce, .int vto])), (st, .inl (G 0, 196, .inl (upd g15 ((20 + (3 * bb)) + 1) (fst ((20 + (3 * bb)) + 1))))), (ln, .inl (G 0, 32, .inl fln))]) hP hD [0, 1, 2] (by decide +kernel) rfl
              refine W.widen (k := 0) (n := 0) (Nat.le_of_ble_eq_true rfl) (Nat.le_of_ble_eq_true rfl) ?_
              exact W.iret (v := y21) hx hb hr (fun t ht hW => ⟨⟨y21, (upd g15 ((20 + (3 * bb)) + 1) (fst ((20 + (3 * bb)) + 1))), rfl, ⟨hpost, ⟨OKS.upd hinv.1 (hst _ (by omega)), fun q9 => by by_cases e9 : q9 = (20 + 3 * bb + 1); (rw [e9]; exact if_pos rfl); exact (if_neg e9).trans (hinv.2 q9 e9)⟩⟩, ⟨by rw [ht]; exact hP9, hD9⟩⟩, hS.F ht⟩) hS.2.2 dX11_steps_234
            refine lv_if_ne (tgt := 222) hx hb dX11_steps_214 rfl (fun c23 => ?_) (fun c23 => ?_)
            · skip
              refine lv_iload_n hx hb dX11_steps_222 rfl (lv_at hl 8 rfl) ?_
              refine lv_iconst (v := 1) hx hb dX11_steps_223 rfl ?_
              refine lv_icmp_ne (tgt := 232) hx hb dX11_steps_224 rfl (fun c24 => ?_) (fun c24 => ?_)
              · skip
                refine lv_iload hx hb dX11_steps_232 (lv_at hl 1 rfl) ?_
                exact cut234_22 y12 _ _ hP hD hS ls (lv_sub hl [0, 1, 2, 3, 4, 5, 6, 7, 8] rfl)
              · skip
                refine lv_iload hx hb dX11_steps_227 (lv_at hl 2 rfl) ?_
                refine lv_goto (tgt := 234) hx hb dX11_steps_229 rfl ?_
                exact cut234_22 y13 _ _ hP hD hS ls (lv_sub hl [0, 1, 2, 3, 4, 5, 6, 7, 8] rfl)
            · skip
              refine lv_iload hx hb dX11_steps_217 (lv_at hl 3 rfl) ?_
              refine lv_goto (tgt := 234) hx hb dX11_steps_219 rfl ?_
              exact cut234_22 y14 _ _ hP hD hS ls (lv_sub hl [0, 1, 2, 3, 4, 5, 6, 7, 8] rfl)
          · skip
            have tn2049_ : nIT j11 := fun _ => nI_toInt (by first | omega | (have t := nleI c19; omega))
            have n25 : j11 < 10 := by have t := nleI c19; rw [show (nI (j11)).toInt = ((j11 : Nat) : Int) from tn2049_ ()] at t; have : (10 : Int32).toInt = 10 := qI_10; omega
            refine lv_aload_n hx hb dX11_steps_60 rfl (lv_at hl 6 rfl) ?_
            refine va_get (D := (dC, dI)) (ci := 11) (v := .ref st) (C := RX11) (T := TX11) (N := 35) hx hb hg inG11 hown hK.1 hP 0 rfl rfl 0 (Nat.le_of_ble_eq_true rfl) (hg _ wt_878) (fun _ h9 => h9) rfl dX11_steps_61 ?_
            refine lv_iload_n hx hb dX11_steps_64 rfl (lv_at hl 5 rfl) ?_
            refine lv_iload hx hb dX11_steps_65 (lv_at hl 0 rfl) ?_
            refine va_iast hx hb hK.1 hP hD hS 1 0 rfl rfl (vp_in_nI (by first | omega | (have t_b6 := b6; have t_b10 := b10; have t_hbb := hbb; have t_hj18 := hj18; have t_n25 := n25; have tnb_ := nib7 tn2042_ tn2043_ tn2044_ tn2045_ tn2046_ tn2047_ tn2049_; omega)) (by decide)) dX11_steps_67 (fun H locs hP hD hS => ?_)
            rw [nI_clamp (by omega)] at hP hD
            refine lv_iconst (v := 1) hx hb dX11_steps_68 rfl ?_
            refine lv_istore (lv' := [(9, .int 1), (8, .int (nI j11)), (7, .int y12), (6, .int y13), (5, .int y14), (4, .int (fst ((20 + (3 * bb)) + 1))), (3, .int (nI ((20 + (3 * bb)) + 1))), (0, .ref h0), (1, .int (nI bb)), (2, .int what)]) hx hb dX11_steps_69 hl (by decide) rfl (fun ls hl => ?_)
            refine lv_iconst (v := 0) hx hb dX11_steps_71 rfl ?_
            refine lv_istore (lv' := [(10, .int 0), (9, .int 1), (8, .int (nI j11)), (7, .int y12), (6, .int y13), (5, .int y14), (4, .int (fst ((20 + (3 * bb)) + 1))), (3, .int (nI ((20 + (3 * bb)) + 1))), (0, .ref h0), (1, .int (nI bb)), (2, .int what)]) hx hb dX11_steps_72 hl (by decide) rfl (fun ls hl => ?_)
            have loop74_28 : ∀ (nf j26 : Nat), S + 1 ≤ j26 + nf → j26 ≤ S → ∀ (y27 : Int32) (H : Heap) (locs : List Loc), va_P (dC, dI) vwCl [(h0, .inr (11, [.ref st, .int (nI N), .int (nI B), .ref rp, .int vrs, .int vrb, .int vhs, .int vca, .int vxs, .int vxb, .ref tp, .int (nI T), .int vfa, .int vbr, .int vba, .int vsp, .int vhe, .int vtk, .int vva, .ref cu, .ref lt, .ref od, .ref th, .ref be, .ref ln, .int (nI S), .ref ma, .int (nI M), .ref ah, .ref bh, .ref ik, .ref la, .ref lg, .ref ce, .int vto])), (st, .inl (G 0, 196, .inl (upd g15 ((20 + (3 * bb)) + 1) (nI j11)))), (ln, .inl (G 0, 32, .inl fln))] H → va_D A [(h0, .inr (11, [.ref st, .int (nI N), .int (nI B), .ref rp, .int vrs, .int vrb, .int vhs, .int vca, .int vxs, .int vxb, .ref tp, .int (nI T), .int vfa, .int vbr, .int vba, .int vsp, .int vhe, .int vtk, .int vva, .ref cu, .ref lt, .ref od, .ref th, .ref be, .ref ln, .int (nI S), .ref ma, .int (nI M), .ref ah, .ref bh, .ref ik, .ref la, .ref lg, .ref ce, .int vto])), (st, .inl (G 0, 196, .inl (upd g15 ((20 + (3 * bb)) + 1) (nI j11)))), (ln, .inl (G 0, 32, .inl fln))] → va_S A s.heap H locs → ∀ (ls : Array Slot), lv_has ls 11 [(10, .int (nI j26)), (9, .int y27), (8, .int (nI j11)), (7, .int y12), (6, .int y13), (5, .int y14), (4, .int (fst ((20 + (3 * bb)) + 1))), (3, .int (nI ((20 + (3 * bb)) + 1))), (0, .ref h0), (1, .int (nI bb)), (2, .int what)] → W p l e (headSpec (Cond.code yX11_steps cX11_steps 11 (some .int) :: GT) ({ frames := 2, cells := 0, slots := 0, locals := 50 } : Room)).room s m ([.ref h0, .int (nI bb), .int what] : List Value).toArray below meth c H locs 0 0 (MQ below (va_Qi (fun (r : Int32) (u : (Nat → Int32)) => match u with | ost => (True) ∧ OKS ost ∧ ∀ q9 : Nat, ost q9 = fst q9) (fun (u : (Nat → Int32)) (t : State) => match u with | ost => va_P (dC, dI) vwCl [(h0, .inr (11, [.ref st, .int (nI N), .int (nI B), .ref rp, .int vrs, .int vrb, .int vhs, .int vca, .int vxs, .int vxb, .ref tp, .int (nI T), .int vfa, .int vbr, .int vba, .int vsp, .int vhe, .int vtk, .int vva, .ref cu, .ref lt, .ref od, .ref th, .ref be, .ref ln, .int (nI S), .ref ma, .int (nI M), .ref ah, .ref bh, .ref ik, .ref la, .ref lg, .ref ce, .int vto])), (st, .inl (G 0, 196, .inl ost)), (ln, .inl (G 0, 32, .inl fln))] t.heap ∧ va_D A [(h0, .inr (11, [.ref st, .int (nI N), .int (nI B), .ref rp, .int vrs, .int vrb, .int vhs, .int vca, .int vxs, .int vxb, .ref tp, .int (nI T), .int vfa, .int vbr, .int vba, .int vsp, .int vhe, .int vtk, .int vva, .ref cu, .ref lt, .ref od, .ref th, .ref be, .ref ln, .int (nI S), .ref ma, .int (nI M), .ref ah, .ref bh, .ref ik, .ref la, .ref lg, .ref ce, .int vto])), (st, .inl (G 0, 196, .inl ost)), (ln, .inl (G 0, 32, .inl fln))]) A) ([.ref h0, .int (nI bb), .int what] : List Value).toArray s 0 0 A) (F0 m 74 ls []) := by
              intro nf
              induction nf with
              | zero => intro j26 h1 h2; exact absurd h1 (by omega)
              | succ nf ih74_28 =>
                intro j26 hn29 hj30 y27 H locs hP hD hS ls hl
                refine lv_iload hx hb dX11_steps_74 (lv_at hl 0 rfl) ?_
                refine lv_aload_n hx hb dX11_steps_76 rfl (lv_at hl 8 rfl) ?_
                refine va_get (D := (dC, dI)) (ci := 11) (v := .int (nI S)) (C := RX11) (T := TX11) (N := 35) hx hb hg inG11 hown hK.1 hP 0 rfl rfl 25 (Nat.le_of_ble_eq_true rfl) (hg _ wt_903) (fun _ h9 => h9) rfl dX11_steps_77 ?_
                refine lv_icmp_ge (tgt := 151) hx hb dX11_steps_80 rfl (fun c31 => ?_) (fun c31 => ?_)
                · skip
                  have tn2050_ : nIT j26 := fun _ => nI_toInt (by first | omega | (have t := leI c31; omega))
                  have n32 : S ≤ j26 := by have t := leI c31; rw [show (nI (j26)).toInt = ((j26 : Nat) : Int) from tn2050_ ()] at t; rw [show (nI (S)).toInt = ((S : Nat) : Int) from tn2045_ ()] at t; omega
                  refine lv_iload hx hb dX11_steps_151 (lv_at hl 1 rfl) ?_
                  have cut168_34 : ∀ (y33 : Int32) (H : Heap) (locs : List Loc), va_P (dC, dI) vwCl [(h0, .inr (11, [.ref st, .int (nI N), .int (nI B), .ref rp, .int vrs, .int vrb, .int vhs, .int vca, .int vxs, .int vxb, .ref tp, .int (nI T), .int vfa, .int vbr, .int vba, .int vsp, .int vhe, .int vtk, .int vva, .ref cu, .ref lt, .ref od, .ref th, .ref be, .ref ln, .int (nI S), .ref ma, .int (nI M), .ref ah, .ref bh, .ref ik, .ref la, .ref lg, .ref ce, .int vto])), (st, .inl (G 0, 196, .inl (upd g15 ((20 + (3 * bb)) + 1) (nI j11)))), (ln, .inl (G 0, 32, .inl fln))] H → va_D A [(h0, .inr (11, [.ref st, .int (nI N), .int (nI B), .ref rp, .int vrs, .int vrb, .int vhs, .int vca, .int vxs, .int vxb, .ref tp, .int (nI T), .int vfa, .int vbr, .int vba, .int vsp, .int vhe, .int vtk, .int vva, .ref cu, .ref lt, .ref od, .ref th, .ref be, .ref ln, .int (nI S), .ref ma, .int (nI M), .ref ah, .ref bh, .ref ik, .ref la, .ref lg, .ref ce, .int vto])), (st, .inl (G 0, 196, .inl (upd g15 ((20 + (3 * bb)) + 1) (nI j11)))), (ln, .inl (G 0, 32, .inl fln))] → va_S A s.heap H locs → ∀ (ls : Array Slot), lv_has ls 11 [(10, .int (nI j26)), (9, .int y27), (8, .int (nI j11)), (7, .int y12), (6, .int y13), (5, .int y14), (4, .int (fst ((20 + (3 * bb)) + 1))), (3, .int (nI ((20 + (3 * bb)) + 1))), (0, .ref h0), (1, .int (nI bb)), (2, .int what)] → W p l e (headSpec (Cond.code yX11_steps cX11_steps 11 (some .int) :: GT) ({ frames := 2, cells := 0, slots := 0, locals := 50 } : Room)).room s m ([.ref h0, .int (nI bb), .int what] : List Value).toArray below meth c H locs 0 0 (MQ below (va_Qi (fun (r : Int32) (u : (Nat → Int32)) => match u with | ost => (True) ∧ OKS ost ∧ ∀ q9 : Nat, ost q9 = fst q9) (fun (u : (Nat → Int32)) (t : State) => match u with | ost => va_P (dC, dI) vwCl [(h0, .inr (11, [.ref st, .int (nI N), .int (nI B), .ref rp, .int vrs, .int vrb, .int vhs, .int vca, .int vxs, .int vxb, .ref tp, .int (nI T), .int vfa, .int vbr, .int vba, .int vsp, .int vhe, .int vtk, .int vva, .ref cu, .ref lt, .ref od, .ref th, .ref be, .ref ln, .int (nI S), .ref ma, .int (nI M), .ref ah, .ref bh, .ref ik, .ref la, .ref lg, .ref ce, .int vto])), (st, .inl (G 0, 196, .inl ost)), (ln, .inl (G 0, 32, .inl fln))] t.heap ∧ va_D A [(h0, .inr (11, [.ref st, .int (nI N), .int (nI B), .ref rp, .int vrs, .int vrb, .int vhs, .int vca, .int vxs, .int vxb, .ref tp, .int (nI T), .int vfa, .int vbr, .int vba, .int vsp, .int vhe, .int vtk, .int vva, .ref cu, .ref lt, .ref od, .ref th, .ref be, .ref ln, .int (nI S), .ref ma, .int (nI M), .ref ah, .ref bh, .ref ik, .ref la, .ref lg, .ref ce, .int vto])), (st, .inl (G 0, 196, .inl ost)), (ln, .inl (G 0, 32, .inl fln))]) A) ([.ref h0, .int (nI bb), .int what] : List Value).toArray s 0 0 A) (F0 m 168 ls [.int y33]) := by
                    intro y33 H locs hP hD hS ls hl
                    refine lv_istore (lv' := [(6, .int y33), (10, .int (nI j26)), (9, .int y27), (8, .int (nI j11)), (7, .int y12), (5, .int y14), (4, .int (fst ((20 + (3 * bb)) + 1))), (3, .int (nI ((20 + (3 * bb)) + 1))), (0, .ref h0), (1, .int (nI bb)), (2, .int what)]) hx hb dX11_steps_168 hl (by decide) rfl (fun ls hl => ?_)
                    refine lv_iload hx hb dX11_steps_170 (lv_at hl 2 rfl) ?_
                    have cut182_36 : ∀ (y35 : Int32) (H : Heap) (locs : List Loc), va_P (dC, dI) vwCl [(h0, .inr (11, [.ref st, .int (nI N), .int (nI B), .ref rp, .int vrs, .int vrb, .int vhs, .int vca, .int vxs, .int vxb, .ref tp, .int (nI T), .int vfa, .int vbr, .int vba, .int vsp, .int vhe, .int vtk, .int vva, .ref cu, .ref lt, .ref od, .ref th, .ref be, .ref ln, .int (nI S), .ref ma, .int (nI M), .ref ah, .ref bh, .ref ik, .ref la, .ref lg, .ref ce, .int vto])), (st, .inl (G 0, 196, .inl (upd g15 ((20 + (3 * bb)) + 1) (nI j11)))), (ln, .inl (G 0, 32, .inl fln))] H → va_D A [(h0, .inr (11, [.ref st, .int (nI N), .int (nI B), .ref rp, .int vrs, .int vrb, .int vhs, .int vca, .int vxs, .int vxb, .ref tp, .int (nI T), .int vfa, .int vbr, .int vba, .int vsp, .int vhe, .int vtk, .int vva, .ref cu, .ref lt, .ref od, .ref th, .ref be, .ref ln, .int (nI S), .ref ma, .int (nI M), .ref ah, .ref bh, .ref ik, .ref la, .ref lg, .ref ce, .int vto])), (st, .inl (G 0, 196, .inl (upd g15 ((20 + (3 * bb)) + 1) (nI j11)))), (ln, .inl (G 0, 32, .inl fln))] → va_S A s.heap H locs → ∀ (ls : Array Slot), lv_has ls 11 [(6, .int y33), (10, .int (nI j26)), (9, .int y27), (8, .int (nI j11)), (7, .int y12), (5, .int y14), (4, .int (fst ((20 + (3 * bb)) + 1))), (3, .int (nI ((20 + (3 * bb)) + 1))), (0, .ref h0), (1, .int (nI bb)), (2, .int what)] → W p l e (headSpec (Cond.code yX11_steps cX11_steps 11 (some .int) :: GT) ({ frames := 2, cells := 0, slots := 0, locals := 50 } : Room)).room s m ([.ref h0, .int (nI bb), .int what] : List Value).toArray below meth c H locs 0 0 (MQ below (va_Qi (fun (r : Int32) (u : (Nat → Int32)) => match u with | ost => (True) ∧ OKS ost ∧ ∀ q9 : Nat, ost q9 = fst q9) (fun (u : (Nat → Int32)) (t : State) => match u with | ost => va_P (dC, dI) vwCl [(h0, .inr (11, [.ref st, .int (nI N), .int (nI B), .ref rp, .int vrs, .int vrb, .int vhs, .int vca, .int vxs, .int vxb, .ref tp, .int (nI T), .int vfa, .int vbr, .int vba, .int vsp, .int vhe, .int vtk, .int vva, .ref cu, .ref lt, .ref od, .ref th, .ref be, .ref ln, .int (nI S), .ref ma, .int (nI M), .ref ah, .ref bh, .ref ik, .ref la, .ref lg, .ref ce, .int vto])), (st, .inl (G 0, 196, .inl ost)), (ln, .inl (G 0, 32, .inl fln))] t.heap ∧ va_D A [(h0, .inr (11, [.ref st, .int (nI N), .int (nI B), .ref rp, .int vrs, .int vrb, .int vhs, .int vca, .int vxs, .int vxb, .ref tp, .int (nI T), .int vfa, .int vbr, .int vba, .int vsp, .int vhe, .int vtk, .int vva, .ref cu, .ref lt, .ref od, .ref th, .ref be, .ref ln, .int (nI S), .ref ma, .int (nI M), .ref ah, .ref bh, .ref ik, .ref la, .ref lg, .ref ce, .int vto])), (st, .inl (G 0, 196, .inl ost)), (ln, .inl (G 0, 32, .inl fln))]) A) ([.ref h0, .int (nI bb), .int what] : List Value).toArray s 0 0 A) (F0 m 182 ls [.int y35]) := by
                      intro y35 H locs hP hD hS ls hl
                      refine lv_istore (lv' := [(7, .int y35), (6, .int y33), (10, .int (nI j26)), (9, .int y27), (8, .int (nI j11)), (5, .int y14), (4, .int (fst ((20 + (3 * bb)) + 1))), (3, .int (nI ((20 + (3 * bb)) + 1))), (0, .ref h0), (1, .int (nI bb)), (2, .int what)]) hx hb dX11_steps_182 hl (by decide) rfl (fun ls hl => ?_)
                      refine lv_iload hx hb dX11_steps_184 (lv_at hl 5 rfl) ?_
                      refine lv_iload hx hb dX11_steps_186 (lv_at hl 3 rfl) ?_
                      have cut196_39 : ∀ (k38 : Nat) (H : Heap) (locs : List Loc), k38 ≤ 1 → va_P (dC, dI) vwCl [(h0, .inr (11, [.ref st, .int (nI N), .int (nI B), .ref rp, .int vrs, .int vrb, .int vhs, .int vca, .int vxs, .int vxb, .ref tp, .int (nI T), .int vfa, .int vbr, .int vba, .int vsp, .int vhe, .int vtk, .int vva, .ref cu, .ref lt, .ref od, .ref th, .ref be, .ref ln, .int (nI S), .ref ma, .int (nI M), .ref ah, .ref bh, .ref ik, .ref la, .ref lg, .ref ce, .int vto])), (st, .inl (G 0, 196, .inl (upd g15 ((20 + (3 * bb)) + 1) (nI j11)))), (ln, .inl (G 0, 32, .inl fln))] H → va_D A [(h0, .inr (11, [.ref st, .int (nI N), .int (nI B), .ref rp, .int vrs, .int vrb, .int vhs, .int vca, .int vxs, .int vxb, .ref tp, .int (nI T), .int vfa, .int vbr, .int vba, .int vsp, .int vhe, .int vtk, .int vva, .ref cu, .ref lt, .ref od, .ref th, .ref be, .ref ln, .int (nI S), .ref ma, .int (nI M), .ref ah, .ref bh, .ref ik, .ref la, .ref lg, .ref ce, .int vto])), (st, .inl (G 0, 196, .inl (upd g15 ((20 + (3 * bb)) + 1) (nI j11)))), (ln, .inl (G 0, 32, .inl fln))] → va_S A s.heap H locs → ∀ (ls : Array Slot), lv_has ls 11 [(7, .int y35), (6, .int y33), (10, .int (nI j26)), (9, .int y27), (8, .int (nI j11)), (5, .int y14), (4, .int (fst ((20 + (3 * bb)) + 1))), (3, .int (nI ((20 + (3 * bb)) + 1))), (0, .ref h0), (1, .int (nI bb)), (2, .int what)] → W p l e (headSpec (Cond.code yX11_steps cX11_steps 11 (some .int) :: GT) ({ frames := 2, cells := 0, slots := 0, locals := 50 } : Room)).room s m ([.ref h0, .int (nI bb), .int what] : List Value).toArray below meth c H locs 0 0 (MQ below (va_Qi (fun (r : Int32) (u : (Nat → Int32)) => match u with | ost => (True) ∧ OKS ost ∧ ∀ q9 : Nat, ost q9 = fst q9) (fun (u : (Nat → Int32)) (t : State) => match u with | ost => va_P (dC, dI) vwCl [(h0, .inr (11, [.ref st, .int (nI N), .int (nI B), .ref rp, .int vrs, .int vrb, .int vhs, .int vca, .int vxs, .int vxb, .ref tp, .int (nI T), .int vfa, .int vbr, .int vba, .int vsp, .int vhe, .int vtk, .int vva, .ref cu, .ref lt, .ref od, .ref th, .ref be, .ref ln, .int (nI S), .ref ma, .int (nI M), .ref ah, .ref bh, .ref ik, .ref la, .ref lg, .ref ce, .int vto])), (st, .inl (G 0, 196, .inl ost)), (ln, .inl (G 0, 32, .inl fln))] t.heap ∧ va_D A [(h0, .inr (11, [.ref st, .int (nI N), .int (nI B), .ref rp, .int vrs, .int vrb, .int vhs, .int vca, .int vxs, .int vxb, .ref tp, .int (nI T), .int vfa, .int vbr, .int vba, .int vsp, .int vhe, .int vtk, .int vva, .ref cu, .ref lt, .ref od, .ref th, .ref be, .ref ln, .int (nI S), .ref ma, .int (nI M), .ref ah, .ref bh, .ref ik, .ref la, .ref lg, .ref ce, .int vto])), (st, .inl (G 0, 196, .inl ost)), (ln, .inl (G 0, 32, .inl fln))]) A) ([.ref h0, .int (nI bb), .int what] : List Value).toArray s 0 0 A) (F0 m 196 ls [.int (nI k38), .int y14]) := by
                        intro k38 H locs hb_k38 hP hD hS ls hl
                        refine lv_iadd hx hb dX11_steps_196 ?_
                        refine lv_istore (lv' := [(5, .int (y14 + (nI k38))), (7, .int y35), (6, .int y33), (10, .int (nI j26)), (9, .int y27), (8, .int (nI j11)), (4, .int (fst ((20 + (3 * bb)) + 1))), (3, .int (nI ((20 + (3 * bb)) + 1))), (0, .ref h0), (1, .int (nI bb)), (2, .int what)]) hx hb dX11_steps_197 hl (by decide) rfl (fun ls hl => ?_)
                        refine lv_iinc (v := nI (j11 + 1)) (lv' := [(8, .int (nI (j11 + 1))), (5, .int (y14 + (nI k38))), (7, .int y35), (6, .int y33), (10, .int (nI j26)), (9, .int y27), (4, .int (fst ((20 + (3 * bb)) + 1))), (3, .int (nI ((20 + (3 * bb)) + 1))), (0, .ref h0), (1, .int (nI bb)), (2, .int what)]) hx hb dX11_steps_199 hl (k := 5) rfl (by rw [show Int32.ofInt 1 = nI 1 from by decide]; exact nI_add _ _) (by decide) rfl (fun ls hl => ?_)
                        refine lv_goto (tgt := 53) hx hb dX11_steps_202 rfl ?_
                        exact ih53_16 (j11 + 1) (by omega) (by omega) y35 y33 (y14 + (nI k38)) (upd g15 ((20 + (3 * bb)) + 1) (nI j11)) _ _ ⟨OKS.upd hinv.1 (okS_lo (by omega) (by rw [nI_toInt (by omega)]; omega) (by rw [nI_toInt (by omega)]; omega)), fun q9 h9 => (if_neg h9).trans (hinv.2 q9 h9)⟩ hP hD hS ls (lv_sub hl [0, 2, 3, 1, 6, 7, 8, 9, 10] rfl)
                      refine lv_if_eq (tgt := 195) hx hb dX11_steps_188 rfl (fun c40 => ?_) (fun c40 => ?_)
                      · skip
                        refine lv_iconst (v := 0) hx hb dX11_steps_195 rfl ?_
                        exact cut196_39 0 _ _ (by omega) hP hD hS ls (lv_sub hl [0, 1, 2, 3, 4, 5, 6, 7, 8, 9, 10] rfl)
                      · skip
                        refine lv_iconst (v := 1) hx hb dX11_steps_191 rfl ?_
                        refine lv_goto (tgt := 196) hx hb dX11_steps_192 rfl ?_
                        exact cut196_39 1 _ _ (by omega) hP hD hS ls (lv_sub hl [0, 1, 2, 3, 4, 5, 6, 7, 8, 9, 10] rfl)
                    refine lv_if_eq (tgt := 180) hx hb dX11_steps_172 rfl (fun c41 => ?_) (fun c41 => ?_)
                    · skip
                      refine lv_iload hx hb dX11_steps_180 (lv_at hl 4 rfl) ?_
                      exact cut182_36 y12 _ _ hP hD hS ls (lv_sub hl [0, 1, 2, 3, 4, 5, 6, 7, 8, 9, 10] rfl)
                    · skip
                      refine lv_iload hx hb dX11_steps_175 (lv_at hl 3 rfl) ?_
                      refine lv_goto (tgt := 182) hx hb dX11_steps_177 rfl ?_
                      exact cut182_36 (nI j11) _ _ hP hD hS ls (lv_sub hl [0, 1, 2, 3, 4, 5, 6, 7, 8, 9, 10] rfl)
                  refine lv_if_eq (tgt := 166) hx hb dX11_steps_153 rfl (fun c42 => ?_) (fun c42 => ?_)
                  · skip
                    refine lv_iload hx hb dX11_steps_166 (lv_at hl 4 rfl) ?_
                    exact cut168_34 y13 _ _ hP hD hS ls (lv_sub hl [0, 1, 2, 3, 4, 5, 6, 7, 8, 9, 10] rfl)
                  · skip
                    refine lv_iload hx hb dX11_steps_156 (lv_at hl 5 rfl) ?_
                    refine lv_if_ne (tgt := 166) hx hb dX11_steps_158 rfl (fun c43 => ?_) (fun c43 => ?_)
                    · skip
                      refine lv_iload hx hb dX11_steps_166 (lv_at hl 4 rfl) ?_
                      exact cut168_34 y13 _ _ hP hD hS ls (lv_sub hl [0, 1, 2, 3, 4, 5, 6, 7, 8, 9, 10] rfl)
                    · skip
                      refine lv_iload hx hb dX11_steps_161 (lv_at hl 2 rfl) ?_
                      refine lv_goto (tgt := 168) hx hb dX11_steps_163 rfl ?_
                      exact cut168_34 (nI j11) _ _ hP hD hS ls (lv_sub hl [0, 1, 2, 3, 4, 5, 6, 7, 8, 9, 10] rfl)
                · skip
                  have tn2051_ : nIT j26 := fun _ => nI_toInt (by first | omega | (have t := nleI c31; omega))
                  have n44 : j26 < S := by have t := nleI c31; rw [show (nI (j26)).toInt = ((j26 : Nat) : Int) from tn2051_ ()] at t; rw [show (nI (S)).toInt = ((S : Nat) : Int) from tn2045_ ()] at t; omega
                  refine lv_iload hx hb dX11_steps_83 (lv_at hl 1 rfl) ?_
                  have cut143_47 : ∀ (k46 : Nat) (H : Heap) (locs : List Loc), k46 ≤ 1 → va_P (dC, dI) vwCl [(h0, .inr (11, [.ref st, .int (nI N), .int (nI B), .ref rp, .int vrs, .int vrb, .int vhs, .int vca, .int vxs, .int vxb, .ref tp, .int (nI T), .int vfa, .int vbr, .int vba, .int vsp, .int vhe, .int vtk, .int vva, .ref cu, .ref lt, .ref od, .ref th, .ref be, .ref ln, .int (nI S), .ref ma, .int (nI M), .ref ah, .ref bh, .ref ik, .ref la, .ref lg, .ref ce, .int vto])), (st, .inl (G 0, 196, .inl (upd g15 ((20 + (3 * bb)) + 1) (nI j11)))), (ln, .inl (G 0, 32, .inl fln))] H → va_D A [(h0, .inr (11, [.ref st, .int (nI N), .int (nI B), .ref rp, .int vrs, .int vrb, .int vhs, .int vca, .int vxs, .int vxb, .ref tp, .int (nI T), .int vfa, .int vbr, .int vba, .int vsp, .int vhe, .int vtk, .int vva, .ref cu, .ref lt, .ref od, .ref th, .ref be, .ref ln, .int (nI S), .ref ma, .int (nI M), .ref ah, .ref bh, .ref ik, .ref la, .ref lg, .ref ce, .int vto])), (st, .inl (G 0, 196, .inl (upd g15 ((20 + (3 * bb)) + 1) (nI j11)))), (ln, .inl (G 0, 32, .inl fln))] → va_S A s.heap H locs → ∀ (ls : Array Slot), lv_has ls 11 [(10, .int (nI j26)), (9, .int y27), (8, .int (nI j11)), (7, .int y12), (6, .int y13), (5, .int y14), (4, .int (fst ((20 + (3 * bb)) + 1))), (3, .int (nI ((20 + (3 * bb)) + 1))), (0, .ref h0), (1, .int (nI bb)), (2, .int what)] → W p l e (headSpec (Cond.code yX11_steps cX11_steps 11 (some .int) :: GT) ({ frames := 2, cells := 0, slots := 0, locals := 50 } : Room)).room s m ([.ref h0, .int (nI bb), .int what] : List Value).toArray below meth c H locs 0 0 (MQ below (va_Qi (fun (r : Int32) (u : (Nat → Int32)) => match u with | ost => (True) ∧ OKS ost ∧ ∀ q9 : Nat, ost q9 = fst q9) (fun (u : (Nat → Int32)) (t : State) => match u with | ost => va_P (dC, dI) vwCl [(h0, .inr (11, [.ref st, .int (nI N), .int (nI B), .ref rp, .int vrs, .int vrb, .int vhs, .int vca, .int vxs, .int vxb, .ref tp, .int (nI T), .int vfa, .int vbr, .int vba, .int vsp, .int vhe, .int vtk, .int vva, .ref cu, .ref lt, .ref od, .ref th, .ref be, .ref ln, .int (nI S), .ref ma, .int (nI M), .ref ah, .ref bh, .ref ik, .ref la, .ref lg, .ref ce, .int vto])), (st, .inl (G 0, 196, .inl ost)), (ln, .inl (G 0, 32, .inl fln))] t.heap ∧ va_D A [(h0, .inr (11, [.ref st, .int (nI N), .int (nI B), .ref rp, .int vrs, .int vrb, .int vhs, .int vca, .int vxs, .int vxb, .ref tp, .int (nI T), .int vfa, .int vbr, .int vba, .int vsp, .int vhe, .int vtk, .int vva, .ref cu, .ref lt, .ref od, .ref th, .ref be, .ref ln, .int (nI S), .ref ma, .int (nI M), .ref ah, .ref bh, .ref ik, .ref la, .ref lg, .ref ce, .int vto])), (st, .inl (G 0, 196, .inl ost)), (ln, .inl (G 0, 32, .inl fln))]) A) ([.ref h0, .int (nI bb), .int what] : List Value).toArray s 0 0 A) (F0 m 143 ls [.int (nI k46)]) := by
                    intro k46 H locs hb_k46 hP hD hS ls hl
                    refine lv_istore (lv' := [(9, .int (nI k46)), (10, .int (nI j26)), (8, .int (nI j11)), (7, .int y12), (6, .int y13), (5, .int y14), (4, .int (fst ((20 + (3 * bb)) + 1))), (3, .int (nI ((20 + (3 * bb)) + 1))), (0, .ref h0), (1, .int (nI bb)), (2, .int what)]) hx hb dX11_steps_143 hl (by decide) rfl (fun ls hl => ?_)
                    refine lv_iinc (v := nI (j26 + 1)) (lv' := [(10, .int (nI (j26 + 1))), (9, .int (nI k46)), (8, .int (nI j11)), (7, .int y12), (6, .int y13), (5, .int y14), (4, .int (fst ((20 + (3 * bb)) + 1))), (3, .int (nI ((20 + (3 * bb)) + 1))), (0, .ref h0), (1, .int (nI bb)), (2, .int what)]) hx hb dX11_steps_145 hl (k := 1) rfl (by rw [show Int32.ofInt 1 = nI 1 from by decide]; exact nI_add _ _) (by decide) rfl (fun ls hl => ?_)
                    refine lv_goto (tgt := 74) hx hb dX11_steps_148 rfl ?_
                    exact ih74_28 (j26 + 1) (by omega) (by omega) (nI k46) _ _ hP hD hS ls (lv_sub hl [0, 1, 2, 3, 4, 5, 6, 7, 8, 9, 10] rfl)
                  have cut142_48 : ∀ (H : Heap) (locs : List Loc), va_P (dC, dI) vwCl [(h0, .inr (11, [.ref st, .int (nI N), .int (nI B), .ref rp, .int vrs, .int vrb, .int vhs, .int vca, .int vxs, .int vxb, .ref tp, .int (nI T), .int vfa, .int vbr, .int vba, .int vsp, .int vhe, .int vtk, .int vva, .ref cu, .ref lt, .ref od, .ref th, .ref be, .ref ln, .int (nI S), .ref ma, .int (nI M), .ref ah, .ref bh, .ref ik, .ref la, .ref lg, .ref ce, .int vto])), (st, .inl (G 0, 196, .inl (upd g15 ((20 + (3 * bb)) + 1) (nI j11)))), (ln, .inl (G 0, 32, .inl fln))] H → va_D A [(h0, .inr (11, [.ref st, .int (nI N), .int (nI B), .ref rp, .int vrs, .int vrb, .int vhs, .int vca, .int vxs, .int vxb, .ref tp, .int (nI T), .int vfa, .int vbr, .int vba, .int vsp, .int vhe, .int vtk, .int vva, .ref cu, .ref lt, .ref od, .ref th, .ref be, .ref ln, .int (nI S), .ref ma, .int (nI M), .ref ah, .ref bh, .ref ik, .ref la, .ref lg, .ref ce, .int vto])), (st, .inl (G 0, 196, .inl (upd g15 ((20 + (3 * bb)) + 1) (nI j11)))), (ln, .inl (G 0, 32, .inl fln))] → va_S A s.heap H locs → ∀ (ls : Array Slot), lv_has ls 11 [(10, .int (nI j26)), (9, .int y27), (8, .int (nI j11)), (7, .int y12), (6, .int y13), (5, .int y14), (4, .int (fst ((20 + (3 * bb)) + 1))), (3, .int (nI ((20 + (3 * bb)) + 1))), (0, .ref h0), (1, .int (nI bb)), (2, .int what)] → W p l e (headSpec (Cond.code yX11_steps cX11_steps 11 (some .int) :: GT) ({ frames := 2, cells := 0, slots := 0, locals := 50 } : Room)).room s m ([.ref h0, .int (nI bb), .int what] : List Value).toArray below meth c H locs 0 0 (MQ below (va_Qi (fun (r : Int32) (u : (Nat → Int32)) => match u with | ost => (True) ∧ OKS ost ∧ ∀ q9 : Nat, ost q9 = fst q9) (fun (u : (Nat → Int32)) (t : State) => match u with | ost => va_P (dC, dI) vwCl [(h0, .inr (11, [.ref st, .int (nI N), .int (nI B), .ref rp, .int vrs, .int vrb, .int vhs, .int vca, .int vxs, .int vxb, .ref tp, .int (nI T), .int vfa, .int vbr, .int vba, .int vsp, .int vhe, .int vtk, .int vva, .ref cu, .ref lt, .ref od, .ref th, .ref be, .ref ln, .int (nI S), .ref ma, .int (nI M), .ref ah, .ref bh, .ref ik, .ref la, .ref lg, .ref ce, .int vto])), (st, .inl (G 0, 196, .inl ost)), (ln, .inl (G 0, 32, .inl fln))] t.heap ∧ va_D A [(h0, .inr (11, [.ref st, .int (nI N), .int (nI B), .ref rp, .int vrs, .int vrb, .int vhs, .int vca, .int vxs, .int vxb, .ref tp, .int (nI T), .int vfa, .int vbr, .int vba, .int vsp, .int vhe, .int vtk, .int vva, .ref cu, .ref lt, .ref od, .ref th, .ref be, .ref ln, .int (nI S), .ref ma, .int (nI M), .ref ah, .ref bh, .ref ik, .ref la, .ref lg, .ref ce, .int vto])), (st, .inl (G 0, 196, .inl ost)), (ln, .inl (G 0, 32, .inl fln))]) A) ([.ref h0, .int (nI bb), .int what] : List Value).toArray s 0 0 A) (F0 m 142 ls []) := by
                    intro  H locs hP hD hS ls hl
                    refine lv_iconst (v := 0) hx hb dX11_steps_142 rfl ?_
                    exact cut143_47 0 _ _ (by omega) hP hD hS ls (lv_sub hl [0, 1, 2, 3, 4, 5, 6, 7, 8, 9, 10] rfl)
                  refine lv_if_eq (tgt := 142) hx hb dX11_steps_85 rfl (fun c49 => ?_) (fun c49 => ?_)
                  · skip
                    exact cut142_48  _ _ hP hD hS ls (lv_sub hl [0, 1, 2, 3, 4, 5, 6, 7, 8, 9, 10] rfl)
                  · skip
                    refine lv_aload_n hx hb dX11_steps_88 rfl (lv_at hl 8 rfl) ?_
                    refine lv_aload_n hx hb dX11_steps_89 rfl (lv_at hl 8 rfl) ?_
                    refine va_get (D := (dC, dI)) (ci := 11) (v := .ref ln) (C := RX11) (T := TX11) (N := 35) hx hb hg inG11 hown hK.1 hP 0 rfl rfl 24 (Nat.le_of_ble_eq_true rfl) (hg _ wt_902) (fun _ h9 => h9) rfl dX11_steps_90 ?_
                    refine lv_iconst (v := 4) hx hb dX11_steps_93 rfl ?_
                    refine lv_iload hx hb dX11_steps_94 (lv_at hl 0 rfl) ?_
                    refine lv_imul hx hb dX11_steps_96 ?_
                    refine lv_cg (y := nI (4 * j26)) (by rw [show (4 : Int32) = nI 4 from rfl]; exact pk_mul _ _) ?_
                    refine va_iald hx hb hK.1 hP 2 0 rfl rfl (vp_in_nI (by first | omega | (have t_b6 := b6; have t_b10 := b10; have t_hbb := hbb; have t_hj18 := hj18; have t_n25 := n25; have t_hj30 := hj30; have t_n44 := n44; have t_c49 := neI c49; have : (0 : Int32).toInt = 0 := qI_0; have tnb_ := nib8 tn2042_ tn2043_ tn2044_ tn2045_ tn2046_ tn2047_ tn2049_ tn2051_; omega)) (by decide)) dX11_steps_97 ?_
                    refine lv_cg (y := fln (4 * j26)) (by rw [nI_clamp (by omega)]) ?_
                    obtain ⟨li, hli, eli⟩ : ∃ z : Nat, z < 10 ∧ fln (4 * j26) = nI z := i32_nat (hln j26 (by omega)).1.1 (hln j26 (by omega)).1.2
                    refine lv_cg (y := nI li) eli ?_
                    refine lv_aload_n hx hb dX11_steps_98 rfl (lv_at hl 8 rfl) ?_
                    refine va_get (D := (dC, dI)) (ci := 11) (v := .ref ln) (C := RX11) (T := TX11) (N := 35) hx hb hg inG11 hown hK.1 hP 0 rfl rfl 24 (Nat.le_of_ble_eq_true rfl) (hg _ wt_902) (fun _ h9 => h9) rfl dX11_steps_99 ?_
                    refine lv_iconst (v := 4) hx hb dX11_steps_102 rfl ?_
                    refine lv_iload hx hb dX11_steps_103 (lv_at hl 0 rfl) ?_
                    refine lv_imul hx hb dX11_steps_105 ?_
                    refine lv_cg (y := nI (4 * j26)) (by rw [show (4 : Int32) = nI 4 from rfl]; exact pk_mul _ _) ?_
                    refine lv_iconst (v := 1) hx hb dX11_steps_106 rfl ?_
                    refine lv_iadd hx hb dX11_steps_107 ?_
                    refine lv_cg (y := nI ((4 * j26) + 1)) (by rw [show (1 : Int32) = nI 1 from rfl]; exact nI_add _ _) ?_
                    have tn2052_ : nIT li := fun _ => nI_toInt (by first | omega | (have t_b6 := b6; have t_b10 := b10; have t_hbb := hbb; have t_hj18 := hj18; have t_n25 := n25; have t_hj30 := hj30; have t_n44 := n44; have t_c49 := neI c49; have t_hli := hli; have : (0 : Int32).toInt = 0 := qI_0; omega))
                    refine va_iald hx hb hK.1 hP 2 0 rfl rfl (vp_in_nI (by first | omega | (have t_b6 := b6; have t_b10 := b10; have t_hbb := hbb; have t_hj18 := hj18; have t_n25 := n25; have t_hj30 := hj30; have t_n44 := n44; have t_c49 := neI c49; have t_hli := hli; have : (0 : Int32).toInt = 0 := qI_0; have tnb_ := nib9 tn2042_ tn2043_ tn2044_ tn2045_ tn2046_ tn2047_ tn2049_ tn2051_ tn2052_; omega)) (by decide)) dX11_steps_108 ?_
                    refine lv_cg (y := fln ((4 * j26) + 1)) (by rw [nI_clamp (by omega)]) ?_
                    rcases (hln j26 (by omega)).2.1 with e8 | e8
                    · skip
                      refine lv_cg (y := (-4)) e8 ?_
                      refine lv_aload_n hx hb dX11_steps_109 rfl (lv_at hl 8 rfl) ?_
                      refine va_get (D := (dC, dI)) (ci := 11) (v := .ref ln) (C := RX11) (T := TX11) (N := 35) hx hb hg inG11 hown hK.1 hP 0 rfl rfl 24 (Nat.le_of_ble_eq_true rfl) (hg _ wt_902) (fun _ h9 => h9) rfl dX11_steps_110 ?_
                      refine lv_iconst (v := 4) hx hb dX11_steps_113 rfl ?_
                      refine lv_iload hx hb dX11_steps_114 (lv_at hl 0 rfl) ?_
                      refine lv_imul hx hb dX11_steps_116 ?_
                      refine lv_cg (y := nI (4 * j26)) (by rw [show (4 : Int32) = nI 4 from rfl]; exact pk_mul _ _) ?_
                      refine lv_iconst (v := 2) hx hb dX11_steps_117 rfl ?_
                      refine lv_iadd hx hb dX11_steps_118 ?_
                      refine lv_cg (y := nI ((4 * j26) + 2)) (by rw [show (2 : Int32) = nI 2 from rfl]; exact nI_add _ _) ?_
                      refine va_iald hx hb hK.1 hP 2 0 rfl rfl (vp_in_nI (by first | omega | (have t_b6 := b6; have t_b10 := b10; have t_hbb := hbb; have t_hj18 := hj18; have t_n25 := n25; have t_hj30 := hj30; have t_n44 := n44; have t_c49 := neI c49; have t_hli := hli; have : (0 : Int32).toInt = 0 := qI_0; have tnb_ := nib9 tn2042_ tn2043_ tn2044_ tn2045_ tn2046_ tn2047_ tn2049_ tn2051_ tn2052_; omega)) (by decide)) dX11_steps_119 ?_
                      refine lv_cg (y := fln ((4 * j26) + 2)) (by rw [nI_clamp (by omega)]) ?_
                      obtain ⟨lb, hlb, elb⟩ : ∃ z : Nat, z < 6 ∧ fln ((4 * j26) + 2) = nI z := i32_nat (hln j26 (by omega)).2.2.1 (hln j26 (by omega)).2.2.2
                      refine lv_cg (y := nI lb) elb ?_
                      refine lv_iconst (v := 0) hx hb dX11_steps_120 rfl ?_
                      have hPc := hP.sub (ws' := [(h0, .inr (11, [.ref st, .int (nI N), .int (nI B), .ref rp, .int vrs, .int vrb, .int vhs, .int vca, .int vxs, .int vxb, .ref tp, .int (nI T), .int vfa, .int vbr, .int vba, .int vsp, .int vhe, .int vtk, .int vva, .ref cu, .ref lt, .ref od, .ref th, .ref be, .ref ln, .int (nI S), .ref ma, .int (nI M), .ref ah, .ref bh, .ref ik, .ref la, .ref lg, .ref ce, .int vto])), (st, .inl (G 0, 196, .inl (upd g15 ((20 + (3 * bb)) + 1) (nI j11))))]) [0, 1] rfl
                      have tn2053_ : nIT lb := fun _ => nI_toInt (by first | omega | (have t_b6 := b6; have t_b10 := b10; have t_hbb := hbb; have t_hj18 := hj18; have t_n25 := n25; have t_hj30 := hj30; have t_n44 := n44; have t_c49 := neI c49; have t_hli := hli; have t_hlb := hlb; have : (0 : Int32).toInt = 0 := qI_0; omega))
                      refine va_calli (va_runV (As := [.int (nI li), .int (-4), .int (nI lb), .int 0]) (rest := []) ⟨hx, hb, hml, hown, hg⟩ (c_X11_harmOfN l dC dI G _ h0 li lb st N B rp tp T cu lt od th be ln S ma M ah bh ik la lg ce 0 vrs vrb vhs vca vxs vxb vfa vbr vba vsp vhe vtk vva vto (upd g15 ((20 + (3 * bb)) + 1) (nI j11)) hN hB_ hT_ hS0 hM_ (by first | omega | (have t_b6 := b6; have t_b10 := b10; have t_hbb := hbb; have t_hj18 := hj18; have t_n25 := n25; have t_hj30 := hj30; have t_n44 := n44; have t_c49 := neI c49; have t_hli := hli; have t_hlb := hlb; have : (0 : Int32).toInt = 0 := qI_0; have tnb_ := nib10 tn2042_ tn2043_ tn2044_ tn2045_ tn2046_ tn2047_ tn2049_ tn2051_ tn2052_ tn2053_; have tqz_ := qz8_; omega)) (by first | omega | (have t_b6 := b6; have t_b10 := b10; have t_hbb := hbb; have t_hj18 := hj18; have t_n25 := n25; have t_hj30 := hj30; have t_n44 := n44; have t_c49 := neI c49; have t_hli := hli; have t_hlb := hlb; have : (0 : Int32).toInt = 0 := qI_0; have tnb_ := nib10 tn2042_ tn2043_ tn2044_ tn2045_ tn2046_ tn2047_ tn2049_ tn2051_ tn2052_ tn2053_; have tqz_ := qz8_; omega))) (kwV hg mfX11_harmOf wt_1106 ⟨Nat.le_of_ble_eq_true rfl, Nat.le_of_ble_eq_true rfl⟩) (preVR hK hPc (ci := 11) (r := (RX11, TX11, 35)) rfl rfl) rfl rfl hl.1 rfl (lv_room (Nat.le_of_ble_eq_true rfl)) dX11_steps_121 ⟨Nat.le_of_ble_eq_true rfl, Nat.le_of_ble_eq_true rfl⟩) hS (fun q h1 h2 => absurd h2 (Nat.not_le.mpr h1)) (fun q h => hA q (Nat.le_trans hS.1 h)) (fun r50 ur50 t H1 locs ht hvm w51 hB hz1 hk1 hS => ?_)
                      have hP := keepR hP hk1
                      obtain ⟨w51, w51x⟩ := w51
                      subst w51
                      refine lv_aload_n hx hb dX11_steps_124 rfl (lv_at hl 8 rfl) ?_
                      refine va_get (D := (dC, dI)) (ci := 11) (v := .ref ln) (C := RX11) (T := TX11) (N := 35) hx hb hg inG11 hown hK.1 hP 0 rfl rfl 24 (Nat.le_of_ble_eq_true rfl) (hg _ wt_902) (fun _ h9 => h9) rfl dX11_steps_125 ?_
                      refine lv_iconst (v := 4) hx hb dX11_steps_128 rfl ?_
                      refine lv_iload hx hb dX11_steps_129 (lv_at hl 0 rfl) ?_
                      refine lv_imul hx hb dX11_steps_131 ?_
                      refine lv_cg (y := nI (4 * j26)) (by rw [show (4 : Int32) = nI 4 from rfl]; exact pk_mul _ _) ?_
                      refine lv_iconst (v := 3) hx hb dX11_steps_132 rfl ?_
                      refine lv_iadd hx hb dX11_steps_133 ?_
                      refine lv_cg (y := nI ((4 * j26) + 3)) (by rw [show (3 : Int32) = nI 3 from rfl]; exact nI_add _ _) ?_
                      refine va_iald hx hb hK.1 hP 2 0 rfl rfl (vp_in_nI (by first | omega | (have t_b6 := b6; have t_b10 := b10; have t_hbb := hbb; have t_hj18 := hj18; have t_n25 := n25; have t_hj30 := hj30; have t_n44 := n44; have t_c49 := neI c49; have t_hli := hli; have t_hlb := hlb; have : (0 : Int32).toInt = 0 := qI_0; have tnb_ := nib10 tn2042_ tn2043_ tn2044_ tn2045_ tn2046_ tn2047_ tn2049_ tn2051_ tn2052_ tn2053_; omega)) (by decide)) dX11_steps_134 ?_
                      refine lv_cg (y := fln ((4 * j26) + 3)) (by rw [nI_clamp (by omega)]) ?_
                      refine lv_icmp_ne (tgt := 142) hx hb dX11_steps_135 rfl (fun c52 => ?_) (fun c52 => ?_)
                      · skip
                        exact cut142_48  _ _ hP hD hS ls (lv_sub hl [0, 1, 2, 3, 4, 5, 6, 7, 8, 9, 10] rfl)
                      · skip
                        refine lv_iconst (v := 1) hx hb dX11_steps_138 rfl ?_
                        refine lv_goto (tgt := 143) hx hb dX11_steps_139 rfl ?_
                        exact cut143_47 1 _ _ (by omega) hP hD hS ls (lv_sub hl [0, 1, 2, 3, 4, 5, 6, 7, 8, 9, 10] rfl)
                    · skip
                      obtain ⟨la9, hla9, ela9⟩ : ∃ z : Nat, z < 6 ∧ fln ((4 * j26) + 1) = nI z := i32_nat e8.1 e8.2
                      refine lv_cg (y := nI la9) ela9 ?_
                      refine lv_aload_n hx hb dX11_steps_109 rfl (lv_at hl 8 rfl) ?_
                      refine va_get (D := (dC, dI)) (ci := 11) (v := .ref ln) (C := RX11) (T := TX11) (N := 35) hx hb hg inG11 hown hK.1 hP 0 rfl rfl 24 (Nat.le_of_ble_eq_true rfl) (hg _ wt_902) (fun _ h9 => h9) rfl dX11_steps_110 ?_
                      refine lv_iconst (v := 4) hx hb dX11_steps_113 rfl ?_
                      refine lv_iload hx hb dX11_steps_114 (lv_at hl 0 rfl) ?_
                      refine lv_imul hx hb dX11_steps_116 ?_
                      refine lv_cg (y := nI (4 * j26)) (by rw [show (4 : Int32) = nI 4 from rfl]; exact pk_mul _ _) ?_
                      refine lv_iconst (v := 2) hx hb dX11_steps_117 rfl ?_
                      refine lv_iadd hx hb dX11_steps_118 ?_
                      refine lv_cg (y := nI ((4 * j26) + 2)) (by rw [show (2 : Int32) = nI 2 from rfl]; exact nI_add _ _) ?_
                      have tn2054_ : nIT la9 := fun _ => nI_toInt (by first | omega | (have t_b6 := b6; have t_b10 := b10; have t_hbb := hbb; have t_hj18 := hj18; have t_n25 := n25; have t_hj30 := hj30; have t_n44 := n44; have t_c49 := neI c49; have t_hli := hli; have t_hla9 := hla9; have : (0 : Int32).toInt = 0 := qI_0; omega))
                      refine va_iald hx hb hK.1 hP 2 0 rfl rfl (vp_in_nI (by first | omega | (have t_b6 := b6; have t_b10 := b10; have t_hbb := hbb; have t_hj18 := hj18; have t_n25 := n25; have t_hj30 := hj30; have t_n44 := n44; have t_c49 := neI c49; have t_hli := hli; have t_hla9 := hla9; have : (0 : Int32).toInt = 0 := qI_0; have tnb_ := nib10 tn2042_ tn2043_ tn2044_ tn2045_ tn2046_ tn2047_ tn2049_ tn2051_ tn2052_ tn2054_; omega)) (by decide)) dX11_steps_119 ?_
                      refine lv_cg (y := fln ((4 * j26) + 2)) (by rw [nI_clamp (by omega)]) ?_
                      obtain ⟨lb, hlb, elb⟩ : ∃ z : Nat, z < 6 ∧ fln ((4 * j26) + 2) = nI z := i32_nat (hln j26 (by omega)).2.2.1 (hln j26 (by omega)).2.2.2
                      refine lv_cg (y := nI lb) elb ?_
                      refine lv_iconst (v := 0) hx hb dX11_steps_120 rfl ?_
                      have hPc := hP.sub (ws' := [(h0, .inr (11, [.ref st, .int (nI N), .int (nI B), .ref rp, .int vrs, .int vrb, .int vhs, .int vca, .int vxs, .int vxb, .ref tp, .int (nI T), .int vfa, .int vbr, .int vba, .int vsp, .int vhe, .int vtk, .int vva, .ref cu, .ref lt, .ref od, .ref th, .ref be, .ref ln, .int (nI S), .ref ma, .int (nI M), .ref ah, .ref bh, .ref ik, .ref la, .ref lg, .ref ce, .int vto])), (st, .inl (G 0, 196, .inl (upd g15 ((20 + (3 * bb)) + 1) (nI j11))))]) [0, 1] rfl
                      have tn2055_ : nIT lb := fun _ => nI_toInt (by first | omega | (have t_b6 := b6; have t_b10 := b10; have t_hbb := hbb; have t_hj18 := hj18; have t_n25 := n25; have t_hj30 := hj30; have t_n44 := n44; have t_c49 := neI c49; have t_hli := hli; have t_hla9 := hla9; have t_hlb := hlb; have : (0 : Int32).toInt = 0 := qI_0; omega))
                      refine va_calli (va_runV (As := [.int (nI li), .int (nI la9), .int (nI lb), .int 0]) (rest := []) ⟨hx, hb, hml, hown, hg⟩ (c_X11_harmOfB l dC dI G _ h0 li la9 lb st N B rp tp T cu lt od th be ln S ma M ah bh ik la lg ce 0 vrs vrb vhs vca vxs vxb vfa vbr vba vsp vhe vtk vva vto (upd g15 ((20 + (3 * bb)) + 1) (nI j11)) hN hB_ hT_ hS0 hM_ (by first | omega | (have t_b6 := b6; have t_b10 := b10; have t_hbb := hbb; have t_hj18 := hj18; have t_n25 := n25; have t_hj30 := hj30; have t_n44 := n44; have t_c49 := neI c49; have t_hli := hli; have t_hla9 := hla9; have t_hlb := hlb; have : (0 : Int32).toInt = 0 := qI_0; have tnb_ := nib11 tn2042_ tn2043_ tn2044_ tn2045_ tn2046_ tn2047_ tn2049_ tn2051_ tn2052_ tn2054_ tn2055_; have : (0 : Int32).toInt = 0 := qI_0; omega)) (by first | omega | (have t_b6 := b6; have t_b10 := b10; have t_hbb := hbb; have t_hj18 := hj18; have t_n25 := n25; have t_hj30 := hj30; have t_n44 := n44; have t_c49 := neI c49; have t_hli := hli; have t_hla9 := hla9; have t_hlb := hlb; have : (0 : Int32).toInt = 0 := qI_0; have tnb_ := nib11 tn2042_ tn2043_ tn2044_ tn2045_ tn2046_ tn2047_ tn2049_ tn2051_ tn2052_ tn2054_ tn2055_; have : (0 : Int32).toInt = 0 := qI_0; omega)) (by first | omega | (have t_b6 := b6; have t_b10 := b10; have t_hbb := hbb; have t_hj18 := hj18; have t_n25 := n25; have t_hj30 := hj30; have t_n44 := n44; have t_c49 := neI c49; have t_hli := hli; have t_hla9 := hla9; have t_hlb := hlb; have : (0 : Int32).toInt = 0 := qI_0; have tnb_ := nib11 tn2042_ tn2043_ tn2044_ tn2045_ tn2046_ tn2047_ tn2049_ tn2051_ tn2052_ tn2054_ tn2055_; have : (0 : Int32).toInt = 0 := qI_0; omega))) (kwV hg mfX11_harmOf wt_1106 ⟨Nat.le_of_ble_eq_true rfl, Nat.le_of_ble_eq_true rfl⟩) (preVR hK hPc (ci := 11) (r := (RX11, TX11, 35)) rfl rfl) rfl rfl hl.1 rfl (lv_room (Nat.le_of_ble_eq_true rfl)) dX11_steps_121 ⟨Nat.le_of_ble_eq_true rfl, Nat.le_of_ble_eq_true rfl⟩) hS (fun q h1 h2 => absurd h2 (Nat.not_le.mpr h1)) (fun q h => hA q (Nat.le_trans hS.1 h)) (fun r53 ur53 t H1 locs ht hvm w54 hB hz1 hk1 hS => ?_)
                      have hP := keepR hP hk1
                      obtain ⟨w54, w54x⟩ := w54
                      subst w54
                      refine lv_aload_n hx hb dX11_steps_124 rfl (lv_at hl 8 rfl) ?_
                      refine va_get (D := (dC, dI)) (ci := 11) (v := .ref ln) (C := RX11) (T := TX11) (N := 35) hx hb hg inG11 hown hK.1 hP 0 rfl rfl 24 (Nat.le_of_ble_eq_true rfl) (hg _ wt_902) (fun _ h9 => h9) rfl dX11_steps_125 ?_
                      refine lv_iconst (v := 4) hx hb dX11_steps_128 rfl ?_
                      refine lv_iload hx hb dX11_steps_129 (lv_at hl 0 rfl) ?_
                      refine lv_imul hx hb dX11_steps_131 ?_
                      refine lv_cg (y := nI (4 * j26)) (by rw [show (4 : Int32) = nI 4 from rfl]; exact pk_mul _ _) ?_
                      refine lv_iconst (v := 3) hx hb dX11_steps_132 rfl ?_
                      refine lv_iadd hx hb dX11_steps_133 ?_
                      refine lv_cg (y := nI ((4 * j26) + 3)) (by rw [show (3 : Int32) = nI 3 from rfl]; exact nI_add _ _) ?_
                      refine va_iald hx hb hK.1 hP 2 0 rfl rfl (vp_in_nI (by first | omega | (have t_b6 := b6; have t_b10 := b10; have t_hbb := hbb; have t_hj18 := hj18; have t_n25 := n25; have t_hj30 := hj30; have t_n44 := n44; have t_c49 := neI c49; have t_hli := hli; have t_hla9 := hla9; have t_hlb := hlb; have : (0 : Int32).toInt = 0 := qI_0; have tnb_ := nib11 tn2042_ tn2043_ tn2044_ tn2045_ tn2046_ tn2047_ tn2049_ tn2051_ tn2052_ tn2054_ tn2055_; omega)) (by decide)) dX11_steps_134 ?_
                      refine lv_cg (y := fln ((4 * j26) + 3)) (by rw [nI_clamp (by omega)]) ?_
                      refine lv_icmp_ne (tgt := 142) hx hb dX11_steps_135 rfl (fun c55 => ?_) (fun c55 => ?_)
                      · skip
                        exact cut142_48  _ _ hP hD hS ls (lv_sub hl [0, 1, 2, 3, 4, 5, 6, 7, 8, 9, 10] rfl)
                      · skip
                        refine lv_iconst (v := 1) hx hb dX11_steps_138 rfl ?_
                        refine lv_goto (tgt := 143) hx hb dX11_steps_139 rfl ?_
                        exact cut143_47 1 _ _ (by omega) hP hD hS ls (lv_sub hl [0, 1, 2, 3, 4, 5, 6, 7, 8, 9, 10] rfl)
            exact loop74_28 (S + 1) 0 (by omega) (by omega) 1 _ _ hP hD hS ls (lv_sub hl [0, 1, 2, 3, 4, 5, 6, 7, 8, 9, 10] rfl)
      exact loop53_16 (10 + 1) 0 (by omega) (by omega) (-4) (-4) 0 fst _ _ ⟨hst, fun _ _ => rfl⟩ hP hD hS ls (lv_sub hl [0, 1, 2, 3, 4, 5, 6, 7, 8] rfl)
    · skip
      have b56 := if10_n c9
      exact cut20_3  _ _ hP hD hS ls (lv_sub hl [0, 1, 2] rfl)

set_option maxHeartbeats 1000000 in
set_option maxRecDepth 100000 in
theorem c_X11_readW (l : Launch) (dC : Nat → ClassId) (dI : Nat → Nat → Nat) (G : Nat → ClassId) (sz : Nat) (h0 st N B rp tp T cu lt od th be ln S ma M ah bh ik la lg ce : Nat) (k lane x1 n vrs vrb vhs vca vxs vxb vfa vbr vba vsp vhe vtk vva vto : Int32) (fst : Nat → Int32) (fla : Nat → Int32) (flg : Nat → Int32) (fce : Nat → Int32) (hN : N ≤ 10) (hB : B ≤ 6) (hT : T ≤ 320) (hS0 : S ≤ 8) (hM : M ≤ 6) (hst : OKS fst) (hz : ∀ q : Nat, q < 4 → 0 ≤ (flg q).toInt ∧ (flg q).toInt ≤ 40) : Met l yX11_read (Cond.code yX11_read cX11_read 9 (some .int) :: GT) ({ frames := 3, cells := 0, slots := 0, locals := 68 } : Room) (PcW [.ref h0, .int k, .int lane, .int x1, .int n] dC dI G [(h0, .inr (11, [.ref st, .int (nI N), .int (nI B), .ref rp, .int vrs, .int vrb, .int vhs, .int vca, .int vxs, .int vxb, .ref tp, .int (nI T), .int vfa, .int vbr, .int vba, .int vsp, .int vhe, .int vtk, .int vva, .ref cu, .ref lt, .ref od, .ref th, .ref be, .ref ln, .int (nI S), .ref ma, .int (nI M), .ref ah, .ref bh, .ref ik, .ref la, .ref lg, .ref ce, .int vto])), (st, .inl (G 0, 196, .inl fst)), (la, .inl (G 0, 4, .inl fla)), (lg, .inl (G 0, 4, .inl flg)), (ce, .inl (G 0, 160, .inl fce))] sz) (va_Qi (fun (r : Int32) (u : (Nat → Int32) × Int32) => match u with | (ost, oto) => (True) ∧ OKS ost ∧ NO3 fst ost) (fun (u : (Nat → Int32) × Int32) (t : State) => match u with | (ost, oto) => va_P (dC, dI) vwCl [(h0, .inr (11, [.ref st, .int (nI N), .int (nI B), .ref rp, .int vrs, .int vrb, .int vhs, .int vca, .int vxs, .int vxb, .ref tp, .int (nI T), .int vfa, .int vbr, .int vba, .int vsp, .int vhe, .int vtk, .int vva, .ref cu, .ref lt, .ref od, .ref th, .ref be, .ref ln, .int (nI S), .ref ma, .int (nI M), .ref ah, .ref bh, .ref ik, .ref la, .ref lg, .ref ce, .int oto])), (st, .inl (G 0, 196, .inl ost)), (la, .inl (G 0, 4, .inl fla)), (lg, .inl (G 0, 4, .inl flg)), (ce, .inl (G 0, 160, .inl fce))] t.heap ∧ va_D (va_A [(h0, .inr (11, [.ref st, .int (nI N), .int (nI B), .ref rp, .int vrs, .int vrb, .int vhs, .int vca, .int vxs, .int vxb, .ref tp, .int (nI T), .int vfa, .int vbr, .int vba, .int vsp, .int vhe, .int vtk, .int vva, .ref cu, .ref lt, .ref od, .ref th, .ref be, .ref ln, .int (nI S), .ref ma, .int (nI M), .ref ah, .ref bh, .ref ik, .ref la, .ref lg, .ref ce, .int vto])), (st, .inl (G 0, 196, .inl fst)), (la, .inl (G 0, 4, .inl fla)), (lg, .inl (G 0, 4, .inl flg)), (ce, .inl (G 0, 160, .inl fce))] sz) [(h0, .inr (11, [.ref st, .int (nI N), .int (nI B), .ref rp, .int vrs, .int vrb, .int vhs, .int vca, .int vxs, .int vxb, .ref tp, .int (nI T), .int vfa, .int vbr, .int vba, .int vsp, .int vhe, .int vtk, .int vva, .ref cu, .ref lt, .ref od, .ref th, .ref be, .ref ln, .int (nI S), .ref ma, .int (nI M), .ref ah, .ref bh, .ref ik, .ref la, .ref lg, .ref ce, .int oto])), (st, .inl (G 0, 196, .inl ost)), (la, .inl (G 0, 4, .inl fla)), (lg, .inl (G 0, 4, .inl flg)), (ce, .inl (G 0, 160, .inl fce))]) (va_A [(h0, .inr (11, [.ref st, .int (nI N), .int (nI B), .ref rp, .int vrs, .int vrb, .int vhs, .int vca, .int vxs, .int vxb, .ref tp, .int (nI T), .int vfa, .int vbr, .int vba, .int vsp, .int vhe, .int vtk, .int vva, .ref cu, .ref lt, .ref od, .ref th, .ref be, .ref ln, .int (nI S), .ref ma, .int (nI M), .ref ah, .ref bh, .ref ik, .ref la, .ref lg, .ref ce, .int vto])), (st, .inl (G 0, 196, .inl fst)), (la, .inl (G 0, 4, .inl fla)), (lg, .inl (G 0, 4, .inl flg)), (ce, .inl (G 0, 160, .inl fce))] sz)) 0 0 (va_A [(h0, .inr (11, [.ref st, .int (nI N), .int (nI B), .ref rp, .int vrs, .int vrb, .int vhs, .int vca, .int vxs, .int vxb, .ref tp, .int (nI T), .int vfa, .int vbr, .int vba, .int vsp, .int vhe, .int vtk, .int vva, .ref cu, .ref lt, .ref od, .ref th, .ref be, .ref ln, .int (nI S), .ref ma, .int (nI M), .ref ah, .ref bh, .ref ik, .ref la, .ref lg, .ref ce, .int vto])), (st, .inl (G 0, 196, .inl fst)), (la, .inl (G 0, 4, .inl fla)), (lg, .inl (G 0, 4, .inl flg)), (ce, .inl (G 0, 160, .inl fce))] sz) := by
  have hB_ := hB
  have hM_ := hM
  have hT_ := hT
  have tn2056_ : nIT N := fun _ => nI_toInt (by omega)
  have tn2057_ : nIT B := fun _ => nI_toInt (by omega)
  have tn2058_ : nIT T := fun _ => nI_toInt (by omega)
  have tn2059_ : nIT S := fun _ => nI_toInt (by omega)
  have tn2060_ : nIT M := fun _ => nI_toInt (by omega)
  refine Met.ofW (cc := cX11_read) (maxL := 9) (ret := (some .int)) (by decide) rfl ?_
  intro p e s m args below meth c s₁ Bd hml hv
  obtain ⟨rfl, hsz, hP, hK, hD0⟩ := hv
  have hx := Bd.exec
  have hb := Bd.bytes
  have hr := Bd.returns
  have hg : ∀ w ∈ GT, w.before ([.ref h0, .int k, .int lane, .int x1, .int n] : List Value).toArray s = true := fun w h => atoms_spec (ws := Cond.code yX11_read cX11_read 9 (some .int) :: GT) Bd.pre w (List.mem_cons_of_mem _ h)
  have hown : s.vm.findClass RX11 = some m.cls := findClass_of_methodNamed Bd.named
  have hlocks := Bd.notSynchronized
  subst hsz
  have hD := hD0.self (sz := s.heap.size)
  generalize hAe : va_A [(h0, .inr (11, [.ref st, .int (nI N), .int (nI B), .ref rp, .int vrs, .int vrb, .int vhs, .int vca, .int vxs, .int vxb, .ref tp, .int (nI T), .int vfa, .int vbr, .int vba, .int vsp, .int vhe, .int vtk, .int vva, .ref cu, .ref lt, .ref od, .ref th, .ref be, .ref ln, .int (nI S), .ref ma, .int (nI M), .ref ah, .ref bh, .ref ik, .ref la, .ref lg, .ref ce, .int vto])), (st, .inl (G 0, 196, .inl fst)), (la, .inl (G 0, 4, .inl fla)), (lg, .inl (G 0, 4, .inl flg)), (ce, .inl (G 0, 160, .inl fce))] s.heap.size = A at hD ⊢
  have hA : ∀ q : Nat, s.heap.size ≤ q → A q := fun q h => by rw [← hAe]; exact Or.inr h
  have hS : va_S A s.heap s.heap [] := va_S.rf
  have hl := lv_entry ([.ref h0, .int k, .int lane, .int x1, .int n]) (n := 9) (Nat.le_of_ble_eq_true rfl)
  rw [lg_entry_eq]
  generalize (lg_sl ([.ref h0, .int k, .int lane, .int x1, .int n]) ++ List.replicate (9 - (lg_sl ([.ref h0, .int k, .int lane, .int x1, .int n])).length) Slot.unset).toArray = ls at hl ⊢
  have hl : lv_has ls 9 [(0, .ref h0), (1, .int k), (2, .int lane), (3, .int x1), (4, .int n)] := hl
  refine lv_iload_n hx hb dX11_read_0 rfl (lv_at hl 1 rfl) ?_
  refine lv_i2l (v := k.toInt64) hx hb dX11_read_1 rfl ?_
  refine lv_lconst (v := 0) hx hb dX11_read_2 (by decide) ?_
  refine lv_ldc2 (v := 3) hx hb hown (hg _ wt_1023) dX11_read_3 ?_
  have hPc := hP.sub (ws' := []) [] rfl
  refine va_calli (va_runS (As := [.long k.toInt64, .long 0, .long 3]) (rest := []) ⟨hx, hb, hml, hown, hg⟩ (c_X11_in l dC dI G _ k.toInt64 0 3) (kwS hg mfX11_in wt_992 ⟨Nat.le_of_ble_eq_true rfl, Nat.le_of_ble_eq_true rfl⟩) (preSR hK hPc) rfl rfl hl.1 rfl (lv_room (Nat.le_of_ble_eq_true rfl)) dX11_read_6 ⟨Nat.le_of_ble_eq_true rfl, Nat.le_of_ble_eq_true rfl⟩) hS (fun q h1 h2 => absurd h2 (Nat.not_le.mpr h1)) (fun q h => hA q (Nat.le_trans hS.1 h)) (fun r1 ur1 t H1 locs ht hvm w2 hB hz1 hk1 hS => ?_)
  have hP := keepR hP hk1
  obtain ⟨w2, w2x⟩ := w2
  try simp only [l_ii, show (0 : Int64).toInt = 0 from by decide, show (3 : Int64).toInt = 3 from by decide] at w2
  subst w2
  have cut37_3 : ∀ (H : Heap) (locs : List Loc), va_P (dC, dI) vwCl [(h0, .inr (11, [.ref st, .int (nI N), .int (nI B), .ref rp, .int vrs, .int vrb, .int vhs, .int vca, .int vxs, .int vxb, .ref tp, .int (nI T), .int vfa, .int vbr, .int vba, .int vsp, .int vhe, .int vtk, .int vva, .ref cu, .ref lt, .ref od, .ref th, .ref be, .ref ln, .int (nI S), .ref ma, .int (nI M), .ref ah, .ref bh, .ref ik, .ref la, .ref lg, .ref ce, .int vto])), (st, .inl (G 0, 196, .inl fst)), (la, .inl (G 0, 4, .inl fla)), (lg, .inl (G 0, 4, .inl flg)), (ce, .inl (G 0, 160, .inl fce))] H → va_D A [(h0, .inr (11, [.ref st, .int (nI N), .int (nI B), .ref rp, .int vrs, .int vrb, .int vhs, .int vca, .int vxs, .int vxb, .ref tp, .int (nI T), .int vfa, .int vbr, .int vba, .int vsp, .int vhe, .int vtk, .int vva, .ref cu, .ref lt, .ref od, .ref th, .ref be, .ref ln, .int (nI S), .ref ma, .int (nI M), .ref ah, .ref bh, .ref ik, .ref la, .ref lg, .ref ce, .int vto])), (st, .inl (G 0, 196, .inl fst)), (la, .inl (G 0, 4, .inl fla)), (lg, .inl (G 0, 4, .inl flg)), (ce, .inl (G 0, 160, .inl fce))] → va_S A s.heap H locs → ∀ (ls : Array Slot), lv_has ls 9 [(0, .ref h0), (1, .int k), (2, .int lane), (3, .int x1), (4, .int n)] → W p l e (headSpec (Cond.code yX11_read cX11_read 9 (some .int) :: GT) ({ frames := 3, cells := 0, slots := 0, locals := 68 } : Room)).room s m ([.ref h0, .int k, .int lane, .int x1, .int n] : List Value).toArray below meth c H locs 0 0 (MQ below (va_Qi (fun (r : Int32) (u : (Nat → Int32) × Int32) => match u with | (ost, oto) => (True) ∧ OKS ost ∧ NO3 fst ost) (fun (u : (Nat → Int32) × Int32) (t : State) => match u with | (ost, oto) => va_P (dC, dI) vwCl [(h0, .inr (11, [.ref st, .int (nI N), .int (nI B), .ref rp, .int vrs, .int vrb, .int vhs, .int vca, .int vxs, .int vxb, .ref tp, .int (nI T), .int vfa, .int vbr, .int vba, .int vsp, .int vhe, .int vtk, .int vva, .ref cu, .ref lt, .ref od, .ref th, .ref be, .ref ln, .int (nI S), .ref ma, .int (nI M), .ref ah, .ref bh, .ref ik, .ref la, .ref lg, .ref ce, .int oto])), (st, .inl (G 0, 196, .inl ost)), (la, .inl (G 0, 4, .inl fla)), (lg, .inl (G 0, 4, .inl flg)), (ce, .inl (G 0, 160, .inl fce))] t.heap ∧ va_D A [(h0, .inr (11, [.ref st, .int (nI N), .int (nI B), .ref rp, .int vrs, .int vrb, .int vhs, .int vca, .int vxs, .int vxb, .ref tp, .int (nI T), .int vfa, .int vbr, .int vba, .int vsp, .int vhe, .int vtk, .int vva, .ref cu, .ref lt, .ref od, .ref th, .ref be, .ref ln, .int (nI S), .ref ma, .int (nI M), .ref ah, .ref bh, .ref ik, .ref la, .ref lg, .ref ce, .int oto])), (st, .inl (G 0, 196, .inl ost)), (la, .inl (G 0, 4, .inl fla)), (lg, .inl (G 0, 4, .inl flg)), (ce, .inl (G 0, 160, .inl fce))]) A) ([.ref h0, .int k, .int lane, .int x1, .int n] : List Value).toArray s 0 0 A) (F0 m 37 ls []) := by
    intro  H locs hP hD hS ls hl
    refine lv_iconst (v := (-1)) hx hb dX11_read_37 rfl ?_
    have hpost : True := by
      trivial
    obtain ⟨hP9, hD9⟩ := va_sub2 (ws' := [(h0, .inr (11, [.ref st, .int (nI N), .int (nI B), .ref rp, .int vrs, .int vrb, .int vhs, .int vca, .int vxs, .int vxb, .ref tp, .int (nI T), .int vfa, .int vbr, .int vba, .int vsp, .int vhe, .int vtk, .int vva, .ref cu, .ref lt, .ref od, .ref th, .ref be, .ref ln, .int (nI S), .ref ma, .int (nI M), .ref ah, .ref bh, .ref ik, .ref la, .ref lg, .ref ce, .int vto])), (st, .inl (G 0, 196, .inl fst)), (la, .inl (G 0, 4, .inl fla)), (lg, .inl (G 0, 4, .inl flg)), (ce, .inl (G 0, 160, .inl fce))]) hP hD [0, 1, 2, 3, 4] (by decide +kernel) rfl
    refine W.widen (k := 0) (n := 0) (Nat.le_of_ble_eq_true rfl) (Nat.le_of_ble_eq_true rfl) ?_
    exact W.iret (v := (-1)) hx hb hr (fun t ht hW => ⟨⟨(-1), (fst, vto), rfl, ⟨hpost, ⟨hst, NO.rf.n3⟩⟩, ⟨by rw [ht]; exact hP9, hD9⟩⟩, hS.F ht⟩) hS.2.2 dX11_read_38
  refine lv_if_eq (tgt := 37) hx hb dX11_read_9 rfl (fun c4 => ?_) (fun c4 => ?_)
  · skip
    have b5 := if10_n c4
    exact cut37_3  _ _ hP hD hS ls (lv_sub hl [0, 1, 2, 3, 4] rfl)
  · skip
    have b6 := if10_p c4
    refine lv_iload_n hx hb dX11_read_12 rfl (lv_at hl 2 rfl) ?_
    refine lv_i2l (v := lane.toInt64) hx hb dX11_read_13 rfl ?_
    refine lv_lconst (v := 0) hx hb dX11_read_14 (by decide) ?_
    refine lv_ldc2 (v := 2) hx hb hown (hg _ wt_1056) dX11_read_15 ?_
    have hPc := hP.sub (ws' := []) [] rfl
    refine va_calli (va_runS (As := [.long lane.toInt64, .long 0, .long 2]) (rest := []) ⟨hx, hb, hml, hown, hg⟩ (c_X11_in l dC dI G _ lane.toInt64 0 2) (kwS hg mfX11_in wt_992 ⟨Nat.le_of_ble_eq_true rfl, Nat.le_of_ble_eq_true rfl⟩) (preSR hK hPc) rfl rfl hl.1 rfl (lv_room (Nat.le_of_ble_eq_true rfl)) dX11_read_18 ⟨Nat.le_of_ble_eq_true rfl, Nat.le_of_ble_eq_true rfl⟩) hS (fun q h1 h2 => absurd h2 (Nat.not_le.mpr h1)) (fun q h => hA q (Nat.le_trans hS.1 h)) (fun r7 ur7 t H1 locs ht hvm w8 hB hz1 hk1 hS => ?_)
    have hP := keepR hP hk1
    obtain ⟨w8, w8x⟩ := w8
    try simp only [l_ii, show (0 : Int64).toInt = 0 from by decide, show (2 : Int64).toInt = 2 from by decide] at w8
    subst w8
    refine lv_if_eq (tgt := 37) hx hb dX11_read_21 rfl (fun c9 => ?_) (fun c9 => ?_)
    · skip
      have b10 := if10_n c9
      exact cut37_3  _ _ hP hD hS ls (lv_sub hl [0, 1, 2, 3, 4] rfl)
    · skip
      have b11 := if10_p c9
      refine lv_iload hx hb dX11_read_24 (lv_at hl 4 rfl) ?_
      refine lv_i2l (v := n.toInt64) hx hb dX11_read_26 rfl ?_
      refine lv_lconst (v := 0) hx hb dX11_read_27 (by decide) ?_
      refine lv_ldc2 (v := 20) hx hb hown (hg _ wt_1127) dX11_read_28 ?_
      have hPc := hP.sub (ws' := []) [] rfl
      refine va_calli (va_runS (As := [.long n.toInt64, .long 0, .long 20]) (rest := []) ⟨hx, hb, hml, hown, hg⟩ (c_X11_in l dC dI G _ n.toInt64 0 20) (kwS hg mfX11_in wt_992 ⟨Nat.le_of_ble_eq_true rfl, Nat.le_of_ble_eq_true rfl⟩) (preSR hK hPc) rfl rfl hl.1 rfl (lv_room (Nat.le_of_ble_eq_true rfl)) dX11_read_31 ⟨Nat.le_of_ble_eq_true rfl, Nat.le_of_ble_eq_true rfl⟩) hS (fun q h1 h2 => absurd h2 (Nat.not_le.mpr h1)) (fun q h => hA q (Nat.le_trans hS.1 h)) (fun r12 ur12 t H1 locs ht hvm w13 hB hz1 hk1 hS => ?_)
      have hP := keepR hP hk1
      obtain ⟨w13, w13x⟩ := w13
      try simp only [l_ii, show (0 : Int64).toInt = 0 from by decide, show (20 : Int64).toInt = 20 from by decide] at w13
      subst w13
      refine lv_if_ne (tgt := 39) hx hb dX11_read_34 rfl (fun c14 => ?_) (fun c14 => ?_)
      · skip
        have b15 := if10_p c14
        obtain ⟨kk, hkk, rfl⟩ : ∃ j : Nat, j < 4 ∧ k = nI j := by
          have t_b6 := b6
          have t_b11 := b11
          have t_b15 := b15
          have t_n0 : (nI N).toInt = (N : Int) := tn2056_ ()
          have t_n1 : (nI B).toInt = (B : Int) := tn2057_ ()
          have t_n2 : (nI T).toInt = (T : Int) := tn2058_ ()
          have t_n3 : (nI S).toInt = (S : Int) := tn2059_ ()
          have t_n4 : (nI M).toInt = (M : Int) := tn2060_ ()
          exact i32_nat (by omega) (by omega)
        obtain ⟨nn, hnn, rfl⟩ : ∃ j : Nat, j < 21 ∧ n = nI j := by
          have t_b6 := b6
          have t_b11 := b11
          have t_b15 := b15
          have t_hkk := hkk
          have t_n0 : (nI N).toInt = (N : Int) := tn2056_ ()
          have t_n1 : (nI B).toInt = (B : Int) := tn2057_ ()
          have t_n2 : (nI T).toInt = (T : Int) := tn2058_ ()
          have t_n3 : (nI S).toInt = (S : Int) := tn2059_ ()
          have t_n4 : (nI M).toInt = (M : Int) := tn2060_ ()
          have tn2061_ : nIT kk := fun _ => nI_toInt (by omega)
          have t_n5 : (nI kk).toInt = (kk : Int) := tn2061_ ()
          exact i32_nat (by omega) (by omega)
        refine lv_aload_n hx hb dX11_read_39 rfl (lv_at hl 0 rfl) ?_
        refine lv_iconst (v := 0) hx hb dX11_read_40 rfl ?_
        refine lv_sipush (v := 147) hx hb dX11_read_41 rfl ?_
        obtain ⟨hPc, hDc, hFc⟩ := va_sub3 (ws' := [(h0, .inr (11, [.ref st, .int (nI N), .int (nI B), .ref rp, .int vrs, .int vrb, .int vhs, .int vca, .int vxs, .int vxb, .ref tp, .int (nI T), .int vfa, .int vbr, .int vba, .int vsp, .int vhe, .int vtk, .int vva, .ref cu, .ref lt, .ref od, .ref th, .ref be, .ref ln, .int (nI S), .ref ma, .int (nI M), .ref ah, .ref bh, .ref ik, .ref la, .ref lg, .ref ce, .int vto])), (st, .inl (G 0, 196, .inl fst))]) hP hD hS hA [0, 1] (by decide +kernel) rfl
        have tn2062_ : nIT kk := fun _ => nI_toInt (by first | omega | (have t_b6 := b6; have t_b11 := b11; have t_b15 := b15; have t_hkk := hkk; have t_hnn := hnn; omega))
        have tn2063_ : nIT nn := fun _ => nI_toInt (by first | omega | (have t_b6 := b6; have t_b11 := b11; have t_b15 := b15; have t_hkk := hkk; have t_hnn := hnn; omega))
        refine va_callv (va_runV (As := [.int 0, .int 147]) (rest := []) ⟨hx, hb, hml, hown, hg⟩ (c_X11_copiesW l dC dI G _ h0 0 147 st N B rp tp T cu lt od th be ln S ma M ah bh ik la lg ce vrs vrb vhs vca vxs vxb vfa vbr vba vsp vhe vtk vva vto fst hN hB_ hT_ hS0 hM_ hst (by first | omega | (have t_b6 := b6; have t_b11 := b11; have t_b15 := b15; have t_hkk := hkk; have t_hnn := hnn; have tnb_ := nib7 tn2056_ tn2057_ tn2058_ tn2059_ tn2060_ tn2062_ tn2063_; omega)) (by first | omega | (have t_b6 := b6; have t_b11 := b11; have t_b15 := b15; have t_hkk := hkk; have t_hnn := hnn; have tnb_ := nib7 tn2056_ tn2057_ tn2058_ tn2059_ tn2060_ tn2062_ tn2063_; omega)) (by first | omega | (have t_b6 := b6; have t_b11 := b11; have t_b15 := b15; have t_hkk := hkk; have t_hnn := hnn; have tnb_ := nib7 tn2056_ tn2057_ tn2058_ tn2059_ tn2060_ tn2062_ tn2063_; omega))) (kwV hg mfX11_copies wt_1248 ⟨Nat.le_of_ble_eq_true rfl, Nat.le_of_ble_eq_true rfl⟩) (preVW hK hPc hDc (ci := 11) (r := (RX11, TX11, 35)) rfl rfl) rfl rfl hl.1 rfl (lv_room (Nat.le_of_ble_eq_true rfl)) dX11_read_44 ⟨Nat.le_of_ble_eq_true rfl, Nat.le_of_ble_eq_true rfl⟩) hS (fun q _ h => hFc q h) hFc (fun ur16 t H1 locs ht hvm w17 hB hz1 hk1 hS => ?_)
        obtain ⟨u18, rfl⟩ : ∃ z, z = ur16 := ⟨_, rfl⟩
        obtain ⟨hP1, hD1⟩ := hB
        rw [ht] at hP1
        obtain ⟨hP, hD⟩ := va_join (wr := [(la, .inl (G 0, 4, .inl fla)), (lg, .inl (G 0, 4, .inl flg)), (ce, .inl (G 0, 160, .inl fce))]) (w1 := [(h0, .inr (11, [.ref st, .int (nI N), .int (nI B), .ref rp, .int vrs, .int vrb, .int vhs, .int vca, .int vxs, .int vxb, .ref tp, .int (nI T), .int vfa, .int vbr, .int vba, .int vsp, .int vhe, .int vtk, .int vva, .ref cu, .ref lt, .ref od, .ref th, .ref be, .ref ln, .int (nI S), .ref ma, .int (nI M), .ref ah, .ref bh, .ref ik, .ref la, .ref lg, .ref ce, .int vto])), (st, .inl (G 0, 196, .inl u18))]) hP hD [0, 1] [2, 3, 4] rfl rfl (by decide +kernel) (by decide +kernel) hk1 hFc hP1 hD1
        have w17 : OKS u18 ∧ u18 = cpj 0 147 49 fst := w17
        generalize H1 = H at hP hS ⊢
        have okw17 : OKS u18 ∧ RDI fst u18 := ⟨w17.1, (by rw [w17.2]; exact RDI.zero)⟩
        refine lv_iconst (v := 0) hx hb dX11_read_47 rfl ?_
        refine lv_istore (lv' := [(5, .int 0), (0, .ref h0), (1, .int (nI kk)), (2, .int lane), (3, .int x1), (4, .int (nI nn))]) hx hb dX11_read_48 hl (by decide) rfl (fun ls hl => ?_)
        refine lv_iconst (v := 0) hx hb dX11_read_50 rfl ?_
        refine lv_istore (lv' := [(6, .int 0), (5, .int 0), (0, .ref h0), (1, .int (nI kk)), (2, .int lane), (3, .int x1), (4, .int (nI nn))]) hx hb dX11_read_51 hl (by decide) rfl (fun ls hl => ?_)
        refine lv_iconst (v := 0) hx hb dX11_read_53 rfl ?_
        refine lv_istore (lv' := [(7, .int 0), (6, .int 0), (5, .int 0), (0, .ref h0), (1, .int (nI kk)), (2, .int lane), (3, .int x1), (4, .int (nI nn))]) hx hb dX11_read_54 hl (by decide) rfl (fun ls hl => ?_)
        have loop56_23 : ∀ (nf j19 : Nat), (2 * nn) + 1 ≤ j19 + nf → j19 ≤ (2 * nn) → ∀ (y20 : Int32) (y21 : Int32) (g22 : Nat → Int32) (H : Heap) (locs : List Loc), ((j19 = 0 ∨ y21.toInt ≠ 0 ∨ 0 ≤ x1.toInt) ∧ OKS g22 ∧ RDI fst g22) → va_P (dC, dI) vwCl [(la, .inl (G 0, 4, .inl fla)), (lg, .inl (G 0, 4, .inl flg)), (ce, .inl (G 0, 160, .inl fce)), (h0, .inr (11, [.ref st, .int (nI N), .int (nI B), .ref rp, .int vrs, .int vrb, .int vhs, .int vca, .int vxs, .int vxb, .ref tp, .int (nI T), .int vfa, .int vbr, .int vba, .int vsp, .int vhe, .int vtk, .int vva, .ref cu, .ref lt, .ref od, .ref th, .ref be, .ref ln, .int (nI S), .ref ma, .int (nI M), .ref ah, .ref bh, .ref ik, .ref la, .ref lg, .ref ce, .int vto])), (st, .inl (G 0, 196, .inl g22))] H → va_D A [(la, .inl (G 0, 4, .inl fla)), (lg, .inl (G 0, 4, .inl flg)), (ce, .inl (G 0, 160, .inl fce)), (h0, .inr (11, [.ref st, .int (nI N), .int (nI B), .ref rp, .int vrs, .int vrb, .int vhs, .int vca, .int vxs, .int vxb, .ref tp, .int (nI T), .int vfa, .int vbr, .int vba, .int vsp, .int vhe, .int vtk, .int vva, .ref cu, .ref lt, .ref od, .ref th, .ref be, .ref ln, .int (nI S), .ref ma, .int (nI M), .ref ah, .ref bh, .ref ik, .ref la, .ref lg, .ref ce, .int vto])), (st, .inl (G 0, 196, .inl g22))] → va_S A s.heap H locs → ∀ (ls : Array Slot), lv_has ls 9 [(7, .int (nI j19)), (6, .int y20), (5, .int y21), (0, .ref h0), (1, .int (nI kk)), (2, .int lane), (3, .int x1), (4, .int (nI nn))] → W p l e (headSpec (Cond.code yX11_read cX11_read 9 (some .int) :: GT) ({ frames := 3, cells := 0, slots := 0, locals := 68 } : Room)).room s m ([.ref h0, .int (nI kk), .int lane, .int x1, .int (nI nn)] : List Value).toArray below meth c H locs 0 0 (MQ below (va_Qi (fun (r : Int32) (u : (Nat → Int32) × Int32) => match u with | (ost, oto) => (True) ∧ OKS ost ∧ NO3 fst ost) (fun (u : (Nat → Int32) × Int32) (t : State) => match u with | (ost, oto) => va_P (dC, dI) vwCl [(h0, .inr (11, [.ref st, .int (nI N), .int (nI B), .ref rp, .int vrs, .int vrb, .int vhs, .int vca, .int vxs, .int vxb, .ref tp, .int (nI T), .int vfa, .int vbr, .int vba, .int vsp, .int vhe, .int vtk, .int vva, .ref cu, .ref lt, .ref od, .ref th, .ref be, .ref ln, .int (nI S), .ref ma, .int (nI M), .ref ah, .ref bh, .ref ik, .ref la, .ref lg, .ref ce, .int oto])), (st, .inl (G 0, 196, .inl ost)), (la, .inl (G 0, 4, .inl fla)), (lg, .inl (G 0, 4, .inl flg)), (ce, .inl (G 0, 160, .inl fce))] t.heap ∧ va_D A [(h0, .inr (11, [.ref st, .int (nI N), .int (nI B), .ref rp, .int vrs, .int vrb, .int vhs, .int vca, .int vxs, .int vxb, .ref tp, .int (nI T), .int vfa, .int vbr, .int vba, .int vsp, .int vhe, .int vtk, .int vva, .ref cu, .ref lt, .ref od, .ref th, .ref be, .ref ln, .int (nI S), .ref ma, .int (nI M), .ref ah, .ref bh, .ref ik, .ref la, .ref lg, .ref ce, .int oto])), (st, .inl (G 0, 196, .inl ost)), (la, .inl (G 0, 4, .inl fla)), (lg, .inl (G 0, 4, .inl flg)), (ce, .inl (G 0, 160, .inl fce))]) A) ([.ref h0, .int (nI kk), .int lane, .int x1, .int (nI nn)] : List Value).toArray s 0 0 A) (F0 m 56 ls []) := by
          intro nf
          induction nf with
          | zero => intro j19 h1 h2; exact absurd h1 (by omega)
          | succ nf ih56_23 =>
            intro j19 hn24 hj25 y20 y21 g22 H locs hinv hP hD hS ls hl
            refine lv_iload hx hb dX11_read_56 (lv_at hl 0 rfl) ?_
            refine lv_iconst (v := 2) hx hb dX11_read_58 rfl ?_
            refine lv_iload hx hb dX11_read_59 (lv_at hl 7 rfl) ?_
            refine lv_imul hx hb dX11_read_61 ?_
            refine lv_cg (y := nI (2 * nn)) (by rw [show (2 : Int32) = nI 2 from rfl]; exact pk_mul _ _) ?_
            have cut198_26 : ∀ (H : Heap) (locs : List Loc), va_P (dC, dI) vwCl [(la, .inl (G 0, 4, .inl fla)), (lg, .inl (G 0, 4, .inl flg)), (ce, .inl (G 0, 160, .inl fce)), (h0, .inr (11, [.ref st, .int (nI N), .int (nI B), .ref rp, .int vrs, .int vrb, .int vhs, .int vca, .int vxs, .int vxb, .ref tp, .int (nI T), .int vfa, .int vbr, .int vba, .int vsp, .int vhe, .int vtk, .int vva, .ref cu, .ref lt, .ref od, .ref th, .ref be, .ref ln, .int (nI S), .ref ma, .int (nI M), .ref ah, .ref bh, .ref ik, .ref la, .ref lg, .ref ce, .int vto])), (st, .inl (G 0, 196, .inl g22))] H → va_D A [(la, .inl (G 0, 4, .inl fla)), (lg, .inl (G 0, 4, .inl flg)), (ce, .inl (G 0, 160, .inl fce)), (h0, .inr (11, [.ref st, .int (nI N), .int (nI B), .ref rp, .int vrs, .int vrb, .int vhs, .int vca, .int vxs, .int vxb, .ref tp, .int (nI T), .int vfa, .int vbr, .int vba, .int vsp, .int vhe, .int vtk, .int vva, .ref cu, .ref lt, .ref od, .ref th, .ref be, .ref ln, .int (nI S), .ref ma, .int (nI M), .ref ah, .ref bh, .ref ik, .ref la, .ref lg, .ref ce, .int vto])), (st, .inl (G 0, 196, .inl g22))] → va_S A s.heap H locs → ∀ (ls : Array Slot), lv_has ls 9 [(7, .int (nI j19)), (6, .int y20), (5, .int y21), (0, .ref h0), (1, .int (nI kk)), (2, .int lane), (3, .int x1), (4, .int (nI nn))] → W p l e (headSpec (Cond.code yX11_read cX11_read 9 (some .int) :: GT) ({ frames := 3, cells := 0, slots := 0, locals := 68 } : Room)).room s m ([.ref h0, .int (nI kk), .int lane, .int x1, .int (nI nn)] : List Value).toArray below meth c H locs 0 0 (MQ below (va_Qi (fun (r : Int32) (u : (Nat → Int32) × Int32) => match u with | (ost, oto) => (True) ∧ OKS ost ∧ NO3 fst ost) (fun (u : (Nat → Int32) × Int32) (t : State) => match u with | (ost, oto) => va_P (dC, dI) vwCl [(h0, .inr (11, [.ref st, .int (nI N), .int (nI B), .ref rp, .int vrs, .int vrb, .int vhs, .int vca, .int vxs, .int vxb, .ref tp, .int (nI T), .int vfa, .int vbr, .int vba, .int vsp, .int vhe, .int vtk, .int vva, .ref cu, .ref lt, .ref od, .ref th, .ref be, .ref ln, .int (nI S), .ref ma, .int (nI M), .ref ah, .ref bh, .ref ik, .ref la, .ref lg, .ref ce, .int oto])), (st, .inl (G 0, 196, .inl ost)), (la, .inl (G 0, 4, .inl fla)), (lg, .inl (G 0, 4, .inl flg)), (ce, .inl (G 0, 160, .inl fce))] t.heap ∧ va_D A [(h0, .inr (11, [.ref st, .int (nI N), .int (nI B), .ref rp, .int vrs, .int vrb, .int vhs, .int vca, .int vxs, .int vxb, .ref tp, .int (nI T), .int vfa, .int vbr, .int vba, .int vsp, .int vhe, .int vtk, .int vva, .ref cu, .ref lt, .ref od, .ref th, .ref be, .ref ln, .int (nI S), .ref ma, .int (nI M), .ref ah, .ref bh, .ref ik, .ref la, .ref lg, .ref ce, .int oto])), (st, .inl (G 0, 196, .inl ost)), (la, .inl (G 0, 4, .inl fla)), (lg, .inl (G 0, 4, .inl flg)), (ce, .inl (G 0, 160, .inl fce))]) A) ([.ref h0, .int (nI kk), .int lane, .int x1, .int (nI nn)] : List Value).toArray s 0 0 A) (F0 m 198 ls []) := by
              intro  H locs hP hD hS ls hl
              refine lv_aload_n hx hb dX11_read_198 rfl (lv_at hl 3 rfl) ?_
              refine lv_iload hx hb dX11_read_199 (lv_at hl 2 rfl) ?_
              refine va_put (D := (dC, dI)) (ci := 11) (v := .int y21) (ty := .int) (C := RX11) (T := TX11) (N := 35) hx hb hg inG11 tyX11 tyX11_ok nmX11 hown hK.1 hP hD hS 3 rfl rfl 34 (Nat.le_of_ble_eq_true rfl) (hg _ wt_912) (fun _ h9 => h9) rfl (by decide +kernel) rfl rfl (Nat.le_of_ble_eq_true rfl) dX11_read_201 (fun H locs hP hD hS => ?_)
              refine lv_iload hx hb dX11_read_204 (lv_at hl 1 rfl) ?_
              have hpost : True := by
                trivial
              obtain ⟨hP9, hD9⟩ := va_sub2 (ws' := [(h0, .inr (11, [.ref st, .int (nI N), .int (nI B), .ref rp, .int vrs, .int vrb, .int vhs, .int vca, .int vxs, .int vxb, .ref tp, .int (nI T), .int vfa, .int vbr, .int vba, .int vsp, .int vhe, .int vtk, .int vva, .ref cu, .ref lt, .ref od, .ref th, .ref be, .ref ln, .int (nI S), .ref ma, .int (nI M), .ref ah, .ref bh, .ref ik, .ref la, .ref lg, .ref ce, .int y21])), (st, .inl (G 0, 196, .inl g22)), (la, .inl (G 0, 4, .inl fla)), (lg, .inl (G 0, 4, .inl flg)), (ce, .inl (G 0, 160, .inl fce))]) hP hD [3, 4, 0, 1, 2] (by decide +kernel) rfl
              refine W.widen (k := 0) (n := 0) (Nat.le_of_ble_eq_true rfl) (Nat.le_of_ble_eq_true rfl) ?_
              exact W.iret (v := y20) hx hb hr (fun t ht hW => ⟨⟨y20, (g22, y21), rfl, ⟨hpost, ⟨(hinv.2).1, (hinv.2).2.1⟩⟩, ⟨by rw [ht]; exact hP9, hD9⟩⟩, hS.F ht⟩) hS.2.2 dX11_read_206
            refine lv_icmp_ge (tgt := 198) hx hb dX11_read_62 rfl (fun c27 => ?_) (fun c27 => ?_)
            · skip
              have tn2064_ : nIT j19 := fun _ => nI_toInt (by first | omega | (have t := leI c27; omega))
              have tn2065_ : nIT (2 * nn) := fun _ => nI_toInt (by omega)
              have n28 : (2 * nn) ≤ j19 := by have t := leI c27; rw [show (nI (j19)).toInt = ((j19 : Nat) : Int) from tn2064_ ()] at t; rw [show (nI (2 * nn)).toInt = ((2 * nn : Nat) : Int) from tn2065_ ()] at t; omega
              exact cut198_26  _ _ hP hD hS ls (lv_sub hl [0, 1, 2, 3, 4, 5, 6, 7] rfl)
            · skip
              have tn2066_ : nIT j19 := fun _ => nI_toInt (by first | omega | (have t := nleI c27; omega))
              have tn2067_ : nIT (2 * nn) := fun _ => nI_toInt (by omega)
              have n29 : j19 < (2 * nn) := by have t := nleI c27; rw [show (nI (j19)).toInt = ((j19 : Nat) : Int) from tn2066_ ()] at t; rw [show (nI (2 * nn)).toInt = ((2 * nn : Nat) : Int) from tn2067_ ()] at t; omega
              refine lv_iload hx hb dX11_read_65 (lv_at hl 2 rfl) ?_
              refine lv_if_ne (tgt := 198) hx hb dX11_read_67 rfl (fun c30 => ?_) (fun c30 => ?_)
              · skip
                exact cut198_26  _ _ hP hD hS ls (lv_sub hl [0, 1, 2, 3, 4, 5, 6, 7] rfl)
              · skip
                refine lv_aload_n hx hb dX11_read_70 rfl (lv_at hl 3 rfl) ?_
                refine va_get (D := (dC, dI)) (ci := 11) (v := .ref la) (C := RX11) (T := TX11) (N := 35) hx hb hg inG11 hown hK.1 hP 3 rfl rfl 31 (Nat.le_of_ble_eq_true rfl) (hg _ wt_909) (fun _ h9 => h9) rfl dX11_read_71 ?_
                refine lv_iload_n hx hb dX11_read_74 rfl (lv_at hl 4 rfl) ?_
                refine va_iald hx hb hK.1 hP 0 0 rfl rfl (vp_in_nI (by first | omega | (have t_b6 := b6; have t_b11 := b11; have t_b15 := b15; have t_hkk := hkk; have t_hnn := hnn; have t_hj25 := hj25; have t_n29 := n29; have t_c30 := eqI c30; have : (0 : Int32).toInt = 0 := qI_0; have tnb_ := nib8 tn2056_ tn2057_ tn2058_ tn2059_ tn2060_ tn2062_ tn2063_ tn2066_; omega)) (by decide)) dX11_read_75 ?_
                refine lv_cg (y := fla kk) (by rw [nI_clamp (by omega)]) ?_
                refine lv_bipush (v := (-4)) hx hb dX11_read_76 rfl ?_
                refine lv_icmp_ne (tgt := 85) hx hb dX11_read_78 rfl (fun c31 => ?_) (fun c31 => ?_)
                · skip
                  refine lv_aload_n hx hb dX11_read_85 rfl (lv_at hl 3 rfl) ?_
                  refine va_get (D := (dC, dI)) (ci := 11) (v := .ref la) (C := RX11) (T := TX11) (N := 35) hx hb hg inG11 hown hK.1 hP 3 rfl rfl 31 (Nat.le_of_ble_eq_true rfl) (hg _ wt_909) (fun _ h9 => h9) rfl dX11_read_86 ?_
                  refine lv_iload_n hx hb dX11_read_89 rfl (lv_at hl 4 rfl) ?_
                  refine va_iald hx hb hK.1 hP 0 0 rfl rfl (vp_in_nI (by first | omega | (have t_b6 := b6; have t_b11 := b11; have t_b15 := b15; have t_hkk := hkk; have t_hnn := hnn; have t_hj25 := hj25; have t_n29 := n29; have t_c30 := eqI c30; have t_c31 := neI c31; have tqz_ := qz8_; have tnb_ := nib8 tn2056_ tn2057_ tn2058_ tn2059_ tn2060_ tn2062_ tn2063_ tn2066_; omega)) (by decide)) dX11_read_90 ?_
                  refine lv_cg (y := fla kk) (by rw [nI_clamp (by omega)]) ?_
                  refine lv_iload_n hx hb dX11_read_91 rfl (lv_at hl 5 rfl) ?_
                  refine lv_icmp_eq (tgt := 99) hx hb dX11_read_92 rfl (fun c32 => ?_) (fun c32 => ?_)
                  · skip
                    have hzk := hz kk (by omega)
                    have e9 := im1 (x := flg kk) hzk.1 hzk.2
                    have e8 := add64 x1 (nI j19)
                    refine lv_iload_n hx hb dX11_read_99 rfl (lv_at hl 6 rfl) ?_
                    refine lv_i2l (v := x1.toInt64) hx hb dX11_read_100 rfl ?_
                    refine lv_iload hx hb dX11_read_101 (lv_at hl 0 rfl) ?_
                    refine lv_i2l (v := (nI j19).toInt64) hx hb dX11_read_103 rfl ?_
                    refine lv_ladd hx hb dX11_read_104 ?_
                    refine lv_lconst (v := 0) hx hb dX11_read_105 (by decide) ?_
                    refine lv_aload_n hx hb dX11_read_106 rfl (lv_at hl 3 rfl) ?_
                    refine va_get (D := (dC, dI)) (ci := 11) (v := .ref lg) (C := RX11) (T := TX11) (N := 35) hx hb hg inG11 hown hK.1 hP 3 rfl rfl 32 (Nat.le_of_ble_eq_true rfl) (hg _ wt_910) (fun _ h9 => h9) rfl dX11_read_107 ?_
                    refine lv_iload_n hx hb dX11_read_110 rfl (lv_at hl 4 rfl) ?_
                    refine va_iald hx hb hK.1 hP 1 0 rfl rfl (vp_in_nI (by first | omega | (have t_b6 := b6; have t_b11 := b11; have t_b15 := b15; have t_hkk := hkk; have t_hnn := hnn; have t_hj25 := hj25; have t_n29 := n29; have t_c30 := eqI c30; have t_c31 := neI c31; have t_c32 := eqI c32; have tqz_ := qz8_; have tnb_ := nib8 tn2056_ tn2057_ tn2058_ tn2059_ tn2060_ tn2062_ tn2063_ tn2066_; omega)) (by decide)) dX11_read_111 ?_
                    refine lv_cg (y := flg kk) (by rw [nI_clamp (by omega)]) ?_
                    refine lv_iconst (v := 1) hx hb dX11_read_112 rfl ?_
                    refine lv_isub hx hb dX11_read_113 ?_
                    refine lv_i2l (v := ((flg kk) - 1).toInt64) hx hb dX11_read_114 rfl ?_
                    have hPc := hP.sub (ws' := []) [] rfl
                    refine va_calli (va_runS (As := [.long (x1.toInt64 + ((nI j19).toInt64)), .long 0, .long (((flg kk) - 1).toInt64)]) (rest := []) ⟨hx, hb, hml, hown, hg⟩ (c_X11_in l dC dI G _ (x1.toInt64 + ((nI j19).toInt64)) 0 (((flg kk) - 1).toInt64)) (kwS hg mfX11_in wt_992 ⟨Nat.le_of_ble_eq_true rfl, Nat.le_of_ble_eq_true rfl⟩) (preSR hK hPc) rfl rfl hl.1 rfl (lv_room (Nat.le_of_ble_eq_true rfl)) dX11_read_115 ⟨Nat.le_of_ble_eq_true rfl, Nat.le_of_ble_eq_true rfl⟩) hS (fun q h1 h2 => absurd h2 (Nat.not_le.mpr h1)) (fun q h => hA q (Nat.le_trans hS.1 h)) (fun r33 ur33 t H1 locs ht hvm w34 hB hz1 hk1 hS => ?_)
                    have hP := keepR hP hk1
                    obtain ⟨w34, w34x⟩ := w34
                    try simp only [l_ii, show (0 : Int64).toInt = 0 from by decide] at w34
                    subst w34
                    refine lv_if_ne (tgt := 125) hx hb dX11_read_118 rfl (fun c35 => ?_) (fun c35 => ?_)
                    · skip
                      have b36 := if10_p c35
                      refine lv_iconst (v := 0) hx hb dX11_read_125 rfl ?_
                      refine lv_istore (lv' := [(5, .int 0), (7, .int (nI j19)), (6, .int y20), (0, .ref h0), (1, .int (nI kk)), (2, .int lane), (3, .int x1), (4, .int (nI nn))]) hx hb dX11_read_126 hl (by decide) rfl (fun ls hl => ?_)
                      refine lv_iload hx hb dX11_read_128 (lv_at hl 0 rfl) ?_
                      refine lv_if_ne (tgt := 192) hx hb dX11_read_130 rfl (fun c37 => ?_) (fun c37 => ?_)
                      · skip
                        exact absurd c37 (by decide)
                      · skip
                        refine lv_iload hx hb dX11_read_133 (lv_at hl 1 rfl) ?_
                        refine lv_iconst (v := 2) hx hb dX11_read_135 rfl ?_
                        refine lv_irem hx hb dX11_read_136 (by decide) ?_
                        refine lv_cg (y := nI (j19 % 2)) (by rw [show (2 : Int32) = nI 2 from rfl]; exact pk_rem (by omega) (by omega) (by omega)) ?_
                        refine lv_iconst (v := 1) hx hb dX11_read_137 rfl ?_
                        refine lv_icmp_ne (tgt := 192) hx hb dX11_read_138 rfl (fun c38 => ?_) (fun c38 => ?_)
                        · skip
                          have tn2068_ : nIT (j19 % 2) := fun _ => nI_toInt (by first | omega | (have t := neI c38; omega))
                          have n39 : (j19 % 2) ≠ 1 := by have t := neI c38; rw [show (nI (j19 % 2)).toInt = ((j19 % 2 : Nat) : Int) from tn2068_ ()] at t; have : (1 : Int32).toInt = 1 := qI_1; omega
                          refine lv_iinc (v := nI (j19 + 1)) (lv' := [(7, .int (nI (j19 + 1))), (5, .int 0), (6, .int y20), (0, .ref h0), (1, .int (nI kk)), (2, .int lane), (3, .int x1), (4, .int (nI nn))]) hx hb dX11_read_192 hl (k := 1) rfl (by rw [show Int32.ofInt 1 = nI 1 from by decide]; exact nI_add _ _) (by decide) rfl (fun ls hl => ?_)
                          refine lv_goto (tgt := 56) hx hb dX11_read_195 rfl ?_
                          exact ih56_23 (j19 + 1) (by omega) (by omega) y20 0 g22 _ _ ⟨Or.inr (Or.inr (by have t_b6 := b6; have t_b11 := b11; have t_b15 := b15; have t_hkk := hkk; have t_hnn := hnn; have t_hj25 := hj25; have t_n29 := n29; have t_c30 := eqI c30; have t_c31 := neI c31; have t_c32 := eqI c32; have t_b36 := b36; have t_c37 := eqI c37; have t_n39 := n39; have tqz_ := qz8_; have tnb_ := nib8 tn2056_ tn2057_ tn2058_ tn2059_ tn2060_ tn2062_ tn2063_ tn2066_; omega)), hinv.2⟩ hP hD hS ls (lv_sub hl [0, 2, 1, 3, 4, 5, 6, 7] rfl)
                        · skip
                          have tn2069_ : nIT (j19 % 2) := fun _ => nI_toInt (by first | omega | (have t := eqI c38; omega))
                          have n40 : (j19 % 2) = 1 := by have t := eqI c38; rw [show (nI (j19 % 2)).toInt = ((j19 % 2 : Nat) : Int) from tn2069_ ()] at t; have : (1 : Int32).toInt = 1 := qI_1; omega
                          refine lv_bipush (v := 40) hx hb dX11_read_141 rfl ?_
                          refine lv_iload_n hx hb dX11_read_143 rfl (lv_at hl 4 rfl) ?_
                          refine lv_imul hx hb dX11_read_144 ?_
                          refine lv_cg (y := nI (40 * kk)) (by rw [show (40 : Int32) = nI 40 from rfl]; exact pk_mul _ _) ?_
                          refine lv_iload_n hx hb dX11_read_145 rfl (lv_at hl 6 rfl) ?_
                          refine lv_iadd hx hb dX11_read_146 ?_
                          refine lv_iload hx hb dX11_read_147 (lv_at hl 1 rfl) ?_
                          refine lv_iadd hx hb dX11_read_149 ?_
                          obtain ⟨cx9, hcx9, hcy9, ecx9⟩ := rd_ix (k := kk) (j := j19) (x := x1) (by omega) (by omega) (by have t_b6 := b6; have t_b11 := b11; have t_b15 := b15; have t_hkk := hkk; have t_hnn := hnn; have t_hj25 := hj25; have t_n29 := n29; have t_c30 := eqI c30; have t_c31 := neI c31; have t_c32 := eqI c32; have t_b36 := b36; have t_c37 := eqI c37; have t_n40 := n40; have tqz_ := qz8_; have tnb_ := nib8 tn2056_ tn2057_ tn2058_ tn2059_ tn2060_ tn2062_ tn2063_ tn2066_; omega) (by have t_b6 := b6; have t_b11 := b11; have t_b15 := b15; have t_hkk := hkk; have t_hnn := hnn; have t_hj25 := hj25; have t_n29 := n29; have t_c30 := eqI c30; have t_c31 := neI c31; have t_c32 := eqI c32; have t_b36 := b36; have t_c37 := eqI c37; have t_n40 := n40; have tqz_ := qz8_; have tnb_ := nib8 tn2056_ tn2057_ tn2058_ tn2059_ tn2060_ tn2062_ tn2063_ tn2066_; omega)
                          refine lv_cg (y := nI cx9) ecx9 ?_
                          refine lv_istore (lv' := [(8, .int (nI cx9)), (5, .int 0), (7, .int (nI j19)), (6, .int y20), (0, .ref h0), (1, .int (nI kk)), (2, .int lane), (3, .int x1), (4, .int (nI nn))]) hx hb dX11_read_150 hl (by decide) rfl (fun ls hl => ?_)
                          refine lv_aload_n hx hb dX11_read_152 rfl (lv_at hl 4 rfl) ?_
                          refine lv_aload_n hx hb dX11_read_153 rfl (lv_at hl 4 rfl) ?_
                          refine va_get (D := (dC, dI)) (ci := 11) (v := .ref ce) (C := RX11) (T := TX11) (N := 35) hx hb hg inG11 hown hK.1 hP 3 rfl rfl 33 (Nat.le_of_ble_eq_true rfl) (hg _ wt_911) (fun _ h9 => h9) rfl dX11_read_154 ?_
                          refine lv_iload hx hb dX11_read_157 (lv_at hl 0 rfl) ?_
                          refine lv_iconst (v := 1) hx hb dX11_read_159 rfl ?_
                          refine lv_isub hx hb dX11_read_160 ?_
                          have tn2070_ : nIT cx9 := fun _ => nI_toInt (by first | omega | (have t_b6 := b6; have t_b11 := b11; have t_b15 := b15; have t_hkk := hkk; have t_hnn := hnn; have t_hj25 := hj25; have t_n29 := n29; have t_c30 := eqI c30; have t_c31 := neI c31; have t_c32 := eqI c32; have t_b36 := b36; have t_c37 := eqI c37; have t_n40 := n40; have t_hcx9 := hcx9; have t_hcy9 := hcy9; have tqz_ := qz8_; omega))
                          refine lv_cg (y := nI (cx9 - 1)) (by rw [show (1 : Int32) = nI 1 from rfl]; exact pk_sub (by have t_b6 := b6; have t_b11 := b11; have t_b15 := b15; have t_hkk := hkk; have t_hnn := hnn; have t_hj25 := hj25; have t_n29 := n29; have t_c30 := eqI c30; have t_c31 := neI c31; have t_c32 := eqI c32; have t_b36 := b36; have t_c37 := eqI c37; have t_n40 := n40; have t_hcx9 := hcx9; have t_hcy9 := hcy9; have tqz_ := qz8_; have tnb_ := nib9 tn2056_ tn2057_ tn2058_ tn2059_ tn2060_ tn2062_ tn2063_ tn2066_ tn2070_; omega)) ?_
                          refine va_iald hx hb hK.1 hP 2 0 rfl rfl (vp_in_nI (by first | omega | (have t_b6 := b6; have t_b11 := b11; have t_b15 := b15; have t_hkk := hkk; have t_hnn := hnn; have t_hj25 := hj25; have t_n29 := n29; have t_c30 := eqI c30; have t_c31 := neI c31; have t_c32 := eqI c32; have t_b36 := b36; have t_c37 := eqI c37; have t_n40 := n40; have t_hcx9 := hcx9; have t_hcy9 := hcy9; have tqz_ := qz8_; have tnb_ := nib9 tn2056_ tn2057_ tn2058_ tn2059_ tn2060_ tn2062_ tn2063_ tn2066_ tn2070_; omega)) (by decide)) dX11_read_161 ?_
                          refine lv_cg (y := fce (cx9 - 1)) (by rw [nI_clamp (by omega)]) ?_
                          refine lv_aload_n hx hb dX11_read_162 rfl (lv_at hl 4 rfl) ?_
                          refine va_get (D := (dC, dI)) (ci := 11) (v := .ref ce) (C := RX11) (T := TX11) (N := 35) hx hb hg inG11 hown hK.1 hP 3 rfl rfl 33 (Nat.le_of_ble_eq_true rfl) (hg _ wt_911) (fun _ h9 => h9) rfl dX11_read_163 ?_
                          refine lv_iload hx hb dX11_read_166 (lv_at hl 0 rfl) ?_
                          refine va_iald hx hb hK.1 hP 2 0 rfl rfl (vp_in_nI (by first | omega | (have t_b6 := b6; have t_b11 := b11; have t_b15 := b15; have t_hkk := hkk; have t_hnn := hnn; have t_hj25 := hj25; have t_n29 := n29; have t_c30 := eqI c30; have t_c31 := neI c31; have t_c32 := eqI c32; have t_b36 := b36; have t_c37 := eqI c37; have t_n40 := n40; have t_hcx9 := hcx9; have t_hcy9 := hcy9; have tqz_ := qz8_; have tnb_ := nib9 tn2056_ tn2057_ tn2058_ tn2059_ tn2060_ tn2062_ tn2063_ tn2066_ tn2070_; omega)) (by decide)) dX11_read_168 ?_
                          refine lv_cg (y := fce cx9) (by rw [nI_clamp (by omega)]) ?_
                          obtain ⟨hPc, hDc, hFc⟩ := va_sub3 (ws' := [(h0, .inr (11, [.ref st, .int (nI N), .int (nI B), .ref rp, .int vrs, .int vrb, .int vhs, .int vca, .int vxs, .int vxb, .ref tp, .int (nI T), .int vfa, .int vbr, .int vba, .int vsp, .int vhe, .int vtk, .int vva, .ref cu, .ref lt, .ref od, .ref th, .ref be, .ref ln, .int (nI S), .ref ma, .int (nI M), .ref ah, .ref bh, .ref ik, .ref la, .ref lg, .ref ce, .int vto])), (st, .inl (G 0, 196, .inl g22))]) hP hD hS hA [3, 4] (by decide +kernel) rfl
                          refine va_calli (va_runV (As := [.int (fce (cx9 - 1)), .int (fce cx9)]) (rest := []) ⟨hx, hb, hml, hown, hg⟩ (c_X11_putsW l dC dI G _ h0 st N B rp tp T cu lt od th be ln S ma M ah bh ik la lg ce (fce (cx9 - 1)) (fce cx9) vrs vrb vhs vca vxs vxb vfa vbr vba vsp vhe vtk vva vto g22 hN hB_ hT_ hS0 hM_ (hinv.2).1) (kwV hg mfX11_puts wt_1094 ⟨Nat.le_of_ble_eq_true rfl, Nat.le_of_ble_eq_true rfl⟩) (preVW hK hPc hDc (ci := 11) (r := (RX11, TX11, 35)) rfl rfl) rfl rfl hl.1 rfl (lv_room (Nat.le_of_ble_eq_true rfl)) dX11_read_169 ⟨Nat.le_of_ble_eq_true rfl, Nat.le_of_ble_eq_true rfl⟩) hS (fun q _ h => hFc q h) hFc (fun r41 ur41 t H1 locs ht hvm w42 hB hz1 hk1 hS => ?_)
                          obtain ⟨u43, rfl⟩ : ∃ z, z = ur41 := ⟨_, rfl⟩
                          obtain ⟨hP1, hD1⟩ := hB
                          rw [ht] at hP1
                          obtain ⟨hP, hD⟩ := va_join (wr := [(la, .inl (G 0, 4, .inl fla)), (lg, .inl (G 0, 4, .inl flg)), (ce, .inl (G 0, 160, .inl fce))]) (w1 := [(h0, .inr (11, [.ref st, .int (nI N), .int (nI B), .ref rp, .int vrs, .int vrb, .int vhs, .int vca, .int vxs, .int vxb, .ref tp, .int (nI T), .int vfa, .int vbr, .int vba, .int vsp, .int vhe, .int vtk, .int vva, .ref cu, .ref lt, .ref od, .ref th, .ref be, .ref ln, .int (nI S), .ref ma, .int (nI M), .ref ah, .ref bh, .ref ik, .ref la, .ref lg, .ref ce, .int vto])), (st, .inl (G 0, 196, .inl u43))]) hP hD [3, 4] [0, 1, 2] rfl rfl (by decide +kernel) (by decide +kernel) hk1 hFc hP1 hD1
                          generalize H1 = H at hP hS ⊢
                          obtain ⟨w42, w42x⟩ := w42
                          have okw42 : OKS u43 ∧ RDI fst u43 := ⟨w42x.1, (hinv.2 : OKS g22 ∧ RDI fst g22).2.no w42x.2⟩
                          refine lv_if_ge (tgt := 189) hx hb dX11_read_172 rfl (fun c44 => ?_) (fun c44 => ?_)
                          · skip
                            refine lv_iinc (v := y20 + 1) (lv' := [(6, .int (y20 + 1)), (8, .int (nI cx9)), (5, .int 0), (7, .int (nI j19)), (0, .ref h0), (1, .int (nI kk)), (2, .int lane), (3, .int x1), (4, .int (nI nn))]) hx hb dX11_read_189 hl (k := 3) rfl (rfl) (by decide) rfl (fun ls hl => ?_)
                            refine lv_iinc (v := nI (j19 + 1)) (lv' := [(7, .int (nI (j19 + 1))), (6, .int (y20 + 1)), (8, .int (nI cx9)), (5, .int 0), (0, .ref h0), (1, .int (nI kk)), (2, .int lane), (3, .int x1), (4, .int (nI nn))]) hx hb dX11_read_192 hl (k := 3) rfl (by rw [show Int32.ofInt 1 = nI 1 from by decide]; exact nI_add _ _) (by decide) rfl (fun ls hl => ?_)
                            refine lv_goto (tgt := 56) hx hb dX11_read_195 rfl ?_
                            exact ih56_23 (j19 + 1) (by omega) (by omega) (y20 + 1) 0 u43 _ _ ⟨Or.inr (Or.inr (by have t_b6 := b6; have t_b11 := b11; have t_b15 := b15; have t_hkk := hkk; have t_hnn := hnn; have t_hj25 := hj25; have t_n29 := n29; have t_c30 := eqI c30; have t_c31 := neI c31; have t_c32 := eqI c32; have t_b36 := b36; have t_c37 := eqI c37; have t_n40 := n40; have t_hcx9 := hcx9; have t_hcy9 := hcy9; have t_c44 := leI c44; have tqz_ := qz8_; have tnb_ := nib9 tn2056_ tn2057_ tn2058_ tn2059_ tn2060_ tn2062_ tn2063_ tn2066_ tn2070_; omega)), okw42⟩ hP hD hS ls (lv_sub hl [0, 1, 3, 4, 5, 6, 7, 8] rfl)
                          · skip
                            refine lv_aload_n hx hb dX11_read_175 rfl (lv_at hl 4 rfl) ?_
                            refine lv_sipush (v := 147) hx hb dX11_read_176 rfl ?_
                            refine lv_iconst (v := 0) hx hb dX11_read_179 rfl ?_
                            obtain ⟨hPc, hDc, hFc⟩ := va_sub3 (ws' := [(h0, .inr (11, [.ref st, .int (nI N), .int (nI B), .ref rp, .int vrs, .int vrb, .int vhs, .int vca, .int vxs, .int vxb, .ref tp, .int (nI T), .int vfa, .int vbr, .int vba, .int vsp, .int vhe, .int vtk, .int vva, .ref cu, .ref lt, .ref od, .ref th, .ref be, .ref ln, .int (nI S), .ref ma, .int (nI M), .ref ah, .ref bh, .ref ik, .ref la, .ref lg, .ref ce, .int vto])), (st, .inl (G 0, 196, .inl u43))]) hP hD hS hA [3, 4] (by decide +kernel) rfl
                            refine va_callv (va_runV (As := [.int 147, .int 0]) (rest := []) ⟨hx, hb, hml, hown, hg⟩ (c_X11_copiesW l dC dI G _ h0 147 0 st N B rp tp T cu lt od th be ln S ma M ah bh ik la lg ce vrs vrb vhs vca vxs vxb vfa vbr vba vsp vhe vtk vva vto u43 hN hB_ hT_ hS0 hM_ (okw42).1 (by first | omega | (have t_b6 := b6; have t_b11 := b11; have t_b15 := b15; have t_hkk := hkk; have t_hnn := hnn; have t_hj25 := hj25; have t_n29 := n29; have t_c30 := eqI c30; have t_c31 := neI c31; have t_c32 := eqI c32; have t_b36 := b36; have t_c37 := eqI c37; have t_n40 := n40; have t_hcx9 := hcx9; have t_hcy9 := hcy9; have t_c44 := nleI c44; have tqz_ := qz8_; have tnb_ := nib9 tn2056_ tn2057_ tn2058_ tn2059_ tn2060_ tn2062_ tn2063_ tn2066_ tn2070_; omega)) (by first | omega | (have t_b6 := b6; have t_b11 := b11; have t_b15 := b15; have t_hkk := hkk; have t_hnn := hnn; have t_hj25 := hj25; have t_n29 := n29; have t_c30 := eqI c30; have t_c31 := neI c31; have t_c32 := eqI c32; have t_b36 := b36; have t_c37 := eqI c37; have t_n40 := n40; have t_hcx9 := hcx9; have t_hcy9 := hcy9; have t_c44 := nleI c44; have tqz_ := qz8_; have tnb_ := nib9 tn2056_ tn2057_ tn2058_ tn2059_ tn2060_ tn2062_ tn2063_ tn2066_ tn2070_; omega)) (by first | omega | (have t_b6 := b6; have t_b11 := b11; have t_b15 := b15; have t_hkk := hkk; have t_hnn := hnn; have t_hj25 := hj25; have t_n29 := n29; have t_c30 := eqI c30; have t_c31 := neI c31; have t_c32 := eqI c32; have t_b36 := b36; have t_c37 := eqI c37; have t_n40 := n40; have t_hcx9 := hcx9; have t_hcy9 := hcy9; have t_c44 := nleI c44; have tqz_ := qz8_; have tnb_ := nib9 tn2056_ tn2057_ tn2058_ tn2059_ tn2060_ tn2062_ tn2063_ tn2066_ tn2070_; omega))) (kwV hg mfX11_copies wt_1248 ⟨Nat.le_of_ble_eq_true rfl, Nat.le_of_ble_eq_true rfl⟩) (preVW hK hPc hDc (ci := 11) (r := (RX11, TX11, 35)) rfl rfl) rfl rfl hl.1 rfl (lv_room (Nat.le_of_ble_eq_true rfl)) dX11_read_180 ⟨Nat.le_of_ble_eq_true rfl, Nat.le_of_ble_eq_true rfl⟩) hS (fun q _ h => hFc q h) hFc (fun ur45 t H1 locs ht hvm w46 hB hz1 hk1 hS => ?_)
                            obtain ⟨u47, rfl⟩ : ∃ z, z = ur45 := ⟨_, rfl⟩
                            obtain ⟨hP1, hD1⟩ := hB
                            rw [ht] at hP1
                            obtain ⟨hP, hD⟩ := va_join (wr := [(la, .inl (G 0, 4, .inl fla)), (lg, .inl (G 0, 4, .inl flg)), (ce, .inl (G 0, 160, .inl fce))]) (w1 := [(h0, .inr (11, [.ref st, .int (nI N), .int (nI B), .ref rp, .int vrs, .int vrb, .int vhs, .int vca, .int vxs, .int vxb, .ref tp, .int (nI T), .int vfa, .int vbr, .int vba, .int vsp, .int vhe, .int vtk, .int vva, .ref cu, .ref lt, .ref od, .ref th, .ref be, .ref ln, .int (nI S), .ref ma, .int (nI M), .ref ah, .ref bh, .ref ik, .ref la, .ref lg, .ref ce, .int vto])), (st, .inl (G 0, 196, .inl u47))]) hP hD [3, 4] [0, 1, 2] rfl rfl (by decide +kernel) (by decide +kernel) hk1 hFc hP1 hD1
                            have w46 : OKS u47 ∧ u47 = cpj 147 0 49 u43 := w46
                            generalize H1 = H at hP hS ⊢
                            have okw46 : OKS u47 ∧ NO3 fst u47 := ⟨w46.1, (by rw [w46.2]; exact (okw42).2.back)⟩
                            refine lv_bipush (v := (-20)) hx hb dX11_read_183 rfl ?_
                            refine lv_iload hx hb dX11_read_185 (lv_at hl 3 rfl) ?_
                            refine lv_isub hx hb dX11_read_187 ?_
                            have hpost : True := by
                              trivial
                            obtain ⟨hP9, hD9⟩ := va_sub2 (ws' := [(h0, .inr (11, [.ref st, .int (nI N), .int (nI B), .ref rp, .int vrs, .int vrb, .int vhs, .int vca, .int vxs, .int vxb, .ref tp, .int (nI T), .int vfa, .int vbr, .int vba, .int vsp, .int vhe, .int vtk, .int vva, .ref cu, .ref lt, .ref od, .ref th, .ref be, .ref ln, .int (nI S), .ref ma, .int (nI M), .ref ah, .ref bh, .ref ik, .ref la, .ref lg, .ref ce, .int vto])), (st, .inl (G 0, 196, .inl u47)), (la, .inl (G 0, 4, .inl fla)), (lg, .inl (G 0, 4, .inl flg)), (ce, .inl (G 0, 160, .inl fce))]) hP hD [3, 4, 0, 1, 2] (by decide +kernel) rfl
                            refine W.widen (k := 0) (n := 0) (Nat.le_of_ble_eq_true rfl) (Nat.le_of_ble_eq_true rfl) ?_
                            exact W.iret (v := (-20) - y20) hx hb hr (fun t ht hW => ⟨⟨(-20) - y20, (u47, vto), rfl, ⟨hpost, okw46⟩, ⟨by rw [ht]; exact hP9, hD9⟩⟩, hS.F ht⟩) hS.2.2 dX11_read_188
                    · skip
                      have b48 := if10_n c35
                      refine lv_iconst (v := 2) hx hb dX11_read_121 rfl ?_
                      refine lv_goto (tgt := 126) hx hb dX11_read_122 rfl ?_
                      refine lv_istore (lv' := [(5, .int 2), (7, .int (nI j19)), (6, .int y20), (0, .ref h0), (1, .int (nI kk)), (2, .int lane), (3, .int x1), (4, .int (nI nn))]) hx hb dX11_read_126 hl (by decide) rfl (fun ls hl => ?_)
                      refine lv_iload hx hb dX11_read_128 (lv_at hl 0 rfl) ?_
                      refine lv_if_ne (tgt := 192) hx hb dX11_read_130 rfl (fun c49 => ?_) (fun c49 => ?_)
                      · skip
                        refine lv_iinc (v := nI (j19 + 1)) (lv' := [(7, .int (nI (j19 + 1))), (5, .int 2), (6, .int y20), (0, .ref h0), (1, .int (nI kk)), (2, .int lane), (3, .int x1), (4, .int (nI nn))]) hx hb dX11_read_192 hl (k := 1) rfl (by rw [show Int32.ofInt 1 = nI 1 from by decide]; exact nI_add _ _) (by decide) rfl (fun ls hl => ?_)
                        refine lv_goto (tgt := 56) hx hb dX11_read_195 rfl ?_
                        exact ih56_23 (j19 + 1) (by omega) (by omega) y20 2 g22 _ _ ⟨Or.inr (Or.inl (by decide)), hinv.2⟩ hP hD hS ls (lv_sub hl [0, 2, 1, 3, 4, 5, 6, 7] rfl)
                      · skip
                        exact absurd c49 (by decide)
                  · skip
                    refine lv_iconst (v := 3) hx hb dX11_read_95 rfl ?_
                    refine lv_goto (tgt := 126) hx hb dX11_read_96 rfl ?_
                    refine lv_istore (lv' := [(5, .int 3), (7, .int (nI j19)), (6, .int y20), (0, .ref h0), (1, .int (nI kk)), (2, .int lane), (3, .int x1), (4, .int (nI nn))]) hx hb dX11_read_126 hl (by decide) rfl (fun ls hl => ?_)
                    refine lv_iload hx hb dX11_read_128 (lv_at hl 0 rfl) ?_
                    refine lv_if_ne (tgt := 192) hx hb dX11_read_130 rfl (fun c50 => ?_) (fun c50 => ?_)
                    · skip
                      refine lv_iinc (v := nI (j19 + 1)) (lv' := [(7, .int (nI (j19 + 1))), (5, .int 3), (6, .int y20), (0, .ref h0), (1, .int (nI kk)), (2, .int lane), (3, .int x1), (4, .int (nI nn))]) hx hb dX11_read_192 hl (k := 1) rfl (by rw [show Int32.ofInt 1 = nI 1 from by decide]; exact nI_add _ _) (by decide) rfl (fun ls hl => ?_)
                      refine lv_goto (tgt := 56) hx hb dX11_read_195 rfl ?_
                      exact ih56_23 (j19 + 1) (by omega) (by omega) y20 3 g22 _ _ ⟨Or.inr (Or.inl (by decide)), hinv.2⟩ hP hD hS ls (lv_sub hl [0, 2, 1, 3, 4, 5, 6, 7] rfl)
                    · skip
                      exact absurd c50 (by decide)
                · skip
                  refine lv_iconst (v := 1) hx hb dX11_read_81 rfl ?_
                  refine lv_goto (tgt := 126) hx hb dX11_read_82 rfl ?_
                  refine lv_istore (lv' := [(5, .int 1), (7, .int (nI j19)), (6, .int y20), (0, .ref h0), (1, .int (nI kk)), (2, .int lane), (3, .int x1), (4, .int (nI nn))]) hx hb dX11_read_126 hl (by decide) rfl (fun ls hl => ?_)
                  refine lv_iload hx hb dX11_read_128 (lv_at hl 0 rfl) ?_
                  refine lv_if_ne (tgt := 192) hx hb dX11_read_130 rfl (fun c51 => ?_) (fun c51 => ?_)
                  · skip
                    refine lv_iinc (v := nI (j19 + 1)) (lv' := [(7, .int (nI (j19 + 1))), (5, .int 1), (6, .int y20), (0, .ref h0), (1, .int (nI kk)), (2, .int lane), (3, .int x1), (4, .int (nI nn))]) hx hb dX11_read_192 hl (k := 1) rfl (by rw [show Int32.ofInt 1 = nI 1 from by decide]; exact nI_add _ _) (by decide) rfl (fun ls hl => ?_)
                    refine lv_goto (tgt := 56) hx hb dX11_read_195 rfl ?_
                    exact ih56_23 (j19 + 1) (by omega) (by omega) y20 1 g22 _ _ ⟨Or.inr (Or.inl (by decide)), hinv.2⟩ hP hD hS ls (lv_sub hl [0, 2, 1, 3, 4, 5, 6, 7] rfl)
                  · skip
                    exact absurd c51 (by decide)
        exact loop56_23 ((2 * nn) + 1) 0 (by omega) (by omega) 0 0 u18 _ _ ⟨Or.inl rfl, okw17⟩ hP hD hS ls (lv_sub hl [0, 1, 2, 3, 4, 5, 6, 7] rfl)
      · skip
        have b52 := if10_n c14
        exact cut37_3  _ _ hP hD hS ls (lv_sub hl [0, 1, 2, 3, 4] rfl)

def rdO (a b o : Nat → Int32) : Nat → Nat → Int32
  | 0 => o
  | n + 1 => upd (rdO a b o n) (a n).toNatClampNeg (b n)
def RDJ (fs z a b : Nat → Int32) (p : Nat) : Prop := NO3 fs z ∧ (∀ x : Nat, x < 10 → z (38 + x) = rdO a b (fun i => fs (38 + i)) p x) ∧ (∀ x : Nat, x < 49 → z (147 + x) = fs x)
theorem RDJ.zero {fs a b : Nat → Int32} : RDJ fs (cpj 0 147 49 fs) a b 0 := by
  refine ⟨RDI.zero.1, fun x hx => ?_, fun x hx => ?_⟩
  · exact cpj_out (by omega)
  · have q : cpj 0 147 49 fs (147 + x) = fs (0 + x) := cpj_in hx
    rw [Nat.zero_add] at q
    exact q
theorem RDJ.put {fs z a b : Nat → Int32} {p : Nat} (h : RDJ fs z a b p) (ha : (a p).toNatClampNeg < 10) : RDJ fs (upd z (38 + (a p).toNatClampNeg) (b p)) a b (p + 1) := by
  refine ⟨fun x h1 h2 => ?_, fun x hx => ?_, fun x hx => ?_⟩
  · exact (if_neg (by omega)).trans (h.1 x h1 h2)
  · show (if 38 + x = 38 + (a p).toNatClampNeg then b p else z (38 + x)) = (if x = (a p).toNatClampNeg then b p else rdO a b (fun i => fs (38 + i)) p x)
    by_cases c : x = (a p).toNatClampNeg
    · rw [if_pos c, if_pos (by omega)]
    · rw [if_neg c, if_neg (by omega)]; exact h.2.1 x hx
  · exact (if_neg (by omega)).trans (h.2.2 x hx)
theorem RDJ.back {fs z a b : Nat → Int32} {p : Nat} (h : RDJ fs z a b p) : ∀ x : Nat, x < 147 → cpj 147 0 49 z x = fs x := by
  intro x hx
  show (if 0 ≤ x ∧ x < 0 + 49 then z (147 + (x - 0)) else z x) = fs x
  by_cases c : x < 49
  · rw [if_pos (by omega), Nat.sub_zero]; exact h.2.2 x c
  · rw [if_neg (by omega)]; exact h.1 x hx (by omega)

def OR (f O : Nat → Int32) : Prop := ∀ i : Nat, i < 10 → O i = f i
def SO (o : Nat) (st O : Nat → Int32) : Prop := ∀ i : Nat, i < 10 → st (o + i) = O i
theorem OR.set {C : Prop} [Decidable C] {j : Nat} {v : Int32} {f O : Nat → Int32} (h : OR f O) : OR (if C then upd f j v else f) (if C then upd O j v else O) := by
  split
  · intro i hi
    show (if i = j then v else O i) = (if i = j then v else f i)
    rw [h i hi]
  · exact h
theorem SO.set {C : Prop} [Decidable C] {o j : Nat} {v : Int32} {st O : Nat → Int32} (h : SO o st O) : SO o (if C then upd st (o + j) v else st) (if C then upd O j v else O) := by
  split
  · intro i hi
    show (if o + i = o + j then v else st (o + i)) = (if i = j then v else O i)
    by_cases e : i = j
    · rw [if_pos e, if_pos (by omega)]
    · rw [if_neg e, if_neg (by omega)]; exact h i hi
  · exact h
theorem SO.oth {C : Prop} [Decidable C] {o j : Nat} {v : Int32} {st O : Nat → Int32} (h : SO o st O) (ho : C → j < o ∨ o + 10 ≤ j) : SO o (if C then upd st j v else st) O := by
  split
  · rename_i c
    intro i hi
    have := ho c
    exact (if_neg (by omega)).trans (h i hi)
  · exact h

theorem OR.cpy {f e O : Nat → Int32} (h : OR f O) : OR (va_cpy f e 0 0 10) O := fun i hi => (h i hi).trans (cpy_i hi).symm
theorem OR.kp {k c : Int32} {f e O O1 : Nat → Int32} (h : OR f O) (h1 : OR e O1) : OR (if k = c then va_cpy f e 0 0 10 else e) (if k = c then O else O1) := by
  split
  · exact h.cpy
  · exact h1
theorem OR.bk {k : Int32} {K f a b O O1 O2 : Nat → Int32} (h : OR f O) (h1 : OR a O1) (h2 : OR b O2) : OR (if k = 0 ∧ ¬ K 0 = 0 then va_cpy a f 0 0 10 else if k = 1 ∧ ¬ K 1 = 0 then va_cpy b f 0 0 10 else f) (bkW k K O O1 O2) := by
  unfold bkW
  split
  · exact h1.cpy
  · split
    · exact h2.cpy
    · exact h
def txO (f : Nat → Int32) (T : Nat) (O : Nat → Int32) : Nat → Int32 := if 0 < (txF f T).toInt then O else fun i => (TQ f T).1.2.2.2.2.2.2.2 (38 + i)
theorem OR.text {f : Nat → Int32} {T : Nat} {f3 O : Nat → Int32} (h3 : T ≤ 320) {x3 : Int32} {g1 g2 g3 g4 g5 g6 : Nat → Int32} (h : OR f3 O) : OR (if (cFN T (cRA f T x3 g1 g2 g3 g4 g5 g6).1).1 = 0 then va_cpy ((cRA f T x3 g1 g2 g3 g4 g5 g6).1.2.2.2.2.2.2.2.2.2.2.1) f3 0 0 10 else f3) (txO f T O) := by
  have ts := text_sim (f := f) h3 x3 g1 g2 g3 g4 g5 g6 0 0 0 0 (fun _ => 0)
  unfold txO txF TQ
  generalize cRA f T x3 g1 g2 g3 g4 g5 g6 = Q at ts ⊢
  generalize txQ f T 0 0 0 0 (fun _ => 0) = X at ts ⊢
  rcases ts with ⟨p, q, _, w, _⟩ | g
  · rw [if_pos p, q, if_neg (by decide)]
    obtain ⟨⟨w1, w2, w3, w4, w5, w6⟩, w7, w8, w9, w10, w11⟩ := w
    exact OR.cpy (fun i hi => w10 i hi)
  · rw [if_neg g.m, if_pos g.pos]
    exact h
theorem SO.text {f : Nat → Int32} {T : Nat} {st O : Nat → Int32} (h3 : T ≤ 320) {ba : Int32} {he : Nat} {tk va : Int32} {fp : Nat → Int32} (h : SO 38 st O) : SO 38 (if 0 < (txE (txQ f T ba he tk va fp).1).1.toInt then st else cpF 49 (txQ f T ba he tk va fp).1.2.2.2.2.2.2.2 st) (txO f T O) := by
  have ta := text_sim (f := f) h3 0 (fun _ => 0) (fun _ => 0) (fun _ => 0) (fun _ => 0) (fun _ => 0) (fun _ => 0) 0 0 0 0 (fun _ => 0)
  have tb := text_sim (f := f) h3 0 (fun _ => 0) (fun _ => 0) (fun _ => 0) (fun _ => 0) (fun _ => 0) (fun _ => 0) ba he tk va fp
  unfold txO txF TQ
  generalize cRA f T 0 (fun _ => 0) (fun _ => 0) (fun _ => 0) (fun _ => 0) (fun _ => 0) (fun _ => 0) = Q at ta tb ⊢
  generalize txQ f T 0 0 0 0 (fun _ => 0) = X0 at ta ⊢
  generalize txQ f T ba he tk va fp = X at tb ⊢
  rcases ta with ⟨p, q, _, w, _⟩ | g
  · rcases tb with ⟨p', q', _, w', _⟩ | g'
    · rw [q, q', if_neg (by decide), if_neg (by decide)]
      obtain ⟨_, _, _, _, w10, _⟩ := w
      obtain ⟨_, _, _, _, v10, _⟩ := w'
      intro i hi
      show (if 38 + i < 49 then X.1.2.2.2.2.2.2.2 (38 + i) else st (38 + i)) = X0.1.2.2.2.2.2.2.2 (38 + i)
      rw [if_pos (by omega)]
      exact (v10 i hi).trans (w10 i hi).symm
    · exact absurd p g'.m
  · rcases tb with ⟨p', q', _, w', _⟩ | g'
    · exact absurd p' g.m
    · rw [if_pos g.pos, if_pos g'.pos]
      exact h
theorem SO.texto {o : Nat} {st fp O : Nat → Int32} {C : Prop} [Decidable C] (h : SO o st O) (ho : 49 ≤ o) : SO o (if C then st else cpF 49 fp st) O := by
  split
  · exact h
  · intro i hi
    exact (if_neg (by omega)).trans (h i hi)
theorem SO.kp0 {k : Int32} {st O : Nat → Int32} (h : SO 38 st O) : SO 38 (if 0 ≤ k.toInt ∧ k.toInt < 2 then cpj 0 (49 * (k.toNatClampNeg + 1)) 49 st else st) O := by
  split
  · intro i hi
    exact (cpj_out (by omega)).trans (h i hi)
  · exact h
theorem SO.kp1 {k : Int32} {st O O1 : Nat → Int32} (h : SO 38 st O) (h1 : SO 87 st O1) : SO 87 (if 0 ≤ k.toInt ∧ k.toInt < 2 then cpj 0 (49 * (k.toNatClampNeg + 1)) 49 st else st) (if k = 0 then O else O1) := by
  by_cases c : 0 ≤ k.toInt ∧ k.toInt < 2
  · rw [if_pos c]
    rcases k01 c with e | e
    · subst e
      rw [if_pos rfl]
      intro i hi
      have q : cpj 0 (49 * ((0 : Int32).toNatClampNeg + 1)) 49 st (49 + (38 + i)) = st (0 + (38 + i)) := cpj_in (by omega)
      rw [Nat.zero_add, ← Nat.add_assoc] at q
      exact q.trans (h i hi)
    · subst e
      rw [if_neg (by decide)]
      intro i hi
      have e1 : (1 : Int32).toNatClampNeg = 1 := by decide
      rw [e1]
      exact (cpj_out (by omega)).trans (h1 i hi)
  · rw [if_neg c, if_neg (fun e => c (by rw [e]; decide))]
    exact h1
theorem SO.kp2 {k : Int32} {st O O2 : Nat → Int32} (h : SO 38 st O) (h2 : SO 136 st O2) : SO 136 (if 0 ≤ k.toInt ∧ k.toInt < 2 then cpj 0 (49 * (k.toNatClampNeg + 1)) 49 st else st) (if k = 1 then O else O2) := by
  by_cases c : 0 ≤ k.toInt ∧ k.toInt < 2
  · rw [if_pos c]
    rcases k01 c with e | e
    · subst e
      rw [if_neg (by decide)]
      intro i hi
      have e1 : (0 : Int32).toNatClampNeg = 0 := by decide
      rw [e1]
      exact (cpj_out (by omega)).trans (h2 i hi)
    · subst e
      rw [if_pos rfl]
      intro i hi
      have q : cpj 0 (49 * ((1 : Int32).toNatClampNeg + 1)) 49 st (98 + (38 + i)) = st (0 + (38 + i)) := cpj_in (by omega)
      rw [Nat.zero_add, ← Nat.add_assoc] at q
      exact q.trans (h i hi)
  · rw [if_neg c, if_neg (fun e => c (by rw [e]; decide))]
    exact h2

-- a drop, and then a stretch: the same as both at once
-- Euclid
def euG : Nat → Int64 → Int64 → Int64
  | 0, a, _ => a
  | n + 1, a, b => if b.toInt = 0 then a else euG n b (a - a / b * b)
theorem rem_abs {a b : Int64} (hb : b.toInt ≠ 0) : (a - a / b * b).toInt.natAbs = a.toInt.natAbs % b.toInt.natAbs := by
  have e1 : (a - a / b * b).toInt = (a.toInt - (a / b * b).toInt).bmod (2 ^ 64) := Int64.toInt_sub a (a / b * b)
  have e2 : (a / b * b).toInt = ((a / b).toInt * b.toInt).bmod (2 ^ 64) := Int64.toInt_mul (a / b) b
  have e3 : (a / b).toInt = (a.toInt.tdiv b.toInt).bmod (2 ^ 64) := Int64.toInt_div a b
  have e4 : (a - a / b * b).toInt = (a.toInt - a.toInt.tdiv b.toInt * b.toInt).bmod (2 ^ 64) := by
    rw [e1, e2, e3]
    simp only [Int.sub_bmod_bmod, Int.bmod_mul_bmod]
  have e5 : a.toInt - a.toInt.tdiv b.toInt * b.toInt = a.toInt.tmod b.toInt := by
    have := Int.tmod_add_mul_tdiv a.toInt b.toInt
    have c := Int.mul_comm b.toInt (a.toInt.tdiv b.toInt)
    omega
  have hl := b.toInt_lt
  have hg := b.le_toInt
  have hlt : (a.toInt.tmod b.toInt).natAbs < b.toInt.natAbs := by
    rw [Int.natAbs_tmod]
    exact Nat.mod_lt _ (by omega)
  rw [e4, e5, Int.bmod_eq_of_le (by omega) (by omega)]
  exact Int.natAbs_tmod _ _
theorem mod_half {b c : Nat} (h0 : 0 < c) (h : c < b) : 2 * (b % c) < b := by
  have h1 := Nat.mod_lt b h0
  have h2 : b % c ≤ b - c := by
    rw [Nat.mod_eq_sub_mod (by omega)]
    exact Nat.mod_le _ _
  omega
theorem euG_0 {n : Nat} {a b : Int64} (h : b.toInt = 0) : euG n a b = a := by
  cases n with
  | zero => rfl
  | succ n => exact if_pos h
theorem euG_s {n : Nat} {a b : Int64} (h : b.toInt ≠ 0) : euG (n + 1) a b = euG n b (a - a / b * b) := if_neg h
theorem euG_st : ∀ (k n m : Nat) (a b : Int64), b.toInt.natAbs < 2 ^ k → 2 * k + 1 ≤ n → 2 * k + 1 ≤ m → euG n a b = euG m a b := by
  intro k
  induction k with
  | zero =>
    intro n m a b h _ _
    have e : b.toInt = 0 := by
      have h' : b.toInt.natAbs < 1 := h
      omega
    rw [euG_0 e, euG_0 e]
  | succ k ih =>
    intro n m a b h hn hm
    by_cases e : b.toInt = 0
    · rw [euG_0 e, euG_0 e]
    · obtain ⟨n, rfl⟩ : ∃ j : Nat, n = j + 1 := ⟨n - 1, by omega⟩
      obtain ⟨m, rfl⟩ : ∃ j : Nat, m = j + 1 := ⟨m - 1, by omega⟩
      rw [euG_s e, euG_s e]
      have r1 := rem_abs (a := a) e
      have l1 : a.toInt.natAbs % b.toInt.natAbs < b.toInt.natAbs := Nat.mod_lt _ (by omega)
      generalize a - a / b * b = c at r1 ⊢
      by_cases e2 : c.toInt = 0
      · rw [euG_0 e2, euG_0 e2]
      · obtain ⟨n, rfl⟩ : ∃ j : Nat, n = j + 1 := ⟨n - 1, by omega⟩
        obtain ⟨m, rfl⟩ : ∃ j : Nat, m = j + 1 := ⟨m - 1, by omega⟩
        rw [euG_s e2, euG_s e2]
        have r2 := rem_abs (a := b) e2
        have l2 := mod_half (b := b.toInt.natAbs) (c := c.toInt.natAbs) (by omega) (by omega)
        refine ih n m _ _ ?_ (by omega) (by omega)
        rw [r2]
        have p2 : 2 ^ (k + 1) = 2 ^ k * 2 := rfl
        omega
def euV (a b : Int64) : Int64 := euG 200 a b
theorem euV_0 {a b : Int64} (h : b.toInt = 0) : euV a b = a := euG_0 h
theorem euV_s {a b : Int64} (h : b.toInt ≠ 0) : euV a b = euV b (a - a / b * b) := by
  have hl := b.toInt_lt
  have hg := b.le_toInt
  have e := euG_st 64 200 201 a b (by omega) (by decide) (by decide)
  exact e.trans (euG_s h)
theorem euV_ne : ∀ (k : Nat) (a b : Int64), b.toInt.natAbs < k → (a.toInt ≠ 0 ∨ b.toInt ≠ 0) → (euV a b).toInt ≠ 0 := by
  intro k
  induction k with
  | zero => intro a b h; exact absurd h (Nat.not_lt_zero _)
  | succ k ih =>
    intro a b h ho
    by_cases e : b.toInt = 0
    · rw [euV_0 e]; exact ho.resolve_right (fun z => z e)
    · rw [euV_s e]
      refine ih _ _ ?_ (Or.inl e)
      rw [rem_abs e]
      have := Nat.mod_lt a.toInt.natAbs (show 0 < b.toInt.natAbs by omega)
      omega
def frF (p w : Int64) (what : Int32) : Int64 := (if what = 0 then p else w) / euV p w
def sdN (st : Nat → Int32) : Nat := (st 48 + 5).toNatClampNeg
theorem sdN_ok {st : Nat → Int32} (h : okS 48 (st 48)) : st 48 + 5 = nI (sdN st) ∧ 1 ≤ sdN st ∧ sdN st ≤ 9 := by
  obtain ⟨k, e, h1, h2⟩ := start_nat h
  have e2 : sdN st = k := by
    unfold sdN
    rw [e, nI_clamp (by omega)]
  rw [e2]
  exact ⟨e, h1, h2⟩

set_option maxHeartbeats 1000000 in
set_option maxRecDepth 100000 in
theorem c_X10_commonDivisorE (l : Launch) (dC : Nat → ClassId) (dI : Nat → Nat → Nat) (G : Nat → ClassId) (sz : Nat) (v q1 : Int64)  : Met l yX10_commonDivisor (Cond.code yX10_commonDivisor cX10_commonDivisor 11 (some .long) :: GT) ({ frames := 0, cells := 0, slots := 0, locals := 0 } : Room) (PcR [.long v, .long q1] dC dI G [] sz) (va_Ql (fun (r : Int64) (u : Unit) => match u with | _ => (r = euV v q1) ∧ True) (fun _ _ => True) (fun q : Nat => sz ≤ q)) 0 0 (fun q : Nat => sz ≤ q) := by
  refine Met.ofW (cc := cX10_commonDivisor) (maxL := 11) (ret := (some .long)) (by decide) rfl ?_
  intro p e s m args below meth c s₁ Bd hml hv
  obtain ⟨rfl, hsz, hP, hK⟩ := hv
  have hx := Bd.exec
  have hb := Bd.bytes
  have hr := Bd.returns
  have hg : ∀ w ∈ GT, w.before ([.long v, .long q1] : List Value).toArray s = true := fun w h => atoms_spec (ws := Cond.code yX10_commonDivisor cX10_commonDivisor 11 (some .long) :: GT) Bd.pre w (List.mem_cons_of_mem _ h)
  have hown : s.vm.findClass RX10 = some m.cls := findClass_of_methodNamed Bd.named
  have hlocks := Bd.notSynchronized
  subst hsz
  have hA : ∀ q : Nat, s.heap.size ≤ q → (fun q : Nat => s.heap.size ≤ q) q := fun _ h => h
  have hS : va_S (fun q : Nat => s.heap.size ≤ q) s.heap s.heap [] := va_S.rf
  have hl := lv_entry ([.long v, .long q1]) (n := 11) (Nat.le_of_ble_eq_true rfl)
  rw [lg_entry_eq]
  generalize (lg_sl ([.long v, .long q1]) ++ List.replicate (11 - (lg_sl ([.long v, .long q1])).length) Slot.unset).toArray = ls at hl ⊢
  have hl : lv_has ls 11 [(0, .long v), (2, .long q1)] := hl
  refine lv_lload_n hx hb dX10_commonDivisor_0 rfl (lv_at hl 0 rfl) ?_
  refine lv_lstore (lv' := [(4, .long v), (0, .long v), (2, .long q1)]) hx hb dX10_commonDivisor_1 hl (by decide) rfl (fun ls hl => ?_)
  refine lv_lload_n hx hb dX10_commonDivisor_3 rfl (lv_at hl 2 rfl) ?_
  refine lv_lstore (lv' := [(6, .long q1), (4, .long v), (0, .long v), (2, .long q1)]) hx hb dX10_commonDivisor_4 hl (by decide) rfl (fun ls hl => ?_)
  refine lv_iconst (v := 0) hx hb dX10_commonDivisor_6 rfl ?_
  refine lv_istore (lv' := [(8, .int 0), (6, .long q1), (4, .long v), (0, .long v), (2, .long q1)]) hx hb dX10_commonDivisor_7 hl (by decide) rfl (fun ls hl => ?_)
  have loop9_4 : ∀ (nf j1 : Nat), 200 + 1 ≤ j1 + nf → j1 ≤ 200 → ∀ (y2 : Int64) (y3 : Int64) (H : Heap) (locs : List Loc), euG (200 - j1) y3 y2 = euG 200 v q1 → va_P (dC, dI) vwCl [] H → va_S (fun q : Nat => s.heap.size ≤ q) s.heap H locs → ∀ (ls : Array Slot), lv_has ls 11 [(8, .int (nI j1)), (6, .long y2), (4, .long y3), (0, .long v), (2, .long q1)] → W p l e (headSpec (Cond.code yX10_commonDivisor cX10_commonDivisor 11 (some .long) :: GT) ({ frames := 0, cells := 0, slots := 0, locals := 0 } : Room)).room s m ([.long v, .long q1] : List Value).toArray below meth c H locs 0 0 (MQ below (va_Ql (fun (r : Int64) (u : Unit) => match u with | _ => (r = euV v q1) ∧ True) (fun _ _ => True) (fun q : Nat => s.heap.size ≤ q)) ([.long v, .long q1] : List Value).toArray s 0 0 (fun q : Nat => s.heap.size ≤ q)) (F0 m 9 ls []) := by
    intro nf
    induction nf with
    | zero => intro j1 h1 h2; exact absurd h1 (by omega)
    | succ nf ih9_4 =>
      intro j1 hn5 hj6 y2 y3 H locs hinv hP hS ls hl
      refine lv_iload hx hb dX10_commonDivisor_9 (lv_at hl 0 rfl) ?_
      refine lv_sipush (v := 200) hx hb dX10_commonDivisor_11 rfl ?_
      refine lv_icmp_ge (tgt := 45) hx hb dX10_commonDivisor_14 rfl (fun c7 => ?_) (fun c7 => ?_)
      · skip
        have tn2230_ : nIT j1 := fun _ => nI_toInt (by first | omega | (have t := leI c7; omega))
        have n8 : 200 ≤ j1 := by have t := leI c7; rw [show (nI (j1)).toInt = ((j1 : Nat) : Int) from tn2230_ ()] at t; have : (200 : Int32).toInt = 200 := qI_200; omega
        refine lv_lload hx hb dX10_commonDivisor_45 (lv_at hl 2 rfl) ?_
        have hpost : (y3 : Int64) = euV v q1 := by
          have t_hj6 := hj6
          have t_n8 := n8
          have t_n0 : (nI j1).toInt = (j1 : Int) := tn2230_ ()
          first | (exact (euG_0 (by omega)).symm.trans hinv) | (have h9 := hinv; rw [show 200 - j1 = 0 by omega] at h9; exact h9)
        refine W.widen (k := 0) (n := 0) (Nat.le_of_ble_eq_true rfl) (Nat.le_of_ble_eq_true rfl) ?_
        exact W.lret (v := y3) hx hb hr (fun t ht hW => ⟨⟨y3, (), rfl, ⟨hpost, trivial⟩, trivial⟩, hS.F ht⟩) hS.2.2 dX10_commonDivisor_47
      · skip
        have tn2231_ : nIT j1 := fun _ => nI_toInt (by first | omega | (have t := nleI c7; omega))
        have n9 : j1 < 200 := by have t := nleI c7; rw [show (nI (j1)).toInt = ((j1 : Nat) : Int) from tn2231_ ()] at t; have : (200 : Int32).toInt = 200 := qI_200; omega
        refine lv_lload hx hb dX10_commonDivisor_17 (lv_at hl 1 rfl) ?_
        refine lv_lconst (v := 0) hx hb dX10_commonDivisor_19 (by decide) ?_
        refine W.lcmp hx hb dX10_commonDivisor_20 ?_
        refine lv_if_eq (tgt := 45) hx hb dX10_commonDivisor_21 rfl (fun c10 => ?_) (fun c10 => ?_)
        · skip
          refine lv_lload hx hb dX10_commonDivisor_45 (lv_at hl 2 rfl) ?_
          have hpost : (y3 : Int64) = euV v q1 := by
            have t_hj6 := hj6
            have t_n9 := n9
            have t_c10 := lcm_eq_t c10
            have : (0 : Int64).toInt = 0 := qL_0
            have t_n0 : (nI j1).toInt = (j1 : Int) := tn2231_ ()
            first | (exact (euG_0 (by omega)).symm.trans hinv) | (have h9 := hinv; rw [show 200 - j1 = 0 by omega] at h9; exact h9)
          refine W.widen (k := 0) (n := 0) (Nat.le_of_ble_eq_true rfl) (Nat.le_of_ble_eq_true rfl) ?_
          exact W.lret (v := y3) hx hb hr (fun t ht hW => ⟨⟨y3, (), rfl, ⟨hpost, trivial⟩, trivial⟩, hS.F ht⟩) hS.2.2 dX10_commonDivisor_47
        · skip
          refine lv_lload hx hb dX10_commonDivisor_24 (lv_at hl 2 rfl) ?_
          refine lv_lload hx hb dX10_commonDivisor_26 (lv_at hl 1 rfl) ?_
          refine lv_lrem hx hb dX10_commonDivisor_28 (by intro h0; have t0 := congrArg Int64.toInt h0; have z0 : (0 : Int64).toInt = 0 := qL_0; have t_hj6 := hj6; have t_n9 := n9; have t_c10 := lcm_eq_f c10; have : (0 : Int64).toInt = 0 := qL_0; have t_n0 : (nI j1).toInt = (j1 : Int) := tn2231_ (); omega) ?_
          refine lv_lstore (lv' := [(9, .long (y3 - y3 / y2 * y2)), (8, .int (nI j1)), (6, .long y2), (4, .long y3), (0, .long v), (2, .long q1)]) hx hb dX10_commonDivisor_29 hl (by decide) rfl (fun ls hl => ?_)
          refine lv_lload hx hb dX10_commonDivisor_31 (lv_at hl 2 rfl) ?_
          refine lv_lstore (lv' := [(4, .long y2), (9, .long (y3 - y3 / y2 * y2)), (8, .int (nI j1)), (6, .long y2), (0, .long v), (2, .long q1)]) hx hb dX10_commonDivisor_33 hl (by decide) rfl (fun ls hl => ?_)
          refine lv_lload hx hb dX10_commonDivisor_35 (lv_at hl 1 rfl) ?_
          refine lv_lstore (lv' := [(6, .long (y3 - y3 / y2 * y2)), (4, .long y2), (9, .long (y3 - y3 / y2 * y2)), (8, .int (nI j1)), (0, .long v), (2, .long q1)]) hx hb dX10_commonDivisor_37 hl (by decide) rfl (fun ls hl => ?_)
          refine lv_iinc (v := nI (j1 + 1)) (lv' := [(8, .int (nI (j1 + 1))), (6, .long (y3 - y3 / y2 * y2)), (4, .long y2), (9, .long (y3 - y3 / y2 * y2)), (0, .long v), (2, .long q1)]) hx hb dX10_commonDivisor_39 hl (k := 3) rfl (by rw [show Int32.ofInt 1 = nI 1 from by decide]; exact nI_add _ _) (by decide) rfl (fun ls hl => ?_)
          refine lv_goto (tgt := 9) hx hb dX10_commonDivisor_42 rfl ?_
          exact ih9_4 (j1 + 1) (by omega) (by omega) (y3 - y3 / y2 * y2) y2 _ _ (by have t_hj6 := hj6; have t_n9 := n9; have t_c10 := lcm_eq_f c10; have : (0 : Int64).toInt = 0 := qL_0; have t_n0 : (nI j1).toInt = (j1 : Int) := tn2231_ (); rw [← hinv, show 200 - j1 = 200 - (j1 + 1) + 1 by omega]; exact (euG_s (by omega)).symm) hP hS ls (lv_sub hl [0, 1, 2, 4, 5] rfl)
  exact loop9_4 (200 + 1) 0 (by omega) (by omega) q1 v _ _ rfl hP hS ls (lv_sub hl [0, 1, 2, 3, 4] rfl)

set_option maxHeartbeats 1000000 in
set_option maxRecDepth 100000 in
theorem c_X10_fractionE (l : Launch) (dC : Nat → ClassId) (dI : Nat → Nat → Nat) (G : Nat → ClassId) (sz : Nat) (i : Int32) (v q1 : Int64) (hx2 : q1.toInt ≠ 0) : Met l yX10_fraction (Cond.code yX10_fraction cX10_fraction 7 (some .long) :: GT) ({ frames := 1, cells := 0, slots := 0, locals := 30 } : Room) (PcR [.long v, .long q1, .int i] dC dI G [] sz) (va_Ql (fun (r : Int64) (u : Unit) => match u with | _ => (r = frF v q1 i) ∧ True) (fun _ _ => True) (fun q : Nat => sz ≤ q)) 0 0 (fun q : Nat => sz ≤ q) := by
  refine Met.ofW (cc := cX10_fraction) (maxL := 7) (ret := (some .long)) (by decide) rfl ?_
  intro p e s m args below meth c s₁ Bd hml hv
  obtain ⟨rfl, hsz, hP, hK⟩ := hv
  have hx := Bd.exec
  have hb := Bd.bytes
  have hr := Bd.returns
  have hg : ∀ w ∈ GT, w.before ([.long v, .long q1, .int i] : List Value).toArray s = true := fun w h => atoms_spec (ws := Cond.code yX10_fraction cX10_fraction 7 (some .long) :: GT) Bd.pre w (List.mem_cons_of_mem _ h)
  have hown : s.vm.findClass RX10 = some m.cls := findClass_of_methodNamed Bd.named
  have hlocks := Bd.notSynchronized
  subst hsz
  have hA : ∀ q : Nat, s.heap.size ≤ q → (fun q : Nat => s.heap.size ≤ q) q := fun _ h => h
  have hS : va_S (fun q : Nat => s.heap.size ≤ q) s.heap s.heap [] := va_S.rf
  have hl := lv_entry ([.long v, .long q1, .int i]) (n := 7) (Nat.le_of_ble_eq_true rfl)
  rw [lg_entry_eq]
  generalize (lg_sl ([.long v, .long q1, .int i]) ++ List.replicate (7 - (lg_sl ([.long v, .long q1, .int i])).length) Slot.unset).toArray = ls at hl ⊢
  have hl : lv_has ls 7 [(0, .long v), (2, .long q1), (4, .int i)] := hl
  refine lv_lload_n hx hb dX10_fraction_0 rfl (lv_at hl 0 rfl) ?_
  refine lv_lload_n hx hb dX10_fraction_1 rfl (lv_at hl 1 rfl) ?_
  have hPc := hP.sub (ws' := []) [] rfl
  refine va_calll (va_runS (As := [.long v, .long q1]) (rest := []) ⟨hx, hb, hml, hown, hg⟩ (c_X10_commonDivisorE l dC dI G _ v q1) (kwS hg mfX10_commonDivisor wt_638 ⟨Nat.le_of_ble_eq_true rfl, Nat.le_of_ble_eq_true rfl⟩) (preSR hK hPc) rfl rfl hl.1 rfl (lv_room (Nat.le_of_ble_eq_true rfl)) dX10_fraction_2 ⟨Nat.le_of_ble_eq_true rfl, Nat.le_of_ble_eq_true rfl⟩) hS (fun q h1 h2 => absurd h2 (Nat.not_le.mpr h1)) (fun q h => hA q (Nat.le_trans hS.1 h)) (fun r1 ur1 t H1 locs ht hvm w2 hB hz1 hk1 hS => ?_)
  have hP := keepR hP hk1
  obtain ⟨w2, w2x⟩ := w2
  subst w2
  refine lv_lstore (lv' := [(5, .long (euV v q1)), (0, .long v), (2, .long q1), (4, .int i)]) hx hb dX10_fraction_5 hl (by decide) rfl (fun ls hl => ?_)
  refine lv_lload hx hb dX10_fraction_7 (lv_at hl 0 rfl) ?_
  refine lv_lconst (v := 0) hx hb dX10_fraction_9 (by decide) ?_
  refine W.lcmp hx hb dX10_fraction_10 ?_
  refine lv_if_ne (tgt := 18) hx hb dX10_fraction_11 rfl (fun c3 => ?_) (fun c3 => ?_)
  · skip
    refine lv_iload hx hb dX10_fraction_18 (lv_at hl 3 rfl) ?_
    refine lv_if_ne (tgt := 27) hx hb dX10_fraction_20 rfl (fun c4 => ?_) (fun c4 => ?_)
    · skip
      refine lv_lload_n hx hb dX10_fraction_27 rfl (lv_at hl 2 rfl) ?_
      refine lv_lload hx hb dX10_fraction_28 (lv_at hl 0 rfl) ?_
      refine lv_ldiv hx hb dX10_fraction_30 (by intro h0; have t0 := congrArg Int64.toInt h0; have z0 : (0 : Int64).toInt = 0 := qL_0; have t_c3 := lcm_ne_t c3; have t_c4 := neI c4; have tqz_ := qz4_; omega) ?_
      have hpost : (q1 / (euV v q1) : Int64) = frF v q1 i := by
        have t_c3 := lcm_ne_t c3
        have t_c4 := neI c4
        have : (0 : Int32).toInt = 0 := qI_0
        have : (0 : Int64).toInt = 0 := qL_0
        have z0 : (0 : Int32).toInt = 0 := qI_0
        have z1 : (1 : Int32).toInt = 1 := qI_1
        have z2 : (2 : Int32).toInt = 2 := qI_2
        have z3 : (3 : Int32).toInt = 3 := qI_3
        have z5 : (5 : Int32).toInt = 5 := qI_5
        have z9 : (9 : Int32).toInt = 9 := qI_9
        unfold frF
        by_cases h9 : i = 0
        · have h8 := congrArg Int32.toInt h9; rw [if_pos h9]; first | done | (exfalso; omega)
        · rw [if_neg h9]; first | done | (exfalso; exact h9 (Int32.toInt_inj.mp (by omega)))
      refine W.widen (k := 0) (n := 0) (Nat.le_of_ble_eq_true rfl) (Nat.le_of_ble_eq_true rfl) ?_
      exact W.lret (v := q1 / (euV v q1)) hx hb hr (fun t ht hW => ⟨⟨q1 / (euV v q1), (), rfl, ⟨hpost, trivial⟩, trivial⟩, hS.F ht⟩) hS.2.2 dX10_fraction_31
    · skip
      refine lv_lload_n hx hb dX10_fraction_23 rfl (lv_at hl 1 rfl) ?_
      refine lv_goto (tgt := 28) hx hb dX10_fraction_24 rfl ?_
      refine lv_lload hx hb dX10_fraction_28 (lv_at hl 0 rfl) ?_
      refine lv_ldiv hx hb dX10_fraction_30 (by intro h0; have t0 := congrArg Int64.toInt h0; have z0 : (0 : Int64).toInt = 0 := qL_0; have t_c3 := lcm_ne_t c3; have t_c4 := eqI c4; have tqz_ := qz4_; omega) ?_
      have hpost : (v / (euV v q1) : Int64) = frF v q1 i := by
        have t_c3 := lcm_ne_t c3
        have t_c4 := eqI c4
        have : (0 : Int32).toInt = 0 := qI_0
        have : (0 : Int64).toInt = 0 := qL_0
        have z0 : (0 : Int32).toInt = 0 := qI_0
        have z1 : (1 : Int32).toInt = 1 := qI_1
        have z2 : (2 : Int32).toInt = 2 := qI_2
        have z3 : (3 : Int32).toInt = 3 := qI_3
        have z5 : (5 : Int32).toInt = 5 := qI_5
        have z9 : (9 : Int32).toInt = 9 := qI_9
        unfold frF
        by_cases h9 : i = 0
        · have h8 := congrArg Int32.toInt h9; rw [if_pos h9]; first | done | (exfalso; omega)
        · rw [if_neg h9]; first | done | (exfalso; exact h9 (Int32.toInt_inj.mp (by omega)))
      refine W.widen (k := 0) (n := 0) (Nat.le_of_ble_eq_true rfl) (Nat.le_of_ble_eq_true rfl) ?_
      exact W.lret (v := v / (euV v q1)) hx hb hr (fun t ht hW => ⟨⟨v / (euV v q1), (), rfl, ⟨hpost, trivial⟩, trivial⟩, hS.F ht⟩) hS.2.2 dX10_fraction_31
  · skip
    refine lv_ldc2 (v := (-1)) hx hb hown (hg _ wt_607) dX10_fraction_14 ?_
    have hpost : ((-1) : Int64) = frF v q1 i := by
      have t_c3 := lcm_ne_f c3
      have : (0 : Int64).toInt = 0 := qL_0
      have z0 : (0 : Int32).toInt = 0 := qI_0
      have z1 : (1 : Int32).toInt = 1 := qI_1
      have z2 : (2 : Int32).toInt = 2 := qI_2
      have z3 : (3 : Int32).toInt = 3 := qI_3
      have z5 : (5 : Int32).toInt = 5 := qI_5
      have z9 : (9 : Int32).toInt = 9 := qI_9
      exfalso
      have n9 := euV_ne _ v q1 (Nat.lt_succ_self _) (Or.inr hx2)
      omega
    refine W.widen (k := 0) (n := 0) (Nat.le_of_ble_eq_true rfl) (Nat.le_of_ble_eq_true rfl) ?_
    exact W.lret (v := (-1)) hx hb hr (fun t ht hW => ⟨⟨(-1), (), rfl, ⟨hpost, trivial⟩, trivial⟩, hS.F ht⟩) hS.2.2 dX10_fraction_17


set_option maxHeartbeats 1000000 in
set_option maxRecDepth 100000 in
theorem c_X11_startNowS (l : Launch) (dC : Nat → ClassId) (dI : Nat → Nat → Nat) (G : Nat → ClassId) (sz : Nat) (h0 st N B rp tp T cu lt od th be ln S ma M ah bh ik la lg ce : Nat) (vrs vrb vhs vca vxs vxb vfa vbr vba vsp vhe vtk vva vto : Int32) (fst : Nat → Int32) (hN : N ≤ 10) (hB : B ≤ 6) (hT : T ≤ 320) (hS0 : S ≤ 8) (hM : M ≤ 6) (hst : OKS fst) : Met l yX11_startNow (Cond.code yX11_startNow cX11_startNow 1 (some .int) :: GT) ({ frames := 0, cells := 0, slots := 0, locals := 0 } : Room) (PcR [.ref h0] dC dI G [(h0, .inr (11, [.ref st, .int (nI N), .int (nI B), .ref rp, .int vrs, .int vrb, .int vhs, .int vca, .int vxs, .int vxb, .ref tp, .int (nI T), .int vfa, .int vbr, .int vba, .int vsp, .int vhe, .int vtk, .int vva, .ref cu, .ref lt, .ref od, .ref th, .ref be, .ref ln, .int (nI S), .ref ma, .int (nI M), .ref ah, .ref bh, .ref ik, .ref la, .ref lg, .ref ce, .int vto])), (st, .inl (G 0, 196, .inl fst))] sz) (va_Qi (fun (r : Int32) (u : Unit) => match u with | _ => (r = nI (sdN fst) ∧ 1 ≤ sdN fst ∧ sdN fst ≤ 9) ∧ True) (fun _ _ => True) (fun q : Nat => sz ≤ q)) 0 0 (fun q : Nat => sz ≤ q) := by
  refine Met.ofW (cc := cX11_startNow) (maxL := 1) (ret := (some .int)) (by decide) rfl ?_
  intro p e s m args below meth c s₁ Bd hml hv
  obtain ⟨rfl, hsz, hP, hK⟩ := hv
  have hx := Bd.exec
  have hb := Bd.bytes
  have hr := Bd.returns
  have hg : ∀ w ∈ GT, w.before ([.ref h0] : List Value).toArray s = true := fun w h => atoms_spec (ws := Cond.code yX11_startNow cX11_startNow 1 (some .int) :: GT) Bd.pre w (List.mem_cons_of_mem _ h)
  have hown : s.vm.findClass RX11 = some m.cls := findClass_of_methodNamed Bd.named
  have hlocks := Bd.notSynchronized
  subst hsz
  have hA : ∀ q : Nat, s.heap.size ≤ q → (fun q : Nat => s.heap.size ≤ q) q := fun _ h => h
  have hS : va_S (fun q : Nat => s.heap.size ≤ q) s.heap s.heap [] := va_S.rf
  have hl := lv_entry ([.ref h0]) (n := 1) (Nat.le_of_ble_eq_true rfl)
  rw [lg_entry_eq]
  generalize (lg_sl ([.ref h0]) ++ List.replicate (1 - (lg_sl ([.ref h0])).length) Slot.unset).toArray = ls at hl ⊢
  have hl : lv_has ls 1 [(0, .ref h0)] := hl
  refine lv_aload_n hx hb dX11_startNow_0 rfl (lv_at hl 0 rfl) ?_
  refine va_get (D := (dC, dI)) (ci := 11) (v := .ref st) (C := RX11) (T := TX11) (N := 35) hx hb hg inG11 hown hK.1 hP 0 rfl rfl 0 (Nat.le_of_ble_eq_true rfl) (hg _ wt_878) (fun _ h9 => h9) rfl dX11_startNow_1 ?_
  refine lv_bipush (v := 48) hx hb dX11_startNow_4 rfl ?_
  refine va_iald hx hb hK.1 hP 1 0 rfl rfl (vp_in_iff.mpr ⟨by decide, by decide⟩) dX11_startNow_6 ?_
  refine lv_cg (y := fst 48) (by rfl) ?_
  refine lv_iconst (v := 5) hx hb dX11_startNow_7 rfl ?_
  refine lv_iadd hx hb dX11_startNow_8 ?_
  have hpost : ((fst 48) + 5 : Int32) = nI (sdN fst) ∧ 1 ≤ sdN fst ∧ sdN fst ≤ 9 := by
    exact sdN_ok (hst 48 (by omega))
  refine W.widen (k := 0) (n := 0) (Nat.le_of_ble_eq_true rfl) (Nat.le_of_ble_eq_true rfl) ?_
  exact W.iret (v := (fst 48) + 5) hx hb hr (fun t ht hW => ⟨⟨(fst 48) + 5, (), rfl, ⟨hpost, trivial⟩, trivial⟩, hS.F ht⟩) hS.2.2 dX11_startNow_9

set_option maxHeartbeats 1000000 in
set_option maxRecDepth 100000 in
theorem c_X11_lowestE (l : Launch) (dC : Nat → ClassId) (dI : Nat → Nat → Nat) (G : Nat → ClassId) (sz : Nat) (what : Int32) (x1 x2 : Int64) (hx2 : x2.toInt ≠ 0) : Met l yX11_lowest (Cond.code yX11_lowest cX11_lowest 11 (some .long) :: GT) ({ frames := 0, cells := 0, slots := 0, locals := 0 } : Room) (PcR [.long x1, .long x2, .int what] dC dI G [] sz) (va_Ql (fun (r : Int64) (u : Unit) => match u with | _ => (r = frF x1 x2 what) ∧ True) (fun _ _ => True) (fun q : Nat => sz ≤ q)) 0 0 (fun q : Nat => sz ≤ q) := by
  refine Met.ofW (cc := cX11_lowest) (maxL := 11) (ret := (some .long)) (by decide) rfl ?_
  intro p e s m args below meth c s₁ Bd hml hv
  obtain ⟨rfl, hsz, hP, hK⟩ := hv
  have hx := Bd.exec
  have hb := Bd.bytes
  have hr := Bd.returns
  have hg : ∀ w ∈ GT, w.before ([.long x1, .long x2, .int what] : List Value).toArray s = true := fun w h => atoms_spec (ws := Cond.code yX11_lowest cX11_lowest 11 (some .long) :: GT) Bd.pre w (List.mem_cons_of_mem _ h)
  have hown : s.vm.findClass RX11 = some m.cls := findClass_of_methodNamed Bd.named
  have hlocks := Bd.notSynchronized
  subst hsz
  have hA : ∀ q : Nat, s.heap.size ≤ q → (fun q : Nat => s.heap.size ≤ q) q := fun _ h => h
  have hS : va_S (fun q : Nat => s.heap.size ≤ q) s.heap s.heap [] := va_S.rf
  have hl := lv_entry ([.long x1, .long x2, .int what]) (n := 11) (Nat.le_of_ble_eq_true rfl)
  rw [lg_entry_eq]
  generalize (lg_sl ([.long x1, .long x2, .int what]) ++ List.replicate (11 - (lg_sl ([.long x1, .long x2, .int what])).length) Slot.unset).toArray = ls at hl ⊢
  have hl : lv_has ls 11 [(0, .long x1), (2, .long x2), (4, .int what)] := hl
  refine lv_lload_n hx hb dX11_lowest_0 rfl (lv_at hl 0 rfl) ?_
  refine lv_lstore (lv' := [(5, .long x1), (0, .long x1), (2, .long x2), (4, .int what)]) hx hb dX11_lowest_1 hl (by decide) rfl (fun ls hl => ?_)
  refine lv_lload_n hx hb dX11_lowest_3 rfl (lv_at hl 2 rfl) ?_
  refine lv_lstore (lv' := [(7, .long x2), (5, .long x1), (0, .long x1), (2, .long x2), (4, .int what)]) hx hb dX11_lowest_4 hl (by decide) rfl (fun ls hl => ?_)
  have loop6_3 : ∀ (nf : Nat) (y1 : Int64) (y2 : Int64), y1.toInt.natAbs < nf → ((y1.toInt ≠ 0 ∨ y2.toInt ≠ 0) ∧ euV y2 y1 = euV x1 x2) → ∀ (H : Heap) (locs : List Loc), va_P (dC, dI) vwCl [] H → va_S (fun q : Nat => s.heap.size ≤ q) s.heap H locs → ∀ (ls : Array Slot), lv_has ls 11 [(7, .long y1), (5, .long y2), (0, .long x1), (2, .long x2), (4, .int what)] → W p l e (headSpec (Cond.code yX11_lowest cX11_lowest 11 (some .long) :: GT) ({ frames := 0, cells := 0, slots := 0, locals := 0 } : Room)).room s m ([.long x1, .long x2, .int what] : List Value).toArray below meth c H locs 0 0 (MQ below (va_Ql (fun (r : Int64) (u : Unit) => match u with | _ => (r = frF x1 x2 what) ∧ True) (fun _ _ => True) (fun q : Nat => s.heap.size ≤ q)) ([.long x1, .long x2, .int what] : List Value).toArray s 0 0 (fun q : Nat => s.heap.size ≤ q)) (F0 m 6 ls []) := by
    intro nf
    induction nf with
    | zero => intro y1 y2 h1; exact absurd h1 (Nat.not_lt_zero _)
    | succ nf ih6_3 =>
      intro y1 y2 hm4 hinv H locs hP hS ls hl
      refine lv_lload hx hb dX11_lowest_6 (lv_at hl 0 rfl) ?_
      refine lv_lconst (v := 0) hx hb dX11_lowest_8 (by decide) ?_
      refine W.lcmp hx hb dX11_lowest_9 ?_
      refine lv_if_eq (tgt := 31) hx hb dX11_lowest_10 rfl (fun c5 => ?_) (fun c5 => ?_)
      · skip
        refine lv_iload hx hb dX11_lowest_31 (lv_at hl 4 rfl) ?_
        refine lv_if_ne (tgt := 40) hx hb dX11_lowest_33 rfl (fun c6 => ?_) (fun c6 => ?_)
        · skip
          refine lv_lload_n hx hb dX11_lowest_40 rfl (lv_at hl 3 rfl) ?_
          refine lv_lload hx hb dX11_lowest_41 (lv_at hl 1 rfl) ?_
          refine lv_ldiv hx hb dX11_lowest_43 (by intro h0; have t0 := congrArg Int64.toInt h0; have z0 : (0 : Int64).toInt = 0 := qL_0; have t_hinv := hinv.1; have t_c5 := lcm_eq_t c5; have t_c6 := neI c6; have tqz_ := qz4_; omega) ?_
          have hpost : (x2 / y2 : Int64) = frF x1 x2 what := by
            have t_hinv := hinv.1
            have t_c5 := lcm_eq_t c5
            have t_c6 := neI c6
            have : (0 : Int32).toInt = 0 := qI_0
            have : (0 : Int64).toInt = 0 := qL_0
            have z0 : (0 : Int32).toInt = 0 := qI_0
            have z1 : (1 : Int32).toInt = 1 := qI_1
            have z2 : (2 : Int32).toInt = 2 := qI_2
            have z3 : (3 : Int32).toInt = 3 := qI_3
            have z5 : (5 : Int32).toInt = 5 := qI_5
            have z9 : (9 : Int32).toInt = 9 := qI_9
            have e9 : y2 = euV x1 x2 := (by rw [← hinv.2]; exact (euV_0 (by omega)).symm)
            unfold frF
            by_cases h9 : what = 0
            · have h8 := congrArg Int32.toInt h9; rw [if_pos h9, ← e9]; first | done | (exfalso; omega)
            · rw [if_neg h9, ← e9]; first | done | (exfalso; exact h9 (Int32.toInt_inj.mp (by omega)))
          refine W.widen (k := 0) (n := 0) (Nat.le_of_ble_eq_true rfl) (Nat.le_of_ble_eq_true rfl) ?_
          exact W.lret (v := x2 / y2) hx hb hr (fun t ht hW => ⟨⟨x2 / y2, (), rfl, ⟨hpost, trivial⟩, trivial⟩, hS.F ht⟩) hS.2.2 dX11_lowest_44
        · skip
          refine lv_lload_n hx hb dX11_lowest_36 rfl (lv_at hl 2 rfl) ?_
          refine lv_goto (tgt := 41) hx hb dX11_lowest_37 rfl ?_
          refine lv_lload hx hb dX11_lowest_41 (lv_at hl 1 rfl) ?_
          refine lv_ldiv hx hb dX11_lowest_43 (by intro h0; have t0 := congrArg Int64.toInt h0; have z0 : (0 : Int64).toInt = 0 := qL_0; have t_hinv := hinv.1; have t_c5 := lcm_eq_t c5; have t_c6 := eqI c6; have tqz_ := qz4_; omega) ?_
          have hpost : (x1 / y2 : Int64) = frF x1 x2 what := by
            have t_hinv := hinv.1
            have t_c5 := lcm_eq_t c5
            have t_c6 := eqI c6
            have : (0 : Int32).toInt = 0 := qI_0
            have : (0 : Int64).toInt = 0 := qL_0
            have z0 : (0 : Int32).toInt = 0 := qI_0
            have z1 : (1 : Int32).toInt = 1 := qI_1
            have z2 : (2 : Int32).toInt = 2 := qI_2
            have z3 : (3 : Int32).toInt = 3 := qI_3
            have z5 : (5 : Int32).toInt = 5 := qI_5
            have z9 : (9 : Int32).toInt = 9 := qI_9
            have e9 : y2 = euV x1 x2 := (by rw [← hinv.2]; exact (euV_0 (by omega)).symm)
            unfold frF
            by_cases h9 : what = 0
            · have h8 := congrArg Int32.toInt h9; rw [if_pos h9, ← e9]; first | done | (exfalso; omega)
            · rw [if_neg h9, ← e9]; first | done | (exfalso; exact h9 (Int32.toInt_inj.mp (by omega)))
          refine W.widen (k := 0) (n := 0) (Nat.le_of_ble_eq_true rfl) (Nat.le_of_ble_eq_true rfl) ?_
          exact W.lret (v := x1 / y2) hx hb hr (fun t ht hW => ⟨⟨x1 / y2, (), rfl, ⟨hpost, trivial⟩, trivial⟩, hS.F ht⟩) hS.2.2 dX11_lowest_44
      · skip
        refine lv_lload hx hb dX11_lowest_13 (lv_at hl 1 rfl) ?_
        refine lv_lload hx hb dX11_lowest_15 (lv_at hl 0 rfl) ?_
        refine lv_lrem hx hb dX11_lowest_17 (by intro h0; have t0 := congrArg Int64.toInt h0; have z0 : (0 : Int64).toInt = 0 := qL_0; have t_hinv := hinv.1; have t_c5 := lcm_eq_f c5; have : (0 : Int64).toInt = 0 := qL_0; omega) ?_
        refine lv_lstore (lv' := [(9, .long (y2 - y2 / y1 * y1)), (7, .long y1), (5, .long y2), (0, .long x1), (2, .long x2), (4, .int what)]) hx hb dX11_lowest_18 hl (by decide) rfl (fun ls hl => ?_)
        refine lv_lload hx hb dX11_lowest_20 (lv_at hl 1 rfl) ?_
        refine lv_lstore (lv' := [(5, .long y1), (9, .long (y2 - y2 / y1 * y1)), (7, .long y1), (0, .long x1), (2, .long x2), (4, .int what)]) hx hb dX11_lowest_22 hl (by decide) rfl (fun ls hl => ?_)
        refine lv_lload hx hb dX11_lowest_24 (lv_at hl 1 rfl) ?_
        refine lv_lstore (lv' := [(7, .long (y2 - y2 / y1 * y1)), (5, .long y1), (9, .long (y2 - y2 / y1 * y1)), (0, .long x1), (2, .long x2), (4, .int what)]) hx hb dX11_lowest_26 hl (by decide) rfl (fun ls hl => ?_)
        refine lv_goto (tgt := 6) hx hb dX11_lowest_28 rfl ?_
        exact ih6_3 (y2 - y2 / y1 * y1) y1 (Nat.lt_of_lt_of_le (rem_lt (by have t_hinv := hinv.1; have t_c5 := lcm_eq_f c5; have : (0 : Int64).toInt = 0 := qL_0; omega)) (Nat.le_of_lt_succ hm4)) ⟨Or.inr (by have t_hinv := hinv.1; have t_c5 := lcm_eq_f c5; have : (0 : Int64).toInt = 0 := qL_0; omega), (by rw [← hinv.2]; exact (euV_s (by have t_hinv := hinv.1; have t_c5 := lcm_eq_f c5; have : (0 : Int64).toInt = 0 := qL_0; omega)).symm)⟩ _ _ hP hS ls (lv_sub hl [0, 1, 3, 4, 5] rfl)
  exact loop6_3 (x2.toInt.natAbs + 1) x2 x1 (Nat.lt_succ_self _) ⟨Or.inl hx2, rfl⟩ _ _ hP hS ls (lv_sub hl [0, 1, 2, 3, 4] rfl)

def NNg (a : Nat → Int64) : Prop := ∀ q : Nat, q < 10 → 0 ≤ (a q).toInt
theorem NNg.up {g : Nat → Int64} {k : Nat} {v : Int64} (h : NNg g) (hv : 0 ≤ v.toInt) : NNg (vp_updL g k v) := by
  intro q hq
  by_cases c : q = k
  · rw [c, upL_eq]; exact hv
  · rw [upL_ne c]; exact h q hq
-- the least of several
def mnF (v : Nat → Int64) : Nat → Int64 × Nat
  | 0 => (v 0, 0)
  | n + 1 => if (v (n + 1)).toInt < (mnF v n).1.toInt then (v (n + 1), n + 1) else mnF v n
theorem mnF_lt {v : Nat → Int64} {j k : Nat} {x : Int64} (hj : 1 ≤ j) (h : (x, k) = mnF v (j - 1)) (c : (v j).toInt < x.toInt) : (v j, j) = mnF v (j + 1 - 1) := by
  obtain ⟨n, rfl⟩ : ∃ n : Nat, j = n + 1 := ⟨j - 1, by omega⟩
  have h : (x, k) = mnF v n := h
  show _ = (if (v (n + 1)).toInt < (mnF v n).1.toInt then (v (n + 1), n + 1) else mnF v n)
  rw [← h, if_pos c]
theorem mnF_ge {v : Nat → Int64} {j k : Nat} {x : Int64} (hj : 1 ≤ j) (h : (x, k) = mnF v (j - 1)) (c : ¬ (v j).toInt < x.toInt) : (x, k) = mnF v (j + 1 - 1) := by
  obtain ⟨n, rfl⟩ : ∃ n : Nat, j = n + 1 := ⟨j - 1, by omega⟩
  have h : (x, k) = mnF v n := h
  show _ = (if (v (n + 1)).toInt < (mnF v n).1.toInt then (v (n + 1), n + 1) else mnF v n)
  rw [← h, if_neg c]
def mnI (v : Nat → Int64) (j : Nat) (x : Int64) (k : Nat) : Prop := (j = 0 ∧ x = 4000000000000000000 ∧ k = 0) ∨ (1 ≤ j ∧ (x, k) = mnF v (j - 1))
theorem mnI.lt {v : Nat → Int64} {j k : Nat} {x : Int64} (h : mnI v j x k) (c : (v j).toInt < x.toInt) : mnI v (j + 1) (v j) j := by
  rcases h with ⟨a, b, d⟩ | ⟨a, b⟩
  · subst a; exact Or.inr ⟨by omega, rfl⟩
  · exact Or.inr ⟨by omega, mnF_lt a b c⟩
theorem mnI.ge {v : Nat → Int64} {j k : Nat} {x : Int64} (h : mnI v j x k) (hf : (v j).toInt < 4000000000000000000) (c : ¬ (v j).toInt < x.toInt) : mnI v (j + 1) x k := by
  rcases h with ⟨a, b, d⟩ | ⟨a, b⟩
  · have z : (4000000000000000000 : Int64).toInt = 4000000000000000000 := by decide
    rw [b, z] at c
    exact absurd hf c
  · exact Or.inr ⟨by omega, mnF_ge a b c⟩
theorem mnF_w {v : Nat → Int64} : ∀ n : Nat, (mnF v n).2 ≤ n := by
  intro n
  induction n with
  | zero => exact Nat.le_refl 0
  | succ n ih =>
    show (if (v (n + 1)).toInt < (mnF v n).1.toInt then (v (n + 1), n + 1) else mnF v n).2 ≤ n + 1
    split
    · exact Nat.le_refl _
    · omega
theorem mnW {v : Nat → Int64} {x : Int64} {k j : Nat} (h : (x, k) = mnF v (j - 1)) : k ≤ j := by
  have t := mnF_w (v := v) (j - 1)
  rw [← h] at t
  have t : k ≤ j - 1 := t
  omega
theorem mnI.w {v : Nat → Int64} {x : Int64} {k j : Nat} (h : mnI v j x k) : k ≤ j := by
  rcases h with ⟨_, _, d⟩ | ⟨_, b⟩
  · omega
  · exact mnW b

def quT (v : Nat → Int64) (bc : Nat → Int32) (m : Int32) (s : Nat) (p : Int64 × Nat) : Int64 × Nat := if (bc s).toInt ≤ m.toInt ∧ ((v s).toInt < p.1.toInt ∨ ((v s).toInt = p.1.toInt ∧ (bc s).toInt < (bc p.2).toInt)) then (v s, s) else p
def quF (v : Nat → Int64) (bc : Nat → Int32) (m : Int32) (x0 : Int64) : Nat → Int64 × Nat
  | 0 => (x0, 0)
  | n + 1 => quT v bc m (n + 1) (quF v bc m x0 n)
theorem qu_y {v : Nat → Int64} {bc : Nat → Int32} {m : Int32} {x0 x : Int64} {j k : Nat} (hj : 1 ≤ j) (h : (x, k) = quF v bc m x0 (j - 1)) (c1 : (bc j).toInt ≤ m.toInt) (c2 : (v j).toInt < x.toInt ∨ ((v j).toInt = x.toInt ∧ (bc j).toInt < (bc k).toInt)) : (v j, j) = quF v bc m x0 (j + 1 - 1) := by
  obtain ⟨n, rfl⟩ : ∃ n : Nat, j = n + 1 := ⟨j - 1, by omega⟩
  have h : (x, k) = quF v bc m x0 n := h
  show _ = quT v bc m (n + 1) (quF v bc m x0 n)
  rw [← h]
  unfold quT
  rw [if_pos ⟨c1, c2⟩]
theorem qu_n {v : Nat → Int64} {bc : Nat → Int32} {m : Int32} {x0 x : Int64} {j k : Nat} (hj : 1 ≤ j) (h : (x, k) = quF v bc m x0 (j - 1)) (c : ¬ ((bc j).toInt ≤ m.toInt ∧ ((v j).toInt < x.toInt ∨ ((v j).toInt = x.toInt ∧ (bc j).toInt < (bc k).toInt)))) : (x, k) = quF v bc m x0 (j + 1 - 1) := by
  obtain ⟨n, rfl⟩ : ∃ n : Nat, j = n + 1 := ⟨j - 1, by omega⟩
  have h : (x, k) = quF v bc m x0 n := h
  show _ = quT v bc m (n + 1) (quF v bc m x0 n)
  rw [← h]
  unfold quT
  rw [if_neg c]
def quI (v : Nat → Int64) (bc : Nat → Int32) (m : Int32) (j : Nat) (x : Int64) (k : Nat) : Prop := (j = 0 ∧ x = 4000000000000000000 ∧ k = 0) ∨ (1 ≤ j ∧ (x, k) = quF v bc m (v 0) (j - 1))
theorem quF_w {v : Nat → Int64} {bc : Nat → Int32} {m : Int32} {x0 : Int64} : ∀ n : Nat, (quF v bc m x0 n).2 ≤ n := by
  intro n
  induction n with
  | zero => exact Nat.le_refl 0
  | succ n ih =>
    show (quT v bc m (n + 1) (quF v bc m x0 n)).2 ≤ n + 1
    unfold quT
    split
    · exact Nat.le_refl _
    · omega
theorem quI.y {v : Nat → Int64} {bc : Nat → Int32} {m : Int32} {x : Int64} {j k : Nat} (h : quI v bc m j x k) (c1 : (bc j).toInt ≤ m.toInt) (c2 : (v j).toInt < x.toInt ∨ ((v j).toInt = x.toInt ∧ (bc j).toInt < (bc k).toInt)) : quI v bc m (j + 1) (v j) j := by
  rcases h with ⟨a, b, d⟩ | ⟨a, b⟩
  · subst a; exact Or.inr ⟨by omega, rfl⟩
  · exact Or.inr ⟨by omega, qu_y a b c1 c2⟩
theorem quI.n {v : Nat → Int64} {bc : Nat → Int32} {m : Int32} {x : Int64} {j k : Nat} (h : quI v bc m j x k) (hf : (v j).toInt < 4000000000000000000) (h0 : (bc 0).toInt ≤ m.toInt) (c : ¬ ((bc j).toInt ≤ m.toInt ∧ ((v j).toInt < x.toInt ∨ ((v j).toInt = x.toInt ∧ (bc j).toInt < (bc k).toInt)))) : quI v bc m (j + 1) x k := by
  rcases h with ⟨a, b, d⟩ | ⟨a, b⟩
  · have z : (4000000000000000000 : Int64).toInt = 4000000000000000000 := by decide
    subst a
    rw [b, z] at c
    exact absurd ⟨h0, Or.inl hf⟩ c
  · exact Or.inr ⟨by omega, qu_n a b c⟩
theorem quW {v : Nat → Int64} {bc : Nat → Int32} {m : Int32} {x0 x : Int64} {j k : Nat} (h : (x, k) = quF v bc m x0 (j - 1)) : k ≤ j := by
  have t := quF_w (v := v) (bc := bc) (m := m) (x0 := x0) (j - 1)
  rw [← h] at t
  have t : k ≤ j - 1 := t
  omega
theorem quI.w {v : Nat → Int64} {bc : Nat → Int32} {m : Int32} {x : Int64} {j k : Nat} (h : quI v bc m j x k) : k ≤ j := by
  rcases h with ⟨_, _, d⟩ | ⟨_, b⟩
  · omega
  · exact quW b

-- ways that lead into a depth
def inT (f r : Bool) (d : Nat) (x : Int32) (g : Nat → Int32) : Nat → Int32 := if f = true then (if r = true then upd (upd g (d - 1) (g (d - 1) + x)) (min 9 (d + 1)) (upd g (d - 1) (g (d - 1) + x) (min 9 (d + 1)) + x) else upd g (d - 1) (g (d - 1) + x)) else (if r = true then upd g (min 9 (d + 1)) (g (min 9 (d + 1)) + x) else g)
def inR (f r : Bool) (a : Nat → Int32) : Nat → Nat → Int32
  | 0 => fun q => if q = 0 then a 0 else 0
  | d + 1 => inT f r (d + 1) (a (d + 1)) (inR f r a d)
theorem up_cg {g g' : Nat → Int32} {k : Nat} {x : Int32} (hk : k < 10) (e : ∀ q : Nat, q < 10 → g q = g' q) : ∀ q : Nat, q < 10 → upd g k (g k + x) q = upd g' k (g' k + x) q := by
  intro q hq
  show (if q = k then g k + x else g q) = (if q = k then g' k + x else g' q)
  rw [e k hk, e q hq]
theorem inT_cg {f r : Bool} {d : Nat} {x : Int32} {g g' : Nat → Int32} (hd : d ≤ 9) (e : ∀ q : Nat, q < 10 → g q = g' q) : ∀ q : Nat, q < 10 → inT f r d x g q = inT f r d x g' q := by
  intro q hq
  unfold inT
  cases f with
  | true =>
    cases r with
    | true => exact up_cg (by omega) (up_cg (by omega) e) q hq
    | false => exact up_cg (by omega) e q hq
  | false =>
    cases r with
    | true => exact up_cg (by omega) e q hq
    | false => exact e q hq
theorem in_step {f r : Bool} {g a : Nat → Int32} {j : Nat} {g' : Nat → Int32} (hj : 1 ≤ j) (h1 : j < 10) (hg : ∀ q : Nat, q < 10 → g q = inR f r a (j - 1) q) (e : g' = inT f r j (a j) g) : ∀ q : Nat, q < 10 → g' q = inR f r a (j + 1 - 1) q := by
  intro q hq
  obtain ⟨d, rfl⟩ : ∃ d : Nat, j = d + 1 := ⟨j - 1, by omega⟩
  rw [e]
  exact inT_cg (by omega) hg q hq
theorem in_zero {f r : Bool} {g a : Nat → Int32} (hz : ∀ q : Nat, q < 10 → g q = 0) : ∀ q : Nat, q < 10 → upd g 0 (a 0) q = inR f r a (1 - 1) q := by
  intro q hq
  show (if q = 0 then a 0 else g q) = (if q = 0 then a 0 else 0)
  rw [hz q hq]
def inS (H : Nat → Int32) (AL : Nat → Nat → Bool) (D : Nat) : Nat → Nat → Int32
  | 0 => fun q => if q = D then 1 else 0
  | i + 1 => fun q => if AL i q = true then inR (decide (0 < (H i).toInt)) (decide ((H i).toInt < 20)) (inS H AL D i) 9 q else 0
-- ways that lead on
def onT (f r : Bool) (P : Nat → Int32) : Nat → Int32 := fun q => if q = 0 then P 0 else (if f = true then P (q - 1) else 0) + (if r = true then P (min 9 (q + 1)) else 0)
def onD (AL : Nat → Bool) (P : Nat → Int32) : Nat → Int32 := fun q => if AL q = true then P q else 0
/-- the row of what leads on from stretch N - n -/
def onS (H : Nat → Int32) (AL : Nat → Nat → Bool) (N : Nat) : Nat → Nat → Int32
  | 0 => fun _ => 1
  | n + 1 => onT (decide (0 < (H (N - (n + 1))).toInt)) (decide ((H (N - (n + 1))).toInt < 20)) (onD (AL (N - (n + 1))) (onS H AL N n))
theorem onT_cg {f r : Bool} {P P' : Nat → Int32} (e : ∀ q : Nat, q < 10 → P q = P' q) : ∀ q : Nat, q < 10 → onT f r P q = onT f r P' q := by
  intro q hq
  unfold onT
  rw [e 0 (by decide), e (q - 1) (by omega), e (min 9 (q + 1)) (by omega)]
theorem onD_cg {AL AL' : Nat → Bool} {P P' : Nat → Int32} (ea : ∀ q : Nat, q < 10 → AL q = AL' q) (e : ∀ q : Nat, q < 10 → P q = P' q) : ∀ q : Nat, q < 10 → onD AL P q = onD AL' P' q := by
  intro q hq
  unfold onD
  rw [ea q hq, e q hq]
theorem vu_y {α : Type} {F : Nat → α} {k : Nat} {v : α} : va_up F k v k = v := if_pos rfl
theorem vu_n {α : Type} {F : Nat → α} {k m : Nat} {v : α} (h : ¬ m = k) : va_up F k v m = F m := if_neg h
def DUm (AL : Nat → Bool) (k j : Nat) (G F : Nat → Nat → Int32) : Prop := (∀ q : Nat, q < j → G k q = onD AL (F k) q) ∧ (∀ q : Nat, j ≤ q → G k q = F k q) ∧ (∀ m : Nat, ¬ m = k → G m = F m)
theorem DUm.z {AL : Nat → Bool} {k : Nat} {F : Nat → Nat → Int32} : DUm AL k 0 F F := ⟨fun q h => absurd h (Nat.not_lt_zero q), fun _ _ => rfl, fun _ _ => rfl⟩
theorem DUm.no {AL : Nat → Bool} {k j : Nat} {G F : Nat → Nat → Int32} (h : DUm AL k j G F) (e : ¬ AL j = true) : DUm AL k (j + 1) (va_up G k (upd (G k) j 0)) F := by
  refine ⟨fun q hq => ?_, fun q hq => ?_, fun m hm => ?_⟩
  · rw [vu_y]
    show (if q = j then 0 else G k q) = onD AL (F k) q
    by_cases c : q = j
    · rw [if_pos c, c]; exact (if_neg e).symm
    · rw [if_neg c]; exact h.1 q (by omega)
  · rw [vu_y]
    show (if q = j then 0 else G k q) = F k q
    rw [if_neg (by omega)]; exact h.2.1 q (by omega)
  · rw [vu_n hm]; exact h.2.2 m hm
def LI0 (i j : Nat) (G F : Nat → Nat → Int32) : Prop := (∀ q : Nat, q < j → G (i + 1) q = 0) ∧ (∀ m : Nat, ¬ m = i + 1 → G m = F m)
theorem LI0.z {i : Nat} {F : Nat → Nat → Int32} : LI0 i 0 F F := ⟨fun q h => absurd h (Nat.not_lt_zero q), fun _ _ => rfl⟩
theorem LI0.s {i j : Nat} {G F : Nat → Nat → Int32} (h : LI0 i j G F) : LI0 i (j + 1) (va_up G (i + 1) (upd (G (i + 1)) j 0)) F := by
  refine ⟨fun q hq => ?_, fun m hm => by rw [vu_n hm]; exact h.2 m hm⟩
  rw [vu_y]
  show (if q = j then 0 else G (i + 1) q) = 0
  by_cases c : q = j
  · rw [if_pos c]
  · rw [if_neg c]; exact h.1 q (by omega)
def LI1 (f r : Bool) (i j : Nat) (G F : Nat → Nat → Int32) : Prop := (∀ q : Nat, q < 10 → G (i + 1) q = inR f r (F i) (j - 1) q) ∧ (∀ m : Nat, ¬ m = i + 1 → G m = F m)
theorem LI1.z {f r : Bool} {i : Nat} {G F : Nat → Nat → Int32} (h : LI0 i 10 G F) : LI1 f r i 1 (va_up G (i + 1) (upd (G (i + 1)) 0 (G i 0))) F := by
  refine ⟨fun q hq => ?_, fun m hm => by rw [vu_n hm]; exact h.2 m hm⟩
  rw [vu_y, h.2 i (by omega)]
  exact in_zero h.1 q hq
theorem LI1.s {f r : Bool} {i j : Nat} {G G' F : Nat → Nat → Int32} (h : LI1 f r i j G F) (hj : 1 ≤ j) (h1 : j < 10) (e1 : G' (i + 1) = inT f r j (G i j) (G (i + 1))) (e2 : ∀ m : Nat, ¬ m = i + 1 → G' m = G m) : LI1 f r i (j + 1) G' F := by
  refine ⟨?_, fun m hm => (e2 m hm).trans (h.2 m hm)⟩
  rw [h.2 i (by omega)] at e1
  exact in_step hj h1 h.1 e1
def LO (f r : Bool) (i j : Nat) (G E : Nat → Nat → Int32) : Prop := (∀ q : Nat, q < j → G i q = onT f r (E (i + 1)) q) ∧ (∀ m : Nat, ¬ m = i → G m = E m)
theorem LO.z {f r : Bool} {i : Nat} {E : Nat → Nat → Int32} : LO f r i 1 (va_up E i (upd (E i) 0 (E (i + 1) 0))) E := by
  refine ⟨fun q hq => ?_, fun m hm => by rw [vu_n hm]⟩
  rw [vu_y, show q = 0 by omega]
  rfl
theorem LO.s {f r : Bool} {i j : Nat} {G E : Nat → Nat → Int32} {x : Int32} (h : LO f r i j G E) (hx : x = onT f r (G (i + 1)) j) : LO f r i (j + 1) (va_up G i (upd (G i) j x)) E := by
  refine ⟨fun q hq => ?_, fun m hm => by rw [vu_n hm]; exact h.2 m hm⟩
  rw [vu_y]
  show (if q = j then x else G i q) = _
  by_cases c : q = j
  · rw [if_pos c, hx, c, h.2 (i + 1) (by omega)]
  · rw [if_neg c]; exact h.1 q (by omega)

def fl10 (i : Nat) (g : Nat → Int32) : Nat → Int32 := fun q => g (10 * i + 10 + q)
def rpF (AL : Nat → Bool) (f r : Bool) (a : Nat → Int32) : Nat → Nat → Int32
  | 0 => fun _ => 0
  | d + 1 => onD AL (inR f r a d)
def AHO (H : Nat → Int32) (AL : Nat → Nat → Bool) (D i : Nat) (g : Nat → Int32) : Prop := (∀ m : Nat, m ≤ i → ∀ q : Nat, q < 10 → g (10 * m + q) = inS H AL D m q) ∧ (∀ k : Nat, 10 * i + 10 ≤ k → k < 110 → g k = 0)
def AHI (H : Nat → Int32) (AL : Nat → Nat → Bool) (D i d : Nat) (g : Nat → Int32) : Prop := (∀ m : Nat, m ≤ i → ∀ q : Nat, q < 10 → g (10 * m + q) = inS H AL D m q) ∧ (∀ q : Nat, q < 10 → fl10 i g q = rpF (AL i) (decide (0 < (H i).toInt)) (decide ((H i).toInt < 20)) (inS H AL D i) d q) ∧ (∀ k : Nat, 10 * i + 20 ≤ k → k < 110 → g k = 0)
theorem AHI.z {H : Nat → Int32} {AL : Nat → Nat → Bool} {D i : Nat} {g : Nat → Int32} (hi : i < 10) (h : AHO H AL D i g) : AHI H AL D i 0 g := ⟨h.1, fun q hq => h.2 _ (by omega) (by omega), fun k h1 h2 => h.2 k (by omega) h2⟩
theorem AHI.o {H : Nat → Int32} {AL : Nat → Nat → Bool} {D i : Nat} {g : Nat → Int32} (h : AHI H AL D i 10 g) : AHO H AL D (i + 1) g := by
  refine ⟨fun m hm q hq => ?_, fun k h1 h2 => h.2.2 k (by omega) h2⟩
  by_cases c : m = i + 1
  · rw [c, show 10 * (i + 1) + q = 10 * i + 10 + q by omega]
    exact h.2.1 q hq
  · exact h.1 m (by omega) q hq
theorem AHI.s {H : Nat → Int32} {AL : Nat → Nat → Bool} {D i d : Nat} {g g' : Nat → Int32} (h : AHI H AL D i d g) (hi : i < 10) (e1 : ∀ k : Nat, ¬ (10 * i + 10 ≤ k ∧ k < 10 * i + 20) → g' k = g k) (e2 : ∀ q : Nat, q < 10 → fl10 i g' q = rpF (AL i) (decide (0 < (H i).toInt)) (decide ((H i).toInt < 20)) (inS H AL D i) (d + 1) q) : AHI H AL D i (d + 1) g' :=
  ⟨fun m hm q hq => (e1 _ (by omega)).trans (h.1 m hm q hq), e2, fun k h1 h2 => (e1 k (by omega)).trans (h.2.2 k h1 h2)⟩
-- what leads on
def BHO (H : Nat → Int32) (AL : Nat → Nat → Bool) (N j : Nat) (g : Nat → Int32) : Prop := ∀ m : Nat, j ≤ m → m ≤ N → ∀ q : Nat, q < 10 → g (10 * m + q) = onS H AL N (N - m) q
def BHI (H : Nat → Int32) (AL : Nat → Nat → Bool) (N i d : Nat) (g : Nat → Int32) : Prop := BHO H AL N (i + 1) g ∧ (∀ q : Nat, q < d → g (10 * i + q) = onS H AL N (N - i) q)
theorem BHI.s {H : Nat → Int32} {AL : Nat → Nat → Bool} {N i d : Nat} {g : Nat → Int32} {x : Int32} (h : BHI H AL N i d g) (hi : i + 1 ≤ N) (hd : d < 10) (hx : x = onT (decide (0 < (H i).toInt)) (decide ((H i).toInt < 20)) (onD (AL i) (fl10 i g)) d) : BHI H AL N i (d + 1) (upd g (10 * i + d) x) := by
  refine ⟨fun m h1 h2 q hq => (if_neg (by omega)).trans (h.1 m h1 h2 q hq), fun q hq => ?_⟩
  show (if 10 * i + q = 10 * i + d then x else g (10 * i + q)) = _
  by_cases c : q = d
  · rw [if_pos (by omega), hx, c, show N - i = (N - (i + 1)) + 1 by omega]
    show _ = onT (decide (0 < (H (N - (N - (i + 1) + 1))).toInt)) (decide ((H (N - (N - (i + 1) + 1))).toInt < 20)) (onD (AL (N - (N - (i + 1) + 1))) (onS H AL N (N - (i + 1)))) d
    rw [show N - (N - (i + 1) + 1) = i by omega]
    refine onT_cg (onD_cg (fun _ _ => rfl) (fun q hq => ?_)) d hd
    show g (10 * i + 10 + q) = _
    rw [show 10 * i + 10 + q = 10 * (i + 1) + q by omega]
    exact h.1 (i + 1) (Nat.le_refl _) hi q hq
  · rw [if_neg (by omega)]; exact h.2 q (by omega)
theorem BHI.o {H : Nat → Int32} {AL : Nat → Nat → Bool} {N i : Nat} {g : Nat → Int32} (h : BHI H AL N i 10 g) : BHO H AL N i g := by
  intro m h1 h2 q hq
  by_cases c : m = i
  · rw [c]; exact h.2 q hq
  · exact h.1 m (by omega) h2 q hq
theorem AHO.z {H : Nat → Int32} {AL : Nat → Nat → Bool} {D : Nat} {g : Nat → Int32} (hD : D ≤ 9) (h : ∀ q : Nat, q < 110 → g q = if q = D then 1 else 0) : AHO H AL D 0 g := by
  refine ⟨fun m hm q hq => ?_, fun k h1 h2 => ?_⟩
  · rw [show m = 0 by omega, show 10 * 0 + q = q by omega, h q (by omega)]
    rfl
  · rw [h k h2, if_neg (by omega)]
theorem BHO.z {H : Nat → Int32} {AL : Nat → Nat → Bool} {N : Nat} {g : Nat → Int32} (hN : N ≤ 10) (h : ∀ q : Nat, q < 110 → g q = if q / 10 = N then 1 else 0) : BHO H AL N N g := by
  intro m h1 h2 q hq
  rw [show m = N by omega, h _ (by omega), if_pos (by omega), Nat.sub_self]
  rfl

-- THE BEST: pure parts (draft)
def mxF (h : Int32) (x y : Int64) : Int64 := x * h.toInt64 + y * (20 - h).toInt64
def bmF (v : Nat → Int64) (wo : Int32) (x0 : Int64) (c0 : Int32) : Nat → Int64 × Int32
  | 0 => (x0, c0)
  | b + 1 => if nI b = wo then bmF v wo x0 c0 b else if (v b).toInt < (bmF v wo x0 c0 b).1.toInt then (v b, nI b) else bmF v wo x0 c0 b
/-- with a bearer to choose, it doesn't matter what stood there first -/
theorem bm_start {v : Nat → Int64} {wo : Int32} {x0 x1 : Int64} {c0 c1 : Int32} : ∀ n : Nat, (∀ b : Nat, b < n → (v b).toInt < x0.toInt ∧ (v b).toInt < x1.toInt) → (∃ b : Nat, b < n ∧ ¬ nI b = wo) → bmF v wo x0 c0 n = bmF v wo x1 c1 n := by
  intro n
  induction n with
  | zero => intro _ h; obtain ⟨b, hb, _⟩ := h; exact absurd hb (Nat.not_lt_zero b)
  | succ n ih =>
    intro hv he
    have base : (¬ ∃ b : Nat, b < n ∧ ¬ nI b = wo) → ∀ (x : Int64) (c : Int32), bmF v wo x c n = (x, c) := by
      intro hn x c
      have go : ∀ m : Nat, m ≤ n → bmF v wo x c m = (x, c) := by
        intro m
        induction m with
        | zero => intro _; rfl
        | succ m ihm =>
          intro hm
          show (if nI m = wo then bmF v wo x c m else if (v m).toInt < (bmF v wo x c m).1.toInt then (v m, nI m) else bmF v wo x c m) = (x, c)
          rw [if_pos (Classical.byContradiction (fun e => hn ⟨m, by omega, e⟩))]
          exact ihm (by omega)
      exact go n (Nat.le_refl n)
    show (if nI n = wo then bmF v wo x0 c0 n else if (v n).toInt < (bmF v wo x0 c0 n).1.toInt then (v n, nI n) else bmF v wo x0 c0 n) = (if nI n = wo then bmF v wo x1 c1 n else if (v n).toInt < (bmF v wo x1 c1 n).1.toInt then (v n, nI n) else bmF v wo x1 c1 n)
    by_cases hE : ∃ b : Nat, b < n ∧ ¬ nI b = wo
    · rw [ih (fun b hb => hv b (by omega)) hE]
    · rw [base hE x0 c0, base hE x1 c1]
      have hw : ¬ nI n = wo := by
        obtain ⟨b, hb, e⟩ := he
        by_cases c : b = n
        · rw [← c]; exact e
        · exact absurd ⟨b, by omega, e⟩ hE
      rw [if_neg hw, if_neg hw, if_pos (hv n (by omega)).1, if_pos (hv n (by omega)).2]
theorem bm_cg {v v' : Nat → Int64} {wo : Int32} {x0 : Int64} {c0 : Int32} : ∀ n : Nat, (∀ b : Nat, b < n → v b = v' b) → bmF v wo x0 c0 n = bmF v' wo x0 c0 n := by
  intro n
  induction n with
  | zero => intro _; rfl
  | succ n ih =>
    intro h
    show (if nI n = wo then bmF v wo x0 c0 n else if (v n).toInt < (bmF v wo x0 c0 n).1.toInt then (v n, nI n) else bmF v wo x0 c0 n) = (if nI n = wo then bmF v' wo x0 c0 n else if (v' n).toInt < (bmF v' wo x0 c0 n).1.toInt then (v' n, nI n) else bmF v' wo x0 c0 n)
    rw [h n (by omega), ih (fun b hb => h b (by omega))]
theorem bm_fst {v : Nat → Int64} {wo : Int32} {x : Int64} {c c' : Int32} : ∀ n : Nat, (bmF v wo x c n).1 = (bmF v wo x c' n).1 := by
  intro n
  induction n with
  | zero => rfl
  | succ n ih =>
    show (if nI n = wo then bmF v wo x c n else if (v n).toInt < (bmF v wo x c n).1.toInt then (v n, nI n) else bmF v wo x c n).1 = (if nI n = wo then bmF v wo x c' n else if (v n).toInt < (bmF v wo x c' n).1.toInt then (v n, nI n) else bmF v wo x c' n).1
    by_cases w : nI n = wo
    · rw [if_pos w, if_pos w]; exact ih
    · rw [if_neg w, if_neg w, ← ih]
      by_cases l : (v n).toInt < (bmF v wo x c n).1.toInt
      · rw [if_pos l, if_pos l]
      · rw [if_neg l, if_neg l]; exact ih
theorem sl_inj {g : Int32} {d e : Nat} (h : slotF g d = slotF g e) : d = e := by
  unfold slotF at h
  omega
def wgT (m : Int64) (k : Nat) (p : Int64 × Int32) : Int64 × Int32 := if m.toInt < p.1.toInt then (m, nI k) else p
def WG (i : Nat) (g : Int32) (mv : Nat → Int64) (k j : Nat) (G F : Nat → Nat → Int64) (Gc E : Nat → Nat → Int32) : Prop :=
  (∀ m : Nat, ¬ m = i → G m = F m ∧ Gc m = E m) ∧ (∀ d : Nat, 1 ≤ d → d < j → (G i (slotF g d), Gc i (slotF g d)) = wgT (mv d) k (F i (slotF g d), E i (slotF g d))) ∧ (∀ s : Nat, (∀ d : Nat, 1 ≤ d → d < j → ¬ s = slotF g d) → G i s = F i s ∧ Gc i s = E i s)
theorem WG.z {i : Nat} {g : Int32} {mv : Nat → Int64} {k : Nat} {F : Nat → Nat → Int64} {E : Nat → Nat → Int32} : WG i g mv k 1 F F E E := ⟨fun _ _ => ⟨rfl, rfl⟩, fun d h1 h2 => absurd h2 (by omega), fun _ _ => ⟨rfl, rfl⟩⟩
theorem WG.lt {i : Nat} {g : Int32} {mv : Nat → Int64} {k j : Nat} {G F : Nat → Nat → Int64} {Gc E : Nat → Nat → Int32} {x : Int64} (h : WG i g mv k j G F Gc E) (hj : 1 ≤ j) (hx : x = mv j) (c : x.toInt < (G i (slotF g j)).toInt) : WG i g mv k (j + 1) (va_up G i (vp_updL (G i) (slotF g j) x)) F (va_up Gc i (upd (Gc i) (slotF g j) (nI k))) E := by
  have hs := h.2.2 (slotF g j) (fun d h1 h2 e => by have := sl_inj e; omega)
  refine ⟨fun m hm => by rw [vu_n hm, vu_n hm]; exact h.1 m hm, fun d h1 h2 => ?_, fun s hq => ?_⟩
  · rw [vu_y, vu_y]
    by_cases e : d = j
    · rw [e, upL_eq]
      show (x, if slotF g j = slotF g j then nI k else _) = _
      rw [if_pos rfl]
      unfold wgT
      rw [if_pos (by rw [← hs.1, ← hx]; exact c), hx]
    · rw [upL_ne (fun z => e (sl_inj z))]
      show (_, if slotF g d = slotF g j then nI k else Gc i (slotF g d)) = _
      rw [if_neg (fun z => e (sl_inj z))]
      exact h.2.1 d h1 (by omega)
  · have n9 : ¬ s = slotF g j := hq j hj (by omega)
    rw [vu_y, vu_y, upL_ne n9]
    show _ ∧ (if s = slotF g j then nI k else Gc i s) = _
    rw [if_neg n9]
    exact h.2.2 s (fun d h1 h2 => hq d h1 (by omega))
theorem WG.ge {i : Nat} {g : Int32} {mv : Nat → Int64} {k j : Nat} {G F : Nat → Nat → Int64} {Gc E : Nat → Nat → Int32} {x : Int64} (h : WG i g mv k j G F Gc E) (hj : 1 ≤ j) (hx : x = mv j) (c : ¬ x.toInt < (G i (slotF g j)).toInt) : WG i g mv k (j + 1) G F Gc E := by
  have hs := h.2.2 (slotF g j) (fun d h1 h2 e => by have := sl_inj e; omega)
  refine ⟨h.1, fun d h1 h2 => ?_, fun s hq => h.2.2 s (fun d h1 h2 => hq d h1 (by omega))⟩
  by_cases e : d = j
  · rw [e, hs.1, hs.2]
    unfold wgT
    rw [if_neg (by rw [← hs.1, ← hx]; exact c)]
  · exact h.2.1 d h1 (by omega)
def MORE : Int64 := 1152921504606846976
def CI0 (i : Nat) (g : Int32) (w : Int64) (j : Nat) (G F : Nat → Nat → Int64) : Prop := (∀ m : Nat, ¬ m = i → G m = F m) ∧ G i (slotF g 0) = w ∧ (∀ d : Nat, 1 ≤ d → d < j → G i (slotF g d) = MORE) ∧ (∀ s : Nat, (∀ d : Nat, d < j → ¬ s = slotF g d) → G i s = F i s)
theorem CI0.z {i : Nat} {g : Int32} {w : Int64} {F : Nat → Nat → Int64} : CI0 i g w 1 (va_up F i (vp_updL (F i) (slotF g 0) w)) F :=
  ⟨fun m hm => vu_n hm, by rw [vu_y, upL_eq], fun d h1 h2 => absurd h2 (by omega), fun s hs => by rw [vu_y, upL_ne (hs 0 (by omega))]⟩
theorem CI0.s {i : Nat} {g : Int32} {w x : Int64} {j : Nat} {G F : Nat → Nat → Int64} (h : CI0 i g w j G F) (hj : 1 ≤ j) (hx : x = MORE) : CI0 i g w (j + 1) (va_up G i (vp_updL (G i) (slotF g j) x)) F := by
  refine ⟨fun m hm => (vu_n hm).trans (h.1 m hm), ?_, fun d h1 h2 => ?_, fun s hs => ?_⟩
  · rw [vu_y, upL_ne (fun e => by have := sl_inj e; omega)]; exact h.2.1
  · rw [vu_y]
    by_cases e : d = j
    · rw [e, upL_eq]; exact hx
    · rw [upL_ne (fun z => e (sl_inj z))]; exact h.2.2.1 d h1 (by omega)
  · rw [vu_y, upL_ne (hs j (by omega))]
    exact h.2.2.2 s (fun d hd => hs d (by omega))
def CF (i : Nat) (g : Int32) (w : Int64) (wo : Int32) (v : Nat → Nat → Int64) (b : Nat) (G F : Nat → Nat → Int64) (Gc E : Nat → Nat → Int32) : Prop := (∀ m : Nat, ¬ m = i → G m = F m ∧ Gc m = E m) ∧ G i (slotF g 0) = w ∧ (∀ d : Nat, 1 ≤ d → d < 10 → (G i (slotF g d), Gc i (slotF g d)) = bmF (v d) wo MORE (E i (slotF g d)) b) ∧ (∀ s : Nat, (∀ d : Nat, d < 10 → ¬ s = slotF g d) → G i s = F i s ∧ Gc i s = E i s)
theorem CF.z {i : Nat} {g : Int32} {w : Int64} {wo : Int32} {v : Nat → Nat → Int64} {G F : Nat → Nat → Int64} {E : Nat → Nat → Int32} (h : CI0 i g w 10 G F) : CF i g w wo v 0 G F E E :=
  ⟨fun m hm => ⟨h.1 m hm, rfl⟩, h.2.1, fun d h1 h2 => by rw [h.2.2.1 d h1 h2]; rfl, fun s hs => ⟨h.2.2.2 s hs, rfl⟩⟩
theorem CF.ex {i : Nat} {g : Int32} {w : Int64} {wo : Int32} {v : Nat → Nat → Int64} {b : Nat} {G F : Nat → Nat → Int64} {Gc E : Nat → Nat → Int32} (h : CF i g w wo v b G F Gc E) (e : nI b = wo) : CF i g w wo v (b + 1) G F Gc E := by
  refine ⟨h.1, h.2.1, fun d h1 h2 => ?_, h.2.2.2⟩
  show _ = (if nI b = wo then bmF (v d) wo MORE (E i (slotF g d)) b else if (v d b).toInt < (bmF (v d) wo MORE (E i (slotF g d)) b).1.toInt then (v d b, nI b) else bmF (v d) wo MORE (E i (slotF g d)) b)
  rw [if_pos e]
  exact h.2.2.1 d h1 h2
theorem CF.s {i : Nat} {g : Int32} {w : Int64} {wo : Int32} {v : Nat → Nat → Int64} {b : Nat} {G F G' : Nat → Nat → Int64} {Gc E Gc' : Nat → Nat → Int32} {mv : Nat → Int64} (h : CF i g w wo v b G F Gc E) (e : ¬ nI b = wo) (hw : WG i g mv b 10 G' G Gc' Gc) (hm : ∀ d : Nat, 1 ≤ d → d < 10 → mv d = v d b) : CF i g w wo v (b + 1) G' F Gc' E := by
  refine ⟨fun m hm => ⟨(hw.1 m hm).1.trans (h.1 m hm).1, (hw.1 m hm).2.trans (h.1 m hm).2⟩, ?_, fun d h1 h2 => ?_, fun s hs => ?_⟩
  · rw [(hw.2.2 (slotF g 0) (fun d h1 _ e => by have := sl_inj e; omega)).1]; exact h.2.1
  · rw [hw.2.1 d h1 h2, h.2.2.1 d h1 h2, hm d h1 h2]
    show _ = (if nI b = wo then bmF (v d) wo MORE (E i (slotF g d)) b else if (v d b).toInt < (bmF (v d) wo MORE (E i (slotF g d)) b).1.toInt then (v d b, nI b) else bmF (v d) wo MORE (E i (slotF g d)) b)
    rw [if_neg e]
    rfl
  · have t := hw.2.2 s (fun d _ h2 => hs d h2)
    have u := h.2.2.2 s hs
    exact ⟨t.1.trans u.1, t.2.trans u.2⟩
def bwV (H : Nat → Int32 → Nat → Int32) (N B : Nat) (wo : Int32) : Nat → Int32 → Nat → Int64
  | 0 => fun _ d => if d = 0 then 1 else 0
  | n + 1 => fun g d => if d = 0 then powF (n + 1) else (bmF (fun b => mxF (H (N - (n + 1)) g b) (bwV H N B wo n (nI b) (d - 1)) (bwV H N B wo n (nI b) (min 9 (d + 1)))) wo MORE 0 B).1
def VG (B : Nat) (g : Int32) : Prop := g = -4 ∨ ∃ a : Nat, a < B ∧ g = nI a
theorem sl_ne {g g' : Int32} {d d' : Nat} (hg : VG 6 g) (hg' : VG 6 g') (hd : d ≤ 9) (hd' : d' ≤ 9) (h : slotF g d = slotF g' d') : g = g' ∧ d = d' := by
  have m4 : (-4 : Int32).toInt = -4 := by decide
  have e : ∀ x : Int32, VG 6 x → (x = -4 ∧ (if x = -4 then 0 else x.toNatClampNeg + 1) = 0) ∨ (∃ a : Nat, a < 6 ∧ x = nI a ∧ (if x = -4 then 0 else x.toNatClampNeg + 1) = a + 1) := by
    intro x hx
    rcases hx with q | ⟨a, ha, q⟩
    · exact Or.inl ⟨q, if_pos q⟩
    · refine Or.inr ⟨a, ha, q, ?_⟩
      rw [if_neg (fun z => by rw [q] at z; have t := congrArg Int32.toInt z; rw [nI_toInt (by omega)] at t; omega), q, nI_clamp (by omega)]
  unfold slotF at h
  rcases e g hg with ⟨a1, a2⟩ | ⟨a, ha, a1, a2⟩
  · rcases e g' hg' with ⟨b1, b2⟩ | ⟨b, hb, b1, b2⟩
    · rw [a2, b2] at h; exact ⟨a1.trans b1.symm, by omega⟩
    · rw [a2, b2] at h; omega
  · rcases e g' hg' with ⟨b1, b2⟩ | ⟨b, hb, b1, b2⟩
    · rw [a2, b2] at h; omega
    · rw [a2, b2] at h
      have ab : a = b := by omega
      exact ⟨by rw [a1, b1, ab], by omega⟩
/-- a row of THE BEST as it should stand -/
def ROK (H : Nat → Int32 → Nat → Int32) (N B : Nat) (wo : Int32) (m : Nat) (g : Int32) (G : Nat → Nat → Int64) (Gc : Nat → Nat → Int32) : Prop := ∀ d : Nat, d ≤ 9 → G m (slotF g d) = bwV H N B wo (N - m) g d ∧ (m < N → 1 ≤ d → ∃ c0 : Int32, Gc m (slotF g d) = (bmF (fun b => mxF (H m g b) (bwV H N B wo (N - (m + 1)) (nI b) (d - 1)) (bwV H N B wo (N - (m + 1)) (nI b) (min 9 (d + 1)))) wo MORE c0 B).2)
def PLR (H : Nat → Int32 → Nat → Int32) (N B : Nat) (wo : Int32) (j : Nat) (G : Nat → Nat → Int64) (Gc : Nat → Nat → Int32) : Prop := ∀ m : Nat, j ≤ m → m ≤ N → ∀ g : Int32, VG B g → ROK H N B wo m g G Gc
def PLI (H : Nat → Int32 → Nat → Int32) (N B : Nat) (wo : Int32) (i a : Nat) (G : Nat → Nat → Int64) (Gc : Nat → Nat → Int32) : Prop := PLR H N B wo (i + 1) G Gc ∧ ∀ g : Int32, VG a g → ROK H N B wo i g G Gc
theorem PLR.z {H : Nat → Int32 → Nat → Int32} {N B : Nat} {wo : Int32} {G : Nat → Nat → Int64} {Gc : Nat → Nat → Int32} (hB : B ≤ 6) (h : ∀ s : Nat, s < 70 → G N s = if s % 10 = 0 then 1 else 0) : PLR H N B wo N G Gc := by
  intro m h1 h2 g hg d hd
  have em : m = N := by omega
  subst em
  refine ⟨?_, fun q => absurd q (Nat.lt_irrefl _)⟩
  have hs : slotF g d < 70 ∧ slotF g d % 10 = d := by
    unfold slotF
    rcases hg with q | ⟨a, ha, q⟩
    · rw [if_pos q]; omega
    · rw [q, nI_clamp (by omega)]; split <;> omega
  rw [h _ hs.1, hs.2, Nat.sub_self]
  rfl
theorem PLI.s {H : Nat → Int32 → Nat → Int32} {N B : Nat} {wo : Int32} {i a' : Nat} {g : Int32} {w : Int64} {v : Nat → Nat → Int64} {G G' : Nat → Nat → Int64} {Gc Gc' : Nat → Nat → Int32} (hi : i < N) (h : PLR H N B wo (i + 1) G Gc) (ho : ∀ x : Int32, VG a' x → x = g ∨ (VG 6 x ∧ ROK H N B wo i x G Gc)) (hg : VG 6 g) (hw : w = powF (N - i)) (hv : ∀ d b : Nat, 1 ≤ d → d < 10 → b < B → v d b = mxF (H i g b) (G (i + 1) (slotF (nI b) (d - 1))) (G (i + 1) (slotF (nI b) (min 9 (d + 1))))) (c : CF i g w wo v B G' G Gc' Gc) : PLI H N B wo i a' G' Gc' := by
  have keep : ∀ m : Nat, ¬ m = i → ∀ x : Int32, ROK H N B wo m x G Gc → ROK H N B wo m x G' Gc' := by
    intro m hm x hr d hd
    rw [(c.1 m hm).1, (c.1 m hm).2]
    exact hr d hd
  have new : ROK H N B wo i g G' Gc' := by
    intro d hd
    by_cases d0 : d = 0
    · subst d0
      refine ⟨?_, fun _ q => absurd q (by omega)⟩
      rw [c.2.1, hw, show N - i = (N - (i + 1)) + 1 by omega]
      rfl
    · have p := c.2.2.1 d (by omega) (by omega)
      have ev : bmF (v d) wo MORE (Gc i (slotF g d)) B = bmF (fun b => mxF (H i g b) (bwV H N B wo (N - (i + 1)) (nI b) (d - 1)) (bwV H N B wo (N - (i + 1)) (nI b) (min 9 (d + 1)))) wo MORE (Gc i (slotF g d)) B := by
        refine bm_cg B (fun b hb => ?_)
        rw [hv d b (by omega) (by omega) hb, (h (i + 1) (Nat.le_refl _) (by omega) (nI b) (Or.inr ⟨b, hb, rfl⟩) (d - 1) (by omega)).1, (h (i + 1) (Nat.le_refl _) (by omega) (nI b) (Or.inr ⟨b, hb, rfl⟩) (min 9 (d + 1)) (by omega)).1]
      rw [ev] at p
      refine ⟨?_, fun _ _ => ⟨Gc i (slotF g d), congrArg Prod.snd p⟩⟩
      have p1 := congrArg Prod.fst p
      refine p1.trans ?_
      rw [show N - i = (N - (i + 1)) + 1 by omega]
      show _ = (if d = 0 then powF (N - (i + 1) + 1) else (bmF (fun b => mxF (H (N - (N - (i + 1) + 1)) g b) (bwV H N B wo (N - (i + 1)) (nI b) (d - 1)) (bwV H N B wo (N - (i + 1)) (nI b) (min 9 (d + 1)))) wo MORE 0 B).1)
      rw [if_neg d0, show N - (N - (i + 1) + 1) = i by omega]
      exact bm_fst B
  refine ⟨fun m h1 h2 x hx => keep m (by omega) x (h m h1 h2 x hx), fun x hx => ?_⟩
  by_cases e : x = g
  · rw [e]; exact new
  · rcases ho x hx with q | ⟨q1, q2⟩
    · exact absurd q e
    · intro d hd
      have k := c.2.2.2 (slotF x d) (fun d' hd' z => e (sl_ne q1 hg hd (by omega) z).1)
      rw [k.1, k.2]
      exact q2 d hd
theorem PLI.n {H : Nat → Int32 → Nat → Int32} {N B : Nat} {wo : Int32} {i : Nat} {w : Int64} {v : Nat → Nat → Int64} {G G' : Nat → Nat → Int64} {Gc Gc' : Nat → Nat → Int32} (hi : i < N) (h : PLR H N B wo (i + 1) G Gc) (hw : w = powF (N - i)) (hv : ∀ d b : Nat, 1 ≤ d → d < 10 → b < B → v d b = mxF (H i (-4) b) (G (i + 1) (slotF (nI b) (d - 1))) (G (i + 1) (slotF (nI b) (min 9 (d + 1))))) (c : CF i (-4) w wo v B G' G Gc' Gc) : PLI H N B wo i 0 G' Gc' :=
  PLI.s hi h (fun x hx => Or.inl (hx.elim id (fun ⟨y, hy, _⟩ => absurd hy (Nat.not_lt_zero y)))) (Or.inl rfl) hw hv c
theorem PLI.a {H : Nat → Int32 → Nat → Int32} {N B : Nat} {wo : Int32} {i a : Nat} {w : Int64} {v : Nat → Nat → Int64} {G G' : Nat → Nat → Int64} {Gc Gc' : Nat → Nat → Int32} (hi : i < N) (hB : B ≤ 6) (ha : a < B) (h : PLI H N B wo i a G Gc) (hw : w = powF (N - i)) (hv : ∀ d b : Nat, 1 ≤ d → d < 10 → b < B → v d b = mxF (H i (nI a) b) (G (i + 1) (slotF (nI b) (d - 1))) (G (i + 1) (slotF (nI b) (min 9 (d + 1))))) (c : CF i (nI a) w wo v B G' G Gc' Gc) : PLI H N B wo i (a + 1) G' Gc' :=
  PLI.s hi h.1 (fun x hx => by
    rcases hx with q | ⟨y, hy, q⟩
    · exact Or.inr ⟨Or.inl q, h.2 x (Or.inl q)⟩
    · by_cases e : y = a
      · exact Or.inl (by rw [q, e])
      · exact Or.inr ⟨Or.inr ⟨y, by omega, q⟩, h.2 x (Or.inr ⟨y, by omega, q⟩)⟩) (Or.inr ⟨a, by omega, rfl⟩) hw hv c
theorem PLI.o {H : Nat → Int32 → Nat → Int32} {N B : Nat} {wo : Int32} {i : Nat} {G : Nat → Nat → Int64} {Gc : Nat → Nat → Int32} (h : PLI H N B wo i B G Gc) : PLR H N B wo i G Gc := by
  intro m h1 h2 g hg
  by_cases e : m = i
  · rw [e]; exact h.2 g hg
  · exact h.1 m (by omega) h2 g hg
theorem pl7 {G : Nat → Nat → Int64} {N j : Nat} {P : Nat → Int64} {x : Int64} (h : ∀ s : Nat, s < j → G N s = P s) (hx : x = P j) : ∀ s : Nat, s < j + 1 → va_up G N (vp_updL (G N) j x) N s = P s := by
  intro s hs
  rw [vu_y]
  by_cases c : s = j
  · rw [c, upL_eq]; exact hx
  · rw [upL_ne c]; exact h s (by omega)

set_option maxHeartbeats 4000000 in
set_option maxRecDepth 100000 in
theorem c_X0_weighE (l : Launch) (dC : Nat → ClassId) (dI : Nat → Nat → Nat) (G : Nat → ClassId) (sz : Nat) (h0 wk cs i k : Nat) (g x1 : Int32) (w0 : Int64) (rw rq : Nat → Nat) (F : Nat → Nat → Int64) (E : Nat → Nat → Int32) (hg0 : g.toInt = -4 ∨ (0 ≤ g.toInt ∧ g.toInt < 6)) (hi : i < 10) (hk : k < 6) : Met l yX0_weigh (Cond.code yX0_weigh cX0_weigh 12 none :: GT) ({ frames := 1, cells := 0, slots := 0, locals := 21 } : Room) (PcW [.ref h0, .int (nI i), .int g, .int (nI k), .int x1] dC dI G (([(h0, .inr (0, [.long w0, .ref wk, .ref cs])), (wk, .inl (G 5, 11, .inr (.inr (.inr (.inr (fun ir => if ir < 11 then some (rw ir) else none)))))), (cs, .inl (G 4, 10, .inr (.inr (.inr (.inr (fun ir => if ir < 10 then some (rq ir) else none))))))] : va_W) ++ ((((List.range 11).map (fun iq => (rw iq, .inl (G 1, 70, .inr (.inl (F iq)))))) : va_W) ++ ((((List.range 10).map (fun iq => (rq iq, .inl (G 0, 70, .inl (E iq))))) : va_W) ++ []))) sz) (va_Qv (fun (u : Int64 × (Nat → Nat → Int64) × (Nat → Nat → Int32)) => match u with | (u0, u1, u2) => u0 = w0 ∧ WG i g (fun db => mxF x1 (F (i + 1) (slotF (nI k) (db - 1))) (F (i + 1) (slotF (nI k) (min 9 (db + 1))))) k 10 u1 F u2 E) (fun (u : Int64 × (Nat → Nat → Int64) × (Nat → Nat → Int32)) (t : State) => match u with | (u0, u1, u2) => va_P (dC, dI) vwCl (([(h0, .inr (0, [.long u0, .ref wk, .ref cs])), (wk, .inl (G 5, 11, .inr (.inr (.inr (.inr (fun ir => if ir < 11 then some (rw ir) else none)))))), (cs, .inl (G 4, 10, .inr (.inr (.inr (.inr (fun ir => if ir < 10 then some (rq ir) else none))))))] : va_W) ++ ((((List.range 11).map (fun iq => (rw iq, .inl (G 1, 70, .inr (.inl (u1 iq)))))) : va_W) ++ ((((List.range 10).map (fun iq => (rq iq, .inl (G 0, 70, .inl (u2 iq))))) : va_W) ++ []))) t.heap ∧ va_D (va_A (([(h0, .inr (0, [.long w0, .ref wk, .ref cs])), (wk, .inl (G 5, 11, .inr (.inr (.inr (.inr (fun ir => if ir < 11 then some (rw ir) else none)))))), (cs, .inl (G 4, 10, .inr (.inr (.inr (.inr (fun ir => if ir < 10 then some (rq ir) else none))))))] : va_W) ++ ((((List.range 11).map (fun iq => (rw iq, .inl (G 1, 70, .inr (.inl (F iq)))))) : va_W) ++ ((((List.range 10).map (fun iq => (rq iq, .inl (G 0, 70, .inl (E iq))))) : va_W) ++ []))) sz) (([(h0, .inr (0, [.long u0, .ref wk, .ref cs])), (wk, .inl (G 5, 11, .inr (.inr (.inr (.inr (fun ir => if ir < 11 then some (rw ir) else none)))))), (cs, .inl (G 4, 10, .inr (.inr (.inr (.inr (fun ir => if ir < 10 then some (rq ir) else none))))))] : va_W) ++ ((((List.range 11).map (fun iq => (rw iq, .inl (G 1, 70, .inr (.inl (u1 iq)))))) : va_W) ++ ((((List.range 10).map (fun iq => (rq iq, .inl (G 0, 70, .inl (u2 iq))))) : va_W) ++ [])))) (va_A (([(h0, .inr (0, [.long w0, .ref wk, .ref cs])), (wk, .inl (G 5, 11, .inr (.inr (.inr (.inr (fun ir => if ir < 11 then some (rw ir) else none)))))), (cs, .inl (G 4, 10, .inr (.inr (.inr (.inr (fun ir => if ir < 10 then some (rq ir) else none))))))] : va_W) ++ ((((List.range 11).map (fun iq => (rw iq, .inl (G 1, 70, .inr (.inl (F iq)))))) : va_W) ++ ((((List.range 10).map (fun iq => (rq iq, .inl (G 0, 70, .inl (E iq))))) : va_W) ++ []))) sz)) 0 0 (va_A (([(h0, .inr (0, [.long w0, .ref wk, .ref cs])), (wk, .inl (G 5, 11, .inr (.inr (.inr (.inr (fun ir => if ir < 11 then some (rw ir) else none)))))), (cs, .inl (G 4, 10, .inr (.inr (.inr (.inr (fun ir => if ir < 10 then some (rq ir) else none))))))] : va_W) ++ ((((List.range 11).map (fun iq => (rw iq, .inl (G 1, 70, .inr (.inl (F iq)))))) : va_W) ++ ((((List.range 10).map (fun iq => (rq iq, .inl (G 0, 70, .inl (E iq))))) : va_W) ++ []))) sz) := by
  refine Met.ofW (cc := cX0_weigh) (maxL := 12) (ret := none) (by decide) rfl ?_
  intro p e s m args below meth c s₁ Bd hml hv
  obtain ⟨rfl, hsz, hP, hK, hD0⟩ := hv
  have hx := Bd.exec
  have hb := Bd.bytes
  have hr := Bd.returns
  have hg : ∀ w ∈ GT, w.before ([.ref h0, .int (nI i), .int g, .int (nI k), .int x1] : List Value).toArray s = true := fun w h => atoms_spec (ws := Cond.code yX0_weigh cX0_weigh 12 none :: GT) Bd.pre w (List.mem_cons_of_mem _ h)
  have hown : s.vm.findClass RX0 = some m.cls := findClass_of_methodNamed Bd.named
  have hlocks := Bd.notSynchronized
  subst hsz
  have hD := hD0.self (sz := s.heap.size)
  generalize hAe : va_A (([(h0, .inr (0, [.long w0, .ref wk, .ref cs])), (wk, .inl (G 5, 11, .inr (.inr (.inr (.inr (fun ir => if ir < 11 then some (rw ir) else none)))))), (cs, .inl (G 4, 10, .inr (.inr (.inr (.inr (fun ir => if ir < 10 then some (rq ir) else none))))))] : va_W) ++ ((((List.range 11).map (fun iq => (rw iq, .inl (G 1, 70, .inr (.inl (F iq)))))) : va_W) ++ ((((List.range 10).map (fun iq => (rq iq, .inl (G 0, 70, .inl (E iq))))) : va_W) ++ []))) s.heap.size = A at hD ⊢
  have hA : ∀ q : Nat, s.heap.size ≤ q → A q := fun q h => by rw [← hAe]; exact Or.inr h
  have hS : va_S A s.heap s.heap [] := va_S.rf
  have hl := lv_entry ([.ref h0, .int (nI i), .int g, .int (nI k), .int x1]) (n := 12) (Nat.le_of_ble_eq_true rfl)
  rw [lg_entry_eq]
  generalize (lg_sl ([.ref h0, .int (nI i), .int g, .int (nI k), .int x1]) ++ List.replicate (12 - (lg_sl ([.ref h0, .int (nI i), .int g, .int (nI k), .int x1])).length) Slot.unset).toArray = ls at hl ⊢
  have hl : lv_has ls 12 [(0, .ref h0), (1, .int (nI i)), (2, .int g), (3, .int (nI k)), (4, .int x1)] := hl
  refine lv_iconst (v := 1) hx hb dX0_weigh_0 rfl ?_
  refine lv_istore (lv' := [(5, .int 1), (0, .ref h0), (1, .int (nI i)), (2, .int g), (3, .int (nI k)), (4, .int x1)]) hx hb dX0_weigh_1 hl (by decide) rfl (fun ls hl => ?_)
  have loop3_4 : ∀ (nf j1 : Nat), 10 + 1 ≤ j1 + nf → j1 ≤ 10 → 1 ≤ j1 → ∀ (g2 : Nat → Nat → Int64) (g3 : Nat → Nat → Int32) (H : Heap) (locs : List Loc), WG i g (fun db => mxF x1 (F (i + 1) (slotF (nI k) (db - 1))) (F (i + 1) (slotF (nI k) (min 9 (db + 1))))) k j1 g2 F g3 E → va_P (dC, dI) vwCl (([(h0, .inr (0, [.long w0, .ref wk, .ref cs])), (wk, .inl (G 5, 11, .inr (.inr (.inr (.inr (fun ir => if ir < 11 then some (rw ir) else none)))))), (cs, .inl (G 4, 10, .inr (.inr (.inr (.inr (fun ir => if ir < 10 then some (rq ir) else none))))))] : va_W) ++ ((((List.range 11).map (fun iq => (rw iq, .inl (G 1, 70, .inr (.inl (g2 iq)))))) : va_W) ++ ((((List.range 10).map (fun iq => (rq iq, .inl (G 0, 70, .inl (g3 iq))))) : va_W) ++ []))) H → va_D A (([(h0, .inr (0, [.long w0, .ref wk, .ref cs])), (wk, .inl (G 5, 11, .inr (.inr (.inr (.inr (fun ir => if ir < 11 then some (rw ir) else none)))))), (cs, .inl (G 4, 10, .inr (.inr (.inr (.inr (fun ir => if ir < 10 then some (rq ir) else none))))))] : va_W) ++ ((((List.range 11).map (fun iq => (rw iq, .inl (G 1, 70, .inr (.inl (g2 iq)))))) : va_W) ++ ((((List.range 10).map (fun iq => (rq iq, .inl (G 0, 70, .inl (g3 iq))))) : va_W) ++ []))) → va_S A s.heap H locs → ∀ (ls : Array Slot), lv_has ls 12 [(5, .int (nI j1)), (0, .ref h0), (1, .int (nI i)), (2, .int g), (3, .int (nI k)), (4, .int x1)] → W p l e (headSpec (Cond.code yX0_weigh cX0_weigh 12 none :: GT) ({ frames := 1, cells := 0, slots := 0, locals := 21 } : Room)).room s m ([.ref h0, .int (nI i), .int g, .int (nI k), .int x1] : List Value).toArray below meth c H locs 0 0 (MQ below (va_Qv (fun (u : Int64 × (Nat → Nat → Int64) × (Nat → Nat → Int32)) => match u with | (u0, u1, u2) => u0 = w0 ∧ WG i g (fun db => mxF x1 (F (i + 1) (slotF (nI k) (db - 1))) (F (i + 1) (slotF (nI k) (min 9 (db + 1))))) k 10 u1 F u2 E) (fun (u : Int64 × (Nat → Nat → Int64) × (Nat → Nat → Int32)) (t : State) => match u with | (u0, u1, u2) => va_P (dC, dI) vwCl (([(h0, .inr (0, [.long u0, .ref wk, .ref cs])), (wk, .inl (G 5, 11, .inr (.inr (.inr (.inr (fun ir => if ir < 11 then some (rw ir) else none)))))), (cs, .inl (G 4, 10, .inr (.inr (.inr (.inr (fun ir => if ir < 10 then some (rq ir) else none))))))] : va_W) ++ ((((List.range 11).map (fun iq => (rw iq, .inl (G 1, 70, .inr (.inl (u1 iq)))))) : va_W) ++ ((((List.range 10).map (fun iq => (rq iq, .inl (G 0, 70, .inl (u2 iq))))) : va_W) ++ []))) t.heap ∧ va_D A (([(h0, .inr (0, [.long u0, .ref wk, .ref cs])), (wk, .inl (G 5, 11, .inr (.inr (.inr (.inr (fun ir => if ir < 11 then some (rw ir) else none)))))), (cs, .inl (G 4, 10, .inr (.inr (.inr (.inr (fun ir => if ir < 10 then some (rq ir) else none))))))] : va_W) ++ ((((List.range 11).map (fun iq => (rw iq, .inl (G 1, 70, .inr (.inl (u1 iq)))))) : va_W) ++ ((((List.range 10).map (fun iq => (rq iq, .inl (G 0, 70, .inl (u2 iq))))) : va_W) ++ [])))) A) ([.ref h0, .int (nI i), .int g, .int (nI k), .int x1] : List Value).toArray s 0 0 A) (F0 m 3 ls []) := by
    intro nf
    induction nf with
    | zero => intro j1 h1 h2; exact absurd h1 (by omega)
    | succ nf ih3_4 =>
      intro j1 hn5 hj6 hlo_j1 g2 g3 H locs hinv hP hD hS ls hl
      refine lv_iload hx hb dX0_weigh_3 (lv_at hl 0 rfl) ?_
      refine lv_bipush (v := 10) hx hb dX0_weigh_5 rfl ?_
      refine lv_icmp_ge (tgt := 125) hx hb dX0_weigh_7 rfl (fun c7 => ?_) (fun c7 => ?_)
      · skip
        have tn2598_ : nIT j1 := fun _ => nI_toInt (by first | omega | (have t := leI c7; omega))
        have n8 : 10 ≤ j1 := by have t := leI c7; rw [show (nI (j1)).toInt = ((j1 : Nat) : Int) from tn2598_ ()] at t; have : (10 : Int32).toInt = 10 := qI_10; omega
        obtain ⟨hP9, hD9⟩ := va_sub2 (ws' := (([(h0, .inr (0, [.long w0, .ref wk, .ref cs])), (wk, .inl (G 5, 11, .inr (.inr (.inr (.inr (fun ir => if ir < 11 then some (rw ir) else none)))))), (cs, .inl (G 4, 10, .inr (.inr (.inr (.inr (fun ir => if ir < 10 then some (rq ir) else none))))))] : va_W) ++ ((((List.range 11).map (fun iq => (rw iq, .inl (G 1, 70, .inr (.inl (g2 iq)))))) : va_W) ++ ((((List.range 10).map (fun iq => (rq iq, .inl (G 0, 70, .inl (g3 iq))))) : va_W) ++ [])))) hP hD [0, 1, 2, 3, 4, 5, 6, 7, 8, 9, 10, 11, 12, 13, 14, 15, 16, 17, 18, 19, 20, 21, 22, 23] (by decide +kernel) rfl
        refine W.widen (k := 0) (n := 0) (Nat.le_of_ble_eq_true rfl) (Nat.le_of_ble_eq_true rfl) ?_
        exact W.vret hx hb hr (fun t ht hW => ⟨⟨(w0, g2, g3), rfl, ⟨rfl, (by rw [show (10 : Nat) = j1 by omega]; exact hinv)⟩, ⟨by rw [ht]; exact hP9, hD9⟩⟩, hS.F ht⟩) hS.2.2 dX0_weigh_125
      · skip
        have tn2599_ : nIT j1 := fun _ => nI_toInt (by first | omega | (have t := nleI c7; omega))
        have n9 : j1 < 10 := by have t := nleI c7; rw [show (nI (j1)).toInt = ((j1 : Nat) : Int) from tn2599_ ()] at t; have : (10 : Int32).toInt = 10 := qI_10; omega
        refine lv_aload_n hx hb dX0_weigh_10 rfl (lv_at hl 1 rfl) ?_
        refine va_get (D := (dC, dI)) (ci := 0) (v := .ref wk) (C := RX0) (T := TX0) (N := 3) hx hb hg inG0 hown hK.1 hP 0 rfl rfl 1 (Nat.le_of_ble_eq_true rfl) (hg _ wt_182) (fun _ h9 => h9) rfl dX0_weigh_11 ?_
        refine lv_iload_n hx hb dX0_weigh_14 rfl (lv_at hl 2 rfl) ?_
        refine lv_iconst (v := 1) hx hb dX0_weigh_15 rfl ?_
        refine lv_iadd hx hb dX0_weigh_16 ?_
        refine lv_cg (y := nI (i + 1)) (by rw [show (1 : Int32) = nI 1 from rfl]; exact nI_add _ _) ?_
        have tn2600_ : nIT i := fun _ => nI_toInt (by first | omega | (have t_hj6 := hj6; have t_hlo_j1 := hlo_j1; have t_n9 := n9; omega))
        have tn2601_ : nIT k := fun _ => nI_toInt (by first | omega | (have t_hj6 := hj6; have t_hlo_j1 := hlo_j1; have t_n9 := n9; omega))
        refine va_aldA hx hb hK.1 hP 1 5 rfl rfl (vp_in_nI (by first | omega | (have t_hj6 := hj6; have t_hlo_j1 := hlo_j1; have t_n9 := n9; have tnb_ := nib3 tn2600_ tn2601_ tn2599_; omega)) (by decide)) dX0_weigh_17 ?_
        refine lv_cgv (y := .ref (rw (i + 1))) (rowref (by first | omega | (have t_hj6 := hj6; have t_hlo_j1 := hlo_j1; have t_n9 := n9; have tnb_ := nib3 tn2600_ tn2601_ tn2599_; omega)) (by decide)) ?_
        refine lv_iload_n hx hb dX0_weigh_18 rfl (lv_at hl 4 rfl) ?_
        refine lv_iload hx hb dX0_weigh_19 (lv_at hl 0 rfl) ?_
        refine lv_iconst (v := 1) hx hb dX0_weigh_21 rfl ?_
        refine lv_isub hx hb dX0_weigh_22 ?_
        refine lv_cg (y := nI (j1 - 1)) (by rw [show (1 : Int32) = nI 1 from rfl]; exact pk_sub (by have t_hj6 := hj6; have t_hlo_j1 := hlo_j1; have t_n9 := n9; have tnb_ := nib3 tn2600_ tn2601_ tn2599_; omega)) ?_
        have hPc := hP.sub (ws' := []) [] rfl
        refine va_calli (va_runS (As := [.int (nI k), .int (nI (j1 - 1))]) (rest := [.ref (rw (i + 1))]) ⟨hx, hb, hml, hown, hg⟩ (c_X0_slot l dC dI G _ (j1 - 1) (nI k) (by have t_hj6 := hj6; have t_hlo_j1 := hlo_j1; have t_n9 := n9; have tnb_ := nib3 tn2600_ tn2601_ tn2599_; omega) (by first | omega | (have t_hj6 := hj6; have t_hlo_j1 := hlo_j1; have t_n9 := n9; have tnb_ := nib3 tn2600_ tn2601_ tn2599_; omega))) (kwS hg mfX0_slot wt_666 ⟨Nat.le_of_ble_eq_true rfl, Nat.le_of_ble_eq_true rfl⟩) (preSR hK hPc) rfl rfl hl.1 rfl (lv_room (Nat.le_of_ble_eq_true rfl)) dX0_weigh_23 ⟨Nat.le_of_ble_eq_true rfl, Nat.le_of_ble_eq_true rfl⟩) hS (fun q h1 h2 => absurd h2 (Nat.not_le.mpr h1)) (fun q h => hA q (Nat.le_trans hS.1 h)) (fun r10 ur10 t H1 locs ht hvm w11 hB hz1 hk1 hS => ?_)
        have hP := keepR hP hk1
        obtain ⟨w11, w11x⟩ := w11
        have hs12 : slotF (nI k) (j1 - 1) < 70 := slotF_lt (by have t_hj6 := hj6; have t_hlo_j1 := hlo_j1; have t_n9 := n9; have tnb_ := nib3 tn2600_ tn2601_ tn2599_; omega) (by have t_hj6 := hj6; have t_hlo_j1 := hlo_j1; have t_n9 := n9; have tnb_ := nib3 tn2600_ tn2601_ tn2599_; omega)
        subst w11
        refine va_lald hx hb hK.1 (blk_P (j := (i + 1)) hP (by first | omega | (have t_hj6 := hj6; have t_hlo_j1 := hlo_j1; have t_n9 := n9; have t_hs12 := hs12; have tnb_ := nib3 tn2600_ tn2601_ tn2599_; omega))) 0 1 rfl rfl (vp_in_nI (by first | omega | (have t_hj6 := hj6; have t_hlo_j1 := hlo_j1; have t_n9 := n9; have t_hs12 := hs12; have tnb_ := nib3 tn2600_ tn2601_ tn2599_; omega)) (by decide)) dX0_weigh_26 ?_
        refine lv_cgl (y := g2 (i + 1) (slotF (nI k) (j1 - 1))) (by rw [nI_clamp (by first | omega | (have t_hj6 := hj6; have t_hlo_j1 := hlo_j1; have t_n9 := n9; have t_hs12 := hs12; have tnb_ := nib3 tn2600_ tn2601_ tn2599_; omega))]) ?_
        refine lv_lstore (lv' := [(6, .long (g2 (i + 1) (slotF (nI k) (j1 - 1)))), (5, .int (nI j1)), (0, .ref h0), (1, .int (nI i)), (2, .int g), (3, .int (nI k)), (4, .int x1)]) hx hb dX0_weigh_27 hl (by decide) rfl (fun ls hl => ?_)
        refine lv_aload_n hx hb dX0_weigh_29 rfl (lv_at hl 2 rfl) ?_
        refine va_get (D := (dC, dI)) (ci := 0) (v := .ref wk) (C := RX0) (T := TX0) (N := 3) hx hb hg inG0 hown hK.1 hP 0 rfl rfl 1 (Nat.le_of_ble_eq_true rfl) (hg _ wt_182) (fun _ h9 => h9) rfl dX0_weigh_30 ?_
        refine lv_iload_n hx hb dX0_weigh_33 rfl (lv_at hl 3 rfl) ?_
        refine lv_iconst (v := 1) hx hb dX0_weigh_34 rfl ?_
        refine lv_iadd hx hb dX0_weigh_35 ?_
        refine lv_cg (y := nI (i + 1)) (by rw [show (1 : Int32) = nI 1 from rfl]; exact nI_add _ _) ?_
        refine va_aldA hx hb hK.1 hP 1 5 rfl rfl (vp_in_nI (by first | omega | (have t_hj6 := hj6; have t_hlo_j1 := hlo_j1; have t_n9 := n9; have t_hs12 := hs12; have tnb_ := nib3 tn2600_ tn2601_ tn2599_; omega)) (by decide)) dX0_weigh_36 ?_
        refine lv_cgv (y := .ref (rw (i + 1))) (rowref (by first | omega | (have t_hj6 := hj6; have t_hlo_j1 := hlo_j1; have t_n9 := n9; have t_hs12 := hs12; have tnb_ := nib3 tn2600_ tn2601_ tn2599_; omega)) (by decide)) ?_
        refine lv_iload_n hx hb dX0_weigh_37 rfl (lv_at hl 5 rfl) ?_
        refine lv_bipush (v := 9) hx hb dX0_weigh_38 rfl ?_
        refine lv_iload hx hb dX0_weigh_40 (lv_at hl 1 rfl) ?_
        refine lv_iconst (v := 1) hx hb dX0_weigh_42 rfl ?_
        refine lv_iadd hx hb dX0_weigh_43 ?_
        refine lv_cg (y := nI (j1 + 1)) (by rw [show (1 : Int32) = nI 1 from rfl]; exact nI_add _ _) ?_
        have hPc := hP.sub (ws' := []) [] rfl
        refine va_calli (va_runS (As := [.int 9, .int (nI (j1 + 1))]) (rest := [.int (nI k), .ref (rw (i + 1))]) ⟨hx, hb, hml, hown, hg⟩ (c_J9_min l dC dI G _ 9 (nI (j1 + 1))) (kwS hg mfJ9_min_7cf53 wt_675 ⟨Nat.le_of_ble_eq_true rfl, Nat.le_of_ble_eq_true rfl⟩) (preSR hK hPc) rfl rfl hl.1 rfl (lv_room (Nat.le_of_ble_eq_true rfl)) dX0_weigh_44 ⟨Nat.le_of_ble_eq_true rfl, Nat.le_of_ble_eq_true rfl⟩) hS (fun q h1 h2 => absurd h2 (Nat.not_le.mpr h1)) (fun q h => hA q (Nat.le_trans hS.1 h)) (fun r13 ur13 t H1 locs ht hvm w14 hB hz1 hk1 hS => ?_)
        have hP := keepR hP hk1
        obtain ⟨w14, w14x⟩ := w14
        have w14 : r13 = nI (min 9 (j1 + 1)) := w14.trans (mn_nI (a := 9) (b := (j1 + 1)) (by omega) (by omega))
        subst w14
        have hPc := hP.sub (ws' := []) [] rfl
        refine va_calli (va_runS (As := [.int (nI k), .int (nI (min 9 (j1 + 1)))]) (rest := [.ref (rw (i + 1))]) ⟨hx, hb, hml, hown, hg⟩ (c_X0_slot l dC dI G _ (min 9 (j1 + 1)) (nI k) (by have t_hj6 := hj6; have t_hlo_j1 := hlo_j1; have t_n9 := n9; have t_hs12 := hs12; have tnb_ := nib3 tn2600_ tn2601_ tn2599_; omega) (by first | omega | (have t_hj6 := hj6; have t_hlo_j1 := hlo_j1; have t_n9 := n9; have t_hs12 := hs12; have tnb_ := nib3 tn2600_ tn2601_ tn2599_; omega))) (kwS hg mfX0_slot wt_666 ⟨Nat.le_of_ble_eq_true rfl, Nat.le_of_ble_eq_true rfl⟩) (preSR hK hPc) rfl rfl hl.1 rfl (lv_room (Nat.le_of_ble_eq_true rfl)) dX0_weigh_47 ⟨Nat.le_of_ble_eq_true rfl, Nat.le_of_ble_eq_true rfl⟩) hS (fun q h1 h2 => absurd h2 (Nat.not_le.mpr h1)) (fun q h => hA q (Nat.le_trans hS.1 h)) (fun r15 ur15 t H1 locs ht hvm w16 hB hz1 hk1 hS => ?_)
        have hP := keepR hP hk1
        obtain ⟨w16, w16x⟩ := w16
        have hs17 : slotF (nI k) (min 9 (j1 + 1)) < 70 := slotF_lt (by have t_hj6 := hj6; have t_hlo_j1 := hlo_j1; have t_n9 := n9; have t_hs12 := hs12; have tnb_ := nib3 tn2600_ tn2601_ tn2599_; omega) (by have t_hj6 := hj6; have t_hlo_j1 := hlo_j1; have t_n9 := n9; have t_hs12 := hs12; have tnb_ := nib3 tn2600_ tn2601_ tn2599_; omega)
        subst w16
        refine va_lald hx hb hK.1 (blk_P (j := (i + 1)) hP (by first | omega | (have t_hj6 := hj6; have t_hlo_j1 := hlo_j1; have t_n9 := n9; have t_hs12 := hs12; have t_hs17 := hs17; have tnb_ := nib3 tn2600_ tn2601_ tn2599_; omega))) 0 1 rfl rfl (vp_in_nI (by first | omega | (have t_hj6 := hj6; have t_hlo_j1 := hlo_j1; have t_n9 := n9; have t_hs12 := hs12; have t_hs17 := hs17; have tnb_ := nib3 tn2600_ tn2601_ tn2599_; omega)) (by decide)) dX0_weigh_50 ?_
        refine lv_cgl (y := g2 (i + 1) (slotF (nI k) (min 9 (j1 + 1)))) (by rw [nI_clamp (by first | omega | (have t_hj6 := hj6; have t_hlo_j1 := hlo_j1; have t_n9 := n9; have t_hs12 := hs12; have t_hs17 := hs17; have tnb_ := nib3 tn2600_ tn2601_ tn2599_; omega))]) ?_
        refine lv_lstore (lv' := [(8, .long (g2 (i + 1) (slotF (nI k) (min 9 (j1 + 1))))), (6, .long (g2 (i + 1) (slotF (nI k) (j1 - 1)))), (5, .int (nI j1)), (0, .ref h0), (1, .int (nI i)), (2, .int g), (3, .int (nI k)), (4, .int x1)]) hx hb dX0_weigh_51 hl (by decide) rfl (fun ls hl => ?_)
        refine lv_lload hx hb dX0_weigh_53 (lv_at hl 1 rfl) ?_
        refine lv_iload hx hb dX0_weigh_55 (lv_at hl 7 rfl) ?_
        refine lv_i2l (v := x1.toInt64) hx hb dX0_weigh_57 rfl ?_
        refine lv_lmul hx hb dX0_weigh_58 ?_
        refine lv_lload hx hb dX0_weigh_59 (lv_at hl 0 rfl) ?_
        refine lv_bipush (v := 20) hx hb dX0_weigh_61 rfl ?_
        refine lv_iload hx hb dX0_weigh_63 (lv_at hl 7 rfl) ?_
        refine lv_isub hx hb dX0_weigh_65 ?_
        refine lv_i2l (v := (20 - x1).toInt64) hx hb dX0_weigh_66 rfl ?_
        refine lv_lmul hx hb dX0_weigh_67 ?_
        refine lv_ladd hx hb dX0_weigh_68 ?_
        refine lv_lstore (lv' := [(10, .long (((g2 (i + 1) (slotF (nI k) (j1 - 1))) * x1.toInt64) + ((g2 (i + 1) (slotF (nI k) (min 9 (j1 + 1)))) * ((20 - x1).toInt64)))), (8, .long (g2 (i + 1) (slotF (nI k) (min 9 (j1 + 1))))), (6, .long (g2 (i + 1) (slotF (nI k) (j1 - 1)))), (5, .int (nI j1)), (0, .ref h0), (1, .int (nI i)), (2, .int g), (3, .int (nI k)), (4, .int x1)]) hx hb dX0_weigh_69 hl (by decide) rfl (fun ls hl => ?_)
        refine lv_lload hx hb dX0_weigh_71 (lv_at hl 0 rfl) ?_
        refine lv_aload_n hx hb dX0_weigh_73 rfl (lv_at hl 4 rfl) ?_
        refine va_get (D := (dC, dI)) (ci := 0) (v := .ref wk) (C := RX0) (T := TX0) (N := 3) hx hb hg inG0 hown hK.1 hP 0 rfl rfl 1 (Nat.le_of_ble_eq_true rfl) (hg _ wt_182) (fun _ h9 => h9) rfl dX0_weigh_74 ?_
        refine lv_iload_n hx hb dX0_weigh_77 rfl (lv_at hl 5 rfl) ?_
        refine va_aldA hx hb hK.1 hP 1 5 rfl rfl (vp_in_nI (by first | omega | (have t_hj6 := hj6; have t_hlo_j1 := hlo_j1; have t_n9 := n9; have t_hs12 := hs12; have t_hs17 := hs17; have tnb_ := nib3 tn2600_ tn2601_ tn2599_; omega)) (by decide)) dX0_weigh_78 ?_
        refine lv_cgv (y := .ref (rw i)) (rowref (by first | omega | (have t_hj6 := hj6; have t_hlo_j1 := hlo_j1; have t_n9 := n9; have t_hs12 := hs12; have t_hs17 := hs17; have tnb_ := nib3 tn2600_ tn2601_ tn2599_; omega)) (by decide)) ?_
        refine lv_iload_n hx hb dX0_weigh_79 rfl (lv_at hl 6 rfl) ?_
        refine lv_iload hx hb dX0_weigh_80 (lv_at hl 3 rfl) ?_
        have hPc := hP.sub (ws' := []) [] rfl
        refine va_calli (va_runS (As := [.int g, .int (nI j1)]) (rest := [.ref (rw i), .long (((g2 (i + 1) (slotF (nI k) (j1 - 1))) * x1.toInt64) + ((g2 (i + 1) (slotF (nI k) (min 9 (j1 + 1)))) * ((20 - x1).toInt64)))]) ⟨hx, hb, hml, hown, hg⟩ (c_X0_slot l dC dI G _ j1 g hg0 (by first | omega | (have t_hj6 := hj6; have t_hlo_j1 := hlo_j1; have t_n9 := n9; have t_hs12 := hs12; have t_hs17 := hs17; have tnb_ := nib3 tn2600_ tn2601_ tn2599_; omega))) (kwS hg mfX0_slot wt_666 ⟨Nat.le_of_ble_eq_true rfl, Nat.le_of_ble_eq_true rfl⟩) (preSR hK hPc) rfl rfl hl.1 rfl (lv_room (Nat.le_of_ble_eq_true rfl)) dX0_weigh_82 ⟨Nat.le_of_ble_eq_true rfl, Nat.le_of_ble_eq_true rfl⟩) hS (fun q h1 h2 => absurd h2 (Nat.not_le.mpr h1)) (fun q h => hA q (Nat.le_trans hS.1 h)) (fun r18 ur18 t H1 locs ht hvm w19 hB hz1 hk1 hS => ?_)
        have hP := keepR hP hk1
        obtain ⟨w19, w19x⟩ := w19
        have hs20 : slotF g j1 < 70 := slotF_lt (by have t_hj6 := hj6; have t_hlo_j1 := hlo_j1; have t_n9 := n9; have t_hs12 := hs12; have t_hs17 := hs17; have tnb_ := nib3 tn2600_ tn2601_ tn2599_; omega) (by have t_hj6 := hj6; have t_hlo_j1 := hlo_j1; have t_n9 := n9; have t_hs12 := hs12; have t_hs17 := hs17; have tnb_ := nib3 tn2600_ tn2601_ tn2599_; omega)
        subst w19
        refine va_lald hx hb hK.1 (blk_P (j := i) hP (by first | omega | (have t_hj6 := hj6; have t_hlo_j1 := hlo_j1; have t_n9 := n9; have t_hs12 := hs12; have t_hs17 := hs17; have t_hs20 := hs20; have tnb_ := nib3 tn2600_ tn2601_ tn2599_; omega))) 0 1 rfl rfl (vp_in_nI (by first | omega | (have t_hj6 := hj6; have t_hlo_j1 := hlo_j1; have t_n9 := n9; have t_hs12 := hs12; have t_hs17 := hs17; have t_hs20 := hs20; have tnb_ := nib3 tn2600_ tn2601_ tn2599_; omega)) (by decide)) dX0_weigh_85 ?_
        refine lv_cgl (y := g2 i (slotF g j1)) (by rw [nI_clamp (by first | omega | (have t_hj6 := hj6; have t_hlo_j1 := hlo_j1; have t_n9 := n9; have t_hs12 := hs12; have t_hs17 := hs17; have t_hs20 := hs20; have tnb_ := nib3 tn2600_ tn2601_ tn2599_; omega))]) ?_
        refine W.lcmp hx hb dX0_weigh_86 ?_
        refine lv_if_ge (tgt := 119) hx hb dX0_weigh_87 rfl (fun c21 => ?_) (fun c21 => ?_)
        · skip
          refine lv_iinc (v := nI (j1 + 1)) (lv' := [(5, .int (nI (j1 + 1))), (10, .long (((g2 (i + 1) (slotF (nI k) (j1 - 1))) * x1.toInt64) + ((g2 (i + 1) (slotF (nI k) (min 9 (j1 + 1)))) * ((20 - x1).toInt64)))), (8, .long (g2 (i + 1) (slotF (nI k) (min 9 (j1 + 1))))), (6, .long (g2 (i + 1) (slotF (nI k) (j1 - 1)))), (0, .ref h0), (1, .int (nI i)), (2, .int g), (3, .int (nI k)), (4, .int x1)]) hx hb dX0_weigh_119 hl (k := 3) rfl (by rw [show Int32.ofInt 1 = nI 1 from by decide]; exact nI_add _ _) (by decide) rfl (fun ls hl => ?_)
          refine lv_goto (tgt := 3) hx hb dX0_weigh_122 rfl ?_
          exact ih3_4 (j1 + 1) (by omega) (by omega) (by omega) g2 g3 _ _ (WG.ge (x := mxF x1 (F (i + 1) (slotF (nI k) (j1 - 1))) (F (i + 1) (slotF (nI k) (min 9 (j1 + 1))))) hinv (by omega) rfl (by unfold mxF; rw [← (hinv.1 (i + 1) (by omega)).1]; have t_hj6 := hj6; have t_hlo_j1 := hlo_j1; have t_n9 := n9; have t_hs12 := hs12; have t_hs17 := hs17; have t_hs20 := hs20; have t_c21 := lcm_ge_t c21; have tnb_ := nib3 tn2600_ tn2601_ tn2599_; have lz0 : (0 : Int32).toInt = 0 := qI_0; have lz1 : (1 : Int32).toInt = 1 := qI_1; have lz2 : (2 : Int32).toInt = 2 := qI_2; have lz3 : (3 : Int32).toInt = 3 := qI_3; have lz5 : (5 : Int32).toInt = 5 := qI_5; have lz9 : (9 : Int32).toInt = 9 := qI_9; omega)) hP hD hS ls (lv_sub hl [0, 4, 5, 6, 7, 8] rfl)
        · skip
          refine lv_aload_n hx hb dX0_weigh_90 rfl (lv_at hl 4 rfl) ?_
          refine va_get (D := (dC, dI)) (ci := 0) (v := .ref wk) (C := RX0) (T := TX0) (N := 3) hx hb hg inG0 hown hK.1 hP 0 rfl rfl 1 (Nat.le_of_ble_eq_true rfl) (hg _ wt_182) (fun _ h9 => h9) rfl dX0_weigh_91 ?_
          refine lv_iload_n hx hb dX0_weigh_94 rfl (lv_at hl 5 rfl) ?_
          refine va_aldA hx hb hK.1 hP 1 5 rfl rfl (vp_in_nI (by first | omega | (have t_hj6 := hj6; have t_hlo_j1 := hlo_j1; have t_n9 := n9; have t_hs12 := hs12; have t_hs17 := hs17; have t_hs20 := hs20; have t_c21 := lcm_ge_f c21; have tnb_ := nib3 tn2600_ tn2601_ tn2599_; omega)) (by decide)) dX0_weigh_95 ?_
          refine lv_cgv (y := .ref (rw i)) (rowref (by first | omega | (have t_hj6 := hj6; have t_hlo_j1 := hlo_j1; have t_n9 := n9; have t_hs12 := hs12; have t_hs17 := hs17; have t_hs20 := hs20; have t_c21 := lcm_ge_f c21; have tnb_ := nib3 tn2600_ tn2601_ tn2599_; omega)) (by decide)) ?_
          refine lv_iload_n hx hb dX0_weigh_96 rfl (lv_at hl 6 rfl) ?_
          refine lv_iload hx hb dX0_weigh_97 (lv_at hl 3 rfl) ?_
          have hPc := hP.sub (ws' := []) [] rfl
          refine va_calli (va_runS (As := [.int g, .int (nI j1)]) (rest := [.ref (rw i)]) ⟨hx, hb, hml, hown, hg⟩ (c_X0_slot l dC dI G _ j1 g hg0 (by first | omega | (have t_hj6 := hj6; have t_hlo_j1 := hlo_j1; have t_n9 := n9; have t_hs12 := hs12; have t_hs17 := hs17; have t_hs20 := hs20; have t_c21 := lcm_ge_f c21; have tnb_ := nib3 tn2600_ tn2601_ tn2599_; omega))) (kwS hg mfX0_slot wt_666 ⟨Nat.le_of_ble_eq_true rfl, Nat.le_of_ble_eq_true rfl⟩) (preSR hK hPc) rfl rfl hl.1 rfl (lv_room (Nat.le_of_ble_eq_true rfl)) dX0_weigh_99 ⟨Nat.le_of_ble_eq_true rfl, Nat.le_of_ble_eq_true rfl⟩) hS (fun q h1 h2 => absurd h2 (Nat.not_le.mpr h1)) (fun q h => hA q (Nat.le_trans hS.1 h)) (fun r22 ur22 t H1 locs ht hvm w23 hB hz1 hk1 hS => ?_)
          have hP := keepR hP hk1
          obtain ⟨w23, w23x⟩ := w23
          have hs24 : slotF g j1 < 70 := slotF_lt (by have t_hj6 := hj6; have t_hlo_j1 := hlo_j1; have t_n9 := n9; have t_hs12 := hs12; have t_hs17 := hs17; have t_hs20 := hs20; have t_c21 := lcm_ge_f c21; have tnb_ := nib3 tn2600_ tn2601_ tn2599_; omega) (by have t_hj6 := hj6; have t_hlo_j1 := hlo_j1; have t_n9 := n9; have t_hs12 := hs12; have t_hs17 := hs17; have t_hs20 := hs20; have t_c21 := lcm_ge_f c21; have tnb_ := nib3 tn2600_ tn2601_ tn2599_; omega)
          subst w23
          refine lv_lload hx hb dX0_weigh_102 (lv_at hl 0 rfl) ?_
          refine va_lastB (j := i) hx hb hK.1 hP hD hS 1 (by first | omega | (have t_hj6 := hj6; have t_hlo_j1 := hlo_j1; have t_n9 := n9; have t_hs12 := hs12; have t_hs17 := hs17; have t_hs20 := hs20; have t_c21 := lcm_ge_f c21; have t_hs24 := hs24; have tnb_ := nib3 tn2600_ tn2601_ tn2599_; omega)) rfl (vp_in_nI (by first | omega | (have t_hj6 := hj6; have t_hlo_j1 := hlo_j1; have t_n9 := n9; have t_hs12 := hs12; have t_hs17 := hs17; have t_hs20 := hs20; have t_c21 := lcm_ge_f c21; have t_hs24 := hs24; have tnb_ := nib3 tn2600_ tn2601_ tn2599_; omega)) (by decide)) dX0_weigh_104 (fun H locs hP hD hS => ?_)
          rw [nI_clamp (by first | omega | (have t_hj6 := hj6; have t_hlo_j1 := hlo_j1; have t_n9 := n9; have t_hs12 := hs12; have t_hs17 := hs17; have t_hs20 := hs20; have t_c21 := lcm_ge_f c21; have t_hs24 := hs24; have tnb_ := nib3 tn2600_ tn2601_ tn2599_; omega))] at hP hD
          obtain ⟨hP, hD⟩ := va_rls (ws' := (([(h0, .inr (0, [.long w0, .ref wk, .ref cs])), (wk, .inl (G 5, 11, .inr (.inr (.inr (.inr (fun ir => if ir < 11 then some (rw ir) else none)))))), (cs, .inl (G 4, 10, .inr (.inr (.inr (.inr (fun ir => if ir < 10 then some (rq ir) else none))))))] : va_W) ++ ((((List.range 11).map (fun iq => (rw iq, .inl (G 1, 70, .inr (.inl ((va_up g2 i (vp_updL (g2 i) (slotF g j1) (((g2 (i + 1) (slotF (nI k) (j1 - 1))) * x1.toInt64) + ((g2 (i + 1) (slotF (nI k) (min 9 (j1 + 1)))) * ((20 - x1).toInt64))))) iq)))))) : va_W) ++ ((((List.range 10).map (fun iq => (rq iq, .inl (G 0, 70, .inl (g3 iq))))) : va_W) ++ [])))) hP hD rfl
          refine lv_aload_n hx hb dX0_weigh_105 rfl (lv_at hl 4 rfl) ?_
          refine va_get (D := (dC, dI)) (ci := 0) (v := .ref cs) (C := RX0) (T := TX0) (N := 3) hx hb hg inG0 hown hK.1 hP 0 rfl rfl 2 (Nat.le_of_ble_eq_true rfl) (hg _ wt_183) (fun _ h9 => h9) rfl dX0_weigh_106 ?_
          refine lv_iload_n hx hb dX0_weigh_109 rfl (lv_at hl 5 rfl) ?_
          refine va_aldA hx hb hK.1 hP 2 4 rfl rfl (vp_in_nI (by first | omega | (have t_hj6 := hj6; have t_hlo_j1 := hlo_j1; have t_n9 := n9; have t_hs12 := hs12; have t_hs17 := hs17; have t_hs20 := hs20; have t_c21 := lcm_ge_f c21; have t_hs24 := hs24; have tnb_ := nib3 tn2600_ tn2601_ tn2599_; omega)) (by decide)) dX0_weigh_110 ?_
          refine lv_cgv (y := .ref (rq i)) (rowref (by first | omega | (have t_hj6 := hj6; have t_hlo_j1 := hlo_j1; have t_n9 := n9; have t_hs12 := hs12; have t_hs17 := hs17; have t_hs20 := hs20; have t_c21 := lcm_ge_f c21; have t_hs24 := hs24; have tnb_ := nib3 tn2600_ tn2601_ tn2599_; omega)) (by decide)) ?_
          refine lv_iload_n hx hb dX0_weigh_111 rfl (lv_at hl 6 rfl) ?_
          refine lv_iload hx hb dX0_weigh_112 (lv_at hl 3 rfl) ?_
          have hPc := hP.sub (ws' := []) [] rfl
          refine va_calli (va_runS (As := [.int g, .int (nI j1)]) (rest := [.ref (rq i)]) ⟨hx, hb, hml, hown, hg⟩ (c_X0_slot l dC dI G _ j1 g hg0 (by first | omega | (have t_hj6 := hj6; have t_hlo_j1 := hlo_j1; have t_n9 := n9; have t_hs12 := hs12; have t_hs17 := hs17; have t_hs20 := hs20; have t_c21 := lcm_ge_f c21; have t_hs24 := hs24; have tnb_ := nib3 tn2600_ tn2601_ tn2599_; omega))) (kwS hg mfX0_slot wt_666 ⟨Nat.le_of_ble_eq_true rfl, Nat.le_of_ble_eq_true rfl⟩) (preSR hK hPc) rfl rfl hl.1 rfl (lv_room (Nat.le_of_ble_eq_true rfl)) dX0_weigh_114 ⟨Nat.le_of_ble_eq_true rfl, Nat.le_of_ble_eq_true rfl⟩) hS (fun q h1 h2 => absurd h2 (Nat.not_le.mpr h1)) (fun q h => hA q (Nat.le_trans hS.1 h)) (fun r25 ur25 t H1 locs ht hvm w26 hB hz1 hk1 hS => ?_)
          have hP := keepR hP hk1
          obtain ⟨w26, w26x⟩ := w26
          have hs27 : slotF g j1 < 70 := slotF_lt (by have t_hj6 := hj6; have t_hlo_j1 := hlo_j1; have t_n9 := n9; have t_hs12 := hs12; have t_hs17 := hs17; have t_hs20 := hs20; have t_c21 := lcm_ge_f c21; have t_hs24 := hs24; have tnb_ := nib3 tn2600_ tn2601_ tn2599_; omega) (by have t_hj6 := hj6; have t_hlo_j1 := hlo_j1; have t_n9 := n9; have t_hs12 := hs12; have t_hs17 := hs17; have t_hs20 := hs20; have t_c21 := lcm_ge_f c21; have t_hs24 := hs24; have tnb_ := nib3 tn2600_ tn2601_ tn2599_; omega)
          subst w26
          refine lv_iload_n hx hb dX0_weigh_117 rfl (lv_at hl 7 rfl) ?_
          refine va_iastB2 (j := i) hx hb hK.1 hP hD hS 0 (by first | omega | (have t_hj6 := hj6; have t_hlo_j1 := hlo_j1; have t_n9 := n9; have t_hs12 := hs12; have t_hs17 := hs17; have t_hs20 := hs20; have t_c21 := lcm_ge_f c21; have t_hs24 := hs24; have t_hs27 := hs27; have tnb_ := nib3 tn2600_ tn2601_ tn2599_; omega)) rfl (vp_in_nI (by first | omega | (have t_hj6 := hj6; have t_hlo_j1 := hlo_j1; have t_n9 := n9; have t_hs12 := hs12; have t_hs17 := hs17; have t_hs20 := hs20; have t_c21 := lcm_ge_f c21; have t_hs24 := hs24; have t_hs27 := hs27; have tnb_ := nib3 tn2600_ tn2601_ tn2599_; omega)) (by decide)) dX0_weigh_118 (fun H locs hP hD hS => ?_)
          rw [nI_clamp (by first | omega | (have t_hj6 := hj6; have t_hlo_j1 := hlo_j1; have t_n9 := n9; have t_hs12 := hs12; have t_hs17 := hs17; have t_hs20 := hs20; have t_c21 := lcm_ge_f c21; have t_hs24 := hs24; have t_hs27 := hs27; have tnb_ := nib3 tn2600_ tn2601_ tn2599_; omega))] at hP hD
          obtain ⟨hP, hD⟩ := va_rls (ws' := (([(h0, .inr (0, [.long w0, .ref wk, .ref cs])), (wk, .inl (G 5, 11, .inr (.inr (.inr (.inr (fun ir => if ir < 11 then some (rw ir) else none)))))), (cs, .inl (G 4, 10, .inr (.inr (.inr (.inr (fun ir => if ir < 10 then some (rq ir) else none))))))] : va_W) ++ ((((List.range 11).map (fun iq => (rw iq, .inl (G 1, 70, .inr (.inl ((va_up g2 i (vp_updL (g2 i) (slotF g j1) (((g2 (i + 1) (slotF (nI k) (j1 - 1))) * x1.toInt64) + ((g2 (i + 1) (slotF (nI k) (min 9 (j1 + 1)))) * ((20 - x1).toInt64))))) iq)))))) : va_W) ++ ((((List.range 10).map (fun iq => (rq iq, .inl (G 0, 70, .inl ((va_up g3 i (upd (g3 i) (slotF g j1) (nI k))) iq))))) : va_W) ++ [])))) hP hD rfl
          refine lv_iinc (v := nI (j1 + 1)) (lv' := [(5, .int (nI (j1 + 1))), (10, .long (((g2 (i + 1) (slotF (nI k) (j1 - 1))) * x1.toInt64) + ((g2 (i + 1) (slotF (nI k) (min 9 (j1 + 1)))) * ((20 - x1).toInt64)))), (8, .long (g2 (i + 1) (slotF (nI k) (min 9 (j1 + 1))))), (6, .long (g2 (i + 1) (slotF (nI k) (j1 - 1)))), (0, .ref h0), (1, .int (nI i)), (2, .int g), (3, .int (nI k)), (4, .int x1)]) hx hb dX0_weigh_119 hl (k := 3) rfl (by rw [show Int32.ofInt 1 = nI 1 from by decide]; exact nI_add _ _) (by decide) rfl (fun ls hl => ?_)
          refine lv_goto (tgt := 3) hx hb dX0_weigh_122 rfl ?_
          exact ih3_4 (j1 + 1) (by omega) (by omega) (by omega) (va_up g2 i (vp_updL (g2 i) (slotF g j1) (((g2 (i + 1) (slotF (nI k) (j1 - 1))) * x1.toInt64) + ((g2 (i + 1) (slotF (nI k) (min 9 (j1 + 1)))) * ((20 - x1).toInt64))))) (va_up g3 i (upd (g3 i) (slotF g j1) (nI k))) _ _ (WG.lt hinv (by omega) (by show _ = mxF x1 (F (i + 1) (slotF (nI k) (j1 - 1))) (F (i + 1) (slotF (nI k) (min 9 (j1 + 1)))); unfold mxF; rw [(hinv.1 (i + 1) (by omega)).1]) (by have t_hj6 := hj6; have t_hlo_j1 := hlo_j1; have t_n9 := n9; have t_hs12 := hs12; have t_hs17 := hs17; have t_hs20 := hs20; have t_c21 := lcm_ge_f c21; have t_hs24 := hs24; have t_hs27 := hs27; have tnb_ := nib3 tn2600_ tn2601_ tn2599_; have lz0 : (0 : Int32).toInt = 0 := qI_0; have lz1 : (1 : Int32).toInt = 1 := qI_1; have lz2 : (2 : Int32).toInt = 2 := qI_2; have lz3 : (3 : Int32).toInt = 3 := qI_3; have lz5 : (5 : Int32).toInt = 5 := qI_5; have lz9 : (9 : Int32).toInt = 9 := qI_9; omega)) hP hD hS ls (lv_sub hl [0, 4, 5, 6, 7, 8] rfl)
  exact loop3_4 (10 + 1) 1 (by omega) (by omega) (by omega) F E _ _ WG.z hP hD hS ls (lv_sub hl [0, 1, 2, 3, 4, 5] rfl)

set_option maxHeartbeats 4000000 in
set_option maxRecDepth 100000 in
theorem c_X0_chooseFromE (l : Launch) (dC : Nat → ClassId) (dI : Nat → Nat → Nat) (G : Nat → ClassId) (sz : Nat) (h0 wk cs wy a1 a2 a3 a4 a5 a6 N B D i : Nat) (g x1 : Int32) (w0 : Int64) (f1 f2 f4 f5 f6 : Nat → Int32) (rw rq : Nat → Nat) (F : Nat → Nat → Int64) (E : Nat → Nat → Int32) (hg0 : g.toInt = -4 ∨ (0 ≤ g.toInt ∧ g.toInt < 6)) (hN_N : N ≤ 10) (hB_B : B ≤ 6) (hD_D : 1 ≤ D ∧ D ≤ 9) (hi : i < N) : Met l yX0_chooseFrom (Cond.code yX0_chooseFrom cX0_chooseFrom 6 none :: GT) ({ frames := 3, cells := 0, slots := 0, locals := 67 } : Room) (PcW [.ref h0, .ref wy, .int (nI i), .int g, .int x1] dC dI G (([(h0, .inr (0, [.long w0, .ref wk, .ref cs])), (wk, .inl (G 5, 11, .inr (.inr (.inr (.inr (fun ir => if ir < 11 then some (rw ir) else none)))))), (cs, .inl (G 4, 10, .inr (.inr (.inr (.inr (fun ir => if ir < 10 then some (rq ir) else none)))))), (wy, .inr (9, [.int (nI N), .int (nI B), .int (nI D), .ref a1, .ref a2, .ref a3, .ref a4, .ref a5, .ref a6])), (a1, .inl (G 0, 10, .inl f1)), (a2, .inl (G 0, 10, .inl f2)), (a4, .inl (G 0, 6, .inl f4)), (a5, .inl (G 0, 6, .inl f5)), (a6, .inl (G 0, 6, .inl f6))] : va_W) ++ ((((List.range 11).map (fun iq => (rw iq, .inl (G 1, 70, .inr (.inl (F iq)))))) : va_W) ++ ((((List.range 10).map (fun iq => (rq iq, .inl (G 0, 70, .inl (E iq))))) : va_W) ++ []))) sz) (va_Qv (fun (u : Int64 × (Nat → Nat → Int64) × (Nat → Nat → Int32)) => match u with | (u0, u1, u2) => u0 = w0 ∧ CF i g w0 x1 (fun db bb => mxF (hmF N B f1 f2 f4 f5 f6 (nI i) g (nI bb)) (F (i + 1) (slotF (nI bb) (db - 1))) (F (i + 1) (slotF (nI bb) (min 9 (db + 1))))) B u1 F u2 E) (fun (u : Int64 × (Nat → Nat → Int64) × (Nat → Nat → Int32)) (t : State) => match u with | (u0, u1, u2) => va_P (dC, dI) vwCl (([(h0, .inr (0, [.long u0, .ref wk, .ref cs])), (wk, .inl (G 5, 11, .inr (.inr (.inr (.inr (fun ir => if ir < 11 then some (rw ir) else none)))))), (cs, .inl (G 4, 10, .inr (.inr (.inr (.inr (fun ir => if ir < 10 then some (rq ir) else none)))))), (wy, .inr (9, [.int (nI N), .int (nI B), .int (nI D), .ref a1, .ref a2, .ref a3, .ref a4, .ref a5, .ref a6])), (a1, .inl (G 0, 10, .inl f1)), (a2, .inl (G 0, 10, .inl f2)), (a4, .inl (G 0, 6, .inl f4)), (a5, .inl (G 0, 6, .inl f5)), (a6, .inl (G 0, 6, .inl f6))] : va_W) ++ ((((List.range 11).map (fun iq => (rw iq, .inl (G 1, 70, .inr (.inl (u1 iq)))))) : va_W) ++ ((((List.range 10).map (fun iq => (rq iq, .inl (G 0, 70, .inl (u2 iq))))) : va_W) ++ []))) t.heap ∧ va_D (va_A (([(h0, .inr (0, [.long w0, .ref wk, .ref cs])), (wk, .inl (G 5, 11, .inr (.inr (.inr (.inr (fun ir => if ir < 11 then some (rw ir) else none)))))), (cs, .inl (G 4, 10, .inr (.inr (.inr (.inr (fun ir => if ir < 10 then some (rq ir) else none)))))), (wy, .inr (9, [.int (nI N), .int (nI B), .int (nI D), .ref a1, .ref a2, .ref a3, .ref a4, .ref a5, .ref a6])), (a1, .inl (G 0, 10, .inl f1)), (a2, .inl (G 0, 10, .inl f2)), (a4, .inl (G 0, 6, .inl f4)), (a5, .inl (G 0, 6, .inl f5)), (a6, .inl (G 0, 6, .inl f6))] : va_W) ++ ((((List.range 11).map (fun iq => (rw iq, .inl (G 1, 70, .inr (.inl (F iq)))))) : va_W) ++ ((((List.range 10).map (fun iq => (rq iq, .inl (G 0, 70, .inl (E iq))))) : va_W) ++ []))) sz) (([(h0, .inr (0, [.long u0, .ref wk, .ref cs])), (wk, .inl (G 5, 11, .inr (.inr (.inr (.inr (fun ir => if ir < 11 then some (rw ir) else none)))))), (cs, .inl (G 4, 10, .inr (.inr (.inr (.inr (fun ir => if ir < 10 then some (rq ir) else none)))))), (wy, .inr (9, [.int (nI N), .int (nI B), .int (nI D), .ref a1, .ref a2, .ref a3, .ref a4, .ref a5, .ref a6])), (a1, .inl (G 0, 10, .inl f1)), (a2, .inl (G 0, 10, .inl f2)), (a4, .inl (G 0, 6, .inl f4)), (a5, .inl (G 0, 6, .inl f5)), (a6, .inl (G 0, 6, .inl f6))] : va_W) ++ ((((List.range 11).map (fun iq => (rw iq, .inl (G 1, 70, .inr (.inl (u1 iq)))))) : va_W) ++ ((((List.range 10).map (fun iq => (rq iq, .inl (G 0, 70, .inl (u2 iq))))) : va_W) ++ [])))) (va_A (([(h0, .inr (0, [.long w0, .ref wk, .ref cs])), (wk, .inl (G 5, 11, .inr (.inr (.inr (.inr (fun ir => if ir < 11 then some (rw ir) else none)))))), (cs, .inl (G 4, 10, .inr (.inr (.inr (.inr (fun ir => if ir < 10 then some (rq ir) else none)))))), (wy, .inr (9, [.int (nI N), .int (nI B), .int (nI D), .ref a1, .ref a2, .ref a3, .ref a4, .ref a5, .ref a6])), (a1, .inl (G 0, 10, .inl f1)), (a2, .inl (G 0, 10, .inl f2)), (a4, .inl (G 0, 6, .inl f4)), (a5, .inl (G 0, 6, .inl f5)), (a6, .inl (G 0, 6, .inl f6))] : va_W) ++ ((((List.range 11).map (fun iq => (rw iq, .inl (G 1, 70, .inr (.inl (F iq)))))) : va_W) ++ ((((List.range 10).map (fun iq => (rq iq, .inl (G 0, 70, .inl (E iq))))) : va_W) ++ []))) sz)) 0 0 (va_A (([(h0, .inr (0, [.long w0, .ref wk, .ref cs])), (wk, .inl (G 5, 11, .inr (.inr (.inr (.inr (fun ir => if ir < 11 then some (rw ir) else none)))))), (cs, .inl (G 4, 10, .inr (.inr (.inr (.inr (fun ir => if ir < 10 then some (rq ir) else none)))))), (wy, .inr (9, [.int (nI N), .int (nI B), .int (nI D), .ref a1, .ref a2, .ref a3, .ref a4, .ref a5, .ref a6])), (a1, .inl (G 0, 10, .inl f1)), (a2, .inl (G 0, 10, .inl f2)), (a4, .inl (G 0, 6, .inl f4)), (a5, .inl (G 0, 6, .inl f5)), (a6, .inl (G 0, 6, .inl f6))] : va_W) ++ ((((List.range 11).map (fun iq => (rw iq, .inl (G 1, 70, .inr (.inl (F iq)))))) : va_W) ++ ((((List.range 10).map (fun iq => (rq iq, .inl (G 0, 70, .inl (E iq))))) : va_W) ++ []))) sz) := by
  have tn2602_ : nIT N := fun _ => nI_toInt (by omega)
  have tn2603_ : nIT B := fun _ => nI_toInt (by omega)
  have tn2604_ : nIT D := fun _ => nI_toInt (by omega)
  refine Met.ofW (cc := cX0_chooseFrom) (maxL := 6) (ret := none) (by decide) rfl ?_
  intro p e s m args below meth c s₁ Bd hml hv
  obtain ⟨rfl, hsz, hP, hK, hD0⟩ := hv
  have hx := Bd.exec
  have hb := Bd.bytes
  have hr := Bd.returns
  have hg : ∀ w ∈ GT, w.before ([.ref h0, .ref wy, .int (nI i), .int g, .int x1] : List Value).toArray s = true := fun w h => atoms_spec (ws := Cond.code yX0_chooseFrom cX0_chooseFrom 6 none :: GT) Bd.pre w (List.mem_cons_of_mem _ h)
  have hown : s.vm.findClass RX0 = some m.cls := findClass_of_methodNamed Bd.named
  have hlocks := Bd.notSynchronized
  subst hsz
  have hD := hD0.self (sz := s.heap.size)
  generalize hAe : va_A (([(h0, .inr (0, [.long w0, .ref wk, .ref cs])), (wk, .inl (G 5, 11, .inr (.inr (.inr (.inr (fun ir => if ir < 11 then some (rw ir) else none)))))), (cs, .inl (G 4, 10, .inr (.inr (.inr (.inr (fun ir => if ir < 10 then some (rq ir) else none)))))), (wy, .inr (9, [.int (nI N), .int (nI B), .int (nI D), .ref a1, .ref a2, .ref a3, .ref a4, .ref a5, .ref a6])), (a1, .inl (G 0, 10, .inl f1)), (a2, .inl (G 0, 10, .inl f2)), (a4, .inl (G 0, 6, .inl f4)), (a5, .inl (G 0, 6, .inl f5)), (a6, .inl (G 0, 6, .inl f6))] : va_W) ++ ((((List.range 11).map (fun iq => (rw iq, .inl (G 1, 70, .inr (.inl (F iq)))))) : va_W) ++ ((((List.range 10).map (fun iq => (rq iq, .inl (G 0, 70, .inl (E iq))))) : va_W) ++ []))) s.heap.size = A at hD ⊢
  have hA : ∀ q : Nat, s.heap.size ≤ q → A q := fun q h => by rw [← hAe]; exact Or.inr h
  have hS : va_S A s.heap s.heap [] := va_S.rf
  have hl := lv_entry ([.ref h0, .ref wy, .int (nI i), .int g, .int x1]) (n := 6) (Nat.le_of_ble_eq_true rfl)
  rw [lg_entry_eq]
  generalize (lg_sl ([.ref h0, .ref wy, .int (nI i), .int g, .int x1]) ++ List.replicate (6 - (lg_sl ([.ref h0, .ref wy, .int (nI i), .int g, .int x1])).length) Slot.unset).toArray = ls at hl ⊢
  have hl : lv_has ls 6 [(0, .ref h0), (1, .ref wy), (2, .int (nI i)), (3, .int g), (4, .int x1)] := hl
  refine lv_aload_n hx hb dX0_chooseFrom_0 rfl (lv_at hl 0 rfl) ?_
  refine va_get (D := (dC, dI)) (ci := 0) (v := .ref wk) (C := RX0) (T := TX0) (N := 3) hx hb hg inG0 hown hK.1 hP 0 rfl rfl 1 (Nat.le_of_ble_eq_true rfl) (hg _ wt_182) (fun _ h9 => h9) rfl dX0_chooseFrom_1 ?_
  refine lv_iload_n hx hb dX0_chooseFrom_4 rfl (lv_at hl 2 rfl) ?_
  have tn2605_ : nIT i := fun _ => nI_toInt (by omega)
  refine va_aldA hx hb hK.1 hP 1 5 rfl rfl (vp_in_nI (by first | omega | (have tnb_ := nib4 tn2605_ tn2602_ tn2603_ tn2604_; omega)) (by decide)) dX0_chooseFrom_5 ?_
  refine lv_cgv (y := .ref (rw i)) (rowref (by first | omega | (have tnb_ := nib4 tn2605_ tn2602_ tn2603_ tn2604_; omega)) (by decide)) ?_
  refine lv_iload_n hx hb dX0_chooseFrom_6 rfl (lv_at hl 3 rfl) ?_
  refine lv_iconst (v := 0) hx hb dX0_chooseFrom_7 rfl ?_
  have hPc := hP.sub (ws' := []) [] rfl
  refine va_calli (va_runS (As := [.int g, .int 0]) (rest := [.ref (rw i)]) ⟨hx, hb, hml, hown, hg⟩ (c_X0_slot l dC dI G _ 0 g hg0 (by first | omega | (have tnb_ := nib4 tn2605_ tn2602_ tn2603_ tn2604_; have : (0 : Int32).toInt = 0 := qI_0; omega))) (kwS hg mfX0_slot wt_666 ⟨Nat.le_of_ble_eq_true rfl, Nat.le_of_ble_eq_true rfl⟩) (preSR hK hPc) rfl rfl hl.1 rfl (lv_room (Nat.le_of_ble_eq_true rfl)) dX0_chooseFrom_8 ⟨Nat.le_of_ble_eq_true rfl, Nat.le_of_ble_eq_true rfl⟩) hS (fun q h1 h2 => absurd h2 (Nat.not_le.mpr h1)) (fun q h => hA q (Nat.le_trans hS.1 h)) (fun r1 ur1 t H1 locs ht hvm w2 hB hz1 hk1 hS => ?_)
  have hP := keepR hP hk1
  obtain ⟨w2, w2x⟩ := w2
  have hs3 : slotF g 0 < 70 := slotF_lt (by have tnb_ := nib4 tn2605_ tn2602_ tn2603_ tn2604_; have : (0 : Int32).toInt = 0 := qI_0; omega) (by have tnb_ := nib4 tn2605_ tn2602_ tn2603_ tn2604_; omega)
  subst w2
  refine lv_aload_n hx hb dX0_chooseFrom_11 rfl (lv_at hl 0 rfl) ?_
  refine va_get (D := (dC, dI)) (ci := 0) (v := .long w0) (C := RX0) (T := TX0) (N := 3) hx hb hg inG0 hown hK.1 hP 0 rfl rfl 0 (Nat.le_of_ble_eq_true rfl) (hg _ wt_180) (fun _ h9 => h9) rfl dX0_chooseFrom_12 ?_
  refine va_lastB (j := i) hx hb hK.1 hP hD hS 1 (by first | omega | (have t_hs3 := hs3; have tnb_ := nib4 tn2605_ tn2602_ tn2603_ tn2604_; omega)) rfl (vp_in_nI (by first | omega | (have t_hs3 := hs3; have tnb_ := nib4 tn2605_ tn2602_ tn2603_ tn2604_; omega)) (by decide)) dX0_chooseFrom_15 (fun H locs hP hD hS => ?_)
  rw [nI_clamp (by first | omega | (have t_hs3 := hs3; have tnb_ := nib4 tn2605_ tn2602_ tn2603_ tn2604_; omega))] at hP hD
  obtain ⟨hP, hD⟩ := va_rls (ws' := (([(h0, .inr (0, [.long w0, .ref wk, .ref cs])), (wk, .inl (G 5, 11, .inr (.inr (.inr (.inr (fun ir => if ir < 11 then some (rw ir) else none)))))), (cs, .inl (G 4, 10, .inr (.inr (.inr (.inr (fun ir => if ir < 10 then some (rq ir) else none)))))), (wy, .inr (9, [.int (nI N), .int (nI B), .int (nI D), .ref a1, .ref a2, .ref a3, .ref a4, .ref a5, .ref a6])), (a1, .inl (G 0, 10, .inl f1)), (a2, .inl (G 0, 10, .inl f2)), (a4, .inl (G 0, 6, .inl f4)), (a5, .inl (G 0, 6, .inl f5)), (a6, .inl (G 0, 6, .inl f6))] : va_W) ++ ((((List.range 11).map (fun iq => (rw iq, .inl (G 1, 70, .inr (.inl ((va_up F i (vp_updL (F i) (slotF g 0) w0)) iq)))))) : va_W) ++ ((((List.range 10).map (fun iq => (rq iq, .inl (G 0, 70, .inl (E iq))))) : va_W) ++ [])))) hP hD rfl
  refine lv_iconst (v := 1) hx hb dX0_chooseFrom_16 rfl ?_
  refine lv_istore (lv' := [(5, .int 1), (0, .ref h0), (1, .ref wy), (2, .int (nI i)), (3, .int g), (4, .int x1)]) hx hb dX0_chooseFrom_17 hl (by decide) rfl (fun ls hl => ?_)
  have loop19_6 : ∀ (nf j4 : Nat), 10 + 1 ≤ j4 + nf → j4 ≤ 10 → 1 ≤ j4 → ∀ (g5 : Nat → Nat → Int64) (H : Heap) (locs : List Loc), CI0 i g w0 j4 g5 F → va_P (dC, dI) vwCl (([(h0, .inr (0, [.long w0, .ref wk, .ref cs])), (wk, .inl (G 5, 11, .inr (.inr (.inr (.inr (fun ir => if ir < 11 then some (rw ir) else none)))))), (cs, .inl (G 4, 10, .inr (.inr (.inr (.inr (fun ir => if ir < 10 then some (rq ir) else none)))))), (wy, .inr (9, [.int (nI N), .int (nI B), .int (nI D), .ref a1, .ref a2, .ref a3, .ref a4, .ref a5, .ref a6])), (a1, .inl (G 0, 10, .inl f1)), (a2, .inl (G 0, 10, .inl f2)), (a4, .inl (G 0, 6, .inl f4)), (a5, .inl (G 0, 6, .inl f5)), (a6, .inl (G 0, 6, .inl f6))] : va_W) ++ ((((List.range 11).map (fun iq => (rw iq, .inl (G 1, 70, .inr (.inl (g5 iq)))))) : va_W) ++ ((((List.range 10).map (fun iq => (rq iq, .inl (G 0, 70, .inl (E iq))))) : va_W) ++ []))) H → va_D A (([(h0, .inr (0, [.long w0, .ref wk, .ref cs])), (wk, .inl (G 5, 11, .inr (.inr (.inr (.inr (fun ir => if ir < 11 then some (rw ir) else none)))))), (cs, .inl (G 4, 10, .inr (.inr (.inr (.inr (fun ir => if ir < 10 then some (rq ir) else none)))))), (wy, .inr (9, [.int (nI N), .int (nI B), .int (nI D), .ref a1, .ref a2, .ref a3, .ref a4, .ref a5, .ref a6])), (a1, .inl (G 0, 10, .inl f1)), (a2, .inl (G 0, 10, .inl f2)), (a4, .inl (G 0, 6, .inl f4)), (a5, .inl (G 0, 6, .inl f5)), (a6, .inl (G 0, 6, .inl f6))] : va_W) ++ ((((List.range 11).map (fun iq => (rw iq, .inl (G 1, 70, .inr (.inl (g5 iq)))))) : va_W) ++ ((((List.range 10).map (fun iq => (rq iq, .inl (G 0, 70, .inl (E iq))))) : va_W) ++ []))) → va_S A s.heap H locs → ∀ (ls : Array Slot), lv_has ls 6 [(5, .int (nI j4)), (0, .ref h0), (1, .ref wy), (2, .int (nI i)), (3, .int g), (4, .int x1)] → W p l e (headSpec (Cond.code yX0_chooseFrom cX0_chooseFrom 6 none :: GT) ({ frames := 3, cells := 0, slots := 0, locals := 67 } : Room)).room s m ([.ref h0, .ref wy, .int (nI i), .int g, .int x1] : List Value).toArray below meth c H locs 0 0 (MQ below (va_Qv (fun (u : Int64 × (Nat → Nat → Int64) × (Nat → Nat → Int32)) => match u with | (u0, u1, u2) => u0 = w0 ∧ CF i g w0 x1 (fun db bb => mxF (hmF N B f1 f2 f4 f5 f6 (nI i) g (nI bb)) (F (i + 1) (slotF (nI bb) (db - 1))) (F (i + 1) (slotF (nI bb) (min 9 (db + 1))))) B u1 F u2 E) (fun (u : Int64 × (Nat → Nat → Int64) × (Nat → Nat → Int32)) (t : State) => match u with | (u0, u1, u2) => va_P (dC, dI) vwCl (([(h0, .inr (0, [.long u0, .ref wk, .ref cs])), (wk, .inl (G 5, 11, .inr (.inr (.inr (.inr (fun ir => if ir < 11 then some (rw ir) else none)))))), (cs, .inl (G 4, 10, .inr (.inr (.inr (.inr (fun ir => if ir < 10 then some (rq ir) else none)))))), (wy, .inr (9, [.int (nI N), .int (nI B), .int (nI D), .ref a1, .ref a2, .ref a3, .ref a4, .ref a5, .ref a6])), (a1, .inl (G 0, 10, .inl f1)), (a2, .inl (G 0, 10, .inl f2)), (a4, .inl (G 0, 6, .inl f4)), (a5, .inl (G 0, 6, .inl f5)), (a6, .inl (G 0, 6, .inl f6))] : va_W) ++ ((((List.range 11).map (fun iq => (rw iq, .inl (G 1, 70, .inr (.inl (u1 iq)))))) : va_W) ++ ((((List.range 10).map (fun iq => (rq iq, .inl (G 0, 70, .inl (u2 iq))))) : va_W) ++ []))) t.heap ∧ va_D A (([(h0, .inr (0, [.long u0, .ref wk, .ref cs])), (wk, .inl (G 5, 11, .inr (.inr (.inr (.inr (fun ir => if ir < 11 then some (rw ir) else none)))))), (cs, .inl (G 4, 10, .inr (.inr (.inr (.inr (fun ir => if ir < 10 then some (rq ir) else none)))))), (wy, .inr (9, [.int (nI N), .int (nI B), .int (nI D), .ref a1, .ref a2, .ref a3, .ref a4, .ref a5, .ref a6])), (a1, .inl (G 0, 10, .inl f1)), (a2, .inl (G 0, 10, .inl f2)), (a4, .inl (G 0, 6, .inl f4)), (a5, .inl (G 0, 6, .inl f5)), (a6, .inl (G 0, 6, .inl f6))] : va_W) ++ ((((List.range 11).map (fun iq => (rw iq, .inl (G 1, 70, .inr (.inl (u1 iq)))))) : va_W) ++ ((((List.range 10).map (fun iq => (rq iq, .inl (G 0, 70, .inl (u2 iq))))) : va_W) ++ [])))) A) ([.ref h0, .ref wy, .int (nI i), .int g, .int x1] : List Value).toArray s 0 0 A) (F0 m 19 ls []) := by
    intro nf
    induction nf with
    | zero => intro j4 h1 h2; exact absurd h1 (by omega)
    | succ nf ih19_6 =>
      intro j4 hn7 hj8 hlo_j4 g5 H locs hinv hP hD hS ls hl
      refine lv_iload hx hb dX0_chooseFrom_19 (lv_at hl 0 rfl) ?_
      refine lv_bipush (v := 10) hx hb dX0_chooseFrom_21 rfl ?_
      refine lv_icmp_ge (tgt := 48) hx hb dX0_chooseFrom_23 rfl (fun c9 => ?_) (fun c9 => ?_)
      · skip
        have tn2606_ : nIT j4 := fun _ => nI_toInt (by first | omega | (have t := leI c9; omega))
        have n10 : 10 ≤ j4 := by have t := leI c9; rw [show (nI (j4)).toInt = ((j4 : Nat) : Int) from tn2606_ ()] at t; have : (10 : Int32).toInt = 10 := qI_10; omega
        have hI9 : CI0 i g w0 10 g5 F := (by rw [show (10 : Nat) = j4 by omega]; exact hinv)
        refine lv_iconst (v := 0) hx hb dX0_chooseFrom_48 rfl ?_
        refine lv_istore (lv' := [(5, .int 0), (0, .ref h0), (1, .ref wy), (2, .int (nI i)), (3, .int g), (4, .int x1)]) hx hb dX0_chooseFrom_49 hl (by decide) rfl (fun ls hl => ?_)
        have loop51_15 : ∀ (nf j11 : Nat), B + 1 ≤ j11 + nf → j11 ≤ B → ∀ (y12 : Int64) (g13 : Nat → Nat → Int64) (g14 : Nat → Nat → Int32) (H : Heap) (locs : List Loc), (y12 = w0 ∧ CF i g w0 x1 (fun db bb => mxF (hmF N B f1 f2 f4 f5 f6 (nI i) g (nI bb)) (F (i + 1) (slotF (nI bb) (db - 1))) (F (i + 1) (slotF (nI bb) (min 9 (db + 1))))) j11 g13 F g14 E) → va_P (dC, dI) vwCl (([(h0, .inr (0, [.long y12, .ref wk, .ref cs])), (wk, .inl (G 5, 11, .inr (.inr (.inr (.inr (fun ir => if ir < 11 then some (rw ir) else none)))))), (cs, .inl (G 4, 10, .inr (.inr (.inr (.inr (fun ir => if ir < 10 then some (rq ir) else none)))))), (wy, .inr (9, [.int (nI N), .int (nI B), .int (nI D), .ref a1, .ref a2, .ref a3, .ref a4, .ref a5, .ref a6])), (a1, .inl (G 0, 10, .inl f1)), (a2, .inl (G 0, 10, .inl f2)), (a4, .inl (G 0, 6, .inl f4)), (a5, .inl (G 0, 6, .inl f5)), (a6, .inl (G 0, 6, .inl f6))] : va_W) ++ ((((List.range 11).map (fun iq => (rw iq, .inl (G 1, 70, .inr (.inl (g13 iq)))))) : va_W) ++ ((((List.range 10).map (fun iq => (rq iq, .inl (G 0, 70, .inl (g14 iq))))) : va_W) ++ []))) H → va_D A (([(h0, .inr (0, [.long y12, .ref wk, .ref cs])), (wk, .inl (G 5, 11, .inr (.inr (.inr (.inr (fun ir => if ir < 11 then some (rw ir) else none)))))), (cs, .inl (G 4, 10, .inr (.inr (.inr (.inr (fun ir => if ir < 10 then some (rq ir) else none)))))), (wy, .inr (9, [.int (nI N), .int (nI B), .int (nI D), .ref a1, .ref a2, .ref a3, .ref a4, .ref a5, .ref a6])), (a1, .inl (G 0, 10, .inl f1)), (a2, .inl (G 0, 10, .inl f2)), (a4, .inl (G 0, 6, .inl f4)), (a5, .inl (G 0, 6, .inl f5)), (a6, .inl (G 0, 6, .inl f6))] : va_W) ++ ((((List.range 11).map (fun iq => (rw iq, .inl (G 1, 70, .inr (.inl (g13 iq)))))) : va_W) ++ ((((List.range 10).map (fun iq => (rq iq, .inl (G 0, 70, .inl (g14 iq))))) : va_W) ++ []))) → va_S A s.heap H locs → ∀ (ls : Array Slot), lv_has ls 6 [(5, .int (nI j11)), (0, .ref h0), (1, .ref wy), (2, .int (nI i)), (3, .int g), (4, .int x1)] → W p l e (headSpec (Cond.code yX0_chooseFrom cX0_chooseFrom 6 none :: GT) ({ frames := 3, cells := 0, slots := 0, locals := 67 } : Room)).room s m ([.ref h0, .ref wy, .int (nI i), .int g, .int x1] : List Value).toArray below meth c H locs 0 0 (MQ below (va_Qv (fun (u : Int64 × (Nat → Nat → Int64) × (Nat → Nat → Int32)) => match u with | (u0, u1, u2) => u0 = w0 ∧ CF i g w0 x1 (fun db bb => mxF (hmF N B f1 f2 f4 f5 f6 (nI i) g (nI bb)) (F (i + 1) (slotF (nI bb) (db - 1))) (F (i + 1) (slotF (nI bb) (min 9 (db + 1))))) B u1 F u2 E) (fun (u : Int64 × (Nat → Nat → Int64) × (Nat → Nat → Int32)) (t : State) => match u with | (u0, u1, u2) => va_P (dC, dI) vwCl (([(h0, .inr (0, [.long u0, .ref wk, .ref cs])), (wk, .inl (G 5, 11, .inr (.inr (.inr (.inr (fun ir => if ir < 11 then some (rw ir) else none)))))), (cs, .inl (G 4, 10, .inr (.inr (.inr (.inr (fun ir => if ir < 10 then some (rq ir) else none)))))), (wy, .inr (9, [.int (nI N), .int (nI B), .int (nI D), .ref a1, .ref a2, .ref a3, .ref a4, .ref a5, .ref a6])), (a1, .inl (G 0, 10, .inl f1)), (a2, .inl (G 0, 10, .inl f2)), (a4, .inl (G 0, 6, .inl f4)), (a5, .inl (G 0, 6, .inl f5)), (a6, .inl (G 0, 6, .inl f6))] : va_W) ++ ((((List.range 11).map (fun iq => (rw iq, .inl (G 1, 70, .inr (.inl (u1 iq)))))) : va_W) ++ ((((List.range 10).map (fun iq => (rq iq, .inl (G 0, 70, .inl (u2 iq))))) : va_W) ++ []))) t.heap ∧ va_D A (([(h0, .inr (0, [.long u0, .ref wk, .ref cs])), (wk, .inl (G 5, 11, .inr (.inr (.inr (.inr (fun ir => if ir < 11 then some (rw ir) else none)))))), (cs, .inl (G 4, 10, .inr (.inr (.inr (.inr (fun ir => if ir < 10 then some (rq ir) else none)))))), (wy, .inr (9, [.int (nI N), .int (nI B), .int (nI D), .ref a1, .ref a2, .ref a3, .ref a4, .ref a5, .ref a6])), (a1, .inl (G 0, 10, .inl f1)), (a2, .inl (G 0, 10, .inl f2)), (a4, .inl (G 0, 6, .inl f4)), (a5, .inl (G 0, 6, .inl f5)), (a6, .inl (G 0, 6, .inl f6))] : va_W) ++ ((((List.range 11).map (fun iq => (rw iq, .inl (G 1, 70, .inr (.inl (u1 iq)))))) : va_W) ++ ((((List.range 10).map (fun iq => (rq iq, .inl (G 0, 70, .inl (u2 iq))))) : va_W) ++ [])))) A) ([.ref h0, .ref wy, .int (nI i), .int g, .int x1] : List Value).toArray s 0 0 A) (F0 m 51 ls []) := by
          intro nf
          induction nf with
          | zero => intro j11 h1 h2; exact absurd h1 (by omega)
          | succ nf ih51_15 =>
            intro j11 hn16 hj17 y12 g13 g14 H locs hinv hP hD hS ls hl
            refine lv_iload hx hb dX0_chooseFrom_51 (lv_at hl 0 rfl) ?_
            refine lv_aload_n hx hb dX0_chooseFrom_53 rfl (lv_at hl 2 rfl) ?_
            refine va_getN (D := (dC, dI)) (ci := 9) (v := .int (nI B)) (C := RX9) (T := TX9) (N := 9) hx hb hg inG9 hown hK.1 hP 3 rfl rfl 1 (Nat.le_of_ble_eq_true rfl) (hK.nest wn_63) (fun _ h9 => h9) rfl dX0_chooseFrom_54 ?_
            refine lv_icmp_ge (tgt := 89) hx hb dX0_chooseFrom_57 rfl (fun c18 => ?_) (fun c18 => ?_)
            · skip
              have tn2607_ : nIT j11 := fun _ => nI_toInt (by first | omega | (have t := leI c18; omega))
              have n19 : B ≤ j11 := by have t := leI c18; rw [show (nI (j11)).toInt = ((j11 : Nat) : Int) from tn2607_ ()] at t; rw [show (nI (B)).toInt = ((B : Nat) : Int) from tn2603_ ()] at t; omega
              obtain ⟨hP9, hD9⟩ := va_sub2 (ws' := (([(h0, .inr (0, [.long y12, .ref wk, .ref cs])), (wk, .inl (G 5, 11, .inr (.inr (.inr (.inr (fun ir => if ir < 11 then some (rw ir) else none)))))), (cs, .inl (G 4, 10, .inr (.inr (.inr (.inr (fun ir => if ir < 10 then some (rq ir) else none)))))), (wy, .inr (9, [.int (nI N), .int (nI B), .int (nI D), .ref a1, .ref a2, .ref a3, .ref a4, .ref a5, .ref a6])), (a1, .inl (G 0, 10, .inl f1)), (a2, .inl (G 0, 10, .inl f2)), (a4, .inl (G 0, 6, .inl f4)), (a5, .inl (G 0, 6, .inl f5)), (a6, .inl (G 0, 6, .inl f6))] : va_W) ++ ((((List.range 11).map (fun iq => (rw iq, .inl (G 1, 70, .inr (.inl (g13 iq)))))) : va_W) ++ ((((List.range 10).map (fun iq => (rq iq, .inl (G 0, 70, .inl (g14 iq))))) : va_W) ++ [])))) hP hD [0, 1, 2, 3, 4, 5, 6, 7, 8, 9, 10, 11, 12, 13, 14, 15, 16, 17, 18, 19, 20, 21, 22, 23, 24, 25, 26, 27, 28, 29] (by decide +kernel) rfl
              refine W.widen (k := 0) (n := 0) (Nat.le_of_ble_eq_true rfl) (Nat.le_of_ble_eq_true rfl) ?_
              exact W.vret hx hb hr (fun t ht hW => ⟨⟨(y12, g13, g14), rfl, (by have e9 := hinv; rw [show j11 = B by omega] at e9; exact e9), ⟨by rw [ht]; exact hP9, hD9⟩⟩, hS.F ht⟩) hS.2.2 dX0_chooseFrom_89
            · skip
              have tn2608_ : nIT j11 := fun _ => nI_toInt (by first | omega | (have t := nleI c18; omega))
              have n20 : j11 < B := by have t := nleI c18; rw [show (nI (j11)).toInt = ((j11 : Nat) : Int) from tn2608_ ()] at t; rw [show (nI (B)).toInt = ((B : Nat) : Int) from tn2603_ ()] at t; omega
              refine lv_iload hx hb dX0_chooseFrom_60 (lv_at hl 0 rfl) ?_
              refine lv_iload hx hb dX0_chooseFrom_62 (lv_at hl 5 rfl) ?_
              refine lv_icmp_eq (tgt := 83) hx hb dX0_chooseFrom_64 rfl (fun c21 => ?_) (fun c21 => ?_)
              · skip
                refine lv_iinc (v := nI (j11 + 1)) (lv' := [(5, .int (nI (j11 + 1))), (0, .ref h0), (1, .ref wy), (2, .int (nI i)), (3, .int g), (4, .int x1)]) hx hb dX0_chooseFrom_83 hl (k := 0) rfl (by rw [show Int32.ofInt 1 = nI 1 from by decide]; exact nI_add _ _) (by decide) rfl (fun ls hl => ?_)
                refine lv_goto (tgt := 51) hx hb dX0_chooseFrom_86 rfl ?_
                exact ih51_15 (j11 + 1) (by omega) (by omega) y12 g13 g14 _ _ ⟨hinv.1, (CF.ex hinv.2 (Int32.toInt_inj.mp (by have t_hs3 := hs3; have t_hj8 := hj8; have t_hlo_j4 := hlo_j4; have t_n10 := n10; have t_hj17 := hj17; have t_n20 := n20; have t_c21 := eqI c21; have tnb_ := nib6 tn2605_ tn2602_ tn2603_ tn2604_ tn2606_ tn2608_; have lz0 : (0 : Int32).toInt = 0 := qI_0; have lz1 : (1 : Int32).toInt = 1 := qI_1; have lz2 : (2 : Int32).toInt = 2 := qI_2; have lz3 : (3 : Int32).toInt = 3 := qI_3; have lz5 : (5 : Int32).toInt = 5 := qI_5; have lz9 : (9 : Int32).toInt = 9 := qI_9; omega)))⟩ hP hD hS ls (lv_sub hl [0, 1, 2, 3, 4, 5] rfl)
              · skip
                refine lv_aload_n hx hb dX0_chooseFrom_67 rfl (lv_at hl 1 rfl) ?_
                refine lv_iload_n hx hb dX0_chooseFrom_68 rfl (lv_at hl 3 rfl) ?_
                refine lv_iload_n hx hb dX0_chooseFrom_69 rfl (lv_at hl 4 rfl) ?_
                refine lv_iload hx hb dX0_chooseFrom_70 (lv_at hl 0 rfl) ?_
                refine lv_aload_n hx hb dX0_chooseFrom_72 rfl (lv_at hl 2 rfl) ?_
                refine lv_iload_n hx hb dX0_chooseFrom_73 rfl (lv_at hl 3 rfl) ?_
                refine lv_iload_n hx hb dX0_chooseFrom_74 rfl (lv_at hl 4 rfl) ?_
                refine lv_iload hx hb dX0_chooseFrom_75 (lv_at hl 0 rfl) ?_
                have hPc := hP.sub (ws' := [(wy, .inr (9, [.int (nI N), .int (nI B), .int (nI D), .ref a1, .ref a2, .ref a3, .ref a4, .ref a5, .ref a6])), (a1, .inl (G 0, 10, .inl f1)), (a2, .inl (G 0, 10, .inl f2)), (a4, .inl (G 0, 6, .inl f4)), (a5, .inl (G 0, 6, .inl f5)), (a6, .inl (G 0, 6, .inl f6))]) [3, 4, 5, 6, 7, 8] rfl
                refine va_calli (va_runVN (As := [.int (nI i), .int g, .int (nI j11)]) (rest := [.int (nI j11), .int g, .int (nI i), .ref h0]) ⟨hx, hb, hml, hown, hg⟩ (c_X9_harmBy l dC dI G _ wy a1 a2 a3 a4 a5 a6 N B D (nI i) g (nI j11) f1 f2 f4 f5 f6 hN_N hB_B hD_D) (kwVN hg hK mfX9_harmBy wn_670 ⟨Nat.le_of_ble_eq_true rfl, Nat.le_of_ble_eq_true rfl⟩) (preVR hK hPc (ci := 9) (r := (RX9, TX9, 9)) rfl rfl) rfl rfl hl.1 rfl (lv_room (Nat.le_of_ble_eq_true rfl)) dX0_chooseFrom_77 ⟨Nat.le_of_ble_eq_true rfl, Nat.le_of_ble_eq_true rfl⟩) hS (fun q h1 h2 => absurd h2 (Nat.not_le.mpr h1)) (fun q h => hA q (Nat.le_trans hS.1 h)) (fun r22 ur22 t H1 locs ht hvm w23 hB hz1 hk1 hS => ?_)
                have hP := keepR hP hk1
                obtain ⟨w23, w23x⟩ := w23
                subst w23
                obtain ⟨hPc, hDc, hFc⟩ := va_sub3 (ws' := (([(h0, .inr (0, [.long y12, .ref wk, .ref cs])), (wk, .inl (G 5, 11, .inr (.inr (.inr (.inr (fun ir => if ir < 11 then some (rw ir) else none)))))), (cs, .inl (G 4, 10, .inr (.inr (.inr (.inr (fun ir => if ir < 10 then some (rq ir) else none))))))] : va_W) ++ ((((List.range 11).map (fun iq => (rw iq, .inl (G 1, 70, .inr (.inl (g13 iq)))))) : va_W) ++ ((((List.range 10).map (fun iq => (rq iq, .inl (G 0, 70, .inl (g14 iq))))) : va_W) ++ [])))) hP hD hS hA [0, 1, 2, 9, 10, 11, 12, 13, 14, 15, 16, 17, 18, 19, 20, 21, 22, 23, 24, 25, 26, 27, 28, 29] (by decide +kernel) rfl
                refine va_callv (va_runV (As := [.int (nI i), .int g, .int (nI j11), .int (hmF N B f1 f2 f4 f5 f6 (nI i) g (nI j11))]) (rest := []) ⟨hx, hb, hml, hown, hg⟩ (c_X0_weighE l dC dI G _ h0 wk cs i j11 g (hmF N B f1 f2 f4 f5 f6 (nI i) g (nI j11)) y12 rw rq g13 g14 hg0 (by first | omega | (have t_hs3 := hs3; have t_hj8 := hj8; have t_hlo_j4 := hlo_j4; have t_n10 := n10; have t_hj17 := hj17; have t_n20 := n20; have t_c21 := neI c21; have tnb_ := nib6 tn2605_ tn2602_ tn2603_ tn2604_ tn2606_ tn2608_; omega)) (by first | omega | (have t_hs3 := hs3; have t_hj8 := hj8; have t_hlo_j4 := hlo_j4; have t_n10 := n10; have t_hj17 := hj17; have t_n20 := n20; have t_c21 := neI c21; have tnb_ := nib6 tn2605_ tn2602_ tn2603_ tn2604_ tn2606_ tn2608_; omega))) (kwV hg mfX0_weigh wt_671 ⟨Nat.le_of_ble_eq_true rfl, Nat.le_of_ble_eq_true rfl⟩) (preVW hK hPc hDc (ci := 0) (r := (RX0, TX0, 3)) rfl rfl) rfl rfl hl.1 rfl (lv_room (Nat.le_of_ble_eq_true rfl)) dX0_chooseFrom_80 ⟨Nat.le_of_ble_eq_true rfl, Nat.le_of_ble_eq_true rfl⟩) hS (fun q _ h => hFc q h) hFc (fun ur24 t H1 locs ht hvm w25 hB hz1 hk1 hS => ?_)
                obtain ⟨u26, u27, u28⟩ := ur24
                obtain ⟨hP1, hD1⟩ := hB
                rw [ht] at hP1
                obtain ⟨hP, hD⟩ := va_join (wr := [(wy, .inr (9, [.int (nI N), .int (nI B), .int (nI D), .ref a1, .ref a2, .ref a3, .ref a4, .ref a5, .ref a6])), (a1, .inl (G 0, 10, .inl f1)), (a2, .inl (G 0, 10, .inl f2)), (a4, .inl (G 0, 6, .inl f4)), (a5, .inl (G 0, 6, .inl f5)), (a6, .inl (G 0, 6, .inl f6))]) (w1 := (([(h0, .inr (0, [.long u26, .ref wk, .ref cs])), (wk, .inl (G 5, 11, .inr (.inr (.inr (.inr (fun ir => if ir < 11 then some (rw ir) else none)))))), (cs, .inl (G 4, 10, .inr (.inr (.inr (.inr (fun ir => if ir < 10 then some (rq ir) else none))))))] : va_W) ++ ((((List.range 11).map (fun iq => (rw iq, .inl (G 1, 70, .inr (.inl (u27 iq)))))) : va_W) ++ ((((List.range 10).map (fun iq => (rq iq, .inl (G 0, 70, .inl (u28 iq))))) : va_W) ++ [])))) hP hD [0, 1, 2, 9, 10, 11, 12, 13, 14, 15, 16, 17, 18, 19, 20, 21, 22, 23, 24, 25, 26, 27, 28, 29] [3, 4, 5, 6, 7, 8] rfl rfl (by decide +kernel) (by decide +kernel) hk1 hFc hP1 hD1
                have w25 : u26 = y12 ∧ WG i g (fun db => mxF (hmF N B f1 f2 f4 f5 f6 (nI i) g (nI j11)) (g13 (i + 1) (slotF (nI j11) (db - 1))) (g13 (i + 1) (slotF (nI j11) (min 9 (db + 1))))) j11 10 u27 g13 u28 g14 := w25
                generalize H1 = H at hP hS ⊢
                obtain ⟨hP, hD⟩ := va_rls (ws' := (([(wy, .inr (9, [.int (nI N), .int (nI B), .int (nI D), .ref a1, .ref a2, .ref a3, .ref a4, .ref a5, .ref a6])), (a1, .inl (G 0, 10, .inl f1)), (a2, .inl (G 0, 10, .inl f2)), (a4, .inl (G 0, 6, .inl f4)), (a5, .inl (G 0, 6, .inl f5)), (a6, .inl (G 0, 6, .inl f6)), (h0, .inr (0, [.long u26, .ref wk, .ref cs])), (wk, .inl (G 5, 11, .inr (.inr (.inr (.inr (fun ir => if ir < 11 then some (rw ir) else none)))))), (cs, .inl (G 4, 10, .inr (.inr (.inr (.inr (fun ir => if ir < 10 then some (rq ir) else none))))))] : va_W) ++ ((((List.range 11).map (fun iq => (rw iq, .inl (G 1, 70, .inr (.inl (u27 iq)))))) : va_W) ++ ((((List.range 10).map (fun iq => (rq iq, .inl (G 0, 70, .inl (u28 iq))))) : va_W) ++ [])))) hP hD rfl
                refine lv_iinc (v := nI (j11 + 1)) (lv' := [(5, .int (nI (j11 + 1))), (0, .ref h0), (1, .ref wy), (2, .int (nI i)), (3, .int g), (4, .int x1)]) hx hb dX0_chooseFrom_83 hl (k := 0) rfl (by rw [show Int32.ofInt 1 = nI 1 from by decide]; exact nI_add _ _) (by decide) rfl (fun ls hl => ?_)
                refine lv_goto (tgt := 51) hx hb dX0_chooseFrom_86 rfl ?_
                exact ih51_15 (j11 + 1) (by omega) (by omega) u26 u27 u28 _ _ ⟨(by rw [w25.1]; exact hinv.1), CF.s hinv.2 (fun e9 => by have t_hs3 := hs3; have t_hj8 := hj8; have t_hlo_j4 := hlo_j4; have t_n10 := n10; have t_hj17 := hj17; have t_n20 := n20; have t_c21 := neI c21; have tnb_ := nib6 tn2605_ tn2602_ tn2603_ tn2604_ tn2606_ tn2608_; have lz0 : (0 : Int32).toInt = 0 := qI_0; have lz1 : (1 : Int32).toInt = 1 := qI_1; have lz2 : (2 : Int32).toInt = 2 := qI_2; have lz3 : (3 : Int32).toInt = 3 := qI_3; have lz5 : (5 : Int32).toInt = 5 := qI_5; have lz9 : (9 : Int32).toInt = 9 := qI_9; have e8 := congrArg Int32.toInt e9; omega) w25.2 (fun d8 h8 h7 => by show mxF _ _ _ = mxF _ _ _; rw [(hinv.2.1 (i + 1) (by omega)).1])⟩ (hP.sub [6, 7, 8, 0, 1, 2, 3, 4, 5, 9, 10, 11, 12, 13, 14, 15, 16, 17, 18, 19, 20, 21, 22, 23, 24, 25, 26, 27, 28, 29] rfl) (hD.sub [6, 7, 8, 0, 1, 2, 3, 4, 5, 9, 10, 11, 12, 13, 14, 15, 16, 17, 18, 19, 20, 21, 22, 23, 24, 25, 26, 27, 28, 29] (by decide) rfl) hS ls (lv_sub hl [0, 1, 2, 3, 4, 5] rfl)
        exact loop51_15 (B + 1) 0 (by omega) (by omega) w0 g5 E _ _ ⟨rfl, CF.z hI9⟩ hP hD hS ls (lv_sub hl [0, 1, 2, 3, 4, 5] rfl)
      · skip
        have tn2609_ : nIT j4 := fun _ => nI_toInt (by first | omega | (have t := nleI c9; omega))
        have n29 : j4 < 10 := by have t := nleI c9; rw [show (nI (j4)).toInt = ((j4 : Nat) : Int) from tn2609_ ()] at t; have : (10 : Int32).toInt = 10 := qI_10; omega
        refine lv_aload_n hx hb dX0_chooseFrom_26 rfl (lv_at hl 1 rfl) ?_
        refine va_get (D := (dC, dI)) (ci := 0) (v := .ref wk) (C := RX0) (T := TX0) (N := 3) hx hb hg inG0 hown hK.1 hP 0 rfl rfl 1 (Nat.le_of_ble_eq_true rfl) (hg _ wt_182) (fun _ h9 => h9) rfl dX0_chooseFrom_27 ?_
        refine lv_iload_n hx hb dX0_chooseFrom_30 rfl (lv_at hl 3 rfl) ?_
        refine va_aldA hx hb hK.1 hP 1 5 rfl rfl (vp_in_nI (by first | omega | (have t_hs3 := hs3; have t_hj8 := hj8; have t_hlo_j4 := hlo_j4; have t_n29 := n29; have tnb_ := nib5 tn2605_ tn2602_ tn2603_ tn2604_ tn2609_; omega)) (by decide)) dX0_chooseFrom_31 ?_
        refine lv_cgv (y := .ref (rw i)) (rowref (by first | omega | (have t_hs3 := hs3; have t_hj8 := hj8; have t_hlo_j4 := hlo_j4; have t_n29 := n29; have tnb_ := nib5 tn2605_ tn2602_ tn2603_ tn2604_ tn2609_; omega)) (by decide)) ?_
        refine lv_iload_n hx hb dX0_chooseFrom_32 rfl (lv_at hl 4 rfl) ?_
        refine lv_iload hx hb dX0_chooseFrom_33 (lv_at hl 0 rfl) ?_
        have hPc := hP.sub (ws' := []) [] rfl
        refine va_calli (va_runS (As := [.int g, .int (nI j4)]) (rest := [.ref (rw i)]) ⟨hx, hb, hml, hown, hg⟩ (c_X0_slot l dC dI G _ j4 g hg0 (by first | omega | (have t_hs3 := hs3; have t_hj8 := hj8; have t_hlo_j4 := hlo_j4; have t_n29 := n29; have tnb_ := nib5 tn2605_ tn2602_ tn2603_ tn2604_ tn2609_; omega))) (kwS hg mfX0_slot wt_666 ⟨Nat.le_of_ble_eq_true rfl, Nat.le_of_ble_eq_true rfl⟩) (preSR hK hPc) rfl rfl hl.1 rfl (lv_room (Nat.le_of_ble_eq_true rfl)) dX0_chooseFrom_35 ⟨Nat.le_of_ble_eq_true rfl, Nat.le_of_ble_eq_true rfl⟩) hS (fun q h1 h2 => absurd h2 (Nat.not_le.mpr h1)) (fun q h => hA q (Nat.le_trans hS.1 h)) (fun r30 ur30 t H1 locs ht hvm w31 hB hz1 hk1 hS => ?_)
        have hP := keepR hP hk1
        obtain ⟨w31, w31x⟩ := w31
        have hs32 : slotF g j4 < 70 := slotF_lt (by have t_hs3 := hs3; have t_hj8 := hj8; have t_hlo_j4 := hlo_j4; have t_n29 := n29; have tnb_ := nib5 tn2605_ tn2602_ tn2603_ tn2604_ tn2609_; omega) (by have t_hs3 := hs3; have t_hj8 := hj8; have t_hlo_j4 := hlo_j4; have t_n29 := n29; have tnb_ := nib5 tn2605_ tn2602_ tn2603_ tn2604_ tn2609_; omega)
        subst w31
        refine lv_ldc2 (v := 1152921504606846976) hx hb hown (hg _ wt_669) dX0_chooseFrom_38 ?_
        refine va_lastB (j := i) hx hb hK.1 hP hD hS 1 (by first | omega | (have t_hs3 := hs3; have t_hj8 := hj8; have t_hlo_j4 := hlo_j4; have t_n29 := n29; have t_hs32 := hs32; have tnb_ := nib5 tn2605_ tn2602_ tn2603_ tn2604_ tn2609_; omega)) rfl (vp_in_nI (by first | omega | (have t_hs3 := hs3; have t_hj8 := hj8; have t_hlo_j4 := hlo_j4; have t_n29 := n29; have t_hs32 := hs32; have tnb_ := nib5 tn2605_ tn2602_ tn2603_ tn2604_ tn2609_; omega)) (by decide)) dX0_chooseFrom_41 (fun H locs hP hD hS => ?_)
        rw [nI_clamp (by first | omega | (have t_hs3 := hs3; have t_hj8 := hj8; have t_hlo_j4 := hlo_j4; have t_n29 := n29; have t_hs32 := hs32; have tnb_ := nib5 tn2605_ tn2602_ tn2603_ tn2604_ tn2609_; omega))] at hP hD
        obtain ⟨hP, hD⟩ := va_rls (ws' := (([(h0, .inr (0, [.long w0, .ref wk, .ref cs])), (wk, .inl (G 5, 11, .inr (.inr (.inr (.inr (fun ir => if ir < 11 then some (rw ir) else none)))))), (cs, .inl (G 4, 10, .inr (.inr (.inr (.inr (fun ir => if ir < 10 then some (rq ir) else none)))))), (wy, .inr (9, [.int (nI N), .int (nI B), .int (nI D), .ref a1, .ref a2, .ref a3, .ref a4, .ref a5, .ref a6])), (a1, .inl (G 0, 10, .inl f1)), (a2, .inl (G 0, 10, .inl f2)), (a4, .inl (G 0, 6, .inl f4)), (a5, .inl (G 0, 6, .inl f5)), (a6, .inl (G 0, 6, .inl f6))] : va_W) ++ ((((List.range 11).map (fun iq => (rw iq, .inl (G 1, 70, .inr (.inl ((va_up g5 i (vp_updL (g5 i) (slotF g j4) 1152921504606846976)) iq)))))) : va_W) ++ ((((List.range 10).map (fun iq => (rq iq, .inl (G 0, 70, .inl (E iq))))) : va_W) ++ [])))) hP hD rfl
        refine lv_iinc (v := nI (j4 + 1)) (lv' := [(5, .int (nI (j4 + 1))), (0, .ref h0), (1, .ref wy), (2, .int (nI i)), (3, .int g), (4, .int x1)]) hx hb dX0_chooseFrom_42 hl (k := 0) rfl (by rw [show Int32.ofInt 1 = nI 1 from by decide]; exact nI_add _ _) (by decide) rfl (fun ls hl => ?_)
        refine lv_goto (tgt := 19) hx hb dX0_chooseFrom_45 rfl ?_
        exact ih19_6 (j4 + 1) (by omega) (by omega) (by omega) (va_up g5 i (vp_updL (g5 i) (slotF g j4) 1152921504606846976)) _ _ (CI0.s hinv (by omega) rfl) hP hD hS ls (lv_sub hl [0, 1, 2, 3, 4, 5] rfl)
  exact loop19_6 (10 + 1) 1 (by omega) (by omega) (by omega) (va_up F i (vp_updL (F i) (slotF g 0) w0)) _ _ CI0.z hP hD hS ls (lv_sub hl [0, 1, 2, 3, 4, 5] rfl)

set_option maxHeartbeats 4000000 in
set_option maxRecDepth 100000 in
theorem c_X0_planE (l : Launch) (dC : Nat → ClassId) (dI : Nat → Nat → Nat) (G : Nat → ClassId) (sz : Nat) (h0 wk cs wy a1 a2 a3 a4 a5 a6 N B D : Nat) (x1 : Int32) (w0 : Int64) (f1 f2 f4 f5 f6 : Nat → Int32) (rw rq : Nat → Nat) (F : Nat → Nat → Int64) (E : Nat → Nat → Int32) (hN_N : N ≤ 10) (hB_B : B ≤ 6) (hD_D : 1 ≤ D ∧ D ≤ 9) : Met l yX0_plan (Cond.code yX0_plan cX0_plan 5 none :: GT) ({ frames := 4, cells := 0, slots := 0, locals := 92 } : Room) (PcW [.ref h0, .ref wy, .int x1] dC dI G (([(h0, .inr (0, [.long w0, .ref wk, .ref cs])), (wk, .inl (G 5, 11, .inr (.inr (.inr (.inr (fun ir => if ir < 11 then some (rw ir) else none)))))), (cs, .inl (G 4, 10, .inr (.inr (.inr (.inr (fun ir => if ir < 10 then some (rq ir) else none)))))), (wy, .inr (9, [.int (nI N), .int (nI B), .int (nI D), .ref a1, .ref a2, .ref a3, .ref a4, .ref a5, .ref a6])), (a1, .inl (G 0, 10, .inl f1)), (a2, .inl (G 0, 10, .inl f2)), (a4, .inl (G 0, 6, .inl f4)), (a5, .inl (G 0, 6, .inl f5)), (a6, .inl (G 0, 6, .inl f6))] : va_W) ++ ((((List.range 11).map (fun iq => (rw iq, .inl (G 1, 70, .inr (.inl (F iq)))))) : va_W) ++ ((((List.range 10).map (fun iq => (rq iq, .inl (G 0, 70, .inl (E iq))))) : va_W) ++ []))) sz) (va_Qv (fun (u : Int64 × (Nat → Nat → Int64) × (Nat → Nat → Int32)) => match u with | (u0, u1, u2) => u0 = powF N ∧ PLR (fun ib gb bb => hmF N B f1 f2 f4 f5 f6 (nI ib) gb (nI bb)) N B x1 0 u1 u2) (fun (u : Int64 × (Nat → Nat → Int64) × (Nat → Nat → Int32)) (t : State) => match u with | (u0, u1, u2) => va_P (dC, dI) vwCl (([(h0, .inr (0, [.long u0, .ref wk, .ref cs])), (wk, .inl (G 5, 11, .inr (.inr (.inr (.inr (fun ir => if ir < 11 then some (rw ir) else none)))))), (cs, .inl (G 4, 10, .inr (.inr (.inr (.inr (fun ir => if ir < 10 then some (rq ir) else none)))))), (wy, .inr (9, [.int (nI N), .int (nI B), .int (nI D), .ref a1, .ref a2, .ref a3, .ref a4, .ref a5, .ref a6])), (a1, .inl (G 0, 10, .inl f1)), (a2, .inl (G 0, 10, .inl f2)), (a4, .inl (G 0, 6, .inl f4)), (a5, .inl (G 0, 6, .inl f5)), (a6, .inl (G 0, 6, .inl f6))] : va_W) ++ ((((List.range 11).map (fun iq => (rw iq, .inl (G 1, 70, .inr (.inl (u1 iq)))))) : va_W) ++ ((((List.range 10).map (fun iq => (rq iq, .inl (G 0, 70, .inl (u2 iq))))) : va_W) ++ []))) t.heap ∧ va_D (va_A (([(h0, .inr (0, [.long w0, .ref wk, .ref cs])), (wk, .inl (G 5, 11, .inr (.inr (.inr (.inr (fun ir => if ir < 11 then some (rw ir) else none)))))), (cs, .inl (G 4, 10, .inr (.inr (.inr (.inr (fun ir => if ir < 10 then some (rq ir) else none)))))), (wy, .inr (9, [.int (nI N), .int (nI B), .int (nI D), .ref a1, .ref a2, .ref a3, .ref a4, .ref a5, .ref a6])), (a1, .inl (G 0, 10, .inl f1)), (a2, .inl (G 0, 10, .inl f2)), (a4, .inl (G 0, 6, .inl f4)), (a5, .inl (G 0, 6, .inl f5)), (a6, .inl (G 0, 6, .inl f6))] : va_W) ++ ((((List.range 11).map (fun iq => (rw iq, .inl (G 1, 70, .inr (.inl (F iq)))))) : va_W) ++ ((((List.range 10).map (fun iq => (rq iq, .inl (G 0, 70, .inl (E iq))))) : va_W) ++ []))) sz) (([(h0, .inr (0, [.long u0, .ref wk, .ref cs])), (wk, .inl (G 5, 11, .inr (.inr (.inr (.inr (fun ir => if ir < 11 then some (rw ir) else none)))))), (cs, .inl (G 4, 10, .inr (.inr (.inr (.inr (fun ir => if ir < 10 then some (rq ir) else none)))))), (wy, .inr (9, [.int (nI N), .int (nI B), .int (nI D), .ref a1, .ref a2, .ref a3, .ref a4, .ref a5, .ref a6])), (a1, .inl (G 0, 10, .inl f1)), (a2, .inl (G 0, 10, .inl f2)), (a4, .inl (G 0, 6, .inl f4)), (a5, .inl (G 0, 6, .inl f5)), (a6, .inl (G 0, 6, .inl f6))] : va_W) ++ ((((List.range 11).map (fun iq => (rw iq, .inl (G 1, 70, .inr (.inl (u1 iq)))))) : va_W) ++ ((((List.range 10).map (fun iq => (rq iq, .inl (G 0, 70, .inl (u2 iq))))) : va_W) ++ [])))) (va_A (([(h0, .inr (0, [.long w0, .ref wk, .ref cs])), (wk, .inl (G 5, 11, .inr (.inr (.inr (.inr (fun ir => if ir < 11 then some (rw ir) else none)))))), (cs, .inl (G 4, 10, .inr (.inr (.inr (.inr (fun ir => if ir < 10 then some (rq ir) else none)))))), (wy, .inr (9, [.int (nI N), .int (nI B), .int (nI D), .ref a1, .ref a2, .ref a3, .ref a4, .ref a5, .ref a6])), (a1, .inl (G 0, 10, .inl f1)), (a2, .inl (G 0, 10, .inl f2)), (a4, .inl (G 0, 6, .inl f4)), (a5, .inl (G 0, 6, .inl f5)), (a6, .inl (G 0, 6, .inl f6))] : va_W) ++ ((((List.range 11).map (fun iq => (rw iq, .inl (G 1, 70, .inr (.inl (F iq)))))) : va_W) ++ ((((List.range 10).map (fun iq => (rq iq, .inl (G 0, 70, .inl (E iq))))) : va_W) ++ []))) sz)) 0 0 (va_A (([(h0, .inr (0, [.long w0, .ref wk, .ref cs])), (wk, .inl (G 5, 11, .inr (.inr (.inr (.inr (fun ir => if ir < 11 then some (rw ir) else none)))))), (cs, .inl (G 4, 10, .inr (.inr (.inr (.inr (fun ir => if ir < 10 then some (rq ir) else none)))))), (wy, .inr (9, [.int (nI N), .int (nI B), .int (nI D), .ref a1, .ref a2, .ref a3, .ref a4, .ref a5, .ref a6])), (a1, .inl (G 0, 10, .inl f1)), (a2, .inl (G 0, 10, .inl f2)), (a4, .inl (G 0, 6, .inl f4)), (a5, .inl (G 0, 6, .inl f5)), (a6, .inl (G 0, 6, .inl f6))] : va_W) ++ ((((List.range 11).map (fun iq => (rw iq, .inl (G 1, 70, .inr (.inl (F iq)))))) : va_W) ++ ((((List.range 10).map (fun iq => (rq iq, .inl (G 0, 70, .inl (E iq))))) : va_W) ++ []))) sz) := by
  have tn2610_ : nIT N := fun _ => nI_toInt (by omega)
  have tn2611_ : nIT B := fun _ => nI_toInt (by omega)
  have tn2612_ : nIT D := fun _ => nI_toInt (by omega)
  refine Met.ofW (cc := cX0_plan) (maxL := 5) (ret := none) (by decide) rfl ?_
  intro p e s m args below meth c s₁ Bd hml hv
  obtain ⟨rfl, hsz, hP, hK, hD0⟩ := hv
  have hx := Bd.exec
  have hb := Bd.bytes
  have hr := Bd.returns
  have hg : ∀ w ∈ GT, w.before ([.ref h0, .ref wy, .int x1] : List Value).toArray s = true := fun w h => atoms_spec (ws := Cond.code yX0_plan cX0_plan 5 none :: GT) Bd.pre w (List.mem_cons_of_mem _ h)
  have hown : s.vm.findClass RX0 = some m.cls := findClass_of_methodNamed Bd.named
  have hlocks := Bd.notSynchronized
  subst hsz
  have hD := hD0.self (sz := s.heap.size)
  generalize hAe : va_A (([(h0, .inr (0, [.long w0, .ref wk, .ref cs])), (wk, .inl (G 5, 11, .inr (.inr (.inr (.inr (fun ir => if ir < 11 then some (rw ir) else none)))))), (cs, .inl (G 4, 10, .inr (.inr (.inr (.inr (fun ir => if ir < 10 then some (rq ir) else none)))))), (wy, .inr (9, [.int (nI N), .int (nI B), .int (nI D), .ref a1, .ref a2, .ref a3, .ref a4, .ref a5, .ref a6])), (a1, .inl (G 0, 10, .inl f1)), (a2, .inl (G 0, 10, .inl f2)), (a4, .inl (G 0, 6, .inl f4)), (a5, .inl (G 0, 6, .inl f5)), (a6, .inl (G 0, 6, .inl f6))] : va_W) ++ ((((List.range 11).map (fun iq => (rw iq, .inl (G 1, 70, .inr (.inl (F iq)))))) : va_W) ++ ((((List.range 10).map (fun iq => (rq iq, .inl (G 0, 70, .inl (E iq))))) : va_W) ++ []))) s.heap.size = A at hD ⊢
  have hA : ∀ q : Nat, s.heap.size ≤ q → A q := fun q h => by rw [← hAe]; exact Or.inr h
  have hS : va_S A s.heap s.heap [] := va_S.rf
  have hl := lv_entry ([.ref h0, .ref wy, .int x1]) (n := 5) (Nat.le_of_ble_eq_true rfl)
  rw [lg_entry_eq]
  generalize (lg_sl ([.ref h0, .ref wy, .int x1]) ++ List.replicate (5 - (lg_sl ([.ref h0, .ref wy, .int x1])).length) Slot.unset).toArray = ls at hl ⊢
  have hl : lv_has ls 5 [(0, .ref h0), (1, .ref wy), (2, .int x1)] := hl
  refine lv_aload_n hx hb dX0_plan_0 rfl (lv_at hl 0 rfl) ?_
  refine lv_lconst (v := 1) hx hb dX0_plan_1 (by decide) ?_
  refine va_put (D := (dC, dI)) (ci := 0) (v := .long 1) (ty := .long) (C := RX0) (T := TX0) (N := 3) hx hb hg inG0 tyX0 tyX0_ok nmX0 hown hK.1 hP hD hS 0 rfl rfl 0 (Nat.le_of_ble_eq_true rfl) (hg _ wt_180) (fun _ h9 => h9) rfl (by decide +kernel) rfl rfl (Nat.le_of_ble_eq_true rfl) dX0_plan_2 (fun H locs hP hD hS => ?_)
  obtain ⟨hP, hD⟩ := va_rls (ws' := (([(h0, .inr (0, [.long 1, .ref wk, .ref cs])), (wk, .inl (G 5, 11, .inr (.inr (.inr (.inr (fun ir => if ir < 11 then some (rw ir) else none)))))), (cs, .inl (G 4, 10, .inr (.inr (.inr (.inr (fun ir => if ir < 10 then some (rq ir) else none)))))), (wy, .inr (9, [.int (nI N), .int (nI B), .int (nI D), .ref a1, .ref a2, .ref a3, .ref a4, .ref a5, .ref a6])), (a1, .inl (G 0, 10, .inl f1)), (a2, .inl (G 0, 10, .inl f2)), (a4, .inl (G 0, 6, .inl f4)), (a5, .inl (G 0, 6, .inl f5)), (a6, .inl (G 0, 6, .inl f6))] : va_W) ++ ((((List.range 11).map (fun iq => (rw iq, .inl (G 1, 70, .inr (.inl (F iq)))))) : va_W) ++ ((((List.range 10).map (fun iq => (rq iq, .inl (G 0, 70, .inl (E iq))))) : va_W) ++ [])))) hP hD rfl
  refine lv_iconst (v := 0) hx hb dX0_plan_5 rfl ?_
  refine lv_istore_n (lv' := [(3, .int 0), (0, .ref h0), (1, .ref wy), (2, .int x1)]) hx hb dX0_plan_6 rfl hl (by decide) rfl (fun ls hl => ?_)
  have loop7_3 : ∀ (nf j1 : Nat), 70 + 1 ≤ j1 + nf → j1 ≤ 70 → ∀ (g2 : Nat → Nat → Int64) (H : Heap) (locs : List Loc), (∀ s8 : Nat, s8 < j1 → g2 N s8 = (fun sb => if sb % 10 = 0 then 1 else 0) s8) → va_P (dC, dI) vwCl (([(h0, .inr (0, [.long 1, .ref wk, .ref cs])), (wk, .inl (G 5, 11, .inr (.inr (.inr (.inr (fun ir => if ir < 11 then some (rw ir) else none)))))), (cs, .inl (G 4, 10, .inr (.inr (.inr (.inr (fun ir => if ir < 10 then some (rq ir) else none)))))), (wy, .inr (9, [.int (nI N), .int (nI B), .int (nI D), .ref a1, .ref a2, .ref a3, .ref a4, .ref a5, .ref a6])), (a1, .inl (G 0, 10, .inl f1)), (a2, .inl (G 0, 10, .inl f2)), (a4, .inl (G 0, 6, .inl f4)), (a5, .inl (G 0, 6, .inl f5)), (a6, .inl (G 0, 6, .inl f6))] : va_W) ++ ((((List.range 11).map (fun iq => (rw iq, .inl (G 1, 70, .inr (.inl (g2 iq)))))) : va_W) ++ ((((List.range 10).map (fun iq => (rq iq, .inl (G 0, 70, .inl (E iq))))) : va_W) ++ []))) H → va_D A (([(h0, .inr (0, [.long 1, .ref wk, .ref cs])), (wk, .inl (G 5, 11, .inr (.inr (.inr (.inr (fun ir => if ir < 11 then some (rw ir) else none)))))), (cs, .inl (G 4, 10, .inr (.inr (.inr (.inr (fun ir => if ir < 10 then some (rq ir) else none)))))), (wy, .inr (9, [.int (nI N), .int (nI B), .int (nI D), .ref a1, .ref a2, .ref a3, .ref a4, .ref a5, .ref a6])), (a1, .inl (G 0, 10, .inl f1)), (a2, .inl (G 0, 10, .inl f2)), (a4, .inl (G 0, 6, .inl f4)), (a5, .inl (G 0, 6, .inl f5)), (a6, .inl (G 0, 6, .inl f6))] : va_W) ++ ((((List.range 11).map (fun iq => (rw iq, .inl (G 1, 70, .inr (.inl (g2 iq)))))) : va_W) ++ ((((List.range 10).map (fun iq => (rq iq, .inl (G 0, 70, .inl (E iq))))) : va_W) ++ []))) → va_S A s.heap H locs → ∀ (ls : Array Slot), lv_has ls 5 [(3, .int (nI j1)), (0, .ref h0), (1, .ref wy), (2, .int x1)] → W p l e (headSpec (Cond.code yX0_plan cX0_plan 5 none :: GT) ({ frames := 4, cells := 0, slots := 0, locals := 92 } : Room)).room s m ([.ref h0, .ref wy, .int x1] : List Value).toArray below meth c H locs 0 0 (MQ below (va_Qv (fun (u : Int64 × (Nat → Nat → Int64) × (Nat → Nat → Int32)) => match u with | (u0, u1, u2) => u0 = powF N ∧ PLR (fun ib gb bb => hmF N B f1 f2 f4 f5 f6 (nI ib) gb (nI bb)) N B x1 0 u1 u2) (fun (u : Int64 × (Nat → Nat → Int64) × (Nat → Nat → Int32)) (t : State) => match u with | (u0, u1, u2) => va_P (dC, dI) vwCl (([(h0, .inr (0, [.long u0, .ref wk, .ref cs])), (wk, .inl (G 5, 11, .inr (.inr (.inr (.inr (fun ir => if ir < 11 then some (rw ir) else none)))))), (cs, .inl (G 4, 10, .inr (.inr (.inr (.inr (fun ir => if ir < 10 then some (rq ir) else none)))))), (wy, .inr (9, [.int (nI N), .int (nI B), .int (nI D), .ref a1, .ref a2, .ref a3, .ref a4, .ref a5, .ref a6])), (a1, .inl (G 0, 10, .inl f1)), (a2, .inl (G 0, 10, .inl f2)), (a4, .inl (G 0, 6, .inl f4)), (a5, .inl (G 0, 6, .inl f5)), (a6, .inl (G 0, 6, .inl f6))] : va_W) ++ ((((List.range 11).map (fun iq => (rw iq, .inl (G 1, 70, .inr (.inl (u1 iq)))))) : va_W) ++ ((((List.range 10).map (fun iq => (rq iq, .inl (G 0, 70, .inl (u2 iq))))) : va_W) ++ []))) t.heap ∧ va_D A (([(h0, .inr (0, [.long u0, .ref wk, .ref cs])), (wk, .inl (G 5, 11, .inr (.inr (.inr (.inr (fun ir => if ir < 11 then some (rw ir) else none)))))), (cs, .inl (G 4, 10, .inr (.inr (.inr (.inr (fun ir => if ir < 10 then some (rq ir) else none)))))), (wy, .inr (9, [.int (nI N), .int (nI B), .int (nI D), .ref a1, .ref a2, .ref a3, .ref a4, .ref a5, .ref a6])), (a1, .inl (G 0, 10, .inl f1)), (a2, .inl (G 0, 10, .inl f2)), (a4, .inl (G 0, 6, .inl f4)), (a5, .inl (G 0, 6, .inl f5)), (a6, .inl (G 0, 6, .inl f6))] : va_W) ++ ((((List.range 11).map (fun iq => (rw iq, .inl (G 1, 70, .inr (.inl (u1 iq)))))) : va_W) ++ ((((List.range 10).map (fun iq => (rq iq, .inl (G 0, 70, .inl (u2 iq))))) : va_W) ++ [])))) A) ([.ref h0, .ref wy, .int x1] : List Value).toArray s 0 0 A) (F0 m 7 ls []) := by
    intro nf
    induction nf with
    | zero => intro j1 h1 h2; exact absurd h1 (by omega)
    | succ nf ih7_3 =>
      intro j1 hn4 hj5 g2 H locs hinv hP hD hS ls hl
      refine lv_iload_n hx hb dX0_plan_7 rfl (lv_at hl 0 rfl) ?_
      refine lv_bipush (v := 70) hx hb dX0_plan_8 rfl ?_
      refine lv_icmp_ge (tgt := 42) hx hb dX0_plan_10 rfl (fun c6 => ?_) (fun c6 => ?_)
      · skip
        have tn2613_ : nIT j1 := fun _ => nI_toInt (by first | omega | (have t := leI c6; omega))
        have n7 : 70 ≤ j1 := by have t := leI c6; rw [show (nI (j1)).toInt = ((j1 : Nat) : Int) from tn2613_ ()] at t; have : (70 : Int32).toInt = 70 := qI_70; omega
        have hR9 : PLR (fun ib gb bb => hmF N B f1 f2 f4 f5 f6 (nI ib) gb (nI bb)) N B x1 N g2 E := PLR.z (by omega) (fun s8 h8 => hinv s8 (by omega))
        refine lv_aload_n hx hb dX0_plan_42 rfl (lv_at hl 2 rfl) ?_
        refine va_getN (D := (dC, dI)) (ci := 9) (v := .int (nI N)) (C := RX9) (T := TX9) (N := 9) hx hb hg inG9 hown hK.1 hP 3 rfl rfl 0 (Nat.le_of_ble_eq_true rfl) (hK.nest wn_59) (fun _ h9 => h9) rfl dX0_plan_43 ?_
        refine lv_iconst (v := 1) hx hb dX0_plan_46 rfl ?_
        refine lv_isub hx hb dX0_plan_47 ?_
        refine lv_istore_n (lv' := [(3, .int ((nI N) - 1)), (0, .ref h0), (1, .ref wy), (2, .int x1)]) hx hb dX0_plan_48 rfl hl (by decide) rfl (fun ls hl => ?_)
        rw [dn_sub] at hl
        have loop49_12 : ∀ (j8 : Nat), j8 ≤ N → ∀ (y9 : Int64) (g10 : Nat → Nat → Int64) (g11 : Nat → Nat → Int32) (H : Heap) (locs : List Loc), (y9 = powF (N - j8) ∧ PLR (fun ib gb bb => hmF N B f1 f2 f4 f5 f6 (nI ib) gb (nI bb)) N B x1 j8 g10 g11) → va_P (dC, dI) vwCl (([(h0, .inr (0, [.long y9, .ref wk, .ref cs])), (wk, .inl (G 5, 11, .inr (.inr (.inr (.inr (fun ir => if ir < 11 then some (rw ir) else none)))))), (cs, .inl (G 4, 10, .inr (.inr (.inr (.inr (fun ir => if ir < 10 then some (rq ir) else none)))))), (wy, .inr (9, [.int (nI N), .int (nI B), .int (nI D), .ref a1, .ref a2, .ref a3, .ref a4, .ref a5, .ref a6])), (a1, .inl (G 0, 10, .inl f1)), (a2, .inl (G 0, 10, .inl f2)), (a4, .inl (G 0, 6, .inl f4)), (a5, .inl (G 0, 6, .inl f5)), (a6, .inl (G 0, 6, .inl f6))] : va_W) ++ ((((List.range 11).map (fun iq => (rw iq, .inl (G 1, 70, .inr (.inl (g10 iq)))))) : va_W) ++ ((((List.range 10).map (fun iq => (rq iq, .inl (G 0, 70, .inl (g11 iq))))) : va_W) ++ []))) H → va_D A (([(h0, .inr (0, [.long y9, .ref wk, .ref cs])), (wk, .inl (G 5, 11, .inr (.inr (.inr (.inr (fun ir => if ir < 11 then some (rw ir) else none)))))), (cs, .inl (G 4, 10, .inr (.inr (.inr (.inr (fun ir => if ir < 10 then some (rq ir) else none)))))), (wy, .inr (9, [.int (nI N), .int (nI B), .int (nI D), .ref a1, .ref a2, .ref a3, .ref a4, .ref a5, .ref a6])), (a1, .inl (G 0, 10, .inl f1)), (a2, .inl (G 0, 10, .inl f2)), (a4, .inl (G 0, 6, .inl f4)), (a5, .inl (G 0, 6, .inl f5)), (a6, .inl (G 0, 6, .inl f6))] : va_W) ++ ((((List.range 11).map (fun iq => (rw iq, .inl (G 1, 70, .inr (.inl (g10 iq)))))) : va_W) ++ ((((List.range 10).map (fun iq => (rq iq, .inl (G 0, 70, .inl (g11 iq))))) : va_W) ++ []))) → va_S A s.heap H locs → ∀ (ls : Array Slot), lv_has ls 5 [(3, .int (dn j8)), (0, .ref h0), (1, .ref wy), (2, .int x1)] → W p l e (headSpec (Cond.code yX0_plan cX0_plan 5 none :: GT) ({ frames := 4, cells := 0, slots := 0, locals := 92 } : Room)).room s m ([.ref h0, .ref wy, .int x1] : List Value).toArray below meth c H locs 0 0 (MQ below (va_Qv (fun (u : Int64 × (Nat → Nat → Int64) × (Nat → Nat → Int32)) => match u with | (u0, u1, u2) => u0 = powF N ∧ PLR (fun ib gb bb => hmF N B f1 f2 f4 f5 f6 (nI ib) gb (nI bb)) N B x1 0 u1 u2) (fun (u : Int64 × (Nat → Nat → Int64) × (Nat → Nat → Int32)) (t : State) => match u with | (u0, u1, u2) => va_P (dC, dI) vwCl (([(h0, .inr (0, [.long u0, .ref wk, .ref cs])), (wk, .inl (G 5, 11, .inr (.inr (.inr (.inr (fun ir => if ir < 11 then some (rw ir) else none)))))), (cs, .inl (G 4, 10, .inr (.inr (.inr (.inr (fun ir => if ir < 10 then some (rq ir) else none)))))), (wy, .inr (9, [.int (nI N), .int (nI B), .int (nI D), .ref a1, .ref a2, .ref a3, .ref a4, .ref a5, .ref a6])), (a1, .inl (G 0, 10, .inl f1)), (a2, .inl (G 0, 10, .inl f2)), (a4, .inl (G 0, 6, .inl f4)), (a5, .inl (G 0, 6, .inl f5)), (a6, .inl (G 0, 6, .inl f6))] : va_W) ++ ((((List.range 11).map (fun iq => (rw iq, .inl (G 1, 70, .inr (.inl (u1 iq)))))) : va_W) ++ ((((List.range 10).map (fun iq => (rq iq, .inl (G 0, 70, .inl (u2 iq))))) : va_W) ++ []))) t.heap ∧ va_D A (([(h0, .inr (0, [.long u0, .ref wk, .ref cs])), (wk, .inl (G 5, 11, .inr (.inr (.inr (.inr (fun ir => if ir < 11 then some (rw ir) else none)))))), (cs, .inl (G 4, 10, .inr (.inr (.inr (.inr (fun ir => if ir < 10 then some (rq ir) else none)))))), (wy, .inr (9, [.int (nI N), .int (nI B), .int (nI D), .ref a1, .ref a2, .ref a3, .ref a4, .ref a5, .ref a6])), (a1, .inl (G 0, 10, .inl f1)), (a2, .inl (G 0, 10, .inl f2)), (a4, .inl (G 0, 6, .inl f4)), (a5, .inl (G 0, 6, .inl f5)), (a6, .inl (G 0, 6, .inl f6))] : va_W) ++ ((((List.range 11).map (fun iq => (rw iq, .inl (G 1, 70, .inr (.inl (u1 iq)))))) : va_W) ++ ((((List.range 10).map (fun iq => (rq iq, .inl (G 0, 70, .inl (u2 iq))))) : va_W) ++ [])))) A) ([.ref h0, .ref wy, .int x1] : List Value).toArray s 0 0 A) (F0 m 49 ls []) := by
          intro j8
          induction j8 with
          | zero =>
            intro hj13 y9 g10 g11 H locs hinv hP hD hS ls hl
            have hl : lv_has ls 5 [(3, .int (-1)), (0, .ref h0), (1, .ref wy), (2, .int x1)] := hl
            refine lv_iload_n hx hb dX0_plan_49 rfl (lv_at hl 0 rfl) ?_
            refine lv_if_lt (tgt := 107) hx hb dX0_plan_50 rfl (fun c14 => ?_) (fun c14 => ?_)
            · skip
              obtain ⟨hP9, hD9⟩ := va_sub2 (ws' := (([(h0, .inr (0, [.long y9, .ref wk, .ref cs])), (wk, .inl (G 5, 11, .inr (.inr (.inr (.inr (fun ir => if ir < 11 then some (rw ir) else none)))))), (cs, .inl (G 4, 10, .inr (.inr (.inr (.inr (fun ir => if ir < 10 then some (rq ir) else none)))))), (wy, .inr (9, [.int (nI N), .int (nI B), .int (nI D), .ref a1, .ref a2, .ref a3, .ref a4, .ref a5, .ref a6])), (a1, .inl (G 0, 10, .inl f1)), (a2, .inl (G 0, 10, .inl f2)), (a4, .inl (G 0, 6, .inl f4)), (a5, .inl (G 0, 6, .inl f5)), (a6, .inl (G 0, 6, .inl f6))] : va_W) ++ ((((List.range 11).map (fun iq => (rw iq, .inl (G 1, 70, .inr (.inl (g10 iq)))))) : va_W) ++ ((((List.range 10).map (fun iq => (rq iq, .inl (G 0, 70, .inl (g11 iq))))) : va_W) ++ [])))) hP hD [0, 1, 2, 3, 4, 5, 6, 7, 8, 9, 10, 11, 12, 13, 14, 15, 16, 17, 18, 19, 20, 21, 22, 23, 24, 25, 26, 27, 28, 29] (by decide +kernel) rfl
              refine W.widen (k := 0) (n := 0) (Nat.le_of_ble_eq_true rfl) (Nat.le_of_ble_eq_true rfl) ?_
              exact W.vret hx hb hr (fun t ht hW => ⟨⟨(y9, g10, g11), rfl, (by have e9 := hinv; rw [Nat.sub_zero] at e9; exact e9), ⟨by rw [ht]; exact hP9, hD9⟩⟩, hS.F ht⟩) hS.2.2 dX0_plan_107
            · skip
              exact absurd c14 (by decide)
          | succ j8 ih49_12 =>
            intro hj13 y9 g10 g11 H locs hinv hP hD hS ls hl
            have hl : lv_has ls 5 [(3, .int (nI j8)), (0, .ref h0), (1, .ref wy), (2, .int x1)] := hl
            refine lv_iload_n hx hb dX0_plan_49 rfl (lv_at hl 0 rfl) ?_
            refine lv_if_lt (tgt := 107) hx hb dX0_plan_50 rfl (fun c15 => ?_) (fun c15 => ?_)
            · skip
              have t_hj5 := hj5
              have t_n7 := n7
              have t_hj13 := hj13
              have t_c15 := ltI c15
              have : (0 : Int32).toInt = 0 := qI_0
              have t_n0 : (nI N).toInt = (N : Int) := tn2610_ ()
              have t_n1 : (nI B).toInt = (B : Int) := tn2611_ ()
              have t_n2 : (nI D).toInt = (D : Int) := tn2612_ ()
              have t_n3 : (nI j1).toInt = (j1 : Int) := tn2613_ ()
              have tn2614_ : nIT j8 := fun _ => nI_toInt (by omega)
              have t_n4 : (nI j8).toInt = (j8 : Int) := tn2614_ ()
              exfalso; omega
            · skip
              have tn2615_ : nIT j8 := fun _ => nI_toInt (by first | omega | (have t := nltI c15; omega))
              have n16 : 0 ≤ j8 := by have t := nltI c15; rw [show (nI (j8)).toInt = ((j8 : Nat) : Int) from tn2615_ ()] at t; have : (0 : Int32).toInt = 0 := qI_0; omega
              refine lv_aload_n hx hb dX0_plan_53 rfl (lv_at hl 1 rfl) ?_
              refine lv_dup hx hb dX0_plan_54 rfl ?_
              refine va_get (D := (dC, dI)) (ci := 0) (v := .long y9) (C := RX0) (T := TX0) (N := 3) hx hb hg inG0 hown hK.1 hP 0 rfl rfl 0 (Nat.le_of_ble_eq_true rfl) (hg _ wt_180) (fun _ h9 => h9) rfl dX0_plan_55 ?_
              refine lv_ldc2 (v := 20) hx hb hown (hg _ wt_661) dX0_plan_58 ?_
              refine lv_lmul hx hb dX0_plan_61 ?_
              refine va_put (D := (dC, dI)) (ci := 0) (v := .long (y9 * 20)) (ty := .long) (C := RX0) (T := TX0) (N := 3) hx hb hg inG0 tyX0 tyX0_ok nmX0 hown hK.1 hP hD hS 0 rfl rfl 0 (Nat.le_of_ble_eq_true rfl) (hg _ wt_180) (fun _ h9 => h9) rfl (by decide +kernel) rfl rfl (Nat.le_of_ble_eq_true rfl) dX0_plan_62 (fun H locs hP hD hS => ?_)
              obtain ⟨hP, hD⟩ := va_rls (ws' := (([(h0, .inr (0, [.long (y9 * 20), .ref wk, .ref cs])), (wk, .inl (G 5, 11, .inr (.inr (.inr (.inr (fun ir => if ir < 11 then some (rw ir) else none)))))), (cs, .inl (G 4, 10, .inr (.inr (.inr (.inr (fun ir => if ir < 10 then some (rq ir) else none)))))), (wy, .inr (9, [.int (nI N), .int (nI B), .int (nI D), .ref a1, .ref a2, .ref a3, .ref a4, .ref a5, .ref a6])), (a1, .inl (G 0, 10, .inl f1)), (a2, .inl (G 0, 10, .inl f2)), (a4, .inl (G 0, 6, .inl f4)), (a5, .inl (G 0, 6, .inl f5)), (a6, .inl (G 0, 6, .inl f6))] : va_W) ++ ((((List.range 11).map (fun iq => (rw iq, .inl (G 1, 70, .inr (.inl (g10 iq)))))) : va_W) ++ ((((List.range 10).map (fun iq => (rq iq, .inl (G 0, 70, .inl (g11 iq))))) : va_W) ++ [])))) hP hD rfl
              refine lv_aload_n hx hb dX0_plan_65 rfl (lv_at hl 1 rfl) ?_
              refine lv_aload_n hx hb dX0_plan_66 rfl (lv_at hl 2 rfl) ?_
              refine lv_iload_n hx hb dX0_plan_67 rfl (lv_at hl 0 rfl) ?_
              refine lv_bipush (v := (-4)) hx hb dX0_plan_68 rfl ?_
              refine lv_iload_n hx hb dX0_plan_70 rfl (lv_at hl 3 rfl) ?_
              obtain ⟨hPc, hDc, hFc⟩ := va_sub3 (ws' := (([(h0, .inr (0, [.long (y9 * 20), .ref wk, .ref cs])), (wk, .inl (G 5, 11, .inr (.inr (.inr (.inr (fun ir => if ir < 11 then some (rw ir) else none)))))), (cs, .inl (G 4, 10, .inr (.inr (.inr (.inr (fun ir => if ir < 10 then some (rq ir) else none)))))), (wy, .inr (9, [.int (nI N), .int (nI B), .int (nI D), .ref a1, .ref a2, .ref a3, .ref a4, .ref a5, .ref a6])), (a1, .inl (G 0, 10, .inl f1)), (a2, .inl (G 0, 10, .inl f2)), (a4, .inl (G 0, 6, .inl f4)), (a5, .inl (G 0, 6, .inl f5)), (a6, .inl (G 0, 6, .inl f6))] : va_W) ++ ((((List.range 11).map (fun iq => (rw iq, .inl (G 1, 70, .inr (.inl (g10 iq)))))) : va_W) ++ ((((List.range 10).map (fun iq => (rq iq, .inl (G 0, 70, .inl (g11 iq))))) : va_W) ++ [])))) hP hD hS hA [0, 1, 2, 3, 4, 5, 6, 7, 8, 9, 10, 11, 12, 13, 14, 15, 16, 17, 18, 19, 20, 21, 22, 23, 24, 25, 26, 27, 28, 29] (by decide +kernel) rfl
              refine va_callv (va_runV (As := [.ref wy, .int (nI j8), .int (-4), .int x1]) (rest := []) ⟨hx, hb, hml, hown, hg⟩ (c_X0_chooseFromE l dC dI G _ h0 wk cs wy a1 a2 a3 a4 a5 a6 N B D j8 (-4) x1 (y9 * 20) f1 f2 f4 f5 f6 rw rq g10 g11 (by have t_hj5 := hj5; have t_n7 := n7; have t_hj13 := hj13; have t_n16 := n16; have tnb_ := nib5 tn2610_ tn2611_ tn2612_ tn2613_ tn2615_; have : ((-4) : Int32).toInt = -4 := qI_m4; omega) hN_N hB_B hD_D (by first | omega | (have t_hj5 := hj5; have t_n7 := n7; have t_hj13 := hj13; have t_n16 := n16; have tnb_ := nib5 tn2610_ tn2611_ tn2612_ tn2613_ tn2615_; have : ((-4) : Int32).toInt = -4 := qI_m4; omega))) (kwV hg mfX0_chooseFrom wt_662 ⟨Nat.le_of_ble_eq_true rfl, Nat.le_of_ble_eq_true rfl⟩) (preVW hK hPc hDc (ci := 0) (r := (RX0, TX0, 3)) rfl rfl) rfl rfl hl.1 rfl (lv_room (Nat.le_of_ble_eq_true rfl)) dX0_plan_71 ⟨Nat.le_of_ble_eq_true rfl, Nat.le_of_ble_eq_true rfl⟩) hS (fun q _ h => hFc q h) hFc (fun ur17 t H1 locs ht hvm w18 hB hz1 hk1 hS => ?_)
              obtain ⟨u19, u20, u21⟩ := ur17
              obtain ⟨hP1, hD1⟩ := hB
              rw [ht] at hP1
              obtain ⟨hP, hD⟩ := va_join (wr := []) (w1 := (([(h0, .inr (0, [.long u19, .ref wk, .ref cs])), (wk, .inl (G 5, 11, .inr (.inr (.inr (.inr (fun ir => if ir < 11 then some (rw ir) else none)))))), (cs, .inl (G 4, 10, .inr (.inr (.inr (.inr (fun ir => if ir < 10 then some (rq ir) else none)))))), (wy, .inr (9, [.int (nI N), .int (nI B), .int (nI D), .ref a1, .ref a2, .ref a3, .ref a4, .ref a5, .ref a6])), (a1, .inl (G 0, 10, .inl f1)), (a2, .inl (G 0, 10, .inl f2)), (a4, .inl (G 0, 6, .inl f4)), (a5, .inl (G 0, 6, .inl f5)), (a6, .inl (G 0, 6, .inl f6))] : va_W) ++ ((((List.range 11).map (fun iq => (rw iq, .inl (G 1, 70, .inr (.inl (u20 iq)))))) : va_W) ++ ((((List.range 10).map (fun iq => (rq iq, .inl (G 0, 70, .inl (u21 iq))))) : va_W) ++ [])))) hP hD [0, 1, 2, 3, 4, 5, 6, 7, 8, 9, 10, 11, 12, 13, 14, 15, 16, 17, 18, 19, 20, 21, 22, 23, 24, 25, 26, 27, 28, 29] [] rfl rfl (by decide +kernel) (by decide +kernel) hk1 hFc hP1 hD1
              have w18 : u19 = (y9 * 20) ∧ CF j8 ((-4) : Int32) (y9 * 20) x1 (fun db bb => mxF (hmF N B f1 f2 f4 f5 f6 (nI j8) ((-4) : Int32) (nI bb)) (g10 (j8 + 1) (slotF (nI bb) (db - 1))) (g10 (j8 + 1) (slotF (nI bb) (min 9 (db + 1))))) B u20 g10 u21 g11 := w18
              generalize H1 = H at hP hS ⊢
              obtain ⟨hP, hD⟩ := va_rls (ws' := (([(h0, .inr (0, [.long u19, .ref wk, .ref cs])), (wk, .inl (G 5, 11, .inr (.inr (.inr (.inr (fun ir => if ir < 11 then some (rw ir) else none)))))), (cs, .inl (G 4, 10, .inr (.inr (.inr (.inr (fun ir => if ir < 10 then some (rq ir) else none)))))), (wy, .inr (9, [.int (nI N), .int (nI B), .int (nI D), .ref a1, .ref a2, .ref a3, .ref a4, .ref a5, .ref a6])), (a1, .inl (G 0, 10, .inl f1)), (a2, .inl (G 0, 10, .inl f2)), (a4, .inl (G 0, 6, .inl f4)), (a5, .inl (G 0, 6, .inl f5)), (a6, .inl (G 0, 6, .inl f6))] : va_W) ++ ((((List.range 11).map (fun iq => (rw iq, .inl (G 1, 70, .inr (.inl (u20 iq)))))) : va_W) ++ ((((List.range 10).map (fun iq => (rq iq, .inl (G 0, 70, .inl (u21 iq))))) : va_W) ++ [])))) hP hD rfl
              have hw9 : u19 = powF (N - j8) := (by rw [w18.1, hinv.1, show N - j8 = (N - (j8 + 1)) + 1 by omega]; rfl)
              refine lv_iconst (v := 0) hx hb dX0_plan_74 rfl ?_
              refine lv_istore (lv' := [(4, .int 0), (3, .int (nI j8)), (0, .ref h0), (1, .ref wy), (2, .int x1)]) hx hb dX0_plan_75 hl (by decide) rfl (fun ls hl => ?_)
              have loop77_26 : ∀ (nf j22 : Nat), B + 1 ≤ j22 + nf → j22 ≤ B → ∀ (y23 : Int64) (g24 : Nat → Nat → Int64) (g25 : Nat → Nat → Int32) (H : Heap) (locs : List Loc), (y23 = powF (N - j8) ∧ PLI (fun ib gb bb => hmF N B f1 f2 f4 f5 f6 (nI ib) gb (nI bb)) N B x1 j8 j22 g24 g25) → va_P (dC, dI) vwCl (([(h0, .inr (0, [.long y23, .ref wk, .ref cs])), (wk, .inl (G 5, 11, .inr (.inr (.inr (.inr (fun ir => if ir < 11 then some (rw ir) else none)))))), (cs, .inl (G 4, 10, .inr (.inr (.inr (.inr (fun ir => if ir < 10 then some (rq ir) else none)))))), (wy, .inr (9, [.int (nI N), .int (nI B), .int (nI D), .ref a1, .ref a2, .ref a3, .ref a4, .ref a5, .ref a6])), (a1, .inl (G 0, 10, .inl f1)), (a2, .inl (G 0, 10, .inl f2)), (a4, .inl (G 0, 6, .inl f4)), (a5, .inl (G 0, 6, .inl f5)), (a6, .inl (G 0, 6, .inl f6))] : va_W) ++ ((((List.range 11).map (fun iq => (rw iq, .inl (G 1, 70, .inr (.inl (g24 iq)))))) : va_W) ++ ((((List.range 10).map (fun iq => (rq iq, .inl (G 0, 70, .inl (g25 iq))))) : va_W) ++ []))) H → va_D A (([(h0, .inr (0, [.long y23, .ref wk, .ref cs])), (wk, .inl (G 5, 11, .inr (.inr (.inr (.inr (fun ir => if ir < 11 then some (rw ir) else none)))))), (cs, .inl (G 4, 10, .inr (.inr (.inr (.inr (fun ir => if ir < 10 then some (rq ir) else none)))))), (wy, .inr (9, [.int (nI N), .int (nI B), .int (nI D), .ref a1, .ref a2, .ref a3, .ref a4, .ref a5, .ref a6])), (a1, .inl (G 0, 10, .inl f1)), (a2, .inl (G 0, 10, .inl f2)), (a4, .inl (G 0, 6, .inl f4)), (a5, .inl (G 0, 6, .inl f5)), (a6, .inl (G 0, 6, .inl f6))] : va_W) ++ ((((List.range 11).map (fun iq => (rw iq, .inl (G 1, 70, .inr (.inl (g24 iq)))))) : va_W) ++ ((((List.range 10).map (fun iq => (rq iq, .inl (G 0, 70, .inl (g25 iq))))) : va_W) ++ []))) → va_S A s.heap H locs → ∀ (ls : Array Slot), lv_has ls 5 [(4, .int (nI j22)), (3, .int (nI j8)), (0, .ref h0), (1, .ref wy), (2, .int x1)] → W p l e (headSpec (Cond.code yX0_plan cX0_plan 5 none :: GT) ({ frames := 4, cells := 0, slots := 0, locals := 92 } : Room)).room s m ([.ref h0, .ref wy, .int x1] : List Value).toArray below meth c H locs 0 0 (MQ below (va_Qv (fun (u : Int64 × (Nat → Nat → Int64) × (Nat → Nat → Int32)) => match u with | (u0, u1, u2) => u0 = powF N ∧ PLR (fun ib gb bb => hmF N B f1 f2 f4 f5 f6 (nI ib) gb (nI bb)) N B x1 0 u1 u2) (fun (u : Int64 × (Nat → Nat → Int64) × (Nat → Nat → Int32)) (t : State) => match u with | (u0, u1, u2) => va_P (dC, dI) vwCl (([(h0, .inr (0, [.long u0, .ref wk, .ref cs])), (wk, .inl (G 5, 11, .inr (.inr (.inr (.inr (fun ir => if ir < 11 then some (rw ir) else none)))))), (cs, .inl (G 4, 10, .inr (.inr (.inr (.inr (fun ir => if ir < 10 then some (rq ir) else none)))))), (wy, .inr (9, [.int (nI N), .int (nI B), .int (nI D), .ref a1, .ref a2, .ref a3, .ref a4, .ref a5, .ref a6])), (a1, .inl (G 0, 10, .inl f1)), (a2, .inl (G 0, 10, .inl f2)), (a4, .inl (G 0, 6, .inl f4)), (a5, .inl (G 0, 6, .inl f5)), (a6, .inl (G 0, 6, .inl f6))] : va_W) ++ ((((List.range 11).map (fun iq => (rw iq, .inl (G 1, 70, .inr (.inl (u1 iq)))))) : va_W) ++ ((((List.range 10).map (fun iq => (rq iq, .inl (G 0, 70, .inl (u2 iq))))) : va_W) ++ []))) t.heap ∧ va_D A (([(h0, .inr (0, [.long u0, .ref wk, .ref cs])), (wk, .inl (G 5, 11, .inr (.inr (.inr (.inr (fun ir => if ir < 11 then some (rw ir) else none)))))), (cs, .inl (G 4, 10, .inr (.inr (.inr (.inr (fun ir => if ir < 10 then some (rq ir) else none)))))), (wy, .inr (9, [.int (nI N), .int (nI B), .int (nI D), .ref a1, .ref a2, .ref a3, .ref a4, .ref a5, .ref a6])), (a1, .inl (G 0, 10, .inl f1)), (a2, .inl (G 0, 10, .inl f2)), (a4, .inl (G 0, 6, .inl f4)), (a5, .inl (G 0, 6, .inl f5)), (a6, .inl (G 0, 6, .inl f6))] : va_W) ++ ((((List.range 11).map (fun iq => (rw iq, .inl (G 1, 70, .inr (.inl (u1 iq)))))) : va_W) ++ ((((List.range 10).map (fun iq => (rq iq, .inl (G 0, 70, .inl (u2 iq))))) : va_W) ++ [])))) A) ([.ref h0, .ref wy, .int x1] : List Value).toArray s 0 0 A) (F0 m 77 ls []) := by
                intro nf
                induction nf with
                | zero => intro j22 h1 h2; exact absurd h1 (by omega)
                | succ nf ih77_26 =>
                  intro j22 hn27 hj28 y23 g24 g25 H locs hinv hP hD hS ls hl
                  refine lv_iload hx hb dX0_plan_77 (lv_at hl 0 rfl) ?_
                  refine lv_aload_n hx hb dX0_plan_79 rfl (lv_at hl 3 rfl) ?_
                  refine va_getN (D := (dC, dI)) (ci := 9) (v := .int (nI B)) (C := RX9) (T := TX9) (N := 9) hx hb hg inG9 hown hK.1 hP 3 rfl rfl 1 (Nat.le_of_ble_eq_true rfl) (hK.nest wn_63) (fun _ h9 => h9) rfl dX0_plan_80 ?_
                  refine lv_icmp_ge (tgt := 101) hx hb dX0_plan_83 rfl (fun c29 => ?_) (fun c29 => ?_)
                  · skip
                    have tn2616_ : nIT j22 := fun _ => nI_toInt (by first | omega | (have t := leI c29; omega))
                    have n30 : B ≤ j22 := by have t := leI c29; rw [show (nI (j22)).toInt = ((j22 : Nat) : Int) from tn2616_ ()] at t; rw [show (nI (B)).toInt = ((B : Nat) : Int) from tn2611_ ()] at t; omega
                    refine lv_iinc (v := dn j8) (lv' := [(3, .int (dn j8)), (4, .int (nI j22)), (0, .ref h0), (1, .ref wy), (2, .int x1)]) hx hb dX0_plan_101 hl (k := 1) rfl (by exact dn_pred _) (by decide) rfl (fun ls hl => ?_)
                    refine lv_goto (tgt := 49) hx hb dX0_plan_104 rfl ?_
                    exact ih49_12 (by omega) y23 g24 g25 _ _ ⟨hinv.1, PLI.o (by have e9 := hinv.2; rw [show j22 = B by omega] at e9; exact e9)⟩ hP hD hS ls (lv_sub hl [0, 2, 3, 4] rfl)
                  · skip
                    have tn2617_ : nIT j22 := fun _ => nI_toInt (by first | omega | (have t := nleI c29; omega))
                    have n31 : j22 < B := by have t := nleI c29; rw [show (nI (j22)).toInt = ((j22 : Nat) : Int) from tn2617_ ()] at t; rw [show (nI (B)).toInt = ((B : Nat) : Int) from tn2611_ ()] at t; omega
                    refine lv_aload_n hx hb dX0_plan_86 rfl (lv_at hl 2 rfl) ?_
                    refine lv_aload_n hx hb dX0_plan_87 rfl (lv_at hl 3 rfl) ?_
                    refine lv_iload_n hx hb dX0_plan_88 rfl (lv_at hl 1 rfl) ?_
                    refine lv_iload hx hb dX0_plan_89 (lv_at hl 0 rfl) ?_
                    refine lv_iload_n hx hb dX0_plan_91 rfl (lv_at hl 4 rfl) ?_
                    obtain ⟨hPc, hDc, hFc⟩ := va_sub3 (ws' := (([(h0, .inr (0, [.long y23, .ref wk, .ref cs])), (wk, .inl (G 5, 11, .inr (.inr (.inr (.inr (fun ir => if ir < 11 then some (rw ir) else none)))))), (cs, .inl (G 4, 10, .inr (.inr (.inr (.inr (fun ir => if ir < 10 then some (rq ir) else none)))))), (wy, .inr (9, [.int (nI N), .int (nI B), .int (nI D), .ref a1, .ref a2, .ref a3, .ref a4, .ref a5, .ref a6])), (a1, .inl (G 0, 10, .inl f1)), (a2, .inl (G 0, 10, .inl f2)), (a4, .inl (G 0, 6, .inl f4)), (a5, .inl (G 0, 6, .inl f5)), (a6, .inl (G 0, 6, .inl f6))] : va_W) ++ ((((List.range 11).map (fun iq => (rw iq, .inl (G 1, 70, .inr (.inl (g24 iq)))))) : va_W) ++ ((((List.range 10).map (fun iq => (rq iq, .inl (G 0, 70, .inl (g25 iq))))) : va_W) ++ [])))) hP hD hS hA [0, 1, 2, 3, 4, 5, 6, 7, 8, 9, 10, 11, 12, 13, 14, 15, 16, 17, 18, 19, 20, 21, 22, 23, 24, 25, 26, 27, 28, 29] (by decide +kernel) rfl
                    refine va_callv (va_runV (As := [.ref wy, .int (nI j8), .int (nI j22), .int x1]) (rest := []) ⟨hx, hb, hml, hown, hg⟩ (c_X0_chooseFromE l dC dI G _ h0 wk cs wy a1 a2 a3 a4 a5 a6 N B D j8 (nI j22) x1 y23 f1 f2 f4 f5 f6 rw rq g24 g25 (by have t_hj5 := hj5; have t_n7 := n7; have t_hj13 := hj13; have t_n16 := n16; have t_hj28 := hj28; have t_n31 := n31; have tnb_ := nib6 tn2610_ tn2611_ tn2612_ tn2613_ tn2615_ tn2617_; omega) hN_N hB_B hD_D (by first | omega | (have t_hj5 := hj5; have t_n7 := n7; have t_hj13 := hj13; have t_n16 := n16; have t_hj28 := hj28; have t_n31 := n31; have tnb_ := nib6 tn2610_ tn2611_ tn2612_ tn2613_ tn2615_ tn2617_; omega))) (kwV hg mfX0_chooseFrom wt_662 ⟨Nat.le_of_ble_eq_true rfl, Nat.le_of_ble_eq_true rfl⟩) (preVW hK hPc hDc (ci := 0) (r := (RX0, TX0, 3)) rfl rfl) rfl rfl hl.1 rfl (lv_room (Nat.le_of_ble_eq_true rfl)) dX0_plan_92 ⟨Nat.le_of_ble_eq_true rfl, Nat.le_of_ble_eq_true rfl⟩) hS (fun q _ h => hFc q h) hFc (fun ur32 t H1 locs ht hvm w33 hB hz1 hk1 hS => ?_)
                    obtain ⟨u34, u35, u36⟩ := ur32
                    obtain ⟨hP1, hD1⟩ := hB
                    rw [ht] at hP1
                    obtain ⟨hP, hD⟩ := va_join (wr := []) (w1 := (([(h0, .inr (0, [.long u34, .ref wk, .ref cs])), (wk, .inl (G 5, 11, .inr (.inr (.inr (.inr (fun ir => if ir < 11 then some (rw ir) else none)))))), (cs, .inl (G 4, 10, .inr (.inr (.inr (.inr (fun ir => if ir < 10 then some (rq ir) else none)))))), (wy, .inr (9, [.int (nI N), .int (nI B), .int (nI D), .ref a1, .ref a2, .ref a3, .ref a4, .ref a5, .ref a6])), (a1, .inl (G 0, 10, .inl f1)), (a2, .inl (G 0, 10, .inl f2)), (a4, .inl (G 0, 6, .inl f4)), (a5, .inl (G 0, 6, .inl f5)), (a6, .inl (G 0, 6, .inl f6))] : va_W) ++ ((((List.range 11).map (fun iq => (rw iq, .inl (G 1, 70, .inr (.inl (u35 iq)))))) : va_W) ++ ((((List.range 10).map (fun iq => (rq iq, .inl (G 0, 70, .inl (u36 iq))))) : va_W) ++ [])))) hP hD [0, 1, 2, 3, 4, 5, 6, 7, 8, 9, 10, 11, 12, 13, 14, 15, 16, 17, 18, 19, 20, 21, 22, 23, 24, 25, 26, 27, 28, 29] [] rfl rfl (by decide +kernel) (by decide +kernel) hk1 hFc hP1 hD1
                    have w33 : u34 = y23 ∧ CF j8 (nI j22) y23 x1 (fun db bb => mxF (hmF N B f1 f2 f4 f5 f6 (nI j8) (nI j22) (nI bb)) (g24 (j8 + 1) (slotF (nI bb) (db - 1))) (g24 (j8 + 1) (slotF (nI bb) (min 9 (db + 1))))) B u35 g24 u36 g25 := w33
                    generalize H1 = H at hP hS ⊢
                    obtain ⟨hP, hD⟩ := va_rls (ws' := (([(h0, .inr (0, [.long u34, .ref wk, .ref cs])), (wk, .inl (G 5, 11, .inr (.inr (.inr (.inr (fun ir => if ir < 11 then some (rw ir) else none)))))), (cs, .inl (G 4, 10, .inr (.inr (.inr (.inr (fun ir => if ir < 10 then some (rq ir) else none)))))), (wy, .inr (9, [.int (nI N), .int (nI B), .int (nI D), .ref a1, .ref a2, .ref a3, .ref a4, .ref a5, .ref a6])), (a1, .inl (G 0, 10, .inl f1)), (a2, .inl (G 0, 10, .inl f2)), (a4, .inl (G 0, 6, .inl f4)), (a5, .inl (G 0, 6, .inl f5)), (a6, .inl (G 0, 6, .inl f6))] : va_W) ++ ((((List.range 11).map (fun iq => (rw iq, .inl (G 1, 70, .inr (.inl (u35 iq)))))) : va_W) ++ ((((List.range 10).map (fun iq => (rq iq, .inl (G 0, 70, .inl (u36 iq))))) : va_W) ++ [])))) hP hD rfl
                    refine lv_iinc (v := nI (j22 + 1)) (lv' := [(4, .int (nI (j22 + 1))), (3, .int (nI j8)), (0, .ref h0), (1, .ref wy), (2, .int x1)]) hx hb dX0_plan_95 hl (k := 0) rfl (by rw [show Int32.ofInt 1 = nI 1 from by decide]; exact nI_add _ _) (by decide) rfl (fun ls hl => ?_)
                    refine lv_goto (tgt := 77) hx hb dX0_plan_98 rfl ?_
                    exact ih77_26 (j22 + 1) (by omega) (by omega) u34 u35 u36 _ _ ⟨(by rw [w33.1]; exact hinv.1), PLI.a (H := (fun ib gb bb => hmF N B f1 f2 f4 f5 f6 (nI ib) gb (nI bb))) (by omega) (by omega) (by omega) hinv.2 hinv.1 (fun d8 b8 h8 h7 h6 => rfl) w33.2⟩ hP hD hS ls (lv_sub hl [0, 1, 2, 3, 4] rfl)
              exact loop77_26 (B + 1) 0 (by omega) (by omega) u19 u20 u21 _ _ ⟨hw9, PLI.n (H := (fun ib gb bb => hmF N B f1 f2 f4 f5 f6 (nI ib) gb (nI bb))) (by omega) hinv.2 (by rw [hinv.1, show N - j8 = (N - (j8 + 1)) + 1 by omega]; rfl) (fun d8 b8 h8 h7 h6 => rfl) w18.2⟩ hP hD hS ls (lv_sub hl [0, 1, 2, 3, 4] rfl)
        exact loop49_12 N (Nat.le_refl _) 1 g2 E _ _ ⟨(by rw [Nat.sub_self]; rfl), hR9⟩ hP hD hS ls (lv_sub hl [0, 1, 2, 3] rfl)
      · skip
        have tn2618_ : nIT j1 := fun _ => nI_toInt (by first | omega | (have t := nleI c6; omega))
        have n37 : j1 < 70 := by have t := nleI c6; rw [show (nI (j1)).toInt = ((j1 : Nat) : Int) from tn2618_ ()] at t; have : (70 : Int32).toInt = 70 := qI_70; omega
        refine lv_aload_n hx hb dX0_plan_13 rfl (lv_at hl 1 rfl) ?_
        refine va_get (D := (dC, dI)) (ci := 0) (v := .ref wk) (C := RX0) (T := TX0) (N := 3) hx hb hg inG0 hown hK.1 hP 0 rfl rfl 1 (Nat.le_of_ble_eq_true rfl) (hg _ wt_182) (fun _ h9 => h9) rfl dX0_plan_14 ?_
        refine lv_aload_n hx hb dX0_plan_17 rfl (lv_at hl 2 rfl) ?_
        refine va_getN (D := (dC, dI)) (ci := 9) (v := .int (nI N)) (C := RX9) (T := TX9) (N := 9) hx hb hg inG9 hown hK.1 hP 3 rfl rfl 0 (Nat.le_of_ble_eq_true rfl) (hK.nest wn_59) (fun _ h9 => h9) rfl dX0_plan_18 ?_
        refine va_aldA hx hb hK.1 hP 1 5 rfl rfl (vp_in_nI (by first | omega | (have t_hj5 := hj5; have t_n37 := n37; have tnb_ := nib4 tn2610_ tn2611_ tn2612_ tn2618_; omega)) (by decide)) dX0_plan_21 ?_
        refine lv_cgv (y := .ref (rw N)) (rowref (by first | omega | (have t_hj5 := hj5; have t_n37 := n37; have tnb_ := nib4 tn2610_ tn2611_ tn2612_ tn2618_; omega)) (by decide)) ?_
        refine lv_iload_n hx hb dX0_plan_22 rfl (lv_at hl 0 rfl) ?_
        refine lv_iload_n hx hb dX0_plan_23 rfl (lv_at hl 0 rfl) ?_
        refine lv_bipush (v := 10) hx hb dX0_plan_24 rfl ?_
        refine lv_irem hx hb dX0_plan_26 (by decide) ?_
        refine lv_cg (y := nI (j1 % 10)) (by rw [show (10 : Int32) = nI 10 from rfl]; exact pk_rem (by omega) (by omega) (by omega)) ?_
        refine lv_if_ne (tgt := 34) hx hb dX0_plan_27 rfl (fun c38 => ?_) (fun c38 => ?_)
        · skip
          have tn2619_ : nIT (j1 % 10) := fun _ => nI_toInt (by first | omega | (have t := neI c38; omega))
          have n39 : (j1 % 10) ≠ 0 := by have t := neI c38; rw [show (nI (j1 % 10)).toInt = ((j1 % 10 : Nat) : Int) from tn2619_ ()] at t; have : (0 : Int32).toInt = 0 := qI_0; omega
          refine lv_lconst (v := 0) hx hb dX0_plan_34 (by decide) ?_
          refine va_lastB (j := N) hx hb hK.1 hP hD hS 1 (by first | omega | (have t_hj5 := hj5; have t_n37 := n37; have t_n39 := n39; have tnb_ := nib4 tn2610_ tn2611_ tn2612_ tn2618_; omega)) rfl (vp_in_nI (by first | omega | (have t_hj5 := hj5; have t_n37 := n37; have t_n39 := n39; have tnb_ := nib4 tn2610_ tn2611_ tn2612_ tn2618_; omega)) (by decide)) dX0_plan_35 (fun H locs hP hD hS => ?_)
          rw [nI_clamp (by first | omega | (have t_hj5 := hj5; have t_n37 := n37; have t_n39 := n39; have tnb_ := nib4 tn2610_ tn2611_ tn2612_ tn2618_; omega))] at hP hD
          obtain ⟨hP, hD⟩ := va_rls (ws' := (([(h0, .inr (0, [.long 1, .ref wk, .ref cs])), (wk, .inl (G 5, 11, .inr (.inr (.inr (.inr (fun ir => if ir < 11 then some (rw ir) else none)))))), (cs, .inl (G 4, 10, .inr (.inr (.inr (.inr (fun ir => if ir < 10 then some (rq ir) else none)))))), (wy, .inr (9, [.int (nI N), .int (nI B), .int (nI D), .ref a1, .ref a2, .ref a3, .ref a4, .ref a5, .ref a6])), (a1, .inl (G 0, 10, .inl f1)), (a2, .inl (G 0, 10, .inl f2)), (a4, .inl (G 0, 6, .inl f4)), (a5, .inl (G 0, 6, .inl f5)), (a6, .inl (G 0, 6, .inl f6))] : va_W) ++ ((((List.range 11).map (fun iq => (rw iq, .inl (G 1, 70, .inr (.inl ((va_up g2 N (vp_updL (g2 N) j1 0)) iq)))))) : va_W) ++ ((((List.range 10).map (fun iq => (rq iq, .inl (G 0, 70, .inl (E iq))))) : va_W) ++ [])))) hP hD rfl
          refine lv_iinc (v := nI (j1 + 1)) (lv' := [(3, .int (nI (j1 + 1))), (0, .ref h0), (1, .ref wy), (2, .int x1)]) hx hb dX0_plan_36 hl (k := 0) rfl (by rw [show Int32.ofInt 1 = nI 1 from by decide]; exact nI_add _ _) (by decide) rfl (fun ls hl => ?_)
          refine lv_goto (tgt := 7) hx hb dX0_plan_39 rfl ?_
          exact ih7_3 (j1 + 1) (by omega) (by omega) (va_up g2 N (vp_updL (g2 N) j1 0)) _ _ (pl7 hinv (by first | exact (if_pos (by omega)).symm | exact (if_neg (by omega)).symm)) hP hD hS ls (lv_sub hl [0, 1, 2, 3] rfl)
        · skip
          have tn2620_ : nIT (j1 % 10) := fun _ => nI_toInt (by first | omega | (have t := eqI c38; omega))
          have n40 : (j1 % 10) = 0 := by have t := eqI c38; rw [show (nI (j1 % 10)).toInt = ((j1 % 10 : Nat) : Int) from tn2620_ ()] at t; have : (0 : Int32).toInt = 0 := qI_0; omega
          refine lv_lconst (v := 1) hx hb dX0_plan_30 (by decide) ?_
          refine lv_goto (tgt := 35) hx hb dX0_plan_31 rfl ?_
          refine va_lastB (j := N) hx hb hK.1 hP hD hS 1 (by first | omega | (have t_hj5 := hj5; have t_n37 := n37; have t_n40 := n40; have tnb_ := nib4 tn2610_ tn2611_ tn2612_ tn2618_; omega)) rfl (vp_in_nI (by first | omega | (have t_hj5 := hj5; have t_n37 := n37; have t_n40 := n40; have tnb_ := nib4 tn2610_ tn2611_ tn2612_ tn2618_; omega)) (by decide)) dX0_plan_35 (fun H locs hP hD hS => ?_)
          rw [nI_clamp (by first | omega | (have t_hj5 := hj5; have t_n37 := n37; have t_n40 := n40; have tnb_ := nib4 tn2610_ tn2611_ tn2612_ tn2618_; omega))] at hP hD
          obtain ⟨hP, hD⟩ := va_rls (ws' := (([(h0, .inr (0, [.long 1, .ref wk, .ref cs])), (wk, .inl (G 5, 11, .inr (.inr (.inr (.inr (fun ir => if ir < 11 then some (rw ir) else none)))))), (cs, .inl (G 4, 10, .inr (.inr (.inr (.inr (fun ir => if ir < 10 then some (rq ir) else none)))))), (wy, .inr (9, [.int (nI N), .int (nI B), .int (nI D), .ref a1, .ref a2, .ref a3, .ref a4, .ref a5, .ref a6])), (a1, .inl (G 0, 10, .inl f1)), (a2, .inl (G 0, 10, .inl f2)), (a4, .inl (G 0, 6, .inl f4)), (a5, .inl (G 0, 6, .inl f5)), (a6, .inl (G 0, 6, .inl f6))] : va_W) ++ ((((List.range 11).map (fun iq => (rw iq, .inl (G 1, 70, .inr (.inl ((va_up g2 N (vp_updL (g2 N) j1 1)) iq)))))) : va_W) ++ ((((List.range 10).map (fun iq => (rq iq, .inl (G 0, 70, .inl (E iq))))) : va_W) ++ [])))) hP hD rfl
          refine lv_iinc (v := nI (j1 + 1)) (lv' := [(3, .int (nI (j1 + 1))), (0, .ref h0), (1, .ref wy), (2, .int x1)]) hx hb dX0_plan_36 hl (k := 0) rfl (by rw [show Int32.ofInt 1 = nI 1 from by decide]; exact nI_add _ _) (by decide) rfl (fun ls hl => ?_)
          refine lv_goto (tgt := 7) hx hb dX0_plan_39 rfl ?_
          exact ih7_3 (j1 + 1) (by omega) (by omega) (va_up g2 N (vp_updL (g2 N) j1 1)) _ _ (pl7 hinv (by first | exact (if_pos (by omega)).symm | exact (if_neg (by omega)).symm)) hP hD hS ls (lv_sub hl [0, 1, 2, 3] rfl)
  exact loop7_3 (70 + 1) 0 (by omega) (by omega) F _ _ (fun s8 h8 => absurd h8 (Nat.not_lt_zero _)) hP hD hS ls (lv_sub hl [0, 1, 2, 3] rfl)

set_option maxHeartbeats 1000000 in
set_option maxRecDepth 100000 in
theorem c_X0_wakingAtFirstE (l : Launch) (dC : Nat → ClassId) (dI : Nat → Nat → Nat) (G : Nat → ClassId) (sz : Nat) (h0 wk cs wy a1 a2 a3 a4 a5 a6 N B D : Nat) (w0 : Int64) (rw rq : Nat → Nat) (F : Nat → Nat → Int64) (E : Nat → Nat → Int32) (hN_N : N ≤ 10) (hB_B : B ≤ 6) (hD_D : 1 ≤ D ∧ D ≤ 9) : Met l yX0_wakingAtFirst (Cond.code yX0_wakingAtFirst cX0_wakingAtFirst 2 (some .long) :: GT) ({ frames := 1, cells := 0, slots := 0, locals := 21 } : Room) (PcR [.ref h0, .ref wy] dC dI G (([(h0, .inr (0, [.long w0, .ref wk, .ref cs])), (wk, .inl (G 5, 11, .inr (.inr (.inr (.inr (fun ir => if ir < 11 then some (rw ir) else none)))))), (cs, .inl (G 4, 10, .inr (.inr (.inr (.inr (fun ir => if ir < 10 then some (rq ir) else none)))))), (wy, .inr (9, [.int (nI N), .int (nI B), .int (nI D), .ref a1, .ref a2, .ref a3, .ref a4, .ref a5, .ref a6]))] : va_W) ++ ((((List.range 11).map (fun iq => (rw iq, .inl (G 1, 70, .inr (.inl (F iq)))))) : va_W) ++ ((((List.range 10).map (fun iq => (rq iq, .inl (G 0, 70, .inl (E iq))))) : va_W) ++ []))) sz) (va_Ql (fun (r : Int64) (u : Unit) => match u with | _ => (r = F 0 (slotF (-4) D)) ∧ True) (fun _ _ => True) (fun q : Nat => sz ≤ q)) 0 0 (fun q : Nat => sz ≤ q) := by
  have tn2621_ : nIT N := fun _ => nI_toInt (by omega)
  have tn2622_ : nIT B := fun _ => nI_toInt (by omega)
  have tn2623_ : nIT D := fun _ => nI_toInt (by omega)
  refine Met.ofW (cc := cX0_wakingAtFirst) (maxL := 2) (ret := (some .long)) (by decide) rfl ?_
  intro p e s m args below meth c s₁ Bd hml hv
  obtain ⟨rfl, hsz, hP, hK⟩ := hv
  have hx := Bd.exec
  have hb := Bd.bytes
  have hr := Bd.returns
  have hg : ∀ w ∈ GT, w.before ([.ref h0, .ref wy] : List Value).toArray s = true := fun w h => atoms_spec (ws := Cond.code yX0_wakingAtFirst cX0_wakingAtFirst 2 (some .long) :: GT) Bd.pre w (List.mem_cons_of_mem _ h)
  have hown : s.vm.findClass RX0 = some m.cls := findClass_of_methodNamed Bd.named
  have hlocks := Bd.notSynchronized
  subst hsz
  have hA : ∀ q : Nat, s.heap.size ≤ q → (fun q : Nat => s.heap.size ≤ q) q := fun _ h => h
  have hS : va_S (fun q : Nat => s.heap.size ≤ q) s.heap s.heap [] := va_S.rf
  have hl := lv_entry ([.ref h0, .ref wy]) (n := 2) (Nat.le_of_ble_eq_true rfl)
  rw [lg_entry_eq]
  generalize (lg_sl ([.ref h0, .ref wy]) ++ List.replicate (2 - (lg_sl ([.ref h0, .ref wy])).length) Slot.unset).toArray = ls at hl ⊢
  have hl : lv_has ls 2 [(0, .ref h0), (1, .ref wy)] := hl
  refine lv_aload_n hx hb dX0_wakingAtFirst_0 rfl (lv_at hl 0 rfl) ?_
  refine va_get (D := (dC, dI)) (ci := 0) (v := .ref wk) (C := RX0) (T := TX0) (N := 3) hx hb hg inG0 hown hK.1 hP 0 rfl rfl 1 (Nat.le_of_ble_eq_true rfl) (hg _ wt_182) (fun _ h9 => h9) rfl dX0_wakingAtFirst_1 ?_
  refine lv_iconst (v := 0) hx hb dX0_wakingAtFirst_4 rfl ?_
  refine va_aldA hx hb hK.1 hP 1 5 rfl rfl (vp_in_iff.mpr ⟨by decide, by decide⟩) dX0_wakingAtFirst_5 ?_
  refine lv_cgv (y := .ref (rw 0)) (by rfl) ?_
  refine lv_bipush (v := (-4)) hx hb dX0_wakingAtFirst_6 rfl ?_
  refine lv_aload_n hx hb dX0_wakingAtFirst_8 rfl (lv_at hl 1 rfl) ?_
  refine va_getN (D := (dC, dI)) (ci := 9) (v := .int (nI D)) (C := RX9) (T := TX9) (N := 9) hx hb hg inG9 hown hK.1 hP 3 rfl rfl 2 (Nat.le_of_ble_eq_true rfl) (hK.nest wn_70) (fun _ h9 => h9) rfl dX0_wakingAtFirst_9 ?_
  have hPc := hP.sub (ws' := []) [] rfl
  refine va_calli (va_runS (As := [.int (-4), .int (nI D)]) (rest := [.ref (rw 0)]) ⟨hx, hb, hml, hown, hg⟩ (c_X0_slot l dC dI G _ D (-4) (by have tnb_ := nib3 tn2621_ tn2622_ tn2623_; have : ((-4) : Int32).toInt = -4 := qI_m4; omega) (by first | omega | (have tnb_ := nib3 tn2621_ tn2622_ tn2623_; have : ((-4) : Int32).toInt = -4 := qI_m4; omega))) (kwS hg mfX0_slot wt_666 ⟨Nat.le_of_ble_eq_true rfl, Nat.le_of_ble_eq_true rfl⟩) (preSR hK hPc) rfl rfl hl.1 rfl (lv_room (Nat.le_of_ble_eq_true rfl)) dX0_wakingAtFirst_12 ⟨Nat.le_of_ble_eq_true rfl, Nat.le_of_ble_eq_true rfl⟩) hS (fun q h1 h2 => absurd h2 (Nat.not_le.mpr h1)) (fun q h => hA q (Nat.le_trans hS.1 h)) (fun r1 ur1 t H1 locs ht hvm w2 hB hz1 hk1 hS => ?_)
  have hP := keepR hP hk1
  obtain ⟨w2, w2x⟩ := w2
  have hs3 : slotF (-4) D < 70 := slotF_lt (by have tnb_ := nib3 tn2621_ tn2622_ tn2623_; have : ((-4) : Int32).toInt = -4 := qI_m4; omega) (by have tnb_ := nib3 tn2621_ tn2622_ tn2623_; omega)
  subst w2
  refine va_lald hx hb hK.1 (blk_P (j := 0) hP (by first | omega | (have t_hs3 := hs3; have tnb_ := nib3 tn2621_ tn2622_ tn2623_; omega))) 0 1 rfl rfl (vp_in_nI (by first | omega | (have t_hs3 := hs3; have tnb_ := nib3 tn2621_ tn2622_ tn2623_; omega)) (by decide)) dX0_wakingAtFirst_15 ?_
  refine lv_cgl (y := F 0 (slotF (-4) D)) (by rw [nI_clamp (by first | omega | (have t_hs3 := hs3; have tnb_ := nib3 tn2621_ tn2622_ tn2623_; omega))]) ?_
  have hpost : (F 0 (slotF (-4) D) : Int64) = F 0 (slotF (-4) D) := by
    rfl
  refine W.widen (k := 0) (n := 0) (Nat.le_of_ble_eq_true rfl) (Nat.le_of_ble_eq_true rfl) ?_
  exact W.lret (v := F 0 (slotF (-4) D)) hx hb hr (fun t ht hW => ⟨⟨F 0 (slotF (-4) D), (), rfl, ⟨hpost, trivial⟩, trivial⟩, hS.F ht⟩) hS.2.2 dX0_wakingAtFirst_16

set_option maxHeartbeats 1000000 in
set_option maxRecDepth 100000 in
theorem c_X10_withoutE (l : Launch) (dC : Nat → ClassId) (dI : Nat → Nat → Nat) (G : Nat → ClassId) (sz : Nat) (h0 rd wy tr im kp od ch cr le mk tl sh wk cs a1 a2 a3 a4 a5 a6 N B D : Nat) (tf rf i what : Int32) (w0 : Int64) (f1 f2 f4 f5 f6 : Nat → Int32) (rw rq : Nat → Nat) (F : Nat → Nat → Int64) (E : Nat → Nat → Int32) (hN_N : N ≤ 10) (hB_B : B ≤ 6) (hD_D : 1 ≤ D ∧ D ≤ 9) : Met l yX10_without (Cond.code yX10_without cX10_without 3 (some .long) :: GT) ({ frames := 5, cells := 0, slots := 0, locals := 116 } : Room) (PcW [.ref h0, .int i, .int what] dC dI G (([(h0, .inr (10, [.ref rd, .ref wy, .ref tr, .ref im, .ref kp, .ref od, .ref ch, .ref cr, .ref le, .ref mk, .ref tl, .ref sh, .int tf, .int rf])), (ch, .inr (0, [.long w0, .ref wk, .ref cs])), (wk, .inl (G 5, 11, .inr (.inr (.inr (.inr (fun ir => if ir < 11 then some (rw ir) else none)))))), (cs, .inl (G 4, 10, .inr (.inr (.inr (.inr (fun ir => if ir < 10 then some (rq ir) else none)))))), (wy, .inr (9, [.int (nI N), .int (nI B), .int (nI D), .ref a1, .ref a2, .ref a3, .ref a4, .ref a5, .ref a6])), (a1, .inl (G 0, 10, .inl f1)), (a2, .inl (G 0, 10, .inl f2)), (a4, .inl (G 0, 6, .inl f4)), (a5, .inl (G 0, 6, .inl f5)), (a6, .inl (G 0, 6, .inl f6))] : va_W) ++ ((((List.range 11).map (fun iq => (rw iq, .inl (G 1, 70, .inr (.inl (F iq)))))) : va_W) ++ ((((List.range 10).map (fun iq => (rq iq, .inl (G 0, 70, .inl (E iq))))) : va_W) ++ []))) sz) (va_Ql (fun (r : Int64) (u : Int64 × (Nat → Nat → Int64) × (Nat → Nat → Int32)) => match u with | (u0, u1, u2) => (r = if ((0 ≤ i.toInt ∧ i.toInt < ((B : Nat) : Int)) ∧ (0 ≤ what.toInt ∧ what.toInt ≤ 1)) then (if B < 2 then -2 else frF (bwV (fun ib gb bb => hmF N B f1 f2 f4 f5 f6 (nI ib) gb (nI bb)) N B i N (-4) D) (powF N) what) else -1) ∧ True) (fun (u : Int64 × (Nat → Nat → Int64) × (Nat → Nat → Int32)) (t : State) => match u with | (u0, u1, u2) => va_P (dC, dI) vwCl (([(h0, .inr (10, [.ref rd, .ref wy, .ref tr, .ref im, .ref kp, .ref od, .ref ch, .ref cr, .ref le, .ref mk, .ref tl, .ref sh, .int tf, .int rf])), (ch, .inr (0, [.long u0, .ref wk, .ref cs])), (wk, .inl (G 5, 11, .inr (.inr (.inr (.inr (fun ir => if ir < 11 then some (rw ir) else none)))))), (cs, .inl (G 4, 10, .inr (.inr (.inr (.inr (fun ir => if ir < 10 then some (rq ir) else none)))))), (wy, .inr (9, [.int (nI N), .int (nI B), .int (nI D), .ref a1, .ref a2, .ref a3, .ref a4, .ref a5, .ref a6])), (a1, .inl (G 0, 10, .inl f1)), (a2, .inl (G 0, 10, .inl f2)), (a4, .inl (G 0, 6, .inl f4)), (a5, .inl (G 0, 6, .inl f5)), (a6, .inl (G 0, 6, .inl f6))] : va_W) ++ ((((List.range 11).map (fun iq => (rw iq, .inl (G 1, 70, .inr (.inl (u1 iq)))))) : va_W) ++ ((((List.range 10).map (fun iq => (rq iq, .inl (G 0, 70, .inl (u2 iq))))) : va_W) ++ []))) t.heap ∧ va_D (va_A (([(h0, .inr (10, [.ref rd, .ref wy, .ref tr, .ref im, .ref kp, .ref od, .ref ch, .ref cr, .ref le, .ref mk, .ref tl, .ref sh, .int tf, .int rf])), (ch, .inr (0, [.long w0, .ref wk, .ref cs])), (wk, .inl (G 5, 11, .inr (.inr (.inr (.inr (fun ir => if ir < 11 then some (rw ir) else none)))))), (cs, .inl (G 4, 10, .inr (.inr (.inr (.inr (fun ir => if ir < 10 then some (rq ir) else none)))))), (wy, .inr (9, [.int (nI N), .int (nI B), .int (nI D), .ref a1, .ref a2, .ref a3, .ref a4, .ref a5, .ref a6])), (a1, .inl (G 0, 10, .inl f1)), (a2, .inl (G 0, 10, .inl f2)), (a4, .inl (G 0, 6, .inl f4)), (a5, .inl (G 0, 6, .inl f5)), (a6, .inl (G 0, 6, .inl f6))] : va_W) ++ ((((List.range 11).map (fun iq => (rw iq, .inl (G 1, 70, .inr (.inl (F iq)))))) : va_W) ++ ((((List.range 10).map (fun iq => (rq iq, .inl (G 0, 70, .inl (E iq))))) : va_W) ++ []))) sz) (([(h0, .inr (10, [.ref rd, .ref wy, .ref tr, .ref im, .ref kp, .ref od, .ref ch, .ref cr, .ref le, .ref mk, .ref tl, .ref sh, .int tf, .int rf])), (ch, .inr (0, [.long u0, .ref wk, .ref cs])), (wk, .inl (G 5, 11, .inr (.inr (.inr (.inr (fun ir => if ir < 11 then some (rw ir) else none)))))), (cs, .inl (G 4, 10, .inr (.inr (.inr (.inr (fun ir => if ir < 10 then some (rq ir) else none)))))), (wy, .inr (9, [.int (nI N), .int (nI B), .int (nI D), .ref a1, .ref a2, .ref a3, .ref a4, .ref a5, .ref a6])), (a1, .inl (G 0, 10, .inl f1)), (a2, .inl (G 0, 10, .inl f2)), (a4, .inl (G 0, 6, .inl f4)), (a5, .inl (G 0, 6, .inl f5)), (a6, .inl (G 0, 6, .inl f6))] : va_W) ++ ((((List.range 11).map (fun iq => (rw iq, .inl (G 1, 70, .inr (.inl (u1 iq)))))) : va_W) ++ ((((List.range 10).map (fun iq => (rq iq, .inl (G 0, 70, .inl (u2 iq))))) : va_W) ++ [])))) (va_A (([(h0, .inr (10, [.ref rd, .ref wy, .ref tr, .ref im, .ref kp, .ref od, .ref ch, .ref cr, .ref le, .ref mk, .ref tl, .ref sh, .int tf, .int rf])), (ch, .inr (0, [.long w0, .ref wk, .ref cs])), (wk, .inl (G 5, 11, .inr (.inr (.inr (.inr (fun ir => if ir < 11 then some (rw ir) else none)))))), (cs, .inl (G 4, 10, .inr (.inr (.inr (.inr (fun ir => if ir < 10 then some (rq ir) else none)))))), (wy, .inr (9, [.int (nI N), .int (nI B), .int (nI D), .ref a1, .ref a2, .ref a3, .ref a4, .ref a5, .ref a6])), (a1, .inl (G 0, 10, .inl f1)), (a2, .inl (G 0, 10, .inl f2)), (a4, .inl (G 0, 6, .inl f4)), (a5, .inl (G 0, 6, .inl f5)), (a6, .inl (G 0, 6, .inl f6))] : va_W) ++ ((((List.range 11).map (fun iq => (rw iq, .inl (G 1, 70, .inr (.inl (F iq)))))) : va_W) ++ ((((List.range 10).map (fun iq => (rq iq, .inl (G 0, 70, .inl (E iq))))) : va_W) ++ []))) sz)) 0 0 (va_A (([(h0, .inr (10, [.ref rd, .ref wy, .ref tr, .ref im, .ref kp, .ref od, .ref ch, .ref cr, .ref le, .ref mk, .ref tl, .ref sh, .int tf, .int rf])), (ch, .inr (0, [.long w0, .ref wk, .ref cs])), (wk, .inl (G 5, 11, .inr (.inr (.inr (.inr (fun ir => if ir < 11 then some (rw ir) else none)))))), (cs, .inl (G 4, 10, .inr (.inr (.inr (.inr (fun ir => if ir < 10 then some (rq ir) else none)))))), (wy, .inr (9, [.int (nI N), .int (nI B), .int (nI D), .ref a1, .ref a2, .ref a3, .ref a4, .ref a5, .ref a6])), (a1, .inl (G 0, 10, .inl f1)), (a2, .inl (G 0, 10, .inl f2)), (a4, .inl (G 0, 6, .inl f4)), (a5, .inl (G 0, 6, .inl f5)), (a6, .inl (G 0, 6, .inl f6))] : va_W) ++ ((((List.range 11).map (fun iq => (rw iq, .inl (G 1, 70, .inr (.inl (F iq)))))) : va_W) ++ ((((List.range 10).map (fun iq => (rq iq, .inl (G 0, 70, .inl (E iq))))) : va_W) ++ []))) sz) := by
  have tn2627_ : nIT N := fun _ => nI_toInt (by omega)
  have tn2628_ : nIT B := fun _ => nI_toInt (by omega)
  have tn2629_ : nIT D := fun _ => nI_toInt (by omega)
  refine Met.ofW (cc := cX10_without) (maxL := 3) (ret := (some .long)) (by decide) rfl ?_
  intro p e s m args below meth c s₁ Bd hml hv
  obtain ⟨rfl, hsz, hP, hK, hD0⟩ := hv
  have hx := Bd.exec
  have hb := Bd.bytes
  have hr := Bd.returns
  have hg : ∀ w ∈ GT, w.before ([.ref h0, .int i, .int what] : List Value).toArray s = true := fun w h => atoms_spec (ws := Cond.code yX10_without cX10_without 3 (some .long) :: GT) Bd.pre w (List.mem_cons_of_mem _ h)
  have hown : s.vm.findClass RX10 = some m.cls := findClass_of_methodNamed Bd.named
  have hlocks := Bd.notSynchronized
  subst hsz
  have hD := hD0.self (sz := s.heap.size)
  generalize hAe : va_A (([(h0, .inr (10, [.ref rd, .ref wy, .ref tr, .ref im, .ref kp, .ref od, .ref ch, .ref cr, .ref le, .ref mk, .ref tl, .ref sh, .int tf, .int rf])), (ch, .inr (0, [.long w0, .ref wk, .ref cs])), (wk, .inl (G 5, 11, .inr (.inr (.inr (.inr (fun ir => if ir < 11 then some (rw ir) else none)))))), (cs, .inl (G 4, 10, .inr (.inr (.inr (.inr (fun ir => if ir < 10 then some (rq ir) else none)))))), (wy, .inr (9, [.int (nI N), .int (nI B), .int (nI D), .ref a1, .ref a2, .ref a3, .ref a4, .ref a5, .ref a6])), (a1, .inl (G 0, 10, .inl f1)), (a2, .inl (G 0, 10, .inl f2)), (a4, .inl (G 0, 6, .inl f4)), (a5, .inl (G 0, 6, .inl f5)), (a6, .inl (G 0, 6, .inl f6))] : va_W) ++ ((((List.range 11).map (fun iq => (rw iq, .inl (G 1, 70, .inr (.inl (F iq)))))) : va_W) ++ ((((List.range 10).map (fun iq => (rq iq, .inl (G 0, 70, .inl (E iq))))) : va_W) ++ []))) s.heap.size = A at hD ⊢
  have hA : ∀ q : Nat, s.heap.size ≤ q → A q := fun q h => by rw [← hAe]; exact Or.inr h
  have hS : va_S A s.heap s.heap [] := va_S.rf
  have hl := lv_entry ([.ref h0, .int i, .int what]) (n := 3) (Nat.le_of_ble_eq_true rfl)
  rw [lg_entry_eq]
  generalize (lg_sl ([.ref h0, .int i, .int what]) ++ List.replicate (3 - (lg_sl ([.ref h0, .int i, .int what])).length) Slot.unset).toArray = ls at hl ⊢
  have hl : lv_has ls 3 [(0, .ref h0), (1, .int i), (2, .int what)] := hl
  refine lv_aload_n hx hb dX10_without_0 rfl (lv_at hl 0 rfl) ?_
  refine va_get (D := (dC, dI)) (ci := 10) (v := .ref wy) (C := RX10) (T := TX10) (N := 14) hx hb hg inG10 hown hK.1 hP 0 rfl rfl 1 (Nat.le_of_ble_eq_true rfl) (hg _ wt_303) (fun _ h9 => h9) rfl dX10_without_1 ?_
  refine lv_iload_n hx hb dX10_without_4 rfl (lv_at hl 1 rfl) ?_
  have hPc := hP.sub (ws' := [(wy, .inr (9, [.int (nI N), .int (nI B), .int (nI D), .ref a1, .ref a2, .ref a3, .ref a4, .ref a5, .ref a6]))]) [4] rfl
  refine va_calli (va_runVN (As := [.int i]) (rest := []) ⟨hx, hb, hml, hown, hg⟩ (c_X9_hasBearer l dC dI G _ wy a1 a2 a3 a4 a5 a6 N B D i hN_N hB_B hD_D) (kwVN hg hK mfX9_hasBearer wn_535 ⟨Nat.le_of_ble_eq_true rfl, Nat.le_of_ble_eq_true rfl⟩) (preVR hK hPc (ci := 9) (r := (RX9, TX9, 9)) rfl rfl) rfl rfl hl.1 rfl (lv_room (Nat.le_of_ble_eq_true rfl)) dX10_without_5 ⟨Nat.le_of_ble_eq_true rfl, Nat.le_of_ble_eq_true rfl⟩) hS (fun q h1 h2 => absurd h2 (Nat.not_le.mpr h1)) (fun q h => hA q (Nat.le_trans hS.1 h)) (fun r1 ur1 t H1 locs ht hvm w2 hB hz1 hk1 hS => ?_)
  have hP := keepR hP hk1
  obtain ⟨w2, w2x⟩ := w2
  try simp only [l_ii, show (0 : Int32).toInt = 0 from by decide] at w2
  try rw [show (nI (B)).toInt = ((B : Nat) : Int) from tn2628_ ()] at w2
  subst w2
  refine lv_if_eq (tgt := 18) hx hb dX10_without_8 rfl (fun c3 => ?_) (fun c3 => ?_)
  · skip
    have b4 := if10_n c3
    refine lv_ldc2 (v := (-1)) hx hb hown (hg _ wt_607) dX10_without_18 ?_
    have hpost : ((-1) : Int64) = if ((0 ≤ i.toInt ∧ i.toInt < ((B : Nat) : Int)) ∧ (0 ≤ what.toInt ∧ what.toInt ≤ 1)) then (if B < 2 then -2 else frF (bwV (fun ib gb bb => hmF N B f1 f2 f4 f5 f6 (nI ib) gb (nI bb)) N B i N (-4) D) (powF N) what) else -1 := by
      have t_b4 := b4
      have t_n0 : (nI N).toInt = (N : Int) := tn2627_ ()
      have t_n1 : (nI B).toInt = (B : Int) := tn2628_ ()
      have t_n2 : (nI D).toInt = (D : Int) := tn2629_ ()
      have lz0 : (0 : Int32).toInt = 0 := qI_0
      have lz1 : (1 : Int32).toInt = 1 := qI_1
      have lz2 : (2 : Int32).toInt = 2 := qI_2
      have lz3 : (3 : Int32).toInt = 3 := qI_3
      have lz5 : (5 : Int32).toInt = 5 := qI_5
      have lz9 : (9 : Int32).toInt = 9 := qI_9
      rw [if_neg (by omega)]
    obtain ⟨hP9, hD9⟩ := va_sub2 (ws' := (([(h0, .inr (10, [.ref rd, .ref wy, .ref tr, .ref im, .ref kp, .ref od, .ref ch, .ref cr, .ref le, .ref mk, .ref tl, .ref sh, .int tf, .int rf])), (ch, .inr (0, [.long w0, .ref wk, .ref cs])), (wk, .inl (G 5, 11, .inr (.inr (.inr (.inr (fun ir => if ir < 11 then some (rw ir) else none)))))), (cs, .inl (G 4, 10, .inr (.inr (.inr (.inr (fun ir => if ir < 10 then some (rq ir) else none)))))), (wy, .inr (9, [.int (nI N), .int (nI B), .int (nI D), .ref a1, .ref a2, .ref a3, .ref a4, .ref a5, .ref a6])), (a1, .inl (G 0, 10, .inl f1)), (a2, .inl (G 0, 10, .inl f2)), (a4, .inl (G 0, 6, .inl f4)), (a5, .inl (G 0, 6, .inl f5)), (a6, .inl (G 0, 6, .inl f6))] : va_W) ++ ((((List.range 11).map (fun iq => (rw iq, .inl (G 1, 70, .inr (.inl (F iq)))))) : va_W) ++ ((((List.range 10).map (fun iq => (rq iq, .inl (G 0, 70, .inl (E iq))))) : va_W) ++ [])))) hP hD [0, 1, 2, 3, 4, 5, 6, 7, 8, 9, 10, 11, 12, 13, 14, 15, 16, 17, 18, 19, 20, 21, 22, 23, 24, 25, 26, 27, 28, 29, 30] (by decide +kernel) rfl
    refine W.widen (k := 0) (n := 0) (Nat.le_of_ble_eq_true rfl) (Nat.le_of_ble_eq_true rfl) ?_
    exact W.lret (v := (-1)) hx hb hr (fun t ht hW => ⟨⟨(-1), (w0, F, E), rfl, ⟨hpost, trivial⟩, ⟨by rw [ht]; exact hP9, hD9⟩⟩, hS.F ht⟩) hS.2.2 dX10_without_21
  · skip
    have b5 := if10_p c3
    refine lv_iload_n hx hb dX10_without_11 rfl (lv_at hl 2 rfl) ?_
    have hPc := hP.sub (ws' := []) [] rfl
    refine va_calli (va_runS (As := [.int what]) (rest := []) ⟨hx, hb, hml, hown, hg⟩ (c_X10_isFractionPart l dC dI G _ what) (kwS hg mfX10_isFractionPart wt_604 ⟨Nat.le_of_ble_eq_true rfl, Nat.le_of_ble_eq_true rfl⟩) (preSR hK hPc) rfl rfl hl.1 rfl (lv_room (Nat.le_of_ble_eq_true rfl)) dX10_without_12 ⟨Nat.le_of_ble_eq_true rfl, Nat.le_of_ble_eq_true rfl⟩) hS (fun q h1 h2 => absurd h2 (Nat.not_le.mpr h1)) (fun q h => hA q (Nat.le_trans hS.1 h)) (fun r6 ur6 t H1 locs ht hvm w7 hB hz1 hk1 hS => ?_)
    have hP := keepR hP hk1
    obtain ⟨w7, w7x⟩ := w7
    try simp only [l_ii, show (0 : Int32).toInt = 0 from by decide, show (1 : Int32).toInt = 1 from by decide] at w7
    subst w7
    refine lv_if_ne (tgt := 22) hx hb dX10_without_15 rfl (fun c8 => ?_) (fun c8 => ?_)
    · skip
      have b9 := if10_p c8
      refine lv_aload_n hx hb dX10_without_22 rfl (lv_at hl 0 rfl) ?_
      refine va_get (D := (dC, dI)) (ci := 10) (v := .ref wy) (C := RX10) (T := TX10) (N := 14) hx hb hg inG10 hown hK.1 hP 0 rfl rfl 1 (Nat.le_of_ble_eq_true rfl) (hg _ wt_303) (fun _ h9 => h9) rfl dX10_without_23 ?_
      refine va_getN (D := (dC, dI)) (ci := 9) (v := .int (nI B)) (C := RX9) (T := TX9) (N := 9) hx hb hg inG9 hown hK.1 hP 4 rfl rfl 1 (Nat.le_of_ble_eq_true rfl) (hK.nest wn_64) (fun _ h9 => h9) rfl dX10_without_26 ?_
      refine lv_iconst (v := 2) hx hb dX10_without_29 rfl ?_
      refine lv_icmp_ge (tgt := 37) hx hb dX10_without_30 rfl (fun c10 => ?_) (fun c10 => ?_)
      · skip
        have n11 : 2 ≤ B := by have t := leI c10; rw [show (nI (B)).toInt = ((B : Nat) : Int) from tn2628_ ()] at t; have : (2 : Int32).toInt = 2 := qI_2; omega
        refine lv_aload_n hx hb dX10_without_37 rfl (lv_at hl 0 rfl) ?_
        refine va_get (D := (dC, dI)) (ci := 10) (v := .ref ch) (C := RX10) (T := TX10) (N := 14) hx hb hg inG10 hown hK.1 hP 0 rfl rfl 6 (Nat.le_of_ble_eq_true rfl) (hg _ wt_308) (fun _ h9 => h9) rfl dX10_without_38 ?_
        refine lv_aload_n hx hb dX10_without_41 rfl (lv_at hl 0 rfl) ?_
        refine va_get (D := (dC, dI)) (ci := 10) (v := .ref wy) (C := RX10) (T := TX10) (N := 14) hx hb hg inG10 hown hK.1 hP 0 rfl rfl 1 (Nat.le_of_ble_eq_true rfl) (hg _ wt_303) (fun _ h9 => h9) rfl dX10_without_42 ?_
        refine lv_iload_n hx hb dX10_without_45 rfl (lv_at hl 1 rfl) ?_
        obtain ⟨hPc, hDc, hFc⟩ := va_sub3 (ws' := (([(ch, .inr (0, [.long w0, .ref wk, .ref cs])), (wk, .inl (G 5, 11, .inr (.inr (.inr (.inr (fun ir => if ir < 11 then some (rw ir) else none)))))), (cs, .inl (G 4, 10, .inr (.inr (.inr (.inr (fun ir => if ir < 10 then some (rq ir) else none)))))), (wy, .inr (9, [.int (nI N), .int (nI B), .int (nI D), .ref a1, .ref a2, .ref a3, .ref a4, .ref a5, .ref a6])), (a1, .inl (G 0, 10, .inl f1)), (a2, .inl (G 0, 10, .inl f2)), (a4, .inl (G 0, 6, .inl f4)), (a5, .inl (G 0, 6, .inl f5)), (a6, .inl (G 0, 6, .inl f6))] : va_W) ++ ((((List.range 11).map (fun iq => (rw iq, .inl (G 1, 70, .inr (.inl (F iq)))))) : va_W) ++ ((((List.range 10).map (fun iq => (rq iq, .inl (G 0, 70, .inl (E iq))))) : va_W) ++ [])))) hP hD hS hA [1, 2, 3, 4, 5, 6, 7, 8, 9, 10, 11, 12, 13, 14, 15, 16, 17, 18, 19, 20, 21, 22, 23, 24, 25, 26, 27, 28, 29, 30] (by decide +kernel) rfl
        refine va_callv (va_runVN (As := [.ref wy, .int i]) (rest := []) ⟨hx, hb, hml, hown, hg⟩ (c_X0_planE l dC dI G _ ch wk cs wy a1 a2 a3 a4 a5 a6 N B D i w0 f1 f2 f4 f5 f6 rw rq F E hN_N hB_B hD_D) (kwVN hg hK mfX0_plan wn_657 ⟨Nat.le_of_ble_eq_true rfl, Nat.le_of_ble_eq_true rfl⟩) (preVW hK hPc hDc (ci := 0) (r := (RX0, TX0, 3)) rfl rfl) rfl rfl hl.1 rfl (lv_room (Nat.le_of_ble_eq_true rfl)) dX10_without_46 ⟨Nat.le_of_ble_eq_true rfl, Nat.le_of_ble_eq_true rfl⟩) hS (fun q _ h => hFc q h) hFc (fun ur12 t H1 locs ht hvm w13 hB hz1 hk1 hS => ?_)
        obtain ⟨u14, u15, u16⟩ := ur12
        obtain ⟨hP1, hD1⟩ := hB
        rw [ht] at hP1
        obtain ⟨hP, hD⟩ := va_join (wr := [(h0, .inr (10, [.ref rd, .ref wy, .ref tr, .ref im, .ref kp, .ref od, .ref ch, .ref cr, .ref le, .ref mk, .ref tl, .ref sh, .int tf, .int rf]))]) (w1 := (([(ch, .inr (0, [.long u14, .ref wk, .ref cs])), (wk, .inl (G 5, 11, .inr (.inr (.inr (.inr (fun ir => if ir < 11 then some (rw ir) else none)))))), (cs, .inl (G 4, 10, .inr (.inr (.inr (.inr (fun ir => if ir < 10 then some (rq ir) else none)))))), (wy, .inr (9, [.int (nI N), .int (nI B), .int (nI D), .ref a1, .ref a2, .ref a3, .ref a4, .ref a5, .ref a6])), (a1, .inl (G 0, 10, .inl f1)), (a2, .inl (G 0, 10, .inl f2)), (a4, .inl (G 0, 6, .inl f4)), (a5, .inl (G 0, 6, .inl f5)), (a6, .inl (G 0, 6, .inl f6))] : va_W) ++ ((((List.range 11).map (fun iq => (rw iq, .inl (G 1, 70, .inr (.inl (u15 iq)))))) : va_W) ++ ((((List.range 10).map (fun iq => (rq iq, .inl (G 0, 70, .inl (u16 iq))))) : va_W) ++ [])))) hP hD [1, 2, 3, 4, 5, 6, 7, 8, 9, 10, 11, 12, 13, 14, 15, 16, 17, 18, 19, 20, 21, 22, 23, 24, 25, 26, 27, 28, 29, 30] [0] rfl rfl (by decide +kernel) (by decide +kernel) hk1 hFc hP1 hD1
        have w13 : u14 = powF N ∧ PLR (fun ib gb bb => hmF N B f1 f2 f4 f5 f6 (nI ib) gb (nI bb)) N B i 0 u15 u16 := w13
        generalize H1 = H at hP hS ⊢
        refine lv_aload_n hx hb dX10_without_49 rfl (lv_at hl 0 rfl) ?_
        refine va_get (D := (dC, dI)) (ci := 10) (v := .ref ch) (C := RX10) (T := TX10) (N := 14) hx hb hg inG10 hown hK.1 hP 0 rfl rfl 6 (Nat.le_of_ble_eq_true rfl) (hg _ wt_308) (fun _ h9 => h9) rfl dX10_without_50 ?_
        refine lv_aload_n hx hb dX10_without_53 rfl (lv_at hl 0 rfl) ?_
        refine va_get (D := (dC, dI)) (ci := 10) (v := .ref wy) (C := RX10) (T := TX10) (N := 14) hx hb hg inG10 hown hK.1 hP 0 rfl rfl 1 (Nat.le_of_ble_eq_true rfl) (hg _ wt_303) (fun _ h9 => h9) rfl dX10_without_54 ?_
        have hPc := hP.sub (ws' := (([(ch, .inr (0, [.long u14, .ref wk, .ref cs])), (wk, .inl (G 5, 11, .inr (.inr (.inr (.inr (fun ir => if ir < 11 then some (rw ir) else none)))))), (cs, .inl (G 4, 10, .inr (.inr (.inr (.inr (fun ir => if ir < 10 then some (rq ir) else none)))))), (wy, .inr (9, [.int (nI N), .int (nI B), .int (nI D), .ref a1, .ref a2, .ref a3, .ref a4, .ref a5, .ref a6]))] : va_W) ++ ((((List.range 11).map (fun iq => (rw iq, .inl (G 1, 70, .inr (.inl (u15 iq)))))) : va_W) ++ ((((List.range 10).map (fun iq => (rq iq, .inl (G 0, 70, .inl (u16 iq))))) : va_W) ++ [])))) [1, 2, 3, 4, 10, 11, 12, 13, 14, 15, 16, 17, 18, 19, 20, 21, 22, 23, 24, 25, 26, 27, 28, 29, 30] rfl
        refine va_calll (va_runVN (As := [.ref wy]) (rest := []) ⟨hx, hb, hml, hown, hg⟩ (c_X0_wakingAtFirstE l dC dI G _ ch wk cs wy a1 a2 a3 a4 a5 a6 N B D u14 rw rq u15 u16 hN_N hB_B hD_D) (kwVN hg hK mfX0_wakingAtFirst wn_676 ⟨Nat.le_of_ble_eq_true rfl, Nat.le_of_ble_eq_true rfl⟩) (preVR hK hPc (ci := 0) (r := (RX0, TX0, 3)) rfl rfl) rfl rfl hl.1 rfl (lv_room (Nat.le_of_ble_eq_true rfl)) dX10_without_57 ⟨Nat.le_of_ble_eq_true rfl, Nat.le_of_ble_eq_true rfl⟩) hS (fun q h1 h2 => absurd h2 (Nat.not_le.mpr h1)) (fun q h => hA q (Nat.le_trans hS.1 h)) (fun r17 ur17 t H1 locs ht hvm w18 hB hz1 hk1 hS => ?_)
        have hP := keepR hP hk1
        obtain ⟨w18, w18x⟩ := w18
        subst w18
        refine lv_aload_n hx hb dX10_without_60 rfl (lv_at hl 0 rfl) ?_
        refine va_get (D := (dC, dI)) (ci := 10) (v := .ref ch) (C := RX10) (T := TX10) (N := 14) hx hb hg inG10 hown hK.1 hP 0 rfl rfl 6 (Nat.le_of_ble_eq_true rfl) (hg _ wt_308) (fun _ h9 => h9) rfl dX10_without_61 ?_
        refine va_getN (D := (dC, dI)) (ci := 0) (v := .long u14) (C := RX0) (T := TX0) (N := 3) hx hb hg inG0 hown hK.1 hP 1 rfl rfl 0 (Nat.le_of_ble_eq_true rfl) (hK.nest wn_181) (fun _ h9 => h9) rfl dX10_without_64 ?_
        refine lv_iload_n hx hb dX10_without_67 rfl (lv_at hl 2 rfl) ?_
        have hPc := hP.sub (ws' := []) [] rfl
        refine va_calll (va_runS (As := [.long (u15 0 (slotF (-4) D)), .long u14, .int what]) (rest := []) ⟨hx, hb, hml, hown, hg⟩ (c_X10_fractionE l dC dI G _ what (u15 0 (slotF (-4) D)) u14 (by rw [w13.1]; exact powF_ne (by omega))) (kwS hg mfX10_fraction wt_635 ⟨Nat.le_of_ble_eq_true rfl, Nat.le_of_ble_eq_true rfl⟩) (preSR hK hPc) rfl rfl hl.1 rfl (lv_room (Nat.le_of_ble_eq_true rfl)) dX10_without_68 ⟨Nat.le_of_ble_eq_true rfl, Nat.le_of_ble_eq_true rfl⟩) hS (fun q h1 h2 => absurd h2 (Nat.not_le.mpr h1)) (fun q h => hA q (Nat.le_trans hS.1 h)) (fun r19 ur19 t H1 locs ht hvm w20 hB hz1 hk1 hS => ?_)
        have hP := keepR hP hk1
        obtain ⟨w20, w20x⟩ := w20
        subst w20
        have hpost : (frF (u15 0 (slotF (-4) D)) u14 what : Int64) = if ((0 ≤ i.toInt ∧ i.toInt < ((B : Nat) : Int)) ∧ (0 ≤ what.toInt ∧ what.toInt ≤ 1)) then (if B < 2 then -2 else frF (bwV (fun ib gb bb => hmF N B f1 f2 f4 f5 f6 (nI ib) gb (nI bb)) N B i N (-4) D) (powF N) what) else -1 := by
          have t_b5 := b5
          have t_b9 := b9
          have t_n11 := n11
          have t_n0 : (nI N).toInt = (N : Int) := tn2627_ ()
          have t_n1 : (nI B).toInt = (B : Int) := tn2628_ ()
          have t_n2 : (nI D).toInt = (D : Int) := tn2629_ ()
          have lz0 : (0 : Int32).toInt = 0 := qI_0
          have lz1 : (1 : Int32).toInt = 1 := qI_1
          have lz2 : (2 : Int32).toInt = 2 := qI_2
          have lz3 : (3 : Int32).toInt = 3 := qI_3
          have lz5 : (5 : Int32).toInt = 5 := qI_5
          have lz9 : (9 : Int32).toInt = 9 := qI_9
          have e9 := (w13.2 0 (Nat.zero_le _) (Nat.zero_le _) (-4) (Or.inl rfl) D (by omega)).1
          rw [Nat.sub_zero] at e9
          rw [if_pos (by omega), if_neg (by omega)]
          rw [e9, w13.1]
        obtain ⟨hP9, hD9⟩ := va_sub2 (ws' := (([(h0, .inr (10, [.ref rd, .ref wy, .ref tr, .ref im, .ref kp, .ref od, .ref ch, .ref cr, .ref le, .ref mk, .ref tl, .ref sh, .int tf, .int rf])), (ch, .inr (0, [.long u14, .ref wk, .ref cs])), (wk, .inl (G 5, 11, .inr (.inr (.inr (.inr (fun ir => if ir < 11 then some (rw ir) else none)))))), (cs, .inl (G 4, 10, .inr (.inr (.inr (.inr (fun ir => if ir < 10 then some (rq ir) else none)))))), (wy, .inr (9, [.int (nI N), .int (nI B), .int (nI D), .ref a1, .ref a2, .ref a3, .ref a4, .ref a5, .ref a6])), (a1, .inl (G 0, 10, .inl f1)), (a2, .inl (G 0, 10, .inl f2)), (a4, .inl (G 0, 6, .inl f4)), (a5, .inl (G 0, 6, .inl f5)), (a6, .inl (G 0, 6, .inl f6))] : va_W) ++ ((((List.range 11).map (fun iq => (rw iq, .inl (G 1, 70, .inr (.inl (u15 iq)))))) : va_W) ++ ((((List.range 10).map (fun iq => (rq iq, .inl (G 0, 70, .inl (u16 iq))))) : va_W) ++ [])))) hP hD [0, 1, 2, 3, 4, 5, 6, 7, 8, 9, 10, 11, 12, 13, 14, 15, 16, 17, 18, 19, 20, 21, 22, 23, 24, 25, 26, 27, 28, 29, 30] (by decide +kernel) rfl
        refine W.widen (k := 0) (n := 0) (Nat.le_of_ble_eq_true rfl) (Nat.le_of_ble_eq_true rfl) ?_
        exact W.lret (v := frF (u15 0 (slotF (-4) D)) u14 what) hx hb hr (fun t ht hW => ⟨⟨frF (u15 0 (slotF (-4) D)) u14 what, (u14, u15, u16), rfl, ⟨hpost, trivial⟩, ⟨by rw [ht]; exact hP9, hD9⟩⟩, hS.F ht⟩) hS.2.2 dX10_without_71
      · skip
        have n21 : B < 2 := by have t := nleI c10; rw [show (nI (B)).toInt = ((B : Nat) : Int) from tn2628_ ()] at t; have : (2 : Int32).toInt = 2 := qI_2; omega
        refine lv_ldc2 (v := (-2)) hx hb hown (hg _ wt_689) dX10_without_33 ?_
        have hpost : ((-2) : Int64) = if ((0 ≤ i.toInt ∧ i.toInt < ((B : Nat) : Int)) ∧ (0 ≤ what.toInt ∧ what.toInt ≤ 1)) then (if B < 2 then -2 else frF (bwV (fun ib gb bb => hmF N B f1 f2 f4 f5 f6 (nI ib) gb (nI bb)) N B i N (-4) D) (powF N) what) else -1 := by
          have t_b5 := b5
          have t_b9 := b9
          have t_n21 := n21
          have t_n0 : (nI N).toInt = (N : Int) := tn2627_ ()
          have t_n1 : (nI B).toInt = (B : Int) := tn2628_ ()
          have t_n2 : (nI D).toInt = (D : Int) := tn2629_ ()
          have lz0 : (0 : Int32).toInt = 0 := qI_0
          have lz1 : (1 : Int32).toInt = 1 := qI_1
          have lz2 : (2 : Int32).toInt = 2 := qI_2
          have lz3 : (3 : Int32).toInt = 3 := qI_3
          have lz5 : (5 : Int32).toInt = 5 := qI_5
          have lz9 : (9 : Int32).toInt = 9 := qI_9
          rw [if_pos (by omega), if_pos (by omega)]
        obtain ⟨hP9, hD9⟩ := va_sub2 (ws' := (([(h0, .inr (10, [.ref rd, .ref wy, .ref tr, .ref im, .ref kp, .ref od, .ref ch, .ref cr, .ref le, .ref mk, .ref tl, .ref sh, .int tf, .int rf])), (ch, .inr (0, [.long w0, .ref wk, .ref cs])), (wk, .inl (G 5, 11, .inr (.inr (.inr (.inr (fun ir => if ir < 11 then some (rw ir) else none)))))), (cs, .inl (G 4, 10, .inr (.inr (.inr (.inr (fun ir => if ir < 10 then some (rq ir) else none)))))), (wy, .inr (9, [.int (nI N), .int (nI B), .int (nI D), .ref a1, .ref a2, .ref a3, .ref a4, .ref a5, .ref a6])), (a1, .inl (G 0, 10, .inl f1)), (a2, .inl (G 0, 10, .inl f2)), (a4, .inl (G 0, 6, .inl f4)), (a5, .inl (G 0, 6, .inl f5)), (a6, .inl (G 0, 6, .inl f6))] : va_W) ++ ((((List.range 11).map (fun iq => (rw iq, .inl (G 1, 70, .inr (.inl (F iq)))))) : va_W) ++ ((((List.range 10).map (fun iq => (rq iq, .inl (G 0, 70, .inl (E iq))))) : va_W) ++ [])))) hP hD [0, 1, 2, 3, 4, 5, 6, 7, 8, 9, 10, 11, 12, 13, 14, 15, 16, 17, 18, 19, 20, 21, 22, 23, 24, 25, 26, 27, 28, 29, 30] (by decide +kernel) rfl
        refine W.widen (k := 0) (n := 0) (Nat.le_of_ble_eq_true rfl) (Nat.le_of_ble_eq_true rfl) ?_
        exact W.lret (v := (-2)) hx hb hr (fun t ht hW => ⟨⟨(-2), (w0, F, E), rfl, ⟨hpost, trivial⟩, ⟨by rw [ht]; exact hP9, hD9⟩⟩, hS.F ht⟩) hS.2.2 dX10_without_36
    · skip
      have b22 := if10_n c8
      refine lv_ldc2 (v := (-1)) hx hb hown (hg _ wt_607) dX10_without_18 ?_
      have hpost : ((-1) : Int64) = if ((0 ≤ i.toInt ∧ i.toInt < ((B : Nat) : Int)) ∧ (0 ≤ what.toInt ∧ what.toInt ≤ 1)) then (if B < 2 then -2 else frF (bwV (fun ib gb bb => hmF N B f1 f2 f4 f5 f6 (nI ib) gb (nI bb)) N B i N (-4) D) (powF N) what) else -1 := by
        have t_b5 := b5
        have t_b22 := b22
        have t_n0 : (nI N).toInt = (N : Int) := tn2627_ ()
        have t_n1 : (nI B).toInt = (B : Int) := tn2628_ ()
        have t_n2 : (nI D).toInt = (D : Int) := tn2629_ ()
        have lz0 : (0 : Int32).toInt = 0 := qI_0
        have lz1 : (1 : Int32).toInt = 1 := qI_1
        have lz2 : (2 : Int32).toInt = 2 := qI_2
        have lz3 : (3 : Int32).toInt = 3 := qI_3
        have lz5 : (5 : Int32).toInt = 5 := qI_5
        have lz9 : (9 : Int32).toInt = 9 := qI_9
        rw [if_neg (by omega)]
      obtain ⟨hP9, hD9⟩ := va_sub2 (ws' := (([(h0, .inr (10, [.ref rd, .ref wy, .ref tr, .ref im, .ref kp, .ref od, .ref ch, .ref cr, .ref le, .ref mk, .ref tl, .ref sh, .int tf, .int rf])), (ch, .inr (0, [.long w0, .ref wk, .ref cs])), (wk, .inl (G 5, 11, .inr (.inr (.inr (.inr (fun ir => if ir < 11 then some (rw ir) else none)))))), (cs, .inl (G 4, 10, .inr (.inr (.inr (.inr (fun ir => if ir < 10 then some (rq ir) else none)))))), (wy, .inr (9, [.int (nI N), .int (nI B), .int (nI D), .ref a1, .ref a2, .ref a3, .ref a4, .ref a5, .ref a6])), (a1, .inl (G 0, 10, .inl f1)), (a2, .inl (G 0, 10, .inl f2)), (a4, .inl (G 0, 6, .inl f4)), (a5, .inl (G 0, 6, .inl f5)), (a6, .inl (G 0, 6, .inl f6))] : va_W) ++ ((((List.range 11).map (fun iq => (rw iq, .inl (G 1, 70, .inr (.inl (F iq)))))) : va_W) ++ ((((List.range 10).map (fun iq => (rq iq, .inl (G 0, 70, .inl (E iq))))) : va_W) ++ [])))) hP hD [0, 1, 2, 3, 4, 5, 6, 7, 8, 9, 10, 11, 12, 13, 14, 15, 16, 17, 18, 19, 20, 21, 22, 23, 24, 25, 26, 27, 28, 29, 30] (by decide +kernel) rfl
      refine W.widen (k := 0) (n := 0) (Nat.le_of_ble_eq_true rfl) (Nat.le_of_ble_eq_true rfl) ?_
      exact W.lret (v := (-1)) hx hb hr (fun t ht hW => ⟨⟨(-1), (w0, F, E), rfl, ⟨hpost, trivial⟩, ⟨by rw [ht]; exact hP9, hD9⟩⟩, hS.F ht⟩) hS.2.2 dX10_without_21


-- THE BEST of the reference: pure parts; both sides' answers (draft)
def zbM (h : Int32) (x y : Int64) : Int64 := h.toInt64 * x + (20 - h).toInt64 * y
theorem mx_zb {h : Int32} {x y : Int64} : mxF h x y = zbM h x y := by
  unfold mxF zbM
  rw [Int64.mul_comm x, Int64.mul_comm y]
def zbH (fs : Nat → Int32) (i k b : Nat) : Int32 := if k < 10 then rhN fs i b 0 else rhB fs i (k / 10 - 1) b 0
def zbW (H : Nat → Nat → Nat → Int32) (g : Nat → Int64) (i k b : Nat) : Int64 := zbM (H i k b) (g (10 * (b + 1) + (k % 10 - 1))) (g (10 * (b + 1) + min 9 (k % 10 + 1)))
def FARL : Int64 := 4000000000000000000
def zbV (H : Nat → Nat → Nat → Int32) (N B : Nat) (wo : Int32) : Nat → Nat → Int64
  | 0 => fun k => if k % 10 = 0 then 1 else 0
  | n + 1 => fun k => if k % 10 = 0 then powF (n + 1) else (bmF (zbW H (zbV H N B wo n) (N - (n + 1)) k) wo FARL 0 B).1
theorem b1_w {fs : Nat → Int32} {f g : Nat → Int64} {i k b : Nat} (h1 : f (70 * (i + 1) + (10 * (b + 1) + (k % 10 - 1))) = g (10 * (b + 1) + (k % 10 - 1))) (h2 : f (70 * (i + 1) + (10 * (b + 1) + min 9 (k % 10 + 1))) = g (10 * (b + 1) + min 9 (k % 10 + 1))) : b1 fs f i k b = zbW (zbH fs) g i k b := by
  have a1 : 70 * (i + 1) + 10 * (b + 1) + (k % 10 - 1) = 70 * (i + 1) + (10 * (b + 1) + (k % 10 - 1)) := Nat.add_assoc _ _ _
  have a2 : 70 * (i + 1) + 10 * (b + 1) + min 9 (k % 10 + 1) = 70 * (i + 1) + (10 * (b + 1) + min 9 (k % 10 + 1)) := Nat.add_assoc _ _ _
  unfold b1 zbW zbM zbH b1N b1B
  rw [a1, a2, h1, h2]
  by_cases c : k < 10
  · rw [if_pos c, if_pos c]
  · rw [if_neg c, if_neg c]
def VK (B k : Nat) : Prop := k % 10 = 0 ∨ k < 10 ∨ k / 10 ≤ B
def zbR (fs : Nat → Int32) (N B : Nat) (wo : Int32) (j : Nat) (f : Nat → Int64) : Prop := ∀ i k : Nat, j ≤ i → i ≤ N → k < 70 → VK B k → f (70 * i + k) = zbV (zbH fs) N B wo (N - i) k
def zbK (fs : Nat → Int32) (N B : Nat) (wo : Int32) (i k : Nat) (f : Nat → Int64) : Prop := zbR fs N B wo (i + 1) f ∧ ∀ k' : Nat, k' < k → VK B k' → f (70 * i + k') = zbV (zbH fs) N B wo (N - i) k'
def zbB (fs : Nat → Int32) (N B : Nat) (wo : Int32) (i k b : Nat) (f : Nat → Int64) : Prop := zbK fs N B wo i k f ∧ ((k % 10 = 0 ∧ f (70 * i + k) = powF (N - i)) ∨ (k % 10 ≠ 0 ∧ f (70 * i + k) = (bmF (b1 fs f i k) wo FARL 0 b).1 ∧ (f (70 * i + k)).toInt ≤ 4000000000000000000))
def zbF (N j : Nat) (f : Nat → Int64) : Prop := ∀ k : Nat, k < j → f (70 * N + k) = if k % 10 = 0 then 1 else 0
theorem zbK.put {fs : Nat → Int32} {N B i k : Nat} {wo : Int32} {f : Nat → Int64} {v : Int64} (hk : k < 70) (h : zbK fs N B wo i k f) : zbK fs N B wo i k (vp_updL f (70 * i + k) v) :=
  ⟨fun i' k' h1 h2 h3 h4 => (upL_ne (by omega)).trans (h.1 i' k' h1 h2 h3 h4), fun k' hk' h4 => (upL_ne (by omega)).trans (h.2 k' hk' h4)⟩
theorem zbB.ini {fs : Nat → Int32} {N B i k : Nat} {wo : Int32} {f : Nat → Int64} {y : Int64} (h : zbK fs N B wo i k f) (hk : k < 70) (hc : (k % 10 = 0 ∧ y = powF (N - i)) ∨ (k % 10 ≠ 0 ∧ y = 4000000000000000000)) : zbB fs N B wo i k 0 (vp_updL f (70 * i + k) y) := by
  refine ⟨h.put hk, ?_⟩
  rw [upL_eq]
  rcases hc with hc | hc
  · exact Or.inl hc
  · exact Or.inr ⟨hc.1, hc.2, by rw [hc.2]; decide⟩
theorem bm_sc {v : Nat → Int64} {wo : Int32} {x0 : Int64} {c0 : Int32} {b : Nat} : bmF v wo x0 c0 (b + 1) = if nI b = wo then bmF v wo x0 c0 b else if (v b).toInt < (bmF v wo x0 c0 b).1.toInt then (v b, nI b) else bmF v wo x0 c0 b := rfl
theorem zbB.lt {fs : Nat → Int32} {N B i k b : Nat} {wo : Int32} {f : Nat → Int64} {v : Int64} (hk : k < 70) (hk0 : k % 10 ≠ 0) (hv : v = b1 fs f i k b) (hw : ¬ nI b = wo) (hc : v.toInt < (f (70 * i + k)).toInt) (h : zbB fs N B wo i k b f) : zbB fs N B wo i k (b + 1) (vp_updL f (70 * i + k) v) := by
  rcases h.2 with c | ⟨_, c1, c2⟩
  · exact absurd c.1 hk0
  · refine ⟨h.1.put hk, Or.inr ⟨hk0, ?_, ?_⟩⟩
    · have e : ∀ q : Nat, b1 fs (vp_updL f (70 * i + k) v) i k q = b1 fs f i k q := fun q => b1_cg (fun r hr => upL_ne (by omega))
      rw [upL_eq, bm_cg (v := b1 fs (vp_updL f (70 * i + k) v) i k) (v' := b1 fs f i k) (b + 1) (fun q _ => e q), bm_sc, if_neg hw, ← c1, ← hv, if_pos hc]
    · rw [upL_eq]; omega
theorem zbB.ge {fs : Nat → Int32} {N B i k b : Nat} {wo : Int32} {f : Nat → Int64} {v : Int64} (hk : k < 70) (hk0 : k % 10 ≠ 0) (hv : v = b1 fs f i k b) (hw : ¬ nI b = wo) (hc : (f (70 * i + k)).toInt ≤ v.toInt) (h : zbB fs N B wo i k b f) : zbB fs N B wo i k (b + 1) (vp_updL f (70 * i + k) (f (70 * i + k))) := by
  rcases h.2 with c | ⟨_, c1, c2⟩
  · exact absurd c.1 hk0
  · refine ⟨h.1.put hk, Or.inr ⟨hk0, ?_, ?_⟩⟩
    · have e : ∀ q : Nat, b1 fs (vp_updL f (70 * i + k) (f (70 * i + k))) i k q = b1 fs f i k q := fun q => b1_cg (fun r hr => upL_ne (by omega))
      rw [upL_eq, bm_cg (v := b1 fs (vp_updL f (70 * i + k) (f (70 * i + k))) i k) (v' := b1 fs f i k) (b + 1) (fun q _ => e q), bm_sc, if_neg hw, ← c1, ← hv, if_neg (by omega)]
      exact c1
    · rw [upL_eq]; exact c2
theorem zbB.wo {fs : Nat → Int32} {N B i k b : Nat} {wo : Int32} {f : Nat → Int64} (hk : k < 70) (hk0 : k % 10 ≠ 0) (hw : nI b = wo) (h : zbB fs N B wo i k b f) : zbB fs N B wo i k (b + 1) (vp_updL f (70 * i + k) (f (70 * i + k))) := by
  rcases h.2 with c | ⟨_, c1, c2⟩
  · exact absurd c.1 hk0
  · refine ⟨h.1.put hk, Or.inr ⟨hk0, ?_, ?_⟩⟩
    · have e : ∀ q : Nat, b1 fs (vp_updL f (70 * i + k) (f (70 * i + k))) i k q = b1 fs f i k q := fun q => b1_cg (fun r hr => upL_ne (by omega))
      rw [upL_eq, bm_cg (v := b1 fs (vp_updL f (70 * i + k) (f (70 * i + k))) i k) (v' := b1 fs f i k) (b + 1) (fun q _ => e q), bm_sc, if_pos hw]
      exact c1
    · rw [upL_eq]; exact c2
theorem zbB.no {fs : Nat → Int32} {N B i k b : Nat} {wo : Int32} {f : Nat → Int64} (hk0 : k % 10 ≠ 0) (hc : (4000000000000000000 : Int64).toInt < (f (70 * i + k)).toInt) (h : zbB fs N B wo i k b f) : False := by
  have z : (4000000000000000000 : Int64).toInt = 4000000000000000000 := by decide
  rcases h.2 with c | ⟨_, c1, c2⟩
  · exact hk0 c.1
  · omega
theorem zbB.out {fs : Nat → Int32} {N B i k b : Nat} {wo : Int32} {f : Nat → Int64} (hi : i < N) (hB : B ≤ 6) (hk : k < 70) (hc : b = B ∨ k % 10 = 0 ∨ (10 ≤ k ∧ B < k / 10)) (h : zbB fs N B wo i k b f) : zbK fs N B wo i (k + 1) f := by
  refine ⟨h.1.1, fun k' hk' hv => ?_⟩
  by_cases e : k' < k
  · exact h.1.2 k' e hv
  · have e2 : k' = k := by omega
    subst e2
    have en : N - i = (N - (i + 1)) + 1 := by omega
    rcases h.2 with c | ⟨c0, c1, _⟩
    · rw [c.2, en]
      show _ = (if k' % 10 = 0 then powF (N - (i + 1) + 1) else _)
      rw [if_pos c.1]
    · have hb : b = B := by
        unfold VK at hv
        omega
      rw [hb] at c1
      rw [c1, en]
      show _ = (if k' % 10 = 0 then powF (N - (i + 1) + 1) else (bmF (zbW (zbH fs) (zbV (zbH fs) N B wo (N - (i + 1))) (N - (N - (i + 1) + 1)) k') wo FARL 0 B).1)
      rw [if_neg c0, show N - (N - (i + 1) + 1) = i by omega]
      refine congrArg Prod.fst (bm_cg B (fun q hq => b1_w ?_ ?_))
      · exact h.1.1 (i + 1) (10 * (q + 1) + (k' % 10 - 1)) (Nat.le_refl _) (by omega) (by omega) (Or.inr (Or.inr (by omega)))
      · exact h.1.1 (i + 1) (10 * (q + 1) + min 9 (k' % 10 + 1)) (Nat.le_refl _) (by omega) (by omega) (Or.inr (Or.inr (by omega)))
theorem zbK.out {fs : Nat → Int32} {N B i k : Nat} {wo : Int32} {f : Nat → Int64} (hk : 70 ≤ k) (h : zbK fs N B wo i k f) : zbR fs N B wo i f := fun i' k' h1 h2 h3 h4 => by
  by_cases e : i' = i
  · rw [e]; exact h.2 k' (by omega) h4
  · exact h.1 i' k' (by omega) h2 h3 h4
theorem zbR.k0 {fs : Nat → Int32} {N B i : Nat} {wo : Int32} {f : Nat → Int64} (h : zbR fs N B wo (i + 1) f) : zbK fs N B wo i 0 f := ⟨h, fun k' hk' => absurd hk' (Nat.not_lt_zero _)⟩
theorem zbF.put {N j : Nat} {f : Nat → Int64} {y : Int64} (h : zbF N j f) (hy : y = if j % 10 = 0 then 1 else 0) : zbF N (j + 1) (vp_updL f (70 * N + j) y) := fun k hk => by
  by_cases e : k = j
  · rw [e, upL_eq]; exact hy
  · rw [upL_ne (by omega)]; exact h k (by omega)
theorem zbF.out {fs : Nat → Int32} {N B j : Nat} {wo : Int32} {f : Nat → Int64} (hj : 70 ≤ j) (h : zbF N j f) : zbR fs N B wo N f := fun i k h1 h2 h3 _ => by
  have e : i = N := by omega
  rw [e, Nat.sub_self]
  exact h k (by omega)
theorem bm_in {v : Nat → Int64} {wo : Int32} {x0 : Int64} {c0 : Int32} : ∀ n : Nat, (∀ b : Nat, b < n → (v b).toInt < x0.toInt) → (bmF v wo x0 c0 n = (x0, c0) ∧ ∀ b : Nat, b < n → nI b = wo) ∨ ∃ c : Nat, c < n ∧ ¬ nI c = wo ∧ (bmF v wo x0 c0 n).1 = v c := by
  intro n
  induction n with
  | zero => intro _; exact Or.inl ⟨rfl, fun b hb => absurd hb (Nat.not_lt_zero b)⟩
  | succ n ih =>
    intro hv
    rw [bm_sc]
    have i9 := ih (fun b hb => hv b (by omega))
    by_cases w : nI n = wo
    · rw [if_pos w]
      rcases i9 with ⟨a, b⟩ | ⟨c, hc, hw, e⟩
      · refine Or.inl ⟨a, fun q hq => ?_⟩
        by_cases e : q = n
        · rw [e]; exact w
        · exact b q (by omega)
      · exact Or.inr ⟨c, by omega, hw, e⟩
    · rw [if_neg w]
      by_cases l : (v n).toInt < (bmF v wo x0 c0 n).1.toInt
      · rw [if_pos l]
        exact Or.inr ⟨n, by omega, w, rfl⟩
      · rw [if_neg l]
        rcases i9 with ⟨a, _⟩ | ⟨c, hc, hw, e⟩
        · rw [a] at l
          exact absurd (hv n (by omega)) l
        · exact Or.inr ⟨c, by omega, hw, e⟩
def CND (B : Nat) (wo : Int32) : Prop := ∃ b : Nat, b < B ∧ ¬ nI b = wo
def HBd (N B : Nat) (H : Nat → Nat → Nat → Int32) : Prop := ∀ i k b : Nat, i < N → k < 70 → (k < 10 ∨ k / 10 ≤ B) → b < B → 0 ≤ (H i k b).toInt ∧ (H i k b).toInt ≤ 20
theorem zbH_b {fs : Nat → Int32} {N B : Nat} (h : OKS fs) (hN : N ≤ 10) (hB : B ≤ 6) : HBd N B (zbH fs) := by
  intro i k b hi hk hv hb
  unfold zbH
  split
  · exact rhNb h (by omega) (by omega)
  · exact rhBb h (by omega) (by omega) (by omega)
theorem farL : FARL.toInt = 4000000000000000000 := by decide
theorem moreL : MORE.toInt = 1152921504606846976 := by decide
theorem zbW_b {H : Nat → Nat → Nat → Int32} {g : Nat → Int64} {N B i k b n : Nat} (hn : n ≤ 9) (hH : HBd N B H) (hi : i < N) (hk : k < 70) (hv : k < 10 ∨ k / 10 ≤ B) (hb : b < B) (hB : B ≤ 6) (hg : ∀ q : Nat, q < 70 → VK B q → 0 ≤ (g q).toInt ∧ (g q).toInt ≤ pwI n) : 0 ≤ (zbW H g i k b).toInt ∧ (zbW H g i k b).toInt ≤ pwI (n + 1) := by
  have r1 := hg (10 * (b + 1) + (k % 10 - 1)) (by omega) (Or.inr (Or.inr (by omega)))
  have r2 := hg (10 * (b + 1) + min 9 (k % 10 + 1)) (by omega) (Or.inr (Or.inr (by omega)))
  have hh := hH i k b hi hk hv hb
  exact mixB hh.1 hh.2 (pwI_b hn).2 r1.1 r1.2 r2.1 r2.2
theorem pwI_s {n : Nat} (h : n ≤ 9) : pwI (n + 1) ≤ 10240000000000 ∧ 1 ≤ pwI (n + 1) := by
  have := pwI_b h
  show pwI n * 20 ≤ _ ∧ 1 ≤ pwI n * 20
  omega
theorem zbV_b {H : Nat → Nat → Nat → Int32} {N B : Nat} {wo : Int32} (hN : N ≤ 10) (hB : B ≤ 6) (hH : HBd N B H) (hw : N = 0 ∨ CND B wo) : ∀ n : Nat, n ≤ N → ∀ k : Nat, k < 70 → VK B k → 0 ≤ (zbV H N B wo n k).toInt ∧ (zbV H N B wo n k).toInt ≤ pwI n := by
  intro n
  induction n with
  | zero =>
    intro _ k _ _
    show 0 ≤ (if k % 10 = 0 then (1 : Int64) else 0).toInt ∧ (if k % 10 = 0 then (1 : Int64) else 0).toInt ≤ 1
    split <;> decide
  | succ n ih =>
    intro hn k hk hv
    have p := pwI_s (n := n) (by omega)
    show 0 ≤ (if k % 10 = 0 then powF (n + 1) else (bmF (zbW H (zbV H N B wo n) (N - (n + 1)) k) wo FARL 0 B).1).toInt ∧ (if k % 10 = 0 then powF (n + 1) else (bmF (zbW H (zbV H N B wo n) (N - (n + 1)) k) wo FARL 0 B).1).toInt ≤ pwI (n + 1)
    by_cases c : k % 10 = 0
    · rw [if_pos c, pwI_t (by omega)]
      exact ⟨by omega, Int.le_refl _⟩
    · rw [if_neg c]
      have hv' : k < 10 ∨ k / 10 ≤ B := by
        unfold VK at hv
        omega
      have wb : ∀ b : Nat, b < B → 0 ≤ (zbW H (zbV H N B wo n) (N - (n + 1)) k b).toInt ∧ (zbW H (zbV H N B wo n) (N - (n + 1)) k b).toInt ≤ pwI (n + 1) := fun b hb => zbW_b (by omega) hH (by omega) hk hv' hb hB (ih (by omega))
      rcases bm_in (v := zbW H (zbV H N B wo n) (N - (n + 1)) k) (wo := wo) (x0 := FARL) (c0 := 0) B (fun b hb => by have := wb b hb; rw [farL]; omega) with ⟨_, q⟩ | ⟨c9, hc, _, e⟩
      · exfalso
        rcases hw with z | ⟨b, hb, z⟩
        · omega
        · exact z (q b hb)
      · rw [e]; exact wb c9 hc
theorem zbV_w {H : Nat → Nat → Nat → Int32} {N B i k b : Nat} {wo : Int32} (hN : N ≤ 10) (hB : B ≤ 6) (hH : HBd N B H) (hw : N = 0 ∨ CND B wo) (hi : i < N) (hk : k < 70) (hv : k < 10 ∨ k / 10 ≤ B) (hb : b < B) : (zbW H (zbV H N B wo (N - (i + 1))) i k b).toInt < FARL.toInt ∧ (zbW H (zbV H N B wo (N - (i + 1))) i k b).toInt < MORE.toInt := by
  have r := zbW_b (n := N - (i + 1)) (by omega) hH hi hk hv hb hB (zbV_b hN hB hH hw (N - (i + 1)) (by omega))
  have p := pwI_s (n := N - (i + 1)) (by omega)
  rw [farL, moreL]
  omega
theorem zbR.b1 {fs : Nat → Int32} {N B i k b : Nat} {wo : Int32} {f : Nat → Int64} (h : zbR fs N B wo 0 f) (hB : B ≤ 6) (hi : i < N) (hb : b < B) : b1 fs f i k b = zbW (zbH fs) (zbV (zbH fs) N B wo (N - (i + 1))) i k b :=
  b1_w (h (i + 1) (10 * (b + 1) + (k % 10 - 1)) (Nat.zero_le _) (by omega) (by omega) (Or.inr (Or.inr (by omega)))) (h (i + 1) (10 * (b + 1) + min 9 (k % 10 + 1)) (Nat.zero_le _) (by omega) (by omega) (Or.inr (Or.inr (by omega))))
theorem b1_N {fs : Nat → Int32} {f : Nat → Int64} {i d b : Nat} (h : d ≤ 9) : b1 fs f i d b = b1N fs f i d b := by
  unfold b1
  rw [if_pos (by omega), Nat.mod_eq_of_lt (by omega)]
theorem b1_B {fs : Nat → Int32} {f : Nat → Int64} {i a d b : Nat} (h : d ≤ 9) : b1 fs f i (10 * (a + 1) + d) b = b1B fs f i a d b := by
  unfold b1
  rw [if_neg (by omega), show (10 * (a + 1) + d) % 10 = d by omega, show (10 * (a + 1) + d) / 10 - 1 = a by omega]
def nxP (fs : Nat → Int32) (N B : Nat) (i k b : Nat) : Prop := zbW (zbH fs) (zbV (zbH fs) N B (-4) (N - (i + 1))) i k b = zbV (zbH fs) N B (-4) (N - i) k
theorem sl_4 {d : Nat} : slotF (-4) d = d := by
  unfold slotF
  rw [if_pos rfl, Nat.zero_mul, Nat.zero_add]
theorem sl_n {a d : Nat} (h : a < 1000) : slotF (nI a) d = 10 * (a + 1) + d := by
  unfold slotF
  have m4 : (-4 : Int32).toInt = -4 := by decide
  rw [if_neg (fun z => by have t := congrArg Int32.toInt z; rw [nI_toInt (by omega), m4] at t; omega), nI_clamp (by omega)]
  omega
theorem zbR.xN {fs : Nat → Int32} {N B i d j : Nat} {f : Nat → Int64} (hB : B ≤ 6) (h : zbR fs N B (-4) 0 f) (hi : i < N) (h2 : d ≤ 9) (hj : j < B) (e : b1N fs f i d j = f (70 * i + d)) (hn : ∀ b8 : Nat, b8 < j → ¬ b1N fs f i d b8 = f (70 * i + d)) : nxP fs N B i (slotF (-4) d) j ∧ ∀ b8 : Nat, b8 < j → ¬ nxP fs N B i (slotF (-4) d) b8 := by
  have e9 := h i d (Nat.zero_le _) (by omega) (by omega) (Or.inr (Or.inl (by omega)))
  have k : ∀ b : Nat, b < B → (nxP fs N B i (slotF (-4) d) b ↔ b1N fs f i d b = f (70 * i + d)) := fun b hb => by
    unfold nxP
    rw [sl_4, ← h.b1 hB hi hb, ← e9, b1_N h2]
  exact ⟨(k j hj).mpr e, fun b8 h8 q => hn b8 h8 ((k b8 (by omega)).mp q)⟩
theorem zbR.xB {fs : Nat → Int32} {N B i a d j : Nat} {f : Nat → Int64} (hB : B ≤ 6) (h : zbR fs N B (-4) 0 f) (hi : i < N) (ha : a < B) (h2 : d ≤ 9) (hj : j < B) (e : b1B fs f i a d j = f (70 * i + 10 * (a + 1) + d)) (hn : ∀ b8 : Nat, b8 < j → ¬ b1B fs f i a d b8 = f (70 * i + 10 * (a + 1) + d)) : nxP fs N B i (slotF (nI a) d) j ∧ ∀ b8 : Nat, b8 < j → ¬ nxP fs N B i (slotF (nI a) d) b8 := by
  have e9 := h i (10 * (a + 1) + d) (Nat.zero_le _) (by omega) (by omega) (Or.inr (Or.inr (by omega)))
  have k : ∀ b : Nat, b < B → (nxP fs N B i (slotF (nI a) d) b ↔ b1B fs f i a d b = f (70 * i + 10 * (a + 1) + d)) := fun b hb => by
    unfold nxP
    rw [sl_n (by omega), ← h.b1 hB hi hb, ← e9, b1_B h2, Nat.add_assoc]
  exact ⟨(k j hj).mpr e, fun b8 h8 q => hn b8 h8 ((k b8 (by omega)).mp q)⟩

set_option maxHeartbeats 4000000 in
set_option maxRecDepth 100000 in
theorem c_X11_layBestE (l : Launch) (dC : Nat → ClassId) (dI : Nat → Nat → Nat) (G : Nat → ClassId) (sz : Nat) (h0 st N B rp tp T cu lt od th be ln S ma M ah bh ik la lg ce : Nat) (wo vrs vrb vhs vca vxs vxb vfa vbr vba vsp vhe vtk vva vto : Int32) (fst : Nat → Int32) (fbe : Nat → Int64) (hN : N ≤ 10) (hB : B ≤ 6) (hT : T ≤ 320) (hS0 : S ≤ 8) (hM : M ≤ 6) (hst : OKS fst) : Met l yX11_layBest (Cond.code yX11_layBest cX11_layBest 8 none :: GT) ({ frames := 3, cells := 0, slots := 0, locals := 75 } : Room) (PcW [.ref h0, .int wo] dC dI G [(h0, .inr (11, [.ref st, .int (nI N), .int (nI B), .ref rp, .int vrs, .int vrb, .int vhs, .int vca, .int vxs, .int vxb, .ref tp, .int (nI T), .int vfa, .int vbr, .int vba, .int vsp, .int vhe, .int vtk, .int vva, .ref cu, .ref lt, .ref od, .ref th, .ref be, .ref ln, .int (nI S), .ref ma, .int (nI M), .ref ah, .ref bh, .ref ik, .ref la, .ref lg, .ref ce, .int vto])), (st, .inl (G 0, 196, .inl fst)), (be, .inl (G 1, 770, .inr (.inl fbe)))] sz) (va_Qv (fun (u : (Nat → Int64)) => match u with | obe => zbR fst N B wo 0 obe) (fun (u : (Nat → Int64)) (t : State) => match u with | obe => va_P (dC, dI) vwCl [(h0, .inr (11, [.ref st, .int (nI N), .int (nI B), .ref rp, .int vrs, .int vrb, .int vhs, .int vca, .int vxs, .int vxb, .ref tp, .int (nI T), .int vfa, .int vbr, .int vba, .int vsp, .int vhe, .int vtk, .int vva, .ref cu, .ref lt, .ref od, .ref th, .ref be, .ref ln, .int (nI S), .ref ma, .int (nI M), .ref ah, .ref bh, .ref ik, .ref la, .ref lg, .ref ce, .int vto])), (st, .inl (G 0, 196, .inl fst)), (be, .inl (G 1, 770, .inr (.inl obe)))] t.heap ∧ va_D (va_A [(h0, .inr (11, [.ref st, .int (nI N), .int (nI B), .ref rp, .int vrs, .int vrb, .int vhs, .int vca, .int vxs, .int vxb, .ref tp, .int (nI T), .int vfa, .int vbr, .int vba, .int vsp, .int vhe, .int vtk, .int vva, .ref cu, .ref lt, .ref od, .ref th, .ref be, .ref ln, .int (nI S), .ref ma, .int (nI M), .ref ah, .ref bh, .ref ik, .ref la, .ref lg, .ref ce, .int vto])), (st, .inl (G 0, 196, .inl fst)), (be, .inl (G 1, 770, .inr (.inl fbe)))] sz) [(h0, .inr (11, [.ref st, .int (nI N), .int (nI B), .ref rp, .int vrs, .int vrb, .int vhs, .int vca, .int vxs, .int vxb, .ref tp, .int (nI T), .int vfa, .int vbr, .int vba, .int vsp, .int vhe, .int vtk, .int vva, .ref cu, .ref lt, .ref od, .ref th, .ref be, .ref ln, .int (nI S), .ref ma, .int (nI M), .ref ah, .ref bh, .ref ik, .ref la, .ref lg, .ref ce, .int vto])), (st, .inl (G 0, 196, .inl fst)), (be, .inl (G 1, 770, .inr (.inl obe)))]) (va_A [(h0, .inr (11, [.ref st, .int (nI N), .int (nI B), .ref rp, .int vrs, .int vrb, .int vhs, .int vca, .int vxs, .int vxb, .ref tp, .int (nI T), .int vfa, .int vbr, .int vba, .int vsp, .int vhe, .int vtk, .int vva, .ref cu, .ref lt, .ref od, .ref th, .ref be, .ref ln, .int (nI S), .ref ma, .int (nI M), .ref ah, .ref bh, .ref ik, .ref la, .ref lg, .ref ce, .int vto])), (st, .inl (G 0, 196, .inl fst)), (be, .inl (G 1, 770, .inr (.inl fbe)))] sz)) 0 0 (va_A [(h0, .inr (11, [.ref st, .int (nI N), .int (nI B), .ref rp, .int vrs, .int vrb, .int vhs, .int vca, .int vxs, .int vxb, .ref tp, .int (nI T), .int vfa, .int vbr, .int vba, .int vsp, .int vhe, .int vtk, .int vva, .ref cu, .ref lt, .ref od, .ref th, .ref be, .ref ln, .int (nI S), .ref ma, .int (nI M), .ref ah, .ref bh, .ref ik, .ref la, .ref lg, .ref ce, .int vto])), (st, .inl (G 0, 196, .inl fst)), (be, .inl (G 1, 770, .inr (.inl fbe)))] sz) := by
  have hB_ := hB
  have hM_ := hM
  have hT_ := hT
  have tn2639_ : nIT N := fun _ => nI_toInt (by omega)
  have tn2640_ : nIT B := fun _ => nI_toInt (by omega)
  have tn2641_ : nIT T := fun _ => nI_toInt (by omega)
  have tn2642_ : nIT S := fun _ => nI_toInt (by omega)
  have tn2643_ : nIT M := fun _ => nI_toInt (by omega)
  refine Met.ofW (cc := cX11_layBest) (maxL := 8) (ret := none) (by decide) rfl ?_
  intro p e s m args below meth c s₁ Bd hml hv
  obtain ⟨rfl, hsz, hP, hK, hD0⟩ := hv
  have hx := Bd.exec
  have hb := Bd.bytes
  have hr := Bd.returns
  have hg : ∀ w ∈ GT, w.before ([.ref h0, .int wo] : List Value).toArray s = true := fun w h => atoms_spec (ws := Cond.code yX11_layBest cX11_layBest 8 none :: GT) Bd.pre w (List.mem_cons_of_mem _ h)
  have hown : s.vm.findClass RX11 = some m.cls := findClass_of_methodNamed Bd.named
  have hlocks := Bd.notSynchronized
  subst hsz
  have hD := hD0.self (sz := s.heap.size)
  generalize hAe : va_A [(h0, .inr (11, [.ref st, .int (nI N), .int (nI B), .ref rp, .int vrs, .int vrb, .int vhs, .int vca, .int vxs, .int vxb, .ref tp, .int (nI T), .int vfa, .int vbr, .int vba, .int vsp, .int vhe, .int vtk, .int vva, .ref cu, .ref lt, .ref od, .ref th, .ref be, .ref ln, .int (nI S), .ref ma, .int (nI M), .ref ah, .ref bh, .ref ik, .ref la, .ref lg, .ref ce, .int vto])), (st, .inl (G 0, 196, .inl fst)), (be, .inl (G 1, 770, .inr (.inl fbe)))] s.heap.size = A at hD ⊢
  have hA : ∀ q : Nat, s.heap.size ≤ q → A q := fun q h => by rw [← hAe]; exact Or.inr h
  have hS : va_S A s.heap s.heap [] := va_S.rf
  have hl := lv_entry ([.ref h0, .int wo]) (n := 8) (Nat.le_of_ble_eq_true rfl)
  rw [lg_entry_eq]
  generalize (lg_sl ([.ref h0, .int wo]) ++ List.replicate (8 - (lg_sl ([.ref h0, .int wo])).length) Slot.unset).toArray = ls at hl ⊢
  have hl : lv_has ls 8 [(0, .ref h0), (1, .int wo)] := hl
  refine lv_iconst (v := 0) hx hb dX11_layBest_0 rfl ?_
  refine lv_istore_n (lv' := [(2, .int 0), (0, .ref h0), (1, .int wo)]) hx hb dX11_layBest_1 rfl hl (by decide) rfl (fun ls hl => ?_)
  have loop2_3 : ∀ (nf j1 : Nat), 70 + 1 ≤ j1 + nf → j1 ≤ 70 → ∀ (g2 : Nat → Int64) (H : Heap) (locs : List Loc), zbF N j1 g2 → va_P (dC, dI) vwCl [(h0, .inr (11, [.ref st, .int (nI N), .int (nI B), .ref rp, .int vrs, .int vrb, .int vhs, .int vca, .int vxs, .int vxb, .ref tp, .int (nI T), .int vfa, .int vbr, .int vba, .int vsp, .int vhe, .int vtk, .int vva, .ref cu, .ref lt, .ref od, .ref th, .ref be, .ref ln, .int (nI S), .ref ma, .int (nI M), .ref ah, .ref bh, .ref ik, .ref la, .ref lg, .ref ce, .int vto])), (st, .inl (G 0, 196, .inl fst)), (be, .inl (G 1, 770, .inr (.inl g2)))] H → va_D A [(h0, .inr (11, [.ref st, .int (nI N), .int (nI B), .ref rp, .int vrs, .int vrb, .int vhs, .int vca, .int vxs, .int vxb, .ref tp, .int (nI T), .int vfa, .int vbr, .int vba, .int vsp, .int vhe, .int vtk, .int vva, .ref cu, .ref lt, .ref od, .ref th, .ref be, .ref ln, .int (nI S), .ref ma, .int (nI M), .ref ah, .ref bh, .ref ik, .ref la, .ref lg, .ref ce, .int vto])), (st, .inl (G 0, 196, .inl fst)), (be, .inl (G 1, 770, .inr (.inl g2)))] → va_S A s.heap H locs → ∀ (ls : Array Slot), lv_has ls 8 [(2, .int (nI j1)), (0, .ref h0), (1, .int wo)] → W p l e (headSpec (Cond.code yX11_layBest cX11_layBest 8 none :: GT) ({ frames := 3, cells := 0, slots := 0, locals := 75 } : Room)).room s m ([.ref h0, .int wo] : List Value).toArray below meth c H locs 0 0 (MQ below (va_Qv (fun (u : (Nat → Int64)) => match u with | obe => zbR fst N B wo 0 obe) (fun (u : (Nat → Int64)) (t : State) => match u with | obe => va_P (dC, dI) vwCl [(h0, .inr (11, [.ref st, .int (nI N), .int (nI B), .ref rp, .int vrs, .int vrb, .int vhs, .int vca, .int vxs, .int vxb, .ref tp, .int (nI T), .int vfa, .int vbr, .int vba, .int vsp, .int vhe, .int vtk, .int vva, .ref cu, .ref lt, .ref od, .ref th, .ref be, .ref ln, .int (nI S), .ref ma, .int (nI M), .ref ah, .ref bh, .ref ik, .ref la, .ref lg, .ref ce, .int vto])), (st, .inl (G 0, 196, .inl fst)), (be, .inl (G 1, 770, .inr (.inl obe)))] t.heap ∧ va_D A [(h0, .inr (11, [.ref st, .int (nI N), .int (nI B), .ref rp, .int vrs, .int vrb, .int vhs, .int vca, .int vxs, .int vxb, .ref tp, .int (nI T), .int vfa, .int vbr, .int vba, .int vsp, .int vhe, .int vtk, .int vva, .ref cu, .ref lt, .ref od, .ref th, .ref be, .ref ln, .int (nI S), .ref ma, .int (nI M), .ref ah, .ref bh, .ref ik, .ref la, .ref lg, .ref ce, .int vto])), (st, .inl (G 0, 196, .inl fst)), (be, .inl (G 1, 770, .inr (.inl obe)))]) A) ([.ref h0, .int wo] : List Value).toArray s 0 0 A) (F0 m 2 ls []) := by
    intro nf
    induction nf with
    | zero => intro j1 h1 h2; exact absurd h1 (by omega)
    | succ nf ih2_3 =>
      intro j1 hn4 hj5 g2 H locs hinv hP hD hS ls hl
      refine lv_iload_n hx hb dX11_layBest_2 rfl (lv_at hl 0 rfl) ?_
      refine lv_bipush (v := 70) hx hb dX11_layBest_3 rfl ?_
      refine lv_icmp_ge (tgt := 40) hx hb dX11_layBest_5 rfl (fun c6 => ?_) (fun c6 => ?_)
      · skip
        have tn2644_ : nIT j1 := fun _ => nI_toInt (by first | omega | (have t := leI c6; omega))
        have n7 : 70 ≤ j1 := by have t := leI c6; rw [show (nI (j1)).toInt = ((j1 : Nat) : Int) from tn2644_ ()] at t; have : (70 : Int32).toInt = 70 := qI_70; omega
        refine lv_aload_n hx hb dX11_layBest_40 rfl (lv_at hl 1 rfl) ?_
        refine va_get (D := (dC, dI)) (ci := 11) (v := .int (nI N)) (C := RX11) (T := TX11) (N := 35) hx hb hg inG11 hown hK.1 hP 0 rfl rfl 1 (Nat.le_of_ble_eq_true rfl) (hg _ wt_879) (fun _ h9 => h9) rfl dX11_layBest_41 ?_
        refine lv_iconst (v := 1) hx hb dX11_layBest_44 rfl ?_
        refine lv_isub hx hb dX11_layBest_45 ?_
        refine lv_istore_n (lv' := [(2, .int ((nI N) - 1)), (0, .ref h0), (1, .int wo)]) hx hb dX11_layBest_46 rfl hl (by decide) rfl (fun ls hl => ?_)
        rw [dn_sub] at hl
        have loop47_10 : ∀ (j8 : Nat), j8 ≤ N → ∀ (g9 : Nat → Int64) (H : Heap) (locs : List Loc), zbR fst N B wo j8 g9 → va_P (dC, dI) vwCl [(h0, .inr (11, [.ref st, .int (nI N), .int (nI B), .ref rp, .int vrs, .int vrb, .int vhs, .int vca, .int vxs, .int vxb, .ref tp, .int (nI T), .int vfa, .int vbr, .int vba, .int vsp, .int vhe, .int vtk, .int vva, .ref cu, .ref lt, .ref od, .ref th, .ref be, .ref ln, .int (nI S), .ref ma, .int (nI M), .ref ah, .ref bh, .ref ik, .ref la, .ref lg, .ref ce, .int vto])), (st, .inl (G 0, 196, .inl fst)), (be, .inl (G 1, 770, .inr (.inl g9)))] H → va_D A [(h0, .inr (11, [.ref st, .int (nI N), .int (nI B), .ref rp, .int vrs, .int vrb, .int vhs, .int vca, .int vxs, .int vxb, .ref tp, .int (nI T), .int vfa, .int vbr, .int vba, .int vsp, .int vhe, .int vtk, .int vva, .ref cu, .ref lt, .ref od, .ref th, .ref be, .ref ln, .int (nI S), .ref ma, .int (nI M), .ref ah, .ref bh, .ref ik, .ref la, .ref lg, .ref ce, .int vto])), (st, .inl (G 0, 196, .inl fst)), (be, .inl (G 1, 770, .inr (.inl g9)))] → va_S A s.heap H locs → ∀ (ls : Array Slot), lv_has ls 8 [(2, .int (dn j8)), (0, .ref h0), (1, .int wo)] → W p l e (headSpec (Cond.code yX11_layBest cX11_layBest 8 none :: GT) ({ frames := 3, cells := 0, slots := 0, locals := 75 } : Room)).room s m ([.ref h0, .int wo] : List Value).toArray below meth c H locs 0 0 (MQ below (va_Qv (fun (u : (Nat → Int64)) => match u with | obe => zbR fst N B wo 0 obe) (fun (u : (Nat → Int64)) (t : State) => match u with | obe => va_P (dC, dI) vwCl [(h0, .inr (11, [.ref st, .int (nI N), .int (nI B), .ref rp, .int vrs, .int vrb, .int vhs, .int vca, .int vxs, .int vxb, .ref tp, .int (nI T), .int vfa, .int vbr, .int vba, .int vsp, .int vhe, .int vtk, .int vva, .ref cu, .ref lt, .ref od, .ref th, .ref be, .ref ln, .int (nI S), .ref ma, .int (nI M), .ref ah, .ref bh, .ref ik, .ref la, .ref lg, .ref ce, .int vto])), (st, .inl (G 0, 196, .inl fst)), (be, .inl (G 1, 770, .inr (.inl obe)))] t.heap ∧ va_D A [(h0, .inr (11, [.ref st, .int (nI N), .int (nI B), .ref rp, .int vrs, .int vrb, .int vhs, .int vca, .int vxs, .int vxb, .ref tp, .int (nI T), .int vfa, .int vbr, .int vba, .int vsp, .int vhe, .int vtk, .int vva, .ref cu, .ref lt, .ref od, .ref th, .ref be, .ref ln, .int (nI S), .ref ma, .int (nI M), .ref ah, .ref bh, .ref ik, .ref la, .ref lg, .ref ce, .int vto])), (st, .inl (G 0, 196, .inl fst)), (be, .inl (G 1, 770, .inr (.inl obe)))]) A) ([.ref h0, .int wo] : List Value).toArray s 0 0 A) (F0 m 47 ls []) := by
          intro j8
          induction j8 with
          | zero =>
            intro hj11 g9 H locs hinv hP hD hS ls hl
            have hl : lv_has ls 8 [(2, .int (-1)), (0, .ref h0), (1, .int wo)] := hl
            refine lv_iload_n hx hb dX11_layBest_47 rfl (lv_at hl 0 rfl) ?_
            refine lv_if_lt (tgt := 235) hx hb dX11_layBest_48 rfl (fun c12 => ?_) (fun c12 => ?_)
            · skip
              obtain ⟨hP9, hD9⟩ := va_sub2 (ws' := [(h0, .inr (11, [.ref st, .int (nI N), .int (nI B), .ref rp, .int vrs, .int vrb, .int vhs, .int vca, .int vxs, .int vxb, .ref tp, .int (nI T), .int vfa, .int vbr, .int vba, .int vsp, .int vhe, .int vtk, .int vva, .ref cu, .ref lt, .ref od, .ref th, .ref be, .ref ln, .int (nI S), .ref ma, .int (nI M), .ref ah, .ref bh, .ref ik, .ref la, .ref lg, .ref ce, .int vto])), (st, .inl (G 0, 196, .inl fst)), (be, .inl (G 1, 770, .inr (.inl g9)))]) hP hD [0, 1, 2] (by decide +kernel) rfl
              refine W.widen (k := 0) (n := 0) (Nat.le_of_ble_eq_true rfl) (Nat.le_of_ble_eq_true rfl) ?_
              exact W.vret hx hb hr (fun t ht hW => ⟨⟨g9, rfl, hinv, ⟨by rw [ht]; exact hP9, hD9⟩⟩, hS.F ht⟩) hS.2.2 dX11_layBest_235
            · skip
              exact absurd c12 (by decide)
          | succ j8 ih47_10 =>
            intro hj11 g9 H locs hinv hP hD hS ls hl
            have hl : lv_has ls 8 [(2, .int (nI j8)), (0, .ref h0), (1, .int wo)] := hl
            refine lv_iload_n hx hb dX11_layBest_47 rfl (lv_at hl 0 rfl) ?_
            refine lv_if_lt (tgt := 235) hx hb dX11_layBest_48 rfl (fun c13 => ?_) (fun c13 => ?_)
            · skip
              have t_hj5 := hj5
              have t_n7 := n7
              have t_hj11 := hj11
              have t_c13 := ltI c13
              have : (0 : Int32).toInt = 0 := qI_0
              have t_n0 : (nI N).toInt = (N : Int) := tn2639_ ()
              have t_n1 : (nI B).toInt = (B : Int) := tn2640_ ()
              have t_n2 : (nI T).toInt = (T : Int) := tn2641_ ()
              have t_n3 : (nI S).toInt = (S : Int) := tn2642_ ()
              have t_n4 : (nI M).toInt = (M : Int) := tn2643_ ()
              have t_n5 : (nI j1).toInt = (j1 : Int) := tn2644_ ()
              have tn2645_ : nIT j8 := fun _ => nI_toInt (by omega)
              have t_n6 : (nI j8).toInt = (j8 : Int) := tn2645_ ()
              exfalso; omega
            · skip
              have tn2646_ : nIT j8 := fun _ => nI_toInt (by first | omega | (have t := nltI c13; omega))
              have n14 : 0 ≤ j8 := by have t := nltI c13; rw [show (nI (j8)).toInt = ((j8 : Nat) : Int) from tn2646_ ()] at t; have : (0 : Int32).toInt = 0 := qI_0; omega
              refine lv_iconst (v := 0) hx hb dX11_layBest_51 rfl ?_
              refine lv_istore_n (lv' := [(3, .int 0), (2, .int (nI j8)), (0, .ref h0), (1, .int wo)]) hx hb dX11_layBest_52 rfl hl (by decide) rfl (fun ls hl => ?_)
              have loop53_17 : ∀ (nf j15 : Nat), 70 + 1 ≤ j15 + nf → j15 ≤ 70 → ∀ (g16 : Nat → Int64) (H : Heap) (locs : List Loc), zbK fst N B wo j8 j15 g16 → va_P (dC, dI) vwCl [(h0, .inr (11, [.ref st, .int (nI N), .int (nI B), .ref rp, .int vrs, .int vrb, .int vhs, .int vca, .int vxs, .int vxb, .ref tp, .int (nI T), .int vfa, .int vbr, .int vba, .int vsp, .int vhe, .int vtk, .int vva, .ref cu, .ref lt, .ref od, .ref th, .ref be, .ref ln, .int (nI S), .ref ma, .int (nI M), .ref ah, .ref bh, .ref ik, .ref la, .ref lg, .ref ce, .int vto])), (st, .inl (G 0, 196, .inl fst)), (be, .inl (G 1, 770, .inr (.inl g16)))] H → va_D A [(h0, .inr (11, [.ref st, .int (nI N), .int (nI B), .ref rp, .int vrs, .int vrb, .int vhs, .int vca, .int vxs, .int vxb, .ref tp, .int (nI T), .int vfa, .int vbr, .int vba, .int vsp, .int vhe, .int vtk, .int vva, .ref cu, .ref lt, .ref od, .ref th, .ref be, .ref ln, .int (nI S), .ref ma, .int (nI M), .ref ah, .ref bh, .ref ik, .ref la, .ref lg, .ref ce, .int vto])), (st, .inl (G 0, 196, .inl fst)), (be, .inl (G 1, 770, .inr (.inl g16)))] → va_S A s.heap H locs → ∀ (ls : Array Slot), lv_has ls 8 [(3, .int (nI j15)), (2, .int (nI j8)), (0, .ref h0), (1, .int wo)] → W p l e (headSpec (Cond.code yX11_layBest cX11_layBest 8 none :: GT) ({ frames := 3, cells := 0, slots := 0, locals := 75 } : Room)).room s m ([.ref h0, .int wo] : List Value).toArray below meth c H locs 0 0 (MQ below (va_Qv (fun (u : (Nat → Int64)) => match u with | obe => zbR fst N B wo 0 obe) (fun (u : (Nat → Int64)) (t : State) => match u with | obe => va_P (dC, dI) vwCl [(h0, .inr (11, [.ref st, .int (nI N), .int (nI B), .ref rp, .int vrs, .int vrb, .int vhs, .int vca, .int vxs, .int vxb, .ref tp, .int (nI T), .int vfa, .int vbr, .int vba, .int vsp, .int vhe, .int vtk, .int vva, .ref cu, .ref lt, .ref od, .ref th, .ref be, .ref ln, .int (nI S), .ref ma, .int (nI M), .ref ah, .ref bh, .ref ik, .ref la, .ref lg, .ref ce, .int vto])), (st, .inl (G 0, 196, .inl fst)), (be, .inl (G 1, 770, .inr (.inl obe)))] t.heap ∧ va_D A [(h0, .inr (11, [.ref st, .int (nI N), .int (nI B), .ref rp, .int vrs, .int vrb, .int vhs, .int vca, .int vxs, .int vxb, .ref tp, .int (nI T), .int vfa, .int vbr, .int vba, .int vsp, .int vhe, .int vtk, .int vva, .ref cu, .ref lt, .ref od, .ref th, .ref be, .ref ln, .int (nI S), .ref ma, .int (nI M), .ref ah, .ref bh, .ref ik, .ref la, .ref lg, .ref ce, .int vto])), (st, .inl (G 0, 196, .inl fst)), (be, .inl (G 1, 770, .inr (.inl obe)))]) A) ([.ref h0, .int wo] : List Value).toArray s 0 0 A) (F0 m 53 ls []) := by
                intro nf
                induction nf with
                | zero => intro j15 h1 h2; exact absurd h1 (by omega)
                | succ nf ih53_17 =>
                  intro j15 hn18 hj19 g16 H locs hinv hP hD hS ls hl
                  refine lv_iload_n hx hb dX11_layBest_53 rfl (lv_at hl 0 rfl) ?_
                  refine lv_bipush (v := 70) hx hb dX11_layBest_54 rfl ?_
                  refine lv_icmp_ge (tgt := 229) hx hb dX11_layBest_56 rfl (fun c20 => ?_) (fun c20 => ?_)
                  · skip
                    have tn2647_ : nIT j15 := fun _ => nI_toInt (by first | omega | (have t := leI c20; omega))
                    have n21 : 70 ≤ j15 := by have t := leI c20; rw [show (nI (j15)).toInt = ((j15 : Nat) : Int) from tn2647_ ()] at t; have : (70 : Int32).toInt = 70 := qI_70; omega
                    refine lv_iinc (v := dn j8) (lv' := [(2, .int (dn j8)), (3, .int (nI j15)), (0, .ref h0), (1, .int wo)]) hx hb dX11_layBest_229 hl (k := 1) rfl (by exact dn_pred _) (by decide) rfl (fun ls hl => ?_)
                    refine lv_goto (tgt := 47) hx hb dX11_layBest_232 rfl ?_
                    exact ih47_10 (by omega) g16 _ _ (zbK.out (by have t_hj5 := hj5; have t_n7 := n7; have t_hj11 := hj11; have t_n14 := n14; have t_hj19 := hj19; have t_n21 := n21; have tnb_ := nib8 tn2639_ tn2640_ tn2641_ tn2642_ tn2643_ tn2644_ tn2646_ tn2647_; omega) hinv) hP hD hS ls (lv_sub hl [0, 2, 3] rfl)
                  · skip
                    have tn2648_ : nIT j15 := fun _ => nI_toInt (by first | omega | (have t := nleI c20; omega))
                    have n22 : j15 < 70 := by have t := nleI c20; rw [show (nI (j15)).toInt = ((j15 : Nat) : Int) from tn2648_ ()] at t; have : (70 : Int32).toInt = 70 := qI_70; omega
                    refine lv_iload_n hx hb dX11_layBest_59 rfl (lv_at hl 0 rfl) ?_
                    refine lv_bipush (v := 10) hx hb dX11_layBest_60 rfl ?_
                    refine lv_icmp_ge (tgt := 70) hx hb dX11_layBest_62 rfl (fun c23 => ?_) (fun c23 => ?_)
                    · skip
                      have n24 : 10 ≤ j15 := by have t := leI c23; rw [show (nI (j15)).toInt = ((j15 : Nat) : Int) from tn2648_ ()] at t; have : (10 : Int32).toInt = 10 := qI_10; omega
                      refine lv_iload_n hx hb dX11_layBest_70 rfl (lv_at hl 0 rfl) ?_
                      refine lv_bipush (v := 10) hx hb dX11_layBest_71 rfl ?_
                      refine lv_idiv hx hb dX11_layBest_73 (by decide) ?_
                      refine lv_cg (y := nI (j15 / 10)) (by rw [show (10 : Int32) = nI 10 from rfl]; exact pk_div (by omega) (by omega) (by omega)) ?_
                      refine lv_iconst (v := 1) hx hb dX11_layBest_74 rfl ?_
                      refine lv_isub hx hb dX11_layBest_75 ?_
                      refine lv_cg (y := nI ((j15 / 10) - 1)) (by rw [show (1 : Int32) = nI 1 from rfl]; exact pk_sub (by omega)) ?_
                      refine lv_istore (lv' := [(4, .int (nI ((j15 / 10) - 1))), (3, .int (nI j15)), (2, .int (nI j8)), (0, .ref h0), (1, .int wo)]) hx hb dX11_layBest_76 hl (by decide) rfl (fun ls hl => ?_)
                      refine lv_aload_n hx hb dX11_layBest_78 rfl (lv_at hl 3 rfl) ?_
                      refine va_get (D := (dC, dI)) (ci := 11) (v := .ref be) (C := RX11) (T := TX11) (N := 35) hx hb hg inG11 hown hK.1 hP 0 rfl rfl 23 (Nat.le_of_ble_eq_true rfl) (hg _ wt_901) (fun _ h9 => h9) rfl dX11_layBest_79 ?_
                      refine lv_bipush (v := 70) hx hb dX11_layBest_82 rfl ?_
                      refine lv_iload_n hx hb dX11_layBest_84 rfl (lv_at hl 2 rfl) ?_
                      refine lv_imul hx hb dX11_layBest_85 ?_
                      refine lv_cg (y := nI (70 * j8)) (by rw [show (70 : Int32) = nI 70 from rfl]; exact pk_mul _ _) ?_
                      refine lv_iload_n hx hb dX11_layBest_86 rfl (lv_at hl 1 rfl) ?_
                      refine lv_iadd hx hb dX11_layBest_87 ?_
                      refine lv_cg (y := nI ((70 * j8) + j15)) (by exact nI_add _ _) ?_
                      refine lv_iload_n hx hb dX11_layBest_88 rfl (lv_at hl 1 rfl) ?_
                      refine lv_bipush (v := 10) hx hb dX11_layBest_89 rfl ?_
                      refine lv_irem hx hb dX11_layBest_91 (by decide) ?_
                      refine lv_cg (y := nI (j15 % 10)) (by rw [show (10 : Int32) = nI 10 from rfl]; exact pk_rem (by omega) (by omega) (by omega)) ?_
                      have cut110_26 : ∀ (y25 : Int64) (H : Heap) (locs : List Loc), ((j15 % 10 = 0 ∧ y25 = powF (N - j8)) ∨ (j15 % 10 ≠ 0 ∧ y25 = 4000000000000000000)) → va_P (dC, dI) vwCl [(h0, .inr (11, [.ref st, .int (nI N), .int (nI B), .ref rp, .int vrs, .int vrb, .int vhs, .int vca, .int vxs, .int vxb, .ref tp, .int (nI T), .int vfa, .int vbr, .int vba, .int vsp, .int vhe, .int vtk, .int vva, .ref cu, .ref lt, .ref od, .ref th, .ref be, .ref ln, .int (nI S), .ref ma, .int (nI M), .ref ah, .ref bh, .ref ik, .ref la, .ref lg, .ref ce, .int vto])), (st, .inl (G 0, 196, .inl fst)), (be, .inl (G 1, 770, .inr (.inl g16)))] H → va_D A [(h0, .inr (11, [.ref st, .int (nI N), .int (nI B), .ref rp, .int vrs, .int vrb, .int vhs, .int vca, .int vxs, .int vxb, .ref tp, .int (nI T), .int vfa, .int vbr, .int vba, .int vsp, .int vhe, .int vtk, .int vva, .ref cu, .ref lt, .ref od, .ref th, .ref be, .ref ln, .int (nI S), .ref ma, .int (nI M), .ref ah, .ref bh, .ref ik, .ref la, .ref lg, .ref ce, .int vto])), (st, .inl (G 0, 196, .inl fst)), (be, .inl (G 1, 770, .inr (.inl g16)))] → va_S A s.heap H locs → ∀ (ls : Array Slot), lv_has ls 8 [(4, .int (nI ((j15 / 10) - 1))), (3, .int (nI j15)), (2, .int (nI j8)), (0, .ref h0), (1, .int wo)] → W p l e (headSpec (Cond.code yX11_layBest cX11_layBest 8 none :: GT) ({ frames := 3, cells := 0, slots := 0, locals := 75 } : Room)).room s m ([.ref h0, .int wo] : List Value).toArray below meth c H locs 0 0 (MQ below (va_Qv (fun (u : (Nat → Int64)) => match u with | obe => zbR fst N B wo 0 obe) (fun (u : (Nat → Int64)) (t : State) => match u with | obe => va_P (dC, dI) vwCl [(h0, .inr (11, [.ref st, .int (nI N), .int (nI B), .ref rp, .int vrs, .int vrb, .int vhs, .int vca, .int vxs, .int vxb, .ref tp, .int (nI T), .int vfa, .int vbr, .int vba, .int vsp, .int vhe, .int vtk, .int vva, .ref cu, .ref lt, .ref od, .ref th, .ref be, .ref ln, .int (nI S), .ref ma, .int (nI M), .ref ah, .ref bh, .ref ik, .ref la, .ref lg, .ref ce, .int vto])), (st, .inl (G 0, 196, .inl fst)), (be, .inl (G 1, 770, .inr (.inl obe)))] t.heap ∧ va_D A [(h0, .inr (11, [.ref st, .int (nI N), .int (nI B), .ref rp, .int vrs, .int vrb, .int vhs, .int vca, .int vxs, .int vxb, .ref tp, .int (nI T), .int vfa, .int vbr, .int vba, .int vsp, .int vhe, .int vtk, .int vva, .ref cu, .ref lt, .ref od, .ref th, .ref be, .ref ln, .int (nI S), .ref ma, .int (nI M), .ref ah, .ref bh, .ref ik, .ref la, .ref lg, .ref ce, .int vto])), (st, .inl (G 0, 196, .inl fst)), (be, .inl (G 1, 770, .inr (.inl obe)))]) A) ([.ref h0, .int wo] : List Value).toArray s 0 0 A) (F0 m 110 ls [.long y25, .int (nI ((70 * j8) + j15)), .ref be]) := by
                        intro y25 H locs hcut hP hD hS ls hl
                        refine va_last hx hb hK.1 hP hD hS 2 1 rfl rfl (vp_in_nI (by first | omega | (have t_hj5 := hj5; have t_n7 := n7; have t_hj11 := hj11; have t_n14 := n14; have t_hj19 := hj19; have t_n22 := n22; have t_n24 := n24; have tnb_ := nib8 tn2639_ tn2640_ tn2641_ tn2642_ tn2643_ tn2644_ tn2646_ tn2648_; have t_n8 : (nI ((j15 / 10) - 1)).toInt = ((((j15 / 10) - 1) : Nat) : Int) := nI_toInt (by omega); omega)) (by decide)) dX11_layBest_110 (fun H locs hP hD hS => ?_)
                        rw [nI_clamp (by omega)] at hP hD
                        refine lv_iconst (v := 0) hx hb dX11_layBest_111 rfl ?_
                        refine lv_istore (lv' := [(5, .int 0), (4, .int (nI ((j15 / 10) - 1))), (3, .int (nI j15)), (2, .int (nI j8)), (0, .ref h0), (1, .int wo)]) hx hb dX11_layBest_112 hl (by decide) rfl (fun ls hl => ?_)
                        have loop114_29 : ∀ (nf j27 : Nat), B + 1 ≤ j27 + nf → j27 ≤ B → ∀ (g28 : Nat → Int64) (H : Heap) (locs : List Loc), zbB fst N B wo j8 j15 j27 g28 → va_P (dC, dI) vwCl [(h0, .inr (11, [.ref st, .int (nI N), .int (nI B), .ref rp, .int vrs, .int vrb, .int vhs, .int vca, .int vxs, .int vxb, .ref tp, .int (nI T), .int vfa, .int vbr, .int vba, .int vsp, .int vhe, .int vtk, .int vva, .ref cu, .ref lt, .ref od, .ref th, .ref be, .ref ln, .int (nI S), .ref ma, .int (nI M), .ref ah, .ref bh, .ref ik, .ref la, .ref lg, .ref ce, .int vto])), (st, .inl (G 0, 196, .inl fst)), (be, .inl (G 1, 770, .inr (.inl g28)))] H → va_D A [(h0, .inr (11, [.ref st, .int (nI N), .int (nI B), .ref rp, .int vrs, .int vrb, .int vhs, .int vca, .int vxs, .int vxb, .ref tp, .int (nI T), .int vfa, .int vbr, .int vba, .int vsp, .int vhe, .int vtk, .int vva, .ref cu, .ref lt, .ref od, .ref th, .ref be, .ref ln, .int (nI S), .ref ma, .int (nI M), .ref ah, .ref bh, .ref ik, .ref la, .ref lg, .ref ce, .int vto])), (st, .inl (G 0, 196, .inl fst)), (be, .inl (G 1, 770, .inr (.inl g28)))] → va_S A s.heap H locs → ∀ (ls : Array Slot), lv_has ls 8 [(5, .int (nI j27)), (4, .int (nI ((j15 / 10) - 1))), (3, .int (nI j15)), (2, .int (nI j8)), (0, .ref h0), (1, .int wo)] → W p l e (headSpec (Cond.code yX11_layBest cX11_layBest 8 none :: GT) ({ frames := 3, cells := 0, slots := 0, locals := 75 } : Room)).room s m ([.ref h0, .int wo] : List Value).toArray below meth c H locs 0 0 (MQ below (va_Qv (fun (u : (Nat → Int64)) => match u with | obe => zbR fst N B wo 0 obe) (fun (u : (Nat → Int64)) (t : State) => match u with | obe => va_P (dC, dI) vwCl [(h0, .inr (11, [.ref st, .int (nI N), .int (nI B), .ref rp, .int vrs, .int vrb, .int vhs, .int vca, .int vxs, .int vxb, .ref tp, .int (nI T), .int vfa, .int vbr, .int vba, .int vsp, .int vhe, .int vtk, .int vva, .ref cu, .ref lt, .ref od, .ref th, .ref be, .ref ln, .int (nI S), .ref ma, .int (nI M), .ref ah, .ref bh, .ref ik, .ref la, .ref lg, .ref ce, .int vto])), (st, .inl (G 0, 196, .inl fst)), (be, .inl (G 1, 770, .inr (.inl obe)))] t.heap ∧ va_D A [(h0, .inr (11, [.ref st, .int (nI N), .int (nI B), .ref rp, .int vrs, .int vrb, .int vhs, .int vca, .int vxs, .int vxb, .ref tp, .int (nI T), .int vfa, .int vbr, .int vba, .int vsp, .int vhe, .int vtk, .int vva, .ref cu, .ref lt, .ref od, .ref th, .ref be, .ref ln, .int (nI S), .ref ma, .int (nI M), .ref ah, .ref bh, .ref ik, .ref la, .ref lg, .ref ce, .int vto])), (st, .inl (G 0, 196, .inl fst)), (be, .inl (G 1, 770, .inr (.inl obe)))]) A) ([.ref h0, .int wo] : List Value).toArray s 0 0 A) (F0 m 114 ls []) := by
                          intro nf
                          induction nf with
                          | zero => intro j27 h1 h2; exact absurd h1 (by omega)
                          | succ nf ih114_29 =>
                            intro j27 hn30 hj31 g28 H locs hinv hP hD hS ls hl
                            refine lv_iload hx hb dX11_layBest_114 (lv_at hl 0 rfl) ?_
                            refine lv_aload_n hx hb dX11_layBest_116 rfl (lv_at hl 4 rfl) ?_
                            refine va_get (D := (dC, dI)) (ci := 11) (v := .int (nI B)) (C := RX11) (T := TX11) (N := 35) hx hb hg inG11 hown hK.1 hP 0 rfl rfl 2 (Nat.le_of_ble_eq_true rfl) (hg _ wt_880) (fun _ h9 => h9) rfl dX11_layBest_117 ?_
                            refine lv_icmp_ge (tgt := 223) hx hb dX11_layBest_120 rfl (fun c32 => ?_) (fun c32 => ?_)
                            · skip
                              have tn2649_ : nIT j27 := fun _ => nI_toInt (by first | omega | (have t := leI c32; omega))
                              have n33 : B ≤ j27 := by have t := leI c32; rw [show (nI (j27)).toInt = ((j27 : Nat) : Int) from tn2649_ ()] at t; rw [show (nI (B)).toInt = ((B : Nat) : Int) from tn2640_ ()] at t; omega
                              refine lv_iinc (v := nI (j15 + 1)) (lv' := [(3, .int (nI (j15 + 1))), (5, .int (nI j27)), (4, .int (nI ((j15 / 10) - 1))), (2, .int (nI j8)), (0, .ref h0), (1, .int wo)]) hx hb dX11_layBest_223 hl (k := 2) rfl (by rw [show Int32.ofInt 1 = nI 1 from by decide]; exact nI_add _ _) (by decide) rfl (fun ls hl => ?_)
                              refine lv_goto (tgt := 53) hx hb dX11_layBest_226 rfl ?_
                              exact ih53_17 (j15 + 1) (by omega) (by omega) g28 _ _ (zbB.out (by have t_hj5 := hj5; have t_n7 := n7; have t_hj11 := hj11; have t_n14 := n14; have t_hj19 := hj19; have t_n22 := n22; have t_n24 := n24; have t_hj31 := hj31; have t_n33 := n33; have tnb_ := nib8 tn2639_ tn2640_ tn2641_ tn2642_ tn2643_ tn2644_ tn2646_ tn2648_; have t_n8 : (nI ((j15 / 10) - 1)).toInt = ((((j15 / 10) - 1) : Nat) : Int) := nI_toInt (by omega); have t_n9 : (nI j27).toInt = (j27 : Int) := tn2649_ (); omega) (by have t_hj5 := hj5; have t_n7 := n7; have t_hj11 := hj11; have t_n14 := n14; have t_hj19 := hj19; have t_n22 := n22; have t_n24 := n24; have t_hj31 := hj31; have t_n33 := n33; have tnb_ := nib8 tn2639_ tn2640_ tn2641_ tn2642_ tn2643_ tn2644_ tn2646_ tn2648_; have t_n8 : (nI ((j15 / 10) - 1)).toInt = ((((j15 / 10) - 1) : Nat) : Int) := nI_toInt (by omega); have t_n9 : (nI j27).toInt = (j27 : Int) := tn2649_ (); omega) (by have t_hj5 := hj5; have t_n7 := n7; have t_hj11 := hj11; have t_n14 := n14; have t_hj19 := hj19; have t_n22 := n22; have t_n24 := n24; have t_hj31 := hj31; have t_n33 := n33; have tnb_ := nib8 tn2639_ tn2640_ tn2641_ tn2642_ tn2643_ tn2644_ tn2646_ tn2648_; have t_n8 : (nI ((j15 / 10) - 1)).toInt = ((((j15 / 10) - 1) : Nat) : Int) := nI_toInt (by omega); have t_n9 : (nI j27).toInt = (j27 : Int) := tn2649_ (); omega) (by have t_hj5 := hj5; have t_n7 := n7; have t_hj11 := hj11; have t_n14 := n14; have t_hj19 := hj19; have t_n22 := n22; have t_n24 := n24; have t_hj31 := hj31; have t_n33 := n33; have tnb_ := nib8 tn2639_ tn2640_ tn2641_ tn2642_ tn2643_ tn2644_ tn2646_ tn2648_; have t_n8 : (nI ((j15 / 10) - 1)).toInt = ((((j15 / 10) - 1) : Nat) : Int) := nI_toInt (by omega); have t_n9 : (nI j27).toInt = (j27 : Int) := tn2649_ (); omega) hinv) hP hD hS ls (lv_sub hl [0, 3, 4, 5] rfl)
                            · skip
                              have tn2650_ : nIT j27 := fun _ => nI_toInt (by first | omega | (have t := nleI c32; omega))
                              have n34 : j27 < B := by have t := nleI c32; rw [show (nI (j27)).toInt = ((j27 : Nat) : Int) from tn2650_ ()] at t; rw [show (nI (B)).toInt = ((B : Nat) : Int) from tn2640_ ()] at t; omega
                              refine lv_iload_n hx hb dX11_layBest_123 rfl (lv_at hl 2 rfl) ?_
                              refine lv_bipush (v := 10) hx hb dX11_layBest_124 rfl ?_
                              refine lv_irem hx hb dX11_layBest_126 (by decide) ?_
                              refine lv_cg (y := nI (j15 % 10)) (by rw [show (10 : Int32) = nI 10 from rfl]; exact pk_rem (by omega) (by omega) (by omega)) ?_
                              refine lv_if_le (tgt := 223) hx hb dX11_layBest_127 rfl (fun c35 => ?_) (fun c35 => ?_)
                              · skip
                                have tn2651_ : nIT (j15 % 10) := fun _ => nI_toInt (by first | omega | (have t := leI c35; omega))
                                have n36 : (j15 % 10) ≤ 0 := by have t := leI c35; rw [show (nI (j15 % 10)).toInt = ((j15 % 10 : Nat) : Int) from tn2651_ ()] at t; have : (0 : Int32).toInt = 0 := qI_0; omega
                                refine lv_iinc (v := nI (j15 + 1)) (lv' := [(3, .int (nI (j15 + 1))), (5, .int (nI j27)), (4, .int (nI ((j15 / 10) - 1))), (2, .int (nI j8)), (0, .ref h0), (1, .int wo)]) hx hb dX11_layBest_223 hl (k := 2) rfl (by rw [show Int32.ofInt 1 = nI 1 from by decide]; exact nI_add _ _) (by decide) rfl (fun ls hl => ?_)
                                refine lv_goto (tgt := 53) hx hb dX11_layBest_226 rfl ?_
                                exact ih53_17 (j15 + 1) (by omega) (by omega) g28 _ _ (zbB.out (by have t_hj5 := hj5; have t_n7 := n7; have t_hj11 := hj11; have t_n14 := n14; have t_hj19 := hj19; have t_n22 := n22; have t_n24 := n24; have t_hj31 := hj31; have t_n34 := n34; have t_n36 := n36; have tnb_ := nib8 tn2639_ tn2640_ tn2641_ tn2642_ tn2643_ tn2644_ tn2646_ tn2648_; have t_n8 : (nI ((j15 / 10) - 1)).toInt = ((((j15 / 10) - 1) : Nat) : Int) := nI_toInt (by omega); have t_n9 : (nI j27).toInt = (j27 : Int) := tn2650_ (); omega) (by have t_hj5 := hj5; have t_n7 := n7; have t_hj11 := hj11; have t_n14 := n14; have t_hj19 := hj19; have t_n22 := n22; have t_n24 := n24; have t_hj31 := hj31; have t_n34 := n34; have t_n36 := n36; have tnb_ := nib8 tn2639_ tn2640_ tn2641_ tn2642_ tn2643_ tn2644_ tn2646_ tn2648_; have t_n8 : (nI ((j15 / 10) - 1)).toInt = ((((j15 / 10) - 1) : Nat) : Int) := nI_toInt (by omega); have t_n9 : (nI j27).toInt = (j27 : Int) := tn2650_ (); omega) (by have t_hj5 := hj5; have t_n7 := n7; have t_hj11 := hj11; have t_n14 := n14; have t_hj19 := hj19; have t_n22 := n22; have t_n24 := n24; have t_hj31 := hj31; have t_n34 := n34; have t_n36 := n36; have tnb_ := nib8 tn2639_ tn2640_ tn2641_ tn2642_ tn2643_ tn2644_ tn2646_ tn2648_; have t_n8 : (nI ((j15 / 10) - 1)).toInt = ((((j15 / 10) - 1) : Nat) : Int) := nI_toInt (by omega); have t_n9 : (nI j27).toInt = (j27 : Int) := tn2650_ (); omega) (by have t_hj5 := hj5; have t_n7 := n7; have t_hj11 := hj11; have t_n14 := n14; have t_hj19 := hj19; have t_n22 := n22; have t_n24 := n24; have t_hj31 := hj31; have t_n34 := n34; have t_n36 := n36; have tnb_ := nib8 tn2639_ tn2640_ tn2641_ tn2642_ tn2643_ tn2644_ tn2646_ tn2648_; have t_n8 : (nI ((j15 / 10) - 1)).toInt = ((((j15 / 10) - 1) : Nat) : Int) := nI_toInt (by omega); have t_n9 : (nI j27).toInt = (j27 : Int) := tn2650_ (); omega) hinv) hP hD hS ls (lv_sub hl [0, 3, 4, 5] rfl)
                              · skip
                                have tn2652_ : nIT (j15 % 10) := fun _ => nI_toInt (by first | omega | (have t := nleI c35; omega))
                                have n37 : 0 < (j15 % 10) := by have t := nleI c35; rw [show (nI (j15 % 10)).toInt = ((j15 % 10 : Nat) : Int) from tn2652_ ()] at t; have : (0 : Int32).toInt = 0 := qI_0; omega
                                refine lv_iload hx hb dX11_layBest_130 (lv_at hl 1 rfl) ?_
                                refine lv_bipush (v := (-4)) hx hb dX11_layBest_132 rfl ?_
                                refine lv_icmp_eq (tgt := 146) hx hb dX11_layBest_134 rfl (fun c38 => ?_) (fun c38 => ?_)
                                · skip
                                  have t_hj5 := hj5
                                  have t_n7 := n7
                                  have t_hj11 := hj11
                                  have t_n14 := n14
                                  have t_hj19 := hj19
                                  have t_n22 := n22
                                  have t_n24 := n24
                                  have t_hj31 := hj31
                                  have t_n34 := n34
                                  have t_n37 := n37
                                  have t_c38 := eqI c38
                                  have : ((-4) : Int32).toInt = -4 := qI_m4
                                  have t_n0 : (nI N).toInt = (N : Int) := tn2639_ ()
                                  have t_n1 : (nI B).toInt = (B : Int) := tn2640_ ()
                                  have t_n2 : (nI T).toInt = (T : Int) := tn2641_ ()
                                  have t_n3 : (nI S).toInt = (S : Int) := tn2642_ ()
                                  have t_n4 : (nI M).toInt = (M : Int) := tn2643_ ()
                                  have t_n5 : (nI j1).toInt = (j1 : Int) := tn2644_ ()
                                  have t_n6 : (nI j8).toInt = (j8 : Int) := tn2646_ ()
                                  have t_n7 : (nI j15).toInt = (j15 : Int) := tn2648_ ()
                                  have t_n8 : (nI ((j15 / 10) - 1)).toInt = ((((j15 / 10) - 1) : Nat) : Int) := nI_toInt (by omega)
                                  have t_n9 : (nI j27).toInt = (j27 : Int) := tn2650_ ()
                                  exfalso; omega
                                · skip
                                  refine lv_aload_n hx hb dX11_layBest_137 rfl (lv_at hl 4 rfl) ?_
                                  refine lv_iload hx hb dX11_layBest_138 (lv_at hl 1 rfl) ?_
                                  have hPc := hP.sub (ws' := [(h0, .inr (11, [.ref st, .int (nI N), .int (nI B), .ref rp, .int vrs, .int vrb, .int vhs, .int vca, .int vxs, .int vxb, .ref tp, .int (nI T), .int vfa, .int vbr, .int vba, .int vsp, .int vhe, .int vtk, .int vva, .ref cu, .ref lt, .ref od, .ref th, .ref be, .ref ln, .int (nI S), .ref ma, .int (nI M), .ref ah, .ref bh, .ref ik, .ref la, .ref lg, .ref ce, .int vto]))]) [0] rfl
                                  refine va_calli (va_runV (As := [.int (nI ((j15 / 10) - 1))]) (rest := []) ⟨hx, hb, hml, hown, hg⟩ (c_X11_isBearer l dC dI G _ h0 st N B rp tp T cu lt od th be ln S ma M ah bh ik la lg ce (nI ((j15 / 10) - 1)) vrs vrb vhs vca vxs vxb vfa vbr vba vsp vhe vtk vva vto hN hB_ hT_ hS0 hM_) (kwV hg mfX11_isBearer wt_1061 ⟨Nat.le_of_ble_eq_true rfl, Nat.le_of_ble_eq_true rfl⟩) (preVR hK hPc (ci := 11) (r := (RX11, TX11, 35)) rfl rfl) rfl rfl hl.1 rfl (lv_room (Nat.le_of_ble_eq_true rfl)) dX11_layBest_140 ⟨Nat.le_of_ble_eq_true rfl, Nat.le_of_ble_eq_true rfl⟩) hS (fun q h1 h2 => absurd h2 (Nat.not_le.mpr h1)) (fun q h => hA q (Nat.le_trans hS.1 h)) (fun r39 ur39 t H1 locs ht hvm w40 hB hz1 hk1 hS => ?_)
                                  have hP := keepR hP hk1
                                  obtain ⟨w40, w40x⟩ := w40
                                  try simp only [l_ii, show (0 : Int32).toInt = 0 from by decide] at w40
                                  have tn2653_ : nIT ((j15 / 10) - 1) := fun _ => nI_toInt (by omega)
                                  try rw [show (nI ((j15 / 10) - 1)).toInt = (((j15 / 10) - 1 : Nat) : Int) from tn2653_ ()] at w40
                                  try rw [show (nI (B)).toInt = ((B : Nat) : Int) from tn2640_ ()] at w40
                                  subst w40
                                  refine lv_if_eq (tgt := 223) hx hb dX11_layBest_143 rfl (fun c41 => ?_) (fun c41 => ?_)
                                  · skip
                                    have b42 := if10_n c41
                                    refine lv_iinc (v := nI (j15 + 1)) (lv' := [(3, .int (nI (j15 + 1))), (5, .int (nI j27)), (4, .int (nI ((j15 / 10) - 1))), (2, .int (nI j8)), (0, .ref h0), (1, .int wo)]) hx hb dX11_layBest_223 hl (k := 2) rfl (by rw [show Int32.ofInt 1 = nI 1 from by decide]; exact nI_add _ _) (by decide) rfl (fun ls hl => ?_)
                                    refine lv_goto (tgt := 53) hx hb dX11_layBest_226 rfl ?_
                                    exact ih53_17 (j15 + 1) (by omega) (by omega) g28 _ _ (zbB.out (by have t_hj5 := hj5; have t_n7 := n7; have t_hj11 := hj11; have t_n14 := n14; have t_hj19 := hj19; have t_n22 := n22; have t_n24 := n24; have t_hj31 := hj31; have t_n34 := n34; have t_n37 := n37; have t_c38 := neI c38; have t_b42 := b42; have : ((-4) : Int32).toInt = -4 := qI_m4; have tnb_ := nib8 tn2639_ tn2640_ tn2641_ tn2642_ tn2643_ tn2644_ tn2646_ tn2648_; have t_n8 : (nI ((j15 / 10) - 1)).toInt = ((((j15 / 10) - 1) : Nat) : Int) := nI_toInt (by omega); have t_n9 : (nI j27).toInt = (j27 : Int) := tn2650_ (); omega) (by have t_hj5 := hj5; have t_n7 := n7; have t_hj11 := hj11; have t_n14 := n14; have t_hj19 := hj19; have t_n22 := n22; have t_n24 := n24; have t_hj31 := hj31; have t_n34 := n34; have t_n37 := n37; have t_c38 := neI c38; have t_b42 := b42; have : ((-4) : Int32).toInt = -4 := qI_m4; have tnb_ := nib8 tn2639_ tn2640_ tn2641_ tn2642_ tn2643_ tn2644_ tn2646_ tn2648_; have t_n8 : (nI ((j15 / 10) - 1)).toInt = ((((j15 / 10) - 1) : Nat) : Int) := nI_toInt (by omega); have t_n9 : (nI j27).toInt = (j27 : Int) := tn2650_ (); omega) (by have t_hj5 := hj5; have t_n7 := n7; have t_hj11 := hj11; have t_n14 := n14; have t_hj19 := hj19; have t_n22 := n22; have t_n24 := n24; have t_hj31 := hj31; have t_n34 := n34; have t_n37 := n37; have t_c38 := neI c38; have t_b42 := b42; have : ((-4) : Int32).toInt = -4 := qI_m4; have tnb_ := nib8 tn2639_ tn2640_ tn2641_ tn2642_ tn2643_ tn2644_ tn2646_ tn2648_; have t_n8 : (nI ((j15 / 10) - 1)).toInt = ((((j15 / 10) - 1) : Nat) : Int) := nI_toInt (by omega); have t_n9 : (nI j27).toInt = (j27 : Int) := tn2650_ (); omega) (by have t_hj5 := hj5; have t_n7 := n7; have t_hj11 := hj11; have t_n14 := n14; have t_hj19 := hj19; have t_n22 := n22; have t_n24 := n24; have t_hj31 := hj31; have t_n34 := n34; have t_n37 := n37; have t_c38 := neI c38; have t_b42 := b42; have : ((-4) : Int32).toInt = -4 := qI_m4; have tnb_ := nib8 tn2639_ tn2640_ tn2641_ tn2642_ tn2643_ tn2644_ tn2646_ tn2648_; have t_n8 : (nI ((j15 / 10) - 1)).toInt = ((((j15 / 10) - 1) : Nat) : Int) := nI_toInt (by omega); have t_n9 : (nI j27).toInt = (j27 : Int) := tn2650_ (); omega) hinv) hP hD hS ls (lv_sub hl [0, 3, 4, 5] rfl)
                                  · skip
                                    have b43 := if10_p c41
                                    refine lv_iload hx hb dX11_layBest_146 (lv_at hl 0 rfl) ?_
                                    refine lv_iload_n hx hb dX11_layBest_148 rfl (lv_at hl 5 rfl) ?_
                                    refine lv_icmp_ne (tgt := 158) hx hb dX11_layBest_149 rfl (fun c44 => ?_) (fun c44 => ?_)
                                    · skip
                                      refine lv_aload_n hx hb dX11_layBest_158 rfl (lv_at hl 4 rfl) ?_
                                      refine lv_iload_n hx hb dX11_layBest_159 rfl (lv_at hl 3 rfl) ?_
                                      refine lv_iload hx hb dX11_layBest_160 (lv_at hl 1 rfl) ?_
                                      refine lv_iload_n hx hb dX11_layBest_162 rfl (lv_at hl 2 rfl) ?_
                                      refine lv_bipush (v := 10) hx hb dX11_layBest_163 rfl ?_
                                      refine lv_irem hx hb dX11_layBest_165 (by decide) ?_
                                      refine lv_cg (y := nI (j15 % 10)) (by rw [show (10 : Int32) = nI 10 from rfl]; exact pk_rem (by omega) (by omega) (by omega)) ?_
                                      refine lv_iload hx hb dX11_layBest_166 (lv_at hl 0 rfl) ?_
                                      have hPc := hP.sub (ws' := [(h0, .inr (11, [.ref st, .int (nI N), .int (nI B), .ref rp, .int vrs, .int vrb, .int vhs, .int vca, .int vxs, .int vxb, .ref tp, .int (nI T), .int vfa, .int vbr, .int vba, .int vsp, .int vhe, .int vtk, .int vva, .ref cu, .ref lt, .ref od, .ref th, .ref be, .ref ln, .int (nI S), .ref ma, .int (nI M), .ref ah, .ref bh, .ref ik, .ref la, .ref lg, .ref ce, .int vto])), (st, .inl (G 0, 196, .inl fst)), (be, .inl (G 1, 770, .inr (.inl g28)))]) [0, 1, 2] rfl
                                      refine va_calll (va_runV (As := [.int (nI j8), .int (nI ((j15 / 10) - 1)), .int (nI (j15 % 10)), .int (nI j27)]) (rest := []) ⟨hx, hb, hml, hown, hg⟩ (c_X11_byOneB l dC dI G _ h0 j8 ((j15 / 10) - 1) (j15 % 10) j27 st N B rp tp T cu lt od th be ln S ma M ah bh ik la lg ce vrs vrb vhs vca vxs vxb vfa vbr vba vsp vhe vtk vva vto fst g28 hN hB_ hT_ hS0 hM_ (by first | omega | (have t_hj5 := hj5; have t_n7 := n7; have t_hj11 := hj11; have t_n14 := n14; have t_hj19 := hj19; have t_n22 := n22; have t_n24 := n24; have t_hj31 := hj31; have t_n34 := n34; have t_n37 := n37; have t_c38 := neI c38; have t_b43 := b43; have t_c44 := neI c44; have : ((-4) : Int32).toInt = -4 := qI_m4; have tnb_ := nib8 tn2639_ tn2640_ tn2641_ tn2642_ tn2643_ tn2644_ tn2646_ tn2648_; have t_n8 : (nI ((j15 / 10) - 1)).toInt = ((((j15 / 10) - 1) : Nat) : Int) := nI_toInt (by omega); have t_n9 : (nI j27).toInt = (j27 : Int) := tn2650_ (); omega)) (by first | omega | (have t_hj5 := hj5; have t_n7 := n7; have t_hj11 := hj11; have t_n14 := n14; have t_hj19 := hj19; have t_n22 := n22; have t_n24 := n24; have t_hj31 := hj31; have t_n34 := n34; have t_n37 := n37; have t_c38 := neI c38; have t_b43 := b43; have t_c44 := neI c44; have : ((-4) : Int32).toInt = -4 := qI_m4; have tnb_ := nib8 tn2639_ tn2640_ tn2641_ tn2642_ tn2643_ tn2644_ tn2646_ tn2648_; have t_n8 : (nI ((j15 / 10) - 1)).toInt = ((((j15 / 10) - 1) : Nat) : Int) := nI_toInt (by omega); have t_n9 : (nI j27).toInt = (j27 : Int) := tn2650_ (); omega)) (by first | omega | (have t_hj5 := hj5; have t_n7 := n7; have t_hj11 := hj11; have t_n14 := n14; have t_hj19 := hj19; have t_n22 := n22; have t_n24 := n24; have t_hj31 := hj31; have t_n34 := n34; have t_n37 := n37; have t_c38 := neI c38; have t_b43 := b43; have t_c44 := neI c44; have : ((-4) : Int32).toInt = -4 := qI_m4; have tnb_ := nib8 tn2639_ tn2640_ tn2641_ tn2642_ tn2643_ tn2644_ tn2646_ tn2648_; have t_n8 : (nI ((j15 / 10) - 1)).toInt = ((((j15 / 10) - 1) : Nat) : Int) := nI_toInt (by omega); have t_n9 : (nI j27).toInt = (j27 : Int) := tn2650_ (); omega)) (by first | omega | (have t_hj5 := hj5; have t_n7 := n7; have t_hj11 := hj11; have t_n14 := n14; have t_hj19 := hj19; have t_n22 := n22; have t_n24 := n24; have t_hj31 := hj31; have t_n34 := n34; have t_n37 := n37; have t_c38 := neI c38; have t_b43 := b43; have t_c44 := neI c44; have : ((-4) : Int32).toInt = -4 := qI_m4; have tnb_ := nib8 tn2639_ tn2640_ tn2641_ tn2642_ tn2643_ tn2644_ tn2646_ tn2648_; have t_n8 : (nI ((j15 / 10) - 1)).toInt = ((((j15 / 10) - 1) : Nat) : Int) := nI_toInt (by omega); have t_n9 : (nI j27).toInt = (j27 : Int) := tn2650_ (); omega))) (kwV hg mfX11_byOne wt_1155 ⟨Nat.le_of_ble_eq_true rfl, Nat.le_of_ble_eq_true rfl⟩) (preVR hK hPc (ci := 11) (r := (RX11, TX11, 35)) rfl rfl) rfl rfl hl.1 rfl (lv_room (Nat.le_of_ble_eq_true rfl)) dX11_layBest_168 ⟨Nat.le_of_ble_eq_true rfl, Nat.le_of_ble_eq_true rfl⟩) hS (fun q h1 h2 => absurd h2 (Nat.not_le.mpr h1)) (fun q h => hA q (Nat.le_trans hS.1 h)) (fun r45 ur45 t H1 locs ht hvm w46 hB hz1 hk1 hS => ?_)
                                      have hP := keepR hP hk1
                                      obtain ⟨w46, w46x⟩ := w46
                                      subst w46
                                      refine lv_lstore (lv' := [(6, .long (b1B fst g28 j8 ((j15 / 10) - 1) (j15 % 10) j27)), (5, .int (nI j27)), (4, .int (nI ((j15 / 10) - 1))), (3, .int (nI j15)), (2, .int (nI j8)), (0, .ref h0), (1, .int wo)]) hx hb dX11_layBest_171 hl (by decide) rfl (fun ls hl => ?_)
                                      refine lv_aload_n hx hb dX11_layBest_173 rfl (lv_at hl 5 rfl) ?_
                                      refine va_get (D := (dC, dI)) (ci := 11) (v := .ref be) (C := RX11) (T := TX11) (N := 35) hx hb hg inG11 hown hK.1 hP 0 rfl rfl 23 (Nat.le_of_ble_eq_true rfl) (hg _ wt_901) (fun _ h9 => h9) rfl dX11_layBest_174 ?_
                                      refine lv_bipush (v := 70) hx hb dX11_layBest_177 rfl ?_
                                      refine lv_iload_n hx hb dX11_layBest_179 rfl (lv_at hl 4 rfl) ?_
                                      refine lv_imul hx hb dX11_layBest_180 ?_
                                      refine lv_cg (y := nI (70 * j8)) (by rw [show (70 : Int32) = nI 70 from rfl]; exact pk_mul _ _) ?_
                                      refine lv_iload_n hx hb dX11_layBest_181 rfl (lv_at hl 3 rfl) ?_
                                      refine lv_iadd hx hb dX11_layBest_182 ?_
                                      refine lv_cg (y := nI ((70 * j8) + j15)) (by exact nI_add _ _) ?_
                                      refine lv_lload hx hb dX11_layBest_183 (lv_at hl 0 rfl) ?_
                                      refine lv_aload_n hx hb dX11_layBest_185 rfl (lv_at hl 5 rfl) ?_
                                      refine va_get (D := (dC, dI)) (ci := 11) (v := .ref be) (C := RX11) (T := TX11) (N := 35) hx hb hg inG11 hown hK.1 hP 0 rfl rfl 23 (Nat.le_of_ble_eq_true rfl) (hg _ wt_901) (fun _ h9 => h9) rfl dX11_layBest_186 ?_
                                      refine lv_bipush (v := 70) hx hb dX11_layBest_189 rfl ?_
                                      refine lv_iload_n hx hb dX11_layBest_191 rfl (lv_at hl 4 rfl) ?_
                                      refine lv_imul hx hb dX11_layBest_192 ?_
                                      refine lv_cg (y := nI (70 * j8)) (by rw [show (70 : Int32) = nI 70 from rfl]; exact pk_mul _ _) ?_
                                      refine lv_iload_n hx hb dX11_layBest_193 rfl (lv_at hl 3 rfl) ?_
                                      refine lv_iadd hx hb dX11_layBest_194 ?_
                                      refine lv_cg (y := nI ((70 * j8) + j15)) (by exact nI_add _ _) ?_
                                      refine va_lald hx hb hK.1 hP 2 1 rfl rfl (vp_in_nI (by first | omega | (have t_hj5 := hj5; have t_n7 := n7; have t_hj11 := hj11; have t_n14 := n14; have t_hj19 := hj19; have t_n22 := n22; have t_n24 := n24; have t_hj31 := hj31; have t_n34 := n34; have t_n37 := n37; have t_c38 := neI c38; have t_b43 := b43; have t_c44 := neI c44; have : ((-4) : Int32).toInt = -4 := qI_m4; have tnb_ := nib8 tn2639_ tn2640_ tn2641_ tn2642_ tn2643_ tn2644_ tn2646_ tn2648_; have t_n8 : (nI ((j15 / 10) - 1)).toInt = ((((j15 / 10) - 1) : Nat) : Int) := nI_toInt (by omega); have t_n9 : (nI j27).toInt = (j27 : Int) := tn2650_ (); omega)) (by decide)) dX11_layBest_195 ?_
                                      refine lv_cgl (y := g28 ((70 * j8) + j15)) (by rw [nI_clamp (by omega)]) ?_
                                      refine W.lcmp hx hb dX11_layBest_196 ?_
                                      refine lv_if_ge (tgt := 205) hx hb dX11_layBest_197 rfl (fun c47 => ?_) (fun c47 => ?_)
                                      · skip
                                        refine lv_aload_n hx hb dX11_layBest_205 rfl (lv_at hl 5 rfl) ?_
                                        refine va_get (D := (dC, dI)) (ci := 11) (v := .ref be) (C := RX11) (T := TX11) (N := 35) hx hb hg inG11 hown hK.1 hP 0 rfl rfl 23 (Nat.le_of_ble_eq_true rfl) (hg _ wt_901) (fun _ h9 => h9) rfl dX11_layBest_206 ?_
                                        refine lv_bipush (v := 70) hx hb dX11_layBest_209 rfl ?_
                                        refine lv_iload_n hx hb dX11_layBest_211 rfl (lv_at hl 4 rfl) ?_
                                        refine lv_imul hx hb dX11_layBest_212 ?_
                                        refine lv_cg (y := nI (70 * j8)) (by rw [show (70 : Int32) = nI 70 from rfl]; exact pk_mul _ _) ?_
                                        refine lv_iload_n hx hb dX11_layBest_213 rfl (lv_at hl 3 rfl) ?_
                                        refine lv_iadd hx hb dX11_layBest_214 ?_
                                        refine lv_cg (y := nI ((70 * j8) + j15)) (by exact nI_add _ _) ?_
                                        refine va_lald hx hb hK.1 hP 2 1 rfl rfl (vp_in_nI (by first | omega | (have t_hj5 := hj5; have t_n7 := n7; have t_hj11 := hj11; have t_n14 := n14; have t_hj19 := hj19; have t_n22 := n22; have t_n24 := n24; have t_hj31 := hj31; have t_n34 := n34; have t_n37 := n37; have t_c38 := neI c38; have t_b43 := b43; have t_c44 := neI c44; have t_c47 := lcm_ge_t c47; have : ((-4) : Int32).toInt = -4 := qI_m4; have tnb_ := nib8 tn2639_ tn2640_ tn2641_ tn2642_ tn2643_ tn2644_ tn2646_ tn2648_; have t_n8 : (nI ((j15 / 10) - 1)).toInt = ((((j15 / 10) - 1) : Nat) : Int) := nI_toInt (by omega); have t_n9 : (nI j27).toInt = (j27 : Int) := tn2650_ (); omega)) (by decide)) dX11_layBest_215 ?_
                                        refine lv_cgl (y := g28 ((70 * j8) + j15)) (by rw [nI_clamp (by omega)]) ?_
                                        refine va_last hx hb hK.1 hP hD hS 2 1 rfl rfl (vp_in_nI (by first | omega | (have t_hj5 := hj5; have t_n7 := n7; have t_hj11 := hj11; have t_n14 := n14; have t_hj19 := hj19; have t_n22 := n22; have t_n24 := n24; have t_hj31 := hj31; have t_n34 := n34; have t_n37 := n37; have t_c38 := neI c38; have t_b43 := b43; have t_c44 := neI c44; have t_c47 := lcm_ge_t c47; have : ((-4) : Int32).toInt = -4 := qI_m4; have tnb_ := nib8 tn2639_ tn2640_ tn2641_ tn2642_ tn2643_ tn2644_ tn2646_ tn2648_; have t_n8 : (nI ((j15 / 10) - 1)).toInt = ((((j15 / 10) - 1) : Nat) : Int) := nI_toInt (by omega); have t_n9 : (nI j27).toInt = (j27 : Int) := tn2650_ (); omega)) (by decide)) dX11_layBest_216 (fun H locs hP hD hS => ?_)
                                        rw [nI_clamp (by omega)] at hP hD
                                        refine lv_iinc (v := nI (j27 + 1)) (lv' := [(5, .int (nI (j27 + 1))), (6, .long (b1B fst g28 j8 ((j15 / 10) - 1) (j15 % 10) j27)), (4, .int (nI ((j15 / 10) - 1))), (3, .int (nI j15)), (2, .int (nI j8)), (0, .ref h0), (1, .int wo)]) hx hb dX11_layBest_217 hl (k := 1) rfl (by rw [show Int32.ofInt 1 = nI 1 from by decide]; exact nI_add _ _) (by decide) rfl (fun ls hl => ?_)
                                        refine lv_goto (tgt := 114) hx hb dX11_layBest_220 rfl ?_
                                        exact ih114_29 (j27 + 1) (by omega) (by omega) (vp_updL g28 ((70 * j8) + j15) (g28 ((70 * j8) + j15))) _ _ (zbB.ge (by have t_hj5 := hj5; have t_n7 := n7; have t_hj11 := hj11; have t_n14 := n14; have t_hj19 := hj19; have t_n22 := n22; have t_n24 := n24; have t_hj31 := hj31; have t_n34 := n34; have t_n37 := n37; have t_c38 := neI c38; have t_b43 := b43; have t_c44 := neI c44; have t_c47 := lcm_ge_t c47; have : ((-4) : Int32).toInt = -4 := qI_m4; have tnb_ := nib8 tn2639_ tn2640_ tn2641_ tn2642_ tn2643_ tn2644_ tn2646_ tn2648_; have t_n8 : (nI ((j15 / 10) - 1)).toInt = ((((j15 / 10) - 1) : Nat) : Int) := nI_toInt (by omega); have t_n9 : (nI j27).toInt = (j27 : Int) := tn2650_ (); omega) (by have t_hj5 := hj5; have t_n7 := n7; have t_hj11 := hj11; have t_n14 := n14; have t_hj19 := hj19; have t_n22 := n22; have t_n24 := n24; have t_hj31 := hj31; have t_n34 := n34; have t_n37 := n37; have t_c38 := neI c38; have t_b43 := b43; have t_c44 := neI c44; have t_c47 := lcm_ge_t c47; have : ((-4) : Int32).toInt = -4 := qI_m4; have tnb_ := nib8 tn2639_ tn2640_ tn2641_ tn2642_ tn2643_ tn2644_ tn2646_ tn2648_; have t_n8 : (nI ((j15 / 10) - 1)).toInt = ((((j15 / 10) - 1) : Nat) : Int) := nI_toInt (by omega); have t_n9 : (nI j27).toInt = (j27 : Int) := tn2650_ (); omega) (by unfold b1; first | (rw [if_pos (by omega)]) | (rw [if_neg (by omega)])) (fun e9 => by have e8 := congrArg Int32.toInt e9; have t_hj5 := hj5; have t_n7 := n7; have t_hj11 := hj11; have t_n14 := n14; have t_hj19 := hj19; have t_n22 := n22; have t_n24 := n24; have t_hj31 := hj31; have t_n34 := n34; have t_n37 := n37; have t_c38 := neI c38; have t_b43 := b43; have t_c44 := neI c44; have t_c47 := lcm_ge_t c47; have : ((-4) : Int32).toInt = -4 := qI_m4; have tnb_ := nib8 tn2639_ tn2640_ tn2641_ tn2642_ tn2643_ tn2644_ tn2646_ tn2648_; have t_n8 : (nI ((j15 / 10) - 1)).toInt = ((((j15 / 10) - 1) : Nat) : Int) := nI_toInt (by omega); have t_n9 : (nI j27).toInt = (j27 : Int) := tn2650_ (); have lz0 : (0 : Int32).toInt = 0 := qI_0; have lz1 : (1 : Int32).toInt = 1 := qI_1; have lz2 : (2 : Int32).toInt = 2 := qI_2; have lz3 : (3 : Int32).toInt = 3 := qI_3; have lz5 : (5 : Int32).toInt = 5 := qI_5; have lz9 : (9 : Int32).toInt = 9 := qI_9; omega) (lcm_ge_t c47) hinv) hP hD hS ls (lv_sub hl [0, 2, 3, 4, 5, 6] rfl)
                                      · skip
                                        refine lv_lload hx hb dX11_layBest_200 (lv_at hl 0 rfl) ?_
                                        refine lv_goto (tgt := 216) hx hb dX11_layBest_202 rfl ?_
                                        refine va_last hx hb hK.1 hP hD hS 2 1 rfl rfl (vp_in_nI (by first | omega | (have t_hj5 := hj5; have t_n7 := n7; have t_hj11 := hj11; have t_n14 := n14; have t_hj19 := hj19; have t_n22 := n22; have t_n24 := n24; have t_hj31 := hj31; have t_n34 := n34; have t_n37 := n37; have t_c38 := neI c38; have t_b43 := b43; have t_c44 := neI c44; have t_c47 := lcm_ge_f c47; have : ((-4) : Int32).toInt = -4 := qI_m4; have tnb_ := nib8 tn2639_ tn2640_ tn2641_ tn2642_ tn2643_ tn2644_ tn2646_ tn2648_; have t_n8 : (nI ((j15 / 10) - 1)).toInt = ((((j15 / 10) - 1) : Nat) : Int) := nI_toInt (by omega); have t_n9 : (nI j27).toInt = (j27 : Int) := tn2650_ (); omega)) (by decide)) dX11_layBest_216 (fun H locs hP hD hS => ?_)
                                        rw [nI_clamp (by omega)] at hP hD
                                        refine lv_iinc (v := nI (j27 + 1)) (lv' := [(5, .int (nI (j27 + 1))), (6, .long (b1B fst g28 j8 ((j15 / 10) - 1) (j15 % 10) j27)), (4, .int (nI ((j15 / 10) - 1))), (3, .int (nI j15)), (2, .int (nI j8)), (0, .ref h0), (1, .int wo)]) hx hb dX11_layBest_217 hl (k := 1) rfl (by rw [show Int32.ofInt 1 = nI 1 from by decide]; exact nI_add _ _) (by decide) rfl (fun ls hl => ?_)
                                        refine lv_goto (tgt := 114) hx hb dX11_layBest_220 rfl ?_
                                        exact ih114_29 (j27 + 1) (by omega) (by omega) (vp_updL g28 ((70 * j8) + j15) (b1B fst g28 j8 ((j15 / 10) - 1) (j15 % 10) j27)) _ _ (zbB.lt (by have t_hj5 := hj5; have t_n7 := n7; have t_hj11 := hj11; have t_n14 := n14; have t_hj19 := hj19; have t_n22 := n22; have t_n24 := n24; have t_hj31 := hj31; have t_n34 := n34; have t_n37 := n37; have t_c38 := neI c38; have t_b43 := b43; have t_c44 := neI c44; have t_c47 := lcm_ge_f c47; have : ((-4) : Int32).toInt = -4 := qI_m4; have tnb_ := nib8 tn2639_ tn2640_ tn2641_ tn2642_ tn2643_ tn2644_ tn2646_ tn2648_; have t_n8 : (nI ((j15 / 10) - 1)).toInt = ((((j15 / 10) - 1) : Nat) : Int) := nI_toInt (by omega); have t_n9 : (nI j27).toInt = (j27 : Int) := tn2650_ (); omega) (by have t_hj5 := hj5; have t_n7 := n7; have t_hj11 := hj11; have t_n14 := n14; have t_hj19 := hj19; have t_n22 := n22; have t_n24 := n24; have t_hj31 := hj31; have t_n34 := n34; have t_n37 := n37; have t_c38 := neI c38; have t_b43 := b43; have t_c44 := neI c44; have t_c47 := lcm_ge_f c47; have : ((-4) : Int32).toInt = -4 := qI_m4; have tnb_ := nib8 tn2639_ tn2640_ tn2641_ tn2642_ tn2643_ tn2644_ tn2646_ tn2648_; have t_n8 : (nI ((j15 / 10) - 1)).toInt = ((((j15 / 10) - 1) : Nat) : Int) := nI_toInt (by omega); have t_n9 : (nI j27).toInt = (j27 : Int) := tn2650_ (); omega) (by unfold b1; first | (rw [if_pos (by omega)]) | (rw [if_neg (by omega)])) (fun e9 => by have e8 := congrArg Int32.toInt e9; have t_hj5 := hj5; have t_n7 := n7; have t_hj11 := hj11; have t_n14 := n14; have t_hj19 := hj19; have t_n22 := n22; have t_n24 := n24; have t_hj31 := hj31; have t_n34 := n34; have t_n37 := n37; have t_c38 := neI c38; have t_b43 := b43; have t_c44 := neI c44; have t_c47 := lcm_ge_f c47; have : ((-4) : Int32).toInt = -4 := qI_m4; have tnb_ := nib8 tn2639_ tn2640_ tn2641_ tn2642_ tn2643_ tn2644_ tn2646_ tn2648_; have t_n8 : (nI ((j15 / 10) - 1)).toInt = ((((j15 / 10) - 1) : Nat) : Int) := nI_toInt (by omega); have t_n9 : (nI j27).toInt = (j27 : Int) := tn2650_ (); have lz0 : (0 : Int32).toInt = 0 := qI_0; have lz1 : (1 : Int32).toInt = 1 := qI_1; have lz2 : (2 : Int32).toInt = 2 := qI_2; have lz3 : (3 : Int32).toInt = 3 := qI_3; have lz5 : (5 : Int32).toInt = 5 := qI_5; have lz9 : (9 : Int32).toInt = 9 := qI_9; omega) (Int.not_le.mp (lcm_ge_f c47)) hinv) hP hD hS ls (lv_sub hl [0, 2, 3, 4, 5, 6] rfl)
                                    · skip
                                      refine lv_ldc2 (v := 4000000000000000000) hx hb hown (hg _ wt_1154) dX11_layBest_152 ?_
                                      refine lv_goto (tgt := 171) hx hb dX11_layBest_155 rfl ?_
                                      refine lv_lstore (lv' := [(6, .long 4000000000000000000), (5, .int (nI j27)), (4, .int (nI ((j15 / 10) - 1))), (3, .int (nI j15)), (2, .int (nI j8)), (0, .ref h0), (1, .int wo)]) hx hb dX11_layBest_171 hl (by decide) rfl (fun ls hl => ?_)
                                      refine lv_aload_n hx hb dX11_layBest_173 rfl (lv_at hl 5 rfl) ?_
                                      refine va_get (D := (dC, dI)) (ci := 11) (v := .ref be) (C := RX11) (T := TX11) (N := 35) hx hb hg inG11 hown hK.1 hP 0 rfl rfl 23 (Nat.le_of_ble_eq_true rfl) (hg _ wt_901) (fun _ h9 => h9) rfl dX11_layBest_174 ?_
                                      refine lv_bipush (v := 70) hx hb dX11_layBest_177 rfl ?_
                                      refine lv_iload_n hx hb dX11_layBest_179 rfl (lv_at hl 4 rfl) ?_
                                      refine lv_imul hx hb dX11_layBest_180 ?_
                                      refine lv_cg (y := nI (70 * j8)) (by rw [show (70 : Int32) = nI 70 from rfl]; exact pk_mul _ _) ?_
                                      refine lv_iload_n hx hb dX11_layBest_181 rfl (lv_at hl 3 rfl) ?_
                                      refine lv_iadd hx hb dX11_layBest_182 ?_
                                      refine lv_cg (y := nI ((70 * j8) + j15)) (by exact nI_add _ _) ?_
                                      refine lv_lload hx hb dX11_layBest_183 (lv_at hl 0 rfl) ?_
                                      refine lv_aload_n hx hb dX11_layBest_185 rfl (lv_at hl 5 rfl) ?_
                                      refine va_get (D := (dC, dI)) (ci := 11) (v := .ref be) (C := RX11) (T := TX11) (N := 35) hx hb hg inG11 hown hK.1 hP 0 rfl rfl 23 (Nat.le_of_ble_eq_true rfl) (hg _ wt_901) (fun _ h9 => h9) rfl dX11_layBest_186 ?_
                                      refine lv_bipush (v := 70) hx hb dX11_layBest_189 rfl ?_
                                      refine lv_iload_n hx hb dX11_layBest_191 rfl (lv_at hl 4 rfl) ?_
                                      refine lv_imul hx hb dX11_layBest_192 ?_
                                      refine lv_cg (y := nI (70 * j8)) (by rw [show (70 : Int32) = nI 70 from rfl]; exact pk_mul _ _) ?_
                                      refine lv_iload_n hx hb dX11_layBest_193 rfl (lv_at hl 3 rfl) ?_
                                      refine lv_iadd hx hb dX11_layBest_194 ?_
                                      refine lv_cg (y := nI ((70 * j8) + j15)) (by exact nI_add _ _) ?_
                                      refine va_lald hx hb hK.1 hP 2 1 rfl rfl (vp_in_nI (by first | omega | (have t_hj5 := hj5; have t_n7 := n7; have t_hj11 := hj11; have t_n14 := n14; have t_hj19 := hj19; have t_n22 := n22; have t_n24 := n24; have t_hj31 := hj31; have t_n34 := n34; have t_n37 := n37; have t_c38 := neI c38; have t_b43 := b43; have t_c44 := eqI c44; have : ((-4) : Int32).toInt = -4 := qI_m4; have tnb_ := nib8 tn2639_ tn2640_ tn2641_ tn2642_ tn2643_ tn2644_ tn2646_ tn2648_; have t_n8 : (nI ((j15 / 10) - 1)).toInt = ((((j15 / 10) - 1) : Nat) : Int) := nI_toInt (by omega); have t_n9 : (nI j27).toInt = (j27 : Int) := tn2650_ (); omega)) (by decide)) dX11_layBest_195 ?_
                                      refine lv_cgl (y := g28 ((70 * j8) + j15)) (by rw [nI_clamp (by omega)]) ?_
                                      refine W.lcmp hx hb dX11_layBest_196 ?_
                                      refine lv_if_ge (tgt := 205) hx hb dX11_layBest_197 rfl (fun c48 => ?_) (fun c48 => ?_)
                                      · skip
                                        refine lv_aload_n hx hb dX11_layBest_205 rfl (lv_at hl 5 rfl) ?_
                                        refine va_get (D := (dC, dI)) (ci := 11) (v := .ref be) (C := RX11) (T := TX11) (N := 35) hx hb hg inG11 hown hK.1 hP 0 rfl rfl 23 (Nat.le_of_ble_eq_true rfl) (hg _ wt_901) (fun _ h9 => h9) rfl dX11_layBest_206 ?_
                                        refine lv_bipush (v := 70) hx hb dX11_layBest_209 rfl ?_
                                        refine lv_iload_n hx hb dX11_layBest_211 rfl (lv_at hl 4 rfl) ?_
                                        refine lv_imul hx hb dX11_layBest_212 ?_
                                        refine lv_cg (y := nI (70 * j8)) (by rw [show (70 : Int32) = nI 70 from rfl]; exact pk_mul _ _) ?_
                                        refine lv_iload_n hx hb dX11_layBest_213 rfl (lv_at hl 3 rfl) ?_
                                        refine lv_iadd hx hb dX11_layBest_214 ?_
                                        refine lv_cg (y := nI ((70 * j8) + j15)) (by exact nI_add _ _) ?_
                                        refine va_lald hx hb hK.1 hP 2 1 rfl rfl (vp_in_nI (by first | omega | (have t_hj5 := hj5; have t_n7 := n7; have t_hj11 := hj11; have t_n14 := n14; have t_hj19 := hj19; have t_n22 := n22; have t_n24 := n24; have t_hj31 := hj31; have t_n34 := n34; have t_n37 := n37; have t_c38 := neI c38; have t_b43 := b43; have t_c44 := eqI c44; have t_c48 := lcm_ge_t c48; have tqz_ := qz53_; have tnb_ := nib8 tn2639_ tn2640_ tn2641_ tn2642_ tn2643_ tn2644_ tn2646_ tn2648_; have t_n8 : (nI ((j15 / 10) - 1)).toInt = ((((j15 / 10) - 1) : Nat) : Int) := nI_toInt (by omega); have t_n9 : (nI j27).toInt = (j27 : Int) := tn2650_ (); omega)) (by decide)) dX11_layBest_215 ?_
                                        refine lv_cgl (y := g28 ((70 * j8) + j15)) (by rw [nI_clamp (by omega)]) ?_
                                        refine va_last hx hb hK.1 hP hD hS 2 1 rfl rfl (vp_in_nI (by first | omega | (have t_hj5 := hj5; have t_n7 := n7; have t_hj11 := hj11; have t_n14 := n14; have t_hj19 := hj19; have t_n22 := n22; have t_n24 := n24; have t_hj31 := hj31; have t_n34 := n34; have t_n37 := n37; have t_c38 := neI c38; have t_b43 := b43; have t_c44 := eqI c44; have t_c48 := lcm_ge_t c48; have tqz_ := qz53_; have tnb_ := nib8 tn2639_ tn2640_ tn2641_ tn2642_ tn2643_ tn2644_ tn2646_ tn2648_; have t_n8 : (nI ((j15 / 10) - 1)).toInt = ((((j15 / 10) - 1) : Nat) : Int) := nI_toInt (by omega); have t_n9 : (nI j27).toInt = (j27 : Int) := tn2650_ (); omega)) (by decide)) dX11_layBest_216 (fun H locs hP hD hS => ?_)
                                        rw [nI_clamp (by omega)] at hP hD
                                        refine lv_iinc (v := nI (j27 + 1)) (lv' := [(5, .int (nI (j27 + 1))), (6, .long 4000000000000000000), (4, .int (nI ((j15 / 10) - 1))), (3, .int (nI j15)), (2, .int (nI j8)), (0, .ref h0), (1, .int wo)]) hx hb dX11_layBest_217 hl (k := 1) rfl (by rw [show Int32.ofInt 1 = nI 1 from by decide]; exact nI_add _ _) (by decide) rfl (fun ls hl => ?_)
                                        refine lv_goto (tgt := 114) hx hb dX11_layBest_220 rfl ?_
                                        exact ih114_29 (j27 + 1) (by omega) (by omega) (vp_updL g28 ((70 * j8) + j15) (g28 ((70 * j8) + j15))) _ _ (zbB.wo (by have t_hj5 := hj5; have t_n7 := n7; have t_hj11 := hj11; have t_n14 := n14; have t_hj19 := hj19; have t_n22 := n22; have t_n24 := n24; have t_hj31 := hj31; have t_n34 := n34; have t_n37 := n37; have t_c38 := neI c38; have t_b43 := b43; have t_c44 := eqI c44; have t_c48 := lcm_ge_t c48; have tqz_ := qz53_; have tnb_ := nib8 tn2639_ tn2640_ tn2641_ tn2642_ tn2643_ tn2644_ tn2646_ tn2648_; have t_n8 : (nI ((j15 / 10) - 1)).toInt = ((((j15 / 10) - 1) : Nat) : Int) := nI_toInt (by omega); have t_n9 : (nI j27).toInt = (j27 : Int) := tn2650_ (); omega) (by have t_hj5 := hj5; have t_n7 := n7; have t_hj11 := hj11; have t_n14 := n14; have t_hj19 := hj19; have t_n22 := n22; have t_n24 := n24; have t_hj31 := hj31; have t_n34 := n34; have t_n37 := n37; have t_c38 := neI c38; have t_b43 := b43; have t_c44 := eqI c44; have t_c48 := lcm_ge_t c48; have tqz_ := qz53_; have tnb_ := nib8 tn2639_ tn2640_ tn2641_ tn2642_ tn2643_ tn2644_ tn2646_ tn2648_; have t_n8 : (nI ((j15 / 10) - 1)).toInt = ((((j15 / 10) - 1) : Nat) : Int) := nI_toInt (by omega); have t_n9 : (nI j27).toInt = (j27 : Int) := tn2650_ (); omega) (Int32.toInt_inj.mp (by have t_hj5 := hj5; have t_n7 := n7; have t_hj11 := hj11; have t_n14 := n14; have t_hj19 := hj19; have t_n22 := n22; have t_n24 := n24; have t_hj31 := hj31; have t_n34 := n34; have t_n37 := n37; have t_c38 := neI c38; have t_b43 := b43; have t_c44 := eqI c44; have t_c48 := lcm_ge_t c48; have tqz_ := qz53_; have tnb_ := nib8 tn2639_ tn2640_ tn2641_ tn2642_ tn2643_ tn2644_ tn2646_ tn2648_; have t_n8 : (nI ((j15 / 10) - 1)).toInt = ((((j15 / 10) - 1) : Nat) : Int) := nI_toInt (by omega); have t_n9 : (nI j27).toInt = (j27 : Int) := tn2650_ (); have lz0 : (0 : Int32).toInt = 0 := qI_0; have lz1 : (1 : Int32).toInt = 1 := qI_1; have lz2 : (2 : Int32).toInt = 2 := qI_2; have lz3 : (3 : Int32).toInt = 3 := qI_3; have lz5 : (5 : Int32).toInt = 5 := qI_5; have lz9 : (9 : Int32).toInt = 9 := qI_9; omega)) hinv) hP hD hS ls (lv_sub hl [0, 2, 3, 4, 5, 6] rfl)
                                      · skip
                                        refine lv_lload hx hb dX11_layBest_200 (lv_at hl 0 rfl) ?_
                                        refine lv_goto (tgt := 216) hx hb dX11_layBest_202 rfl ?_
                                        refine va_last hx hb hK.1 hP hD hS 2 1 rfl rfl (vp_in_nI (by first | omega | (have t_hj5 := hj5; have t_n7 := n7; have t_hj11 := hj11; have t_n14 := n14; have t_hj19 := hj19; have t_n22 := n22; have t_n24 := n24; have t_hj31 := hj31; have t_n34 := n34; have t_n37 := n37; have t_c38 := neI c38; have t_b43 := b43; have t_c44 := eqI c44; have t_c48 := lcm_ge_f c48; have tqz_ := qz53_; have tnb_ := nib8 tn2639_ tn2640_ tn2641_ tn2642_ tn2643_ tn2644_ tn2646_ tn2648_; have t_n8 : (nI ((j15 / 10) - 1)).toInt = ((((j15 / 10) - 1) : Nat) : Int) := nI_toInt (by omega); have t_n9 : (nI j27).toInt = (j27 : Int) := tn2650_ (); omega)) (by decide)) dX11_layBest_216 (fun H locs hP hD hS => ?_)
                                        rw [nI_clamp (by omega)] at hP hD
                                        refine lv_iinc (v := nI (j27 + 1)) (lv' := [(5, .int (nI (j27 + 1))), (6, .long 4000000000000000000), (4, .int (nI ((j15 / 10) - 1))), (3, .int (nI j15)), (2, .int (nI j8)), (0, .ref h0), (1, .int wo)]) hx hb dX11_layBest_217 hl (k := 1) rfl (by rw [show Int32.ofInt 1 = nI 1 from by decide]; exact nI_add _ _) (by decide) rfl (fun ls hl => ?_)
                                        refine lv_goto (tgt := 114) hx hb dX11_layBest_220 rfl ?_
                                        exact ih114_29 (j27 + 1) (by omega) (by omega) (vp_updL g28 ((70 * j8) + j15) 4000000000000000000) _ _ (zbB.no (k := j15) (by have t_hj5 := hj5; have t_n7 := n7; have t_hj11 := hj11; have t_n14 := n14; have t_hj19 := hj19; have t_n22 := n22; have t_n24 := n24; have t_hj31 := hj31; have t_n34 := n34; have t_n37 := n37; have t_c38 := neI c38; have t_b43 := b43; have t_c44 := eqI c44; have t_c48 := lcm_ge_f c48; have tqz_ := qz53_; have tnb_ := nib8 tn2639_ tn2640_ tn2641_ tn2642_ tn2643_ tn2644_ tn2646_ tn2648_; have t_n8 : (nI ((j15 / 10) - 1)).toInt = ((((j15 / 10) - 1) : Nat) : Int) := nI_toInt (by omega); have t_n9 : (nI j27).toInt = (j27 : Int) := tn2650_ (); omega) (Int.not_le.mp (lcm_ge_f c48)) hinv).elim hP hD hS ls (lv_sub hl [0, 2, 3, 4, 5, 6] rfl)
                        exact loop114_29 (B + 1) 0 (by omega) (by omega) (vp_updL g16 ((70 * j8) + j15) y25) _ _ (zbB.ini hinv (by have t_hj5 := hj5; have t_n7 := n7; have t_hj11 := hj11; have t_n14 := n14; have t_hj19 := hj19; have t_n22 := n22; have t_n24 := n24; have tnb_ := nib8 tn2639_ tn2640_ tn2641_ tn2642_ tn2643_ tn2644_ tn2646_ tn2648_; have t_n8 : (nI ((j15 / 10) - 1)).toInt = ((((j15 / 10) - 1) : Nat) : Int) := nI_toInt (by omega); omega) hcut) hP hD hS ls (lv_sub hl [0, 1, 2, 3, 4, 5] rfl)
                      refine lv_if_ne (tgt := 107) hx hb dX11_layBest_92 rfl (fun c49 => ?_) (fun c49 => ?_)
                      · skip
                        have tn2654_ : nIT (j15 % 10) := fun _ => nI_toInt (by first | omega | (have t := neI c49; omega))
                        have n50 : (j15 % 10) ≠ 0 := by have t := neI c49; rw [show (nI (j15 % 10)).toInt = ((j15 % 10 : Nat) : Int) from tn2654_ ()] at t; have : (0 : Int32).toInt = 0 := qI_0; omega
                        refine lv_ldc2 (v := 4000000000000000000) hx hb hown (hg _ wt_1154) dX11_layBest_107 ?_
                        exact cut110_26 4000000000000000000 _ _ (by first | exact Or.inl ⟨by omega, rfl⟩ | exact Or.inr ⟨by omega, rfl⟩) hP hD hS ls (lv_sub hl [0, 1, 2, 3, 4] rfl)
                      · skip
                        have tn2655_ : nIT (j15 % 10) := fun _ => nI_toInt (by first | omega | (have t := eqI c49; omega))
                        have n51 : (j15 % 10) = 0 := by have t := eqI c49; rw [show (nI (j15 % 10)).toInt = ((j15 % 10 : Nat) : Int) from tn2655_ ()] at t; have : (0 : Int32).toInt = 0 := qI_0; omega
                        refine lv_aload_n hx hb dX11_layBest_95 rfl (lv_at hl 3 rfl) ?_
                        refine va_get (D := (dC, dI)) (ci := 11) (v := .int (nI N)) (C := RX11) (T := TX11) (N := 35) hx hb hg inG11 hown hK.1 hP 0 rfl rfl 1 (Nat.le_of_ble_eq_true rfl) (hg _ wt_879) (fun _ h9 => h9) rfl dX11_layBest_96 ?_
                        refine lv_iload_n hx hb dX11_layBest_99 rfl (lv_at hl 2 rfl) ?_
                        refine lv_isub hx hb dX11_layBest_100 ?_
                        refine lv_cg (y := nI (N - j8)) (by exact pk_sub (by have t_hj5 := hj5; have t_n7 := n7; have t_hj11 := hj11; have t_n14 := n14; have t_hj19 := hj19; have t_n22 := n22; have t_n24 := n24; have t_n51 := n51; have tnb_ := nib8 tn2639_ tn2640_ tn2641_ tn2642_ tn2643_ tn2644_ tn2646_ tn2648_; have t_n8 : (nI ((j15 / 10) - 1)).toInt = ((((j15 / 10) - 1) : Nat) : Int) := nI_toInt (by omega); omega)) ?_
                        have hPc := hP.sub (ws' := []) [] rfl
                        refine va_calll (va_runS (As := [.int (nI (N - j8))]) (rest := [.int (nI ((70 * j8) + j15)), .ref be]) ⟨hx, hb, hml, hown, hg⟩ (c_X11_power l dC dI G _ (N - j8) (by first | omega | (have t_hj5 := hj5; have t_n7 := n7; have t_hj11 := hj11; have t_n14 := n14; have t_hj19 := hj19; have t_n22 := n22; have t_n24 := n24; have t_n51 := n51; have tnb_ := nib8 tn2639_ tn2640_ tn2641_ tn2642_ tn2643_ tn2644_ tn2646_ tn2648_; have t_n8 : (nI ((j15 / 10) - 1)).toInt = ((((j15 / 10) - 1) : Nat) : Int) := nI_toInt (by omega); omega))) (kwS hg mfX11_power wt_1131 ⟨Nat.le_of_ble_eq_true rfl, Nat.le_of_ble_eq_true rfl⟩) (preSR hK hPc) rfl rfl hl.1 rfl (lv_room (Nat.le_of_ble_eq_true rfl)) dX11_layBest_101 ⟨Nat.le_of_ble_eq_true rfl, Nat.le_of_ble_eq_true rfl⟩) hS (fun q h1 h2 => absurd h2 (Nat.not_le.mpr h1)) (fun q h => hA q (Nat.le_trans hS.1 h)) (fun r52 ur52 t H1 locs ht hvm w53 hB hz1 hk1 hS => ?_)
                        have hP := keepR hP hk1
                        obtain ⟨w53, w53x⟩ := w53
                        subst w53
                        refine lv_goto (tgt := 110) hx hb dX11_layBest_104 rfl ?_
                        exact cut110_26 (powF (N - j8)) _ _ (by first | exact Or.inl ⟨by omega, rfl⟩ | exact Or.inr ⟨by omega, rfl⟩) hP hD hS ls (lv_sub hl [0, 1, 2, 3, 4] rfl)
                    · skip
                      have n54 : j15 < 10 := by have t := nleI c23; rw [show (nI (j15)).toInt = ((j15 : Nat) : Int) from tn2648_ ()] at t; have : (10 : Int32).toInt = 10 := qI_10; omega
                      refine lv_bipush (v := (-4)) hx hb dX11_layBest_65 rfl ?_
                      refine lv_goto (tgt := 76) hx hb dX11_layBest_67 rfl ?_
                      refine lv_istore (lv' := [(4, .int (-4)), (3, .int (nI j15)), (2, .int (nI j8)), (0, .ref h0), (1, .int wo)]) hx hb dX11_layBest_76 hl (by decide) rfl (fun ls hl => ?_)
                      refine lv_aload_n hx hb dX11_layBest_78 rfl (lv_at hl 3 rfl) ?_
                      refine va_get (D := (dC, dI)) (ci := 11) (v := .ref be) (C := RX11) (T := TX11) (N := 35) hx hb hg inG11 hown hK.1 hP 0 rfl rfl 23 (Nat.le_of_ble_eq_true rfl) (hg _ wt_901) (fun _ h9 => h9) rfl dX11_layBest_79 ?_
                      refine lv_bipush (v := 70) hx hb dX11_layBest_82 rfl ?_
                      refine lv_iload_n hx hb dX11_layBest_84 rfl (lv_at hl 2 rfl) ?_
                      refine lv_imul hx hb dX11_layBest_85 ?_
                      refine lv_cg (y := nI (70 * j8)) (by rw [show (70 : Int32) = nI 70 from rfl]; exact pk_mul _ _) ?_
                      refine lv_iload_n hx hb dX11_layBest_86 rfl (lv_at hl 1 rfl) ?_
                      refine lv_iadd hx hb dX11_layBest_87 ?_
                      refine lv_cg (y := nI ((70 * j8) + j15)) (by exact nI_add _ _) ?_
                      refine lv_iload_n hx hb dX11_layBest_88 rfl (lv_at hl 1 rfl) ?_
                      refine lv_bipush (v := 10) hx hb dX11_layBest_89 rfl ?_
                      refine lv_irem hx hb dX11_layBest_91 (by decide) ?_
                      refine lv_cg (y := nI (j15 % 10)) (by rw [show (10 : Int32) = nI 10 from rfl]; exact pk_rem (by omega) (by omega) (by omega)) ?_
                      have cut110_56 : ∀ (y55 : Int64) (H : Heap) (locs : List Loc), ((j15 % 10 = 0 ∧ y55 = powF (N - j8)) ∨ (j15 % 10 ≠ 0 ∧ y55 = 4000000000000000000)) → va_P (dC, dI) vwCl [(h0, .inr (11, [.ref st, .int (nI N), .int (nI B), .ref rp, .int vrs, .int vrb, .int vhs, .int vca, .int vxs, .int vxb, .ref tp, .int (nI T), .int vfa, .int vbr, .int vba, .int vsp, .int vhe, .int vtk, .int vva, .ref cu, .ref lt, .ref od, .ref th, .ref be, .ref ln, .int (nI S), .ref ma, .int (nI M), .ref ah, .ref bh, .ref ik, .ref la, .ref lg, .ref ce, .int vto])), (st, .inl (G 0, 196, .inl fst)), (be, .inl (G 1, 770, .inr (.inl g16)))] H → va_D A [(h0, .inr (11, [.ref st, .int (nI N), .int (nI B), .ref rp, .int vrs, .int vrb, .int vhs, .int vca, .int vxs, .int vxb, .ref tp, .int (nI T), .int vfa, .int vbr, .int vba, .int vsp, .int vhe, .int vtk, .int vva, .ref cu, .ref lt, .ref od, .ref th, .ref be, .ref ln, .int (nI S), .ref ma, .int (nI M), .ref ah, .ref bh, .ref ik, .ref la, .ref lg, .ref ce, .int vto])), (st, .inl (G 0, 196, .inl fst)), (be, .inl (G 1, 770, .inr (.inl g16)))] → va_S A s.heap H locs → ∀ (ls : Array Slot), lv_has ls 8 [(4, .int (-4)), (3, .int (nI j15)), (2, .int (nI j8)), (0, .ref h0), (1, .int wo)] → W p l e (headSpec (Cond.code yX11_layBest cX11_layBest 8 none :: GT) ({ frames := 3, cells := 0, slots := 0, locals := 75 } : Room)).room s m ([.ref h0, .int wo] : List Value).toArray below meth c H locs 0 0 (MQ below (va_Qv (fun (u : (Nat → Int64)) => match u with | obe => zbR fst N B wo 0 obe) (fun (u : (Nat → Int64)) (t : State) => match u with | obe => va_P (dC, dI) vwCl [(h0, .inr (11, [.ref st, .int (nI N), .int (nI B), .ref rp, .int vrs, .int vrb, .int vhs, .int vca, .int vxs, .int vxb, .ref tp, .int (nI T), .int vfa, .int vbr, .int vba, .int vsp, .int vhe, .int vtk, .int vva, .ref cu, .ref lt, .ref od, .ref th, .ref be, .ref ln, .int (nI S), .ref ma, .int (nI M), .ref ah, .ref bh, .ref ik, .ref la, .ref lg, .ref ce, .int vto])), (st, .inl (G 0, 196, .inl fst)), (be, .inl (G 1, 770, .inr (.inl obe)))] t.heap ∧ va_D A [(h0, .inr (11, [.ref st, .int (nI N), .int (nI B), .ref rp, .int vrs, .int vrb, .int vhs, .int vca, .int vxs, .int vxb, .ref tp, .int (nI T), .int vfa, .int vbr, .int vba, .int vsp, .int vhe, .int vtk, .int vva, .ref cu, .ref lt, .ref od, .ref th, .ref be, .ref ln, .int (nI S), .ref ma, .int (nI M), .ref ah, .ref bh, .ref ik, .ref la, .ref lg, .ref ce, .int vto])), (st, .inl (G 0, 196, .inl fst)), (be, .inl (G 1, 770, .inr (.inl obe)))]) A) ([.ref h0, .int wo] : List Value).toArray s 0 0 A) (F0 m 110 ls [.long y55, .int (nI ((70 * j8) + j15)), .ref be]) := by
                        intro y55 H locs hcut hP hD hS ls hl
                        refine va_last hx hb hK.1 hP hD hS 2 1 rfl rfl (vp_in_nI (by first | omega | (have t_hj5 := hj5; have t_n7 := n7; have t_hj11 := hj11; have t_n14 := n14; have t_hj19 := hj19; have t_n22 := n22; have t_n54 := n54; have tnb_ := nib8 tn2639_ tn2640_ tn2641_ tn2642_ tn2643_ tn2644_ tn2646_ tn2648_; omega)) (by decide)) dX11_layBest_110 (fun H locs hP hD hS => ?_)
                        rw [nI_clamp (by omega)] at hP hD
                        refine lv_iconst (v := 0) hx hb dX11_layBest_111 rfl ?_
                        refine lv_istore (lv' := [(5, .int 0), (4, .int (-4)), (3, .int (nI j15)), (2, .int (nI j8)), (0, .ref h0), (1, .int wo)]) hx hb dX11_layBest_112 hl (by decide) rfl (fun ls hl => ?_)
                        have loop114_59 : ∀ (nf j57 : Nat), B + 1 ≤ j57 + nf → j57 ≤ B → ∀ (g58 : Nat → Int64) (H : Heap) (locs : List Loc), zbB fst N B wo j8 j15 j57 g58 → va_P (dC, dI) vwCl [(h0, .inr (11, [.ref st, .int (nI N), .int (nI B), .ref rp, .int vrs, .int vrb, .int vhs, .int vca, .int vxs, .int vxb, .ref tp, .int (nI T), .int vfa, .int vbr, .int vba, .int vsp, .int vhe, .int vtk, .int vva, .ref cu, .ref lt, .ref od, .ref th, .ref be, .ref ln, .int (nI S), .ref ma, .int (nI M), .ref ah, .ref bh, .ref ik, .ref la, .ref lg, .ref ce, .int vto])), (st, .inl (G 0, 196, .inl fst)), (be, .inl (G 1, 770, .inr (.inl g58)))] H → va_D A [(h0, .inr (11, [.ref st, .int (nI N), .int (nI B), .ref rp, .int vrs, .int vrb, .int vhs, .int vca, .int vxs, .int vxb, .ref tp, .int (nI T), .int vfa, .int vbr, .int vba, .int vsp, .int vhe, .int vtk, .int vva, .ref cu, .ref lt, .ref od, .ref th, .ref be, .ref ln, .int (nI S), .ref ma, .int (nI M), .ref ah, .ref bh, .ref ik, .ref la, .ref lg, .ref ce, .int vto])), (st, .inl (G 0, 196, .inl fst)), (be, .inl (G 1, 770, .inr (.inl g58)))] → va_S A s.heap H locs → ∀ (ls : Array Slot), lv_has ls 8 [(5, .int (nI j57)), (4, .int (-4)), (3, .int (nI j15)), (2, .int (nI j8)), (0, .ref h0), (1, .int wo)] → W p l e (headSpec (Cond.code yX11_layBest cX11_layBest 8 none :: GT) ({ frames := 3, cells := 0, slots := 0, locals := 75 } : Room)).room s m ([.ref h0, .int wo] : List Value).toArray below meth c H locs 0 0 (MQ below (va_Qv (fun (u : (Nat → Int64)) => match u with | obe => zbR fst N B wo 0 obe) (fun (u : (Nat → Int64)) (t : State) => match u with | obe => va_P (dC, dI) vwCl [(h0, .inr (11, [.ref st, .int (nI N), .int (nI B), .ref rp, .int vrs, .int vrb, .int vhs, .int vca, .int vxs, .int vxb, .ref tp, .int (nI T), .int vfa, .int vbr, .int vba, .int vsp, .int vhe, .int vtk, .int vva, .ref cu, .ref lt, .ref od, .ref th, .ref be, .ref ln, .int (nI S), .ref ma, .int (nI M), .ref ah, .ref bh, .ref ik, .ref la, .ref lg, .ref ce, .int vto])), (st, .inl (G 0, 196, .inl fst)), (be, .inl (G 1, 770, .inr (.inl obe)))] t.heap ∧ va_D A [(h0, .inr (11, [.ref st, .int (nI N), .int (nI B), .ref rp, .int vrs, .int vrb, .int vhs, .int vca, .int vxs, .int vxb, .ref tp, .int (nI T), .int vfa, .int vbr, .int vba, .int vsp, .int vhe, .int vtk, .int vva, .ref cu, .ref lt, .ref od, .ref th, .ref be, .ref ln, .int (nI S), .ref ma, .int (nI M), .ref ah, .ref bh, .ref ik, .ref la, .ref lg, .ref ce, .int vto])), (st, .inl (G 0, 196, .inl fst)), (be, .inl (G 1, 770, .inr (.inl obe)))]) A) ([.ref h0, .int wo] : List Value).toArray s 0 0 A) (F0 m 114 ls []) := by
                          intro nf
                          induction nf with
                          | zero => intro j57 h1 h2; exact absurd h1 (by omega)
                          | succ nf ih114_59 =>
                            intro j57 hn60 hj61 g58 H locs hinv hP hD hS ls hl
                            refine lv_iload hx hb dX11_layBest_114 (lv_at hl 0 rfl) ?_
                            refine lv_aload_n hx hb dX11_layBest_116 rfl (lv_at hl 4 rfl) ?_
                            refine va_get (D := (dC, dI)) (ci := 11) (v := .int (nI B)) (C := RX11) (T := TX11) (N := 35) hx hb hg inG11 hown hK.1 hP 0 rfl rfl 2 (Nat.le_of_ble_eq_true rfl) (hg _ wt_880) (fun _ h9 => h9) rfl dX11_layBest_117 ?_
                            refine lv_icmp_ge (tgt := 223) hx hb dX11_layBest_120 rfl (fun c62 => ?_) (fun c62 => ?_)
                            · skip
                              have tn2656_ : nIT j57 := fun _ => nI_toInt (by first | omega | (have t := leI c62; omega))
                              have n63 : B ≤ j57 := by have t := leI c62; rw [show (nI (j57)).toInt = ((j57 : Nat) : Int) from tn2656_ ()] at t; rw [show (nI (B)).toInt = ((B : Nat) : Int) from tn2640_ ()] at t; omega
                              refine lv_iinc (v := nI (j15 + 1)) (lv' := [(3, .int (nI (j15 + 1))), (5, .int (nI j57)), (4, .int (-4)), (2, .int (nI j8)), (0, .ref h0), (1, .int wo)]) hx hb dX11_layBest_223 hl (k := 2) rfl (by rw [show Int32.ofInt 1 = nI 1 from by decide]; exact nI_add _ _) (by decide) rfl (fun ls hl => ?_)
                              refine lv_goto (tgt := 53) hx hb dX11_layBest_226 rfl ?_
                              exact ih53_17 (j15 + 1) (by omega) (by omega) g58 _ _ (zbB.out (by have t_hj5 := hj5; have t_n7 := n7; have t_hj11 := hj11; have t_n14 := n14; have t_hj19 := hj19; have t_n22 := n22; have t_n54 := n54; have t_hj61 := hj61; have t_n63 := n63; have tnb_ := nib9 tn2639_ tn2640_ tn2641_ tn2642_ tn2643_ tn2644_ tn2646_ tn2648_ tn2656_; omega) (by have t_hj5 := hj5; have t_n7 := n7; have t_hj11 := hj11; have t_n14 := n14; have t_hj19 := hj19; have t_n22 := n22; have t_n54 := n54; have t_hj61 := hj61; have t_n63 := n63; have tnb_ := nib9 tn2639_ tn2640_ tn2641_ tn2642_ tn2643_ tn2644_ tn2646_ tn2648_ tn2656_; omega) (by have t_hj5 := hj5; have t_n7 := n7; have t_hj11 := hj11; have t_n14 := n14; have t_hj19 := hj19; have t_n22 := n22; have t_n54 := n54; have t_hj61 := hj61; have t_n63 := n63; have tnb_ := nib9 tn2639_ tn2640_ tn2641_ tn2642_ tn2643_ tn2644_ tn2646_ tn2648_ tn2656_; omega) (by have t_hj5 := hj5; have t_n7 := n7; have t_hj11 := hj11; have t_n14 := n14; have t_hj19 := hj19; have t_n22 := n22; have t_n54 := n54; have t_hj61 := hj61; have t_n63 := n63; have tnb_ := nib9 tn2639_ tn2640_ tn2641_ tn2642_ tn2643_ tn2644_ tn2646_ tn2648_ tn2656_; omega) hinv) hP hD hS ls (lv_sub hl [0, 3, 4, 5] rfl)
                            · skip
                              have tn2657_ : nIT j57 := fun _ => nI_toInt (by first | omega | (have t := nleI c62; omega))
                              have n64 : j57 < B := by have t := nleI c62; rw [show (nI (j57)).toInt = ((j57 : Nat) : Int) from tn2657_ ()] at t; rw [show (nI (B)).toInt = ((B : Nat) : Int) from tn2640_ ()] at t; omega
                              refine lv_iload_n hx hb dX11_layBest_123 rfl (lv_at hl 2 rfl) ?_
                              refine lv_bipush (v := 10) hx hb dX11_layBest_124 rfl ?_
                              refine lv_irem hx hb dX11_layBest_126 (by decide) ?_
                              refine lv_cg (y := nI (j15 % 10)) (by rw [show (10 : Int32) = nI 10 from rfl]; exact pk_rem (by omega) (by omega) (by omega)) ?_
                              refine lv_if_le (tgt := 223) hx hb dX11_layBest_127 rfl (fun c65 => ?_) (fun c65 => ?_)
                              · skip
                                have tn2658_ : nIT (j15 % 10) := fun _ => nI_toInt (by first | omega | (have t := leI c65; omega))
                                have n66 : (j15 % 10) ≤ 0 := by have t := leI c65; rw [show (nI (j15 % 10)).toInt = ((j15 % 10 : Nat) : Int) from tn2658_ ()] at t; have : (0 : Int32).toInt = 0 := qI_0; omega
                                refine lv_iinc (v := nI (j15 + 1)) (lv' := [(3, .int (nI (j15 + 1))), (5, .int (nI j57)), (4, .int (-4)), (2, .int (nI j8)), (0, .ref h0), (1, .int wo)]) hx hb dX11_layBest_223 hl (k := 2) rfl (by rw [show Int32.ofInt 1 = nI 1 from by decide]; exact nI_add _ _) (by decide) rfl (fun ls hl => ?_)
                                refine lv_goto (tgt := 53) hx hb dX11_layBest_226 rfl ?_
                                exact ih53_17 (j15 + 1) (by omega) (by omega) g58 _ _ (zbB.out (by have t_hj5 := hj5; have t_n7 := n7; have t_hj11 := hj11; have t_n14 := n14; have t_hj19 := hj19; have t_n22 := n22; have t_n54 := n54; have t_hj61 := hj61; have t_n64 := n64; have t_n66 := n66; have tnb_ := nib9 tn2639_ tn2640_ tn2641_ tn2642_ tn2643_ tn2644_ tn2646_ tn2648_ tn2657_; omega) (by have t_hj5 := hj5; have t_n7 := n7; have t_hj11 := hj11; have t_n14 := n14; have t_hj19 := hj19; have t_n22 := n22; have t_n54 := n54; have t_hj61 := hj61; have t_n64 := n64; have t_n66 := n66; have tnb_ := nib9 tn2639_ tn2640_ tn2641_ tn2642_ tn2643_ tn2644_ tn2646_ tn2648_ tn2657_; omega) (by have t_hj5 := hj5; have t_n7 := n7; have t_hj11 := hj11; have t_n14 := n14; have t_hj19 := hj19; have t_n22 := n22; have t_n54 := n54; have t_hj61 := hj61; have t_n64 := n64; have t_n66 := n66; have tnb_ := nib9 tn2639_ tn2640_ tn2641_ tn2642_ tn2643_ tn2644_ tn2646_ tn2648_ tn2657_; omega) (by have t_hj5 := hj5; have t_n7 := n7; have t_hj11 := hj11; have t_n14 := n14; have t_hj19 := hj19; have t_n22 := n22; have t_n54 := n54; have t_hj61 := hj61; have t_n64 := n64; have t_n66 := n66; have tnb_ := nib9 tn2639_ tn2640_ tn2641_ tn2642_ tn2643_ tn2644_ tn2646_ tn2648_ tn2657_; omega) hinv) hP hD hS ls (lv_sub hl [0, 3, 4, 5] rfl)
                              · skip
                                have tn2659_ : nIT (j15 % 10) := fun _ => nI_toInt (by first | omega | (have t := nleI c65; omega))
                                have n67 : 0 < (j15 % 10) := by have t := nleI c65; rw [show (nI (j15 % 10)).toInt = ((j15 % 10 : Nat) : Int) from tn2659_ ()] at t; have : (0 : Int32).toInt = 0 := qI_0; omega
                                refine lv_iload hx hb dX11_layBest_130 (lv_at hl 1 rfl) ?_
                                refine lv_bipush (v := (-4)) hx hb dX11_layBest_132 rfl ?_
                                refine lv_icmp_eq (tgt := 146) hx hb dX11_layBest_134 rfl (fun c68 => ?_) (fun c68 => ?_)
                                · skip
                                  refine lv_iload hx hb dX11_layBest_146 (lv_at hl 0 rfl) ?_
                                  refine lv_iload_n hx hb dX11_layBest_148 rfl (lv_at hl 5 rfl) ?_
                                  refine lv_icmp_ne (tgt := 158) hx hb dX11_layBest_149 rfl (fun c69 => ?_) (fun c69 => ?_)
                                  · skip
                                    refine lv_aload_n hx hb dX11_layBest_158 rfl (lv_at hl 4 rfl) ?_
                                    refine lv_iload_n hx hb dX11_layBest_159 rfl (lv_at hl 3 rfl) ?_
                                    refine lv_iload hx hb dX11_layBest_160 (lv_at hl 1 rfl) ?_
                                    refine lv_iload_n hx hb dX11_layBest_162 rfl (lv_at hl 2 rfl) ?_
                                    refine lv_bipush (v := 10) hx hb dX11_layBest_163 rfl ?_
                                    refine lv_irem hx hb dX11_layBest_165 (by decide) ?_
                                    refine lv_cg (y := nI (j15 % 10)) (by rw [show (10 : Int32) = nI 10 from rfl]; exact pk_rem (by omega) (by omega) (by omega)) ?_
                                    refine lv_iload hx hb dX11_layBest_166 (lv_at hl 0 rfl) ?_
                                    have hPc := hP.sub (ws' := [(h0, .inr (11, [.ref st, .int (nI N), .int (nI B), .ref rp, .int vrs, .int vrb, .int vhs, .int vca, .int vxs, .int vxb, .ref tp, .int (nI T), .int vfa, .int vbr, .int vba, .int vsp, .int vhe, .int vtk, .int vva, .ref cu, .ref lt, .ref od, .ref th, .ref be, .ref ln, .int (nI S), .ref ma, .int (nI M), .ref ah, .ref bh, .ref ik, .ref la, .ref lg, .ref ce, .int vto])), (st, .inl (G 0, 196, .inl fst)), (be, .inl (G 1, 770, .inr (.inl g58)))]) [0, 1, 2] rfl
                                    refine va_calll (va_runV (As := [.int (nI j8), .int (-4), .int (nI (j15 % 10)), .int (nI j57)]) (rest := []) ⟨hx, hb, hml, hown, hg⟩ (c_X11_byOneN l dC dI G _ h0 j8 (j15 % 10) j57 st N B rp tp T cu lt od th be ln S ma M ah bh ik la lg ce vrs vrb vhs vca vxs vxb vfa vbr vba vsp vhe vtk vva vto fst g58 hN hB_ hT_ hS0 hM_ (by first | omega | (have t_hj5 := hj5; have t_n7 := n7; have t_hj11 := hj11; have t_n14 := n14; have t_hj19 := hj19; have t_n22 := n22; have t_n54 := n54; have t_hj61 := hj61; have t_n64 := n64; have t_n67 := n67; have t_c68 := eqI c68; have t_c69 := neI c69; have : ((-4) : Int32).toInt = -4 := qI_m4; have tnb_ := nib9 tn2639_ tn2640_ tn2641_ tn2642_ tn2643_ tn2644_ tn2646_ tn2648_ tn2657_; have : ((-4) : Int32).toInt = -4 := qI_m4; omega)) (by first | omega | (have t_hj5 := hj5; have t_n7 := n7; have t_hj11 := hj11; have t_n14 := n14; have t_hj19 := hj19; have t_n22 := n22; have t_n54 := n54; have t_hj61 := hj61; have t_n64 := n64; have t_n67 := n67; have t_c68 := eqI c68; have t_c69 := neI c69; have : ((-4) : Int32).toInt = -4 := qI_m4; have tnb_ := nib9 tn2639_ tn2640_ tn2641_ tn2642_ tn2643_ tn2644_ tn2646_ tn2648_ tn2657_; have : ((-4) : Int32).toInt = -4 := qI_m4; omega)) (by first | omega | (have t_hj5 := hj5; have t_n7 := n7; have t_hj11 := hj11; have t_n14 := n14; have t_hj19 := hj19; have t_n22 := n22; have t_n54 := n54; have t_hj61 := hj61; have t_n64 := n64; have t_n67 := n67; have t_c68 := eqI c68; have t_c69 := neI c69; have : ((-4) : Int32).toInt = -4 := qI_m4; have tnb_ := nib9 tn2639_ tn2640_ tn2641_ tn2642_ tn2643_ tn2644_ tn2646_ tn2648_ tn2657_; have : ((-4) : Int32).toInt = -4 := qI_m4; omega))) (kwV hg mfX11_byOne wt_1155 ⟨Nat.le_of_ble_eq_true rfl, Nat.le_of_ble_eq_true rfl⟩) (preVR hK hPc (ci := 11) (r := (RX11, TX11, 35)) rfl rfl) rfl rfl hl.1 rfl (lv_room (Nat.le_of_ble_eq_true rfl)) dX11_layBest_168 ⟨Nat.le_of_ble_eq_true rfl, Nat.le_of_ble_eq_true rfl⟩) hS (fun q h1 h2 => absurd h2 (Nat.not_le.mpr h1)) (fun q h => hA q (Nat.le_trans hS.1 h)) (fun r70 ur70 t H1 locs ht hvm w71 hB hz1 hk1 hS => ?_)
                                    have hP := keepR hP hk1
                                    obtain ⟨w71, w71x⟩ := w71
                                    subst w71
                                    refine lv_lstore (lv' := [(6, .long (b1N fst g58 j8 (j15 % 10) j57)), (5, .int (nI j57)), (4, .int (-4)), (3, .int (nI j15)), (2, .int (nI j8)), (0, .ref h0), (1, .int wo)]) hx hb dX11_layBest_171 hl (by decide) rfl (fun ls hl => ?_)
                                    refine lv_aload_n hx hb dX11_layBest_173 rfl (lv_at hl 5 rfl) ?_
                                    refine va_get (D := (dC, dI)) (ci := 11) (v := .ref be) (C := RX11) (T := TX11) (N := 35) hx hb hg inG11 hown hK.1 hP 0 rfl rfl 23 (Nat.le_of_ble_eq_true rfl) (hg _ wt_901) (fun _ h9 => h9) rfl dX11_layBest_174 ?_
                                    refine lv_bipush (v := 70) hx hb dX11_layBest_177 rfl ?_
                                    refine lv_iload_n hx hb dX11_layBest_179 rfl (lv_at hl 4 rfl) ?_
                                    refine lv_imul hx hb dX11_layBest_180 ?_
                                    refine lv_cg (y := nI (70 * j8)) (by rw [show (70 : Int32) = nI 70 from rfl]; exact pk_mul _ _) ?_
                                    refine lv_iload_n hx hb dX11_layBest_181 rfl (lv_at hl 3 rfl) ?_
                                    refine lv_iadd hx hb dX11_layBest_182 ?_
                                    refine lv_cg (y := nI ((70 * j8) + j15)) (by exact nI_add _ _) ?_
                                    refine lv_lload hx hb dX11_layBest_183 (lv_at hl 0 rfl) ?_
                                    refine lv_aload_n hx hb dX11_layBest_185 rfl (lv_at hl 5 rfl) ?_
                                    refine va_get (D := (dC, dI)) (ci := 11) (v := .ref be) (C := RX11) (T := TX11) (N := 35) hx hb hg inG11 hown hK.1 hP 0 rfl rfl 23 (Nat.le_of_ble_eq_true rfl) (hg _ wt_901) (fun _ h9 => h9) rfl dX11_layBest_186 ?_
                                    refine lv_bipush (v := 70) hx hb dX11_layBest_189 rfl ?_
                                    refine lv_iload_n hx hb dX11_layBest_191 rfl (lv_at hl 4 rfl) ?_
                                    refine lv_imul hx hb dX11_layBest_192 ?_
                                    refine lv_cg (y := nI (70 * j8)) (by rw [show (70 : Int32) = nI 70 from rfl]; exact pk_mul _ _) ?_
                                    refine lv_iload_n hx hb dX11_layBest_193 rfl (lv_at hl 3 rfl) ?_
                                    refine lv_iadd hx hb dX11_layBest_194 ?_
                                    refine lv_cg (y := nI ((70 * j8) + j15)) (by exact nI_add _ _) ?_
                                    refine va_lald hx hb hK.1 hP 2 1 rfl rfl (vp_in_nI (by first | omega | (have t_hj5 := hj5; have t_n7 := n7; have t_hj11 := hj11; have t_n14 := n14; have t_hj19 := hj19; have t_n22 := n22; have t_n54 := n54; have t_hj61 := hj61; have t_n64 := n64; have t_n67 := n67; have t_c68 := eqI c68; have t_c69 := neI c69; have : ((-4) : Int32).toInt = -4 := qI_m4; have tnb_ := nib9 tn2639_ tn2640_ tn2641_ tn2642_ tn2643_ tn2644_ tn2646_ tn2648_ tn2657_; omega)) (by decide)) dX11_layBest_195 ?_
                                    refine lv_cgl (y := g58 ((70 * j8) + j15)) (by rw [nI_clamp (by omega)]) ?_
                                    refine W.lcmp hx hb dX11_layBest_196 ?_
                                    refine lv_if_ge (tgt := 205) hx hb dX11_layBest_197 rfl (fun c72 => ?_) (fun c72 => ?_)
                                    · skip
                                      refine lv_aload_n hx hb dX11_layBest_205 rfl (lv_at hl 5 rfl) ?_
                                      refine va_get (D := (dC, dI)) (ci := 11) (v := .ref be) (C := RX11) (T := TX11) (N := 35) hx hb hg inG11 hown hK.1 hP 0 rfl rfl 23 (Nat.le_of_ble_eq_true rfl) (hg _ wt_901) (fun _ h9 => h9) rfl dX11_layBest_206 ?_
                                      refine lv_bipush (v := 70) hx hb dX11_layBest_209 rfl ?_
                                      refine lv_iload_n hx hb dX11_layBest_211 rfl (lv_at hl 4 rfl) ?_
                                      refine lv_imul hx hb dX11_layBest_212 ?_
                                      refine lv_cg (y := nI (70 * j8)) (by rw [show (70 : Int32) = nI 70 from rfl]; exact pk_mul _ _) ?_
                                      refine lv_iload_n hx hb dX11_layBest_213 rfl (lv_at hl 3 rfl) ?_
                                      refine lv_iadd hx hb dX11_layBest_214 ?_
                                      refine lv_cg (y := nI ((70 * j8) + j15)) (by exact nI_add _ _) ?_
                                      refine va_lald hx hb hK.1 hP 2 1 rfl rfl (vp_in_nI (by first | omega | (have t_hj5 := hj5; have t_n7 := n7; have t_hj11 := hj11; have t_n14 := n14; have t_hj19 := hj19; have t_n22 := n22; have t_n54 := n54; have t_hj61 := hj61; have t_n64 := n64; have t_n67 := n67; have t_c68 := eqI c68; have t_c69 := neI c69; have t_c72 := lcm_ge_t c72; have : ((-4) : Int32).toInt = -4 := qI_m4; have tnb_ := nib9 tn2639_ tn2640_ tn2641_ tn2642_ tn2643_ tn2644_ tn2646_ tn2648_ tn2657_; omega)) (by decide)) dX11_layBest_215 ?_
                                      refine lv_cgl (y := g58 ((70 * j8) + j15)) (by rw [nI_clamp (by omega)]) ?_
                                      refine va_last hx hb hK.1 hP hD hS 2 1 rfl rfl (vp_in_nI (by first | omega | (have t_hj5 := hj5; have t_n7 := n7; have t_hj11 := hj11; have t_n14 := n14; have t_hj19 := hj19; have t_n22 := n22; have t_n54 := n54; have t_hj61 := hj61; have t_n64 := n64; have t_n67 := n67; have t_c68 := eqI c68; have t_c69 := neI c69; have t_c72 := lcm_ge_t c72; have : ((-4) : Int32).toInt = -4 := qI_m4; have tnb_ := nib9 tn2639_ tn2640_ tn2641_ tn2642_ tn2643_ tn2644_ tn2646_ tn2648_ tn2657_; omega)) (by decide)) dX11_layBest_216 (fun H locs hP hD hS => ?_)
                                      rw [nI_clamp (by omega)] at hP hD
                                      refine lv_iinc (v := nI (j57 + 1)) (lv' := [(5, .int (nI (j57 + 1))), (6, .long (b1N fst g58 j8 (j15 % 10) j57)), (4, .int (-4)), (3, .int (nI j15)), (2, .int (nI j8)), (0, .ref h0), (1, .int wo)]) hx hb dX11_layBest_217 hl (k := 1) rfl (by rw [show Int32.ofInt 1 = nI 1 from by decide]; exact nI_add _ _) (by decide) rfl (fun ls hl => ?_)
                                      refine lv_goto (tgt := 114) hx hb dX11_layBest_220 rfl ?_
                                      exact ih114_59 (j57 + 1) (by omega) (by omega) (vp_updL g58 ((70 * j8) + j15) (g58 ((70 * j8) + j15))) _ _ (zbB.ge (by have t_hj5 := hj5; have t_n7 := n7; have t_hj11 := hj11; have t_n14 := n14; have t_hj19 := hj19; have t_n22 := n22; have t_n54 := n54; have t_hj61 := hj61; have t_n64 := n64; have t_n67 := n67; have t_c68 := eqI c68; have t_c69 := neI c69; have t_c72 := lcm_ge_t c72; have : ((-4) : Int32).toInt = -4 := qI_m4; have tnb_ := nib9 tn2639_ tn2640_ tn2641_ tn2642_ tn2643_ tn2644_ tn2646_ tn2648_ tn2657_; omega) (by have t_hj5 := hj5; have t_n7 := n7; have t_hj11 := hj11; have t_n14 := n14; have t_hj19 := hj19; have t_n22 := n22; have t_n54 := n54; have t_hj61 := hj61; have t_n64 := n64; have t_n67 := n67; have t_c68 := eqI c68; have t_c69 := neI c69; have t_c72 := lcm_ge_t c72; have : ((-4) : Int32).toInt = -4 := qI_m4; have tnb_ := nib9 tn2639_ tn2640_ tn2641_ tn2642_ tn2643_ tn2644_ tn2646_ tn2648_ tn2657_; omega) (by unfold b1; first | (rw [if_pos (by omega)]) | (rw [if_neg (by omega)])) (fun e9 => by have e8 := congrArg Int32.toInt e9; have t_hj5 := hj5; have t_n7 := n7; have t_hj11 := hj11; have t_n14 := n14; have t_hj19 := hj19; have t_n22 := n22; have t_n54 := n54; have t_hj61 := hj61; have t_n64 := n64; have t_n67 := n67; have t_c68 := eqI c68; have t_c69 := neI c69; have t_c72 := lcm_ge_t c72; have : ((-4) : Int32).toInt = -4 := qI_m4; have tnb_ := nib9 tn2639_ tn2640_ tn2641_ tn2642_ tn2643_ tn2644_ tn2646_ tn2648_ tn2657_; have lz0 : (0 : Int32).toInt = 0 := qI_0; have lz1 : (1 : Int32).toInt = 1 := qI_1; have lz2 : (2 : Int32).toInt = 2 := qI_2; have lz3 : (3 : Int32).toInt = 3 := qI_3; have lz5 : (5 : Int32).toInt = 5 := qI_5; have lz9 : (9 : Int32).toInt = 9 := qI_9; omega) (lcm_ge_t c72) hinv) hP hD hS ls (lv_sub hl [0, 2, 3, 4, 5, 6] rfl)
                                    · skip
                                      refine lv_lload hx hb dX11_layBest_200 (lv_at hl 0 rfl) ?_
                                      refine lv_goto (tgt := 216) hx hb dX11_layBest_202 rfl ?_
                                      refine va_last hx hb hK.1 hP hD hS 2 1 rfl rfl (vp_in_nI (by first | omega | (have t_hj5 := hj5; have t_n7 := n7; have t_hj11 := hj11; have t_n14 := n14; have t_hj19 := hj19; have t_n22 := n22; have t_n54 := n54; have t_hj61 := hj61; have t_n64 := n64; have t_n67 := n67; have t_c68 := eqI c68; have t_c69 := neI c69; have t_c72 := lcm_ge_f c72; have : ((-4) : Int32).toInt = -4 := qI_m4; have tnb_ := nib9 tn2639_ tn2640_ tn2641_ tn2642_ tn2643_ tn2644_ tn2646_ tn2648_ tn2657_; omega)) (by decide)) dX11_layBest_216 (fun H locs hP hD hS => ?_)
                                      rw [nI_clamp (by omega)] at hP hD
                                      refine lv_iinc (v := nI (j57 + 1)) (lv' := [(5, .int (nI (j57 + 1))), (6, .long (b1N fst g58 j8 (j15 % 10) j57)), (4, .int (-4)), (3, .int (nI j15)), (2, .int (nI j8)), (0, .ref h0), (1, .int wo)]) hx hb dX11_layBest_217 hl (k := 1) rfl (by rw [show Int32.ofInt 1 = nI 1 from by decide]; exact nI_add _ _) (by decide) rfl (fun ls hl => ?_)
                                      refine lv_goto (tgt := 114) hx hb dX11_layBest_220 rfl ?_
                                      exact ih114_59 (j57 + 1) (by omega) (by omega) (vp_updL g58 ((70 * j8) + j15) (b1N fst g58 j8 (j15 % 10) j57)) _ _ (zbB.lt (by have t_hj5 := hj5; have t_n7 := n7; have t_hj11 := hj11; have t_n14 := n14; have t_hj19 := hj19; have t_n22 := n22; have t_n54 := n54; have t_hj61 := hj61; have t_n64 := n64; have t_n67 := n67; have t_c68 := eqI c68; have t_c69 := neI c69; have t_c72 := lcm_ge_f c72; have : ((-4) : Int32).toInt = -4 := qI_m4; have tnb_ := nib9 tn2639_ tn2640_ tn2641_ tn2642_ tn2643_ tn2644_ tn2646_ tn2648_ tn2657_; omega) (by have t_hj5 := hj5; have t_n7 := n7; have t_hj11 := hj11; have t_n14 := n14; have t_hj19 := hj19; have t_n22 := n22; have t_n54 := n54; have t_hj61 := hj61; have t_n64 := n64; have t_n67 := n67; have t_c68 := eqI c68; have t_c69 := neI c69; have t_c72 := lcm_ge_f c72; have : ((-4) : Int32).toInt = -4 := qI_m4; have tnb_ := nib9 tn2639_ tn2640_ tn2641_ tn2642_ tn2643_ tn2644_ tn2646_ tn2648_ tn2657_; omega) (by unfold b1; first | (rw [if_pos (by omega)]) | (rw [if_neg (by omega)])) (fun e9 => by have e8 := congrArg Int32.toInt e9; have t_hj5 := hj5; have t_n7 := n7; have t_hj11 := hj11; have t_n14 := n14; have t_hj19 := hj19; have t_n22 := n22; have t_n54 := n54; have t_hj61 := hj61; have t_n64 := n64; have t_n67 := n67; have t_c68 := eqI c68; have t_c69 := neI c69; have t_c72 := lcm_ge_f c72; have : ((-4) : Int32).toInt = -4 := qI_m4; have tnb_ := nib9 tn2639_ tn2640_ tn2641_ tn2642_ tn2643_ tn2644_ tn2646_ tn2648_ tn2657_; have lz0 : (0 : Int32).toInt = 0 := qI_0; have lz1 : (1 : Int32).toInt = 1 := qI_1; have lz2 : (2 : Int32).toInt = 2 := qI_2; have lz3 : (3 : Int32).toInt = 3 := qI_3; have lz5 : (5 : Int32).toInt = 5 := qI_5; have lz9 : (9 : Int32).toInt = 9 := qI_9; omega) (Int.not_le.mp (lcm_ge_f c72)) hinv) hP hD hS ls (lv_sub hl [0, 2, 3, 4, 5, 6] rfl)
                                  · skip
                                    refine lv_ldc2 (v := 4000000000000000000) hx hb hown (hg _ wt_1154) dX11_layBest_152 ?_
                                    refine lv_goto (tgt := 171) hx hb dX11_layBest_155 rfl ?_
                                    refine lv_lstore (lv' := [(6, .long 4000000000000000000), (5, .int (nI j57)), (4, .int (-4)), (3, .int (nI j15)), (2, .int (nI j8)), (0, .ref h0), (1, .int wo)]) hx hb dX11_layBest_171 hl (by decide) rfl (fun ls hl => ?_)
                                    refine lv_aload_n hx hb dX11_layBest_173 rfl (lv_at hl 5 rfl) ?_
                                    refine va_get (D := (dC, dI)) (ci := 11) (v := .ref be) (C := RX11) (T := TX11) (N := 35) hx hb hg inG11 hown hK.1 hP 0 rfl rfl 23 (Nat.le_of_ble_eq_true rfl) (hg _ wt_901) (fun _ h9 => h9) rfl dX11_layBest_174 ?_
                                    refine lv_bipush (v := 70) hx hb dX11_layBest_177 rfl ?_
                                    refine lv_iload_n hx hb dX11_layBest_179 rfl (lv_at hl 4 rfl) ?_
                                    refine lv_imul hx hb dX11_layBest_180 ?_
                                    refine lv_cg (y := nI (70 * j8)) (by rw [show (70 : Int32) = nI 70 from rfl]; exact pk_mul _ _) ?_
                                    refine lv_iload_n hx hb dX11_layBest_181 rfl (lv_at hl 3 rfl) ?_
                                    refine lv_iadd hx hb dX11_layBest_182 ?_
                                    refine lv_cg (y := nI ((70 * j8) + j15)) (by exact nI_add _ _) ?_
                                    refine lv_lload hx hb dX11_layBest_183 (lv_at hl 0 rfl) ?_
                                    refine lv_aload_n hx hb dX11_layBest_185 rfl (lv_at hl 5 rfl) ?_
                                    refine va_get (D := (dC, dI)) (ci := 11) (v := .ref be) (C := RX11) (T := TX11) (N := 35) hx hb hg inG11 hown hK.1 hP 0 rfl rfl 23 (Nat.le_of_ble_eq_true rfl) (hg _ wt_901) (fun _ h9 => h9) rfl dX11_layBest_186 ?_
                                    refine lv_bipush (v := 70) hx hb dX11_layBest_189 rfl ?_
                                    refine lv_iload_n hx hb dX11_layBest_191 rfl (lv_at hl 4 rfl) ?_
                                    refine lv_imul hx hb dX11_layBest_192 ?_
                                    refine lv_cg (y := nI (70 * j8)) (by rw [show (70 : Int32) = nI 70 from rfl]; exact pk_mul _ _) ?_
                                    refine lv_iload_n hx hb dX11_layBest_193 rfl (lv_at hl 3 rfl) ?_
                                    refine lv_iadd hx hb dX11_layBest_194 ?_
                                    refine lv_cg (y := nI ((70 * j8) + j15)) (by exact nI_add _ _) ?_
                                    refine va_lald hx hb hK.1 hP 2 1 rfl rfl (vp_in_nI (by first | omega | (have t_hj5 := hj5; have t_n7 := n7; have t_hj11 := hj11; have t_n14 := n14; have t_hj19 := hj19; have t_n22 := n22; have t_n54 := n54; have t_hj61 := hj61; have t_n64 := n64; have t_n67 := n67; have t_c68 := eqI c68; have t_c69 := eqI c69; have : ((-4) : Int32).toInt = -4 := qI_m4; have tnb_ := nib9 tn2639_ tn2640_ tn2641_ tn2642_ tn2643_ tn2644_ tn2646_ tn2648_ tn2657_; omega)) (by decide)) dX11_layBest_195 ?_
                                    refine lv_cgl (y := g58 ((70 * j8) + j15)) (by rw [nI_clamp (by omega)]) ?_
                                    refine W.lcmp hx hb dX11_layBest_196 ?_
                                    refine lv_if_ge (tgt := 205) hx hb dX11_layBest_197 rfl (fun c73 => ?_) (fun c73 => ?_)
                                    · skip
                                      refine lv_aload_n hx hb dX11_layBest_205 rfl (lv_at hl 5 rfl) ?_
                                      refine va_get (D := (dC, dI)) (ci := 11) (v := .ref be) (C := RX11) (T := TX11) (N := 35) hx hb hg inG11 hown hK.1 hP 0 rfl rfl 23 (Nat.le_of_ble_eq_true rfl) (hg _ wt_901) (fun _ h9 => h9) rfl dX11_layBest_206 ?_
                                      refine lv_bipush (v := 70) hx hb dX11_layBest_209 rfl ?_
                                      refine lv_iload_n hx hb dX11_layBest_211 rfl (lv_at hl 4 rfl) ?_
                                      refine lv_imul hx hb dX11_layBest_212 ?_
                                      refine lv_cg (y := nI (70 * j8)) (by rw [show (70 : Int32) = nI 70 from rfl]; exact pk_mul _ _) ?_
                                      refine lv_iload_n hx hb dX11_layBest_213 rfl (lv_at hl 3 rfl) ?_
                                      refine lv_iadd hx hb dX11_layBest_214 ?_
                                      refine lv_cg (y := nI ((70 * j8) + j15)) (by exact nI_add _ _) ?_
                                      refine va_lald hx hb hK.1 hP 2 1 rfl rfl (vp_in_nI (by first | omega | (have t_hj5 := hj5; have t_n7 := n7; have t_hj11 := hj11; have t_n14 := n14; have t_hj19 := hj19; have t_n22 := n22; have t_n54 := n54; have t_hj61 := hj61; have t_n64 := n64; have t_n67 := n67; have t_c68 := eqI c68; have t_c69 := eqI c69; have t_c73 := lcm_ge_t c73; have tqz_ := qz53_; have tnb_ := nib9 tn2639_ tn2640_ tn2641_ tn2642_ tn2643_ tn2644_ tn2646_ tn2648_ tn2657_; omega)) (by decide)) dX11_layBest_215 ?_
                                      refine lv_cgl (y := g58 ((70 * j8) + j15)) (by rw [nI_clamp (by omega)]) ?_
                                      refine va_last hx hb hK.1 hP hD hS 2 1 rfl rfl (vp_in_nI (by first | omega | (have t_hj5 := hj5; have t_n7 := n7; have t_hj11 := hj11; have t_n14 := n14; have t_hj19 := hj19; have t_n22 := n22; have t_n54 := n54; have t_hj61 := hj61; have t_n64 := n64; have t_n67 := n67; have t_c68 := eqI c68; have t_c69 := eqI c69; have t_c73 := lcm_ge_t c73; have tqz_ := qz53_; have tnb_ := nib9 tn2639_ tn2640_ tn2641_ tn2642_ tn2643_ tn2644_ tn2646_ tn2648_ tn2657_; omega)) (by decide)) dX11_layBest_216 (fun H locs hP hD hS => ?_)
                                      rw [nI_clamp (by omega)] at hP hD
                                      refine lv_iinc (v := nI (j57 + 1)) (lv' := [(5, .int (nI (j57 + 1))), (6, .long 4000000000000000000), (4, .int (-4)), (3, .int (nI j15)), (2, .int (nI j8)), (0, .ref h0), (1, .int wo)]) hx hb dX11_layBest_217 hl (k := 1) rfl (by rw [show Int32.ofInt 1 = nI 1 from by decide]; exact nI_add _ _) (by decide) rfl (fun ls hl => ?_)
                                      refine lv_goto (tgt := 114) hx hb dX11_layBest_220 rfl ?_
                                      exact ih114_59 (j57 + 1) (by omega) (by omega) (vp_updL g58 ((70 * j8) + j15) (g58 ((70 * j8) + j15))) _ _ (zbB.wo (by have t_hj5 := hj5; have t_n7 := n7; have t_hj11 := hj11; have t_n14 := n14; have t_hj19 := hj19; have t_n22 := n22; have t_n54 := n54; have t_hj61 := hj61; have t_n64 := n64; have t_n67 := n67; have t_c68 := eqI c68; have t_c69 := eqI c69; have t_c73 := lcm_ge_t c73; have tqz_ := qz53_; have tnb_ := nib9 tn2639_ tn2640_ tn2641_ tn2642_ tn2643_ tn2644_ tn2646_ tn2648_ tn2657_; omega) (by have t_hj5 := hj5; have t_n7 := n7; have t_hj11 := hj11; have t_n14 := n14; have t_hj19 := hj19; have t_n22 := n22; have t_n54 := n54; have t_hj61 := hj61; have t_n64 := n64; have t_n67 := n67; have t_c68 := eqI c68; have t_c69 := eqI c69; have t_c73 := lcm_ge_t c73; have tqz_ := qz53_; have tnb_ := nib9 tn2639_ tn2640_ tn2641_ tn2642_ tn2643_ tn2644_ tn2646_ tn2648_ tn2657_; omega) (Int32.toInt_inj.mp (by have t_hj5 := hj5; have t_n7 := n7; have t_hj11 := hj11; have t_n14 := n14; have t_hj19 := hj19; have t_n22 := n22; have t_n54 := n54; have t_hj61 := hj61; have t_n64 := n64; have t_n67 := n67; have t_c68 := eqI c68; have t_c69 := eqI c69; have t_c73 := lcm_ge_t c73; have tqz_ := qz53_; have tnb_ := nib9 tn2639_ tn2640_ tn2641_ tn2642_ tn2643_ tn2644_ tn2646_ tn2648_ tn2657_; have lz0 : (0 : Int32).toInt = 0 := qI_0; have lz1 : (1 : Int32).toInt = 1 := qI_1; have lz2 : (2 : Int32).toInt = 2 := qI_2; have lz3 : (3 : Int32).toInt = 3 := qI_3; have lz5 : (5 : Int32).toInt = 5 := qI_5; have lz9 : (9 : Int32).toInt = 9 := qI_9; omega)) hinv) hP hD hS ls (lv_sub hl [0, 2, 3, 4, 5, 6] rfl)
                                    · skip
                                      refine lv_lload hx hb dX11_layBest_200 (lv_at hl 0 rfl) ?_
                                      refine lv_goto (tgt := 216) hx hb dX11_layBest_202 rfl ?_
                                      refine va_last hx hb hK.1 hP hD hS 2 1 rfl rfl (vp_in_nI (by first | omega | (have t_hj5 := hj5; have t_n7 := n7; have t_hj11 := hj11; have t_n14 := n14; have t_hj19 := hj19; have t_n22 := n22; have t_n54 := n54; have t_hj61 := hj61; have t_n64 := n64; have t_n67 := n67; have t_c68 := eqI c68; have t_c69 := eqI c69; have t_c73 := lcm_ge_f c73; have tqz_ := qz53_; have tnb_ := nib9 tn2639_ tn2640_ tn2641_ tn2642_ tn2643_ tn2644_ tn2646_ tn2648_ tn2657_; omega)) (by decide)) dX11_layBest_216 (fun H locs hP hD hS => ?_)
                                      rw [nI_clamp (by omega)] at hP hD
                                      refine lv_iinc (v := nI (j57 + 1)) (lv' := [(5, .int (nI (j57 + 1))), (6, .long 4000000000000000000), (4, .int (-4)), (3, .int (nI j15)), (2, .int (nI j8)), (0, .ref h0), (1, .int wo)]) hx hb dX11_layBest_217 hl (k := 1) rfl (by rw [show Int32.ofInt 1 = nI 1 from by decide]; exact nI_add _ _) (by decide) rfl (fun ls hl => ?_)
                                      refine lv_goto (tgt := 114) hx hb dX11_layBest_220 rfl ?_
                                      exact ih114_59 (j57 + 1) (by omega) (by omega) (vp_updL g58 ((70 * j8) + j15) 4000000000000000000) _ _ (zbB.no (k := j15) (by have t_hj5 := hj5; have t_n7 := n7; have t_hj11 := hj11; have t_n14 := n14; have t_hj19 := hj19; have t_n22 := n22; have t_n54 := n54; have t_hj61 := hj61; have t_n64 := n64; have t_n67 := n67; have t_c68 := eqI c68; have t_c69 := eqI c69; have t_c73 := lcm_ge_f c73; have tqz_ := qz53_; have tnb_ := nib9 tn2639_ tn2640_ tn2641_ tn2642_ tn2643_ tn2644_ tn2646_ tn2648_ tn2657_; omega) (Int.not_le.mp (lcm_ge_f c73)) hinv).elim hP hD hS ls (lv_sub hl [0, 2, 3, 4, 5, 6] rfl)
                                · skip
                                  exact absurd c68 (by decide)
                        exact loop114_59 (B + 1) 0 (by omega) (by omega) (vp_updL g16 ((70 * j8) + j15) y55) _ _ (zbB.ini hinv (by have t_hj5 := hj5; have t_n7 := n7; have t_hj11 := hj11; have t_n14 := n14; have t_hj19 := hj19; have t_n22 := n22; have t_n54 := n54; have tnb_ := nib8 tn2639_ tn2640_ tn2641_ tn2642_ tn2643_ tn2644_ tn2646_ tn2648_; omega) hcut) hP hD hS ls (lv_sub hl [0, 1, 2, 3, 4, 5] rfl)
                      refine lv_if_ne (tgt := 107) hx hb dX11_layBest_92 rfl (fun c74 => ?_) (fun c74 => ?_)
                      · skip
                        have tn2660_ : nIT (j15 % 10) := fun _ => nI_toInt (by first | omega | (have t := neI c74; omega))
                        have n75 : (j15 % 10) ≠ 0 := by have t := neI c74; rw [show (nI (j15 % 10)).toInt = ((j15 % 10 : Nat) : Int) from tn2660_ ()] at t; have : (0 : Int32).toInt = 0 := qI_0; omega
                        refine lv_ldc2 (v := 4000000000000000000) hx hb hown (hg _ wt_1154) dX11_layBest_107 ?_
                        exact cut110_56 4000000000000000000 _ _ (by first | exact Or.inl ⟨by omega, rfl⟩ | exact Or.inr ⟨by omega, rfl⟩) hP hD hS ls (lv_sub hl [0, 1, 2, 3, 4] rfl)
                      · skip
                        have tn2661_ : nIT (j15 % 10) := fun _ => nI_toInt (by first | omega | (have t := eqI c74; omega))
                        have n76 : (j15 % 10) = 0 := by have t := eqI c74; rw [show (nI (j15 % 10)).toInt = ((j15 % 10 : Nat) : Int) from tn2661_ ()] at t; have : (0 : Int32).toInt = 0 := qI_0; omega
                        refine lv_aload_n hx hb dX11_layBest_95 rfl (lv_at hl 3 rfl) ?_
                        refine va_get (D := (dC, dI)) (ci := 11) (v := .int (nI N)) (C := RX11) (T := TX11) (N := 35) hx hb hg inG11 hown hK.1 hP 0 rfl rfl 1 (Nat.le_of_ble_eq_true rfl) (hg _ wt_879) (fun _ h9 => h9) rfl dX11_layBest_96 ?_
                        refine lv_iload_n hx hb dX11_layBest_99 rfl (lv_at hl 2 rfl) ?_
                        refine lv_isub hx hb dX11_layBest_100 ?_
                        refine lv_cg (y := nI (N - j8)) (by exact pk_sub (by have t_hj5 := hj5; have t_n7 := n7; have t_hj11 := hj11; have t_n14 := n14; have t_hj19 := hj19; have t_n22 := n22; have t_n54 := n54; have t_n76 := n76; have tnb_ := nib8 tn2639_ tn2640_ tn2641_ tn2642_ tn2643_ tn2644_ tn2646_ tn2648_; omega)) ?_
                        have hPc := hP.sub (ws' := []) [] rfl
                        refine va_calll (va_runS (As := [.int (nI (N - j8))]) (rest := [.int (nI ((70 * j8) + j15)), .ref be]) ⟨hx, hb, hml, hown, hg⟩ (c_X11_power l dC dI G _ (N - j8) (by first | omega | (have t_hj5 := hj5; have t_n7 := n7; have t_hj11 := hj11; have t_n14 := n14; have t_hj19 := hj19; have t_n22 := n22; have t_n54 := n54; have t_n76 := n76; have tnb_ := nib8 tn2639_ tn2640_ tn2641_ tn2642_ tn2643_ tn2644_ tn2646_ tn2648_; omega))) (kwS hg mfX11_power wt_1131 ⟨Nat.le_of_ble_eq_true rfl, Nat.le_of_ble_eq_true rfl⟩) (preSR hK hPc) rfl rfl hl.1 rfl (lv_room (Nat.le_of_ble_eq_true rfl)) dX11_layBest_101 ⟨Nat.le_of_ble_eq_true rfl, Nat.le_of_ble_eq_true rfl⟩) hS (fun q h1 h2 => absurd h2 (Nat.not_le.mpr h1)) (fun q h => hA q (Nat.le_trans hS.1 h)) (fun r77 ur77 t H1 locs ht hvm w78 hB hz1 hk1 hS => ?_)
                        have hP := keepR hP hk1
                        obtain ⟨w78, w78x⟩ := w78
                        subst w78
                        refine lv_goto (tgt := 110) hx hb dX11_layBest_104 rfl ?_
                        exact cut110_56 (powF (N - j8)) _ _ (by first | exact Or.inl ⟨by omega, rfl⟩ | exact Or.inr ⟨by omega, rfl⟩) hP hD hS ls (lv_sub hl [0, 1, 2, 3, 4] rfl)
              exact loop53_17 (70 + 1) 0 (by omega) (by omega) g9 _ _ hinv.k0 hP hD hS ls (lv_sub hl [0, 1, 2, 3] rfl)
        exact loop47_10 N (Nat.le_refl _) g2 _ _ (zbF.out (by have t_hj5 := hj5; have t_n7 := n7; have tnb_ := nib6 tn2639_ tn2640_ tn2641_ tn2642_ tn2643_ tn2644_; omega) hinv) hP hD hS ls (lv_sub hl [0, 1, 2] rfl)
      · skip
        have tn2662_ : nIT j1 := fun _ => nI_toInt (by first | omega | (have t := nleI c6; omega))
        have n79 : j1 < 70 := by have t := nleI c6; rw [show (nI (j1)).toInt = ((j1 : Nat) : Int) from tn2662_ ()] at t; have : (70 : Int32).toInt = 70 := qI_70; omega
        refine lv_aload_n hx hb dX11_layBest_8 rfl (lv_at hl 1 rfl) ?_
        refine va_get (D := (dC, dI)) (ci := 11) (v := .ref be) (C := RX11) (T := TX11) (N := 35) hx hb hg inG11 hown hK.1 hP 0 rfl rfl 23 (Nat.le_of_ble_eq_true rfl) (hg _ wt_901) (fun _ h9 => h9) rfl dX11_layBest_9 ?_
        refine lv_bipush (v := 70) hx hb dX11_layBest_12 rfl ?_
        refine lv_aload_n hx hb dX11_layBest_14 rfl (lv_at hl 1 rfl) ?_
        refine va_get (D := (dC, dI)) (ci := 11) (v := .int (nI N)) (C := RX11) (T := TX11) (N := 35) hx hb hg inG11 hown hK.1 hP 0 rfl rfl 1 (Nat.le_of_ble_eq_true rfl) (hg _ wt_879) (fun _ h9 => h9) rfl dX11_layBest_15 ?_
        refine lv_imul hx hb dX11_layBest_18 ?_
        refine lv_cg (y := nI (70 * N)) (by rw [show (70 : Int32) = nI 70 from rfl]; exact pk_mul _ _) ?_
        refine lv_iload_n hx hb dX11_layBest_19 rfl (lv_at hl 0 rfl) ?_
        refine lv_iadd hx hb dX11_layBest_20 ?_
        refine lv_cg (y := nI ((70 * N) + j1)) (by exact nI_add _ _) ?_
        refine lv_iload_n hx hb dX11_layBest_21 rfl (lv_at hl 0 rfl) ?_
        refine lv_bipush (v := 10) hx hb dX11_layBest_22 rfl ?_
        refine lv_irem hx hb dX11_layBest_24 (by decide) ?_
        refine lv_cg (y := nI (j1 % 10)) (by rw [show (10 : Int32) = nI 10 from rfl]; exact pk_rem (by omega) (by omega) (by omega)) ?_
        refine lv_if_ne (tgt := 32) hx hb dX11_layBest_25 rfl (fun c80 => ?_) (fun c80 => ?_)
        · skip
          have tn2663_ : nIT (j1 % 10) := fun _ => nI_toInt (by first | omega | (have t := neI c80; omega))
          have n81 : (j1 % 10) ≠ 0 := by have t := neI c80; rw [show (nI (j1 % 10)).toInt = ((j1 % 10 : Nat) : Int) from tn2663_ ()] at t; have : (0 : Int32).toInt = 0 := qI_0; omega
          refine lv_lconst (v := 0) hx hb dX11_layBest_32 (by decide) ?_
          refine va_last hx hb hK.1 hP hD hS 2 1 rfl rfl (vp_in_nI (by first | omega | (have t_hj5 := hj5; have t_n79 := n79; have t_n81 := n81; have tnb_ := nib6 tn2639_ tn2640_ tn2641_ tn2642_ tn2643_ tn2662_; omega)) (by decide)) dX11_layBest_33 (fun H locs hP hD hS => ?_)
          rw [nI_clamp (by omega)] at hP hD
          refine lv_iinc (v := nI (j1 + 1)) (lv' := [(2, .int (nI (j1 + 1))), (0, .ref h0), (1, .int wo)]) hx hb dX11_layBest_34 hl (k := 0) rfl (by rw [show Int32.ofInt 1 = nI 1 from by decide]; exact nI_add _ _) (by decide) rfl (fun ls hl => ?_)
          refine lv_goto (tgt := 2) hx hb dX11_layBest_37 rfl ?_
          exact ih2_3 (j1 + 1) (by omega) (by omega) (vp_updL g2 ((70 * N) + j1) 0) _ _ (zbF.put hinv (by first | exact (if_pos (by omega)).symm | exact (if_neg (by omega)).symm)) hP hD hS ls (lv_sub hl [0, 1, 2] rfl)
        · skip
          have tn2664_ : nIT (j1 % 10) := fun _ => nI_toInt (by first | omega | (have t := eqI c80; omega))
          have n82 : (j1 % 10) = 0 := by have t := eqI c80; rw [show (nI (j1 % 10)).toInt = ((j1 % 10 : Nat) : Int) from tn2664_ ()] at t; have : (0 : Int32).toInt = 0 := qI_0; omega
          refine lv_lconst (v := 1) hx hb dX11_layBest_28 (by decide) ?_
          refine lv_goto (tgt := 33) hx hb dX11_layBest_29 rfl ?_
          refine va_last hx hb hK.1 hP hD hS 2 1 rfl rfl (vp_in_nI (by first | omega | (have t_hj5 := hj5; have t_n79 := n79; have t_n82 := n82; have tnb_ := nib6 tn2639_ tn2640_ tn2641_ tn2642_ tn2643_ tn2662_; omega)) (by decide)) dX11_layBest_33 (fun H locs hP hD hS => ?_)
          rw [nI_clamp (by omega)] at hP hD
          refine lv_iinc (v := nI (j1 + 1)) (lv' := [(2, .int (nI (j1 + 1))), (0, .ref h0), (1, .int wo)]) hx hb dX11_layBest_34 hl (k := 0) rfl (by rw [show Int32.ofInt 1 = nI 1 from by decide]; exact nI_add _ _) (by decide) rfl (fun ls hl => ?_)
          refine lv_goto (tgt := 2) hx hb dX11_layBest_37 rfl ?_
          exact ih2_3 (j1 + 1) (by omega) (by omega) (vp_updL g2 ((70 * N) + j1) 1) _ _ (zbF.put hinv (by first | exact (if_pos (by omega)).symm | exact (if_neg (by omega)).symm)) hP hD hS ls (lv_sub hl [0, 1, 2] rfl)
  exact loop2_3 (70 + 1) 0 (by omega) (by omega) fbe _ _ (fun k9 h9 => absurd h9 (Nat.not_lt_zero _)) hP hD hS ls (lv_sub hl [0, 1, 2] rfl)

set_option maxHeartbeats 1000000 in
set_option maxRecDepth 100000 in
theorem c_X11_withoutE (l : Launch) (dC : Nat → ClassId) (dI : Nat → Nat → Nat) (G : Nat → ClassId) (sz : Nat) (h0 st N B rp tp T cu lt od th be ln S ma M ah bh ik la lg ce : Nat) (i what vrs vrb vhs vca vxs vxb vfa vbr vba vsp vhe vtk vva vto : Int32) (fst : Nat → Int32) (fbe : Nat → Int64) (hN : N ≤ 10) (hB : B ≤ 6) (hT : T ≤ 320) (hS0 : S ≤ 8) (hM : M ≤ 6) (hst : OKS fst) (hNB : N = 0 ∨ 0 < B) : Met l yX11_without (Cond.code yX11_without cX11_without 3 (some .long) :: GT) ({ frames := 4, cells := 0, slots := 0, locals := 102 } : Room) (PcW [.ref h0, .int i, .int what] dC dI G [(h0, .inr (11, [.ref st, .int (nI N), .int (nI B), .ref rp, .int vrs, .int vrb, .int vhs, .int vca, .int vxs, .int vxb, .ref tp, .int (nI T), .int vfa, .int vbr, .int vba, .int vsp, .int vhe, .int vtk, .int vva, .ref cu, .ref lt, .ref od, .ref th, .ref be, .ref ln, .int (nI S), .ref ma, .int (nI M), .ref ah, .ref bh, .ref ik, .ref la, .ref lg, .ref ce, .int vto])), (st, .inl (G 0, 196, .inl fst)), (be, .inl (G 1, 770, .inr (.inl fbe)))] sz) (va_Ql (fun (r : Int64) (u : (Nat → Int64)) => match u with | obe => (r = if ((0 ≤ i.toInt ∧ i.toInt < ((B : Nat) : Int)) ∧ (0 ≤ what.toInt ∧ what.toInt ≤ 1)) then (if B < 2 then -2 else frF (zbV (zbH fst) N B i (N - 0) (sdN fst)) (powF N) what) else -1) ∧ True) (fun (u : (Nat → Int64)) (t : State) => match u with | obe => va_P (dC, dI) vwCl [(h0, .inr (11, [.ref st, .int (nI N), .int (nI B), .ref rp, .int vrs, .int vrb, .int vhs, .int vca, .int vxs, .int vxb, .ref tp, .int (nI T), .int vfa, .int vbr, .int vba, .int vsp, .int vhe, .int vtk, .int vva, .ref cu, .ref lt, .ref od, .ref th, .ref be, .ref ln, .int (nI S), .ref ma, .int (nI M), .ref ah, .ref bh, .ref ik, .ref la, .ref lg, .ref ce, .int vto])), (st, .inl (G 0, 196, .inl fst)), (be, .inl (G 1, 770, .inr (.inl obe)))] t.heap ∧ va_D (va_A [(h0, .inr (11, [.ref st, .int (nI N), .int (nI B), .ref rp, .int vrs, .int vrb, .int vhs, .int vca, .int vxs, .int vxb, .ref tp, .int (nI T), .int vfa, .int vbr, .int vba, .int vsp, .int vhe, .int vtk, .int vva, .ref cu, .ref lt, .ref od, .ref th, .ref be, .ref ln, .int (nI S), .ref ma, .int (nI M), .ref ah, .ref bh, .ref ik, .ref la, .ref lg, .ref ce, .int vto])), (st, .inl (G 0, 196, .inl fst)), (be, .inl (G 1, 770, .inr (.inl fbe)))] sz) [(h0, .inr (11, [.ref st, .int (nI N), .int (nI B), .ref rp, .int vrs, .int vrb, .int vhs, .int vca, .int vxs, .int vxb, .ref tp, .int (nI T), .int vfa, .int vbr, .int vba, .int vsp, .int vhe, .int vtk, .int vva, .ref cu, .ref lt, .ref od, .ref th, .ref be, .ref ln, .int (nI S), .ref ma, .int (nI M), .ref ah, .ref bh, .ref ik, .ref la, .ref lg, .ref ce, .int vto])), (st, .inl (G 0, 196, .inl fst)), (be, .inl (G 1, 770, .inr (.inl obe)))]) (va_A [(h0, .inr (11, [.ref st, .int (nI N), .int (nI B), .ref rp, .int vrs, .int vrb, .int vhs, .int vca, .int vxs, .int vxb, .ref tp, .int (nI T), .int vfa, .int vbr, .int vba, .int vsp, .int vhe, .int vtk, .int vva, .ref cu, .ref lt, .ref od, .ref th, .ref be, .ref ln, .int (nI S), .ref ma, .int (nI M), .ref ah, .ref bh, .ref ik, .ref la, .ref lg, .ref ce, .int vto])), (st, .inl (G 0, 196, .inl fst)), (be, .inl (G 1, 770, .inr (.inl fbe)))] sz)) 0 0 (va_A [(h0, .inr (11, [.ref st, .int (nI N), .int (nI B), .ref rp, .int vrs, .int vrb, .int vhs, .int vca, .int vxs, .int vxb, .ref tp, .int (nI T), .int vfa, .int vbr, .int vba, .int vsp, .int vhe, .int vtk, .int vva, .ref cu, .ref lt, .ref od, .ref th, .ref be, .ref ln, .int (nI S), .ref ma, .int (nI M), .ref ah, .ref bh, .ref ik, .ref la, .ref lg, .ref ce, .int vto])), (st, .inl (G 0, 196, .inl fst)), (be, .inl (G 1, 770, .inr (.inl fbe)))] sz) := by
  have hB_ := hB
  have hM_ := hM
  have hT_ := hT
  have tn2670_ : nIT N := fun _ => nI_toInt (by omega)
  have tn2671_ : nIT B := fun _ => nI_toInt (by omega)
  have tn2672_ : nIT T := fun _ => nI_toInt (by omega)
  have tn2673_ : nIT S := fun _ => nI_toInt (by omega)
  have tn2674_ : nIT M := fun _ => nI_toInt (by omega)
  refine Met.ofW (cc := cX11_without) (maxL := 3) (ret := (some .long)) (by decide) rfl ?_
  intro p e s m args below meth c s₁ Bd hml hv
  obtain ⟨rfl, hsz, hP, hK, hD0⟩ := hv
  have hx := Bd.exec
  have hb := Bd.bytes
  have hr := Bd.returns
  have hg : ∀ w ∈ GT, w.before ([.ref h0, .int i, .int what] : List Value).toArray s = true := fun w h => atoms_spec (ws := Cond.code yX11_without cX11_without 3 (some .long) :: GT) Bd.pre w (List.mem_cons_of_mem _ h)
  have hown : s.vm.findClass RX11 = some m.cls := findClass_of_methodNamed Bd.named
  have hlocks := Bd.notSynchronized
  subst hsz
  have hD := hD0.self (sz := s.heap.size)
  generalize hAe : va_A [(h0, .inr (11, [.ref st, .int (nI N), .int (nI B), .ref rp, .int vrs, .int vrb, .int vhs, .int vca, .int vxs, .int vxb, .ref tp, .int (nI T), .int vfa, .int vbr, .int vba, .int vsp, .int vhe, .int vtk, .int vva, .ref cu, .ref lt, .ref od, .ref th, .ref be, .ref ln, .int (nI S), .ref ma, .int (nI M), .ref ah, .ref bh, .ref ik, .ref la, .ref lg, .ref ce, .int vto])), (st, .inl (G 0, 196, .inl fst)), (be, .inl (G 1, 770, .inr (.inl fbe)))] s.heap.size = A at hD ⊢
  have hA : ∀ q : Nat, s.heap.size ≤ q → A q := fun q h => by rw [← hAe]; exact Or.inr h
  have hS : va_S A s.heap s.heap [] := va_S.rf
  have hl := lv_entry ([.ref h0, .int i, .int what]) (n := 3) (Nat.le_of_ble_eq_true rfl)
  rw [lg_entry_eq]
  generalize (lg_sl ([.ref h0, .int i, .int what]) ++ List.replicate (3 - (lg_sl ([.ref h0, .int i, .int what])).length) Slot.unset).toArray = ls at hl ⊢
  have hl : lv_has ls 3 [(0, .ref h0), (1, .int i), (2, .int what)] := hl
  refine lv_aload_n hx hb dX11_without_0 rfl (lv_at hl 0 rfl) ?_
  refine lv_iload_n hx hb dX11_without_1 rfl (lv_at hl 1 rfl) ?_
  have hPc := hP.sub (ws' := [(h0, .inr (11, [.ref st, .int (nI N), .int (nI B), .ref rp, .int vrs, .int vrb, .int vhs, .int vca, .int vxs, .int vxb, .ref tp, .int (nI T), .int vfa, .int vbr, .int vba, .int vsp, .int vhe, .int vtk, .int vva, .ref cu, .ref lt, .ref od, .ref th, .ref be, .ref ln, .int (nI S), .ref ma, .int (nI M), .ref ah, .ref bh, .ref ik, .ref la, .ref lg, .ref ce, .int vto]))]) [0] rfl
  refine va_calli (va_runV (As := [.int i]) (rest := []) ⟨hx, hb, hml, hown, hg⟩ (c_X11_isBearer l dC dI G _ h0 st N B rp tp T cu lt od th be ln S ma M ah bh ik la lg ce i vrs vrb vhs vca vxs vxb vfa vbr vba vsp vhe vtk vva vto hN hB_ hT_ hS0 hM_) (kwV hg mfX11_isBearer wt_1061 ⟨Nat.le_of_ble_eq_true rfl, Nat.le_of_ble_eq_true rfl⟩) (preVR hK hPc (ci := 11) (r := (RX11, TX11, 35)) rfl rfl) rfl rfl hl.1 rfl (lv_room (Nat.le_of_ble_eq_true rfl)) dX11_without_2 ⟨Nat.le_of_ble_eq_true rfl, Nat.le_of_ble_eq_true rfl⟩) hS (fun q h1 h2 => absurd h2 (Nat.not_le.mpr h1)) (fun q h => hA q (Nat.le_trans hS.1 h)) (fun r1 ur1 t H1 locs ht hvm w2 hB hz1 hk1 hS => ?_)
  have hP := keepR hP hk1
  obtain ⟨w2, w2x⟩ := w2
  try simp only [l_ii, show (0 : Int32).toInt = 0 from by decide] at w2
  try rw [show (nI (B)).toInt = ((B : Nat) : Int) from tn2671_ ()] at w2
  subst w2
  refine lv_if_eq (tgt := 18) hx hb dX11_without_5 rfl (fun c3 => ?_) (fun c3 => ?_)
  · skip
    have b4 := if10_n c3
    refine lv_ldc2 (v := (-1)) hx hb hown (hg _ wt_1118) dX11_without_18 ?_
    have hpost : ((-1) : Int64) = if ((0 ≤ i.toInt ∧ i.toInt < ((B : Nat) : Int)) ∧ (0 ≤ what.toInt ∧ what.toInt ≤ 1)) then (if B < 2 then -2 else frF (zbV (zbH fst) N B i (N - 0) (sdN fst)) (powF N) what) else -1 := by
      have t_b4 := b4
      have t_n0 : (nI N).toInt = (N : Int) := tn2670_ ()
      have t_n1 : (nI B).toInt = (B : Int) := tn2671_ ()
      have t_n2 : (nI T).toInt = (T : Int) := tn2672_ ()
      have t_n3 : (nI S).toInt = (S : Int) := tn2673_ ()
      have t_n4 : (nI M).toInt = (M : Int) := tn2674_ ()
      have lz0 : (0 : Int32).toInt = 0 := qI_0
      have lz1 : (1 : Int32).toInt = 1 := qI_1
      have lz2 : (2 : Int32).toInt = 2 := qI_2
      have lz3 : (3 : Int32).toInt = 3 := qI_3
      have lz5 : (5 : Int32).toInt = 5 := qI_5
      have lz9 : (9 : Int32).toInt = 9 := qI_9
      rw [if_neg (by omega)]
    obtain ⟨hP9, hD9⟩ := va_sub2 (ws' := [(h0, .inr (11, [.ref st, .int (nI N), .int (nI B), .ref rp, .int vrs, .int vrb, .int vhs, .int vca, .int vxs, .int vxb, .ref tp, .int (nI T), .int vfa, .int vbr, .int vba, .int vsp, .int vhe, .int vtk, .int vva, .ref cu, .ref lt, .ref od, .ref th, .ref be, .ref ln, .int (nI S), .ref ma, .int (nI M), .ref ah, .ref bh, .ref ik, .ref la, .ref lg, .ref ce, .int vto])), (st, .inl (G 0, 196, .inl fst)), (be, .inl (G 1, 770, .inr (.inl fbe)))]) hP hD [0, 1, 2] (by decide +kernel) rfl
    refine W.widen (k := 0) (n := 0) (Nat.le_of_ble_eq_true rfl) (Nat.le_of_ble_eq_true rfl) ?_
    exact W.lret (v := (-1)) hx hb hr (fun t ht hW => ⟨⟨(-1), fbe, rfl, ⟨hpost, trivial⟩, ⟨by rw [ht]; exact hP9, hD9⟩⟩, hS.F ht⟩) hS.2.2 dX11_without_21
  · skip
    have b5 := if10_p c3
    refine lv_iload_n hx hb dX11_without_8 rfl (lv_at hl 2 rfl) ?_
    refine lv_i2l (v := what.toInt64) hx hb dX11_without_9 rfl ?_
    refine lv_lconst (v := 0) hx hb dX11_without_10 (by decide) ?_
    refine lv_lconst (v := 1) hx hb dX11_without_11 (by decide) ?_
    have hPc := hP.sub (ws' := []) [] rfl
    refine va_calli (va_runS (As := [.long what.toInt64, .long 0, .long 1]) (rest := []) ⟨hx, hb, hml, hown, hg⟩ (c_X11_in l dC dI G _ what.toInt64 0 1) (kwS hg mfX11_in wt_992 ⟨Nat.le_of_ble_eq_true rfl, Nat.le_of_ble_eq_true rfl⟩) (preSR hK hPc) rfl rfl hl.1 rfl (lv_room (Nat.le_of_ble_eq_true rfl)) dX11_without_12 ⟨Nat.le_of_ble_eq_true rfl, Nat.le_of_ble_eq_true rfl⟩) hS (fun q h1 h2 => absurd h2 (Nat.not_le.mpr h1)) (fun q h => hA q (Nat.le_trans hS.1 h)) (fun r6 ur6 t H1 locs ht hvm w7 hB hz1 hk1 hS => ?_)
    have hP := keepR hP hk1
    obtain ⟨w7, w7x⟩ := w7
    try simp only [l_ii, show (0 : Int64).toInt = 0 from by decide, show (1 : Int64).toInt = 1 from by decide] at w7
    subst w7
    refine lv_if_ne (tgt := 22) hx hb dX11_without_15 rfl (fun c8 => ?_) (fun c8 => ?_)
    · skip
      have b9 := if10_p c8
      refine lv_aload_n hx hb dX11_without_22 rfl (lv_at hl 0 rfl) ?_
      refine va_get (D := (dC, dI)) (ci := 11) (v := .int (nI B)) (C := RX11) (T := TX11) (N := 35) hx hb hg inG11 hown hK.1 hP 0 rfl rfl 2 (Nat.le_of_ble_eq_true rfl) (hg _ wt_880) (fun _ h9 => h9) rfl dX11_without_23 ?_
      refine lv_iconst (v := 1) hx hb dX11_without_26 rfl ?_
      refine lv_icmp_ne (tgt := 34) hx hb dX11_without_27 rfl (fun c10 => ?_) (fun c10 => ?_)
      · skip
        have n11 : B ≠ 1 := by have t := neI c10; rw [show (nI (B)).toInt = ((B : Nat) : Int) from tn2671_ ()] at t; have : (1 : Int32).toInt = 1 := qI_1; omega
        refine lv_aload_n hx hb dX11_without_34 rfl (lv_at hl 0 rfl) ?_
        refine lv_iload_n hx hb dX11_without_35 rfl (lv_at hl 1 rfl) ?_
        obtain ⟨hPc, hDc, hFc⟩ := va_sub3 (ws' := [(h0, .inr (11, [.ref st, .int (nI N), .int (nI B), .ref rp, .int vrs, .int vrb, .int vhs, .int vca, .int vxs, .int vxb, .ref tp, .int (nI T), .int vfa, .int vbr, .int vba, .int vsp, .int vhe, .int vtk, .int vva, .ref cu, .ref lt, .ref od, .ref th, .ref be, .ref ln, .int (nI S), .ref ma, .int (nI M), .ref ah, .ref bh, .ref ik, .ref la, .ref lg, .ref ce, .int vto])), (st, .inl (G 0, 196, .inl fst)), (be, .inl (G 1, 770, .inr (.inl fbe)))]) hP hD hS hA [0, 1, 2] (by decide +kernel) rfl
        refine va_callv (va_runV (As := [.int i]) (rest := []) ⟨hx, hb, hml, hown, hg⟩ (c_X11_layBestE l dC dI G _ h0 st N B rp tp T cu lt od th be ln S ma M ah bh ik la lg ce i vrs vrb vhs vca vxs vxb vfa vbr vba vsp vhe vtk vva vto fst fbe hN hB_ hT_ hS0 hM_ hst) (kwV hg mfX11_layBest wt_1150 ⟨Nat.le_of_ble_eq_true rfl, Nat.le_of_ble_eq_true rfl⟩) (preVW hK hPc hDc (ci := 11) (r := (RX11, TX11, 35)) rfl rfl) rfl rfl hl.1 rfl (lv_room (Nat.le_of_ble_eq_true rfl)) dX11_without_36 ⟨Nat.le_of_ble_eq_true rfl, Nat.le_of_ble_eq_true rfl⟩) hS (fun q _ h => hFc q h) hFc (fun ur12 t H1 locs ht hvm w13 hB hz1 hk1 hS => ?_)
        obtain ⟨u14, rfl⟩ : ∃ z, z = ur12 := ⟨_, rfl⟩
        obtain ⟨hP1, hD1⟩ := hB
        rw [ht] at hP1
        obtain ⟨hP, hD⟩ := va_join (wr := []) (w1 := [(h0, .inr (11, [.ref st, .int (nI N), .int (nI B), .ref rp, .int vrs, .int vrb, .int vhs, .int vca, .int vxs, .int vxb, .ref tp, .int (nI T), .int vfa, .int vbr, .int vba, .int vsp, .int vhe, .int vtk, .int vva, .ref cu, .ref lt, .ref od, .ref th, .ref be, .ref ln, .int (nI S), .ref ma, .int (nI M), .ref ah, .ref bh, .ref ik, .ref la, .ref lg, .ref ce, .int vto])), (st, .inl (G 0, 196, .inl fst)), (be, .inl (G 1, 770, .inr (.inl u14)))]) hP hD [0, 1, 2] [] rfl rfl (by decide +kernel) (by decide +kernel) hk1 hFc hP1 hD1
        have w13 : zbR fst N B i 0 u14 := w13
        generalize H1 = H at hP hS ⊢
        refine lv_aload_n hx hb dX11_without_39 rfl (lv_at hl 0 rfl) ?_
        refine va_get (D := (dC, dI)) (ci := 11) (v := .ref be) (C := RX11) (T := TX11) (N := 35) hx hb hg inG11 hown hK.1 hP 0 rfl rfl 23 (Nat.le_of_ble_eq_true rfl) (hg _ wt_901) (fun _ h9 => h9) rfl dX11_without_40 ?_
        refine lv_iconst (v := 0) hx hb dX11_without_43 rfl ?_
        refine lv_bipush (v := (-4)) hx hb dX11_without_44 rfl ?_
        refine lv_aload_n hx hb dX11_without_46 rfl (lv_at hl 0 rfl) ?_
        have hPc := hP.sub (ws' := [(h0, .inr (11, [.ref st, .int (nI N), .int (nI B), .ref rp, .int vrs, .int vrb, .int vhs, .int vca, .int vxs, .int vxb, .ref tp, .int (nI T), .int vfa, .int vbr, .int vba, .int vsp, .int vhe, .int vtk, .int vva, .ref cu, .ref lt, .ref od, .ref th, .ref be, .ref ln, .int (nI S), .ref ma, .int (nI M), .ref ah, .ref bh, .ref ik, .ref la, .ref lg, .ref ce, .int vto])), (st, .inl (G 0, 196, .inl fst))]) [0, 1] rfl
        refine va_calli (va_runV (As := []) (rest := [.int (-4), .int 0, .ref be]) ⟨hx, hb, hml, hown, hg⟩ (c_X11_startNowS l dC dI G _ h0 st N B rp tp T cu lt od th be ln S ma M ah bh ik la lg ce vrs vrb vhs vca vxs vxb vfa vbr vba vsp vhe vtk vva vto fst hN hB_ hT_ hS0 hM_ hst) (kwV hg mfX11_startNow wt_1044 ⟨Nat.le_of_ble_eq_true rfl, Nat.le_of_ble_eq_true rfl⟩) (preVR hK hPc (ci := 11) (r := (RX11, TX11, 35)) rfl rfl) rfl rfl hl.1 rfl (lv_room (Nat.le_of_ble_eq_true rfl)) dX11_without_47 ⟨Nat.le_of_ble_eq_true rfl, Nat.le_of_ble_eq_true rfl⟩) hS (fun q h1 h2 => absurd h2 (Nat.not_le.mpr h1)) (fun q h => hA q (Nat.le_trans hS.1 h)) (fun r15 ur15 t H1 locs ht hvm w16 hB hz1 hk1 hS => ?_)
        have hP := keepR hP hk1
        obtain ⟨w16, w16x⟩ := w16
        have w16b := w16.2
        replace w16 := w16.1
        subst w16
        have hPc := hP.sub (ws' := []) [] rfl
        refine va_calli (va_runS (As := [.int 0, .int (-4), .int (nI (sdN fst))]) (rest := [.ref be]) ⟨hx, hb, hml, hown, hg⟩ (c_X11_bestAtN l dC dI G _ 0 (sdN fst) (by first | omega | (have t_b5 := b5; have t_b9 := b9; have t_n11 := n11; have t_w16b := w16b; have tnb_ := nib5 tn2670_ tn2671_ tn2672_ tn2673_ tn2674_; have tqz_ := qz44_; omega)) (by first | omega | (have t_b5 := b5; have t_b9 := b9; have t_n11 := n11; have t_w16b := w16b; have tnb_ := nib5 tn2670_ tn2671_ tn2672_ tn2673_ tn2674_; have tqz_ := qz44_; omega))) (kwS hg mfX11_bestAt wt_1159 ⟨Nat.le_of_ble_eq_true rfl, Nat.le_of_ble_eq_true rfl⟩) (preSR hK hPc) rfl rfl hl.1 rfl (lv_room (Nat.le_of_ble_eq_true rfl)) dX11_without_50 ⟨Nat.le_of_ble_eq_true rfl, Nat.le_of_ble_eq_true rfl⟩) hS (fun q h1 h2 => absurd h2 (Nat.not_le.mpr h1)) (fun q h => hA q (Nat.le_trans hS.1 h)) (fun r17 ur17 t H1 locs ht hvm w18 hB hz1 hk1 hS => ?_)
        have hP := keepR hP hk1
        obtain ⟨w18, w18x⟩ := w18
        subst w18
        refine va_lald hx hb hK.1 hP 2 1 rfl rfl (vp_in_nI (by first | omega | (have t_b5 := b5; have t_b9 := b9; have t_n11 := n11; have t_w16b := w16b; have tnb_ := nib5 tn2670_ tn2671_ tn2672_ tn2673_ tn2674_; omega)) (by decide)) dX11_without_53 ?_
        refine lv_cgl (y := u14 (70 * 0 + (sdN fst))) (by rw [nI_clamp (by omega)]) ?_
        refine lv_aload_n hx hb dX11_without_54 rfl (lv_at hl 0 rfl) ?_
        refine va_get (D := (dC, dI)) (ci := 11) (v := .int (nI N)) (C := RX11) (T := TX11) (N := 35) hx hb hg inG11 hown hK.1 hP 0 rfl rfl 1 (Nat.le_of_ble_eq_true rfl) (hg _ wt_879) (fun _ h9 => h9) rfl dX11_without_55 ?_
        have hPc := hP.sub (ws' := []) [] rfl
        refine va_calll (va_runS (As := [.int (nI N)]) (rest := [.long (u14 (70 * 0 + (sdN fst)))]) ⟨hx, hb, hml, hown, hg⟩ (c_X11_power l dC dI G _ N hN) (kwS hg mfX11_power wt_1131 ⟨Nat.le_of_ble_eq_true rfl, Nat.le_of_ble_eq_true rfl⟩) (preSR hK hPc) rfl rfl hl.1 rfl (lv_room (Nat.le_of_ble_eq_true rfl)) dX11_without_58 ⟨Nat.le_of_ble_eq_true rfl, Nat.le_of_ble_eq_true rfl⟩) hS (fun q h1 h2 => absurd h2 (Nat.not_le.mpr h1)) (fun q h => hA q (Nat.le_trans hS.1 h)) (fun r19 ur19 t H1 locs ht hvm w20 hB hz1 hk1 hS => ?_)
        have hP := keepR hP hk1
        obtain ⟨w20, w20x⟩ := w20
        subst w20
        refine lv_iload_n hx hb dX11_without_61 rfl (lv_at hl 2 rfl) ?_
        have hPc := hP.sub (ws' := []) [] rfl
        refine va_calll (va_runS (As := [.long (u14 (70 * 0 + (sdN fst))), .long (powF N), .int what]) (rest := []) ⟨hx, hb, hml, hown, hg⟩ (c_X11_lowestE l dC dI G _ what (u14 (70 * 0 + (sdN fst))) (powF N) (powF_ne (by have t_b5 := b5; have t_b9 := b9; have t_n11 := n11; have t_w16b := w16b; have tnb_ := nib5 tn2670_ tn2671_ tn2672_ tn2673_ tn2674_; omega))) (kwS hg mfX11_lowest wt_1134 ⟨Nat.le_of_ble_eq_true rfl, Nat.le_of_ble_eq_true rfl⟩) (preSR hK hPc) rfl rfl hl.1 rfl (lv_room (Nat.le_of_ble_eq_true rfl)) dX11_without_62 ⟨Nat.le_of_ble_eq_true rfl, Nat.le_of_ble_eq_true rfl⟩) hS (fun q h1 h2 => absurd h2 (Nat.not_le.mpr h1)) (fun q h => hA q (Nat.le_trans hS.1 h)) (fun r21 ur21 t H1 locs ht hvm w22 hB hz1 hk1 hS => ?_)
        have hP := keepR hP hk1
        obtain ⟨w22, w22x⟩ := w22
        subst w22
        have hpost : (frF (u14 (70 * 0 + (sdN fst))) (powF N) what : Int64) = if ((0 ≤ i.toInt ∧ i.toInt < ((B : Nat) : Int)) ∧ (0 ≤ what.toInt ∧ what.toInt ≤ 1)) then (if B < 2 then -2 else frF (zbV (zbH fst) N B i (N - 0) (sdN fst)) (powF N) what) else -1 := by
          have t_b5 := b5
          have t_b9 := b9
          have t_n11 := n11
          have t_w16b := w16b
          have t_n0 : (nI N).toInt = (N : Int) := tn2670_ ()
          have t_n1 : (nI B).toInt = (B : Int) := tn2671_ ()
          have t_n2 : (nI T).toInt = (T : Int) := tn2672_ ()
          have t_n3 : (nI S).toInt = (S : Int) := tn2673_ ()
          have t_n4 : (nI M).toInt = (M : Int) := tn2674_ ()
          have lz0 : (0 : Int32).toInt = 0 := qI_0
          have lz1 : (1 : Int32).toInt = 1 := qI_1
          have lz2 : (2 : Int32).toInt = 2 := qI_2
          have lz3 : (3 : Int32).toInt = 3 := qI_3
          have lz5 : (5 : Int32).toInt = 5 := qI_5
          have lz9 : (9 : Int32).toInt = 9 := qI_9
          have s9 := sdN_ok (hst 48 (by omega))
          rw [if_pos (by omega), if_neg (by omega), ← w13 0 (sdN fst) (Nat.zero_le _) (Nat.zero_le _) (by omega) (Or.inr (Or.inl (by omega)))]
        obtain ⟨hP9, hD9⟩ := va_sub2 (ws' := [(h0, .inr (11, [.ref st, .int (nI N), .int (nI B), .ref rp, .int vrs, .int vrb, .int vhs, .int vca, .int vxs, .int vxb, .ref tp, .int (nI T), .int vfa, .int vbr, .int vba, .int vsp, .int vhe, .int vtk, .int vva, .ref cu, .ref lt, .ref od, .ref th, .ref be, .ref ln, .int (nI S), .ref ma, .int (nI M), .ref ah, .ref bh, .ref ik, .ref la, .ref lg, .ref ce, .int vto])), (st, .inl (G 0, 196, .inl fst)), (be, .inl (G 1, 770, .inr (.inl u14)))]) hP hD [0, 1, 2] (by decide +kernel) rfl
        refine W.widen (k := 0) (n := 0) (Nat.le_of_ble_eq_true rfl) (Nat.le_of_ble_eq_true rfl) ?_
        exact W.lret (v := frF (u14 (70 * 0 + (sdN fst))) (powF N) what) hx hb hr (fun t ht hW => ⟨⟨frF (u14 (70 * 0 + (sdN fst))) (powF N) what, u14, rfl, ⟨hpost, trivial⟩, ⟨by rw [ht]; exact hP9, hD9⟩⟩, hS.F ht⟩) hS.2.2 dX11_without_65
      · skip
        have n23 : B = 1 := by have t := eqI c10; rw [show (nI (B)).toInt = ((B : Nat) : Int) from tn2671_ ()] at t; have : (1 : Int32).toInt = 1 := qI_1; omega
        refine lv_ldc2 (v := (-2)) hx hb hown (hg _ wt_1170) dX11_without_30 ?_
        have hpost : ((-2) : Int64) = if ((0 ≤ i.toInt ∧ i.toInt < ((B : Nat) : Int)) ∧ (0 ≤ what.toInt ∧ what.toInt ≤ 1)) then (if B < 2 then -2 else frF (zbV (zbH fst) N B i (N - 0) (sdN fst)) (powF N) what) else -1 := by
          have t_b5 := b5
          have t_b9 := b9
          have t_n23 := n23
          have t_n0 : (nI N).toInt = (N : Int) := tn2670_ ()
          have t_n1 : (nI B).toInt = (B : Int) := tn2671_ ()
          have t_n2 : (nI T).toInt = (T : Int) := tn2672_ ()
          have t_n3 : (nI S).toInt = (S : Int) := tn2673_ ()
          have t_n4 : (nI M).toInt = (M : Int) := tn2674_ ()
          have lz0 : (0 : Int32).toInt = 0 := qI_0
          have lz1 : (1 : Int32).toInt = 1 := qI_1
          have lz2 : (2 : Int32).toInt = 2 := qI_2
          have lz3 : (3 : Int32).toInt = 3 := qI_3
          have lz5 : (5 : Int32).toInt = 5 := qI_5
          have lz9 : (9 : Int32).toInt = 9 := qI_9
          rw [if_pos (by omega), if_pos (by omega)]
        obtain ⟨hP9, hD9⟩ := va_sub2 (ws' := [(h0, .inr (11, [.ref st, .int (nI N), .int (nI B), .ref rp, .int vrs, .int vrb, .int vhs, .int vca, .int vxs, .int vxb, .ref tp, .int (nI T), .int vfa, .int vbr, .int vba, .int vsp, .int vhe, .int vtk, .int vva, .ref cu, .ref lt, .ref od, .ref th, .ref be, .ref ln, .int (nI S), .ref ma, .int (nI M), .ref ah, .ref bh, .ref ik, .ref la, .ref lg, .ref ce, .int vto])), (st, .inl (G 0, 196, .inl fst)), (be, .inl (G 1, 770, .inr (.inl fbe)))]) hP hD [0, 1, 2] (by decide +kernel) rfl
        refine W.widen (k := 0) (n := 0) (Nat.le_of_ble_eq_true rfl) (Nat.le_of_ble_eq_true rfl) ?_
        exact W.lret (v := (-2)) hx hb hr (fun t ht hW => ⟨⟨(-2), fbe, rfl, ⟨hpost, trivial⟩, ⟨by rw [ht]; exact hP9, hD9⟩⟩, hS.F ht⟩) hS.2.2 dX11_without_33
    · skip
      have b24 := if10_n c8
      refine lv_ldc2 (v := (-1)) hx hb hown (hg _ wt_1118) dX11_without_18 ?_
      have hpost : ((-1) : Int64) = if ((0 ≤ i.toInt ∧ i.toInt < ((B : Nat) : Int)) ∧ (0 ≤ what.toInt ∧ what.toInt ≤ 1)) then (if B < 2 then -2 else frF (zbV (zbH fst) N B i (N - 0) (sdN fst)) (powF N) what) else -1 := by
        have t_b5 := b5
        have t_b24 := b24
        have t_n0 : (nI N).toInt = (N : Int) := tn2670_ ()
        have t_n1 : (nI B).toInt = (B : Int) := tn2671_ ()
        have t_n2 : (nI T).toInt = (T : Int) := tn2672_ ()
        have t_n3 : (nI S).toInt = (S : Int) := tn2673_ ()
        have t_n4 : (nI M).toInt = (M : Int) := tn2674_ ()
        have lz0 : (0 : Int32).toInt = 0 := qI_0
        have lz1 : (1 : Int32).toInt = 1 := qI_1
        have lz2 : (2 : Int32).toInt = 2 := qI_2
        have lz3 : (3 : Int32).toInt = 3 := qI_3
        have lz5 : (5 : Int32).toInt = 5 := qI_5
        have lz9 : (9 : Int32).toInt = 9 := qI_9
        rw [if_neg (by omega)]
      obtain ⟨hP9, hD9⟩ := va_sub2 (ws' := [(h0, .inr (11, [.ref st, .int (nI N), .int (nI B), .ref rp, .int vrs, .int vrb, .int vhs, .int vca, .int vxs, .int vxb, .ref tp, .int (nI T), .int vfa, .int vbr, .int vba, .int vsp, .int vhe, .int vtk, .int vva, .ref cu, .ref lt, .ref od, .ref th, .ref be, .ref ln, .int (nI S), .ref ma, .int (nI M), .ref ah, .ref bh, .ref ik, .ref la, .ref lg, .ref ce, .int vto])), (st, .inl (G 0, 196, .inl fst)), (be, .inl (G 1, 770, .inr (.inl fbe)))]) hP hD [0, 1, 2] (by decide +kernel) rfl
      refine W.widen (k := 0) (n := 0) (Nat.le_of_ble_eq_true rfl) (Nat.le_of_ble_eq_true rfl) ?_
      exact W.lret (v := (-1)) hx hb hr (fun t ht hW => ⟨⟨(-1), fbe, rfl, ⟨hpost, trivial⟩, ⟨by rw [ht]; exact hP9, hD9⟩⟩, hS.F ht⟩) hS.2.2 dX11_without_21


def lmap (E : Nat → Int32) : Nat → Int32 := fun q => if E q = -1 then -4 else E q
theorem lmap_upd {E : Nat → Int32} {k : Nat} {lane : Int32} (h : ¬ lane = -1) : upd (lmap E) k lane = lmap (upd E k lane) := by
  funext q
  show (if q = k then lane else lmap E q) = (if (if q = k then lane else E q) = -1 then -4 else (if q = k then lane else E q))
  by_cases c : q = k
  · rw [if_pos c, if_pos c, if_neg h]
  · rw [if_neg c, if_neg c]; rfl
theorem lmap_step {E : Nat → Int32} {k lane n : Int32} : (if ((0 ≤ k.toInt ∧ k.toInt < 4) ∧ (0 ≤ lane.toInt ∧ lane.toInt ≤ 2) ∧ n.toInt ≤ 40 ∧ 0 ≤ n.toInt) then upd (lmap E) k.toNatClampNeg lane else lmap E) = lmap (if ((0 ≤ k.toInt ∧ k.toInt < 4) ∧ (0 ≤ lane.toInt ∧ lane.toInt ≤ 2) ∧ n.toInt ≤ 40 ∧ 0 ≤ n.toInt) then upd E k.toNatClampNeg lane else E) := by
  split
  · rename_i h
    exact lmap_upd (fun e => by rw [e] at h; exact absurd h.2.1.1 (by decide))
  · rfl
theorem E_inv {E : Nat → Int32} {k lane n : Int32} (h : ∀ q : Nat, q < 4 → E q = -1 ∨ (0 ≤ (E q).toInt ∧ (E q).toInt ≤ 2)) : ∀ q : Nat, q < 4 → (if ((0 ≤ k.toInt ∧ k.toInt < 4) ∧ (0 ≤ lane.toInt ∧ lane.toInt ≤ 2) ∧ n.toInt ≤ 40 ∧ 0 ≤ n.toInt) then upd E k.toNatClampNeg lane else E) q = -1 ∨ (0 ≤ ((if ((0 ≤ k.toInt ∧ k.toInt < 4) ∧ (0 ≤ lane.toInt ∧ lane.toInt ≤ 2) ∧ n.toInt ≤ 40 ∧ 0 ≤ n.toInt) then upd E k.toNatClampNeg lane else E) q).toInt ∧ ((if ((0 ≤ k.toInt ∧ k.toInt < 4) ∧ (0 ≤ lane.toInt ∧ lane.toInt ≤ 2) ∧ n.toInt ≤ 40 ∧ 0 ≤ n.toInt) then upd E k.toNatClampNeg lane else E) q).toInt ≤ 2) := by
  intro q hq
  split
  · rename_i c
    show (if q = k.toNatClampNeg then lane else E q) = -1 ∨ (0 ≤ (if q = k.toNatClampNeg then lane else E q).toInt ∧ (if q = k.toNatClampNeg then lane else E q).toInt ≤ 2)
    split
    · exact Or.inr c.2.1
    · exact h q hq
  · exact h q hq
theorem lay_eq {E Z : Nat → Int32} {k i : Int32} (h : ∀ q : Nat, q < 4 → E q = -1 ∨ (0 ≤ (E q).toInt ∧ (E q).toInt ≤ 2)) : (if 0 ≤ k.toInt ∧ k.toInt < 4 then (if lmap E k.toNatClampNeg = -4 then -11 else if 0 ≤ i.toInt ∧ i.toInt < (Z k.toNatClampNeg).toInt then 1 else -12) else -1) = (if 0 ≤ k.toInt ∧ k.toInt < 4 then (if E k.toNatClampNeg = -1 then -11 else if 0 ≤ i.toInt ∧ i.toInt < (Z k.toNatClampNeg).toInt then 1 else -12) else (-1 : Int32)) := by
  split
  · rename_i c
    obtain ⟨j, hj, rfl⟩ := i32_nat (x := k) (n := 4) c.1 (by omega)
    rw [nI_clamp (by omega)]
    have e : (lmap E j = -4) = (E j = -1) := by
      apply propext
      constructor
      · intro q
        rcases h j hj with a | a
        · exact a
        · exfalso
          have q' : (if E j = -1 then (-4 : Int32) else E j) = -4 := q
          split at q'
          · rename_i b; rw [b] at a; exact absurd a.1 (by decide)
          · rw [q'] at a; exact absurd a.1 (by decide)
      · intro q
        show (if E j = -1 then (-4 : Int32) else E j) = -4
        rw [if_pos q]
    by_cases d : E j = -1
    · rw [if_pos d, if_pos (e ▸ d)]
    · rw [if_neg d, if_neg (fun z => d (e ▸ z))]
  · rfl
theorem Met.pick {l : Launch} {y : MethodName} {ws : List Cond} {rm : Room} {P' : Array Value → State → Prop} {Q' : Array Value → State → Outcome → State → Prop} {mc ms : Nat} {F' : Addr → Prop} (h : ∀ (a : Array Value) (st : State), P' a st → ∃ (P : Array Value → State → Prop) (Q : Array Value → State → Outcome → State → Prop) (F : Addr → Prop), Met l y ws rm P Q mc ms F ∧ P a st ∧ (∀ q : Nat, F q → F' q) ∧ ∀ (o : Outcome) (t : State), Q a st o t → Q' a st o t) : Met l y ws rm P' Q' mc ms F' := by
  unfold Met MetFree
  intro p e h1 h2 h3 s m args below h4 h5 h6 h7
  obtain ⟨P, Q, F, hM, hP, hF, hQ⟩ := h args s h6
  unfold Met MetFree at hM
  obtain ⟨n, o, a1, a2, a3, a4, L, a5, a6⟩ := hM p e h1 h2 h3 s m args below h4 h5 hP trivial
  exact ⟨n, o, a1, a2, a3, hQ _ _ a4, L, a5, fun q hq => hF _ (a6 q hq)⟩
theorem vpc {D : va_G} {cl : List vw_C} {q : Nat × va_E} {ws : va_W} {H : Heap} (h : va_at D cl q H) (hw : va_P D cl ws H) : va_P D cl (q :: ws) H := by
  intro k x hk
  cases k with
  | zero =>
    have e : q = x := Option.some.inj hk
    subst e
    exact h
  | succ k => exact hw k x hk
theorem vp_mid {D : va_G} {cl : List vw_C} {X B Y : va_W} {H : Heap} (h : va_P D cl (X ++ (B ++ Y)) H) : va_P D cl B H := fun k q hk => h (X.length + k) q (by
  rw [List.getElem?_append_right (by omega), Nat.add_sub_cancel_left, List.getElem?_append_left (List.getElem?_eq_some_iff.mp hk).1]
  exact hk)
theorem vp_mid2 {D : va_G} {cl : List vw_C} {X A B Y : va_W} {H : Heap} (h : va_P D cl (X ++ (A ++ (B ++ Y))) H) : va_P D cl B H := vp_mid (X := X ++ A) (B := B) (Y := Y) (by rw [List.append_assoc]; exact h)
theorem blk_kept {D : va_G} {cl : List vw_C} {N : Nat} {f : Nat → Nat × va_E} {H H1 : Heap} (hb : va_P D cl ((List.range N).map f) H) (hk : ∀ i : Nat, i < N → (f i).1 < H.size → H1[(f i).1]? = H[(f i).1]?) : va_P D cl ((List.range N).map f) H1 :=
  hb.kept (fun k q hq => by
    have hlt := (hb k q hq).lt
    have hkN : k < N := by
      have h9 := (List.getElem?_eq_some_iff.mp hq).1
      simpa using h9
    have e : f k = q := by
      rw [List.getElem?_map, List.getElem?_range hkN] at hq
      exact Option.some.inj hq
    subst e
    exact hk k hkN hlt)
def adInj (n : Nat) (ax : Nat → Nat) : Prop := ∀ i j : Nat, i < n → j < n → ax i = ax j → i = j
def adX (lo hi : Nat) (ax : Nat → Nat) (sz : Nat) : Nat → Prop := fun q => (∃ i : Nat, lo ≤ i ∧ i < hi ∧ q = ax i) ∨ sz ≤ q
theorem ix_at {ax : Nat → Nat} {ws : va_W} (is : List Nat) (h : ws.map Prod.fst = is.map ax) {k : Nat} {q : Nat × va_E} (hq : ws[k]? = some q) : ∃ x : Nat, is[k]? = some x ∧ ax x = q.1 := by
  have a1 : (ws.map Prod.fst)[k]? = some q.1 := by rw [List.getElem?_map, hq]; rfl
  rw [h, List.getElem?_map] at a1
  cases e : is[k]? with
  | none => rw [e] at a1; cases a1
  | some x => rw [e] at a1; exact ⟨x, rfl, Option.some.inj a1⟩
theorem vD_ix {n : Nat} {ax : Nat → Nat} (hi : adInj n ax) {ws : va_W} (is : List Nat) (h : ws.map Prod.fst = is.map ax) (hl : is.all (fun x => decide (x < n)) = true) (hn : va_nd is = true) : va_D (fun _ => True) ws := by
  refine ⟨fun i j p q hp hq e => ?_, fun _ _ _ => trivial⟩
  obtain ⟨x, e1, f1⟩ := ix_at is h hp
  obtain ⟨y, e2, f2⟩ := ix_at is h hq
  have lx : x < n := of_decide_eq_true (List.all_eq_true.mp hl x (List.mem_of_getElem? e1))
  have ly : y < n := of_decide_eq_true (List.all_eq_true.mp hl y (List.mem_of_getElem? e2))
  have exy : x = y := hi x y lx ly (by rw [f1, f2, e])
  subst exy
  exact va_nd_inj is hn i j x e1 e2
theorem fr_ix {n lo hi : Nat} {ax : Nat → Nat} (hi' : adInj n ax) (hhi : hi ≤ n) {ws : va_W} {H H1 : Heap} (hk : ∀ q : Nat, q < H.size → ¬ va_A ws H.size q → H1[q]? = H[q]?) (is : List Nat) (h : ws.map Prod.fst = is.map ax) (hl : is.all (fun x => decide (x < n)) = true) (hb : is.all (fun x => decide (x < lo) || decide (hi ≤ x)) = true) : ∀ j : Nat, lo ≤ j → j < hi → ax j < H.size → H1[ax j]? = H[ax j]? := by
  intro j h1 h2 h3
  refine hk _ h3 (fun hA => ?_)
  rcases hA with ⟨k, e, hke⟩ | h4
  · obtain ⟨x, e1, f1⟩ := ix_at is h hke
    have hm := List.mem_of_getElem? e1
    have lx : x < n := of_decide_eq_true (List.all_eq_true.mp hl x hm)
    have exj : x = j := hi' x j lx (by omega) f1
    subst exj
    have b := List.all_eq_true.mp hb x hm
    rcases Bool.or_eq_true _ _ |>.mp b with b | b
    · have := of_decide_eq_true b; omega
    · have := of_decide_eq_true b; omega
  · omega
theorem ad_ix {lo hi : Nat} {ax : Nat → Nat} {ws : va_W} {sz : Nat} (is : List Nat) (h : ws.map Prod.fst = is.map ax) (hl : is.all (fun x => decide (lo ≤ x) && decide (x < hi)) = true) : ∀ q : Nat, va_A ws sz q → adX lo hi ax sz q := by
  intro q hA
  rcases hA with ⟨k, e, hke⟩ | h4
  · obtain ⟨x, e1, f1⟩ := ix_at is h hke
    have b := (Bool.and_eq_true _ _).mp (List.all_eq_true.mp hl x (List.mem_of_getElem? e1))
    exact Or.inl ⟨x, of_decide_eq_true b.1, of_decide_eq_true b.2, f1.symm⟩
  · exact Or.inr h4
theorem va_F.wide {A B : Nat → Prop} {st t : State} (hF : va_F A st t) (h : ∀ q : Nat, A q → B q) : va_F B st t := ⟨hF.1, fun q h1 h2 => hF.2 q h1 (fun h3 => h2 (h q h3))⟩
theorem fr_ad {n lo hi lo' hi' : Nat} {ax : Nat → Nat} (hi0 : adInj n ax) (hn : hi ≤ n) (hn' : hi' ≤ n) (hd : hi ≤ lo' ∨ hi' ≤ lo) {H H1 : Heap} (hk : ∀ q : Nat, q < H.size → ¬ adX lo hi ax H.size q → H1[q]? = H[q]?) : ∀ j : Nat, lo' ≤ j → j < hi' → ax j < H.size → H1[ax j]? = H[ax j]? := by
  intro j h1 h2 h3
  refine hk _ h3 (fun hA => ?_)
  rcases hA with ⟨i, a, b, c⟩ | h4
  · have := hi0 j i (by omega) (by omega) c
    omega
  · omega
def PcI (av : List Value) (dC : Nat → ClassId) (dI : Nat → Nat → Nat) (G : Nat → ClassId) (I : Heap → Prop) (sz : Nat) : Array Value → State → Prop := va_Pc av (fun U => U.heap.size = sz ∧ I U.heap ∧ KK dC dI G U)
def PcIS (av : List Value) (dC : Nat → ClassId) (dI : Nat → Nat → Nat) (G : Nat → ClassId) (I : Heap → Prop) (adK adV : Nat → Nat) (A : Nat → Prop) (sz : Nat) : Array Value → State → Prop := va_Pc av (fun U => U.heap.size = sz ∧ I U.heap ∧ KK dC dI G U ∧ SS adK adV A U U.heap)
theorem PcI.blind {av : List Value} {dC : Nat → ClassId} {dI : Nat → Nat → Nat} {G : Nat → ClassId} {I : Heap → Prop} {sz : Nat} : FrameBlind (PcI av dC dI G I sz) := fun a U g mk q => by
  obtain ⟨q0, q1, q2, q3⟩ := q
  exact ⟨q0, q1, q2, KK.calling (U := U) (V := U.calling g mk a) rfl q3⟩
theorem PcIS.blind {av : List Value} {dC : Nat → ClassId} {dI : Nat → Nat → Nat} {G : Nat → ClassId} {I : Heap → Prop} {adK adV : Nat → Nat} {A : Nat → Prop} {sz : Nat} : FrameBlind (PcIS av dC dI G I adK adV A sz) := fun a U g mk q => by
  obtain ⟨q0, q1, q2, q3, q4⟩ := q
  exact ⟨q0, q1, q2, KK.calling (U := U) (V := U.calling g mk a) rfl q3, SS.calling (U := U) (V := U.calling g mk a) rfl q4⟩
theorem preVI {s : State} {H : Heap} {As : List Value} {b : Nat} {dC : Nat → ClassId} {dI : Nat → Nat → Nat} {G : Nat → ClassId} {I : Heap → Prop} {C : String} (hK : KK dC dI G s) (hI : I H) (hr : ∃ cellB : Cell, H[b]? = some cellB ∧ cellB.vm.isStatics = false ∧ s.vm.findClass C = some cellB.cls) : PreV s H C b (PcI (.ref b :: As) dC dI G I H.size) As :=
  ⟨PcI.blind, hr, fun U hU hW => ⟨rfl, by rw [hU], by rw [hU]; exact hI, hK.warm hW⟩⟩
theorem preVIS {s : State} {H : Heap} {As : List Value} {b : Nat} {dC : Nat → ClassId} {dI : Nat → Nat → Nat} {G : Nat → ClassId} {I : Heap → Prop} {C : String} {adK adV : Nat → Nat} {A B : Nat → Prop} {locs : List Loc} (hK : KK dC dI G s) (hI : I H) (hr : ∃ cellB : Cell, H[b]? = some cellB ∧ cellB.vm.isStatics = false ∧ s.vm.findClass C = some cellB.cls) (hSS : SS adK adV A s s.heap) (hS : va_S A s.heap H locs) (hB : ∀ q : Nat, B q → A q) : PreV s H C b (PcIS (.ref b :: As) dC dI G I adK adV B H.size) As :=
  ⟨PcIS.blind, hr, fun U hU hW => ⟨rfl, by rw [hU], by rw [hU]; exact hI, hK.warm hW, hSS.go hS hB hU hW⟩⟩
theorem SS.narrow {adK adV : Nat → Nat} {A B : Nat → Prop} {U : State} {H : Heap} (h : SS adK adV A U H) (hB : ∀ q : Nat, B q → A q) : SS adK adV B U H := ⟨h.1.narrow hB, h.2.1, h.2.2.1.narrow hB, h.2.2.2.narrow hB⟩
theorem sdN_c {N B D : Nat} {f1 f2 f4 f5 f6 W : Nat → Int32} (h : CR N B (nI D) f1 f2 f4 f5 f6 W) (hD : D ≤ 9) : sdN W = D := by
  unfold sdN
  rw [h.1, Int32.sub_add_cancel, nI_clamp (by omega)]
theorem sdN_r {N B : Nat} {st W : Nat → Int32} (h : SR 0 N B st W) : sdN st = sdN W := by
  unfold sdN
  rw [h.g (Or.inl rfl)]
theorem cr_getL {C : Prop} [Decidable C] {a b : Int64} (h : C → a = b) : (if C then a else -1) = (if C then b else -1) := by
  split
  · rename_i c; exact h c
  · rfl
-- THE BEST: both sides tell the same (draft)
theorem sl_mod {g : Int32} {d : Nat} (h : d ≤ 9) : slotF g d % 10 = d := by
  unfold slotF
  generalize (if g = -4 then 0 else g.toNatClampNeg + 1) = q
  omega
theorem sl_lt {B : Nat} {g : Int32} {d : Nat} (hg : VG B g) (hB : B ≤ 6) (h : d ≤ 9) : slotF g d < 70 ∧ (slotF g d < 10 ∨ slotF g d / 10 ≤ B) := by
  rcases hg with e | ⟨a, ha, e⟩
  · rw [e, sl_4]; omega
  · rw [e, sl_n (by omega)]; omega
theorem zbW_cg {H K : Nat → Nat → Nat → Int32} {g g' : Nat → Int64} {B i k b : Nat} (hb : b < B) (hB : B ≤ 6) (hH : H i k b = K i k b) (hg : ∀ q : Nat, q < 70 → VK B q → g q = g' q) : zbW H g i k b = zbW K g' i k b := by
  unfold zbW
  rw [hH, hg (10 * (b + 1) + (k % 10 - 1)) (by omega) (Or.inr (Or.inr (by omega))), hg (10 * (b + 1) + min 9 (k % 10 + 1)) (by omega) (Or.inr (Or.inr (by omega)))]
theorem zbV_cg {H K : Nat → Nat → Nat → Int32} {N B : Nat} {wo : Int32} (hB : B ≤ 6) (hH : ∀ i k b : Nat, i < N → k < 70 → (k < 10 ∨ k / 10 ≤ B) → b < B → H i k b = K i k b) : ∀ n : Nat, n ≤ N → ∀ k : Nat, k < 70 → VK B k → zbV H N B wo n k = zbV K N B wo n k := by
  intro n
  induction n with
  | zero => intro _ k _ _; rfl
  | succ n ih =>
    intro hn k hk hv
    show (if k % 10 = 0 then powF (n + 1) else (bmF (zbW H (zbV H N B wo n) (N - (n + 1)) k) wo FARL 0 B).1) = (if k % 10 = 0 then powF (n + 1) else (bmF (zbW K (zbV K N B wo n) (N - (n + 1)) k) wo FARL 0 B).1)
    by_cases c : k % 10 = 0
    · rw [if_pos c, if_pos c]
    · have hv' : k < 10 ∨ k / 10 ≤ B := by
        unfold VK at hv
        omega
      rw [if_neg c, if_neg c, bm_cg B (fun b hb => zbW_cg (K := K) (g' := zbV K N B wo n) hb hB (hH (N - (n + 1)) k b (by omega) hk hv' hb) (ih (by omega)))]
theorem bw_zb {H : Nat → Int32 → Nat → Int32} {K : Nat → Nat → Nat → Int32} {N B : Nat} {wo : Int32} (hN : N ≤ 10) (hB : B ≤ 6) (hw : N = 0 ∨ CND B wo) (hH : ∀ (i : Nat) (g : Int32) (d b : Nat), i < N → VG B g → d ≤ 9 → b < B → H i g b = K i (slotF g d) b) (hK : HBd N B K) : ∀ n : Nat, n ≤ N → ∀ g : Int32, VG B g → ∀ d : Nat, d ≤ 9 → bwV H N B wo n g d = zbV K N B wo n (slotF g d) := by
  intro n
  induction n with
  | zero =>
    intro _ g _ d hd
    show (if d = 0 then (1 : Int64) else 0) = (if slotF g d % 10 = 0 then 1 else 0)
    rw [sl_mod hd]
  | succ n ih =>
    intro hn g hg d hd
    show (if d = 0 then powF (n + 1) else (bmF (fun b => mxF (H (N - (n + 1)) g b) (bwV H N B wo n (nI b) (d - 1)) (bwV H N B wo n (nI b) (min 9 (d + 1)))) wo MORE 0 B).1) = (if slotF g d % 10 = 0 then powF (n + 1) else (bmF (zbW K (zbV K N B wo n) (N - (n + 1)) (slotF g d)) wo FARL 0 B).1)
    rw [sl_mod hd]
    by_cases c : d = 0
    · rw [if_pos c, if_pos c]
    · rw [if_neg c, if_neg c]
      have ev : ∀ b : Nat, b < B → mxF (H (N - (n + 1)) g b) (bwV H N B wo n (nI b) (d - 1)) (bwV H N B wo n (nI b) (min 9 (d + 1))) = zbW K (zbV K N B wo n) (N - (n + 1)) (slotF g d) b := fun b hb => by
        rw [ih (by omega) (nI b) (Or.inr ⟨b, hb, rfl⟩) (d - 1) (by omega), ih (by omega) (nI b) (Or.inr ⟨b, hb, rfl⟩) (min 9 (d + 1)) (by omega), mx_zb, hH (N - (n + 1)) g d b (by omega) hg hd hb]
        unfold zbW
        rw [sl_mod hd, sl_n (by omega), sl_n (by omega)]
      have sl := sl_lt hg hB hd
      have bd : ∀ b : Nat, b < B → (zbW K (zbV K N B wo n) (N - (n + 1)) (slotF g d) b).toInt < MORE.toInt ∧ (zbW K (zbV K N B wo n) (N - (n + 1)) (slotF g d) b).toInt < FARL.toInt := fun b hb => by
        have w := zbV_w hN hB hK hw (i := N - (n + 1)) (k := slotF g d) (b := b) (by omega) sl.1 sl.2 hb
        rw [show N - (N - (n + 1) + 1) = n by omega] at w
        exact ⟨w.2, w.1⟩
      rw [bm_cg B ev]
      exact congrArg Prod.fst (bm_start B bd (hw.resolve_left (by omega)))
theorem zbH_c {N B : Nat} {dd : Int32} {f1 f2 f4 f5 f6 W : Nat → Int32} (h : CR N B dd f1 f2 f4 f5 f6 W) (hN : N ≤ 10) (hB : B ≤ 6) (i : Nat) (g : Int32) (d b : Nat) (hi : i < N) (hg : VG B g) (hd : d ≤ 9) (hb : b < B) : hmF N B f1 f2 f4 f5 f6 (nI i) g (nI b) = zbH W i (slotF g d) b := by
  have m4 : (-4 : Int32).toInt = -4 := by decide
  have ti : (nI i).toInt = (i : Int) := nI_toInt (by omega)
  have tb : (nI b).toInt = (b : Int) := nI_toInt (by omega)
  have e := ha_c (i := nI i) (g := g) (k := nI b) h hB
  unfold haW at e
  rcases hg with q | ⟨a, ha, q⟩
  · subst q
    rw [if_pos ⟨⟨by omega, by omega⟩, Or.inl m4, by omega, by omega⟩, if_pos ⟨⟨by omega, by omega⟩, Or.inl m4, by omega, by omega⟩, if_pos rfl, nI_clamp (by omega), nI_clamp (by omega)] at e
    rw [e, sl_4]
    unfold zbH
    rw [if_pos (by omega)]
  · subst q
    have ta : (nI a).toInt = (a : Int) := nI_toInt (by omega)
    rw [if_pos ⟨⟨by omega, by omega⟩, Or.inr ⟨by omega, by omega⟩, by omega, by omega⟩, if_pos ⟨⟨by omega, by omega⟩, Or.inr ⟨by omega, by omega⟩, by omega, by omega⟩, if_neg (fun z => by have t := congrArg Int32.toInt z; omega), nI_clamp (by omega), nI_clamp (by omega), nI_clamp (by omega)] at e
    rw [e, sl_n (by omega)]
    unfold zbH
    rw [if_neg (by omega), show (10 * (a + 1) + d) / 10 - 1 = a by omega]
theorem zbH_r {N B : Nat} {st W : Nat → Int32} (h : SR 0 N B st W) (hN : N ≤ 10) (hB : B ≤ 6) (i k b : Nat) (hi : i < N) (hk : k < 70) (hv : k < 10 ∨ k / 10 ≤ B) (hb : b < B) : zbH st i k b = zbH W i k b := by
  have m4 : (-4 : Int32).toInt = -4 := by decide
  have ti : (nI i).toInt = (i : Int) := nI_toInt (by omega)
  have tb : (nI b).toInt = (b : Int) := nI_toInt (by omega)
  unfold zbH
  by_cases c : k < 10
  · rw [if_pos c, if_pos c]
    have e := ha_r (i := nI i) (g := -4) (k := nI b) h
    unfold haW at e
    rw [if_pos ⟨⟨by omega, by omega⟩, Or.inl m4, by omega, by omega⟩, if_pos rfl, if_pos ⟨⟨by omega, by omega⟩, Or.inl m4, by omega, by omega⟩, if_pos rfl, nI_clamp (by omega), nI_clamp (by omega)] at e
    exact e
  · rw [if_neg c, if_neg c]
    have ta : (nI (k / 10 - 1)).toInt = ((k / 10 - 1 : Nat) : Int) := nI_toInt (by omega)
    have na : ¬ nI (k / 10 - 1) = -4 := fun z => by
      have t := congrArg Int32.toInt z
      omega
    have e := ha_r (i := nI i) (g := nI (k / 10 - 1)) (k := nI b) h
    unfold haW at e
    rw [if_pos ⟨⟨by omega, by omega⟩, Or.inr ⟨by omega, by omega⟩, by omega, by omega⟩, if_neg na, if_pos ⟨⟨by omega, by omega⟩, Or.inr ⟨by omega, by omega⟩, by omega, by omega⟩, if_neg na, nI_clamp (by omega), nI_clamp (by omega), nI_clamp (by omega)] at e
    exact e
theorem HBd.cg {N B : Nat} {H K : Nat → Nat → Nat → Int32} (h : HBd N B H) (e : ∀ i k b : Nat, i < N → k < 70 → (k < 10 ∨ k / 10 ≤ B) → b < B → H i k b = K i k b) : HBd N B K := fun i k b h1 h2 h3 h4 => by rw [← e i k b h1 h2 h3 h4]; exact h i k b h1 h2 h3 h4
theorem bst_c {N B D : Nat} {wo : Int32} {f1 f2 f4 f5 f6 W : Nat → Int32} (h : CR N B (nI D) f1 f2 f4 f5 f6 W) (hb : HBd N B (zbH W)) (hN : N ≤ 10) (hB : B ≤ 6) (hD : 1 ≤ D ∧ D ≤ 9) (hw : N = 0 ∨ CND B wo) : bwV (fun ib gb bb => hmF N B f1 f2 f4 f5 f6 (nI ib) gb (nI bb)) N B wo N (-4) D = zbV (zbH W) N B wo N (sdN W) := by
  rw [bw_zb hN hB hw (zbH_c h hN hB) hb N (Nat.le_refl N) (-4) (Or.inl rfl) D hD.2, sl_4, sdN_c h hD.2]
theorem bst_r {N B : Nat} {wo : Int32} {st W : Nat → Int32} (h : SR 0 N B st W) (hk : OKS st) (hN : N ≤ 10) (hB : B ≤ 6) : zbV (zbH st) N B wo (N - 0) (sdN st) = zbV (zbH W) N B wo N (sdN W) := by
  have s := (sdN_ok (hk 48 (by omega))).2
  rw [Nat.sub_zero, zbV_cg hB (zbH_r h hN hB) N (Nat.le_refl N) (sdN st) (by omega) (Or.inr (Or.inl (by omega))), sdN_r h]
theorem cnd2 {N B : Nat} {i : Int32} (h : ¬ B < 2) : N = 0 ∨ CND B i := by
  by_cases e : nI 0 = i
  · exact Or.inr ⟨1, by omega, fun z => absurd (e.trans z.symm) (by decide)⟩
  · exact Or.inr ⟨0, by omega, e⟩
theorem wo9_c {i what : Int32} {N B D : Nat} {f1 f2 f4 f5 f6 W : Nat → Int32} (h : CR N B (nI D) f1 f2 f4 f5 f6 W) (hb : HBd N B (zbH W)) (hN : N ≤ 10) (hB : B ≤ 6) (hD : 1 ≤ D ∧ D ≤ 9) : (if ((0 ≤ i.toInt ∧ i.toInt < ((B : Nat) : Int)) ∧ (0 ≤ what.toInt ∧ what.toInt ≤ 1)) then (if B < 2 then -2 else frF (bwV (fun ib gb bb => hmF N B f1 f2 f4 f5 f6 (nI ib) gb (nI bb)) N B i N (-4) D) (powF N) what) else -1) = (if ((0 ≤ i.toInt ∧ i.toInt < ((B : Nat) : Int)) ∧ (0 ≤ what.toInt ∧ what.toInt ≤ 1)) then (if B < 2 then -2 else frF (zbV (zbH W) N B i N (sdN W)) (powF N) what) else -1) :=
  cr_getL (fun _ => by
    by_cases c : B < 2
    · rw [if_pos c, if_pos c]
    · rw [if_neg c, if_neg c, bst_c h hb hN hB hD (cnd2 c)])
theorem wo9_r {i what : Int32} {N B : Nat} {st W : Nat → Int32} (h : SR 0 N B st W) (hk : OKS st) (hN : N ≤ 10) (hB : B ≤ 6) : (if ((0 ≤ i.toInt ∧ i.toInt < ((B : Nat) : Int)) ∧ (0 ≤ what.toInt ∧ what.toInt ≤ 1)) then (if B < 2 then -2 else frF (zbV (zbH st) N B i (N - 0) (sdN st)) (powF N) what) else -1) = (if ((0 ≤ i.toInt ∧ i.toInt < ((B : Nat) : Int)) ∧ (0 ≤ what.toInt ∧ what.toInt ≤ 1)) then (if B < 2 then -2 else frF (zbV (zbH W) N B i N (sdN W)) (powF N) what) else -1) :=
  cr_getL (fun _ => by rw [bst_r h hk hN hB])
-- who takes the child
def X10Pr (dC : Nat → ClassId) (dI : Nat → Nat → Nat) (G : Nat → ClassId) (ax : Nat → Nat) (fa : Int32) (H : Heap) : Prop := ∃ (zi0_13 : Int32), (va_at (dC, dI) vwCl (ax 0, .inr (10, [.ref (ax 1), .ref (ax 11), .ref (ax 18), .ref (ax 25), .ref (ax 40), .ref (ax 41), .ref (ax 44), .ref (ax 68), .ref (ax 69), .ref (ax 74), .ref (ax 77), .ref (ax 102), .int fa, .int zi0_13])) H)
theorem X10Pr.kept {dC : Nat → ClassId} {dI : Nat → Nat → Nat} {G : Nat → ClassId} {ax : Nat → Nat} {fa : Int32} {H H1 : Heap} (hk : ∀ j : Nat, 0 ≤ j → j < 1 → ax j < H.size → H1[ax j]? = H[ax j]?) (h : X10Pr dC dI G ax fa H) : X10Pr dC dI G ax fa H1 := by
  unfold X10Pr at h ⊢
  obtain ⟨zi0_13, q0⟩ := h
  exact ⟨zi0_13, q0.kept (hk 0 (by decide) (by decide) q0.lt)⟩
def X10P0 (dC : Nat → ClassId) (dI : Nat → Nat → Nat) (G : Nat → ClassId) (ax : Nat → Nat) (H : Heap) : Prop := ∃ (zi1_2 : Int32) (zi1_3 : Int32) (zi1_4 : Int32) (zi1_5 : Int32) (zi1_6 : Int32) (zi1_7 : Int32) (zi1_8 : Int32) (zi1_9 : Int32) (zi1_10 : Int32) (zi1_11 : Int32), (va_at (dC, dI) vwCl (ax 1, .inr (5, [.ref (ax 2), .ref (ax 4), .int zi1_2, .int zi1_3, .int zi1_4, .int zi1_5, .int zi1_6, .int zi1_7, .int zi1_8, .int zi1_9, .int zi1_10, .int zi1_11])) H)
theorem X10P0.kept {dC : Nat → ClassId} {dI : Nat → Nat → Nat} {G : Nat → ClassId} {ax : Nat → Nat} {H H1 : Heap} (hk : ∀ j : Nat, 1 ≤ j → j < 2 → ax j < H.size → H1[ax j]? = H[ax j]?) (h : X10P0 dC dI G ax H) : X10P0 dC dI G ax H1 := by
  unfold X10P0 at h ⊢
  obtain ⟨zi1_2, zi1_3, zi1_4, zi1_5, zi1_6, zi1_7, zi1_8, zi1_9, zi1_10, zi1_11, q1⟩ := h
  exact ⟨zi1_2, zi1_3, zi1_4, zi1_5, zi1_6, zi1_7, zi1_8, zi1_9, zi1_10, zi1_11, q1.kept (hk 1 (by decide) (by decide) q1.lt)⟩
def X10P0_0 (dC : Nat → ClassId) (dI : Nat → Nat → Nat) (G : Nat → ClassId) (ax : Nat → Nat) (T : Nat) (Y : Nat → Int32) (H : Heap) : Prop := (T ≤ 320) ∧ (va_at (dC, dI) vwCl (ax 2, .inr (7, [.int (nI T), .ref (ax 3)])) H) ∧ (va_at (dC, dI) vwCl (ax 3, .inl (G 0, 320, .inl Y)) H)
theorem X10P0_0.kept {dC : Nat → ClassId} {dI : Nat → Nat → Nat} {G : Nat → ClassId} {ax : Nat → Nat} {T : Nat} {Y : Nat → Int32} {H H1 : Heap} (hk : ∀ j : Nat, 2 ≤ j → j < 4 → ax j < H.size → H1[ax j]? = H[ax j]?) (h : X10P0_0 dC dI G ax T Y H) : X10P0_0 dC dI G ax T Y H1 := by
  unfold X10P0_0 at h ⊢
  obtain ⟨j0, q2, q3⟩ := h
  exact ⟨j0, q2.kept (hk 2 (by decide) (by decide) q2.lt), q3.kept (hk 3 (by decide) (by decide) q3.lt)⟩
def X10P0_1 (dC : Nat → ClassId) (dI : Nat → Nat → Nat) (G : Nat → ClassId) (ax : Nat → Nat) (H : Heap) : Prop := ∃ (zn4_0 : Nat) (zn4_1 : Nat) (zn4_2 : Nat) (zf5 : Nat → Int32) (zf6 : Nat → Int32) (zf7 : Nat → Int32) (zf8 : Nat → Int32) (zf9 : Nat → Int32) (zf10 : Nat → Int32), (zn4_0 ≤ 10) ∧ (zn4_1 ≤ 6) ∧ (1 ≤ zn4_2 ∧ zn4_2 ≤ 9) ∧ (va_at (dC, dI) vwCl (ax 4, .inr (9, [.int (nI zn4_0), .int (nI zn4_1), .int (nI zn4_2), .ref (ax 5), .ref (ax 6), .ref (ax 7), .ref (ax 8), .ref (ax 9), .ref (ax 10)])) H) ∧ (va_at (dC, dI) vwCl (ax 5, .inl (G 0, 10, .inl zf5)) H) ∧ (va_at (dC, dI) vwCl (ax 6, .inl (G 0, 10, .inl zf6)) H) ∧ (va_at (dC, dI) vwCl (ax 7, .inl (G 0, 10, .inl zf7)) H) ∧ (va_at (dC, dI) vwCl (ax 8, .inl (G 0, 6, .inl zf8)) H) ∧ (va_at (dC, dI) vwCl (ax 9, .inl (G 0, 6, .inl zf9)) H) ∧ (va_at (dC, dI) vwCl (ax 10, .inl (G 0, 6, .inl zf10)) H)
theorem X10P0_1.kept {dC : Nat → ClassId} {dI : Nat → Nat → Nat} {G : Nat → ClassId} {ax : Nat → Nat} {H H1 : Heap} (hk : ∀ j : Nat, 4 ≤ j → j < 11 → ax j < H.size → H1[ax j]? = H[ax j]?) (h : X10P0_1 dC dI G ax H) : X10P0_1 dC dI G ax H1 := by
  unfold X10P0_1 at h ⊢
  obtain ⟨zn4_0, zn4_1, zn4_2, zf5, zf6, zf7, zf8, zf9, zf10, j0, j1, j2, q4, q5, q6, q7, q8, q9, q10⟩ := h
  exact ⟨zn4_0, zn4_1, zn4_2, zf5, zf6, zf7, zf8, zf9, zf10, j0, j1, j2, q4.kept (hk 4 (by decide) (by decide) q4.lt), q5.kept (hk 5 (by decide) (by decide) q5.lt), q6.kept (hk 6 (by decide) (by decide) q6.lt), q7.kept (hk 7 (by decide) (by decide) q7.lt), q8.kept (hk 8 (by decide) (by decide) q8.lt), q9.kept (hk 9 (by decide) (by decide) q9.lt), q10.kept (hk 10 (by decide) (by decide) q10.lt)⟩
def X10P1 (dC : Nat → ClassId) (dI : Nat → Nat → Nat) (G : Nat → ClassId) (ax : Nat → Nat) (W0 : Nat → Int32) (N : Nat) (B : Nat) (H : Heap) : Prop := ∃ (zn11_2 : Nat) (zf12 : Nat → Int32) (zf13 : Nat → Int32) (zf14 : Nat → Int32) (zf15 : Nat → Int32) (zf16 : Nat → Int32) (zf17 : Nat → Int32), (CR N B (nI zn11_2) zf12 zf13 zf15 zf16 zf17 W0) ∧ (N ≤ 10) ∧ (B ≤ 6) ∧ (1 ≤ zn11_2 ∧ zn11_2 ≤ 9) ∧ (va_at (dC, dI) vwCl (ax 11, .inr (9, [.int (nI N), .int (nI B), .int (nI zn11_2), .ref (ax 12), .ref (ax 13), .ref (ax 14), .ref (ax 15), .ref (ax 16), .ref (ax 17)])) H) ∧ (va_at (dC, dI) vwCl (ax 12, .inl (G 0, 10, .inl zf12)) H) ∧ (va_at (dC, dI) vwCl (ax 13, .inl (G 0, 10, .inl zf13)) H) ∧ (va_at (dC, dI) vwCl (ax 14, .inl (G 0, 10, .inl zf14)) H) ∧ (va_at (dC, dI) vwCl (ax 15, .inl (G 0, 6, .inl zf15)) H) ∧ (va_at (dC, dI) vwCl (ax 16, .inl (G 0, 6, .inl zf16)) H) ∧ (va_at (dC, dI) vwCl (ax 17, .inl (G 0, 6, .inl zf17)) H)
theorem X10P1.kept {dC : Nat → ClassId} {dI : Nat → Nat → Nat} {G : Nat → ClassId} {ax : Nat → Nat} {W0 : Nat → Int32} {N : Nat} {B : Nat} {H H1 : Heap} (hk : ∀ j : Nat, 11 ≤ j → j < 18 → ax j < H.size → H1[ax j]? = H[ax j]?) (h : X10P1 dC dI G ax W0 N B H) : X10P1 dC dI G ax W0 N B H1 := by
  unfold X10P1 at h ⊢
  obtain ⟨zn11_2, zf12, zf13, zf14, zf15, zf16, zf17, j0, j1, j2, j3, q11, q12, q13, q14, q15, q16, q17⟩ := h
  exact ⟨zn11_2, zf12, zf13, zf14, zf15, zf16, zf17, j0, j1, j2, j3, q11.kept (hk 11 (by decide) (by decide) q11.lt), q12.kept (hk 12 (by decide) (by decide) q12.lt), q13.kept (hk 13 (by decide) (by decide) q13.lt), q14.kept (hk 14 (by decide) (by decide) q14.lt), q15.kept (hk 15 (by decide) (by decide) q15.lt), q16.kept (hk 16 (by decide) (by decide) q16.lt), q17.kept (hk 17 (by decide) (by decide) q17.lt)⟩
def X10P2 (dC : Nat → ClassId) (dI : Nat → Nat → Nat) (G : Nat → ClassId) (ax : Nat → Nat) (H : Heap) : Prop := ∃ (zn18_0 : Nat) (zn18_1 : Nat) (zn18_2 : Nat) (zf19 : Nat → Int32) (zf20 : Nat → Int32) (zf21 : Nat → Int32) (zf22 : Nat → Int32) (zf23 : Nat → Int32) (zf24 : Nat → Int32), (zn18_0 ≤ 10) ∧ (zn18_1 ≤ 6) ∧ (1 ≤ zn18_2 ∧ zn18_2 ≤ 9) ∧ (va_at (dC, dI) vwCl (ax 18, .inr (9, [.int (nI zn18_0), .int (nI zn18_1), .int (nI zn18_2), .ref (ax 19), .ref (ax 20), .ref (ax 21), .ref (ax 22), .ref (ax 23), .ref (ax 24)])) H) ∧ (va_at (dC, dI) vwCl (ax 19, .inl (G 0, 10, .inl zf19)) H) ∧ (va_at (dC, dI) vwCl (ax 20, .inl (G 0, 10, .inl zf20)) H) ∧ (va_at (dC, dI) vwCl (ax 21, .inl (G 0, 10, .inl zf21)) H) ∧ (va_at (dC, dI) vwCl (ax 22, .inl (G 0, 6, .inl zf22)) H) ∧ (va_at (dC, dI) vwCl (ax 23, .inl (G 0, 6, .inl zf23)) H) ∧ (va_at (dC, dI) vwCl (ax 24, .inl (G 0, 6, .inl zf24)) H)
theorem X10P2.kept {dC : Nat → ClassId} {dI : Nat → Nat → Nat} {G : Nat → ClassId} {ax : Nat → Nat} {H H1 : Heap} (hk : ∀ j : Nat, 18 ≤ j → j < 25 → ax j < H.size → H1[ax j]? = H[ax j]?) (h : X10P2 dC dI G ax H) : X10P2 dC dI G ax H1 := by
  unfold X10P2 at h ⊢
  obtain ⟨zn18_0, zn18_1, zn18_2, zf19, zf20, zf21, zf22, zf23, zf24, j0, j1, j2, q18, q19, q20, q21, q22, q23, q24⟩ := h
  exact ⟨zn18_0, zn18_1, zn18_2, zf19, zf20, zf21, zf22, zf23, zf24, j0, j1, j2, q18.kept (hk 18 (by decide) (by decide) q18.lt), q19.kept (hk 19 (by decide) (by decide) q19.lt), q20.kept (hk 20 (by decide) (by decide) q20.lt), q21.kept (hk 21 (by decide) (by decide) q21.lt), q22.kept (hk 22 (by decide) (by decide) q22.lt), q23.kept (hk 23 (by decide) (by decide) q23.lt), q24.kept (hk 24 (by decide) (by decide) q24.lt)⟩
def X10P3 (dC : Nat → ClassId) (dI : Nat → Nat → Nat) (G : Nat → ClassId) (ax : Nat → Nat) (H : Heap) : Prop := (va_at (dC, dI) vwCl (ax 25, .inl (G 3, 2, .inr (.inr (.inr (.inr (va_up (va_up (fun _ => none) 0 (some (ax 26))) 1 (some (ax 33)))))))) H)
theorem X10P3.kept {dC : Nat → ClassId} {dI : Nat → Nat → Nat} {G : Nat → ClassId} {ax : Nat → Nat} {H H1 : Heap} (hk : ∀ j : Nat, 25 ≤ j → j < 26 → ax j < H.size → H1[ax j]? = H[ax j]?) (h : X10P3 dC dI G ax H) : X10P3 dC dI G ax H1 := by
  unfold X10P3 at h ⊢
  have q25 := h
  exact q25.kept (hk 25 (by decide) (by decide) q25.lt)
def X10P3_0 (dC : Nat → ClassId) (dI : Nat → Nat → Nat) (G : Nat → ClassId) (ax : Nat → Nat) (W1 : Nat → Int32) (N1 : Nat) (B1 : Nat) (H : Heap) : Prop := ∃ (zn26_2 : Nat) (zf27 : Nat → Int32) (zf28 : Nat → Int32) (zf29 : Nat → Int32) (zf30 : Nat → Int32) (zf31 : Nat → Int32) (zf32 : Nat → Int32), (CR N1 B1 (nI zn26_2) zf27 zf28 zf30 zf31 zf32 W1) ∧ (N1 ≤ 10) ∧ (B1 ≤ 6) ∧ (1 ≤ zn26_2 ∧ zn26_2 ≤ 9) ∧ (va_at (dC, dI) vwCl (ax 26, .inr (9, [.int (nI N1), .int (nI B1), .int (nI zn26_2), .ref (ax 27), .ref (ax 28), .ref (ax 29), .ref (ax 30), .ref (ax 31), .ref (ax 32)])) H) ∧ (va_at (dC, dI) vwCl (ax 27, .inl (G 0, 10, .inl zf27)) H) ∧ (va_at (dC, dI) vwCl (ax 28, .inl (G 0, 10, .inl zf28)) H) ∧ (va_at (dC, dI) vwCl (ax 29, .inl (G 0, 10, .inl zf29)) H) ∧ (va_at (dC, dI) vwCl (ax 30, .inl (G 0, 6, .inl zf30)) H) ∧ (va_at (dC, dI) vwCl (ax 31, .inl (G 0, 6, .inl zf31)) H) ∧ (va_at (dC, dI) vwCl (ax 32, .inl (G 0, 6, .inl zf32)) H)
theorem X10P3_0.kept {dC : Nat → ClassId} {dI : Nat → Nat → Nat} {G : Nat → ClassId} {ax : Nat → Nat} {W1 : Nat → Int32} {N1 : Nat} {B1 : Nat} {H H1 : Heap} (hk : ∀ j : Nat, 26 ≤ j → j < 33 → ax j < H.size → H1[ax j]? = H[ax j]?) (h : X10P3_0 dC dI G ax W1 N1 B1 H) : X10P3_0 dC dI G ax W1 N1 B1 H1 := by
  unfold X10P3_0 at h ⊢
  obtain ⟨zn26_2, zf27, zf28, zf29, zf30, zf31, zf32, j0, j1, j2, j3, q26, q27, q28, q29, q30, q31, q32⟩ := h
  exact ⟨zn26_2, zf27, zf28, zf29, zf30, zf31, zf32, j0, j1, j2, j3, q26.kept (hk 26 (by decide) (by decide) q26.lt), q27.kept (hk 27 (by decide) (by decide) q27.lt), q28.kept (hk 28 (by decide) (by decide) q28.lt), q29.kept (hk 29 (by decide) (by decide) q29.lt), q30.kept (hk 30 (by decide) (by decide) q30.lt), q31.kept (hk 31 (by decide) (by decide) q31.lt), q32.kept (hk 32 (by decide) (by decide) q32.lt)⟩
def X10P3_1 (dC : Nat → ClassId) (dI : Nat → Nat → Nat) (G : Nat → ClassId) (ax : Nat → Nat) (W2 : Nat → Int32) (N2 : Nat) (B2 : Nat) (H : Heap) : Prop := ∃ (zn33_2 : Nat) (zf34 : Nat → Int32) (zf35 : Nat → Int32) (zf36 : Nat → Int32) (zf37 : Nat → Int32) (zf38 : Nat → Int32) (zf39 : Nat → Int32), (CR N2 B2 (nI zn33_2) zf34 zf35 zf37 zf38 zf39 W2) ∧ (N2 ≤ 10) ∧ (B2 ≤ 6) ∧ (1 ≤ zn33_2 ∧ zn33_2 ≤ 9) ∧ (va_at (dC, dI) vwCl (ax 33, .inr (9, [.int (nI N2), .int (nI B2), .int (nI zn33_2), .ref (ax 34), .ref (ax 35), .ref (ax 36), .ref (ax 37), .ref (ax 38), .ref (ax 39)])) H) ∧ (va_at (dC, dI) vwCl (ax 34, .inl (G 0, 10, .inl zf34)) H) ∧ (va_at (dC, dI) vwCl (ax 35, .inl (G 0, 10, .inl zf35)) H) ∧ (va_at (dC, dI) vwCl (ax 36, .inl (G 0, 10, .inl zf36)) H) ∧ (va_at (dC, dI) vwCl (ax 37, .inl (G 0, 6, .inl zf37)) H) ∧ (va_at (dC, dI) vwCl (ax 38, .inl (G 0, 6, .inl zf38)) H) ∧ (va_at (dC, dI) vwCl (ax 39, .inl (G 0, 6, .inl zf39)) H)
theorem X10P3_1.kept {dC : Nat → ClassId} {dI : Nat → Nat → Nat} {G : Nat → ClassId} {ax : Nat → Nat} {W2 : Nat → Int32} {N2 : Nat} {B2 : Nat} {H H1 : Heap} (hk : ∀ j : Nat, 33 ≤ j → j < 40 → ax j < H.size → H1[ax j]? = H[ax j]?) (h : X10P3_1 dC dI G ax W2 N2 B2 H) : X10P3_1 dC dI G ax W2 N2 B2 H1 := by
  unfold X10P3_1 at h ⊢
  obtain ⟨zn33_2, zf34, zf35, zf36, zf37, zf38, zf39, j0, j1, j2, j3, q33, q34, q35, q36, q37, q38, q39⟩ := h
  exact ⟨zn33_2, zf34, zf35, zf36, zf37, zf38, zf39, j0, j1, j2, j3, q33.kept (hk 33 (by decide) (by decide) q33.lt), q34.kept (hk 34 (by decide) (by decide) q34.lt), q35.kept (hk 35 (by decide) (by decide) q35.lt), q36.kept (hk 36 (by decide) (by decide) q36.lt), q37.kept (hk 37 (by decide) (by decide) q37.lt), q38.kept (hk 38 (by decide) (by decide) q38.lt), q39.kept (hk 39 (by decide) (by decide) q39.lt)⟩
def X10P4 (dC : Nat → ClassId) (dI : Nat → Nat → Nat) (G : Nat → ClassId) (ax : Nat → Nat) (K : Nat → Int32) (H : Heap) : Prop := (va_at (dC, dI) vwCl (ax 40, .inl (G 2, 2, .inl K)) H)
theorem X10P4.kept {dC : Nat → ClassId} {dI : Nat → Nat → Nat} {G : Nat → ClassId} {ax : Nat → Nat} {K : Nat → Int32} {H H1 : Heap} (hk : ∀ j : Nat, 40 ≤ j → j < 41 → ax j < H.size → H1[ax j]? = H[ax j]?) (h : X10P4 dC dI G ax K H) : X10P4 dC dI G ax K H1 := by
  unfold X10P4 at h ⊢
  have q40 := h
  exact q40.kept (hk 40 (by decide) (by decide) q40.lt)
def X10P5 (dC : Nat → ClassId) (dI : Nat → Nat → Nat) (G : Nat → ClassId) (ax : Nat → Nat) (H : Heap) : Prop := ∃ (zl41_0 : Int64) (zf42 : Nat → Int64) (zf43 : Nat → Int64), (va_at (dC, dI) vwCl (ax 41, .inr (4, [.long zl41_0, .ref (ax 42), .ref (ax 43)])) H) ∧ (va_at (dC, dI) vwCl (ax 42, .inl (G 1, 10, .inr (.inl zf42))) H) ∧ (va_at (dC, dI) vwCl (ax 43, .inl (G 1, 10, .inr (.inl zf43))) H)
theorem X10P5.kept {dC : Nat → ClassId} {dI : Nat → Nat → Nat} {G : Nat → ClassId} {ax : Nat → Nat} {H H1 : Heap} (hk : ∀ j : Nat, 41 ≤ j → j < 44 → ax j < H.size → H1[ax j]? = H[ax j]?) (h : X10P5 dC dI G ax H) : X10P5 dC dI G ax H1 := by
  unfold X10P5 at h ⊢
  obtain ⟨zl41_0, zf42, zf43, q41, q42, q43⟩ := h
  exact ⟨zl41_0, zf42, zf43, q41.kept (hk 41 (by decide) (by decide) q41.lt), q42.kept (hk 42 (by decide) (by decide) q42.lt), q43.kept (hk 43 (by decide) (by decide) q43.lt)⟩
def X10P6 (dC : Nat → ClassId) (dI : Nat → Nat → Nat) (G : Nat → ClassId) (ax : Nat → Nat) (H : Heap) : Prop := ∃ (zl44_0 : Int64) (zF47 : Nat → Nat → Int64) (zF58 : Nat → Nat → Int32), (va_at (dC, dI) vwCl (ax 44, .inr (0, [.long zl44_0, .ref (ax 45), .ref (ax 46)])) H) ∧ (va_at (dC, dI) vwCl (ax 45, .inl (G 5, 11, .inr (.inr (.inr (.inr (fun ir => if ir < 11 then some (ax (47 + ir)) else none)))))) H) ∧ (va_at (dC, dI) vwCl (ax 46, .inl (G 4, 10, .inr (.inr (.inr (.inr (fun ir => if ir < 10 then some (ax (58 + ir)) else none)))))) H) ∧ (va_P (dC, dI) vwCl (((List.range 11).map (fun iq => (ax (47 + iq), .inl (G 1, 70, .inr (.inl (zF47 iq)))))) : va_W) H) ∧ (va_P (dC, dI) vwCl (((List.range 10).map (fun iq => (ax (58 + iq), .inl (G 0, 70, .inl (zF58 iq))))) : va_W) H)
theorem X10P6.kept {dC : Nat → ClassId} {dI : Nat → Nat → Nat} {G : Nat → ClassId} {ax : Nat → Nat} {H H1 : Heap} (hk : ∀ j : Nat, 44 ≤ j → j < 68 → ax j < H.size → H1[ax j]? = H[ax j]?) (h : X10P6 dC dI G ax H) : X10P6 dC dI G ax H1 := by
  unfold X10P6 at h ⊢
  obtain ⟨zl44_0, zF47, zF58, q44, q45, q46, q47, q58⟩ := h
  exact ⟨zl44_0, zF47, zF58, q44.kept (hk 44 (by decide) (by decide) q44.lt), q45.kept (hk 45 (by decide) (by decide) q45.lt), q46.kept (hk 46 (by decide) (by decide) q46.lt), blk_kept q47 (fun i h1 h2 => hk (47 + i) (by omega) (by omega) h2), blk_kept q58 (fun i h1 h2 => hk (58 + i) (by omega) (by omega) h2)⟩
def X10P7 (dC : Nat → ClassId) (dI : Nat → Nat → Nat) (G : Nat → ClassId) (ax : Nat → Nat) (H : Heap) : Prop := ∃ (zi68_0 : Int32) (zi68_1 : Int32) (zi68_2 : Int32), (va_at (dC, dI) vwCl (ax 68, .inr (1, [.int zi68_0, .int zi68_1, .int zi68_2])) H)
theorem X10P7.kept {dC : Nat → ClassId} {dI : Nat → Nat → Nat} {G : Nat → ClassId} {ax : Nat → Nat} {H H1 : Heap} (hk : ∀ j : Nat, 68 ≤ j → j < 69 → ax j < H.size → H1[ax j]? = H[ax j]?) (h : X10P7 dC dI G ax H) : X10P7 dC dI G ax H1 := by
  unfold X10P7 at h ⊢
  obtain ⟨zi68_0, zi68_1, zi68_2, q68⟩ := h
  exact ⟨zi68_0, zi68_1, zi68_2, q68.kept (hk 68 (by decide) (by decide) q68.lt)⟩
def X10P8 (dC : Nat → ClassId) (dI : Nat → Nat → Nat) (G : Nat → ClassId) (ax : Nat → Nat) (S : Nat) (H : Heap) : Prop := ∃ (zf70 : Nat → Int32) (zf71 : Nat → Int32) (zf72 : Nat → Int32) (zf73 : Nat → Int32), (S ≤ 8) ∧ (va_at (dC, dI) vwCl (ax 69, .inr (2, [.int (nI S), .ref (ax 70), .ref (ax 71), .ref (ax 72), .ref (ax 73)])) H) ∧ (va_at (dC, dI) vwCl (ax 70, .inl (G 0, 8, .inl zf70)) H) ∧ (va_at (dC, dI) vwCl (ax 71, .inl (G 0, 8, .inl zf71)) H) ∧ (va_at (dC, dI) vwCl (ax 72, .inl (G 0, 8, .inl zf72)) H) ∧ (va_at (dC, dI) vwCl (ax 73, .inl (G 0, 8, .inl zf73)) H)
theorem X10P8.kept {dC : Nat → ClassId} {dI : Nat → Nat → Nat} {G : Nat → ClassId} {ax : Nat → Nat} {S : Nat} {H H1 : Heap} (hk : ∀ j : Nat, 69 ≤ j → j < 74 → ax j < H.size → H1[ax j]? = H[ax j]?) (h : X10P8 dC dI G ax S H) : X10P8 dC dI G ax S H1 := by
  unfold X10P8 at h ⊢
  obtain ⟨zf70, zf71, zf72, zf73, j0, q69, q70, q71, q72, q73⟩ := h
  exact ⟨zf70, zf71, zf72, zf73, j0, q69.kept (hk 69 (by decide) (by decide) q69.lt), q70.kept (hk 70 (by decide) (by decide) q70.lt), q71.kept (hk 71 (by decide) (by decide) q71.lt), q72.kept (hk 72 (by decide) (by decide) q72.lt), q73.kept (hk 73 (by decide) (by decide) q73.lt)⟩
def X10P9 (dC : Nat → ClassId) (dI : Nat → Nat → Nat) (G : Nat → ClassId) (ax : Nat → Nat) (M : Nat) (H : Heap) : Prop := ∃ (zf75 : Nat → Int32) (zf76 : Nat → Int32), (M ≤ 6) ∧ (va_at (dC, dI) vwCl (ax 74, .inr (3, [.int (nI M), .ref (ax 75), .ref (ax 76)])) H) ∧ (va_at (dC, dI) vwCl (ax 75, .inl (G 0, 6, .inl zf75)) H) ∧ (va_at (dC, dI) vwCl (ax 76, .inl (G 0, 6, .inl zf76)) H)
theorem X10P9.kept {dC : Nat → ClassId} {dI : Nat → Nat → Nat} {G : Nat → ClassId} {ax : Nat → Nat} {M : Nat} {H H1 : Heap} (hk : ∀ j : Nat, 74 ≤ j → j < 77 → ax j < H.size → H1[ax j]? = H[ax j]?) (h : X10P9 dC dI G ax M H) : X10P9 dC dI G ax M H1 := by
  unfold X10P9 at h ⊢
  obtain ⟨zf75, zf76, j0, q74, q75, q76⟩ := h
  exact ⟨zf75, zf76, j0, q74.kept (hk 74 (by decide) (by decide) q74.lt), q75.kept (hk 75 (by decide) (by decide) q75.lt), q76.kept (hk 76 (by decide) (by decide) q76.lt)⟩
def X10P10 (dC : Nat → ClassId) (dI : Nat → Nat → Nat) (G : Nat → ClassId) (ax : Nat → Nat) (H : Heap) : Prop := ∃ (zi77_0 : Int32) (zF80 : Nat → Nat → Int32) (zF91 : Nat → Nat → Int32), (va_at (dC, dI) vwCl (ax 77, .inr (8, [.int zi77_0, .ref (ax 78), .ref (ax 79)])) H) ∧ (va_at (dC, dI) vwCl (ax 78, .inl (G 4, 11, .inr (.inr (.inr (.inr (fun ir => if ir < 11 then some (ax (80 + ir)) else none)))))) H) ∧ (va_at (dC, dI) vwCl (ax 79, .inl (G 4, 11, .inr (.inr (.inr (.inr (fun ir => if ir < 11 then some (ax (91 + ir)) else none)))))) H) ∧ (va_P (dC, dI) vwCl (((List.range 11).map (fun iq => (ax (80 + iq), .inl (G 0, 10, .inl (zF80 iq))))) : va_W) H) ∧ (va_P (dC, dI) vwCl (((List.range 11).map (fun iq => (ax (91 + iq), .inl (G 0, 10, .inl (zF91 iq))))) : va_W) H)
theorem X10P10.kept {dC : Nat → ClassId} {dI : Nat → Nat → Nat} {G : Nat → ClassId} {ax : Nat → Nat} {H H1 : Heap} (hk : ∀ j : Nat, 77 ≤ j → j < 102 → ax j < H.size → H1[ax j]? = H[ax j]?) (h : X10P10 dC dI G ax H) : X10P10 dC dI G ax H1 := by
  unfold X10P10 at h ⊢
  obtain ⟨zi77_0, zF80, zF91, q77, q78, q79, q80, q91⟩ := h
  exact ⟨zi77_0, zF80, zF91, q77.kept (hk 77 (by decide) (by decide) q77.lt), q78.kept (hk 78 (by decide) (by decide) q78.lt), q79.kept (hk 79 (by decide) (by decide) q79.lt), blk_kept q80 (fun i h1 h2 => hk (80 + i) (by omega) (by omega) h2), blk_kept q91 (fun i h1 h2 => hk (91 + i) (by omega) (by omega) h2)⟩
def X10P11 (dC : Nat → ClassId) (dI : Nat → Nat → Nat) (G : Nat → ClassId) (ax : Nat → Nat) (E : Nat → Int32) (Z : Nat → Int32) (H : Heap) : Prop := ∃ (zi102_3 : Int32) (zi102_4 : Int32) (zf106 : Nat → Int32) (zf107 : Nat → Int32) (zF108 : Nat → Nat → Int32), (∀ q : Nat, q < 4 → E q = -1 ∨ (0 ≤ (E q).toInt ∧ (E q).toInt ≤ 2)) ∧ (∀ q : Nat, q < 4 → 0 ≤ (Z q).toInt ∧ (Z q).toInt ≤ 40) ∧ (va_at (dC, dI) vwCl (ax 102, .inr (6, [.ref (ax 103), .ref (ax 104), .ref (ax 105), .int zi102_3, .int zi102_4, .ref (ax 106), .ref (ax 107)])) H) ∧ (va_at (dC, dI) vwCl (ax 103, .inl (G 0, 4, .inl E)) H) ∧ (va_at (dC, dI) vwCl (ax 104, .inl (G 0, 4, .inl Z)) H) ∧ (va_at (dC, dI) vwCl (ax 105, .inl (G 4, 4, .inr (.inr (.inr (.inr (fun ir => if ir < 4 then some (ax (108 + ir)) else none)))))) H) ∧ (va_at (dC, dI) vwCl (ax 106, .inl (G 0, 20, .inl zf106)) H) ∧ (va_at (dC, dI) vwCl (ax 107, .inl (G 0, 20, .inl zf107)) H) ∧ (va_P (dC, dI) vwCl (((List.range 4).map (fun iq => (ax (108 + iq), .inl (G 0, 40, .inl (zF108 iq))))) : va_W) H)
theorem X10P11.kept {dC : Nat → ClassId} {dI : Nat → Nat → Nat} {G : Nat → ClassId} {ax : Nat → Nat} {E : Nat → Int32} {Z : Nat → Int32} {H H1 : Heap} (hk : ∀ j : Nat, 102 ≤ j → j < 112 → ax j < H.size → H1[ax j]? = H[ax j]?) (h : X10P11 dC dI G ax E Z H) : X10P11 dC dI G ax E Z H1 := by
  unfold X10P11 at h ⊢
  obtain ⟨zi102_3, zi102_4, zf106, zf107, zF108, j0, j1, q102, q103, q104, q105, q106, q107, q108⟩ := h
  exact ⟨zi102_3, zi102_4, zf106, zf107, zF108, j0, j1, q102.kept (hk 102 (by decide) (by decide) q102.lt), q103.kept (hk 103 (by decide) (by decide) q103.lt), q104.kept (hk 104 (by decide) (by decide) q104.lt), q105.kept (hk 105 (by decide) (by decide) q105.lt), q106.kept (hk 106 (by decide) (by decide) q106.lt), q107.kept (hk 107 (by decide) (by decide) q107.lt), blk_kept q108 (fun i h1 h2 => hk (108 + i) (by omega) (by omega) h2)⟩
def X10I (dC : Nat → ClassId) (dI : Nat → Nat → Nat) (G : Nat → ClassId) (ax : Nat → Nat) (T : Nat) (Y : Nat → Int32) (fa : Int32) (W0 : Nat → Int32) (W1 : Nat → Int32) (W2 : Nat → Int32) (N : Nat) (B : Nat) (N1 : Nat) (B1 : Nat) (N2 : Nat) (B2 : Nat) (K : Nat → Int32) (S : Nat) (M : Nat) (E : Nat → Int32) (Z : Nat → Int32) (H : Heap) : Prop := X10Pr dC dI G ax fa H ∧ X10P0 dC dI G ax H ∧ X10P0_0 dC dI G ax T Y H ∧ X10P0_1 dC dI G ax H ∧ X10P1 dC dI G ax W0 N B H ∧ X10P2 dC dI G ax H ∧ X10P3 dC dI G ax H ∧ X10P3_0 dC dI G ax W1 N1 B1 H ∧ X10P3_1 dC dI G ax W2 N2 B2 H ∧ X10P4 dC dI G ax K H ∧ X10P5 dC dI G ax H ∧ X10P6 dC dI G ax H ∧ X10P7 dC dI G ax H ∧ X10P8 dC dI G ax S H ∧ X10P9 dC dI G ax M H ∧ X10P10 dC dI G ax H ∧ X10P11 dC dI G ax E Z H ∧ XIN N B K N1 B1 N2 B2
theorem X10I.kept {dC : Nat → ClassId} {dI : Nat → Nat → Nat} {G : Nat → ClassId} {ax : Nat → Nat} {T : Nat} {Y : Nat → Int32} {fa : Int32} {W0 : Nat → Int32} {W1 : Nat → Int32} {W2 : Nat → Int32} {N : Nat} {B : Nat} {N1 : Nat} {B1 : Nat} {N2 : Nat} {B2 : Nat} {K : Nat → Int32} {S : Nat} {M : Nat} {E : Nat → Int32} {Z : Nat → Int32} {H H1 : Heap} (hk : ∀ j : Nat, 0 ≤ j → j < 112 → ax j < H.size → H1[ax j]? = H[ax j]?) (h : X10I dC dI G ax T Y fa W0 W1 W2 N B N1 B1 N2 B2 K S M E Z H) : X10I dC dI G ax T Y fa W0 W1 W2 N B N1 B1 N2 B2 K S M E Z H1 := by
  unfold X10I at h ⊢
  obtain ⟨p0, p1, p2, p3, p4, p5, p6, p7, p8, p9, p10, p11, p12, p13, p14, p15, p16, hX⟩ := h
  exact ⟨p0.kept (fun j h1 h2 => hk j (by omega) (by omega)), p1.kept (fun j h1 h2 => hk j (by omega) (by omega)), p2.kept (fun j h1 h2 => hk j (by omega) (by omega)), p3.kept (fun j h1 h2 => hk j (by omega) (by omega)), p4.kept (fun j h1 h2 => hk j (by omega) (by omega)), p5.kept (fun j h1 h2 => hk j (by omega) (by omega)), p6.kept (fun j h1 h2 => hk j (by omega) (by omega)), p7.kept (fun j h1 h2 => hk j (by omega) (by omega)), p8.kept (fun j h1 h2 => hk j (by omega) (by omega)), p9.kept (fun j h1 h2 => hk j (by omega) (by omega)), p10.kept (fun j h1 h2 => hk j (by omega) (by omega)), p11.kept (fun j h1 h2 => hk j (by omega) (by omega)), p12.kept (fun j h1 h2 => hk j (by omega) (by omega)), p13.kept (fun j h1 h2 => hk j (by omega) (by omega)), p14.kept (fun j h1 h2 => hk j (by omega) (by omega)), p15.kept (fun j h1 h2 => hk j (by omega) (by omega)), p16.kept (fun j h1 h2 => hk j (by omega) (by omega)), hX⟩
theorem X10I.recv {dC : Nat → ClassId} {dI : Nat → Nat → Nat} {G : Nat → ClassId} {ax : Nat → Nat} {T : Nat} {Y : Nat → Int32} {fa : Int32} {W0 : Nat → Int32} {W1 : Nat → Int32} {W2 : Nat → Int32} {N : Nat} {B : Nat} {N1 : Nat} {B1 : Nat} {N2 : Nat} {B2 : Nat} {K : Nat → Int32} {S : Nat} {M : Nat} {E : Nat → Int32} {Z : Nat → Int32} {H : Heap} {s : State} (hK : KK dC dI G s) (h : X10I dC dI G ax T Y fa W0 W1 W2 N B N1 B1 N2 B2 K S M E Z H) : ∃ cellB : Cell, H[ax 0]? = some cellB ∧ cellB.vm.isStatics = false ∧ s.vm.findClass RX10 = some cellB.cls := by
  unfold X10I X10Pr at h
  obtain ⟨⟨zi0_13, q⟩, -⟩ := h
  exact va_recv (ci := 10) (q0 := 0) hK.1 (vpc q va_nilP) rfl rfl
def X11Pr (dC : Nat → ClassId) (dI : Nat → Nat → Nat) (G : Nat → ClassId) (ax : Nat → Nat) (T : Nat) (fa : Int32) (N : Nat) (B : Nat) (S : Nat) (M : Nat) (H : Heap) : Prop := ∃ (zi112_4 : Int32) (zi112_5 : Int32) (zi112_6 : Int32) (zi112_7 : Int32) (zi112_8 : Int32) (zi112_9 : Int32) (zi112_13 : Int32) (zi112_14 : Int32) (zi112_15 : Int32) (zn112_16 : Nat) (zi112_17 : Int32) (zi112_18 : Int32) (zi112_34 : Int32), (N ≤ 10) ∧ (B ≤ 6) ∧ (T ≤ 320) ∧ (S ≤ 8) ∧ (M ≤ 6) ∧ (N = 0 ∨ 0 < B) ∧ (zn112_16 ≤ 320) ∧ (va_at (dC, dI) vwCl (ax 112, .inr (11, [.ref (ax 113), .int (nI N), .int (nI B), .ref (ax 114), .int zi112_4, .int zi112_5, .int zi112_6, .int zi112_7, .int zi112_8, .int zi112_9, .ref (ax 115), .int (nI T), .int fa, .int zi112_13, .int zi112_14, .int zi112_15, .int (nI zn112_16), .int zi112_17, .int zi112_18, .ref (ax 116), .ref (ax 117), .ref (ax 118), .ref (ax 119), .ref (ax 120), .ref (ax 121), .int (nI S), .ref (ax 122), .int (nI M), .ref (ax 123), .ref (ax 124), .ref (ax 125), .ref (ax 126), .ref (ax 127), .ref (ax 128), .int zi112_34])) H)
theorem X11Pr.kept {dC : Nat → ClassId} {dI : Nat → Nat → Nat} {G : Nat → ClassId} {ax : Nat → Nat} {T : Nat} {fa : Int32} {N : Nat} {B : Nat} {S : Nat} {M : Nat} {H H1 : Heap} (hk : ∀ j : Nat, 112 ≤ j → j < 113 → ax j < H.size → H1[ax j]? = H[ax j]?) (h : X11Pr dC dI G ax T fa N B S M H) : X11Pr dC dI G ax T fa N B S M H1 := by
  unfold X11Pr at h ⊢
  obtain ⟨zi112_4, zi112_5, zi112_6, zi112_7, zi112_8, zi112_9, zi112_13, zi112_14, zi112_15, zn112_16, zi112_17, zi112_18, zi112_34, j0, j1, j2, j3, j4, j5, j6, q112⟩ := h
  exact ⟨zi112_4, zi112_5, zi112_6, zi112_7, zi112_8, zi112_9, zi112_13, zi112_14, zi112_15, zn112_16, zi112_17, zi112_18, zi112_34, j0, j1, j2, j3, j4, j5, j6, q112.kept (hk 112 (by decide) (by decide) q112.lt)⟩
def X11P0 (dC : Nat → ClassId) (dI : Nat → Nat → Nat) (G : Nat → ClassId) (ax : Nat → Nat) (W0 : Nat → Int32) (W1 : Nat → Int32) (W2 : Nat → Int32) (N : Nat) (B : Nat) (N1 : Nat) (B1 : Nat) (N2 : Nat) (B2 : Nat) (H : Heap) : Prop := ∃ (zf113 : Nat → Int32), (N1 ≤ 10) ∧ (B1 ≤ 6) ∧ (N2 ≤ 10) ∧ (B2 ≤ 6) ∧ (SR 0 N B zf113 W0) ∧ (SR 49 N1 B1 zf113 W1) ∧ (SR 98 N2 B2 zf113 W2) ∧ (OKS zf113) ∧ (va_at (dC, dI) vwCl (ax 113, .inl (G 0, 196, .inl zf113)) H)
theorem X11P0.kept {dC : Nat → ClassId} {dI : Nat → Nat → Nat} {G : Nat → ClassId} {ax : Nat → Nat} {W0 : Nat → Int32} {W1 : Nat → Int32} {W2 : Nat → Int32} {N : Nat} {B : Nat} {N1 : Nat} {B1 : Nat} {N2 : Nat} {B2 : Nat} {H H1 : Heap} (hk : ∀ j : Nat, 113 ≤ j → j < 114 → ax j < H.size → H1[ax j]? = H[ax j]?) (h : X11P0 dC dI G ax W0 W1 W2 N B N1 B1 N2 B2 H) : X11P0 dC dI G ax W0 W1 W2 N B N1 B1 N2 B2 H1 := by
  unfold X11P0 at h ⊢
  obtain ⟨zf113, j0, j1, j2, j3, j4, j5, j6, j7, q113⟩ := h
  exact ⟨zf113, j0, j1, j2, j3, j4, j5, j6, j7, q113.kept (hk 113 (by decide) (by decide) q113.lt)⟩
def X11P3 (dC : Nat → ClassId) (dI : Nat → Nat → Nat) (G : Nat → ClassId) (ax : Nat → Nat) (H : Heap) : Prop := ∃ (zf114 : Nat → Int32), (va_at (dC, dI) vwCl (ax 114, .inl (G 0, 49, .inl zf114)) H)
theorem X11P3.kept {dC : Nat → ClassId} {dI : Nat → Nat → Nat} {G : Nat → ClassId} {ax : Nat → Nat} {H H1 : Heap} (hk : ∀ j : Nat, 114 ≤ j → j < 115 → ax j < H.size → H1[ax j]? = H[ax j]?) (h : X11P3 dC dI G ax H) : X11P3 dC dI G ax H1 := by
  unfold X11P3 at h ⊢
  obtain ⟨zf114, q114⟩ := h
  exact ⟨zf114, q114.kept (hk 114 (by decide) (by decide) q114.lt)⟩
def X11P10 (dC : Nat → ClassId) (dI : Nat → Nat → Nat) (G : Nat → ClassId) (ax : Nat → Nat) (Y : Nat → Int32) (H : Heap) : Prop := (∀ q : Nat, q < 320 → 0 ≤ (Y q).toInt) ∧ (va_at (dC, dI) vwCl (ax 115, .inl (G 0, 320, .inl Y)) H)
theorem X11P10.kept {dC : Nat → ClassId} {dI : Nat → Nat → Nat} {G : Nat → ClassId} {ax : Nat → Nat} {Y : Nat → Int32} {H H1 : Heap} (hk : ∀ j : Nat, 115 ≤ j → j < 116 → ax j < H.size → H1[ax j]? = H[ax j]?) (h : X11P10 dC dI G ax Y H) : X11P10 dC dI G ax Y H1 := by
  unfold X11P10 at h ⊢
  obtain ⟨j0, q115⟩ := h
  exact ⟨j0, q115.kept (hk 115 (by decide) (by decide) q115.lt)⟩
def X11P19 (dC : Nat → ClassId) (dI : Nat → Nat → Nat) (G : Nat → ClassId) (ax : Nat → Nat) (H : Heap) : Prop := ∃ (zf116 : Nat → Int32), (∀ q : Nat, q < 11 → zf116 q = nI (cutL.getD q 0)) ∧ (va_at (dC, dI) vwCl (ax 116, .inl (G 0, 11, .inl zf116)) H)
theorem X11P19.kept {dC : Nat → ClassId} {dI : Nat → Nat → Nat} {G : Nat → ClassId} {ax : Nat → Nat} {H H1 : Heap} (hk : ∀ j : Nat, 116 ≤ j → j < 117 → ax j < H.size → H1[ax j]? = H[ax j]?) (h : X11P19 dC dI G ax H) : X11P19 dC dI G ax H1 := by
  unfold X11P19 at h ⊢
  obtain ⟨zf116, j0, q116⟩ := h
  exact ⟨zf116, j0, q116.kept (hk 116 (by decide) (by decide) q116.lt)⟩
def X11P20 (dC : Nat → ClassId) (dI : Nat → Nat → Nat) (G : Nat → ClassId) (ax : Nat → Nat) (H : Heap) : Prop := ∃ (zf117 : Nat → Int32), (∀ q : Nat, q < 54 → zf117 q = letL.getD q 0) ∧ (va_at (dC, dI) vwCl (ax 117, .inl (G 0, 54, .inl zf117)) H)
theorem X11P20.kept {dC : Nat → ClassId} {dI : Nat → Nat → Nat} {G : Nat → ClassId} {ax : Nat → Nat} {H H1 : Heap} (hk : ∀ j : Nat, 117 ≤ j → j < 118 → ax j < H.size → H1[ax j]? = H[ax j]?) (h : X11P20 dC dI G ax H) : X11P20 dC dI G ax H1 := by
  unfold X11P20 at h ⊢
  obtain ⟨zf117, j0, q117⟩ := h
  exact ⟨zf117, j0, q117.kept (hk 117 (by decide) (by decide) q117.lt)⟩
def X11P21 (dC : Nat → ClassId) (dI : Nat → Nat → Nat) (G : Nat → ClassId) (ax : Nat → Nat) (H : Heap) : Prop := ∃ (zf118 : Nat → Int64), (va_at (dC, dI) vwCl (ax 118, .inl (G 1, 10, .inr (.inl zf118))) H)
theorem X11P21.kept {dC : Nat → ClassId} {dI : Nat → Nat → Nat} {G : Nat → ClassId} {ax : Nat → Nat} {H H1 : Heap} (hk : ∀ j : Nat, 118 ≤ j → j < 119 → ax j < H.size → H1[ax j]? = H[ax j]?) (h : X11P21 dC dI G ax H) : X11P21 dC dI G ax H1 := by
  unfold X11P21 at h ⊢
  obtain ⟨zf118, q118⟩ := h
  exact ⟨zf118, q118.kept (hk 118 (by decide) (by decide) q118.lt)⟩
def X11P22 (dC : Nat → ClassId) (dI : Nat → Nat → Nat) (G : Nat → ClassId) (ax : Nat → Nat) (H : Heap) : Prop := ∃ (zf119 : Nat → Int64), (va_at (dC, dI) vwCl (ax 119, .inl (G 1, 10, .inr (.inl zf119))) H)
theorem X11P22.kept {dC : Nat → ClassId} {dI : Nat → Nat → Nat} {G : Nat → ClassId} {ax : Nat → Nat} {H H1 : Heap} (hk : ∀ j : Nat, 119 ≤ j → j < 120 → ax j < H.size → H1[ax j]? = H[ax j]?) (h : X11P22 dC dI G ax H) : X11P22 dC dI G ax H1 := by
  unfold X11P22 at h ⊢
  obtain ⟨zf119, q119⟩ := h
  exact ⟨zf119, q119.kept (hk 119 (by decide) (by decide) q119.lt)⟩
def X11P23 (dC : Nat → ClassId) (dI : Nat → Nat → Nat) (G : Nat → ClassId) (ax : Nat → Nat) (H : Heap) : Prop := ∃ (zf120 : Nat → Int64), (va_at (dC, dI) vwCl (ax 120, .inl (G 1, 770, .inr (.inl zf120))) H)
theorem X11P23.kept {dC : Nat → ClassId} {dI : Nat → Nat → Nat} {G : Nat → ClassId} {ax : Nat → Nat} {H H1 : Heap} (hk : ∀ j : Nat, 120 ≤ j → j < 121 → ax j < H.size → H1[ax j]? = H[ax j]?) (h : X11P23 dC dI G ax H) : X11P23 dC dI G ax H1 := by
  unfold X11P23 at h ⊢
  obtain ⟨zf120, q120⟩ := h
  exact ⟨zf120, q120.kept (hk 120 (by decide) (by decide) q120.lt)⟩
def X11P24 (dC : Nat → ClassId) (dI : Nat → Nat → Nat) (G : Nat → ClassId) (ax : Nat → Nat) (H : Heap) : Prop := ∃ (zf121 : Nat → Int32), (OKL zf121) ∧ (va_at (dC, dI) vwCl (ax 121, .inl (G 0, 32, .inl zf121)) H)
theorem X11P24.kept {dC : Nat → ClassId} {dI : Nat → Nat → Nat} {G : Nat → ClassId} {ax : Nat → Nat} {H H1 : Heap} (hk : ∀ j : Nat, 121 ≤ j → j < 122 → ax j < H.size → H1[ax j]? = H[ax j]?) (h : X11P24 dC dI G ax H) : X11P24 dC dI G ax H1 := by
  unfold X11P24 at h ⊢
  obtain ⟨zf121, j0, q121⟩ := h
  exact ⟨zf121, j0, q121.kept (hk 121 (by decide) (by decide) q121.lt)⟩
def X11P26 (dC : Nat → ClassId) (dI : Nat → Nat → Nat) (G : Nat → ClassId) (ax : Nat → Nat) (H : Heap) : Prop := ∃ (zf122 : Nat → Int32), (va_at (dC, dI) vwCl (ax 122, .inl (G 0, 12, .inl zf122)) H)
theorem X11P26.kept {dC : Nat → ClassId} {dI : Nat → Nat → Nat} {G : Nat → ClassId} {ax : Nat → Nat} {H H1 : Heap} (hk : ∀ j : Nat, 122 ≤ j → j < 123 → ax j < H.size → H1[ax j]? = H[ax j]?) (h : X11P26 dC dI G ax H) : X11P26 dC dI G ax H1 := by
  unfold X11P26 at h ⊢
  obtain ⟨zf122, q122⟩ := h
  exact ⟨zf122, q122.kept (hk 122 (by decide) (by decide) q122.lt)⟩
def X11P28 (dC : Nat → ClassId) (dI : Nat → Nat → Nat) (G : Nat → ClassId) (ax : Nat → Nat) (H : Heap) : Prop := ∃ (zf123 : Nat → Int32), (va_at (dC, dI) vwCl (ax 123, .inl (G 0, 110, .inl zf123)) H)
theorem X11P28.kept {dC : Nat → ClassId} {dI : Nat → Nat → Nat} {G : Nat → ClassId} {ax : Nat → Nat} {H H1 : Heap} (hk : ∀ j : Nat, 123 ≤ j → j < 124 → ax j < H.size → H1[ax j]? = H[ax j]?) (h : X11P28 dC dI G ax H) : X11P28 dC dI G ax H1 := by
  unfold X11P28 at h ⊢
  obtain ⟨zf123, q123⟩ := h
  exact ⟨zf123, q123.kept (hk 123 (by decide) (by decide) q123.lt)⟩
def X11P29 (dC : Nat → ClassId) (dI : Nat → Nat → Nat) (G : Nat → ClassId) (ax : Nat → Nat) (H : Heap) : Prop := ∃ (zf124 : Nat → Int32), (va_at (dC, dI) vwCl (ax 124, .inl (G 0, 110, .inl zf124)) H)
theorem X11P29.kept {dC : Nat → ClassId} {dI : Nat → Nat → Nat} {G : Nat → ClassId} {ax : Nat → Nat} {H H1 : Heap} (hk : ∀ j : Nat, 124 ≤ j → j < 125 → ax j < H.size → H1[ax j]? = H[ax j]?) (h : X11P29 dC dI G ax H) : X11P29 dC dI G ax H1 := by
  unfold X11P29 at h ⊢
  obtain ⟨zf124, q124⟩ := h
  exact ⟨zf124, q124.kept (hk 124 (by decide) (by decide) q124.lt)⟩
def X11P30 (dC : Nat → ClassId) (dI : Nat → Nat → Nat) (G : Nat → ClassId) (ax : Nat → Nat) (K : Nat → Int32) (H : Heap) : Prop := (va_at (dC, dI) vwCl (ax 125, .inl (G 2, 2, .inl K)) H)
theorem X11P30.kept {dC : Nat → ClassId} {dI : Nat → Nat → Nat} {G : Nat → ClassId} {ax : Nat → Nat} {K : Nat → Int32} {H H1 : Heap} (hk : ∀ j : Nat, 125 ≤ j → j < 126 → ax j < H.size → H1[ax j]? = H[ax j]?) (h : X11P30 dC dI G ax K H) : X11P30 dC dI G ax K H1 := by
  unfold X11P30 at h ⊢
  have q125 := h
  exact q125.kept (hk 125 (by decide) (by decide) q125.lt)
def X11P31 (dC : Nat → ClassId) (dI : Nat → Nat → Nat) (G : Nat → ClassId) (ax : Nat → Nat) (E : Nat → Int32) (H : Heap) : Prop := (∀ q : Nat, q < 4 → E q = -1 ∨ (0 ≤ (E q).toInt ∧ (E q).toInt ≤ 2)) ∧ (va_at (dC, dI) vwCl (ax 126, .inl (G 0, 4, .inl (lmap E))) H)
theorem X11P31.kept {dC : Nat → ClassId} {dI : Nat → Nat → Nat} {G : Nat → ClassId} {ax : Nat → Nat} {E : Nat → Int32} {H H1 : Heap} (hk : ∀ j : Nat, 126 ≤ j → j < 127 → ax j < H.size → H1[ax j]? = H[ax j]?) (h : X11P31 dC dI G ax E H) : X11P31 dC dI G ax E H1 := by
  unfold X11P31 at h ⊢
  obtain ⟨j0, q126⟩ := h
  exact ⟨j0, q126.kept (hk 126 (by decide) (by decide) q126.lt)⟩
def X11P32 (dC : Nat → ClassId) (dI : Nat → Nat → Nat) (G : Nat → ClassId) (ax : Nat → Nat) (Z : Nat → Int32) (H : Heap) : Prop := (∀ q : Nat, q < 4 → 0 ≤ (Z q).toInt ∧ (Z q).toInt ≤ 40) ∧ (va_at (dC, dI) vwCl (ax 127, .inl (G 0, 4, .inl Z)) H)
theorem X11P32.kept {dC : Nat → ClassId} {dI : Nat → Nat → Nat} {G : Nat → ClassId} {ax : Nat → Nat} {Z : Nat → Int32} {H H1 : Heap} (hk : ∀ j : Nat, 127 ≤ j → j < 128 → ax j < H.size → H1[ax j]? = H[ax j]?) (h : X11P32 dC dI G ax Z H) : X11P32 dC dI G ax Z H1 := by
  unfold X11P32 at h ⊢
  obtain ⟨j0, q127⟩ := h
  exact ⟨j0, q127.kept (hk 127 (by decide) (by decide) q127.lt)⟩
def X11P33 (dC : Nat → ClassId) (dI : Nat → Nat → Nat) (G : Nat → ClassId) (ax : Nat → Nat) (H : Heap) : Prop := ∃ (zf128 : Nat → Int32), (va_at (dC, dI) vwCl (ax 128, .inl (G 0, 160, .inl zf128)) H)
theorem X11P33.kept {dC : Nat → ClassId} {dI : Nat → Nat → Nat} {G : Nat → ClassId} {ax : Nat → Nat} {H H1 : Heap} (hk : ∀ j : Nat, 128 ≤ j → j < 129 → ax j < H.size → H1[ax j]? = H[ax j]?) (h : X11P33 dC dI G ax H) : X11P33 dC dI G ax H1 := by
  unfold X11P33 at h ⊢
  obtain ⟨zf128, q128⟩ := h
  exact ⟨zf128, q128.kept (hk 128 (by decide) (by decide) q128.lt)⟩
def X11I (dC : Nat → ClassId) (dI : Nat → Nat → Nat) (G : Nat → ClassId) (ax : Nat → Nat) (T : Nat) (Y : Nat → Int32) (fa : Int32) (W0 : Nat → Int32) (W1 : Nat → Int32) (W2 : Nat → Int32) (N : Nat) (B : Nat) (N1 : Nat) (B1 : Nat) (N2 : Nat) (B2 : Nat) (K : Nat → Int32) (S : Nat) (M : Nat) (E : Nat → Int32) (Z : Nat → Int32) (H : Heap) : Prop := X11Pr dC dI G ax T fa N B S M H ∧ X11P0 dC dI G ax W0 W1 W2 N B N1 B1 N2 B2 H ∧ X11P3 dC dI G ax H ∧ X11P10 dC dI G ax Y H ∧ X11P19 dC dI G ax H ∧ X11P20 dC dI G ax H ∧ X11P21 dC dI G ax H ∧ X11P22 dC dI G ax H ∧ X11P23 dC dI G ax H ∧ X11P24 dC dI G ax H ∧ X11P26 dC dI G ax H ∧ X11P28 dC dI G ax H ∧ X11P29 dC dI G ax H ∧ X11P30 dC dI G ax K H ∧ X11P31 dC dI G ax E H ∧ X11P32 dC dI G ax Z H ∧ X11P33 dC dI G ax H ∧ XIN N B K N1 B1 N2 B2
theorem X11I.kept {dC : Nat → ClassId} {dI : Nat → Nat → Nat} {G : Nat → ClassId} {ax : Nat → Nat} {T : Nat} {Y : Nat → Int32} {fa : Int32} {W0 : Nat → Int32} {W1 : Nat → Int32} {W2 : Nat → Int32} {N : Nat} {B : Nat} {N1 : Nat} {B1 : Nat} {N2 : Nat} {B2 : Nat} {K : Nat → Int32} {S : Nat} {M : Nat} {E : Nat → Int32} {Z : Nat → Int32} {H H1 : Heap} (hk : ∀ j : Nat, 112 ≤ j → j < 129 → ax j < H.size → H1[ax j]? = H[ax j]?) (h : X11I dC dI G ax T Y fa W0 W1 W2 N B N1 B1 N2 B2 K S M E Z H) : X11I dC dI G ax T Y fa W0 W1 W2 N B N1 B1 N2 B2 K S M E Z H1 := by
  unfold X11I at h ⊢
  obtain ⟨p0, p1, p2, p3, p4, p5, p6, p7, p8, p9, p10, p11, p12, p13, p14, p15, p16, hX⟩ := h
  exact ⟨p0.kept (fun j h1 h2 => hk j (by omega) (by omega)), p1.kept (fun j h1 h2 => hk j (by omega) (by omega)), p2.kept (fun j h1 h2 => hk j (by omega) (by omega)), p3.kept (fun j h1 h2 => hk j (by omega) (by omega)), p4.kept (fun j h1 h2 => hk j (by omega) (by omega)), p5.kept (fun j h1 h2 => hk j (by omega) (by omega)), p6.kept (fun j h1 h2 => hk j (by omega) (by omega)), p7.kept (fun j h1 h2 => hk j (by omega) (by omega)), p8.kept (fun j h1 h2 => hk j (by omega) (by omega)), p9.kept (fun j h1 h2 => hk j (by omega) (by omega)), p10.kept (fun j h1 h2 => hk j (by omega) (by omega)), p11.kept (fun j h1 h2 => hk j (by omega) (by omega)), p12.kept (fun j h1 h2 => hk j (by omega) (by omega)), p13.kept (fun j h1 h2 => hk j (by omega) (by omega)), p14.kept (fun j h1 h2 => hk j (by omega) (by omega)), p15.kept (fun j h1 h2 => hk j (by omega) (by omega)), p16.kept (fun j h1 h2 => hk j (by omega) (by omega)), hX⟩
theorem X11I.recv {dC : Nat → ClassId} {dI : Nat → Nat → Nat} {G : Nat → ClassId} {ax : Nat → Nat} {T : Nat} {Y : Nat → Int32} {fa : Int32} {W0 : Nat → Int32} {W1 : Nat → Int32} {W2 : Nat → Int32} {N : Nat} {B : Nat} {N1 : Nat} {B1 : Nat} {N2 : Nat} {B2 : Nat} {K : Nat → Int32} {S : Nat} {M : Nat} {E : Nat → Int32} {Z : Nat → Int32} {H : Heap} {s : State} (hK : KK dC dI G s) (h : X11I dC dI G ax T Y fa W0 W1 W2 N B N1 B1 N2 B2 K S M E Z H) : ∃ cellB : Cell, H[ax 112]? = some cellB ∧ cellB.vm.isStatics = false ∧ s.vm.findClass RX11 = some cellB.cls := by
  unfold X11I X11Pr at h
  obtain ⟨⟨zi112_4, zi112_5, zi112_6, zi112_7, zi112_8, zi112_9, zi112_13, zi112_14, zi112_15, zn112_16, zi112_17, zi112_18, zi112_34, j0, j1, j2, j3, j4, j5, j6, q⟩, -⟩ := h
  exact va_recv (ci := 11) (q0 := 0) hK.1 (vpc q va_nilP) rfl rfl
theorem X11I.hb {dC : Nat → ClassId} {dI : Nat → Nat → Nat} {G : Nat → ClassId} {ax : Nat → Nat} {T : Nat} {Y : Nat → Int32} {fa : Int32} {W0 : Nat → Int32} {W1 : Nat → Int32} {W2 : Nat → Int32} {N : Nat} {B : Nat} {N1 : Nat} {B1 : Nat} {N2 : Nat} {B2 : Nat} {K : Nat → Int32} {S : Nat} {M : Nat} {E : Nat → Int32} {Z : Nat → Int32} {H : Heap} (h : X11I dC dI G ax T Y fa W0 W1 W2 N B N1 B1 N2 B2 K S M E Z H) : (N = 0 ∨ 0 < B) ∧ HBd N B (zbH W0) := by
  unfold X11I at h
  obtain ⟨p0, p1, p2, p3, p4, p5, p6, p7, p8, p9, p10, p11, p12, p13, p14, p15, p16, hX⟩ := h
  unfold X11Pr at p0
  obtain ⟨zi112_4, zi112_5, zi112_6, zi112_7, zi112_8, zi112_9, zi112_13, zi112_14, zi112_15, zn112_16, zi112_17, zi112_18, zi112_34, p0j0, p0j1, p0j2, p0j3, p0j4, p0j5, p0j6, q112⟩ := p0
  unfold X11P0 at p1
  obtain ⟨zf113, p1j0, p1j1, p1j2, p1j3, p1j4, p1j5, p1j6, p1j7, q113⟩ := p1
  exact ⟨by assumption, (zbH_b (by first | with_reducible assumption | assumption) (by first | with_reducible assumption | assumption) (by first | with_reducible assumption | assumption)).cg (zbH_r (by first | with_reducible assumption | assumption) (by first | with_reducible assumption | assumption) (by first | with_reducible assumption | assumption))⟩

set_option maxHeartbeats 1000000 in
set_option maxRecDepth 100000 in
theorem k_X10_feedE (l : Launch) (dC : Nat → ClassId) (dI : Nat → Nat → Nat) (G : Nat → ClassId) (sz : Nat) (ax : Nat → Nat) (hi : adInj 129 ax) (T : Nat) (Y : Nat → Int32) (fa : Int32) (W0 : Nat → Int32) (W1 : Nat → Int32) (W2 : Nat → Int32) (N : Nat) (B : Nat) (N1 : Nat) (B1 : Nat) (N2 : Nat) (B2 : Nat) (K : Nat → Int32) (S : Nat) (M : Nat) (E : Nat → Int32) (Z : Nat → Int32) (v : Int64) : Met l yX10_feed (Cond.code yX10_feed cX10_feed 3 (some .int) :: GT) ({ frames := 1, cells := 0, slots := 0, locals := 23 } : Room) (PcI [.ref (ax 0), .long v] dC dI G (X10I dC dI G ax T Y fa W0 W1 W2 N B N1 B1 N2 B2 K S M E Z) sz) (va_Qi (fun (r : Int32) (_ : Unit) => r = if T + 8 ≤ 320 then nI (T + 8) else -3) (fun _ t => X10I dC dI G ax (if T + 8 ≤ 320 then T + 8 else T) (if T + 8 ≤ 320 then fdC Y T v else Y) fa W0 W1 W2 N B N1 B1 N2 B2 K S M E Z t.heap) (adX 0 112 ax sz)) 0 0 (adX 0 112 ax sz) := by
  refine Met.pick (fun a st hp => ?_)
  obtain ⟨e0, hsz, hI, hK⟩ := hp
  subst hsz
  have hI0 := hI
  unfold X10I at hI
  obtain ⟨p0, p1, p2, p3, p4, p5, p6, p7, p8, p9, p10, p11, p12, p13, p14, p15, p16, hX⟩ := hI
  unfold X10Pr at p0
  obtain ⟨zi0_13, q0⟩ := p0
  unfold X10P0 at p1
  obtain ⟨zi1_2, zi1_3, zi1_4, zi1_5, zi1_6, zi1_7, zi1_8, zi1_9, zi1_10, zi1_11, q1⟩ := p1
  unfold X10P0_0 at p2
  obtain ⟨p2j0, q2, q3⟩ := p2
  refine ⟨_, _, _, c_X10_feedE l dC dI G _ (ax 0) (ax 1) (ax 11) (ax 18) (ax 25) (ax 40) (ax 41) (ax 44) (ax 68) (ax 69) (ax 74) (ax 77) (ax 102) (ax 2) (ax 4) (ax 3) T fa zi0_13 zi1_2 zi1_3 zi1_4 zi1_5 zi1_6 zi1_7 zi1_8 zi1_9 zi1_10 zi1_11 v Y (by first | with_reducible assumption | assumption), ⟨e0, rfl, (vpc q0 (vpc q1 (vpc q2 (vpc q3 va_nilP)))), hK, vD_ix hi [0, 1, 2, 3] (by rfl) (by decide) (by decide)⟩, ad_ix [0, 1, 2, 3] (by rfl) (by decide), fun o t hq => ?_⟩
  obtain ⟨⟨r, ⟨u1, u2⟩, ho, ⟨hr, hu⟩, hP1, -⟩, hF⟩ := hq
  have FR : ∀ lo hi' : Nat, hi' ≤ 129 → ([0, 1, 2, 3] : List Nat).all (fun x => decide (x < lo) || decide (hi' ≤ x)) = true → ∀ j : Nat, lo ≤ j → j < hi' → ax j < st.heap.size → t.heap[ax j]? = st.heap[ax j]? := fun lo hi' h1 h2 => fr_ix hi h1 hF.2 [0, 1, 2, 3] (by rfl) (by decide) h2
  have xT : (if T + 8 ≤ 320 then T + 8 else T) = u1 := Eq.symm (by first | exact hu | exact hu.1 | exact hu.2 | exact hu.1.1 | exact hu.1.2 | exact hu.2.1.trans (txt_cf (by first | with_reducible assumption | assumption)) | exact hu.2.1.trans (txt_rf (by first | with_reducible assumption | assumption)) | exact hu.1.1.trans lmap_step | omega)
  subst xT
  have y3 : (if T + 8 ≤ 320 then fdC Y T v else Y) = u2 := Eq.symm (by first | exact hu | exact hu.1 | exact hu.2 | exact hu.1.1 | exact hu.1.2 | exact hu.2.1.trans (txt_cf (by first | with_reducible assumption | assumption)) | exact hu.2.1.trans (txt_rf (by first | with_reducible assumption | assumption)) | exact hu.1.1.trans lmap_step | omega)
  subst y3
  have np0 : X10Pr dC dI G ax fa t.heap := ⟨zi0_13, hP1 0 _ rfl⟩
  have np1 : X10P0 dC dI G ax t.heap := ⟨zi1_2, zi1_3, zi1_4, zi1_5, zi1_6, zi1_7, zi1_8, zi1_9, zi1_10, zi1_11, hP1 1 _ rfl⟩
  have np2 : X10P0_0 dC dI G ax (if T + 8 ≤ 320 then T + 8 else T) (if T + 8 ≤ 320 then fdC Y T v else Y) t.heap := ⟨(by first | omega | exact hu | exact hu.1 | exact hu.1.1 | exact hu.1.2 | exact hu.2 | exact hu.1.1.1 | exact hu.1.1.2 | exact fd_nn (by first | with_reducible assumption | assumption) | (split at hu <;> omega) | (split <;> omega) | exact E_inv (by first | with_reducible assumption | assumption)), hP1 2 _ rfl, hP1 3 _ rfl⟩
  exact ⟨⟨r, (), ho, hr, ⟨np0, np1, np2, p3.kept (FR 4 11 (by decide) (by decide)), p4.kept (FR 11 18 (by decide) (by decide)), p5.kept (FR 18 25 (by decide) (by decide)), p6.kept (FR 25 26 (by decide) (by decide)), p7.kept (FR 26 33 (by decide) (by decide)), p8.kept (FR 33 40 (by decide) (by decide)), p9.kept (FR 40 41 (by decide) (by decide)), p10.kept (FR 41 44 (by decide) (by decide)), p11.kept (FR 44 68 (by decide) (by decide)), p12.kept (FR 68 69 (by decide) (by decide)), p13.kept (FR 69 74 (by decide) (by decide)), p14.kept (FR 74 77 (by decide) (by decide)), p15.kept (FR 77 102 (by decide) (by decide)), p16.kept (FR 102 112 (by decide) (by decide)), hX⟩⟩, hF.wide (ad_ix [0, 1, 2, 3] (by rfl) (by decide))⟩

set_option maxHeartbeats 1000000 in
set_option maxRecDepth 100000 in
theorem k_X10_end (l : Launch) (dC : Nat → ClassId) (dI : Nat → Nat → Nat) (G : Nat → ClassId) (sz : Nat) (ax : Nat → Nat) (hi : adInj 129 ax) (T : Nat) (Y : Nat → Int32) (fa : Int32) (W0 : Nat → Int32) (W1 : Nat → Int32) (W2 : Nat → Int32) (N : Nat) (B : Nat) (N1 : Nat) (B1 : Nat) (N2 : Nat) (B2 : Nat) (K : Nat → Int32) (S : Nat) (M : Nat) (E : Nat → Int32) (Z : Nat → Int32) (n : Int32) : Met l yX10_end (Cond.code yX10_end cX10_end 3 (some .int) :: GT) ({ frames := 0, cells := 0, slots := 0, locals := 0 } : Room) (PcI [.ref (ax 0), .int n] dC dI G (X10I dC dI G ax T Y fa W0 W1 W2 N B N1 B1 N2 B2 K S M E Z) sz) (va_Qi (fun (r : Int32) (_ : Unit) => r = if 0 ≤ n.toInt ∧ n.toInt ≤ ((T : Nat) : Int) then nI T else -1) (fun _ t => X10I dC dI G ax (if 0 ≤ n.toInt ∧ n.toInt ≤ ((T : Nat) : Int) then n.toNatClampNeg else T) Y fa W0 W1 W2 N B N1 B1 N2 B2 K S M E Z t.heap) (adX 0 112 ax sz)) 0 0 (adX 0 112 ax sz) := by
  refine Met.pick (fun a st hp => ?_)
  obtain ⟨e0, hsz, hI, hK⟩ := hp
  subst hsz
  have hI0 := hI
  unfold X10I at hI
  obtain ⟨p0, p1, p2, p3, p4, p5, p6, p7, p8, p9, p10, p11, p12, p13, p14, p15, p16, hX⟩ := hI
  unfold X10Pr at p0
  obtain ⟨zi0_13, q0⟩ := p0
  unfold X10P0 at p1
  obtain ⟨zi1_2, zi1_3, zi1_4, zi1_5, zi1_6, zi1_7, zi1_8, zi1_9, zi1_10, zi1_11, q1⟩ := p1
  unfold X10P0_0 at p2
  obtain ⟨p2j0, q2, q3⟩ := p2
  refine ⟨_, _, _, c_X10_end l dC dI G _ (ax 0) (ax 1) (ax 11) (ax 18) (ax 25) (ax 40) (ax 41) (ax 44) (ax 68) (ax 69) (ax 74) (ax 77) (ax 102) (ax 2) (ax 4) (ax 3) T fa zi0_13 n zi1_2 zi1_3 zi1_4 zi1_5 zi1_6 zi1_7 zi1_8 zi1_9 zi1_10 zi1_11 (by first | with_reducible assumption | assumption), ⟨e0, rfl, (vpc q0 (vpc q1 (vpc q2 va_nilP))), hK, vD_ix hi [0, 1, 2] (by rfl) (by decide) (by decide)⟩, ad_ix [0, 1, 2] (by rfl) (by decide), fun o t hq => ?_⟩
  obtain ⟨⟨r, u1, ho, ⟨hr, hu⟩, hP1, -⟩, hF⟩ := hq
  have FR : ∀ lo hi' : Nat, hi' ≤ 129 → ([0, 1, 2] : List Nat).all (fun x => decide (x < lo) || decide (hi' ≤ x)) = true → ∀ j : Nat, lo ≤ j → j < hi' → ax j < st.heap.size → t.heap[ax j]? = st.heap[ax j]? := fun lo hi' h1 h2 => fr_ix hi h1 hF.2 [0, 1, 2] (by rfl) (by decide) h2
  have xT : (if 0 ≤ n.toInt ∧ n.toInt ≤ ((T : Nat) : Int) then n.toNatClampNeg else T) = u1 := Eq.symm (by first | exact hu | exact hu.1 | exact hu.2 | exact hu.1.1 | exact hu.1.2 | exact hu.2.1.trans (txt_cf (by first | with_reducible assumption | assumption)) | exact hu.2.1.trans (txt_rf (by first | with_reducible assumption | assumption)) | exact hu.1.1.trans lmap_step | omega)
  subst xT
  have np0 : X10Pr dC dI G ax fa t.heap := ⟨zi0_13, hP1 0 _ rfl⟩
  have np1 : X10P0 dC dI G ax t.heap := ⟨zi1_2, zi1_3, zi1_4, zi1_5, zi1_6, zi1_7, zi1_8, zi1_9, zi1_10, zi1_11, hP1 1 _ rfl⟩
  have np2 : X10P0_0 dC dI G ax (if 0 ≤ n.toInt ∧ n.toInt ≤ ((T : Nat) : Int) then n.toNatClampNeg else T) Y t.heap := ⟨(by first | omega | exact hu | exact hu.1 | exact hu.1.1 | exact hu.1.2 | exact hu.2 | exact hu.1.1.1 | exact hu.1.1.2 | exact fd_nn (by first | with_reducible assumption | assumption) | (split at hu <;> omega) | (split <;> omega) | exact E_inv (by first | with_reducible assumption | assumption)), hP1 2 _ rfl, q3.kept (FR 3 4 (by decide) (by decide) 3 (by decide) (by decide) q3.lt)⟩
  exact ⟨⟨r, (), ho, hr, ⟨np0, np1, np2, p3.kept (FR 4 11 (by decide) (by decide)), p4.kept (FR 11 18 (by decide) (by decide)), p5.kept (FR 18 25 (by decide) (by decide)), p6.kept (FR 25 26 (by decide) (by decide)), p7.kept (FR 26 33 (by decide) (by decide)), p8.kept (FR 33 40 (by decide) (by decide)), p9.kept (FR 40 41 (by decide) (by decide)), p10.kept (FR 41 44 (by decide) (by decide)), p11.kept (FR 44 68 (by decide) (by decide)), p12.kept (FR 68 69 (by decide) (by decide)), p13.kept (FR 69 74 (by decide) (by decide)), p14.kept (FR 74 77 (by decide) (by decide)), p15.kept (FR 77 102 (by decide) (by decide)), p16.kept (FR 102 112 (by decide) (by decide)), hX⟩⟩, hF.wide (ad_ix [0, 1, 2] (by rfl) (by decide))⟩

set_option maxHeartbeats 1000000 in
set_option maxRecDepth 100000 in
theorem k_X10_textE (l : Launch) (dC : Nat → ClassId) (dI : Nat → Nat → Nat) (G : Nat → ClassId) (sz : Nat) (ax : Nat → Nat) (hi : adInj 129 ax) (T : Nat) (Y : Nat → Int32) (fa : Int32) (W0 : Nat → Int32) (W1 : Nat → Int32) (W2 : Nat → Int32) (N : Nat) (B : Nat) (N1 : Nat) (B1 : Nat) (N2 : Nat) (B2 : Nat) (K : Nat → Int32) (S : Nat) (M : Nat) (E : Nat → Int32) (Z : Nat → Int32) (adK adV : Nat → Nat) : Met l yX10_text (Cond.code yX10_text cX10_text 2 (some .int) :: GT) ({ frames := 10, cells := 0, slots := 0, locals := 213 } : Room) (PcIS [.ref (ax 0)] dC dI G (X10I dC dI G ax T Y fa W0 W1 W2 N B N1 B1 N2 B2 K S M E Z) adK adV (adX 0 112 ax sz) sz) (va_Qi (fun (r : Int32) (_ : Unit) => r = txA Y T) (fun _ t => X10I dC dI G ax 0 Y (txF Y T) (txW Y T W0) W1 W2 (txN Y T N) (txB Y T B) N1 B1 N2 B2 (txK Y T K) (txS Y T S) (txS Y T M) E Z t.heap) (adX 0 112 ax sz)) 0 0 (adX 0 112 ax sz) := by
  refine Met.pick (fun a st hp => ?_)
  obtain ⟨e0, hsz, hI, hK, hSS⟩ := hp
  subst hsz
  have hI0 := hI
  unfold X10I at hI
  obtain ⟨p0, p1, p2, p3, p4, p5, p6, p7, p8, p9, p10, p11, p12, p13, p14, p15, p16, hX⟩ := hI
  unfold X10Pr at p0
  obtain ⟨zi0_13, q0⟩ := p0
  unfold X10P0 at p1
  obtain ⟨zi1_2, zi1_3, zi1_4, zi1_5, zi1_6, zi1_7, zi1_8, zi1_9, zi1_10, zi1_11, q1⟩ := p1
  unfold X10P0_0 at p2
  obtain ⟨p2j0, q2, q3⟩ := p2
  unfold X10P0_1 at p3
  obtain ⟨zn4_0, zn4_1, zn4_2, zf5, zf6, zf7, zf8, zf9, zf10, p3j0, p3j1, p3j2, q4, q5, q6, q7, q8, q9, q10⟩ := p3
  unfold X10P1 at p4
  obtain ⟨zn11_2, zf12, zf13, zf14, zf15, zf16, zf17, p4j0, p4j1, p4j2, p4j3, q11, q12, q13, q14, q15, q16, q17⟩ := p4
  unfold X10P4 at p9
  have q40 := p9
  unfold X10P8 at p13
  obtain ⟨zf70, zf71, zf72, zf73, p13j0, q69, q70, q71, q72, q73⟩ := p13
  unfold X10P9 at p14
  obtain ⟨zf75, zf76, p14j0, q74, q75, q76⟩ := p14
  refine ⟨_, _, _, c_X10_textE l dC dI G _ (ax 0) (ax 1) (ax 11) (ax 18) (ax 25) (ax 40) (ax 41) (ax 44) (ax 68) (ax 69) (ax 74) (ax 77) (ax 102) (ax 2) (ax 4) (ax 3) T (ax 5) (ax 6) (ax 7) (ax 8) (ax 9) (ax 10) zn4_0 zn4_1 zn4_2 (ax 12) (ax 13) (ax 14) (ax 15) (ax 16) (ax 17) N B zn11_2 (ax 70) (ax 71) (ax 72) (ax 73) (ax 75) (ax 76) S M fa zi0_13 zi1_2 zi1_3 zi1_4 zi1_5 zi1_6 zi1_7 zi1_8 zi1_9 zi1_10 zi1_11 Y zf5 zf6 zf7 zf8 zf9 zf10 zf12 zf13 zf14 zf15 zf16 zf17 K adK adV (by first | with_reducible assumption | assumption) (by first | with_reducible assumption | assumption) (by first | with_reducible assumption | assumption) (by first | with_reducible assumption | assumption) (by first | with_reducible assumption | assumption) (by first | with_reducible assumption | assumption) (by first | with_reducible assumption | assumption) (by first | with_reducible assumption | assumption) (by first | with_reducible assumption | assumption), ⟨e0, rfl, (vpc q0 (vpc q1 (vpc q2 (vpc q3 (vpc q4 (vpc q5 (vpc q6 (vpc q7 (vpc q8 (vpc q9 (vpc q10 (vpc q11 (vpc q12 (vpc q13 (vpc q14 (vpc q15 (vpc q16 (vpc q17 (vpc q69 (vpc q74 (vpc q40 va_nilP))))))))))))))))))))), hK, vD_ix hi [0, 1, 2, 3, 4, 5, 6, 7, 8, 9, 10, 11, 12, 13, 14, 15, 16, 17, 69, 74, 40] (by rfl) (by decide) (by decide), hSS.narrow (ad_ix [0, 1, 2, 3, 4, 5, 6, 7, 8, 9, 10, 11, 12, 13, 14, 15, 16, 17, 69, 74, 40] (by rfl) (by decide))⟩, ad_ix [0, 1, 2, 3, 4, 5, 6, 7, 8, 9, 10, 11, 12, 13, 14, 15, 16, 17, 69, 74, 40] (by rfl) (by decide), fun o t hq => ?_⟩
  obtain ⟨⟨r, ⟨ou0, ou1, ou2, ou3, ou4, ou5, ou6, ou7, ou8, ou9, ou10, n0, n1, n2, v1, v2, v3, v4, v5, v6, w0, w1, w2, y1, y2, y3, y4, y5, y6, s0, s1, s2⟩, ho, ⟨hr, hu⟩, hP1, -⟩, hF⟩ := hq
  have FR : ∀ lo hi' : Nat, hi' ≤ 129 → ([0, 1, 2, 3, 4, 5, 6, 7, 8, 9, 10, 11, 12, 13, 14, 15, 16, 17, 69, 74, 40] : List Nat).all (fun x => decide (x < lo) || decide (hi' ≤ x)) = true → ∀ j : Nat, lo ≤ j → j < hi' → ax j < st.heap.size → t.heap[ax j]? = st.heap[ax j]? := fun lo hi' h1 h2 => fr_ix hi h1 hF.2 [0, 1, 2, 3, 4, 5, 6, 7, 8, 9, 10, 11, 12, 13, 14, 15, 16, 17, 69, 74, 40] (by rfl) (by decide) h2
  have xfa : (txF Y T) = ou10 := Eq.symm (hu.2.1.trans (txt_cf (by first | with_reducible assumption | assumption)))
  subst xfa
  have xN : (txN Y T N) = w0 := Eq.symm (hu.2.2.1.trans (txt_cN (by first | with_reducible assumption | assumption)))
  subst xN
  have xB : (txB Y T B) = w1 := Eq.symm (hu.2.2.2.1.trans (txt_cB (by first | with_reducible assumption | assumption)))
  subst xB
  have xS : (txS Y T S) = s0 := Eq.symm (hu.2.2.2.2.2.2.2.2.2.2.2.1.trans (txt_c1 (by first | with_reducible assumption | assumption)))
  subst xS
  have xM : (txS Y T M) = s1 := Eq.symm (hu.2.2.2.2.2.2.2.2.2.2.2.2.1.trans (txt_c1 (by first | with_reducible assumption | assumption)))
  subst xM
  have y40 : (txK Y T K) = s2 := Eq.symm (hu.2.2.2.2.2.2.2.2.2.2.2.2.2.trans (txt_c1 (by first | with_reducible assumption | assumption)))
  subst y40
  have hT := hu.2
  replace hu := hu.1
  have np0 : X10Pr dC dI G ax (txF Y T) t.heap := ⟨zi0_13, hP1 0 _ rfl⟩
  have np1 : X10P0 dC dI G ax t.heap := ⟨ou0, ou1, ou2, ou3, ou4, ou5, ou6, ou7, ou8, ou9, hP1 1 _ rfl⟩
  have np2 : X10P0_0 dC dI G ax 0 Y t.heap := ⟨(by first | omega | exact hu | exact hu.1 | exact hu.1.1 | exact hu.1.2 | exact hu.2 | exact hu.1.1.1 | exact hu.1.1.2 | exact fd_nn (by first | with_reducible assumption | assumption) | (split at hu <;> omega) | (split <;> omega) | exact E_inv (by first | with_reducible assumption | assumption)), hP1 2 _ rfl, hP1 3 _ rfl⟩
  have np3 : X10P0_1 dC dI G ax t.heap := ⟨n0, n1, n2, v1, v2, v3, v4, v5, v6, (by first | omega | exact hu | exact hu.1 | exact hu.1.1 | exact hu.1.2 | exact hu.2 | exact hu.1.1.1 | exact hu.1.1.2 | exact fd_nn (by first | with_reducible assumption | assumption) | (split at hu <;> omega) | (split <;> omega) | exact E_inv (by first | with_reducible assumption | assumption)), (by first | omega | exact hu | exact hu.1 | exact hu.1.1 | exact hu.1.2 | exact hu.2 | exact hu.1.1.1 | exact hu.1.1.2 | exact fd_nn (by first | with_reducible assumption | assumption) | (split at hu <;> omega) | (split <;> omega) | exact E_inv (by first | with_reducible assumption | assumption)), (by first | omega | exact hu | exact hu.1 | exact hu.1.1 | exact hu.1.2 | exact hu.2 | exact hu.1.1.1 | exact hu.1.1.2 | exact fd_nn (by first | with_reducible assumption | assumption) | (split at hu <;> omega) | (split <;> omega) | exact E_inv (by first | with_reducible assumption | assumption)), hP1 4 _ rfl, hP1 5 _ rfl, hP1 6 _ rfl, hP1 7 _ rfl, hP1 8 _ rfl, hP1 9 _ rfl, hP1 10 _ rfl⟩
  have np4 : X10P1 dC dI G ax (txW Y T W0) (txN Y T N) (txB Y T B) t.heap := ⟨w2, y1, y2, y3, y4, y5, y6, (by rw [hT.2.2.2.1, hT.2.2.2.2.1, hT.2.2.2.2.2.1, hT.2.2.2.2.2.2.2.1, hT.2.2.2.2.2.2.2.2.1, hT.2.2.2.2.2.2.2.2.2.1]; exact CR.text (by first | with_reducible assumption | assumption) (by first | with_reducible assumption | assumption)), (by first | omega | exact hu | exact hu.1 | exact hu.1.1 | exact hu.1.2 | exact hu.2 | exact hu.1.1.1 | exact hu.1.1.2 | exact fd_nn (by first | with_reducible assumption | assumption) | (split at hu <;> omega) | (split <;> omega) | exact E_inv (by first | with_reducible assumption | assumption)), (by first | omega | exact hu | exact hu.1 | exact hu.1.1 | exact hu.1.2 | exact hu.2 | exact hu.1.1.1 | exact hu.1.1.2 | exact fd_nn (by first | with_reducible assumption | assumption) | (split at hu <;> omega) | (split <;> omega) | exact E_inv (by first | with_reducible assumption | assumption)), (by first | omega | exact hu | exact hu.1 | exact hu.1.1 | exact hu.1.2 | exact hu.2 | exact hu.1.1.1 | exact hu.1.1.2 | exact fd_nn (by first | with_reducible assumption | assumption) | (split at hu <;> omega) | (split <;> omega) | exact E_inv (by first | with_reducible assumption | assumption)), hP1 11 _ rfl, hP1 12 _ rfl, hP1 13 _ rfl, hP1 14 _ rfl, hP1 15 _ rfl, hP1 16 _ rfl, hP1 17 _ rfl⟩
  have np9 : X10P4 dC dI G ax (txK Y T K) t.heap := hP1 20 _ rfl
  have np13 : X10P8 dC dI G ax (txS Y T S) t.heap := ⟨zf70, zf71, zf72, zf73, (by first | omega | exact hu | exact hu.1 | exact hu.1.1 | exact hu.1.2 | exact hu.2 | exact hu.1.1.1 | exact hu.1.1.2 | exact fd_nn (by first | with_reducible assumption | assumption) | (split at hu <;> omega) | (split <;> omega) | exact E_inv (by first | with_reducible assumption | assumption)), hP1 18 _ rfl, q70.kept (FR 70 71 (by decide) (by decide) 70 (by decide) (by decide) q70.lt), q71.kept (FR 71 72 (by decide) (by decide) 71 (by decide) (by decide) q71.lt), q72.kept (FR 72 73 (by decide) (by decide) 72 (by decide) (by decide) q72.lt), q73.kept (FR 73 74 (by decide) (by decide) 73 (by decide) (by decide) q73.lt)⟩
  have np14 : X10P9 dC dI G ax (txS Y T M) t.heap := ⟨zf75, zf76, (by first | omega | exact hu | exact hu.1 | exact hu.1.1 | exact hu.1.2 | exact hu.2 | exact hu.1.1.1 | exact hu.1.1.2 | exact fd_nn (by first | with_reducible assumption | assumption) | (split at hu <;> omega) | (split <;> omega) | exact E_inv (by first | with_reducible assumption | assumption)), hP1 19 _ rfl, q75.kept (FR 75 76 (by decide) (by decide) 75 (by decide) (by decide) q75.lt), q76.kept (FR 76 77 (by decide) (by decide) 76 (by decide) (by decide) q76.lt)⟩
  exact ⟨⟨r, (), ho, hr.trans (txt_ca (by first | with_reducible assumption | assumption)), ⟨np0, np1, np2, np3, np4, p5.kept (FR 18 25 (by decide) (by decide)), p6.kept (FR 25 26 (by decide) (by decide)), p7.kept (FR 26 33 (by decide) (by decide)), p8.kept (FR 33 40 (by decide) (by decide)), np9, p10.kept (FR 41 44 (by decide) (by decide)), p11.kept (FR 44 68 (by decide) (by decide)), p12.kept (FR 68 69 (by decide) (by decide)), np13, np14, p15.kept (FR 77 102 (by decide) (by decide)), p16.kept (FR 102 112 (by decide) (by decide)), tx_X hX⟩⟩, hF.wide (ad_ix [0, 1, 2, 3, 4, 5, 6, 7, 8, 9, 10, 11, 12, 13, 14, 15, 16, 17, 69, 74, 40] (by rfl) (by decide))⟩

set_option maxHeartbeats 1000000 in
set_option maxRecDepth 100000 in
theorem k_X10_faultE (l : Launch) (dC : Nat → ClassId) (dI : Nat → Nat → Nat) (G : Nat → ClassId) (sz : Nat) (ax : Nat → Nat) (hi : adInj 129 ax) (T : Nat) (Y : Nat → Int32) (fa : Int32) (W0 : Nat → Int32) (W1 : Nat → Int32) (W2 : Nat → Int32) (N : Nat) (B : Nat) (N1 : Nat) (B1 : Nat) (N2 : Nat) (B2 : Nat) (K : Nat → Int32) (S : Nat) (M : Nat) (E : Nat → Int32) (Z : Nat → Int32) : Met l yX10_fault (Cond.code yX10_fault cX10_fault 1 (some .int) :: GT) ({ frames := 0, cells := 0, slots := 0, locals := 0 } : Room) (PcI [.ref (ax 0)] dC dI G (X10I dC dI G ax T Y fa W0 W1 W2 N B N1 B1 N2 B2 K S M E Z) sz) (va_Qi (fun (r : Int32) (_ : Unit) => r = fa) (fun _ t => X10I dC dI G ax T Y fa W0 W1 W2 N B N1 B1 N2 B2 K S M E Z t.heap) (adX 0 112 ax sz)) 0 0 (adX 0 112 ax sz) := by
  refine Met.pick (fun a st hp => ?_)
  obtain ⟨e0, hsz, hI, hK⟩ := hp
  subst hsz
  have hI0 := hI
  unfold X10I at hI
  obtain ⟨p0, p1, p2, p3, p4, p5, p6, p7, p8, p9, p10, p11, p12, p13, p14, p15, p16, hX⟩ := hI
  unfold X10Pr at p0
  obtain ⟨zi0_13, q0⟩ := p0
  refine ⟨_, _, _, c_X10_faultE l dC dI G _ (ax 0) (ax 1) (ax 11) (ax 18) (ax 25) (ax 40) (ax 41) (ax 44) (ax 68) (ax 69) (ax 74) (ax 77) (ax 102) fa zi0_13 , ⟨e0, rfl, (vpc q0 va_nilP), hK⟩, fun q h => Or.inr h, fun o t hq => ?_⟩
  obtain ⟨⟨r, u, ho, ⟨hr, hu⟩, -⟩, hF⟩ := hq
  exact ⟨⟨r, (), ho, hr, hI0.kept (fun j _ _ h => hF.2 _ h (Nat.not_le.mpr h))⟩, hF.wide (fun q h => Or.inr h)⟩

set_option maxHeartbeats 1000000 in
set_option maxRecDepth 100000 in
theorem k_X10_ruleE (l : Launch) (dC : Nat → ClassId) (dI : Nat → Nat → Nat) (G : Nat → ClassId) (sz : Nat) (ax : Nat → Nat) (hi : adInj 129 ax) (T : Nat) (Y : Nat → Int32) (fa : Int32) (W0 : Nat → Int32) (W1 : Nat → Int32) (W2 : Nat → Int32) (N : Nat) (B : Nat) (N1 : Nat) (B1 : Nat) (N2 : Nat) (B2 : Nat) (K : Nat → Int32) (S : Nat) (M : Nat) (E : Nat → Int32) (Z : Nat → Int32) (what : Int32) : Met l yX10_rule (Cond.code yX10_rule cX10_rule 2 (some .int) :: GT) ({ frames := 0, cells := 0, slots := 0, locals := 0 } : Room) (PcI [.ref (ax 0), .int what] dC dI G (X10I dC dI G ax T Y fa W0 W1 W2 N B N1 B1 N2 B2 K S M E Z) sz) (va_Qi (fun (r : Int32) (_ : Unit) => r = ruF what N B (W0 48 + 5)) (fun _ t => X10I dC dI G ax T Y fa W0 W1 W2 N B N1 B1 N2 B2 K S M E Z t.heap) (adX 0 112 ax sz)) 0 0 (adX 0 112 ax sz) := by
  refine Met.pick (fun a st hp => ?_)
  obtain ⟨e0, hsz, hI, hK⟩ := hp
  subst hsz
  have hI0 := hI
  unfold X10I at hI
  obtain ⟨p0, p1, p2, p3, p4, p5, p6, p7, p8, p9, p10, p11, p12, p13, p14, p15, p16, hX⟩ := hI
  unfold X10Pr at p0
  obtain ⟨zi0_13, q0⟩ := p0
  unfold X10P1 at p4
  obtain ⟨zn11_2, zf12, zf13, zf14, zf15, zf16, zf17, p4j0, p4j1, p4j2, p4j3, q11, q12, q13, q14, q15, q16, q17⟩ := p4
  refine ⟨_, _, _, c_X10_ruleE l dC dI G _ (ax 0) (ax 1) (ax 11) (ax 18) (ax 25) (ax 40) (ax 41) (ax 44) (ax 68) (ax 69) (ax 74) (ax 77) (ax 102) (ax 12) (ax 13) (ax 14) (ax 15) (ax 16) (ax 17) N B zn11_2 fa zi0_13 what (by first | with_reducible assumption | assumption) (by first | with_reducible assumption | assumption) (by first | with_reducible assumption | assumption), ⟨e0, rfl, (vpc q0 (vpc q11 va_nilP)), hK⟩, fun q h => Or.inr h, fun o t hq => ?_⟩
  obtain ⟨⟨r, u, ho, ⟨hr, hu⟩, -⟩, hF⟩ := hq
  exact ⟨⟨r, (), ho, hr.trans (ru_c (by first | with_reducible assumption | assumption)), hI0.kept (fun j _ _ h => hF.2 _ h (Nat.not_le.mpr h))⟩, hF.wide (fun q h => Or.inr h)⟩

set_option maxHeartbeats 1000000 in
set_option maxRecDepth 100000 in
theorem k_X10_stretch (l : Launch) (dC : Nat → ClassId) (dI : Nat → Nat → Nat) (G : Nat → ClassId) (sz : Nat) (ax : Nat → Nat) (hi : adInj 129 ax) (T : Nat) (Y : Nat → Int32) (fa : Int32) (W0 : Nat → Int32) (W1 : Nat → Int32) (W2 : Nat → Int32) (N : Nat) (B : Nat) (N1 : Nat) (B1 : Nat) (N2 : Nat) (B2 : Nat) (K : Nat → Int32) (S : Nat) (M : Nat) (E : Nat → Int32) (Z : Nat → Int32) (i : Int32) (what : Int32) : Met l yX10_stretch (Cond.code yX10_stretch cX10_stretch 3 (some .int) :: GT) ({ frames := 1, cells := 0, slots := 0, locals := 21 } : Room) (PcI [.ref (ax 0), .int i, .int what] dC dI G (X10I dC dI G ax T Y fa W0 W1 W2 N B N1 B1 N2 B2 K S M E Z) sz) (va_Qi (fun (r : Int32) (_ : Unit) => True) (fun _ t => X10I dC dI G ax T Y fa W0 W1 W2 N B N1 B1 N2 B2 K S M E Z t.heap) (adX 0 112 ax sz)) 0 0 (adX 0 112 ax sz) := by
  refine Met.pick (fun a st hp => ?_)
  obtain ⟨e0, hsz, hI, hK⟩ := hp
  subst hsz
  have hI0 := hI
  unfold X10I at hI
  obtain ⟨p0, p1, p2, p3, p4, p5, p6, p7, p8, p9, p10, p11, p12, p13, p14, p15, p16, hX⟩ := hI
  unfold X10Pr at p0
  obtain ⟨zi0_13, q0⟩ := p0
  unfold X10P1 at p4
  obtain ⟨zn11_2, zf12, zf13, zf14, zf15, zf16, zf17, p4j0, p4j1, p4j2, p4j3, q11, q12, q13, q14, q15, q16, q17⟩ := p4
  refine ⟨_, _, _, c_X10_stretch l dC dI G _ (ax 0) (ax 1) (ax 11) (ax 18) (ax 25) (ax 40) (ax 41) (ax 44) (ax 68) (ax 69) (ax 74) (ax 77) (ax 102) (ax 12) (ax 13) (ax 14) (ax 15) (ax 16) (ax 17) N B zn11_2 fa zi0_13 i what zf12 zf13 zf14 (by first | with_reducible assumption | assumption) (by first | with_reducible assumption | assumption) (by first | with_reducible assumption | assumption), ⟨e0, rfl, (vpc q0 (vpc q11 (vpc q12 (vpc q13 (vpc q14 va_nilP))))), hK⟩, fun q h => Or.inr h, fun o t hq => ?_⟩
  obtain ⟨⟨r, u, ho, ⟨hr, hu⟩, -⟩, hF⟩ := hq
  exact ⟨⟨r, (), ho, trivial, hI0.kept (fun j _ _ h => hF.2 _ h (Nat.not_le.mpr h))⟩, hF.wide (fun q h => Or.inr h)⟩

set_option maxHeartbeats 1000000 in
set_option maxRecDepth 100000 in
theorem k_X10_bearerE (l : Launch) (dC : Nat → ClassId) (dI : Nat → Nat → Nat) (G : Nat → ClassId) (sz : Nat) (ax : Nat → Nat) (hi : adInj 129 ax) (T : Nat) (Y : Nat → Int32) (fa : Int32) (W0 : Nat → Int32) (W1 : Nat → Int32) (W2 : Nat → Int32) (N : Nat) (B : Nat) (N1 : Nat) (B1 : Nat) (N2 : Nat) (B2 : Nat) (K : Nat → Int32) (S : Nat) (M : Nat) (E : Nat → Int32) (Z : Nat → Int32) (i : Int32) (what : Int32) : Met l yX10_bearer (Cond.code yX10_bearer cX10_bearer 3 (some .int) :: GT) ({ frames := 1, cells := 0, slots := 0, locals := 21 } : Room) (PcI [.ref (ax 0), .int i, .int what] dC dI G (X10I dC dI G ax T Y fa W0 W1 W2 N B N1 B1 N2 B2 K S M E Z) sz) (va_Qi (fun (r : Int32) (_ : Unit) => r = if (0 ≤ i.toInt ∧ i.toInt < ((B : Nat) : Int)) then beF what (W0 (20 + 3 * i.toNatClampNeg)) (W0 (20 + 3 * i.toNatClampNeg + 1)) (W0 (20 + 3 * i.toNatClampNeg + 2)) else -1) (fun _ t => X10I dC dI G ax T Y fa W0 W1 W2 N B N1 B1 N2 B2 K S M E Z t.heap) (adX 0 112 ax sz)) 0 0 (adX 0 112 ax sz) := by
  refine Met.pick (fun a st hp => ?_)
  obtain ⟨e0, hsz, hI, hK⟩ := hp
  subst hsz
  have hI0 := hI
  unfold X10I at hI
  obtain ⟨p0, p1, p2, p3, p4, p5, p6, p7, p8, p9, p10, p11, p12, p13, p14, p15, p16, hX⟩ := hI
  unfold X10Pr at p0
  obtain ⟨zi0_13, q0⟩ := p0
  unfold X10P1 at p4
  obtain ⟨zn11_2, zf12, zf13, zf14, zf15, zf16, zf17, p4j0, p4j1, p4j2, p4j3, q11, q12, q13, q14, q15, q16, q17⟩ := p4
  refine ⟨_, _, _, c_X10_bearerE l dC dI G _ (ax 0) (ax 1) (ax 11) (ax 18) (ax 25) (ax 40) (ax 41) (ax 44) (ax 68) (ax 69) (ax 74) (ax 77) (ax 102) (ax 12) (ax 13) (ax 14) (ax 15) (ax 16) (ax 17) N B zn11_2 fa zi0_13 i what zf15 zf16 zf17 (by first | with_reducible assumption | assumption) (by first | with_reducible assumption | assumption) (by first | with_reducible assumption | assumption), ⟨e0, rfl, (vpc q0 (vpc q11 (vpc q15 (vpc q16 (vpc q17 va_nilP))))), hK⟩, fun q h => Or.inr h, fun o t hq => ?_⟩
  obtain ⟨⟨r, u, ho, ⟨hr, hu⟩, -⟩, hF⟩ := hq
  exact ⟨⟨r, (), ho, hr.trans (be_c (by first | with_reducible assumption | assumption)), hI0.kept (fun j _ _ h => hF.2 _ h (Nat.not_le.mpr h))⟩, hF.wide (fun q h => Or.inr h)⟩

set_option maxHeartbeats 1000000 in
set_option maxRecDepth 100000 in
theorem k_X10_startE (l : Launch) (dC : Nat → ClassId) (dI : Nat → Nat → Nat) (G : Nat → ClassId) (sz : Nat) (ax : Nat → Nat) (hi : adInj 129 ax) (T : Nat) (Y : Nat → Int32) (fa : Int32) (W0 : Nat → Int32) (W1 : Nat → Int32) (W2 : Nat → Int32) (N : Nat) (B : Nat) (N1 : Nat) (B1 : Nat) (N2 : Nat) (B2 : Nat) (K : Nat → Int32) (S : Nat) (M : Nat) (E : Nat → Int32) (Z : Nat → Int32) (v : Int32) : Met l yX10_start (Cond.code yX10_start cX10_start 3 (some .int) :: GT) ({ frames := 0, cells := 0, slots := 0, locals := 0 } : Room) (PcI [.ref (ax 0), .int v] dC dI G (X10I dC dI G ax T Y fa W0 W1 W2 N B N1 B1 N2 B2 K S M E Z) sz) (va_Qi (fun (r : Int32) (_ : Unit) => r = if (1 ≤ v.toInt ∧ v.toInt ≤ 9) then W0 48 + 5 else -1) (fun _ t => X10I dC dI G ax T Y fa (if (1 ≤ v.toInt ∧ v.toInt ≤ 9) then upd W0 48 (v - 5) else W0) W1 W2 N B N1 B1 N2 B2 K S M E Z t.heap) (adX 0 112 ax sz)) 0 0 (adX 0 112 ax sz) := by
  refine Met.pick (fun a st hp => ?_)
  obtain ⟨e0, hsz, hI, hK⟩ := hp
  subst hsz
  have hI0 := hI
  unfold X10I at hI
  obtain ⟨p0, p1, p2, p3, p4, p5, p6, p7, p8, p9, p10, p11, p12, p13, p14, p15, p16, hX⟩ := hI
  unfold X10Pr at p0
  obtain ⟨zi0_13, q0⟩ := p0
  unfold X10P1 at p4
  obtain ⟨zn11_2, zf12, zf13, zf14, zf15, zf16, zf17, p4j0, p4j1, p4j2, p4j3, q11, q12, q13, q14, q15, q16, q17⟩ := p4
  refine ⟨_, _, _, c_X10_startE l dC dI G _ (ax 0) (ax 1) (ax 11) (ax 18) (ax 25) (ax 40) (ax 41) (ax 44) (ax 68) (ax 69) (ax 74) (ax 77) (ax 102) (ax 12) (ax 13) (ax 14) (ax 15) (ax 16) (ax 17) N B zn11_2 fa zi0_13 v (by first | with_reducible assumption | assumption) (by first | with_reducible assumption | assumption) (by first | with_reducible assumption | assumption), ⟨e0, rfl, (vpc q0 (vpc q11 va_nilP)), hK, vD_ix hi [0, 11] (by rfl) (by decide) (by decide)⟩, ad_ix [0, 11] (by rfl) (by decide), fun o t hq => ?_⟩
  obtain ⟨⟨r, u0, ho, ⟨hr, hu⟩, hP1, -⟩, hF⟩ := hq
  have FR : ∀ lo hi' : Nat, hi' ≤ 129 → ([0, 11] : List Nat).all (fun x => decide (x < lo) || decide (hi' ≤ x)) = true → ∀ j : Nat, lo ≤ j → j < hi' → ax j < st.heap.size → t.heap[ax j]? = st.heap[ax j]? := fun lo hi' h1 h2 => fr_ix hi h1 hF.2 [0, 11] (by rfl) (by decide) h2
  have np0 : X10Pr dC dI G ax fa t.heap := ⟨zi0_13, hP1 0 _ rfl⟩
  have np4 : X10P1 dC dI G ax (if (1 ≤ v.toInt ∧ v.toInt ≤ 9) then upd W0 48 (v - 5) else W0) N B t.heap := ⟨u0, zf12, zf13, zf14, zf15, zf16, zf17, (by rw [hu.2]; exact CR.setD (by first | with_reducible assumption | assumption) (by first | with_reducible assumption | assumption) (by first | with_reducible assumption | assumption)), p4j1, p4j2, (by first | omega | exact hu | exact hu.1 | exact hu.1.1 | exact hu.1.2 | exact hu.2 | exact hu.1.1.1 | exact hu.1.1.2 | exact fd_nn (by first | with_reducible assumption | assumption) | (split at hu <;> omega) | (split <;> omega) | exact E_inv (by first | with_reducible assumption | assumption)), hP1 1 _ rfl, q12.kept (FR 12 13 (by decide) (by decide) 12 (by decide) (by decide) q12.lt), q13.kept (FR 13 14 (by decide) (by decide) 13 (by decide) (by decide) q13.lt), q14.kept (FR 14 15 (by decide) (by decide) 14 (by decide) (by decide) q14.lt), q15.kept (FR 15 16 (by decide) (by decide) 15 (by decide) (by decide) q15.lt), q16.kept (FR 16 17 (by decide) (by decide) 16 (by decide) (by decide) q16.lt), q17.kept (FR 17 18 (by decide) (by decide) 17 (by decide) (by decide) q17.lt)⟩
  exact ⟨⟨r, (), ho, hr.trans (sd_c (by first | with_reducible assumption | assumption)), ⟨np0, p1.kept (FR 1 2 (by decide) (by decide)), p2.kept (FR 2 4 (by decide) (by decide)), p3.kept (FR 4 11 (by decide) (by decide)), np4, p5.kept (FR 18 25 (by decide) (by decide)), p6.kept (FR 25 26 (by decide) (by decide)), p7.kept (FR 26 33 (by decide) (by decide)), p8.kept (FR 33 40 (by decide) (by decide)), p9.kept (FR 40 41 (by decide) (by decide)), p10.kept (FR 41 44 (by decide) (by decide)), p11.kept (FR 44 68 (by decide) (by decide)), p12.kept (FR 68 69 (by decide) (by decide)), p13.kept (FR 69 74 (by decide) (by decide)), p14.kept (FR 74 77 (by decide) (by decide)), p15.kept (FR 77 102 (by decide) (by decide)), p16.kept (FR 102 112 (by decide) (by decide)), hX⟩⟩, hF.wide (ad_ix [0, 11] (by rfl) (by decide))⟩

set_option maxHeartbeats 1000000 in
set_option maxRecDepth 100000 in
theorem k_X10_noiseE (l : Launch) (dC : Nat → ClassId) (dI : Nat → Nat → Nat) (G : Nat → ClassId) (sz : Nat) (ax : Nat → Nat) (hi : adInj 129 ax) (T : Nat) (Y : Nat → Int32) (fa : Int32) (W0 : Nat → Int32) (W1 : Nat → Int32) (W2 : Nat → Int32) (N : Nat) (B : Nat) (N1 : Nat) (B1 : Nat) (N2 : Nat) (B2 : Nat) (K : Nat → Int32) (S : Nat) (M : Nat) (E : Nat → Int32) (Z : Nat → Int32) (i : Int32) (v : Int32) : Met l yX10_noise (Cond.code yX10_noise cX10_noise 3 (some .int) :: GT) ({ frames := 1, cells := 0, slots := 0, locals := 23 } : Room) (PcI [.ref (ax 0), .int i, .int v] dC dI G (X10I dC dI G ax T Y fa W0 W1 W2 N B N1 B1 N2 B2 K S M E Z) sz) (va_Qi (fun (r : Int32) (_ : Unit) => r = if ((0 ≤ i.toInt ∧ i.toInt < ((N : Nat) : Int)) ∧ 0 ≤ v.toInt ∧ v.toInt ≤ 9) then W0 (2 * i.toNatClampNeg) else -1) (fun _ t => X10I dC dI G ax T Y fa (if ((0 ≤ i.toInt ∧ i.toInt < ((N : Nat) : Int)) ∧ 0 ≤ v.toInt ∧ v.toInt ≤ 9) then upd W0 (2 * i.toNatClampNeg) v else W0) W1 W2 N B N1 B1 N2 B2 K S M E Z t.heap) (adX 0 112 ax sz)) 0 0 (adX 0 112 ax sz) := by
  refine Met.pick (fun a st hp => ?_)
  obtain ⟨e0, hsz, hI, hK⟩ := hp
  subst hsz
  have hI0 := hI
  unfold X10I at hI
  obtain ⟨p0, p1, p2, p3, p4, p5, p6, p7, p8, p9, p10, p11, p12, p13, p14, p15, p16, hX⟩ := hI
  unfold X10Pr at p0
  obtain ⟨zi0_13, q0⟩ := p0
  unfold X10P1 at p4
  obtain ⟨zn11_2, zf12, zf13, zf14, zf15, zf16, zf17, p4j0, p4j1, p4j2, p4j3, q11, q12, q13, q14, q15, q16, q17⟩ := p4
  refine ⟨_, _, _, c_X10_noiseE l dC dI G _ (ax 0) (ax 1) (ax 11) (ax 18) (ax 25) (ax 40) (ax 41) (ax 44) (ax 68) (ax 69) (ax 74) (ax 77) (ax 102) (ax 12) (ax 13) (ax 14) (ax 15) (ax 16) (ax 17) N B zn11_2 fa zi0_13 i v zf12 (by first | with_reducible assumption | assumption) (by first | with_reducible assumption | assumption) (by first | with_reducible assumption | assumption), ⟨e0, rfl, (vpc q0 (vpc q11 (vpc q12 va_nilP))), hK, vD_ix hi [0, 11, 12] (by rfl) (by decide) (by decide)⟩, ad_ix [0, 11, 12] (by rfl) (by decide), fun o t hq => ?_⟩
  obtain ⟨⟨r, u0, ho, ⟨hr, hu⟩, hP1, -⟩, hF⟩ := hq
  have FR : ∀ lo hi' : Nat, hi' ≤ 129 → ([0, 11, 12] : List Nat).all (fun x => decide (x < lo) || decide (hi' ≤ x)) = true → ∀ j : Nat, lo ≤ j → j < hi' → ax j < st.heap.size → t.heap[ax j]? = st.heap[ax j]? := fun lo hi' h1 h2 => fr_ix hi h1 hF.2 [0, 11, 12] (by rfl) (by decide) h2
  have np0 : X10Pr dC dI G ax fa t.heap := ⟨zi0_13, hP1 0 _ rfl⟩
  have np4 : X10P1 dC dI G ax (if ((0 ≤ i.toInt ∧ i.toInt < ((N : Nat) : Int)) ∧ 0 ≤ v.toInt ∧ v.toInt ≤ 9) then upd W0 (2 * i.toNatClampNeg) v else W0) N B t.heap := ⟨zn11_2, u0, zf13, zf14, zf15, zf16, zf17, (by rw [hu]; exact CR.set1 (by first | with_reducible assumption | assumption) (by first | with_reducible assumption | assumption)), p4j1, p4j2, p4j3, hP1 1 _ rfl, hP1 2 _ rfl, q13.kept (FR 13 14 (by decide) (by decide) 13 (by decide) (by decide) q13.lt), q14.kept (FR 14 15 (by decide) (by decide) 14 (by decide) (by decide) q14.lt), q15.kept (FR 15 16 (by decide) (by decide) 15 (by decide) (by decide) q15.lt), q16.kept (FR 16 17 (by decide) (by decide) 16 (by decide) (by decide) q16.lt), q17.kept (FR 17 18 (by decide) (by decide) 17 (by decide) (by decide) q17.lt)⟩
  exact ⟨⟨r, (), ho, hr.trans (n1_c (by first | with_reducible assumption | assumption)), ⟨np0, p1.kept (FR 1 2 (by decide) (by decide)), p2.kept (FR 2 4 (by decide) (by decide)), p3.kept (FR 4 11 (by decide) (by decide)), np4, p5.kept (FR 18 25 (by decide) (by decide)), p6.kept (FR 25 26 (by decide) (by decide)), p7.kept (FR 26 33 (by decide) (by decide)), p8.kept (FR 33 40 (by decide) (by decide)), p9.kept (FR 40 41 (by decide) (by decide)), p10.kept (FR 41 44 (by decide) (by decide)), p11.kept (FR 44 68 (by decide) (by decide)), p12.kept (FR 68 69 (by decide) (by decide)), p13.kept (FR 69 74 (by decide) (by decide)), p14.kept (FR 74 77 (by decide) (by decide)), p15.kept (FR 77 102 (by decide) (by decide)), p16.kept (FR 102 112 (by decide) (by decide)), hX⟩⟩, hF.wide (ad_ix [0, 11, 12] (by rfl) (by decide))⟩

set_option maxHeartbeats 1000000 in
set_option maxRecDepth 100000 in
theorem k_X10_coldE (l : Launch) (dC : Nat → ClassId) (dI : Nat → Nat → Nat) (G : Nat → ClassId) (sz : Nat) (ax : Nat → Nat) (hi : adInj 129 ax) (T : Nat) (Y : Nat → Int32) (fa : Int32) (W0 : Nat → Int32) (W1 : Nat → Int32) (W2 : Nat → Int32) (N : Nat) (B : Nat) (N1 : Nat) (B1 : Nat) (N2 : Nat) (B2 : Nat) (K : Nat → Int32) (S : Nat) (M : Nat) (E : Nat → Int32) (Z : Nat → Int32) (i : Int32) (v : Int32) : Met l yX10_cold (Cond.code yX10_cold cX10_cold 3 (some .int) :: GT) ({ frames := 1, cells := 0, slots := 0, locals := 23 } : Room) (PcI [.ref (ax 0), .int i, .int v] dC dI G (X10I dC dI G ax T Y fa W0 W1 W2 N B N1 B1 N2 B2 K S M E Z) sz) (va_Qi (fun (r : Int32) (_ : Unit) => r = if ((0 ≤ i.toInt ∧ i.toInt < ((N : Nat) : Int)) ∧ 0 ≤ v.toInt ∧ v.toInt ≤ 9) then W0 (2 * i.toNatClampNeg + 1) else -1) (fun _ t => X10I dC dI G ax T Y fa (if ((0 ≤ i.toInt ∧ i.toInt < ((N : Nat) : Int)) ∧ 0 ≤ v.toInt ∧ v.toInt ≤ 9) then upd W0 (2 * i.toNatClampNeg + 1) v else W0) W1 W2 N B N1 B1 N2 B2 K S M E Z t.heap) (adX 0 112 ax sz)) 0 0 (adX 0 112 ax sz) := by
  refine Met.pick (fun a st hp => ?_)
  obtain ⟨e0, hsz, hI, hK⟩ := hp
  subst hsz
  have hI0 := hI
  unfold X10I at hI
  obtain ⟨p0, p1, p2, p3, p4, p5, p6, p7, p8, p9, p10, p11, p12, p13, p14, p15, p16, hX⟩ := hI
  unfold X10Pr at p0
  obtain ⟨zi0_13, q0⟩ := p0
  unfold X10P1 at p4
  obtain ⟨zn11_2, zf12, zf13, zf14, zf15, zf16, zf17, p4j0, p4j1, p4j2, p4j3, q11, q12, q13, q14, q15, q16, q17⟩ := p4
  refine ⟨_, _, _, c_X10_coldE l dC dI G _ (ax 0) (ax 1) (ax 11) (ax 18) (ax 25) (ax 40) (ax 41) (ax 44) (ax 68) (ax 69) (ax 74) (ax 77) (ax 102) (ax 12) (ax 13) (ax 14) (ax 15) (ax 16) (ax 17) N B zn11_2 fa zi0_13 i v zf13 (by first | with_reducible assumption | assumption) (by first | with_reducible assumption | assumption) (by first | with_reducible assumption | assumption), ⟨e0, rfl, (vpc q0 (vpc q11 (vpc q13 va_nilP))), hK, vD_ix hi [0, 11, 13] (by rfl) (by decide) (by decide)⟩, ad_ix [0, 11, 13] (by rfl) (by decide), fun o t hq => ?_⟩
  obtain ⟨⟨r, u0, ho, ⟨hr, hu⟩, hP1, -⟩, hF⟩ := hq
  have FR : ∀ lo hi' : Nat, hi' ≤ 129 → ([0, 11, 13] : List Nat).all (fun x => decide (x < lo) || decide (hi' ≤ x)) = true → ∀ j : Nat, lo ≤ j → j < hi' → ax j < st.heap.size → t.heap[ax j]? = st.heap[ax j]? := fun lo hi' h1 h2 => fr_ix hi h1 hF.2 [0, 11, 13] (by rfl) (by decide) h2
  have np0 : X10Pr dC dI G ax fa t.heap := ⟨zi0_13, hP1 0 _ rfl⟩
  have np4 : X10P1 dC dI G ax (if ((0 ≤ i.toInt ∧ i.toInt < ((N : Nat) : Int)) ∧ 0 ≤ v.toInt ∧ v.toInt ≤ 9) then upd W0 (2 * i.toNatClampNeg + 1) v else W0) N B t.heap := ⟨zn11_2, zf12, u0, zf14, zf15, zf16, zf17, (by rw [hu]; exact CR.set2 (by first | with_reducible assumption | assumption) (by first | with_reducible assumption | assumption)), p4j1, p4j2, p4j3, hP1 1 _ rfl, q12.kept (FR 12 13 (by decide) (by decide) 12 (by decide) (by decide) q12.lt), hP1 2 _ rfl, q14.kept (FR 14 15 (by decide) (by decide) 14 (by decide) (by decide) q14.lt), q15.kept (FR 15 16 (by decide) (by decide) 15 (by decide) (by decide) q15.lt), q16.kept (FR 16 17 (by decide) (by decide) 16 (by decide) (by decide) q16.lt), q17.kept (FR 17 18 (by decide) (by decide) 17 (by decide) (by decide) q17.lt)⟩
  exact ⟨⟨r, (), ho, hr.trans (n2_c (by first | with_reducible assumption | assumption)), ⟨np0, p1.kept (FR 1 2 (by decide) (by decide)), p2.kept (FR 2 4 (by decide) (by decide)), p3.kept (FR 4 11 (by decide) (by decide)), np4, p5.kept (FR 18 25 (by decide) (by decide)), p6.kept (FR 25 26 (by decide) (by decide)), p7.kept (FR 26 33 (by decide) (by decide)), p8.kept (FR 33 40 (by decide) (by decide)), p9.kept (FR 40 41 (by decide) (by decide)), p10.kept (FR 41 44 (by decide) (by decide)), p11.kept (FR 44 68 (by decide) (by decide)), p12.kept (FR 68 69 (by decide) (by decide)), p13.kept (FR 69 74 (by decide) (by decide)), p14.kept (FR 74 77 (by decide) (by decide)), p15.kept (FR 77 102 (by decide) (by decide)), p16.kept (FR 102 112 (by decide) (by decide)), hX⟩⟩, hF.wide (ad_ix [0, 11, 13] (by rfl) (by decide))⟩

set_option maxHeartbeats 1000000 in
set_option maxRecDepth 100000 in
theorem k_X10_stepE (l : Launch) (dC : Nat → ClassId) (dI : Nat → Nat → Nat) (G : Nat → ClassId) (sz : Nat) (ax : Nat → Nat) (hi : adInj 129 ax) (T : Nat) (Y : Nat → Int32) (fa : Int32) (W0 : Nat → Int32) (W1 : Nat → Int32) (W2 : Nat → Int32) (N : Nat) (B : Nat) (N1 : Nat) (B1 : Nat) (N2 : Nat) (B2 : Nat) (K : Nat → Int32) (S : Nat) (M : Nat) (E : Nat → Int32) (Z : Nat → Int32) (i : Int32) (v : Int32) : Met l yX10_step (Cond.code yX10_step cX10_step 3 (some .int) :: GT) ({ frames := 1, cells := 0, slots := 0, locals := 23 } : Room) (PcI [.ref (ax 0), .int i, .int v] dC dI G (X10I dC dI G ax T Y fa W0 W1 W2 N B N1 B1 N2 B2 K S M E Z) sz) (va_Qi (fun (r : Int32) (_ : Unit) => r = if ((0 ≤ i.toInt ∧ i.toInt < ((B : Nat) : Int)) ∧ 0 ≤ v.toInt ∧ v.toInt ≤ 9) then W0 (20 + 3 * i.toNatClampNeg + 1) else -1) (fun _ t => X10I dC dI G ax T Y fa (if ((0 ≤ i.toInt ∧ i.toInt < ((B : Nat) : Int)) ∧ 0 ≤ v.toInt ∧ v.toInt ≤ 9) then upd W0 (20 + 3 * i.toNatClampNeg + 1) v else W0) W1 W2 N B N1 B1 N2 B2 K S M E Z t.heap) (adX 0 112 ax sz)) 0 0 (adX 0 112 ax sz) := by
  refine Met.pick (fun a st hp => ?_)
  obtain ⟨e0, hsz, hI, hK⟩ := hp
  subst hsz
  have hI0 := hI
  unfold X10I at hI
  obtain ⟨p0, p1, p2, p3, p4, p5, p6, p7, p8, p9, p10, p11, p12, p13, p14, p15, p16, hX⟩ := hI
  unfold X10Pr at p0
  obtain ⟨zi0_13, q0⟩ := p0
  unfold X10P1 at p4
  obtain ⟨zn11_2, zf12, zf13, zf14, zf15, zf16, zf17, p4j0, p4j1, p4j2, p4j3, q11, q12, q13, q14, q15, q16, q17⟩ := p4
  refine ⟨_, _, _, c_X10_stepE l dC dI G _ (ax 0) (ax 1) (ax 11) (ax 18) (ax 25) (ax 40) (ax 41) (ax 44) (ax 68) (ax 69) (ax 74) (ax 77) (ax 102) (ax 12) (ax 13) (ax 14) (ax 15) (ax 16) (ax 17) N B zn11_2 fa zi0_13 i v zf16 (by first | with_reducible assumption | assumption) (by first | with_reducible assumption | assumption) (by first | with_reducible assumption | assumption), ⟨e0, rfl, (vpc q0 (vpc q11 (vpc q16 va_nilP))), hK, vD_ix hi [0, 11, 16] (by rfl) (by decide) (by decide)⟩, ad_ix [0, 11, 16] (by rfl) (by decide), fun o t hq => ?_⟩
  obtain ⟨⟨r, u0, ho, ⟨hr, hu⟩, hP1, -⟩, hF⟩ := hq
  have FR : ∀ lo hi' : Nat, hi' ≤ 129 → ([0, 11, 16] : List Nat).all (fun x => decide (x < lo) || decide (hi' ≤ x)) = true → ∀ j : Nat, lo ≤ j → j < hi' → ax j < st.heap.size → t.heap[ax j]? = st.heap[ax j]? := fun lo hi' h1 h2 => fr_ix hi h1 hF.2 [0, 11, 16] (by rfl) (by decide) h2
  have np0 : X10Pr dC dI G ax fa t.heap := ⟨zi0_13, hP1 0 _ rfl⟩
  have np4 : X10P1 dC dI G ax (if ((0 ≤ i.toInt ∧ i.toInt < ((B : Nat) : Int)) ∧ 0 ≤ v.toInt ∧ v.toInt ≤ 9) then upd W0 (20 + 3 * i.toNatClampNeg + 1) v else W0) N B t.heap := ⟨zn11_2, zf12, zf13, zf14, zf15, u0, zf17, (by rw [hu]; exact CR.set5 (by first | with_reducible assumption | assumption) (by first | with_reducible assumption | assumption) (by first | with_reducible assumption | assumption)), p4j1, p4j2, p4j3, hP1 1 _ rfl, q12.kept (FR 12 13 (by decide) (by decide) 12 (by decide) (by decide) q12.lt), q13.kept (FR 13 14 (by decide) (by decide) 13 (by decide) (by decide) q13.lt), q14.kept (FR 14 15 (by decide) (by decide) 14 (by decide) (by decide) q14.lt), q15.kept (FR 15 16 (by decide) (by decide) 15 (by decide) (by decide) q15.lt), hP1 2 _ rfl, q17.kept (FR 17 18 (by decide) (by decide) 17 (by decide) (by decide) q17.lt)⟩
  exact ⟨⟨r, (), ho, hr.trans (n5_c (by first | with_reducible assumption | assumption)), ⟨np0, p1.kept (FR 1 2 (by decide) (by decide)), p2.kept (FR 2 4 (by decide) (by decide)), p3.kept (FR 4 11 (by decide) (by decide)), np4, p5.kept (FR 18 25 (by decide) (by decide)), p6.kept (FR 25 26 (by decide) (by decide)), p7.kept (FR 26 33 (by decide) (by decide)), p8.kept (FR 33 40 (by decide) (by decide)), p9.kept (FR 40 41 (by decide) (by decide)), p10.kept (FR 41 44 (by decide) (by decide)), p11.kept (FR 44 68 (by decide) (by decide)), p12.kept (FR 68 69 (by decide) (by decide)), p13.kept (FR 69 74 (by decide) (by decide)), p14.kept (FR 74 77 (by decide) (by decide)), p15.kept (FR 77 102 (by decide) (by decide)), p16.kept (FR 102 112 (by decide) (by decide)), hX⟩⟩, hF.wide (ad_ix [0, 11, 16] (by rfl) (by decide))⟩

set_option maxHeartbeats 1000000 in
set_option maxRecDepth 100000 in
theorem k_X10_warmE (l : Launch) (dC : Nat → ClassId) (dI : Nat → Nat → Nat) (G : Nat → ClassId) (sz : Nat) (ax : Nat → Nat) (hi : adInj 129 ax) (T : Nat) (Y : Nat → Int32) (fa : Int32) (W0 : Nat → Int32) (W1 : Nat → Int32) (W2 : Nat → Int32) (N : Nat) (B : Nat) (N1 : Nat) (B1 : Nat) (N2 : Nat) (B2 : Nat) (K : Nat → Int32) (S : Nat) (M : Nat) (E : Nat → Int32) (Z : Nat → Int32) (i : Int32) (v : Int32) : Met l yX10_warm (Cond.code yX10_warm cX10_warm 3 (some .int) :: GT) ({ frames := 1, cells := 0, slots := 0, locals := 23 } : Room) (PcI [.ref (ax 0), .int i, .int v] dC dI G (X10I dC dI G ax T Y fa W0 W1 W2 N B N1 B1 N2 B2 K S M E Z) sz) (va_Qi (fun (r : Int32) (_ : Unit) => r = if ((0 ≤ i.toInt ∧ i.toInt < ((B : Nat) : Int)) ∧ 0 ≤ v.toInt ∧ v.toInt ≤ 9) then W0 (20 + 3 * i.toNatClampNeg + 2) else -1) (fun _ t => X10I dC dI G ax T Y fa (if ((0 ≤ i.toInt ∧ i.toInt < ((B : Nat) : Int)) ∧ 0 ≤ v.toInt ∧ v.toInt ≤ 9) then upd W0 (20 + 3 * i.toNatClampNeg + 2) v else W0) W1 W2 N B N1 B1 N2 B2 K S M E Z t.heap) (adX 0 112 ax sz)) 0 0 (adX 0 112 ax sz) := by
  refine Met.pick (fun a st hp => ?_)
  obtain ⟨e0, hsz, hI, hK⟩ := hp
  subst hsz
  have hI0 := hI
  unfold X10I at hI
  obtain ⟨p0, p1, p2, p3, p4, p5, p6, p7, p8, p9, p10, p11, p12, p13, p14, p15, p16, hX⟩ := hI
  unfold X10Pr at p0
  obtain ⟨zi0_13, q0⟩ := p0
  unfold X10P1 at p4
  obtain ⟨zn11_2, zf12, zf13, zf14, zf15, zf16, zf17, p4j0, p4j1, p4j2, p4j3, q11, q12, q13, q14, q15, q16, q17⟩ := p4
  refine ⟨_, _, _, c_X10_warmE l dC dI G _ (ax 0) (ax 1) (ax 11) (ax 18) (ax 25) (ax 40) (ax 41) (ax 44) (ax 68) (ax 69) (ax 74) (ax 77) (ax 102) (ax 12) (ax 13) (ax 14) (ax 15) (ax 16) (ax 17) N B zn11_2 fa zi0_13 i v zf17 (by first | with_reducible assumption | assumption) (by first | with_reducible assumption | assumption) (by first | with_reducible assumption | assumption), ⟨e0, rfl, (vpc q0 (vpc q11 (vpc q17 va_nilP))), hK, vD_ix hi [0, 11, 17] (by rfl) (by decide) (by decide)⟩, ad_ix [0, 11, 17] (by rfl) (by decide), fun o t hq => ?_⟩
  obtain ⟨⟨r, u0, ho, ⟨hr, hu⟩, hP1, -⟩, hF⟩ := hq
  have FR : ∀ lo hi' : Nat, hi' ≤ 129 → ([0, 11, 17] : List Nat).all (fun x => decide (x < lo) || decide (hi' ≤ x)) = true → ∀ j : Nat, lo ≤ j → j < hi' → ax j < st.heap.size → t.heap[ax j]? = st.heap[ax j]? := fun lo hi' h1 h2 => fr_ix hi h1 hF.2 [0, 11, 17] (by rfl) (by decide) h2
  have np0 : X10Pr dC dI G ax fa t.heap := ⟨zi0_13, hP1 0 _ rfl⟩
  have np4 : X10P1 dC dI G ax (if ((0 ≤ i.toInt ∧ i.toInt < ((B : Nat) : Int)) ∧ 0 ≤ v.toInt ∧ v.toInt ≤ 9) then upd W0 (20 + 3 * i.toNatClampNeg + 2) v else W0) N B t.heap := ⟨zn11_2, zf12, zf13, zf14, zf15, zf16, u0, (by rw [hu]; exact CR.set6 (by first | with_reducible assumption | assumption) (by first | with_reducible assumption | assumption) (by first | with_reducible assumption | assumption)), p4j1, p4j2, p4j3, hP1 1 _ rfl, q12.kept (FR 12 13 (by decide) (by decide) 12 (by decide) (by decide) q12.lt), q13.kept (FR 13 14 (by decide) (by decide) 13 (by decide) (by decide) q13.lt), q14.kept (FR 14 15 (by decide) (by decide) 14 (by decide) (by decide) q14.lt), q15.kept (FR 15 16 (by decide) (by decide) 15 (by decide) (by decide) q15.lt), q16.kept (FR 16 17 (by decide) (by decide) 16 (by decide) (by decide) q16.lt), hP1 2 _ rfl⟩
  exact ⟨⟨r, (), ho, hr.trans (n6_c (by first | with_reducible assumption | assumption)), ⟨np0, p1.kept (FR 1 2 (by decide) (by decide)), p2.kept (FR 2 4 (by decide) (by decide)), p3.kept (FR 4 11 (by decide) (by decide)), np4, p5.kept (FR 18 25 (by decide) (by decide)), p6.kept (FR 25 26 (by decide) (by decide)), p7.kept (FR 26 33 (by decide) (by decide)), p8.kept (FR 33 40 (by decide) (by decide)), p9.kept (FR 40 41 (by decide) (by decide)), p10.kept (FR 41 44 (by decide) (by decide)), p11.kept (FR 44 68 (by decide) (by decide)), p12.kept (FR 68 69 (by decide) (by decide)), p13.kept (FR 69 74 (by decide) (by decide)), p14.kept (FR 74 77 (by decide) (by decide)), p15.kept (FR 77 102 (by decide) (by decide)), p16.kept (FR 102 112 (by decide) (by decide)), hX⟩⟩, hF.wide (ad_ix [0, 11, 17] (by rfl) (by decide))⟩

set_option maxHeartbeats 1000000 in
set_option maxRecDepth 100000 in
theorem k_X10_put (l : Launch) (dC : Nat → ClassId) (dI : Nat → Nat → Nat) (G : Nat → ClassId) (sz : Nat) (ax : Nat → Nat) (hi : adInj 129 ax) (T : Nat) (Y : Nat → Int32) (fa : Int32) (W0 : Nat → Int32) (W1 : Nat → Int32) (W2 : Nat → Int32) (N : Nat) (B : Nat) (N1 : Nat) (B1 : Nat) (N2 : Nat) (B2 : Nat) (K : Nat → Int32) (S : Nat) (M : Nat) (E : Nat → Int32) (Z : Nat → Int32) (i : Int32) (k : Int32) : Met l yX10_put (Cond.code yX10_put cX10_put 4 (some .int) :: GT) ({ frames := 1, cells := 0, slots := 0, locals := 21 } : Room) (PcI [.ref (ax 0), .int i, .int k] dC dI G (X10I dC dI G ax T Y fa W0 W1 W2 N B N1 B1 N2 B2 K S M E Z) sz) (va_Qi (fun (r : Int32) (_ : Unit) => True) (fun _ t => X10I dC dI G ax T Y fa W0 W1 W2 N B N1 B1 N2 B2 K S M E Z t.heap) (adX 0 112 ax sz)) 0 0 (adX 0 112 ax sz) := by
  refine Met.pick (fun a st hp => ?_)
  obtain ⟨e0, hsz, hI, hK⟩ := hp
  subst hsz
  have hI0 := hI
  unfold X10I at hI
  obtain ⟨p0, p1, p2, p3, p4, p5, p6, p7, p8, p9, p10, p11, p12, p13, p14, p15, p16, hX⟩ := hI
  unfold X10Pr at p0
  obtain ⟨zi0_13, q0⟩ := p0
  unfold X10P1 at p4
  obtain ⟨zn11_2, zf12, zf13, zf14, zf15, zf16, zf17, p4j0, p4j1, p4j2, p4j3, q11, q12, q13, q14, q15, q16, q17⟩ := p4
  refine ⟨_, _, _, c_X10_put l dC dI G _ (ax 0) (ax 1) (ax 11) (ax 18) (ax 25) (ax 40) (ax 41) (ax 44) (ax 68) (ax 69) (ax 74) (ax 77) (ax 102) (ax 12) (ax 13) (ax 14) (ax 15) (ax 16) (ax 17) N B zn11_2 fa zi0_13 i k zf14 (by first | with_reducible assumption | assumption) (by first | with_reducible assumption | assumption) (by first | with_reducible assumption | assumption), ⟨e0, rfl, (vpc q0 (vpc q11 (vpc q14 va_nilP))), hK, vD_ix hi [0, 11, 14] (by rfl) (by decide) (by decide)⟩, ad_ix [0, 11, 14] (by rfl) (by decide), fun o t hq => ?_⟩
  obtain ⟨⟨r, u0, ho, ⟨hr, hu⟩, hP1, -⟩, hF⟩ := hq
  have FR : ∀ lo hi' : Nat, hi' ≤ 129 → ([0, 11, 14] : List Nat).all (fun x => decide (x < lo) || decide (hi' ≤ x)) = true → ∀ j : Nat, lo ≤ j → j < hi' → ax j < st.heap.size → t.heap[ax j]? = st.heap[ax j]? := fun lo hi' h1 h2 => fr_ix hi h1 hF.2 [0, 11, 14] (by rfl) (by decide) h2
  have np0 : X10Pr dC dI G ax fa t.heap := ⟨zi0_13, hP1 0 _ rfl⟩
  have np4 : X10P1 dC dI G ax W0 N B t.heap := ⟨zn11_2, zf12, zf13, u0, zf15, zf16, zf17, p4j0, p4j1, p4j2, p4j3, hP1 1 _ rfl, q12.kept (FR 12 13 (by decide) (by decide) 12 (by decide) (by decide) q12.lt), q13.kept (FR 13 14 (by decide) (by decide) 13 (by decide) (by decide) q13.lt), hP1 2 _ rfl, q15.kept (FR 15 16 (by decide) (by decide) 15 (by decide) (by decide) q15.lt), q16.kept (FR 16 17 (by decide) (by decide) 16 (by decide) (by decide) q16.lt), q17.kept (FR 17 18 (by decide) (by decide) 17 (by decide) (by decide) q17.lt)⟩
  exact ⟨⟨r, (), ho, trivial, ⟨np0, p1.kept (FR 1 2 (by decide) (by decide)), p2.kept (FR 2 4 (by decide) (by decide)), p3.kept (FR 4 11 (by decide) (by decide)), np4, p5.kept (FR 18 25 (by decide) (by decide)), p6.kept (FR 25 26 (by decide) (by decide)), p7.kept (FR 26 33 (by decide) (by decide)), p8.kept (FR 33 40 (by decide) (by decide)), p9.kept (FR 40 41 (by decide) (by decide)), p10.kept (FR 41 44 (by decide) (by decide)), p11.kept (FR 44 68 (by decide) (by decide)), p12.kept (FR 68 69 (by decide) (by decide)), p13.kept (FR 69 74 (by decide) (by decide)), p14.kept (FR 74 77 (by decide) (by decide)), p15.kept (FR 77 102 (by decide) (by decide)), p16.kept (FR 102 112 (by decide) (by decide)), hX⟩⟩, hF.wide (ad_ix [0, 11, 14] (by rfl) (by decide))⟩

set_option maxHeartbeats 1000000 in
set_option maxRecDepth 100000 in
theorem k_X10_harmE (l : Launch) (dC : Nat → ClassId) (dI : Nat → Nat → Nat) (G : Nat → ClassId) (sz : Nat) (ax : Nat → Nat) (hi : adInj 129 ax) (T : Nat) (Y : Nat → Int32) (fa : Int32) (W0 : Nat → Int32) (W1 : Nat → Int32) (W2 : Nat → Int32) (N : Nat) (B : Nat) (N1 : Nat) (B1 : Nat) (N2 : Nat) (B2 : Nat) (K : Nat → Int32) (S : Nat) (M : Nat) (E : Nat → Int32) (Z : Nat → Int32) (i : Int32) (g : Int32) (k : Int32) : Met l yX10_harm (Cond.code yX10_harm cX10_harm 4 (some .int) :: GT) ({ frames := 3, cells := 0, slots := 0, locals := 67 } : Room) (PcI [.ref (ax 0), .int i, .int g, .int k] dC dI G (X10I dC dI G ax T Y fa W0 W1 W2 N B N1 B1 N2 B2 K S M E Z) sz) (va_Qi (fun (r : Int32) (_ : Unit) => r = haW N B W0 i g k) (fun _ t => X10I dC dI G ax T Y fa W0 W1 W2 N B N1 B1 N2 B2 K S M E Z t.heap) (adX 0 112 ax sz)) 0 0 (adX 0 112 ax sz) := by
  refine Met.pick (fun a st hp => ?_)
  obtain ⟨e0, hsz, hI, hK⟩ := hp
  subst hsz
  have hI0 := hI
  unfold X10I at hI
  obtain ⟨p0, p1, p2, p3, p4, p5, p6, p7, p8, p9, p10, p11, p12, p13, p14, p15, p16, hX⟩ := hI
  unfold X10Pr at p0
  obtain ⟨zi0_13, q0⟩ := p0
  unfold X10P1 at p4
  obtain ⟨zn11_2, zf12, zf13, zf14, zf15, zf16, zf17, p4j0, p4j1, p4j2, p4j3, q11, q12, q13, q14, q15, q16, q17⟩ := p4
  refine ⟨_, _, _, c_X10_harmE l dC dI G _ (ax 0) (ax 1) (ax 11) (ax 18) (ax 25) (ax 40) (ax 41) (ax 44) (ax 68) (ax 69) (ax 74) (ax 77) (ax 102) (ax 12) (ax 13) (ax 14) (ax 15) (ax 16) (ax 17) N B zn11_2 fa zi0_13 i g k zf12 zf13 zf15 zf16 zf17 (by first | with_reducible assumption | assumption) (by first | with_reducible assumption | assumption) (by first | with_reducible assumption | assumption), ⟨e0, rfl, (vpc q0 (vpc q11 (vpc q12 (vpc q13 (vpc q15 (vpc q16 (vpc q17 va_nilP))))))), hK⟩, fun q h => Or.inr h, fun o t hq => ?_⟩
  obtain ⟨⟨r, u, ho, ⟨hr, hu⟩, -⟩, hF⟩ := hq
  exact ⟨⟨r, (), ho, hr.trans (ha_c (by first | with_reducible assumption | assumption) (by first | with_reducible assumption | assumption)), hI0.kept (fun j _ _ h => hF.2 _ h (Nat.not_le.mpr h))⟩, hF.wide (fun q h => Or.inr h)⟩

set_option maxHeartbeats 1000000 in
set_option maxRecDepth 100000 in
theorem k_X10_wakes (l : Launch) (dC : Nat → ClassId) (dI : Nat → Nat → Nat) (G : Nat → ClassId) (sz : Nat) (ax : Nat → Nat) (hi : adInj 129 ax) (T : Nat) (Y : Nat → Int32) (fa : Int32) (W0 : Nat → Int32) (W1 : Nat → Int32) (W2 : Nat → Int32) (N : Nat) (B : Nat) (N1 : Nat) (B1 : Nat) (N2 : Nat) (B2 : Nat) (K : Nat → Int32) (S : Nat) (M : Nat) (E : Nat → Int32) (Z : Nat → Int32) (what : Int32) : Met l yX10_wakes (Cond.code yX10_wakes cX10_wakes 2 (some .long) :: GT) ({ frames := 5, cells := 0, slots := 0, locals := 112 } : Room) (PcI [.ref (ax 0), .int what] dC dI G (X10I dC dI G ax T Y fa W0 W1 W2 N B N1 B1 N2 B2 K S M E Z) sz) (va_Ql (fun (r : Int64) (_ : Unit) => True) (fun _ t => X10I dC dI G ax T Y fa W0 W1 W2 N B N1 B1 N2 B2 K S M E Z t.heap) (adX 0 112 ax sz)) 0 0 (adX 0 112 ax sz) := by
  refine Met.pick (fun a st hp => ?_)
  obtain ⟨e0, hsz, hI, hK⟩ := hp
  subst hsz
  have hI0 := hI
  unfold X10I at hI
  obtain ⟨p0, p1, p2, p3, p4, p5, p6, p7, p8, p9, p10, p11, p12, p13, p14, p15, p16, hX⟩ := hI
  unfold X10Pr at p0
  obtain ⟨zi0_13, q0⟩ := p0
  unfold X10P1 at p4
  obtain ⟨zn11_2, zf12, zf13, zf14, zf15, zf16, zf17, p4j0, p4j1, p4j2, p4j3, q11, q12, q13, q14, q15, q16, q17⟩ := p4
  unfold X10P5 at p10
  obtain ⟨zl41_0, zf42, zf43, q41, q42, q43⟩ := p10
  refine ⟨_, _, _, c_X10_wakes l dC dI G _ (ax 0) (ax 1) (ax 11) (ax 18) (ax 25) (ax 40) (ax 41) (ax 44) (ax 68) (ax 69) (ax 74) (ax 77) (ax 102) (ax 42) (ax 43) (ax 12) (ax 13) (ax 14) (ax 15) (ax 16) (ax 17) N B zn11_2 fa zi0_13 what zl41_0 zf12 zf13 zf14 zf15 zf16 zf17 zf42 zf43 (by first | with_reducible assumption | assumption) (by first | with_reducible assumption | assumption) (by first | with_reducible assumption | assumption), ⟨e0, rfl, (vpc q0 (vpc q41 (vpc q42 (vpc q43 (vpc q11 (vpc q12 (vpc q13 (vpc q14 (vpc q15 (vpc q16 (vpc q17 va_nilP))))))))))), hK, vD_ix hi [0, 41, 42, 43, 11, 12, 13, 14, 15, 16, 17] (by rfl) (by decide) (by decide)⟩, ad_ix [0, 41, 42, 43, 11, 12, 13, 14, 15, 16, 17] (by rfl) (by decide), fun o t hq => ?_⟩
  obtain ⟨⟨r, ⟨u0, u1, u2⟩, ho, ⟨hr, hu⟩, hP1, -⟩, hF⟩ := hq
  have FR : ∀ lo hi' : Nat, hi' ≤ 129 → ([0, 41, 42, 43, 11, 12, 13, 14, 15, 16, 17] : List Nat).all (fun x => decide (x < lo) || decide (hi' ≤ x)) = true → ∀ j : Nat, lo ≤ j → j < hi' → ax j < st.heap.size → t.heap[ax j]? = st.heap[ax j]? := fun lo hi' h1 h2 => fr_ix hi h1 hF.2 [0, 41, 42, 43, 11, 12, 13, 14, 15, 16, 17] (by rfl) (by decide) h2
  have np0 : X10Pr dC dI G ax fa t.heap := ⟨zi0_13, hP1 0 _ rfl⟩
  have np4 : X10P1 dC dI G ax W0 N B t.heap := ⟨zn11_2, zf12, zf13, zf14, zf15, zf16, zf17, p4j0, p4j1, p4j2, p4j3, hP1 4 _ rfl, hP1 5 _ rfl, hP1 6 _ rfl, hP1 7 _ rfl, hP1 8 _ rfl, hP1 9 _ rfl, hP1 10 _ rfl⟩
  have np10 : X10P5 dC dI G ax t.heap := ⟨u0, u1, u2, hP1 1 _ rfl, hP1 2 _ rfl, hP1 3 _ rfl⟩
  exact ⟨⟨r, (), ho, trivial, ⟨np0, p1.kept (FR 1 2 (by decide) (by decide)), p2.kept (FR 2 4 (by decide) (by decide)), p3.kept (FR 4 11 (by decide) (by decide)), np4, p5.kept (FR 18 25 (by decide) (by decide)), p6.kept (FR 25 26 (by decide) (by decide)), p7.kept (FR 26 33 (by decide) (by decide)), p8.kept (FR 33 40 (by decide) (by decide)), p9.kept (FR 40 41 (by decide) (by decide)), np10, p11.kept (FR 44 68 (by decide) (by decide)), p12.kept (FR 68 69 (by decide) (by decide)), p13.kept (FR 69 74 (by decide) (by decide)), p14.kept (FR 74 77 (by decide) (by decide)), p15.kept (FR 77 102 (by decide) (by decide)), p16.kept (FR 102 112 (by decide) (by decide)), hX⟩⟩, hF.wide (ad_ix [0, 41, 42, 43, 11, 12, 13, 14, 15, 16, 17] (by rfl) (by decide))⟩

set_option maxHeartbeats 1000000 in
set_option maxRecDepth 100000 in
theorem k_X10_awake (l : Launch) (dC : Nat → ClassId) (dI : Nat → Nat → Nat) (G : Nat → ClassId) (sz : Nat) (ax : Nat → Nat) (hi : adInj 129 ax) (T : Nat) (Y : Nat → Int32) (fa : Int32) (W0 : Nat → Int32) (W1 : Nat → Int32) (W2 : Nat → Int32) (N : Nat) (B : Nat) (N1 : Nat) (B1 : Nat) (N2 : Nat) (B2 : Nat) (K : Nat → Int32) (S : Nat) (M : Nat) (E : Nat → Int32) (Z : Nat → Int32) (i : Int32) (what : Int32) : Met l yX10_awake (Cond.code yX10_awake cX10_awake 3 (some .long) :: GT) ({ frames := 6, cells := 0, slots := 0, locals := 135 } : Room) (PcI [.ref (ax 0), .int i, .int what] dC dI G (X10I dC dI G ax T Y fa W0 W1 W2 N B N1 B1 N2 B2 K S M E Z) sz) (va_Ql (fun (r : Int64) (_ : Unit) => True) (fun _ t => X10I dC dI G ax T Y fa W0 W1 W2 N B N1 B1 N2 B2 K S M E Z t.heap) (adX 0 112 ax sz)) 0 0 (adX 0 112 ax sz) := by
  refine Met.pick (fun a st hp => ?_)
  obtain ⟨e0, hsz, hI, hK⟩ := hp
  subst hsz
  have hI0 := hI
  unfold X10I at hI
  obtain ⟨p0, p1, p2, p3, p4, p5, p6, p7, p8, p9, p10, p11, p12, p13, p14, p15, p16, hX⟩ := hI
  unfold X10Pr at p0
  obtain ⟨zi0_13, q0⟩ := p0
  unfold X10P1 at p4
  obtain ⟨zn11_2, zf12, zf13, zf14, zf15, zf16, zf17, p4j0, p4j1, p4j2, p4j3, q11, q12, q13, q14, q15, q16, q17⟩ := p4
  unfold X10P5 at p10
  obtain ⟨zl41_0, zf42, zf43, q41, q42, q43⟩ := p10
  refine ⟨_, _, _, c_X10_awake l dC dI G _ (ax 0) (ax 1) (ax 11) (ax 18) (ax 25) (ax 40) (ax 41) (ax 44) (ax 68) (ax 69) (ax 74) (ax 77) (ax 102) (ax 42) (ax 43) (ax 12) (ax 13) (ax 14) (ax 15) (ax 16) (ax 17) N B zn11_2 fa zi0_13 i what zl41_0 zf12 zf13 zf14 zf15 zf16 zf17 zf42 zf43 (by first | with_reducible assumption | assumption) (by first | with_reducible assumption | assumption) (by first | with_reducible assumption | assumption), ⟨e0, rfl, (vpc q0 (vpc q41 (vpc q42 (vpc q43 (vpc q11 (vpc q12 (vpc q13 (vpc q14 (vpc q15 (vpc q16 (vpc q17 va_nilP))))))))))), hK, vD_ix hi [0, 41, 42, 43, 11, 12, 13, 14, 15, 16, 17] (by rfl) (by decide) (by decide)⟩, ad_ix [0, 41, 42, 43, 11, 12, 13, 14, 15, 16, 17] (by rfl) (by decide), fun o t hq => ?_⟩
  obtain ⟨⟨r, ⟨u0, u1, u2⟩, ho, ⟨hr, hu⟩, hP1, -⟩, hF⟩ := hq
  have FR : ∀ lo hi' : Nat, hi' ≤ 129 → ([0, 41, 42, 43, 11, 12, 13, 14, 15, 16, 17] : List Nat).all (fun x => decide (x < lo) || decide (hi' ≤ x)) = true → ∀ j : Nat, lo ≤ j → j < hi' → ax j < st.heap.size → t.heap[ax j]? = st.heap[ax j]? := fun lo hi' h1 h2 => fr_ix hi h1 hF.2 [0, 41, 42, 43, 11, 12, 13, 14, 15, 16, 17] (by rfl) (by decide) h2
  have np0 : X10Pr dC dI G ax fa t.heap := ⟨zi0_13, hP1 0 _ rfl⟩
  have np4 : X10P1 dC dI G ax W0 N B t.heap := ⟨zn11_2, zf12, zf13, zf14, zf15, zf16, zf17, p4j0, p4j1, p4j2, p4j3, hP1 4 _ rfl, hP1 5 _ rfl, hP1 6 _ rfl, hP1 7 _ rfl, hP1 8 _ rfl, hP1 9 _ rfl, hP1 10 _ rfl⟩
  have np10 : X10P5 dC dI G ax t.heap := ⟨u0, u1, u2, hP1 1 _ rfl, hP1 2 _ rfl, hP1 3 _ rfl⟩
  exact ⟨⟨r, (), ho, trivial, ⟨np0, p1.kept (FR 1 2 (by decide) (by decide)), p2.kept (FR 2 4 (by decide) (by decide)), p3.kept (FR 4 11 (by decide) (by decide)), np4, p5.kept (FR 18 25 (by decide) (by decide)), p6.kept (FR 25 26 (by decide) (by decide)), p7.kept (FR 26 33 (by decide) (by decide)), p8.kept (FR 33 40 (by decide) (by decide)), p9.kept (FR 40 41 (by decide) (by decide)), np10, p11.kept (FR 44 68 (by decide) (by decide)), p12.kept (FR 68 69 (by decide) (by decide)), p13.kept (FR 69 74 (by decide) (by decide)), p14.kept (FR 74 77 (by decide) (by decide)), p15.kept (FR 77 102 (by decide) (by decide)), p16.kept (FR 102 112 (by decide) (by decide)), hX⟩⟩, hF.wide (ad_ix [0, 41, 42, 43, 11, 12, 13, 14, 15, 16, 17] (by rfl) (by decide))⟩

set_option maxHeartbeats 1000000 in
set_option maxRecDepth 100000 in
theorem k_X10_depth (l : Launch) (dC : Nat → ClassId) (dI : Nat → Nat → Nat) (G : Nat → ClassId) (sz : Nat) (ax : Nat → Nat) (hi : adInj 129 ax) (T : Nat) (Y : Nat → Int32) (fa : Int32) (W0 : Nat → Int32) (W1 : Nat → Int32) (W2 : Nat → Int32) (N : Nat) (B : Nat) (N1 : Nat) (B1 : Nat) (N2 : Nat) (B2 : Nat) (K : Nat → Int32) (S : Nat) (M : Nat) (E : Nat → Int32) (Z : Nat → Int32) (i : Int32) (d : Int32) (what : Int32) : Met l yX10_depth (Cond.code yX10_depth cX10_depth 4 (some .long) :: GT) ({ frames := 5, cells := 0, slots := 0, locals := 112 } : Room) (PcI [.ref (ax 0), .int i, .int d, .int what] dC dI G (X10I dC dI G ax T Y fa W0 W1 W2 N B N1 B1 N2 B2 K S M E Z) sz) (va_Ql (fun (r : Int64) (_ : Unit) => True) (fun _ t => X10I dC dI G ax T Y fa W0 W1 W2 N B N1 B1 N2 B2 K S M E Z t.heap) (adX 0 112 ax sz)) 0 0 (adX 0 112 ax sz) := by
  refine Met.pick (fun a st hp => ?_)
  obtain ⟨e0, hsz, hI, hK⟩ := hp
  subst hsz
  have hI0 := hI
  unfold X10I at hI
  obtain ⟨p0, p1, p2, p3, p4, p5, p6, p7, p8, p9, p10, p11, p12, p13, p14, p15, p16, hX⟩ := hI
  unfold X10Pr at p0
  obtain ⟨zi0_13, q0⟩ := p0
  unfold X10P1 at p4
  obtain ⟨zn11_2, zf12, zf13, zf14, zf15, zf16, zf17, p4j0, p4j1, p4j2, p4j3, q11, q12, q13, q14, q15, q16, q17⟩ := p4
  unfold X10P5 at p10
  obtain ⟨zl41_0, zf42, zf43, q41, q42, q43⟩ := p10
  refine ⟨_, _, _, c_X10_depth l dC dI G _ (ax 0) (ax 1) (ax 11) (ax 18) (ax 25) (ax 40) (ax 41) (ax 44) (ax 68) (ax 69) (ax 74) (ax 77) (ax 102) (ax 42) (ax 43) (ax 12) (ax 13) (ax 14) (ax 15) (ax 16) (ax 17) N B zn11_2 fa zi0_13 i d what zl41_0 zf12 zf13 zf14 zf15 zf16 zf17 zf42 zf43 (by first | with_reducible assumption | assumption) (by first | with_reducible assumption | assumption) (by first | with_reducible assumption | assumption), ⟨e0, rfl, (vpc q0 (vpc q41 (vpc q42 (vpc q43 (vpc q11 (vpc q12 (vpc q13 (vpc q14 (vpc q15 (vpc q16 (vpc q17 va_nilP))))))))))), hK, vD_ix hi [0, 41, 42, 43, 11, 12, 13, 14, 15, 16, 17] (by rfl) (by decide) (by decide)⟩, ad_ix [0, 41, 42, 43, 11, 12, 13, 14, 15, 16, 17] (by rfl) (by decide), fun o t hq => ?_⟩
  obtain ⟨⟨r, ⟨u0, u1, u2⟩, ho, ⟨hr, hu⟩, hP1, -⟩, hF⟩ := hq
  have FR : ∀ lo hi' : Nat, hi' ≤ 129 → ([0, 41, 42, 43, 11, 12, 13, 14, 15, 16, 17] : List Nat).all (fun x => decide (x < lo) || decide (hi' ≤ x)) = true → ∀ j : Nat, lo ≤ j → j < hi' → ax j < st.heap.size → t.heap[ax j]? = st.heap[ax j]? := fun lo hi' h1 h2 => fr_ix hi h1 hF.2 [0, 41, 42, 43, 11, 12, 13, 14, 15, 16, 17] (by rfl) (by decide) h2
  have np0 : X10Pr dC dI G ax fa t.heap := ⟨zi0_13, hP1 0 _ rfl⟩
  have np4 : X10P1 dC dI G ax W0 N B t.heap := ⟨zn11_2, zf12, zf13, zf14, zf15, zf16, zf17, p4j0, p4j1, p4j2, p4j3, hP1 4 _ rfl, hP1 5 _ rfl, hP1 6 _ rfl, hP1 7 _ rfl, hP1 8 _ rfl, hP1 9 _ rfl, hP1 10 _ rfl⟩
  have np10 : X10P5 dC dI G ax t.heap := ⟨u0, u1, u2, hP1 1 _ rfl, hP1 2 _ rfl, hP1 3 _ rfl⟩
  exact ⟨⟨r, (), ho, trivial, ⟨np0, p1.kept (FR 1 2 (by decide) (by decide)), p2.kept (FR 2 4 (by decide) (by decide)), p3.kept (FR 4 11 (by decide) (by decide)), np4, p5.kept (FR 18 25 (by decide) (by decide)), p6.kept (FR 25 26 (by decide) (by decide)), p7.kept (FR 26 33 (by decide) (by decide)), p8.kept (FR 33 40 (by decide) (by decide)), p9.kept (FR 40 41 (by decide) (by decide)), np10, p11.kept (FR 44 68 (by decide) (by decide)), p12.kept (FR 68 69 (by decide) (by decide)), p13.kept (FR 69 74 (by decide) (by decide)), p14.kept (FR 74 77 (by decide) (by decide)), p15.kept (FR 77 102 (by decide) (by decide)), p16.kept (FR 102 112 (by decide) (by decide)), hX⟩⟩, hF.wide (ad_ix [0, 41, 42, 43, 11, 12, 13, 14, 15, 16, 17] (by rfl) (by decide))⟩

set_option maxHeartbeats 1000000 in
set_option maxRecDepth 100000 in
theorem k_X10_best (l : Launch) (dC : Nat → ClassId) (dI : Nat → Nat → Nat) (G : Nat → ClassId) (sz : Nat) (ax : Nat → Nat) (hi : adInj 129 ax) (T : Nat) (Y : Nat → Int32) (fa : Int32) (W0 : Nat → Int32) (W1 : Nat → Int32) (W2 : Nat → Int32) (N : Nat) (B : Nat) (N1 : Nat) (B1 : Nat) (N2 : Nat) (B2 : Nat) (K : Nat → Int32) (S : Nat) (M : Nat) (E : Nat → Int32) (Z : Nat → Int32) (what : Int32) : Met l yX10_best (Cond.code yX10_best cX10_best 2 (some .long) :: GT) ({ frames := 5, cells := 0, slots := 0, locals := 116 } : Room) (PcI [.ref (ax 0), .int what] dC dI G (X10I dC dI G ax T Y fa W0 W1 W2 N B N1 B1 N2 B2 K S M E Z) sz) (va_Ql (fun (r : Int64) (_ : Unit) => True) (fun _ t => X10I dC dI G ax T Y fa W0 W1 W2 N B N1 B1 N2 B2 K S M E Z t.heap) (adX 0 112 ax sz)) 0 0 (adX 0 112 ax sz) := by
  refine Met.pick (fun a st hp => ?_)
  obtain ⟨e0, hsz, hI, hK⟩ := hp
  subst hsz
  have hI0 := hI
  unfold X10I at hI
  obtain ⟨p0, p1, p2, p3, p4, p5, p6, p7, p8, p9, p10, p11, p12, p13, p14, p15, p16, hX⟩ := hI
  unfold X10Pr at p0
  obtain ⟨zi0_13, q0⟩ := p0
  unfold X10P1 at p4
  obtain ⟨zn11_2, zf12, zf13, zf14, zf15, zf16, zf17, p4j0, p4j1, p4j2, p4j3, q11, q12, q13, q14, q15, q16, q17⟩ := p4
  unfold X10P6 at p11
  obtain ⟨zl44_0, zF47, zF58, q44, q45, q46, q47, q58⟩ := p11
  refine ⟨_, _, _, c_X10_best l dC dI G _ (ax 0) (ax 1) (ax 11) (ax 18) (ax 25) (ax 40) (ax 41) (ax 44) (ax 68) (ax 69) (ax 74) (ax 77) (ax 102) (ax 45) (ax 46) (ax 12) (ax 13) (ax 14) (ax 15) (ax 16) (ax 17) N B zn11_2 fa zi0_13 what zl44_0 zf12 zf13 zf15 zf16 zf17 (fun iq => ax (47 + iq)) (fun iq => ax (58 + iq)) zF47 zF58 (by first | with_reducible assumption | assumption) (by first | with_reducible assumption | assumption) (by first | with_reducible assumption | assumption), ⟨e0, rfl, (va_P.app (vpc q0 (vpc q44 (vpc q45 (vpc q46 (vpc q11 (vpc q12 (vpc q13 (vpc q15 (vpc q16 (vpc q17 va_nilP)))))))))) (va_P.app q47 (va_P.app q58 va_nilP))), hK, vD_ix hi [0, 44, 45, 46, 11, 12, 13, 15, 16, 17, 47, 48, 49, 50, 51, 52, 53, 54, 55, 56, 57, 58, 59, 60, 61, 62, 63, 64, 65, 66, 67] (by rfl) (by decide) (by decide)⟩, ad_ix [0, 44, 45, 46, 11, 12, 13, 15, 16, 17, 47, 48, 49, 50, 51, 52, 53, 54, 55, 56, 57, 58, 59, 60, 61, 62, 63, 64, 65, 66, 67] (by rfl) (by decide), fun o t hq => ?_⟩
  obtain ⟨⟨r, ⟨u0, u1, u2⟩, ho, ⟨hr, hu⟩, hP1, -⟩, hF⟩ := hq
  have FR : ∀ lo hi' : Nat, hi' ≤ 129 → ([0, 44, 45, 46, 11, 12, 13, 15, 16, 17, 47, 48, 49, 50, 51, 52, 53, 54, 55, 56, 57, 58, 59, 60, 61, 62, 63, 64, 65, 66, 67] : List Nat).all (fun x => decide (x < lo) || decide (hi' ≤ x)) = true → ∀ j : Nat, lo ≤ j → j < hi' → ax j < st.heap.size → t.heap[ax j]? = st.heap[ax j]? := fun lo hi' h1 h2 => fr_ix hi h1 hF.2 [0, 44, 45, 46, 11, 12, 13, 15, 16, 17, 47, 48, 49, 50, 51, 52, 53, 54, 55, 56, 57, 58, 59, 60, 61, 62, 63, 64, 65, 66, 67] (by rfl) (by decide) h2
  have np0 : X10Pr dC dI G ax fa t.heap := ⟨zi0_13, hP1 0 _ rfl⟩
  have np4 : X10P1 dC dI G ax W0 N B t.heap := ⟨zn11_2, zf12, zf13, zf14, zf15, zf16, zf17, p4j0, p4j1, p4j2, p4j3, hP1 4 _ rfl, hP1 5 _ rfl, hP1 6 _ rfl, q14.kept (FR 14 15 (by decide) (by decide) 14 (by decide) (by decide) q14.lt), hP1 7 _ rfl, hP1 8 _ rfl, hP1 9 _ rfl⟩
  have np11 : X10P6 dC dI G ax t.heap := ⟨u0, u1, u2, hP1 1 _ rfl, hP1 2 _ rfl, hP1 3 _ rfl, vp_mid hP1, vp_mid2 hP1⟩
  exact ⟨⟨r, (), ho, trivial, ⟨np0, p1.kept (FR 1 2 (by decide) (by decide)), p2.kept (FR 2 4 (by decide) (by decide)), p3.kept (FR 4 11 (by decide) (by decide)), np4, p5.kept (FR 18 25 (by decide) (by decide)), p6.kept (FR 25 26 (by decide) (by decide)), p7.kept (FR 26 33 (by decide) (by decide)), p8.kept (FR 33 40 (by decide) (by decide)), p9.kept (FR 40 41 (by decide) (by decide)), p10.kept (FR 41 44 (by decide) (by decide)), np11, p12.kept (FR 68 69 (by decide) (by decide)), p13.kept (FR 69 74 (by decide) (by decide)), p14.kept (FR 74 77 (by decide) (by decide)), p15.kept (FR 77 102 (by decide) (by decide)), p16.kept (FR 102 112 (by decide) (by decide)), hX⟩⟩, hF.wide (ad_ix [0, 44, 45, 46, 11, 12, 13, 15, 16, 17, 47, 48, 49, 50, 51, 52, 53, 54, 55, 56, 57, 58, 59, 60, 61, 62, 63, 64, 65, 66, 67] (by rfl) (by decide))⟩

set_option maxHeartbeats 1000000 in
set_option maxRecDepth 100000 in
theorem k_X10_next (l : Launch) (dC : Nat → ClassId) (dI : Nat → Nat → Nat) (G : Nat → ClassId) (sz : Nat) (ax : Nat → Nat) (hi : adInj 129 ax) (T : Nat) (Y : Nat → Int32) (fa : Int32) (W0 : Nat → Int32) (W1 : Nat → Int32) (W2 : Nat → Int32) (N : Nat) (B : Nat) (N1 : Nat) (B1 : Nat) (N2 : Nat) (B2 : Nat) (K : Nat → Int32) (S : Nat) (M : Nat) (E : Nat → Int32) (Z : Nat → Int32) (i : Int32) (g : Int32) (d : Int32) : Met l yX10_next (Cond.code yX10_next cX10_next 5 (some .int) :: GT) ({ frames := 5, cells := 0, slots := 0, locals := 116 } : Room) (PcI [.ref (ax 0), .int i, .int g, .int d] dC dI G (X10I dC dI G ax T Y fa W0 W1 W2 N B N1 B1 N2 B2 K S M E Z) sz) (va_Qi (fun (r : Int32) (_ : Unit) => True) (fun _ t => X10I dC dI G ax T Y fa W0 W1 W2 N B N1 B1 N2 B2 K S M E Z t.heap) (adX 0 112 ax sz)) 0 0 (adX 0 112 ax sz) := by
  refine Met.pick (fun a st hp => ?_)
  obtain ⟨e0, hsz, hI, hK⟩ := hp
  subst hsz
  have hI0 := hI
  unfold X10I at hI
  obtain ⟨p0, p1, p2, p3, p4, p5, p6, p7, p8, p9, p10, p11, p12, p13, p14, p15, p16, hX⟩ := hI
  unfold X10Pr at p0
  obtain ⟨zi0_13, q0⟩ := p0
  unfold X10P1 at p4
  obtain ⟨zn11_2, zf12, zf13, zf14, zf15, zf16, zf17, p4j0, p4j1, p4j2, p4j3, q11, q12, q13, q14, q15, q16, q17⟩ := p4
  unfold X10P6 at p11
  obtain ⟨zl44_0, zF47, zF58, q44, q45, q46, q47, q58⟩ := p11
  refine ⟨_, _, _, c_X10_next l dC dI G _ (ax 0) (ax 1) (ax 11) (ax 18) (ax 25) (ax 40) (ax 41) (ax 44) (ax 68) (ax 69) (ax 74) (ax 77) (ax 102) (ax 45) (ax 46) (ax 12) (ax 13) (ax 14) (ax 15) (ax 16) (ax 17) N B zn11_2 fa zi0_13 i g d zl44_0 zf12 zf13 zf15 zf16 zf17 (fun iq => ax (47 + iq)) (fun iq => ax (58 + iq)) zF47 zF58 (by first | with_reducible assumption | assumption) (by first | with_reducible assumption | assumption) (by first | with_reducible assumption | assumption), ⟨e0, rfl, (va_P.app (vpc q0 (vpc q44 (vpc q45 (vpc q46 (vpc q11 (vpc q12 (vpc q13 (vpc q15 (vpc q16 (vpc q17 va_nilP)))))))))) (va_P.app q47 (va_P.app q58 va_nilP))), hK, vD_ix hi [0, 44, 45, 46, 11, 12, 13, 15, 16, 17, 47, 48, 49, 50, 51, 52, 53, 54, 55, 56, 57, 58, 59, 60, 61, 62, 63, 64, 65, 66, 67] (by rfl) (by decide) (by decide)⟩, ad_ix [0, 44, 45, 46, 11, 12, 13, 15, 16, 17, 47, 48, 49, 50, 51, 52, 53, 54, 55, 56, 57, 58, 59, 60, 61, 62, 63, 64, 65, 66, 67] (by rfl) (by decide), fun o t hq => ?_⟩
  obtain ⟨⟨r, ⟨u0, u1, u2⟩, ho, ⟨hr, hu⟩, hP1, -⟩, hF⟩ := hq
  have FR : ∀ lo hi' : Nat, hi' ≤ 129 → ([0, 44, 45, 46, 11, 12, 13, 15, 16, 17, 47, 48, 49, 50, 51, 52, 53, 54, 55, 56, 57, 58, 59, 60, 61, 62, 63, 64, 65, 66, 67] : List Nat).all (fun x => decide (x < lo) || decide (hi' ≤ x)) = true → ∀ j : Nat, lo ≤ j → j < hi' → ax j < st.heap.size → t.heap[ax j]? = st.heap[ax j]? := fun lo hi' h1 h2 => fr_ix hi h1 hF.2 [0, 44, 45, 46, 11, 12, 13, 15, 16, 17, 47, 48, 49, 50, 51, 52, 53, 54, 55, 56, 57, 58, 59, 60, 61, 62, 63, 64, 65, 66, 67] (by rfl) (by decide) h2
  have np0 : X10Pr dC dI G ax fa t.heap := ⟨zi0_13, hP1 0 _ rfl⟩
  have np4 : X10P1 dC dI G ax W0 N B t.heap := ⟨zn11_2, zf12, zf13, zf14, zf15, zf16, zf17, p4j0, p4j1, p4j2, p4j3, hP1 4 _ rfl, hP1 5 _ rfl, hP1 6 _ rfl, q14.kept (FR 14 15 (by decide) (by decide) 14 (by decide) (by decide) q14.lt), hP1 7 _ rfl, hP1 8 _ rfl, hP1 9 _ rfl⟩
  have np11 : X10P6 dC dI G ax t.heap := ⟨u0, u1, u2, hP1 1 _ rfl, hP1 2 _ rfl, hP1 3 _ rfl, vp_mid hP1, vp_mid2 hP1⟩
  exact ⟨⟨r, (), ho, trivial, ⟨np0, p1.kept (FR 1 2 (by decide) (by decide)), p2.kept (FR 2 4 (by decide) (by decide)), p3.kept (FR 4 11 (by decide) (by decide)), np4, p5.kept (FR 18 25 (by decide) (by decide)), p6.kept (FR 25 26 (by decide) (by decide)), p7.kept (FR 26 33 (by decide) (by decide)), p8.kept (FR 33 40 (by decide) (by decide)), p9.kept (FR 40 41 (by decide) (by decide)), p10.kept (FR 41 44 (by decide) (by decide)), np11, p12.kept (FR 68 69 (by decide) (by decide)), p13.kept (FR 69 74 (by decide) (by decide)), p14.kept (FR 74 77 (by decide) (by decide)), p15.kept (FR 77 102 (by decide) (by decide)), p16.kept (FR 102 112 (by decide) (by decide)), hX⟩⟩, hF.wide (ad_ix [0, 44, 45, 46, 11, 12, 13, 15, 16, 17, 47, 48, 49, 50, 51, 52, 53, 54, 55, 56, 57, 58, 59, 60, 61, 62, 63, 64, 65, 66, 67] (by rfl) (by decide))⟩

set_option maxHeartbeats 1000000 in
set_option maxRecDepth 100000 in
theorem k_X10_withoutE (l : Launch) (dC : Nat → ClassId) (dI : Nat → Nat → Nat) (G : Nat → ClassId) (sz : Nat) (ax : Nat → Nat) (hi : adInj 129 ax) (T : Nat) (Y : Nat → Int32) (fa : Int32) (W0 : Nat → Int32) (W1 : Nat → Int32) (W2 : Nat → Int32) (N : Nat) (B : Nat) (N1 : Nat) (B1 : Nat) (N2 : Nat) (B2 : Nat) (K : Nat → Int32) (S : Nat) (M : Nat) (E : Nat → Int32) (Z : Nat → Int32) (i : Int32) (what : Int32) (hW9 : (N = 0 ∨ 0 < B) ∧ HBd N B (zbH W0)) : Met l yX10_without (Cond.code yX10_without cX10_without 3 (some .long) :: GT) ({ frames := 5, cells := 0, slots := 0, locals := 116 } : Room) (PcI [.ref (ax 0), .int i, .int what] dC dI G (X10I dC dI G ax T Y fa W0 W1 W2 N B N1 B1 N2 B2 K S M E Z) sz) (va_Ql (fun (r : Int64) (_ : Unit) => r = if ((0 ≤ i.toInt ∧ i.toInt < ((B : Nat) : Int)) ∧ (0 ≤ what.toInt ∧ what.toInt ≤ 1)) then (if B < 2 then -2 else frF (zbV (zbH W0) N B i N (sdN W0)) (powF N) what) else -1) (fun _ t => X10I dC dI G ax T Y fa W0 W1 W2 N B N1 B1 N2 B2 K S M E Z t.heap) (adX 0 112 ax sz)) 0 0 (adX 0 112 ax sz) := by
  refine Met.pick (fun a st hp => ?_)
  obtain ⟨e0, hsz, hI, hK⟩ := hp
  subst hsz
  have hI0 := hI
  unfold X10I at hI
  obtain ⟨p0, p1, p2, p3, p4, p5, p6, p7, p8, p9, p10, p11, p12, p13, p14, p15, p16, hX⟩ := hI
  unfold X10Pr at p0
  obtain ⟨zi0_13, q0⟩ := p0
  unfold X10P1 at p4
  obtain ⟨zn11_2, zf12, zf13, zf14, zf15, zf16, zf17, p4j0, p4j1, p4j2, p4j3, q11, q12, q13, q14, q15, q16, q17⟩ := p4
  unfold X10P6 at p11
  obtain ⟨zl44_0, zF47, zF58, q44, q45, q46, q47, q58⟩ := p11
  refine ⟨_, _, _, c_X10_withoutE l dC dI G _ (ax 0) (ax 1) (ax 11) (ax 18) (ax 25) (ax 40) (ax 41) (ax 44) (ax 68) (ax 69) (ax 74) (ax 77) (ax 102) (ax 45) (ax 46) (ax 12) (ax 13) (ax 14) (ax 15) (ax 16) (ax 17) N B zn11_2 fa zi0_13 i what zl44_0 zf12 zf13 zf15 zf16 zf17 (fun iq => ax (47 + iq)) (fun iq => ax (58 + iq)) zF47 zF58 (by first | with_reducible assumption | assumption) (by first | with_reducible assumption | assumption) (by first | with_reducible assumption | assumption), ⟨e0, rfl, (va_P.app (vpc q0 (vpc q44 (vpc q45 (vpc q46 (vpc q11 (vpc q12 (vpc q13 (vpc q15 (vpc q16 (vpc q17 va_nilP)))))))))) (va_P.app q47 (va_P.app q58 va_nilP))), hK, vD_ix hi [0, 44, 45, 46, 11, 12, 13, 15, 16, 17, 47, 48, 49, 50, 51, 52, 53, 54, 55, 56, 57, 58, 59, 60, 61, 62, 63, 64, 65, 66, 67] (by rfl) (by decide) (by decide)⟩, ad_ix [0, 44, 45, 46, 11, 12, 13, 15, 16, 17, 47, 48, 49, 50, 51, 52, 53, 54, 55, 56, 57, 58, 59, 60, 61, 62, 63, 64, 65, 66, 67] (by rfl) (by decide), fun o t hq => ?_⟩
  obtain ⟨⟨r, ⟨u0, u1, u2⟩, ho, ⟨hr, hu⟩, hP1, -⟩, hF⟩ := hq
  have FR : ∀ lo hi' : Nat, hi' ≤ 129 → ([0, 44, 45, 46, 11, 12, 13, 15, 16, 17, 47, 48, 49, 50, 51, 52, 53, 54, 55, 56, 57, 58, 59, 60, 61, 62, 63, 64, 65, 66, 67] : List Nat).all (fun x => decide (x < lo) || decide (hi' ≤ x)) = true → ∀ j : Nat, lo ≤ j → j < hi' → ax j < st.heap.size → t.heap[ax j]? = st.heap[ax j]? := fun lo hi' h1 h2 => fr_ix hi h1 hF.2 [0, 44, 45, 46, 11, 12, 13, 15, 16, 17, 47, 48, 49, 50, 51, 52, 53, 54, 55, 56, 57, 58, 59, 60, 61, 62, 63, 64, 65, 66, 67] (by rfl) (by decide) h2
  have np0 : X10Pr dC dI G ax fa t.heap := ⟨zi0_13, hP1 0 _ rfl⟩
  have np4 : X10P1 dC dI G ax W0 N B t.heap := ⟨zn11_2, zf12, zf13, zf14, zf15, zf16, zf17, p4j0, p4j1, p4j2, p4j3, hP1 4 _ rfl, hP1 5 _ rfl, hP1 6 _ rfl, q14.kept (FR 14 15 (by decide) (by decide) 14 (by decide) (by decide) q14.lt), hP1 7 _ rfl, hP1 8 _ rfl, hP1 9 _ rfl⟩
  have np11 : X10P6 dC dI G ax t.heap := ⟨u0, u1, u2, hP1 1 _ rfl, hP1 2 _ rfl, hP1 3 _ rfl, vp_mid hP1, vp_mid2 hP1⟩
  exact ⟨⟨r, (), ho, hr.trans (wo9_c (by first | with_reducible assumption | assumption) hW9.2 (by first | with_reducible assumption | assumption) (by first | with_reducible assumption | assumption) (by first | with_reducible assumption | assumption)), ⟨np0, p1.kept (FR 1 2 (by decide) (by decide)), p2.kept (FR 2 4 (by decide) (by decide)), p3.kept (FR 4 11 (by decide) (by decide)), np4, p5.kept (FR 18 25 (by decide) (by decide)), p6.kept (FR 25 26 (by decide) (by decide)), p7.kept (FR 26 33 (by decide) (by decide)), p8.kept (FR 33 40 (by decide) (by decide)), p9.kept (FR 40 41 (by decide) (by decide)), p10.kept (FR 41 44 (by decide) (by decide)), np11, p12.kept (FR 68 69 (by decide) (by decide)), p13.kept (FR 69 74 (by decide) (by decide)), p14.kept (FR 74 77 (by decide) (by decide)), p15.kept (FR 77 102 (by decide) (by decide)), p16.kept (FR 102 112 (by decide) (by decide)), hX⟩⟩, hF.wide (ad_ix [0, 44, 45, 46, 11, 12, 13, 15, 16, 17, 47, 48, 49, 50, 51, 52, 53, 54, 55, 56, 57, 58, 59, 60, 61, 62, 63, 64, 65, 66, 67] (by rfl) (by decide))⟩

set_option maxHeartbeats 1000000 in
set_option maxRecDepth 100000 in
theorem k_X10_quiet (l : Launch) (dC : Nat → ClassId) (dI : Nat → Nat → Nat) (G : Nat → ClassId) (sz : Nat) (ax : Nat → Nat) (hi : adInj 129 ax) (T : Nat) (Y : Nat → Int32) (fa : Int32) (W0 : Nat → Int32) (W1 : Nat → Int32) (W2 : Nat → Int32) (N : Nat) (B : Nat) (N1 : Nat) (B1 : Nat) (N2 : Nat) (B2 : Nat) (K : Nat → Int32) (S : Nat) (M : Nat) (E : Nat → Int32) (Z : Nat → Int32) (mm : Int32) (what : Int32) : Met l yX10_quiet (Cond.code yX10_quiet cX10_quiet 10 (some .long) :: GT) ({ frames := 5, cells := 0, slots := 0, locals := 121 } : Room) (PcI [.ref (ax 0), .int mm, .int what] dC dI G (X10I dC dI G ax T Y fa W0 W1 W2 N B N1 B1 N2 B2 K S M E Z) sz) (va_Ql (fun (r : Int64) (_ : Unit) => True) (fun _ t => X10I dC dI G ax T Y fa W0 W1 W2 N B N1 B1 N2 B2 K S M E Z t.heap) (adX 0 112 ax sz)) 0 0 (adX 0 112 ax sz) := by
  refine Met.pick (fun a st hp => ?_)
  obtain ⟨e0, hsz, hI, hK⟩ := hp
  subst hsz
  have hI0 := hI
  unfold X10I at hI
  obtain ⟨p0, p1, p2, p3, p4, p5, p6, p7, p8, p9, p10, p11, p12, p13, p14, p15, p16, hX⟩ := hI
  unfold X10Pr at p0
  obtain ⟨zi0_13, q0⟩ := p0
  unfold X10P1 at p4
  obtain ⟨zn11_2, zf12, zf13, zf14, zf15, zf16, zf17, p4j0, p4j1, p4j2, p4j3, q11, q12, q13, q14, q15, q16, q17⟩ := p4
  unfold X10P2 at p5
  obtain ⟨zn18_0, zn18_1, zn18_2, zf19, zf20, zf21, zf22, zf23, zf24, p5j0, p5j1, p5j2, q18, q19, q20, q21, q22, q23, q24⟩ := p5
  unfold X10P5 at p10
  obtain ⟨zl41_0, zf42, zf43, q41, q42, q43⟩ := p10
  refine ⟨_, _, _, c_X10_quiet l dC dI G _ (ax 0) (ax 1) (ax 11) (ax 18) (ax 25) (ax 40) (ax 41) (ax 44) (ax 68) (ax 69) (ax 74) (ax 77) (ax 102) (ax 42) (ax 43) (ax 12) (ax 13) (ax 14) (ax 15) (ax 16) (ax 17) N B zn11_2 (ax 19) (ax 20) (ax 21) (ax 22) (ax 23) (ax 24) zn18_0 zn18_1 zn18_2 fa zi0_13 mm what zl41_0 zf12 zf13 zf14 zf15 zf16 zf17 zf19 zf20 zf21 zf22 zf23 zf24 zf42 zf43 (by first | with_reducible assumption | assumption) (by first | with_reducible assumption | assumption) (by first | with_reducible assumption | assumption) (by first | with_reducible assumption | assumption) (by first | with_reducible assumption | assumption) (by first | with_reducible assumption | assumption), ⟨e0, rfl, (vpc q0 (vpc q18 (vpc q19 (vpc q20 (vpc q21 (vpc q22 (vpc q23 (vpc q24 (vpc q41 (vpc q42 (vpc q43 (vpc q11 (vpc q12 (vpc q13 (vpc q14 (vpc q15 (vpc q16 (vpc q17 va_nilP)))))))))))))))))), hK, vD_ix hi [0, 18, 19, 20, 21, 22, 23, 24, 41, 42, 43, 11, 12, 13, 14, 15, 16, 17] (by rfl) (by decide) (by decide)⟩, ad_ix [0, 18, 19, 20, 21, 22, 23, 24, 41, 42, 43, 11, 12, 13, 14, 15, 16, 17] (by rfl) (by decide), fun o t hq => ?_⟩
  obtain ⟨⟨r, ⟨u0, u1, u2, u3, u4, u5, u6, u7, u8, u9, v1, v2⟩, ho, ⟨hr, hu⟩, hP1, -⟩, hF⟩ := hq
  have FR : ∀ lo hi' : Nat, hi' ≤ 129 → ([0, 18, 19, 20, 21, 22, 23, 24, 41, 42, 43, 11, 12, 13, 14, 15, 16, 17] : List Nat).all (fun x => decide (x < lo) || decide (hi' ≤ x)) = true → ∀ j : Nat, lo ≤ j → j < hi' → ax j < st.heap.size → t.heap[ax j]? = st.heap[ax j]? := fun lo hi' h1 h2 => fr_ix hi h1 hF.2 [0, 18, 19, 20, 21, 22, 23, 24, 41, 42, 43, 11, 12, 13, 14, 15, 16, 17] (by rfl) (by decide) h2
  have np0 : X10Pr dC dI G ax fa t.heap := ⟨zi0_13, hP1 0 _ rfl⟩
  have np4 : X10P1 dC dI G ax W0 N B t.heap := ⟨zn11_2, zf12, zf13, zf14, zf15, zf16, zf17, p4j0, p4j1, p4j2, p4j3, hP1 11 _ rfl, hP1 12 _ rfl, hP1 13 _ rfl, hP1 14 _ rfl, hP1 15 _ rfl, hP1 16 _ rfl, hP1 17 _ rfl⟩
  have np5 : X10P2 dC dI G ax t.heap := ⟨u0, u1, u2, u3, u4, u5, u6, u7, u8, (by first | omega | exact hu | exact hu.1 | exact hu.1.1 | exact hu.1.2 | exact hu.2 | exact hu.1.1.1 | exact hu.1.1.2 | exact fd_nn (by first | with_reducible assumption | assumption) | (split at hu <;> omega) | (split <;> omega) | exact E_inv (by first | with_reducible assumption | assumption)), (by first | omega | exact hu | exact hu.1 | exact hu.1.1 | exact hu.1.2 | exact hu.2 | exact hu.1.1.1 | exact hu.1.1.2 | exact fd_nn (by first | with_reducible assumption | assumption) | (split at hu <;> omega) | (split <;> omega) | exact E_inv (by first | with_reducible assumption | assumption)), (by first | omega | exact hu | exact hu.1 | exact hu.1.1 | exact hu.1.2 | exact hu.2 | exact hu.1.1.1 | exact hu.1.1.2 | exact fd_nn (by first | with_reducible assumption | assumption) | (split at hu <;> omega) | (split <;> omega) | exact E_inv (by first | with_reducible assumption | assumption)), hP1 1 _ rfl, hP1 2 _ rfl, hP1 3 _ rfl, hP1 4 _ rfl, hP1 5 _ rfl, hP1 6 _ rfl, hP1 7 _ rfl⟩
  have np10 : X10P5 dC dI G ax t.heap := ⟨u9, v1, v2, hP1 8 _ rfl, hP1 9 _ rfl, hP1 10 _ rfl⟩
  exact ⟨⟨r, (), ho, trivial, ⟨np0, p1.kept (FR 1 2 (by decide) (by decide)), p2.kept (FR 2 4 (by decide) (by decide)), p3.kept (FR 4 11 (by decide) (by decide)), np4, np5, p6.kept (FR 25 26 (by decide) (by decide)), p7.kept (FR 26 33 (by decide) (by decide)), p8.kept (FR 33 40 (by decide) (by decide)), p9.kept (FR 40 41 (by decide) (by decide)), np10, p11.kept (FR 44 68 (by decide) (by decide)), p12.kept (FR 68 69 (by decide) (by decide)), p13.kept (FR 69 74 (by decide) (by decide)), p14.kept (FR 74 77 (by decide) (by decide)), p15.kept (FR 77 102 (by decide) (by decide)), p16.kept (FR 102 112 (by decide) (by decide)), hX⟩⟩, hF.wide (ad_ix [0, 18, 19, 20, 21, 22, 23, 24, 41, 42, 43, 11, 12, 13, 14, 15, 16, 17] (by rfl) (by decide))⟩

set_option maxHeartbeats 1000000 in
set_option maxRecDepth 100000 in
theorem k_X10_drop (l : Launch) (dC : Nat → ClassId) (dI : Nat → Nat → Nat) (G : Nat → ClassId) (sz : Nat) (ax : Nat → Nat) (hi : adInj 129 ax) (T : Nat) (Y : Nat → Int32) (fa : Int32) (W0 : Nat → Int32) (W1 : Nat → Int32) (W2 : Nat → Int32) (N : Nat) (B : Nat) (N1 : Nat) (B1 : Nat) (N2 : Nat) (B2 : Nat) (K : Nat → Int32) (S : Nat) (M : Nat) (E : Nat → Int32) (Z : Nat → Int32) (what : Int32) : Met l yX10_drop (Cond.code yX10_drop cX10_drop 8 (some .long) :: GT) ({ frames := 5, cells := 0, slots := 0, locals := 112 } : Room) (PcI [.ref (ax 0), .int what] dC dI G (X10I dC dI G ax T Y fa W0 W1 W2 N B N1 B1 N2 B2 K S M E Z) sz) (va_Ql (fun (r : Int64) (_ : Unit) => True) (fun _ t => X10I dC dI G ax T Y fa W0 W1 W2 N B N1 B1 N2 B2 K S M E Z t.heap) (adX 0 112 ax sz)) 0 0 (adX 0 112 ax sz) := by
  refine Met.pick (fun a st hp => ?_)
  obtain ⟨e0, hsz, hI, hK⟩ := hp
  subst hsz
  have hI0 := hI
  unfold X10I at hI
  obtain ⟨p0, p1, p2, p3, p4, p5, p6, p7, p8, p9, p10, p11, p12, p13, p14, p15, p16, hX⟩ := hI
  unfold X10Pr at p0
  obtain ⟨zi0_13, q0⟩ := p0
  unfold X10P1 at p4
  obtain ⟨zn11_2, zf12, zf13, zf14, zf15, zf16, zf17, p4j0, p4j1, p4j2, p4j3, q11, q12, q13, q14, q15, q16, q17⟩ := p4
  unfold X10P5 at p10
  obtain ⟨zl41_0, zf42, zf43, q41, q42, q43⟩ := p10
  refine ⟨_, _, _, c_X10_drop l dC dI G _ (ax 0) (ax 1) (ax 11) (ax 18) (ax 25) (ax 40) (ax 41) (ax 44) (ax 68) (ax 69) (ax 74) (ax 77) (ax 102) (ax 42) (ax 43) (ax 12) (ax 13) (ax 14) (ax 15) (ax 16) (ax 17) N B zn11_2 fa zi0_13 what zl41_0 zf12 zf13 zf14 zf15 zf16 zf17 zf42 zf43 (by first | with_reducible assumption | assumption) (by first | with_reducible assumption | assumption) (by first | with_reducible assumption | assumption), ⟨e0, rfl, (vpc q0 (vpc q41 (vpc q42 (vpc q43 (vpc q11 (vpc q12 (vpc q13 (vpc q14 (vpc q15 (vpc q16 (vpc q17 va_nilP))))))))))), hK, vD_ix hi [0, 41, 42, 43, 11, 12, 13, 14, 15, 16, 17] (by rfl) (by decide) (by decide)⟩, ad_ix [0, 41, 42, 43, 11, 12, 13, 14, 15, 16, 17] (by rfl) (by decide), fun o t hq => ?_⟩
  obtain ⟨⟨r, ⟨u0, u1, u2⟩, ho, ⟨hr, hu⟩, hP1, -⟩, hF⟩ := hq
  have FR : ∀ lo hi' : Nat, hi' ≤ 129 → ([0, 41, 42, 43, 11, 12, 13, 14, 15, 16, 17] : List Nat).all (fun x => decide (x < lo) || decide (hi' ≤ x)) = true → ∀ j : Nat, lo ≤ j → j < hi' → ax j < st.heap.size → t.heap[ax j]? = st.heap[ax j]? := fun lo hi' h1 h2 => fr_ix hi h1 hF.2 [0, 41, 42, 43, 11, 12, 13, 14, 15, 16, 17] (by rfl) (by decide) h2
  have np0 : X10Pr dC dI G ax fa t.heap := ⟨zi0_13, hP1 0 _ rfl⟩
  have np4 : X10P1 dC dI G ax W0 N B t.heap := ⟨zn11_2, zf12, zf13, zf14, zf15, zf16, zf17, p4j0, p4j1, p4j2, p4j3, hP1 4 _ rfl, hP1 5 _ rfl, hP1 6 _ rfl, hP1 7 _ rfl, hP1 8 _ rfl, hP1 9 _ rfl, hP1 10 _ rfl⟩
  have np10 : X10P5 dC dI G ax t.heap := ⟨u0, u1, u2, hP1 1 _ rfl, hP1 2 _ rfl, hP1 3 _ rfl⟩
  exact ⟨⟨r, (), ho, trivial, ⟨np0, p1.kept (FR 1 2 (by decide) (by decide)), p2.kept (FR 2 4 (by decide) (by decide)), p3.kept (FR 4 11 (by decide) (by decide)), np4, p5.kept (FR 18 25 (by decide) (by decide)), p6.kept (FR 25 26 (by decide) (by decide)), p7.kept (FR 26 33 (by decide) (by decide)), p8.kept (FR 33 40 (by decide) (by decide)), p9.kept (FR 40 41 (by decide) (by decide)), np10, p11.kept (FR 44 68 (by decide) (by decide)), p12.kept (FR 68 69 (by decide) (by decide)), p13.kept (FR 69 74 (by decide) (by decide)), p14.kept (FR 74 77 (by decide) (by decide)), p15.kept (FR 77 102 (by decide) (by decide)), p16.kept (FR 102 112 (by decide) (by decide)), hX⟩⟩, hF.wide (ad_ix [0, 41, 42, 43, 11, 12, 13, 14, 15, 16, 17] (by rfl) (by decide))⟩

set_option maxHeartbeats 1000000 in
set_option maxRecDepth 100000 in
theorem k_X10_swap (l : Launch) (dC : Nat → ClassId) (dI : Nat → Nat → Nat) (G : Nat → ClassId) (sz : Nat) (ax : Nat → Nat) (hi : adInj 129 ax) (T : Nat) (Y : Nat → Int32) (fa : Int32) (W0 : Nat → Int32) (W1 : Nat → Int32) (W2 : Nat → Int32) (N : Nat) (B : Nat) (N1 : Nat) (B1 : Nat) (N2 : Nat) (B2 : Nat) (K : Nat → Int32) (S : Nat) (M : Nat) (E : Nat → Int32) (Z : Nat → Int32) (what : Int32) : Met l yX10_swap (Cond.code yX10_swap cX10_swap 9 (some .long) :: GT) ({ frames := 5, cells := 0, slots := 0, locals := 121 } : Room) (PcI [.ref (ax 0), .int what] dC dI G (X10I dC dI G ax T Y fa W0 W1 W2 N B N1 B1 N2 B2 K S M E Z) sz) (va_Ql (fun (r : Int64) (_ : Unit) => True) (fun _ t => X10I dC dI G ax T Y fa W0 W1 W2 N B N1 B1 N2 B2 K S M E Z t.heap) (adX 0 112 ax sz)) 0 0 (adX 0 112 ax sz) := by
  refine Met.pick (fun a st hp => ?_)
  obtain ⟨e0, hsz, hI, hK⟩ := hp
  subst hsz
  have hI0 := hI
  unfold X10I at hI
  obtain ⟨p0, p1, p2, p3, p4, p5, p6, p7, p8, p9, p10, p11, p12, p13, p14, p15, p16, hX⟩ := hI
  unfold X10Pr at p0
  obtain ⟨zi0_13, q0⟩ := p0
  unfold X10P1 at p4
  obtain ⟨zn11_2, zf12, zf13, zf14, zf15, zf16, zf17, p4j0, p4j1, p4j2, p4j3, q11, q12, q13, q14, q15, q16, q17⟩ := p4
  unfold X10P2 at p5
  obtain ⟨zn18_0, zn18_1, zn18_2, zf19, zf20, zf21, zf22, zf23, zf24, p5j0, p5j1, p5j2, q18, q19, q20, q21, q22, q23, q24⟩ := p5
  unfold X10P5 at p10
  obtain ⟨zl41_0, zf42, zf43, q41, q42, q43⟩ := p10
  refine ⟨_, _, _, c_X10_swap l dC dI G _ (ax 0) (ax 1) (ax 11) (ax 18) (ax 25) (ax 40) (ax 41) (ax 44) (ax 68) (ax 69) (ax 74) (ax 77) (ax 102) (ax 42) (ax 43) (ax 12) (ax 13) (ax 14) (ax 15) (ax 16) (ax 17) N B zn11_2 (ax 19) (ax 20) (ax 21) (ax 22) (ax 23) (ax 24) zn18_0 zn18_1 zn18_2 fa zi0_13 what zl41_0 zf12 zf13 zf14 zf15 zf16 zf17 zf19 zf20 zf21 zf22 zf23 zf24 zf42 zf43 (by first | with_reducible assumption | assumption) (by first | with_reducible assumption | assumption) (by first | with_reducible assumption | assumption) (by first | with_reducible assumption | assumption) (by first | with_reducible assumption | assumption) (by first | with_reducible assumption | assumption), ⟨e0, rfl, (vpc q0 (vpc q18 (vpc q19 (vpc q20 (vpc q21 (vpc q22 (vpc q23 (vpc q24 (vpc q41 (vpc q42 (vpc q43 (vpc q11 (vpc q12 (vpc q13 (vpc q14 (vpc q15 (vpc q16 (vpc q17 va_nilP)))))))))))))))))), hK, vD_ix hi [0, 18, 19, 20, 21, 22, 23, 24, 41, 42, 43, 11, 12, 13, 14, 15, 16, 17] (by rfl) (by decide) (by decide)⟩, ad_ix [0, 18, 19, 20, 21, 22, 23, 24, 41, 42, 43, 11, 12, 13, 14, 15, 16, 17] (by rfl) (by decide), fun o t hq => ?_⟩
  obtain ⟨⟨r, ⟨u0, u1, u2, u3, u4, u5, u6, u7, u8, u9, v1, v2⟩, ho, ⟨hr, hu⟩, hP1, -⟩, hF⟩ := hq
  have FR : ∀ lo hi' : Nat, hi' ≤ 129 → ([0, 18, 19, 20, 21, 22, 23, 24, 41, 42, 43, 11, 12, 13, 14, 15, 16, 17] : List Nat).all (fun x => decide (x < lo) || decide (hi' ≤ x)) = true → ∀ j : Nat, lo ≤ j → j < hi' → ax j < st.heap.size → t.heap[ax j]? = st.heap[ax j]? := fun lo hi' h1 h2 => fr_ix hi h1 hF.2 [0, 18, 19, 20, 21, 22, 23, 24, 41, 42, 43, 11, 12, 13, 14, 15, 16, 17] (by rfl) (by decide) h2
  have np0 : X10Pr dC dI G ax fa t.heap := ⟨zi0_13, hP1 0 _ rfl⟩
  have np4 : X10P1 dC dI G ax W0 N B t.heap := ⟨zn11_2, zf12, zf13, zf14, zf15, zf16, zf17, p4j0, p4j1, p4j2, p4j3, hP1 11 _ rfl, hP1 12 _ rfl, hP1 13 _ rfl, hP1 14 _ rfl, hP1 15 _ rfl, hP1 16 _ rfl, hP1 17 _ rfl⟩
  have np5 : X10P2 dC dI G ax t.heap := ⟨u0, u1, u2, u3, u4, u5, u6, u7, u8, (by first | omega | exact hu | exact hu.1 | exact hu.1.1 | exact hu.1.2 | exact hu.2 | exact hu.1.1.1 | exact hu.1.1.2 | exact fd_nn (by first | with_reducible assumption | assumption) | (split at hu <;> omega) | (split <;> omega) | exact E_inv (by first | with_reducible assumption | assumption)), (by first | omega | exact hu | exact hu.1 | exact hu.1.1 | exact hu.1.2 | exact hu.2 | exact hu.1.1.1 | exact hu.1.1.2 | exact fd_nn (by first | with_reducible assumption | assumption) | (split at hu <;> omega) | (split <;> omega) | exact E_inv (by first | with_reducible assumption | assumption)), (by first | omega | exact hu | exact hu.1 | exact hu.1.1 | exact hu.1.2 | exact hu.2 | exact hu.1.1.1 | exact hu.1.1.2 | exact fd_nn (by first | with_reducible assumption | assumption) | (split at hu <;> omega) | (split <;> omega) | exact E_inv (by first | with_reducible assumption | assumption)), hP1 1 _ rfl, hP1 2 _ rfl, hP1 3 _ rfl, hP1 4 _ rfl, hP1 5 _ rfl, hP1 6 _ rfl, hP1 7 _ rfl⟩
  have np10 : X10P5 dC dI G ax t.heap := ⟨u9, v1, v2, hP1 8 _ rfl, hP1 9 _ rfl, hP1 10 _ rfl⟩
  exact ⟨⟨r, (), ho, trivial, ⟨np0, p1.kept (FR 1 2 (by decide) (by decide)), p2.kept (FR 2 4 (by decide) (by decide)), p3.kept (FR 4 11 (by decide) (by decide)), np4, np5, p6.kept (FR 25 26 (by decide) (by decide)), p7.kept (FR 26 33 (by decide) (by decide)), p8.kept (FR 33 40 (by decide) (by decide)), p9.kept (FR 40 41 (by decide) (by decide)), np10, p11.kept (FR 44 68 (by decide) (by decide)), p12.kept (FR 68 69 (by decide) (by decide)), p13.kept (FR 69 74 (by decide) (by decide)), p14.kept (FR 74 77 (by decide) (by decide)), p15.kept (FR 77 102 (by decide) (by decide)), p16.kept (FR 102 112 (by decide) (by decide)), hX⟩⟩, hF.wide (ad_ix [0, 18, 19, 20, 21, 22, 23, 24, 41, 42, 43, 11, 12, 13, 14, 15, 16, 17] (by rfl) (by decide))⟩

set_option maxHeartbeats 1000000 in
set_option maxRecDepth 100000 in
theorem k_X10_carry (l : Launch) (dC : Nat → ClassId) (dI : Nat → Nat → Nat) (G : Nat → ClassId) (sz : Nat) (ax : Nat → Nat) (hi : adInj 129 ax) (T : Nat) (Y : Nat → Int32) (fa : Int32) (W0 : Nat → Int32) (W1 : Nat → Int32) (W2 : Nat → Int32) (N : Nat) (B : Nat) (N1 : Nat) (B1 : Nat) (N2 : Nat) (B2 : Nat) (K : Nat → Int32) (S : Nat) (M : Nat) (E : Nat → Int32) (Z : Nat → Int32) (sd : Int32) (what : Int32) : Met l yX10_carry (Cond.code yX10_carry cX10_carry 3 (some .int) :: GT) ({ frames := 5, cells := 0, slots := 0, locals := 112 } : Room) (PcI [.ref (ax 0), .int sd, .int what] dC dI G (X10I dC dI G ax T Y fa W0 W1 W2 N B N1 B1 N2 B2 K S M E Z) sz) (va_Qi (fun (r : Int32) (_ : Unit) => True) (fun _ t => X10I dC dI G ax T Y fa W0 W1 W2 N B N1 B1 N2 B2 K S M E Z t.heap) (adX 0 112 ax sz)) 0 0 (adX 0 112 ax sz) := by
  refine Met.pick (fun a st hp => ?_)
  obtain ⟨e0, hsz, hI, hK⟩ := hp
  subst hsz
  have hI0 := hI
  unfold X10I at hI
  obtain ⟨p0, p1, p2, p3, p4, p5, p6, p7, p8, p9, p10, p11, p12, p13, p14, p15, p16, hX⟩ := hI
  unfold X10Pr at p0
  obtain ⟨zi0_13, q0⟩ := p0
  unfold X10P1 at p4
  obtain ⟨zn11_2, zf12, zf13, zf14, zf15, zf16, zf17, p4j0, p4j1, p4j2, p4j3, q11, q12, q13, q14, q15, q16, q17⟩ := p4
  unfold X10P7 at p12
  obtain ⟨zi68_0, zi68_1, zi68_2, q68⟩ := p12
  refine ⟨_, _, _, c_X10_carry l dC dI G _ (ax 0) (ax 1) (ax 11) (ax 18) (ax 25) (ax 40) (ax 41) (ax 44) (ax 68) (ax 69) (ax 74) (ax 77) (ax 102) (ax 12) (ax 13) (ax 14) (ax 15) (ax 16) (ax 17) N B zn11_2 fa zi0_13 sd what zi68_0 zi68_1 zi68_2 zf12 zf13 zf14 zf15 zf16 zf17 (by first | with_reducible assumption | assumption) (by first | with_reducible assumption | assumption) (by first | with_reducible assumption | assumption), ⟨e0, rfl, (vpc q0 (vpc q68 (vpc q11 (vpc q12 (vpc q13 (vpc q14 (vpc q15 (vpc q16 (vpc q17 va_nilP))))))))), hK, vD_ix hi [0, 68, 11, 12, 13, 14, 15, 16, 17] (by rfl) (by decide) (by decide)⟩, ad_ix [0, 68, 11, 12, 13, 14, 15, 16, 17] (by rfl) (by decide), fun o t hq => ?_⟩
  obtain ⟨⟨r, ⟨u0, u1, u2⟩, ho, ⟨hr, hu⟩, hP1, -⟩, hF⟩ := hq
  have FR : ∀ lo hi' : Nat, hi' ≤ 129 → ([0, 68, 11, 12, 13, 14, 15, 16, 17] : List Nat).all (fun x => decide (x < lo) || decide (hi' ≤ x)) = true → ∀ j : Nat, lo ≤ j → j < hi' → ax j < st.heap.size → t.heap[ax j]? = st.heap[ax j]? := fun lo hi' h1 h2 => fr_ix hi h1 hF.2 [0, 68, 11, 12, 13, 14, 15, 16, 17] (by rfl) (by decide) h2
  have np0 : X10Pr dC dI G ax fa t.heap := ⟨zi0_13, hP1 0 _ rfl⟩
  have np4 : X10P1 dC dI G ax W0 N B t.heap := ⟨zn11_2, zf12, zf13, zf14, zf15, zf16, zf17, p4j0, p4j1, p4j2, p4j3, hP1 2 _ rfl, hP1 3 _ rfl, hP1 4 _ rfl, hP1 5 _ rfl, hP1 6 _ rfl, hP1 7 _ rfl, hP1 8 _ rfl⟩
  have np12 : X10P7 dC dI G ax t.heap := ⟨u0, u1, u2, hP1 1 _ rfl⟩
  exact ⟨⟨r, (), ho, trivial, ⟨np0, p1.kept (FR 1 2 (by decide) (by decide)), p2.kept (FR 2 4 (by decide) (by decide)), p3.kept (FR 4 11 (by decide) (by decide)), np4, p5.kept (FR 18 25 (by decide) (by decide)), p6.kept (FR 25 26 (by decide) (by decide)), p7.kept (FR 26 33 (by decide) (by decide)), p8.kept (FR 33 40 (by decide) (by decide)), p9.kept (FR 40 41 (by decide) (by decide)), p10.kept (FR 41 44 (by decide) (by decide)), p11.kept (FR 44 68 (by decide) (by decide)), np12, p13.kept (FR 69 74 (by decide) (by decide)), p14.kept (FR 74 77 (by decide) (by decide)), p15.kept (FR 77 102 (by decide) (by decide)), p16.kept (FR 102 112 (by decide) (by decide)), hX⟩⟩, hF.wide (ad_ix [0, 68, 11, 12, 13, 14, 15, 16, 17] (by rfl) (by decide))⟩

set_option maxHeartbeats 1000000 in
set_option maxRecDepth 100000 in
theorem k_X10_learnE (l : Launch) (dC : Nat → ClassId) (dI : Nat → Nat → Nat) (G : Nat → ClassId) (sz : Nat) (ax : Nat → Nat) (hi : adInj 129 ax) (T : Nat) (Y : Nat → Int32) (fa : Int32) (W0 : Nat → Int32) (W1 : Nat → Int32) (W2 : Nat → Int32) (N : Nat) (B : Nat) (N1 : Nat) (B1 : Nat) (N2 : Nat) (B2 : Nat) (K : Nat → Int32) (S : Nat) (M : Nat) (E : Nat → Int32) (Z : Nat → Int32) (i : Int32) (g : Int32) (k : Int32) (hm : Int32) : Met l yX10_learn (Cond.code yX10_learn cX10_learn 5 (some .int) :: GT) ({ frames := 2, cells := 0, slots := 0, locals := 44 } : Room) (PcI [.ref (ax 0), .int i, .int g, .int k, .int hm] dC dI G (X10I dC dI G ax T Y fa W0 W1 W2 N B N1 B1 N2 B2 K S M E Z) sz) (va_Qi (fun (r : Int32) (_ : Unit) => r = if ((0 ≤ i.toInt ∧ i.toInt < ((N : Nat) : Int)) ∧ (g.toInt = -4 ∨ (0 ≤ g.toInt ∧ g.toInt < ((B : Nat) : Int))) ∧ (0 ≤ k.toInt ∧ k.toInt < ((B : Nat) : Int)) ∧ 0 ≤ hm.toInt ∧ hm.toInt ≤ 20) then (if S < 8 then nI (S + 1) else -3) else -1) (fun _ t => X10I dC dI G ax T Y fa W0 W1 W2 N B N1 B1 N2 B2 K (if ((0 ≤ i.toInt ∧ i.toInt < ((N : Nat) : Int)) ∧ (g.toInt = -4 ∨ (0 ≤ g.toInt ∧ g.toInt < ((B : Nat) : Int))) ∧ (0 ≤ k.toInt ∧ k.toInt < ((B : Nat) : Int)) ∧ 0 ≤ hm.toInt ∧ hm.toInt ≤ 20) ∧ S < 8 then S + 1 else S) M E Z t.heap) (adX 0 112 ax sz)) 0 0 (adX 0 112 ax sz) := by
  refine Met.pick (fun a st hp => ?_)
  obtain ⟨e0, hsz, hI, hK⟩ := hp
  subst hsz
  have hI0 := hI
  unfold X10I at hI
  obtain ⟨p0, p1, p2, p3, p4, p5, p6, p7, p8, p9, p10, p11, p12, p13, p14, p15, p16, hX⟩ := hI
  unfold X10Pr at p0
  obtain ⟨zi0_13, q0⟩ := p0
  unfold X10P1 at p4
  obtain ⟨zn11_2, zf12, zf13, zf14, zf15, zf16, zf17, p4j0, p4j1, p4j2, p4j3, q11, q12, q13, q14, q15, q16, q17⟩ := p4
  unfold X10P8 at p13
  obtain ⟨zf70, zf71, zf72, zf73, p13j0, q69, q70, q71, q72, q73⟩ := p13
  refine ⟨_, _, _, c_X10_learnE l dC dI G _ (ax 0) (ax 1) (ax 11) (ax 18) (ax 25) (ax 40) (ax 41) (ax 44) (ax 68) (ax 69) (ax 74) (ax 77) (ax 102) (ax 12) (ax 13) (ax 14) (ax 15) (ax 16) (ax 17) N B zn11_2 (ax 70) (ax 71) (ax 72) (ax 73) S fa zi0_13 i g k hm zf70 zf71 zf72 zf73 (by first | with_reducible assumption | assumption) (by first | with_reducible assumption | assumption) (by first | with_reducible assumption | assumption) (by first | with_reducible assumption | assumption), ⟨e0, rfl, (vpc q0 (vpc q11 (vpc q69 (vpc q70 (vpc q71 (vpc q72 (vpc q73 va_nilP))))))), hK, vD_ix hi [0, 11, 69, 70, 71, 72, 73] (by rfl) (by decide) (by decide)⟩, ad_ix [0, 11, 69, 70, 71, 72, 73] (by rfl) (by decide), fun o t hq => ?_⟩
  obtain ⟨⟨r, ⟨u0, u1, u2, u3, u4⟩, ho, ⟨hr, hu⟩, hP1, -⟩, hF⟩ := hq
  have FR : ∀ lo hi' : Nat, hi' ≤ 129 → ([0, 11, 69, 70, 71, 72, 73] : List Nat).all (fun x => decide (x < lo) || decide (hi' ≤ x)) = true → ∀ j : Nat, lo ≤ j → j < hi' → ax j < st.heap.size → t.heap[ax j]? = st.heap[ax j]? := fun lo hi' h1 h2 => fr_ix hi h1 hF.2 [0, 11, 69, 70, 71, 72, 73] (by rfl) (by decide) h2
  have xS : (if ((0 ≤ i.toInt ∧ i.toInt < ((N : Nat) : Int)) ∧ (g.toInt = -4 ∨ (0 ≤ g.toInt ∧ g.toInt < ((B : Nat) : Int))) ∧ (0 ≤ k.toInt ∧ k.toInt < ((B : Nat) : Int)) ∧ 0 ≤ hm.toInt ∧ hm.toInt ≤ 20) ∧ S < 8 then S + 1 else S) = u0 := Eq.symm (by first | exact hu | exact hu.1 | exact hu.2 | exact hu.1.1 | exact hu.1.2 | exact hu.2.1.trans (txt_cf (by first | with_reducible assumption | assumption)) | exact hu.2.1.trans (txt_rf (by first | with_reducible assumption | assumption)) | exact hu.1.1.trans lmap_step | omega)
  subst xS
  have np0 : X10Pr dC dI G ax fa t.heap := ⟨zi0_13, hP1 0 _ rfl⟩
  have np4 : X10P1 dC dI G ax W0 N B t.heap := ⟨zn11_2, zf12, zf13, zf14, zf15, zf16, zf17, p4j0, p4j1, p4j2, p4j3, hP1 1 _ rfl, q12.kept (FR 12 13 (by decide) (by decide) 12 (by decide) (by decide) q12.lt), q13.kept (FR 13 14 (by decide) (by decide) 13 (by decide) (by decide) q13.lt), q14.kept (FR 14 15 (by decide) (by decide) 14 (by decide) (by decide) q14.lt), q15.kept (FR 15 16 (by decide) (by decide) 15 (by decide) (by decide) q15.lt), q16.kept (FR 16 17 (by decide) (by decide) 16 (by decide) (by decide) q16.lt), q17.kept (FR 17 18 (by decide) (by decide) 17 (by decide) (by decide) q17.lt)⟩
  have np13 : X10P8 dC dI G ax (if ((0 ≤ i.toInt ∧ i.toInt < ((N : Nat) : Int)) ∧ (g.toInt = -4 ∨ (0 ≤ g.toInt ∧ g.toInt < ((B : Nat) : Int))) ∧ (0 ≤ k.toInt ∧ k.toInt < ((B : Nat) : Int)) ∧ 0 ≤ hm.toInt ∧ hm.toInt ≤ 20) ∧ S < 8 then S + 1 else S) t.heap := ⟨u1, u2, u3, u4, (by first | omega | exact hu | exact hu.1 | exact hu.1.1 | exact hu.1.2 | exact hu.2 | exact hu.1.1.1 | exact hu.1.1.2 | exact fd_nn (by first | with_reducible assumption | assumption) | (split at hu <;> omega) | (split <;> omega) | exact E_inv (by first | with_reducible assumption | assumption)), hP1 2 _ rfl, hP1 3 _ rfl, hP1 4 _ rfl, hP1 5 _ rfl, hP1 6 _ rfl⟩
  exact ⟨⟨r, (), ho, hr, ⟨np0, p1.kept (FR 1 2 (by decide) (by decide)), p2.kept (FR 2 4 (by decide) (by decide)), p3.kept (FR 4 11 (by decide) (by decide)), np4, p5.kept (FR 18 25 (by decide) (by decide)), p6.kept (FR 25 26 (by decide) (by decide)), p7.kept (FR 26 33 (by decide) (by decide)), p8.kept (FR 33 40 (by decide) (by decide)), p9.kept (FR 40 41 (by decide) (by decide)), p10.kept (FR 41 44 (by decide) (by decide)), p11.kept (FR 44 68 (by decide) (by decide)), p12.kept (FR 68 69 (by decide) (by decide)), np13, p14.kept (FR 74 77 (by decide) (by decide)), p15.kept (FR 77 102 (by decide) (by decide)), p16.kept (FR 102 112 (by decide) (by decide)), hX⟩⟩, hF.wide (ad_ix [0, 11, 69, 70, 71, 72, 73] (by rfl) (by decide))⟩

set_option maxHeartbeats 1000000 in
set_option maxRecDepth 100000 in
theorem k_X10_forgetE (l : Launch) (dC : Nat → ClassId) (dI : Nat → Nat → Nat) (G : Nat → ClassId) (sz : Nat) (ax : Nat → Nat) (hi : adInj 129 ax) (T : Nat) (Y : Nat → Int32) (fa : Int32) (W0 : Nat → Int32) (W1 : Nat → Int32) (W2 : Nat → Int32) (N : Nat) (B : Nat) (N1 : Nat) (B1 : Nat) (N2 : Nat) (B2 : Nat) (K : Nat → Int32) (S : Nat) (M : Nat) (E : Nat → Int32) (Z : Nat → Int32) (n : Int32) : Met l yX10_forget (Cond.code yX10_forget cX10_forget 3 (some .int) :: GT) ({ frames := 0, cells := 0, slots := 0, locals := 0 } : Room) (PcI [.ref (ax 0), .int n] dC dI G (X10I dC dI G ax T Y fa W0 W1 W2 N B N1 B1 N2 B2 K S M E Z) sz) (va_Qi (fun (r : Int32) (_ : Unit) => r = if 0 ≤ n.toInt ∧ n.toInt ≤ ((S : Nat) : Int) then nI S else -1) (fun _ t => X10I dC dI G ax T Y fa W0 W1 W2 N B N1 B1 N2 B2 K (if 0 ≤ n.toInt ∧ n.toInt ≤ ((S : Nat) : Int) then n.toNatClampNeg else S) M E Z t.heap) (adX 0 112 ax sz)) 0 0 (adX 0 112 ax sz) := by
  refine Met.pick (fun a st hp => ?_)
  obtain ⟨e0, hsz, hI, hK⟩ := hp
  subst hsz
  have hI0 := hI
  unfold X10I at hI
  obtain ⟨p0, p1, p2, p3, p4, p5, p6, p7, p8, p9, p10, p11, p12, p13, p14, p15, p16, hX⟩ := hI
  unfold X10Pr at p0
  obtain ⟨zi0_13, q0⟩ := p0
  unfold X10P8 at p13
  obtain ⟨zf70, zf71, zf72, zf73, p13j0, q69, q70, q71, q72, q73⟩ := p13
  refine ⟨_, _, _, c_X10_forgetE l dC dI G _ (ax 0) (ax 1) (ax 11) (ax 18) (ax 25) (ax 40) (ax 41) (ax 44) (ax 68) (ax 69) (ax 74) (ax 77) (ax 102) (ax 70) (ax 71) (ax 72) (ax 73) S fa zi0_13 n (by first | with_reducible assumption | assumption), ⟨e0, rfl, (vpc q0 (vpc q69 va_nilP)), hK, vD_ix hi [0, 69] (by rfl) (by decide) (by decide)⟩, ad_ix [0, 69] (by rfl) (by decide), fun o t hq => ?_⟩
  obtain ⟨⟨r, u1, ho, ⟨hr, hu⟩, hP1, -⟩, hF⟩ := hq
  have FR : ∀ lo hi' : Nat, hi' ≤ 129 → ([0, 69] : List Nat).all (fun x => decide (x < lo) || decide (hi' ≤ x)) = true → ∀ j : Nat, lo ≤ j → j < hi' → ax j < st.heap.size → t.heap[ax j]? = st.heap[ax j]? := fun lo hi' h1 h2 => fr_ix hi h1 hF.2 [0, 69] (by rfl) (by decide) h2
  have xS : (if 0 ≤ n.toInt ∧ n.toInt ≤ ((S : Nat) : Int) then n.toNatClampNeg else S) = u1 := Eq.symm (by first | exact hu | exact hu.1 | exact hu.2 | exact hu.1.1 | exact hu.1.2 | exact hu.2.1.trans (txt_cf (by first | with_reducible assumption | assumption)) | exact hu.2.1.trans (txt_rf (by first | with_reducible assumption | assumption)) | exact hu.1.1.trans lmap_step | omega)
  subst xS
  have np0 : X10Pr dC dI G ax fa t.heap := ⟨zi0_13, hP1 0 _ rfl⟩
  have np13 : X10P8 dC dI G ax (if 0 ≤ n.toInt ∧ n.toInt ≤ ((S : Nat) : Int) then n.toNatClampNeg else S) t.heap := ⟨zf70, zf71, zf72, zf73, (by first | omega | exact hu | exact hu.1 | exact hu.1.1 | exact hu.1.2 | exact hu.2 | exact hu.1.1.1 | exact hu.1.1.2 | exact fd_nn (by first | with_reducible assumption | assumption) | (split at hu <;> omega) | (split <;> omega) | exact E_inv (by first | with_reducible assumption | assumption)), hP1 1 _ rfl, q70.kept (FR 70 71 (by decide) (by decide) 70 (by decide) (by decide) q70.lt), q71.kept (FR 71 72 (by decide) (by decide) 71 (by decide) (by decide) q71.lt), q72.kept (FR 72 73 (by decide) (by decide) 72 (by decide) (by decide) q72.lt), q73.kept (FR 73 74 (by decide) (by decide) 73 (by decide) (by decide) q73.lt)⟩
  exact ⟨⟨r, (), ho, hr, ⟨np0, p1.kept (FR 1 2 (by decide) (by decide)), p2.kept (FR 2 4 (by decide) (by decide)), p3.kept (FR 4 11 (by decide) (by decide)), p4.kept (FR 11 18 (by decide) (by decide)), p5.kept (FR 18 25 (by decide) (by decide)), p6.kept (FR 25 26 (by decide) (by decide)), p7.kept (FR 26 33 (by decide) (by decide)), p8.kept (FR 33 40 (by decide) (by decide)), p9.kept (FR 40 41 (by decide) (by decide)), p10.kept (FR 41 44 (by decide) (by decide)), p11.kept (FR 44 68 (by decide) (by decide)), p12.kept (FR 68 69 (by decide) (by decide)), np13, p14.kept (FR 74 77 (by decide) (by decide)), p15.kept (FR 77 102 (by decide) (by decide)), p16.kept (FR 102 112 (by decide) (by decide)), hX⟩⟩, hF.wide (ad_ix [0, 69] (by rfl) (by decide))⟩

set_option maxHeartbeats 1000000 in
set_option maxRecDepth 100000 in
theorem k_X10_steps (l : Launch) (dC : Nat → ClassId) (dI : Nat → Nat → Nat) (G : Nat → ClassId) (sz : Nat) (ax : Nat → Nat) (hi : adInj 129 ax) (T : Nat) (Y : Nat → Int32) (fa : Int32) (W0 : Nat → Int32) (W1 : Nat → Int32) (W2 : Nat → Int32) (N : Nat) (B : Nat) (N1 : Nat) (B1 : Nat) (N2 : Nat) (B2 : Nat) (K : Nat → Int32) (S : Nat) (M : Nat) (E : Nat → Int32) (Z : Nat → Int32) (b : Int32) (what : Int32) : Met l yX10_steps (Cond.code yX10_steps cX10_steps 7 (some .int) :: GT) ({ frames := 4, cells := 0, slots := 0, locals := 121 } : Room) (PcI [.ref (ax 0), .int b, .int what] dC dI G (X10I dC dI G ax T Y fa W0 W1 W2 N B N1 B1 N2 B2 K S M E Z) sz) (va_Qi (fun (r : Int32) (_ : Unit) => True) (fun _ t => X10I dC dI G ax T Y fa W0 W1 W2 N B N1 B1 N2 B2 K S M E Z t.heap) (adX 0 112 ax sz)) 0 0 (adX 0 112 ax sz) := by
  refine Met.pick (fun a st hp => ?_)
  obtain ⟨e0, hsz, hI, hK⟩ := hp
  subst hsz
  have hI0 := hI
  unfold X10I at hI
  obtain ⟨p0, p1, p2, p3, p4, p5, p6, p7, p8, p9, p10, p11, p12, p13, p14, p15, p16, hX⟩ := hI
  unfold X10Pr at p0
  obtain ⟨zi0_13, q0⟩ := p0
  unfold X10P1 at p4
  obtain ⟨zn11_2, zf12, zf13, zf14, zf15, zf16, zf17, p4j0, p4j1, p4j2, p4j3, q11, q12, q13, q14, q15, q16, q17⟩ := p4
  unfold X10P2 at p5
  obtain ⟨zn18_0, zn18_1, zn18_2, zf19, zf20, zf21, zf22, zf23, zf24, p5j0, p5j1, p5j2, q18, q19, q20, q21, q22, q23, q24⟩ := p5
  unfold X10P8 at p13
  obtain ⟨zf70, zf71, zf72, zf73, p13j0, q69, q70, q71, q72, q73⟩ := p13
  refine ⟨_, _, _, c_X10_steps l dC dI G _ (ax 0) (ax 1) (ax 11) (ax 18) (ax 25) (ax 40) (ax 41) (ax 44) (ax 68) (ax 69) (ax 74) (ax 77) (ax 102) (ax 12) (ax 13) (ax 14) (ax 15) (ax 16) (ax 17) N B zn11_2 (ax 19) (ax 20) (ax 21) (ax 22) (ax 23) (ax 24) zn18_0 zn18_1 zn18_2 (ax 70) (ax 71) (ax 72) (ax 73) S fa zi0_13 b what zf12 zf13 zf14 zf15 zf16 zf17 zf19 zf20 zf21 zf22 zf23 zf24 zf70 zf71 zf72 zf73 (by first | with_reducible assumption | assumption) (by first | with_reducible assumption | assumption) (by first | with_reducible assumption | assumption) (by first | with_reducible assumption | assumption) (by first | with_reducible assumption | assumption) (by first | with_reducible assumption | assumption) (by first | with_reducible assumption | assumption), ⟨e0, rfl, (vpc q0 (vpc q18 (vpc q19 (vpc q20 (vpc q21 (vpc q22 (vpc q23 (vpc q24 (vpc q11 (vpc q12 (vpc q13 (vpc q14 (vpc q15 (vpc q16 (vpc q17 (vpc q69 (vpc q70 (vpc q71 (vpc q72 (vpc q73 va_nilP)))))))))))))))))))), hK, vD_ix hi [0, 18, 19, 20, 21, 22, 23, 24, 11, 12, 13, 14, 15, 16, 17, 69, 70, 71, 72, 73] (by rfl) (by decide) (by decide)⟩, ad_ix [0, 18, 19, 20, 21, 22, 23, 24, 11, 12, 13, 14, 15, 16, 17, 69, 70, 71, 72, 73] (by rfl) (by decide), fun o t hq => ?_⟩
  obtain ⟨⟨r, ⟨u0, u1, u2, u3, u4, u5, u6, u7, u8⟩, ho, ⟨hr, hu⟩, hP1, -⟩, hF⟩ := hq
  have FR : ∀ lo hi' : Nat, hi' ≤ 129 → ([0, 18, 19, 20, 21, 22, 23, 24, 11, 12, 13, 14, 15, 16, 17, 69, 70, 71, 72, 73] : List Nat).all (fun x => decide (x < lo) || decide (hi' ≤ x)) = true → ∀ j : Nat, lo ≤ j → j < hi' → ax j < st.heap.size → t.heap[ax j]? = st.heap[ax j]? := fun lo hi' h1 h2 => fr_ix hi h1 hF.2 [0, 18, 19, 20, 21, 22, 23, 24, 11, 12, 13, 14, 15, 16, 17, 69, 70, 71, 72, 73] (by rfl) (by decide) h2
  have np0 : X10Pr dC dI G ax fa t.heap := ⟨zi0_13, hP1 0 _ rfl⟩
  have np4 : X10P1 dC dI G ax W0 N B t.heap := ⟨zn11_2, zf12, zf13, zf14, zf15, zf16, zf17, p4j0, p4j1, p4j2, p4j3, hP1 8 _ rfl, hP1 9 _ rfl, hP1 10 _ rfl, hP1 11 _ rfl, hP1 12 _ rfl, hP1 13 _ rfl, hP1 14 _ rfl⟩
  have np5 : X10P2 dC dI G ax t.heap := ⟨u0, u1, u2, u3, u4, u5, u6, u7, u8, (by first | omega | exact hu | exact hu.1 | exact hu.1.1 | exact hu.1.2 | exact hu.2 | exact hu.1.1.1 | exact hu.1.1.2 | exact fd_nn (by first | with_reducible assumption | assumption) | (split at hu <;> omega) | (split <;> omega) | exact E_inv (by first | with_reducible assumption | assumption)), (by first | omega | exact hu | exact hu.1 | exact hu.1.1 | exact hu.1.2 | exact hu.2 | exact hu.1.1.1 | exact hu.1.1.2 | exact fd_nn (by first | with_reducible assumption | assumption) | (split at hu <;> omega) | (split <;> omega) | exact E_inv (by first | with_reducible assumption | assumption)), (by first | omega | exact hu | exact hu.1 | exact hu.1.1 | exact hu.1.2 | exact hu.2 | exact hu.1.1.1 | exact hu.1.1.2 | exact fd_nn (by first | with_reducible assumption | assumption) | (split at hu <;> omega) | (split <;> omega) | exact E_inv (by first | with_reducible assumption | assumption)), hP1 1 _ rfl, hP1 2 _ rfl, hP1 3 _ rfl, hP1 4 _ rfl, hP1 5 _ rfl, hP1 6 _ rfl, hP1 7 _ rfl⟩
  have np13 : X10P8 dC dI G ax S t.heap := ⟨zf70, zf71, zf72, zf73, p13j0, hP1 15 _ rfl, hP1 16 _ rfl, hP1 17 _ rfl, hP1 18 _ rfl, hP1 19 _ rfl⟩
  exact ⟨⟨r, (), ho, trivial, ⟨np0, p1.kept (FR 1 2 (by decide) (by decide)), p2.kept (FR 2 4 (by decide) (by decide)), p3.kept (FR 4 11 (by decide) (by decide)), np4, np5, p6.kept (FR 25 26 (by decide) (by decide)), p7.kept (FR 26 33 (by decide) (by decide)), p8.kept (FR 33 40 (by decide) (by decide)), p9.kept (FR 40 41 (by decide) (by decide)), p10.kept (FR 41 44 (by decide) (by decide)), p11.kept (FR 44 68 (by decide) (by decide)), p12.kept (FR 68 69 (by decide) (by decide)), np13, p14.kept (FR 74 77 (by decide) (by decide)), p15.kept (FR 77 102 (by decide) (by decide)), p16.kept (FR 102 112 (by decide) (by decide)), hX⟩⟩, hF.wide (ad_ix [0, 18, 19, 20, 21, 22, 23, 24, 11, 12, 13, 14, 15, 16, 17, 69, 70, 71, 72, 73] (by rfl) (by decide))⟩

set_option maxHeartbeats 1000000 in
set_option maxRecDepth 100000 in
theorem k_X10_markE (l : Launch) (dC : Nat → ClassId) (dI : Nat → Nat → Nat) (G : Nat → ClassId) (sz : Nat) (ax : Nat → Nat) (hi : adInj 129 ax) (T : Nat) (Y : Nat → Int32) (fa : Int32) (W0 : Nat → Int32) (W1 : Nat → Int32) (W2 : Nat → Int32) (N : Nat) (B : Nat) (N1 : Nat) (B1 : Nat) (N2 : Nat) (B2 : Nat) (K : Nat → Int32) (S : Nat) (M : Nat) (E : Nat → Int32) (Z : Nat → Int32) (i : Int32) (d : Int32) : Met l yX10_mark (Cond.code yX10_mark cX10_mark 3 (some .int) :: GT) ({ frames := 1, cells := 0, slots := 0, locals := 22 } : Room) (PcI [.ref (ax 0), .int i, .int d] dC dI G (X10I dC dI G ax T Y fa W0 W1 W2 N B N1 B1 N2 B2 K S M E Z) sz) (va_Qi (fun (r : Int32) (_ : Unit) => r = if ((0 ≤ i.toInt ∧ i.toInt < ((N : Nat) : Int)) ∧ 0 ≤ d.toInt ∧ d.toInt ≤ 9) then (if M < 6 then nI (M + 1) else -3) else -1) (fun _ t => X10I dC dI G ax T Y fa W0 W1 W2 N B N1 B1 N2 B2 K S (if ((0 ≤ i.toInt ∧ i.toInt < ((N : Nat) : Int)) ∧ 0 ≤ d.toInt ∧ d.toInt ≤ 9) ∧ M < 6 then M + 1 else M) E Z t.heap) (adX 0 112 ax sz)) 0 0 (adX 0 112 ax sz) := by
  refine Met.pick (fun a st hp => ?_)
  obtain ⟨e0, hsz, hI, hK⟩ := hp
  subst hsz
  have hI0 := hI
  unfold X10I at hI
  obtain ⟨p0, p1, p2, p3, p4, p5, p6, p7, p8, p9, p10, p11, p12, p13, p14, p15, p16, hX⟩ := hI
  unfold X10Pr at p0
  obtain ⟨zi0_13, q0⟩ := p0
  unfold X10P1 at p4
  obtain ⟨zn11_2, zf12, zf13, zf14, zf15, zf16, zf17, p4j0, p4j1, p4j2, p4j3, q11, q12, q13, q14, q15, q16, q17⟩ := p4
  unfold X10P9 at p14
  obtain ⟨zf75, zf76, p14j0, q74, q75, q76⟩ := p14
  refine ⟨_, _, _, c_X10_markE l dC dI G _ (ax 0) (ax 1) (ax 11) (ax 18) (ax 25) (ax 40) (ax 41) (ax 44) (ax 68) (ax 69) (ax 74) (ax 77) (ax 102) (ax 12) (ax 13) (ax 14) (ax 15) (ax 16) (ax 17) N B zn11_2 (ax 75) (ax 76) M fa zi0_13 i d zf75 zf76 (by first | with_reducible assumption | assumption) (by first | with_reducible assumption | assumption) (by first | with_reducible assumption | assumption) (by first | with_reducible assumption | assumption), ⟨e0, rfl, (vpc q0 (vpc q11 (vpc q74 (vpc q75 (vpc q76 va_nilP))))), hK, vD_ix hi [0, 11, 74, 75, 76] (by rfl) (by decide) (by decide)⟩, ad_ix [0, 11, 74, 75, 76] (by rfl) (by decide), fun o t hq => ?_⟩
  obtain ⟨⟨r, ⟨u0, u1, u2⟩, ho, ⟨hr, hu⟩, hP1, -⟩, hF⟩ := hq
  have FR : ∀ lo hi' : Nat, hi' ≤ 129 → ([0, 11, 74, 75, 76] : List Nat).all (fun x => decide (x < lo) || decide (hi' ≤ x)) = true → ∀ j : Nat, lo ≤ j → j < hi' → ax j < st.heap.size → t.heap[ax j]? = st.heap[ax j]? := fun lo hi' h1 h2 => fr_ix hi h1 hF.2 [0, 11, 74, 75, 76] (by rfl) (by decide) h2
  have xM : (if ((0 ≤ i.toInt ∧ i.toInt < ((N : Nat) : Int)) ∧ 0 ≤ d.toInt ∧ d.toInt ≤ 9) ∧ M < 6 then M + 1 else M) = u0 := Eq.symm (by first | exact hu | exact hu.1 | exact hu.2 | exact hu.1.1 | exact hu.1.2 | exact hu.2.1.trans (txt_cf (by first | with_reducible assumption | assumption)) | exact hu.2.1.trans (txt_rf (by first | with_reducible assumption | assumption)) | exact hu.1.1.trans lmap_step | omega)
  subst xM
  have np0 : X10Pr dC dI G ax fa t.heap := ⟨zi0_13, hP1 0 _ rfl⟩
  have np4 : X10P1 dC dI G ax W0 N B t.heap := ⟨zn11_2, zf12, zf13, zf14, zf15, zf16, zf17, p4j0, p4j1, p4j2, p4j3, hP1 1 _ rfl, q12.kept (FR 12 13 (by decide) (by decide) 12 (by decide) (by decide) q12.lt), q13.kept (FR 13 14 (by decide) (by decide) 13 (by decide) (by decide) q13.lt), q14.kept (FR 14 15 (by decide) (by decide) 14 (by decide) (by decide) q14.lt), q15.kept (FR 15 16 (by decide) (by decide) 15 (by decide) (by decide) q15.lt), q16.kept (FR 16 17 (by decide) (by decide) 16 (by decide) (by decide) q16.lt), q17.kept (FR 17 18 (by decide) (by decide) 17 (by decide) (by decide) q17.lt)⟩
  have np14 : X10P9 dC dI G ax (if ((0 ≤ i.toInt ∧ i.toInt < ((N : Nat) : Int)) ∧ 0 ≤ d.toInt ∧ d.toInt ≤ 9) ∧ M < 6 then M + 1 else M) t.heap := ⟨u1, u2, (by first | omega | exact hu | exact hu.1 | exact hu.1.1 | exact hu.1.2 | exact hu.2 | exact hu.1.1.1 | exact hu.1.1.2 | exact fd_nn (by first | with_reducible assumption | assumption) | (split at hu <;> omega) | (split <;> omega) | exact E_inv (by first | with_reducible assumption | assumption)), hP1 2 _ rfl, hP1 3 _ rfl, hP1 4 _ rfl⟩
  exact ⟨⟨r, (), ho, hr, ⟨np0, p1.kept (FR 1 2 (by decide) (by decide)), p2.kept (FR 2 4 (by decide) (by decide)), p3.kept (FR 4 11 (by decide) (by decide)), np4, p5.kept (FR 18 25 (by decide) (by decide)), p6.kept (FR 25 26 (by decide) (by decide)), p7.kept (FR 26 33 (by decide) (by decide)), p8.kept (FR 33 40 (by decide) (by decide)), p9.kept (FR 40 41 (by decide) (by decide)), p10.kept (FR 41 44 (by decide) (by decide)), p11.kept (FR 44 68 (by decide) (by decide)), p12.kept (FR 68 69 (by decide) (by decide)), p13.kept (FR 69 74 (by decide) (by decide)), np14, p15.kept (FR 77 102 (by decide) (by decide)), p16.kept (FR 102 112 (by decide) (by decide)), hX⟩⟩, hF.wide (ad_ix [0, 11, 74, 75, 76] (by rfl) (by decide))⟩

set_option maxHeartbeats 1000000 in
set_option maxRecDepth 100000 in
theorem k_X10_wipeE (l : Launch) (dC : Nat → ClassId) (dI : Nat → Nat → Nat) (G : Nat → ClassId) (sz : Nat) (ax : Nat → Nat) (hi : adInj 129 ax) (T : Nat) (Y : Nat → Int32) (fa : Int32) (W0 : Nat → Int32) (W1 : Nat → Int32) (W2 : Nat → Int32) (N : Nat) (B : Nat) (N1 : Nat) (B1 : Nat) (N2 : Nat) (B2 : Nat) (K : Nat → Int32) (S : Nat) (M : Nat) (E : Nat → Int32) (Z : Nat → Int32) (n : Int32) : Met l yX10_wipe (Cond.code yX10_wipe cX10_wipe 3 (some .int) :: GT) ({ frames := 0, cells := 0, slots := 0, locals := 0 } : Room) (PcI [.ref (ax 0), .int n] dC dI G (X10I dC dI G ax T Y fa W0 W1 W2 N B N1 B1 N2 B2 K S M E Z) sz) (va_Qi (fun (r : Int32) (_ : Unit) => r = if 0 ≤ n.toInt ∧ n.toInt ≤ ((M : Nat) : Int) then nI M else -1) (fun _ t => X10I dC dI G ax T Y fa W0 W1 W2 N B N1 B1 N2 B2 K S (if 0 ≤ n.toInt ∧ n.toInt ≤ ((M : Nat) : Int) then n.toNatClampNeg else M) E Z t.heap) (adX 0 112 ax sz)) 0 0 (adX 0 112 ax sz) := by
  refine Met.pick (fun a st hp => ?_)
  obtain ⟨e0, hsz, hI, hK⟩ := hp
  subst hsz
  have hI0 := hI
  unfold X10I at hI
  obtain ⟨p0, p1, p2, p3, p4, p5, p6, p7, p8, p9, p10, p11, p12, p13, p14, p15, p16, hX⟩ := hI
  unfold X10Pr at p0
  obtain ⟨zi0_13, q0⟩ := p0
  unfold X10P9 at p14
  obtain ⟨zf75, zf76, p14j0, q74, q75, q76⟩ := p14
  refine ⟨_, _, _, c_X10_wipeE l dC dI G _ (ax 0) (ax 1) (ax 11) (ax 18) (ax 25) (ax 40) (ax 41) (ax 44) (ax 68) (ax 69) (ax 74) (ax 77) (ax 102) (ax 75) (ax 76) M fa zi0_13 n (by first | with_reducible assumption | assumption), ⟨e0, rfl, (vpc q0 (vpc q74 va_nilP)), hK, vD_ix hi [0, 74] (by rfl) (by decide) (by decide)⟩, ad_ix [0, 74] (by rfl) (by decide), fun o t hq => ?_⟩
  obtain ⟨⟨r, u1, ho, ⟨hr, hu⟩, hP1, -⟩, hF⟩ := hq
  have FR : ∀ lo hi' : Nat, hi' ≤ 129 → ([0, 74] : List Nat).all (fun x => decide (x < lo) || decide (hi' ≤ x)) = true → ∀ j : Nat, lo ≤ j → j < hi' → ax j < st.heap.size → t.heap[ax j]? = st.heap[ax j]? := fun lo hi' h1 h2 => fr_ix hi h1 hF.2 [0, 74] (by rfl) (by decide) h2
  have xM : (if 0 ≤ n.toInt ∧ n.toInt ≤ ((M : Nat) : Int) then n.toNatClampNeg else M) = u1 := Eq.symm (by first | exact hu | exact hu.1 | exact hu.2 | exact hu.1.1 | exact hu.1.2 | exact hu.2.1.trans (txt_cf (by first | with_reducible assumption | assumption)) | exact hu.2.1.trans (txt_rf (by first | with_reducible assumption | assumption)) | exact hu.1.1.trans lmap_step | omega)
  subst xM
  have np0 : X10Pr dC dI G ax fa t.heap := ⟨zi0_13, hP1 0 _ rfl⟩
  have np14 : X10P9 dC dI G ax (if 0 ≤ n.toInt ∧ n.toInt ≤ ((M : Nat) : Int) then n.toNatClampNeg else M) t.heap := ⟨zf75, zf76, (by first | omega | exact hu | exact hu.1 | exact hu.1.1 | exact hu.1.2 | exact hu.2 | exact hu.1.1.1 | exact hu.1.1.2 | exact fd_nn (by first | with_reducible assumption | assumption) | (split at hu <;> omega) | (split <;> omega) | exact E_inv (by first | with_reducible assumption | assumption)), hP1 1 _ rfl, q75.kept (FR 75 76 (by decide) (by decide) 75 (by decide) (by decide) q75.lt), q76.kept (FR 76 77 (by decide) (by decide) 76 (by decide) (by decide) q76.lt)⟩
  exact ⟨⟨r, (), ho, hr, ⟨np0, p1.kept (FR 1 2 (by decide) (by decide)), p2.kept (FR 2 4 (by decide) (by decide)), p3.kept (FR 4 11 (by decide) (by decide)), p4.kept (FR 11 18 (by decide) (by decide)), p5.kept (FR 18 25 (by decide) (by decide)), p6.kept (FR 25 26 (by decide) (by decide)), p7.kept (FR 26 33 (by decide) (by decide)), p8.kept (FR 33 40 (by decide) (by decide)), p9.kept (FR 40 41 (by decide) (by decide)), p10.kept (FR 41 44 (by decide) (by decide)), p11.kept (FR 44 68 (by decide) (by decide)), p12.kept (FR 68 69 (by decide) (by decide)), p13.kept (FR 69 74 (by decide) (by decide)), np14, p15.kept (FR 77 102 (by decide) (by decide)), p16.kept (FR 102 112 (by decide) (by decide)), hX⟩⟩, hF.wide (ad_ix [0, 74] (by rfl) (by decide))⟩

set_option maxHeartbeats 1000000 in
set_option maxRecDepth 100000 in
theorem k_X10_paths (l : Launch) (dC : Nat → ClassId) (dI : Nat → Nat → Nat) (G : Nat → ClassId) (sz : Nat) (ax : Nat → Nat) (hi : adInj 129 ax) (T : Nat) (Y : Nat → Int32) (fa : Int32) (W0 : Nat → Int32) (W1 : Nat → Int32) (W2 : Nat → Int32) (N : Nat) (B : Nat) (N1 : Nat) (B1 : Nat) (N2 : Nat) (B2 : Nat) (K : Nat → Int32) (S : Nat) (M : Nat) (E : Nat → Int32) (Z : Nat → Int32) : Met l yX10_paths (Cond.code yX10_paths cX10_paths 1 (some .int) :: GT) ({ frames := 5, cells := 0, slots := 0, locals := 111 } : Room) (PcI [.ref (ax 0)] dC dI G (X10I dC dI G ax T Y fa W0 W1 W2 N B N1 B1 N2 B2 K S M E Z) sz) (va_Qi (fun (r : Int32) (_ : Unit) => True) (fun _ t => X10I dC dI G ax T Y fa W0 W1 W2 N B N1 B1 N2 B2 K S M E Z t.heap) (adX 0 112 ax sz)) 0 0 (adX 0 112 ax sz) := by
  refine Met.pick (fun a st hp => ?_)
  obtain ⟨e0, hsz, hI, hK⟩ := hp
  subst hsz
  have hI0 := hI
  unfold X10I at hI
  obtain ⟨p0, p1, p2, p3, p4, p5, p6, p7, p8, p9, p10, p11, p12, p13, p14, p15, p16, hX⟩ := hI
  unfold X10Pr at p0
  obtain ⟨zi0_13, q0⟩ := p0
  unfold X10P1 at p4
  obtain ⟨zn11_2, zf12, zf13, zf14, zf15, zf16, zf17, p4j0, p4j1, p4j2, p4j3, q11, q12, q13, q14, q15, q16, q17⟩ := p4
  unfold X10P9 at p14
  obtain ⟨zf75, zf76, p14j0, q74, q75, q76⟩ := p14
  unfold X10P10 at p15
  obtain ⟨zi77_0, zF80, zF91, q77, q78, q79, q80, q91⟩ := p15
  refine ⟨_, _, _, c_X10_paths l dC dI G _ (ax 0) (ax 1) (ax 11) (ax 18) (ax 25) (ax 40) (ax 41) (ax 44) (ax 68) (ax 69) (ax 74) (ax 77) (ax 102) (ax 78) (ax 79) (ax 12) (ax 13) (ax 14) (ax 15) (ax 16) (ax 17) N B zn11_2 (ax 75) (ax 76) M fa zi0_13 zi77_0 zf12 zf13 zf14 zf15 zf16 zf17 zf75 zf76 (fun iq => ax (80 + iq)) (fun iq => ax (91 + iq)) zF80 zF91 (by first | with_reducible assumption | assumption) (by first | with_reducible assumption | assumption) (by first | with_reducible assumption | assumption) (by first | with_reducible assumption | assumption), ⟨e0, rfl, (va_P.app (vpc q0 (vpc q77 (vpc q78 (vpc q79 (vpc q11 (vpc q12 (vpc q13 (vpc q14 (vpc q15 (vpc q16 (vpc q17 (vpc q74 (vpc q75 (vpc q76 va_nilP)))))))))))))) (va_P.app q80 (va_P.app q91 va_nilP))), hK, vD_ix hi [0, 77, 78, 79, 11, 12, 13, 14, 15, 16, 17, 74, 75, 76, 80, 81, 82, 83, 84, 85, 86, 87, 88, 89, 90, 91, 92, 93, 94, 95, 96, 97, 98, 99, 100, 101] (by rfl) (by decide) (by decide)⟩, ad_ix [0, 77, 78, 79, 11, 12, 13, 14, 15, 16, 17, 74, 75, 76, 80, 81, 82, 83, 84, 85, 86, 87, 88, 89, 90, 91, 92, 93, 94, 95, 96, 97, 98, 99, 100, 101] (by rfl) (by decide), fun o t hq => ?_⟩
  obtain ⟨⟨r, ⟨u0, u1, u2⟩, ho, ⟨hr, hu⟩, hP1, -⟩, hF⟩ := hq
  have FR : ∀ lo hi' : Nat, hi' ≤ 129 → ([0, 77, 78, 79, 11, 12, 13, 14, 15, 16, 17, 74, 75, 76, 80, 81, 82, 83, 84, 85, 86, 87, 88, 89, 90, 91, 92, 93, 94, 95, 96, 97, 98, 99, 100, 101] : List Nat).all (fun x => decide (x < lo) || decide (hi' ≤ x)) = true → ∀ j : Nat, lo ≤ j → j < hi' → ax j < st.heap.size → t.heap[ax j]? = st.heap[ax j]? := fun lo hi' h1 h2 => fr_ix hi h1 hF.2 [0, 77, 78, 79, 11, 12, 13, 14, 15, 16, 17, 74, 75, 76, 80, 81, 82, 83, 84, 85, 86, 87, 88, 89, 90, 91, 92, 93, 94, 95, 96, 97, 98, 99, 100, 101] (by rfl) (by decide) h2
  have np0 : X10Pr dC dI G ax fa t.heap := ⟨zi0_13, hP1 0 _ rfl⟩
  have np4 : X10P1 dC dI G ax W0 N B t.heap := ⟨zn11_2, zf12, zf13, zf14, zf15, zf16, zf17, p4j0, p4j1, p4j2, p4j3, hP1 4 _ rfl, hP1 5 _ rfl, hP1 6 _ rfl, hP1 7 _ rfl, hP1 8 _ rfl, hP1 9 _ rfl, hP1 10 _ rfl⟩
  have np14 : X10P9 dC dI G ax M t.heap := ⟨zf75, zf76, p14j0, hP1 11 _ rfl, hP1 12 _ rfl, hP1 13 _ rfl⟩
  have np15 : X10P10 dC dI G ax t.heap := ⟨u0, u1, u2, hP1 1 _ rfl, hP1 2 _ rfl, hP1 3 _ rfl, vp_mid hP1, vp_mid2 hP1⟩
  exact ⟨⟨r, (), ho, trivial, ⟨np0, p1.kept (FR 1 2 (by decide) (by decide)), p2.kept (FR 2 4 (by decide) (by decide)), p3.kept (FR 4 11 (by decide) (by decide)), np4, p5.kept (FR 18 25 (by decide) (by decide)), p6.kept (FR 25 26 (by decide) (by decide)), p7.kept (FR 26 33 (by decide) (by decide)), p8.kept (FR 33 40 (by decide) (by decide)), p9.kept (FR 40 41 (by decide) (by decide)), p10.kept (FR 41 44 (by decide) (by decide)), p11.kept (FR 44 68 (by decide) (by decide)), p12.kept (FR 68 69 (by decide) (by decide)), p13.kept (FR 69 74 (by decide) (by decide)), np14, np15, p16.kept (FR 102 112 (by decide) (by decide)), hX⟩⟩, hF.wide (ad_ix [0, 77, 78, 79, 11, 12, 13, 14, 15, 16, 17, 74, 75, 76, 80, 81, 82, 83, 84, 85, 86, 87, 88, 89, 90, 91, 92, 93, 94, 95, 96, 97, 98, 99, 100, 101] (by rfl) (by decide))⟩

set_option maxHeartbeats 1000000 in
set_option maxRecDepth 100000 in
theorem k_X10_eye (l : Launch) (dC : Nat → ClassId) (dI : Nat → Nat → Nat) (G : Nat → ClassId) (sz : Nat) (ax : Nat → Nat) (hi : adInj 129 ax) (T : Nat) (Y : Nat → Int32) (fa : Int32) (W0 : Nat → Int32) (W1 : Nat → Int32) (W2 : Nat → Int32) (N : Nat) (B : Nat) (N1 : Nat) (B1 : Nat) (N2 : Nat) (B2 : Nat) (K : Nat → Int32) (S : Nat) (M : Nat) (E : Nat → Int32) (Z : Nat → Int32) (d : Int32) : Met l yX10_eye (Cond.code yX10_eye cX10_eye 4 (some .int) :: GT) ({ frames := 5, cells := 0, slots := 0, locals := 111 } : Room) (PcI [.ref (ax 0), .int d] dC dI G (X10I dC dI G ax T Y fa W0 W1 W2 N B N1 B1 N2 B2 K S M E Z) sz) (va_Qi (fun (r : Int32) (_ : Unit) => True) (fun _ t => X10I dC dI G ax T Y fa W0 W1 W2 N B N1 B1 N2 B2 K S M E Z t.heap) (adX 0 112 ax sz)) 0 0 (adX 0 112 ax sz) := by
  refine Met.pick (fun a st hp => ?_)
  obtain ⟨e0, hsz, hI, hK⟩ := hp
  subst hsz
  have hI0 := hI
  unfold X10I at hI
  obtain ⟨p0, p1, p2, p3, p4, p5, p6, p7, p8, p9, p10, p11, p12, p13, p14, p15, p16, hX⟩ := hI
  unfold X10Pr at p0
  obtain ⟨zi0_13, q0⟩ := p0
  unfold X10P1 at p4
  obtain ⟨zn11_2, zf12, zf13, zf14, zf15, zf16, zf17, p4j0, p4j1, p4j2, p4j3, q11, q12, q13, q14, q15, q16, q17⟩ := p4
  unfold X10P9 at p14
  obtain ⟨zf75, zf76, p14j0, q74, q75, q76⟩ := p14
  unfold X10P10 at p15
  obtain ⟨zi77_0, zF80, zF91, q77, q78, q79, q80, q91⟩ := p15
  refine ⟨_, _, _, c_X10_eye l dC dI G _ (ax 0) (ax 1) (ax 11) (ax 18) (ax 25) (ax 40) (ax 41) (ax 44) (ax 68) (ax 69) (ax 74) (ax 77) (ax 102) (ax 78) (ax 79) (ax 12) (ax 13) (ax 14) (ax 15) (ax 16) (ax 17) N B zn11_2 (ax 75) (ax 76) M fa zi0_13 d zi77_0 zf12 zf13 zf14 zf15 zf16 zf17 zf75 zf76 (fun iq => ax (80 + iq)) (fun iq => ax (91 + iq)) zF80 zF91 (by first | with_reducible assumption | assumption) (by first | with_reducible assumption | assumption) (by first | with_reducible assumption | assumption) (by first | with_reducible assumption | assumption), ⟨e0, rfl, (va_P.app (vpc q0 (vpc q77 (vpc q78 (vpc q79 (vpc q11 (vpc q12 (vpc q13 (vpc q14 (vpc q15 (vpc q16 (vpc q17 (vpc q74 (vpc q75 (vpc q76 va_nilP)))))))))))))) (va_P.app q80 (va_P.app q91 va_nilP))), hK, vD_ix hi [0, 77, 78, 79, 11, 12, 13, 14, 15, 16, 17, 74, 75, 76, 80, 81, 82, 83, 84, 85, 86, 87, 88, 89, 90, 91, 92, 93, 94, 95, 96, 97, 98, 99, 100, 101] (by rfl) (by decide) (by decide)⟩, ad_ix [0, 77, 78, 79, 11, 12, 13, 14, 15, 16, 17, 74, 75, 76, 80, 81, 82, 83, 84, 85, 86, 87, 88, 89, 90, 91, 92, 93, 94, 95, 96, 97, 98, 99, 100, 101] (by rfl) (by decide), fun o t hq => ?_⟩
  obtain ⟨⟨r, ⟨u0, u1, u2⟩, ho, ⟨hr, hu⟩, hP1, -⟩, hF⟩ := hq
  have FR : ∀ lo hi' : Nat, hi' ≤ 129 → ([0, 77, 78, 79, 11, 12, 13, 14, 15, 16, 17, 74, 75, 76, 80, 81, 82, 83, 84, 85, 86, 87, 88, 89, 90, 91, 92, 93, 94, 95, 96, 97, 98, 99, 100, 101] : List Nat).all (fun x => decide (x < lo) || decide (hi' ≤ x)) = true → ∀ j : Nat, lo ≤ j → j < hi' → ax j < st.heap.size → t.heap[ax j]? = st.heap[ax j]? := fun lo hi' h1 h2 => fr_ix hi h1 hF.2 [0, 77, 78, 79, 11, 12, 13, 14, 15, 16, 17, 74, 75, 76, 80, 81, 82, 83, 84, 85, 86, 87, 88, 89, 90, 91, 92, 93, 94, 95, 96, 97, 98, 99, 100, 101] (by rfl) (by decide) h2
  have np0 : X10Pr dC dI G ax fa t.heap := ⟨zi0_13, hP1 0 _ rfl⟩
  have np4 : X10P1 dC dI G ax W0 N B t.heap := ⟨zn11_2, zf12, zf13, zf14, zf15, zf16, zf17, p4j0, p4j1, p4j2, p4j3, hP1 4 _ rfl, hP1 5 _ rfl, hP1 6 _ rfl, hP1 7 _ rfl, hP1 8 _ rfl, hP1 9 _ rfl, hP1 10 _ rfl⟩
  have np14 : X10P9 dC dI G ax M t.heap := ⟨zf75, zf76, p14j0, hP1 11 _ rfl, hP1 12 _ rfl, hP1 13 _ rfl⟩
  have np15 : X10P10 dC dI G ax t.heap := ⟨u0, u1, u2, hP1 1 _ rfl, hP1 2 _ rfl, hP1 3 _ rfl, vp_mid hP1, vp_mid2 hP1⟩
  exact ⟨⟨r, (), ho, trivial, ⟨np0, p1.kept (FR 1 2 (by decide) (by decide)), p2.kept (FR 2 4 (by decide) (by decide)), p3.kept (FR 4 11 (by decide) (by decide)), np4, p5.kept (FR 18 25 (by decide) (by decide)), p6.kept (FR 25 26 (by decide) (by decide)), p7.kept (FR 26 33 (by decide) (by decide)), p8.kept (FR 33 40 (by decide) (by decide)), p9.kept (FR 40 41 (by decide) (by decide)), p10.kept (FR 41 44 (by decide) (by decide)), p11.kept (FR 44 68 (by decide) (by decide)), p12.kept (FR 68 69 (by decide) (by decide)), p13.kept (FR 69 74 (by decide) (by decide)), np14, np15, p16.kept (FR 102 112 (by decide) (by decide)), hX⟩⟩, hF.wide (ad_ix [0, 77, 78, 79, 11, 12, 13, 14, 15, 16, 17, 74, 75, 76, 80, 81, 82, 83, 84, 85, 86, 87, 88, 89, 90, 91, 92, 93, 94, 95, 96, 97, 98, 99, 100, 101] (by rfl) (by decide))⟩

set_option maxHeartbeats 1000000 in
set_option maxRecDepth 100000 in
theorem k_X10_sure (l : Launch) (dC : Nat → ClassId) (dI : Nat → Nat → Nat) (G : Nat → ClassId) (sz : Nat) (ax : Nat → Nat) (hi : adInj 129 ax) (T : Nat) (Y : Nat → Int32) (fa : Int32) (W0 : Nat → Int32) (W1 : Nat → Int32) (W2 : Nat → Int32) (N : Nat) (B : Nat) (N1 : Nat) (B1 : Nat) (N2 : Nat) (B2 : Nat) (K : Nat → Int32) (S : Nat) (M : Nat) (E : Nat → Int32) (Z : Nat → Int32) (what : Int32) : Met l yX10_sure (Cond.code yX10_sure cX10_sure 5 (some .int) :: GT) ({ frames := 5, cells := 0, slots := 0, locals := 112 } : Room) (PcI [.ref (ax 0), .int what] dC dI G (X10I dC dI G ax T Y fa W0 W1 W2 N B N1 B1 N2 B2 K S M E Z) sz) (va_Qi (fun (r : Int32) (_ : Unit) => True) (fun _ t => X10I dC dI G ax T Y fa W0 W1 W2 N B N1 B1 N2 B2 K S M E Z t.heap) (adX 0 112 ax sz)) 0 0 (adX 0 112 ax sz) := by
  refine Met.pick (fun a st hp => ?_)
  obtain ⟨e0, hsz, hI, hK⟩ := hp
  subst hsz
  have hI0 := hI
  unfold X10I at hI
  obtain ⟨p0, p1, p2, p3, p4, p5, p6, p7, p8, p9, p10, p11, p12, p13, p14, p15, p16, hX⟩ := hI
  unfold X10Pr at p0
  obtain ⟨zi0_13, q0⟩ := p0
  unfold X10P1 at p4
  obtain ⟨zn11_2, zf12, zf13, zf14, zf15, zf16, zf17, p4j0, p4j1, p4j2, p4j3, q11, q12, q13, q14, q15, q16, q17⟩ := p4
  unfold X10P9 at p14
  obtain ⟨zf75, zf76, p14j0, q74, q75, q76⟩ := p14
  unfold X10P10 at p15
  obtain ⟨zi77_0, zF80, zF91, q77, q78, q79, q80, q91⟩ := p15
  refine ⟨_, _, _, c_X10_sure l dC dI G _ (ax 0) (ax 1) (ax 11) (ax 18) (ax 25) (ax 40) (ax 41) (ax 44) (ax 68) (ax 69) (ax 74) (ax 77) (ax 102) (ax 78) (ax 79) (ax 12) (ax 13) (ax 14) (ax 15) (ax 16) (ax 17) N B zn11_2 (ax 75) (ax 76) M fa zi0_13 what zi77_0 zf12 zf13 zf14 zf15 zf16 zf17 zf75 zf76 (fun iq => ax (80 + iq)) (fun iq => ax (91 + iq)) zF80 zF91 (by first | with_reducible assumption | assumption) (by first | with_reducible assumption | assumption) (by first | with_reducible assumption | assumption) (by first | with_reducible assumption | assumption), ⟨e0, rfl, (va_P.app (vpc q0 (vpc q77 (vpc q78 (vpc q79 (vpc q11 (vpc q12 (vpc q13 (vpc q14 (vpc q15 (vpc q16 (vpc q17 (vpc q74 (vpc q75 (vpc q76 va_nilP)))))))))))))) (va_P.app q80 (va_P.app q91 va_nilP))), hK, vD_ix hi [0, 77, 78, 79, 11, 12, 13, 14, 15, 16, 17, 74, 75, 76, 80, 81, 82, 83, 84, 85, 86, 87, 88, 89, 90, 91, 92, 93, 94, 95, 96, 97, 98, 99, 100, 101] (by rfl) (by decide) (by decide)⟩, ad_ix [0, 77, 78, 79, 11, 12, 13, 14, 15, 16, 17, 74, 75, 76, 80, 81, 82, 83, 84, 85, 86, 87, 88, 89, 90, 91, 92, 93, 94, 95, 96, 97, 98, 99, 100, 101] (by rfl) (by decide), fun o t hq => ?_⟩
  obtain ⟨⟨r, ⟨u0, u1, u2⟩, ho, ⟨hr, hu⟩, hP1, -⟩, hF⟩ := hq
  have FR : ∀ lo hi' : Nat, hi' ≤ 129 → ([0, 77, 78, 79, 11, 12, 13, 14, 15, 16, 17, 74, 75, 76, 80, 81, 82, 83, 84, 85, 86, 87, 88, 89, 90, 91, 92, 93, 94, 95, 96, 97, 98, 99, 100, 101] : List Nat).all (fun x => decide (x < lo) || decide (hi' ≤ x)) = true → ∀ j : Nat, lo ≤ j → j < hi' → ax j < st.heap.size → t.heap[ax j]? = st.heap[ax j]? := fun lo hi' h1 h2 => fr_ix hi h1 hF.2 [0, 77, 78, 79, 11, 12, 13, 14, 15, 16, 17, 74, 75, 76, 80, 81, 82, 83, 84, 85, 86, 87, 88, 89, 90, 91, 92, 93, 94, 95, 96, 97, 98, 99, 100, 101] (by rfl) (by decide) h2
  have np0 : X10Pr dC dI G ax fa t.heap := ⟨zi0_13, hP1 0 _ rfl⟩
  have np4 : X10P1 dC dI G ax W0 N B t.heap := ⟨zn11_2, zf12, zf13, zf14, zf15, zf16, zf17, p4j0, p4j1, p4j2, p4j3, hP1 4 _ rfl, hP1 5 _ rfl, hP1 6 _ rfl, hP1 7 _ rfl, hP1 8 _ rfl, hP1 9 _ rfl, hP1 10 _ rfl⟩
  have np14 : X10P9 dC dI G ax M t.heap := ⟨zf75, zf76, p14j0, hP1 11 _ rfl, hP1 12 _ rfl, hP1 13 _ rfl⟩
  have np15 : X10P10 dC dI G ax t.heap := ⟨u0, u1, u2, hP1 1 _ rfl, hP1 2 _ rfl, hP1 3 _ rfl, vp_mid hP1, vp_mid2 hP1⟩
  exact ⟨⟨r, (), ho, trivial, ⟨np0, p1.kept (FR 1 2 (by decide) (by decide)), p2.kept (FR 2 4 (by decide) (by decide)), p3.kept (FR 4 11 (by decide) (by decide)), np4, p5.kept (FR 18 25 (by decide) (by decide)), p6.kept (FR 25 26 (by decide) (by decide)), p7.kept (FR 26 33 (by decide) (by decide)), p8.kept (FR 33 40 (by decide) (by decide)), p9.kept (FR 40 41 (by decide) (by decide)), p10.kept (FR 41 44 (by decide) (by decide)), p11.kept (FR 44 68 (by decide) (by decide)), p12.kept (FR 68 69 (by decide) (by decide)), p13.kept (FR 69 74 (by decide) (by decide)), np14, np15, p16.kept (FR 102 112 (by decide) (by decide)), hX⟩⟩, hF.wide (ad_ix [0, 77, 78, 79, 11, 12, 13, 14, 15, 16, 17, 74, 75, 76, 80, 81, 82, 83, 84, 85, 86, 87, 88, 89, 90, 91, 92, 93, 94, 95, 96, 97, 98, 99, 100, 101] (by rfl) (by decide))⟩

set_option maxHeartbeats 1000000 in
set_option maxRecDepth 100000 in
theorem k_X10_keepW (l : Launch) (dC : Nat → ClassId) (dI : Nat → Nat → Nat) (G : Nat → ClassId) (sz : Nat) (ax : Nat → Nat) (hi : adInj 129 ax) (T : Nat) (Y : Nat → Int32) (fa : Int32) (W0 : Nat → Int32) (W1 : Nat → Int32) (W2 : Nat → Int32) (N : Nat) (B : Nat) (N1 : Nat) (B1 : Nat) (N2 : Nat) (B2 : Nat) (K : Nat → Int32) (S : Nat) (M : Nat) (E : Nat → Int32) (Z : Nat → Int32) (k : Int32) : Met l yX10_keep (Cond.code yX10_keep cX10_keep 3 (some .int) :: GT) ({ frames := 2, cells := 0, slots := 0, locals := 121 } : Room) (PcI [.ref (ax 0), .int k] dC dI G (X10I dC dI G ax T Y fa W0 W1 W2 N B N1 B1 N2 B2 K S M E Z) sz) (va_Qi (fun (r : Int32) (_ : Unit) => r = if (0 ≤ k.toInt ∧ k.toInt < 2) then (if K k.toNatClampNeg = 0 then 0 else 1) else -1) (fun _ t => X10I dC dI G ax T Y fa W0 (if k = 0 then W0 else W1) (if k = 1 then W0 else W2) N B (if k = 0 then N else N1) (if k = 0 then B else B1) (if k = 1 then N else N2) (if k = 1 then B else B2) (if (0 ≤ k.toInt ∧ k.toInt < 2) then upd K k.toNatClampNeg 1 else K) S M E Z t.heap) (adX 0 112 ax sz)) 0 0 (adX 0 112 ax sz) := by
  refine Met.pick (fun a st hp => ?_)
  obtain ⟨e0, hsz, hI, hK⟩ := hp
  subst hsz
  have hI0 := hI
  unfold X10I at hI
  obtain ⟨p0, p1, p2, p3, p4, p5, p6, p7, p8, p9, p10, p11, p12, p13, p14, p15, p16, hX⟩ := hI
  unfold X10Pr at p0
  obtain ⟨zi0_13, q0⟩ := p0
  unfold X10P1 at p4
  obtain ⟨zn11_2, zf12, zf13, zf14, zf15, zf16, zf17, p4j0, p4j1, p4j2, p4j3, q11, q12, q13, q14, q15, q16, q17⟩ := p4
  unfold X10P3 at p6
  have q25 := p6
  unfold X10P3_0 at p7
  obtain ⟨zn26_2, zf27, zf28, zf29, zf30, zf31, zf32, p7j0, p7j1, p7j2, p7j3, q26, q27, q28, q29, q30, q31, q32⟩ := p7
  unfold X10P3_1 at p8
  obtain ⟨zn33_2, zf34, zf35, zf36, zf37, zf38, zf39, p8j0, p8j1, p8j2, p8j3, q33, q34, q35, q36, q37, q38, q39⟩ := p8
  unfold X10P4 at p9
  have q40 := p9
  refine ⟨_, _, _, c_X10_keepW l dC dI G _ (ax 0) (ax 1) (ax 11) (ax 18) (ax 25) (ax 40) (ax 41) (ax 44) (ax 68) (ax 69) (ax 74) (ax 77) (ax 102) (ax 12) (ax 13) (ax 14) (ax 15) (ax 16) (ax 17) N B zn11_2 (ax 26) (ax 33) (ax 27) (ax 28) (ax 29) (ax 30) (ax 31) (ax 32) (ax 34) (ax 35) (ax 36) (ax 37) (ax 38) (ax 39) N1 B1 zn26_2 N2 B2 zn33_2 fa zi0_13 k zf12 zf13 zf14 zf15 zf16 zf17 K zf27 zf28 zf29 zf30 zf31 zf32 zf34 zf35 zf36 zf37 zf38 zf39 (by first | with_reducible assumption | assumption) (by first | with_reducible assumption | assumption) (by first | with_reducible assumption | assumption) (by first | with_reducible assumption | assumption) (by first | with_reducible assumption | assumption) (by first | with_reducible assumption | assumption) (by first | with_reducible assumption | assumption) (by first | with_reducible assumption | assumption) (by first | with_reducible assumption | assumption), ⟨e0, rfl, (vpc q0 (vpc q11 (vpc q12 (vpc q13 (vpc q14 (vpc q15 (vpc q16 (vpc q17 (vpc q25 (vpc q40 (vpc q26 (vpc q27 (vpc q28 (vpc q29 (vpc q30 (vpc q31 (vpc q32 (vpc q33 (vpc q34 (vpc q35 (vpc q36 (vpc q37 (vpc q38 (vpc q39 va_nilP)))))))))))))))))))))))), hK, vD_ix hi [0, 11, 12, 13, 14, 15, 16, 17, 25, 40, 26, 27, 28, 29, 30, 31, 32, 33, 34, 35, 36, 37, 38, 39] (by rfl) (by decide) (by decide)⟩, ad_ix [0, 11, 12, 13, 14, 15, 16, 17, 25, 40, 26, 27, 28, 29, 30, 31, 32, 33, 34, 35, 36, 37, 38, 39] (by rfl) (by decide), fun o t hq => ?_⟩
  obtain ⟨⟨r, ⟨u0, u1, u2, u3, u4, u5, u6, u7, u8, u9, u10, u11, u12, u13, u14, u15, u16, u17, u18⟩, ho, ⟨hr, hu⟩, hP1, -⟩, hF⟩ := hq
  have FR : ∀ lo hi' : Nat, hi' ≤ 129 → ([0, 11, 12, 13, 14, 15, 16, 17, 25, 40, 26, 27, 28, 29, 30, 31, 32, 33, 34, 35, 36, 37, 38, 39] : List Nat).all (fun x => decide (x < lo) || decide (hi' ≤ x)) = true → ∀ j : Nat, lo ≤ j → j < hi' → ax j < st.heap.size → t.heap[ax j]? = st.heap[ax j]? := fun lo hi' h1 h2 => fr_ix hi h1 hF.2 [0, 11, 12, 13, 14, 15, 16, 17, 25, 40, 26, 27, 28, 29, 30, 31, 32, 33, 34, 35, 36, 37, 38, 39] (by rfl) (by decide) h2
  have xN1 : (if k = 0 then N else N1) = u0 := Eq.symm (hu.2.2.1)
  subst xN1
  have xB1 : (if k = 0 then B else B1) = u1 := Eq.symm (hu.2.2.2.1)
  subst xB1
  have xN2 : (if k = 1 then N else N2) = u9 := Eq.symm (hu.2.2.2.2.1)
  subst xN2
  have xB2 : (if k = 1 then B else B2) = u10 := Eq.symm (hu.2.2.2.2.2.1)
  subst xB2
  have y40 : (if (0 ≤ k.toInt ∧ k.toInt < 2) then upd K k.toNatClampNeg 1 else K) = u18 := Eq.symm (hu.2.1)
  subst y40
  have hT := hu.2
  replace hu := hu.1
  have np0 : X10Pr dC dI G ax fa t.heap := ⟨zi0_13, hP1 0 _ rfl⟩
  have np4 : X10P1 dC dI G ax W0 N B t.heap := ⟨zn11_2, zf12, zf13, zf14, zf15, zf16, zf17, p4j0, p4j1, p4j2, p4j3, hP1 1 _ rfl, hP1 2 _ rfl, hP1 3 _ rfl, hP1 4 _ rfl, hP1 5 _ rfl, hP1 6 _ rfl, hP1 7 _ rfl⟩
  have np6 : X10P3 dC dI G ax t.heap := hP1 8 _ rfl
  have np7 : X10P3_0 dC dI G ax (if k = 0 then W0 else W1) (if k = 0 then N else N1) (if k = 0 then B else B1) t.heap := ⟨u2, u3, u4, u5, u6, u7, u8, (by rw [hT.2.2.2.2.2.1, hT.2.2.2.2.2.2.1, hT.2.2.2.2.2.2.2.1, hT.2.2.2.2.2.2.2.2.2.1, hT.2.2.2.2.2.2.2.2.2.2.1, hT.2.2.2.2.2.2.2.2.2.2.2.1]; exact CR.kp (by first | with_reducible assumption | assumption) (by first | with_reducible assumption | assumption) (by first | with_reducible assumption | assumption) (by first | with_reducible assumption | assumption)), (by first | omega | exact hu | exact hu.1 | exact hu.1.1 | exact hu.1.2 | exact hu.2 | exact hu.1.1.1 | exact hu.1.1.2 | exact fd_nn (by first | with_reducible assumption | assumption) | (split at hu <;> omega) | (split <;> omega) | exact E_inv (by first | with_reducible assumption | assumption)), (by first | omega | exact hu | exact hu.1 | exact hu.1.1 | exact hu.1.2 | exact hu.2 | exact hu.1.1.1 | exact hu.1.1.2 | exact fd_nn (by first | with_reducible assumption | assumption) | (split at hu <;> omega) | (split <;> omega) | exact E_inv (by first | with_reducible assumption | assumption)), (by first | omega | exact hu | exact hu.1 | exact hu.1.1 | exact hu.1.2 | exact hu.2 | exact hu.1.1.1 | exact hu.1.1.2 | exact fd_nn (by first | with_reducible assumption | assumption) | (split at hu <;> omega) | (split <;> omega) | exact E_inv (by first | with_reducible assumption | assumption)), hP1 10 _ rfl, hP1 11 _ rfl, hP1 12 _ rfl, hP1 13 _ rfl, hP1 14 _ rfl, hP1 15 _ rfl, hP1 16 _ rfl⟩
  have np8 : X10P3_1 dC dI G ax (if k = 1 then W0 else W2) (if k = 1 then N else N2) (if k = 1 then B else B2) t.heap := ⟨u11, u12, u13, u14, u15, u16, u17, (by rw [hT.2.2.2.2.2.2.2.2.2.2.2.2.1, hT.2.2.2.2.2.2.2.2.2.2.2.2.2.1, hT.2.2.2.2.2.2.2.2.2.2.2.2.2.2.1, hT.2.2.2.2.2.2.2.2.2.2.2.2.2.2.2.2.1, hT.2.2.2.2.2.2.2.2.2.2.2.2.2.2.2.2.2.1, hT.2.2.2.2.2.2.2.2.2.2.2.2.2.2.2.2.2.2]; exact CR.kp (by first | with_reducible assumption | assumption) (by first | with_reducible assumption | assumption) (by first | with_reducible assumption | assumption) (by first | with_reducible assumption | assumption)), (by first | omega | exact hu | exact hu.1 | exact hu.1.1 | exact hu.1.2 | exact hu.2 | exact hu.1.1.1 | exact hu.1.1.2 | exact fd_nn (by first | with_reducible assumption | assumption) | (split at hu <;> omega) | (split <;> omega) | exact E_inv (by first | with_reducible assumption | assumption)), (by first | omega | exact hu | exact hu.1 | exact hu.1.1 | exact hu.1.2 | exact hu.2 | exact hu.1.1.1 | exact hu.1.1.2 | exact fd_nn (by first | with_reducible assumption | assumption) | (split at hu <;> omega) | (split <;> omega) | exact E_inv (by first | with_reducible assumption | assumption)), (by first | omega | exact hu | exact hu.1 | exact hu.1.1 | exact hu.1.2 | exact hu.2 | exact hu.1.1.1 | exact hu.1.1.2 | exact fd_nn (by first | with_reducible assumption | assumption) | (split at hu <;> omega) | (split <;> omega) | exact E_inv (by first | with_reducible assumption | assumption)), hP1 17 _ rfl, hP1 18 _ rfl, hP1 19 _ rfl, hP1 20 _ rfl, hP1 21 _ rfl, hP1 22 _ rfl, hP1 23 _ rfl⟩
  have np9 : X10P4 dC dI G ax (if (0 ≤ k.toInt ∧ k.toInt < 2) then upd K k.toNatClampNeg 1 else K) t.heap := hP1 9 _ rfl
  exact ⟨⟨r, (), ho, hr, ⟨np0, p1.kept (FR 1 2 (by decide) (by decide)), p2.kept (FR 2 4 (by decide) (by decide)), p3.kept (FR 4 11 (by decide) (by decide)), np4, p5.kept (FR 18 25 (by decide) (by decide)), np6, np7, np8, np9, p10.kept (FR 41 44 (by decide) (by decide)), p11.kept (FR 44 68 (by decide) (by decide)), p12.kept (FR 68 69 (by decide) (by decide)), p13.kept (FR 69 74 (by decide) (by decide)), p14.kept (FR 74 77 (by decide) (by decide)), p15.kept (FR 77 102 (by decide) (by decide)), p16.kept (FR 102 112 (by decide) (by decide)), kp_X hX⟩⟩, hF.wide (ad_ix [0, 11, 12, 13, 14, 15, 16, 17, 25, 40, 26, 27, 28, 29, 30, 31, 32, 33, 34, 35, 36, 37, 38, 39] (by rfl) (by decide))⟩

set_option maxHeartbeats 1000000 in
set_option maxRecDepth 100000 in
theorem k_X10_backW (l : Launch) (dC : Nat → ClassId) (dI : Nat → Nat → Nat) (G : Nat → ClassId) (sz : Nat) (ax : Nat → Nat) (hi : adInj 129 ax) (T : Nat) (Y : Nat → Int32) (fa : Int32) (W0 : Nat → Int32) (W1 : Nat → Int32) (W2 : Nat → Int32) (N : Nat) (B : Nat) (N1 : Nat) (B1 : Nat) (N2 : Nat) (B2 : Nat) (K : Nat → Int32) (S : Nat) (M : Nat) (E : Nat → Int32) (Z : Nat → Int32) (k : Int32) : Met l yX10_back (Cond.code yX10_back cX10_back 2 (some .int) :: GT) ({ frames := 2, cells := 0, slots := 0, locals := 121 } : Room) (PcI [.ref (ax 0), .int k] dC dI G (X10I dC dI G ax T Y fa W0 W1 W2 N B N1 B1 N2 B2 K S M E Z) sz) (va_Qi (fun (r : Int32) (_ : Unit) => r = if (0 ≤ k.toInt ∧ k.toInt < 2) then (if K k.toNatClampNeg = 0 then -2 else nI N) else -1) (fun _ t => X10I dC dI G ax T Y fa (bkW k K W0 W1 W2) W1 W2 N B N1 B1 N2 B2 K S M E Z t.heap) (adX 0 112 ax sz)) 0 0 (adX 0 112 ax sz) := by
  refine Met.pick (fun a st hp => ?_)
  obtain ⟨e0, hsz, hI, hK⟩ := hp
  subst hsz
  have hI0 := hI
  unfold X10I at hI
  obtain ⟨p0, p1, p2, p3, p4, p5, p6, p7, p8, p9, p10, p11, p12, p13, p14, p15, p16, hX⟩ := hI
  unfold X10Pr at p0
  obtain ⟨zi0_13, q0⟩ := p0
  unfold X10P1 at p4
  obtain ⟨zn11_2, zf12, zf13, zf14, zf15, zf16, zf17, p4j0, p4j1, p4j2, p4j3, q11, q12, q13, q14, q15, q16, q17⟩ := p4
  unfold X10P3 at p6
  have q25 := p6
  unfold X10P3_0 at p7
  obtain ⟨zn26_2, zf27, zf28, zf29, zf30, zf31, zf32, p7j0, p7j1, p7j2, p7j3, q26, q27, q28, q29, q30, q31, q32⟩ := p7
  unfold X10P3_1 at p8
  obtain ⟨zn33_2, zf34, zf35, zf36, zf37, zf38, zf39, p8j0, p8j1, p8j2, p8j3, q33, q34, q35, q36, q37, q38, q39⟩ := p8
  unfold X10P4 at p9
  have q40 := p9
  refine ⟨_, _, _, c_X10_backW l dC dI G _ (ax 0) (ax 1) (ax 11) (ax 18) (ax 25) (ax 40) (ax 41) (ax 44) (ax 68) (ax 69) (ax 74) (ax 77) (ax 102) (ax 12) (ax 13) (ax 14) (ax 15) (ax 16) (ax 17) N B zn11_2 (ax 26) (ax 33) (ax 27) (ax 28) (ax 29) (ax 30) (ax 31) (ax 32) (ax 34) (ax 35) (ax 36) (ax 37) (ax 38) (ax 39) N1 B1 zn26_2 N2 B2 zn33_2 fa zi0_13 k zf12 zf13 zf14 zf15 zf16 zf17 K zf27 zf28 zf29 zf30 zf31 zf32 zf34 zf35 zf36 zf37 zf38 zf39 (by first | with_reducible assumption | assumption) (by first | with_reducible assumption | assumption) (by first | with_reducible assumption | assumption) (by first | with_reducible assumption | assumption) (by first | with_reducible assumption | assumption) (by first | with_reducible assumption | assumption) (by first | with_reducible assumption | assumption) (by first | with_reducible assumption | assumption) (by first | with_reducible assumption | assumption), ⟨e0, rfl, (vpc q0 (vpc q11 (vpc q12 (vpc q13 (vpc q14 (vpc q15 (vpc q16 (vpc q17 (vpc q25 (vpc q40 (vpc q26 (vpc q27 (vpc q28 (vpc q29 (vpc q30 (vpc q31 (vpc q32 (vpc q33 (vpc q34 (vpc q35 (vpc q36 (vpc q37 (vpc q38 (vpc q39 va_nilP)))))))))))))))))))))))), hK, vD_ix hi [0, 11, 12, 13, 14, 15, 16, 17, 25, 40, 26, 27, 28, 29, 30, 31, 32, 33, 34, 35, 36, 37, 38, 39] (by rfl) (by decide) (by decide)⟩, ad_ix [0, 11, 12, 13, 14, 15, 16, 17, 25, 40, 26, 27, 28, 29, 30, 31, 32, 33, 34, 35, 36, 37, 38, 39] (by rfl) (by decide), fun o t hq => ?_⟩
  obtain ⟨⟨r, ⟨u0, u1, u2, u3, u4, u5, u6, u7, u8⟩, ho, ⟨hr, hu⟩, hP1, -⟩, hF⟩ := hq
  have FR : ∀ lo hi' : Nat, hi' ≤ 129 → ([0, 11, 12, 13, 14, 15, 16, 17, 25, 40, 26, 27, 28, 29, 30, 31, 32, 33, 34, 35, 36, 37, 38, 39] : List Nat).all (fun x => decide (x < lo) || decide (hi' ≤ x)) = true → ∀ j : Nat, lo ≤ j → j < hi' → ax j < st.heap.size → t.heap[ax j]? = st.heap[ax j]? := fun lo hi' h1 h2 => fr_ix hi h1 hF.2 [0, 11, 12, 13, 14, 15, 16, 17, 25, 40, 26, 27, 28, 29, 30, 31, 32, 33, 34, 35, 36, 37, 38, 39] (by rfl) (by decide) h2
  have xN : N = u0 := Eq.symm (hu.2.1.trans (bk_N hX))
  subst xN
  have xB : B = u1 := Eq.symm (hu.2.2.1.trans (bk_B hX))
  subst xB
  have hT := hu.2
  replace hu := hu.1
  have np0 : X10Pr dC dI G ax fa t.heap := ⟨zi0_13, hP1 0 _ rfl⟩
  have np4 : X10P1 dC dI G ax (bkW k K W0 W1 W2) N B t.heap := ⟨u2, u3, u4, u5, u6, u7, u8, (by rw [hT.2.2.1, hT.2.2.2.1, hT.2.2.2.2.1, hT.2.2.2.2.2.2.1, hT.2.2.2.2.2.2.2.1, hT.2.2.2.2.2.2.2.2]; exact CR.bk (by first | with_reducible assumption | assumption) (by first | with_reducible assumption | assumption) (by first | with_reducible assumption | assumption) hX (by first | with_reducible assumption | assumption) (by first | with_reducible assumption | assumption)), p4j1, p4j2, (by first | omega | exact hu | exact hu.1 | exact hu.1.1 | exact hu.1.2 | exact hu.2 | exact hu.1.1.1 | exact hu.1.1.2 | exact fd_nn (by first | with_reducible assumption | assumption) | (split at hu <;> omega) | (split <;> omega) | exact E_inv (by first | with_reducible assumption | assumption)), hP1 1 _ rfl, hP1 2 _ rfl, hP1 3 _ rfl, hP1 4 _ rfl, hP1 5 _ rfl, hP1 6 _ rfl, hP1 7 _ rfl⟩
  have np6 : X10P3 dC dI G ax t.heap := hP1 8 _ rfl
  have np7 : X10P3_0 dC dI G ax W1 N1 B1 t.heap := ⟨zn26_2, zf27, zf28, zf29, zf30, zf31, zf32, p7j0, p7j1, p7j2, p7j3, hP1 10 _ rfl, hP1 11 _ rfl, hP1 12 _ rfl, hP1 13 _ rfl, hP1 14 _ rfl, hP1 15 _ rfl, hP1 16 _ rfl⟩
  have np8 : X10P3_1 dC dI G ax W2 N2 B2 t.heap := ⟨zn33_2, zf34, zf35, zf36, zf37, zf38, zf39, p8j0, p8j1, p8j2, p8j3, hP1 17 _ rfl, hP1 18 _ rfl, hP1 19 _ rfl, hP1 20 _ rfl, hP1 21 _ rfl, hP1 22 _ rfl, hP1 23 _ rfl⟩
  have np9 : X10P4 dC dI G ax K t.heap := hP1 9 _ rfl
  exact ⟨⟨r, (), ho, hr.trans (bk_eq hX), ⟨np0, p1.kept (FR 1 2 (by decide) (by decide)), p2.kept (FR 2 4 (by decide) (by decide)), p3.kept (FR 4 11 (by decide) (by decide)), np4, p5.kept (FR 18 25 (by decide) (by decide)), np6, np7, np8, np9, p10.kept (FR 41 44 (by decide) (by decide)), p11.kept (FR 44 68 (by decide) (by decide)), p12.kept (FR 68 69 (by decide) (by decide)), p13.kept (FR 69 74 (by decide) (by decide)), p14.kept (FR 74 77 (by decide) (by decide)), p15.kept (FR 77 102 (by decide) (by decide)), p16.kept (FR 102 112 (by decide) (by decide)), hX⟩⟩, hF.wide (ad_ix [0, 11, 12, 13, 14, 15, 16, 17, 25, 40, 26, 27, 28, 29, 30, 31, 32, 33, 34, 35, 36, 37, 38, 39] (by rfl) (by decide))⟩

set_option maxHeartbeats 1000000 in
set_option maxRecDepth 100000 in
theorem k_X10_sheet (l : Launch) (dC : Nat → ClassId) (dI : Nat → Nat → Nat) (G : Nat → ClassId) (sz : Nat) (ax : Nat → Nat) (hi : adInj 129 ax) (T : Nat) (Y : Nat → Int32) (fa : Int32) (W0 : Nat → Int32) (W1 : Nat → Int32) (W2 : Nat → Int32) (N : Nat) (B : Nat) (N1 : Nat) (B1 : Nat) (N2 : Nat) (B2 : Nat) (K : Nat → Int32) (S : Nat) (M : Nat) (E : Nat → Int32) (Z : Nat → Int32) (k : Int32) (lane : Int32) (n : Int32) : Met l yX10_sheet (Cond.code yX10_sheet cX10_sheet 4 (some .int) :: GT) ({ frames := 2, cells := 0, slots := 0, locals := 44 } : Room) (PcI [.ref (ax 0), .int k, .int lane, .int n] dC dI G (X10I dC dI G ax T Y fa W0 W1 W2 N B N1 B1 N2 B2 K S M E Z) sz) (va_Qi (fun (r : Int32) (_ : Unit) => r = if (0 ≤ k.toInt ∧ k.toInt < 4) ∧ (0 ≤ lane.toInt ∧ lane.toInt ≤ 2) ∧ n.toInt ≤ 40 then (if n.toInt < 0 then -14 else 1) else -1) (fun _ t => X10I dC dI G ax T Y fa W0 W1 W2 N B N1 B1 N2 B2 K S M (if ((0 ≤ k.toInt ∧ k.toInt < 4) ∧ (0 ≤ lane.toInt ∧ lane.toInt ≤ 2) ∧ n.toInt ≤ 40 ∧ 0 ≤ n.toInt) then upd E k.toNatClampNeg lane else E) (if ((0 ≤ k.toInt ∧ k.toInt < 4) ∧ (0 ≤ lane.toInt ∧ lane.toInt ≤ 2) ∧ n.toInt ≤ 40 ∧ 0 ≤ n.toInt) then upd Z k.toNatClampNeg n else Z) t.heap) (adX 0 112 ax sz)) 0 0 (adX 0 112 ax sz) := by
  refine Met.pick (fun a st hp => ?_)
  obtain ⟨e0, hsz, hI, hK⟩ := hp
  subst hsz
  have hI0 := hI
  unfold X10I at hI
  obtain ⟨p0, p1, p2, p3, p4, p5, p6, p7, p8, p9, p10, p11, p12, p13, p14, p15, p16, hX⟩ := hI
  unfold X10Pr at p0
  obtain ⟨zi0_13, q0⟩ := p0
  unfold X10P11 at p16
  obtain ⟨zi102_3, zi102_4, zf106, zf107, zF108, p16j0, p16j1, q102, q103, q104, q105, q106, q107, q108⟩ := p16
  refine ⟨_, _, _, c_X10_sheet l dC dI G _ (ax 0) (ax 1) (ax 11) (ax 18) (ax 25) (ax 40) (ax 41) (ax 44) (ax 68) (ax 69) (ax 74) (ax 77) (ax 102) (ax 103) (ax 104) (ax 105) (ax 106) (ax 107) fa zi0_13 k lane n zi102_3 zi102_4 E Z (fun iq => ax (108 + iq)) zF108 (by first | with_reducible assumption | assumption), ⟨e0, rfl, (va_P.app (vpc q0 (vpc q102 (vpc q103 (vpc q104 (vpc q105 va_nilP))))) (va_P.app q108 va_nilP)), hK, vD_ix hi [0, 102, 103, 104, 105, 108, 109, 110, 111] (by rfl) (by decide) (by decide)⟩, ad_ix [0, 102, 103, 104, 105, 108, 109, 110, 111] (by rfl) (by decide), fun o t hq => ?_⟩
  obtain ⟨⟨r, ⟨u0, u1, u2⟩, ho, ⟨hr, hu⟩, hP1, -⟩, hF⟩ := hq
  have FR : ∀ lo hi' : Nat, hi' ≤ 129 → ([0, 102, 103, 104, 105, 108, 109, 110, 111] : List Nat).all (fun x => decide (x < lo) || decide (hi' ≤ x)) = true → ∀ j : Nat, lo ≤ j → j < hi' → ax j < st.heap.size → t.heap[ax j]? = st.heap[ax j]? := fun lo hi' h1 h2 => fr_ix hi h1 hF.2 [0, 102, 103, 104, 105, 108, 109, 110, 111] (by rfl) (by decide) h2
  have y103 : (if ((0 ≤ k.toInt ∧ k.toInt < 4) ∧ (0 ≤ lane.toInt ∧ lane.toInt ≤ 2) ∧ n.toInt ≤ 40 ∧ 0 ≤ n.toInt) then upd E k.toNatClampNeg lane else E) = u0 := Eq.symm (by first | exact hu | exact hu.1 | exact hu.2 | exact hu.1.1 | exact hu.1.2 | exact hu.2.1.trans (txt_cf (by first | with_reducible assumption | assumption)) | exact hu.2.1.trans (txt_rf (by first | with_reducible assumption | assumption)) | exact hu.1.1.trans lmap_step | omega)
  subst y103
  have y104 : (if ((0 ≤ k.toInt ∧ k.toInt < 4) ∧ (0 ≤ lane.toInt ∧ lane.toInt ≤ 2) ∧ n.toInt ≤ 40 ∧ 0 ≤ n.toInt) then upd Z k.toNatClampNeg n else Z) = u1 := Eq.symm (by first | exact hu | exact hu.1 | exact hu.2 | exact hu.1.1 | exact hu.1.2 | exact hu.2.1.trans (txt_cf (by first | with_reducible assumption | assumption)) | exact hu.2.1.trans (txt_rf (by first | with_reducible assumption | assumption)) | exact hu.1.1.trans lmap_step | omega)
  subst y104
  have np0 : X10Pr dC dI G ax fa t.heap := ⟨zi0_13, hP1 0 _ rfl⟩
  have np16 : X10P11 dC dI G ax (if ((0 ≤ k.toInt ∧ k.toInt < 4) ∧ (0 ≤ lane.toInt ∧ lane.toInt ≤ 2) ∧ n.toInt ≤ 40 ∧ 0 ≤ n.toInt) then upd E k.toNatClampNeg lane else E) (if ((0 ≤ k.toInt ∧ k.toInt < 4) ∧ (0 ≤ lane.toInt ∧ lane.toInt ≤ 2) ∧ n.toInt ≤ 40 ∧ 0 ≤ n.toInt) then upd Z k.toNatClampNeg n else Z) t.heap := ⟨zi102_3, zi102_4, zf106, zf107, u2, (by first | omega | exact hu | exact hu.1 | exact hu.1.1 | exact hu.1.2 | exact hu.2 | exact hu.1.1.1 | exact hu.1.1.2 | exact fd_nn (by first | with_reducible assumption | assumption) | (split at hu <;> omega) | (split <;> omega) | exact E_inv (by first | with_reducible assumption | assumption)), (by first | omega | exact hu | exact hu.1 | exact hu.1.1 | exact hu.1.2 | exact hu.2 | exact hu.1.1.1 | exact hu.1.1.2 | exact fd_nn (by first | with_reducible assumption | assumption) | (split at hu <;> omega) | (split <;> omega) | exact E_inv (by first | with_reducible assumption | assumption)), hP1 1 _ rfl, hP1 2 _ rfl, hP1 3 _ rfl, hP1 4 _ rfl, q106.kept (FR 106 107 (by decide) (by decide) 106 (by decide) (by decide) q106.lt), q107.kept (FR 107 108 (by decide) (by decide) 107 (by decide) (by decide) q107.lt), vp_mid hP1⟩
  exact ⟨⟨r, (), ho, hr, ⟨np0, p1.kept (FR 1 2 (by decide) (by decide)), p2.kept (FR 2 4 (by decide) (by decide)), p3.kept (FR 4 11 (by decide) (by decide)), p4.kept (FR 11 18 (by decide) (by decide)), p5.kept (FR 18 25 (by decide) (by decide)), p6.kept (FR 25 26 (by decide) (by decide)), p7.kept (FR 26 33 (by decide) (by decide)), p8.kept (FR 33 40 (by decide) (by decide)), p9.kept (FR 40 41 (by decide) (by decide)), p10.kept (FR 41 44 (by decide) (by decide)), p11.kept (FR 44 68 (by decide) (by decide)), p12.kept (FR 68 69 (by decide) (by decide)), p13.kept (FR 69 74 (by decide) (by decide)), p14.kept (FR 74 77 (by decide) (by decide)), p15.kept (FR 77 102 (by decide) (by decide)), np16, hX⟩⟩, hF.wide (ad_ix [0, 102, 103, 104, 105, 108, 109, 110, 111] (by rfl) (by decide))⟩

set_option maxHeartbeats 1000000 in
set_option maxRecDepth 100000 in
theorem k_X10_lay (l : Launch) (dC : Nat → ClassId) (dI : Nat → Nat → Nat) (G : Nat → ClassId) (sz : Nat) (ax : Nat → Nat) (hi : adInj 129 ax) (T : Nat) (Y : Nat → Int32) (fa : Int32) (W0 : Nat → Int32) (W1 : Nat → Int32) (W2 : Nat → Int32) (N : Nat) (B : Nat) (N1 : Nat) (B1 : Nat) (N2 : Nat) (B2 : Nat) (K : Nat → Int32) (S : Nat) (M : Nat) (E : Nat → Int32) (Z : Nat → Int32) (k : Int32) (i : Int32) (v : Int32) : Met l yX10_lay (Cond.code yX10_lay cX10_lay 5 (some .int) :: GT) ({ frames := 2, cells := 0, slots := 0, locals := 46 } : Room) (PcI [.ref (ax 0), .int k, .int i, .int v] dC dI G (X10I dC dI G ax T Y fa W0 W1 W2 N B N1 B1 N2 B2 K S M E Z) sz) (va_Qi (fun (r : Int32) (_ : Unit) => r = if 0 ≤ k.toInt ∧ k.toInt < 4 then (if E k.toNatClampNeg = -1 then -11 else if 0 ≤ i.toInt ∧ i.toInt < (Z k.toNatClampNeg).toInt then 1 else -12) else -1) (fun _ t => X10I dC dI G ax T Y fa W0 W1 W2 N B N1 B1 N2 B2 K S M E Z t.heap) (adX 0 112 ax sz)) 0 0 (adX 0 112 ax sz) := by
  refine Met.pick (fun a st hp => ?_)
  obtain ⟨e0, hsz, hI, hK⟩ := hp
  subst hsz
  have hI0 := hI
  unfold X10I at hI
  obtain ⟨p0, p1, p2, p3, p4, p5, p6, p7, p8, p9, p10, p11, p12, p13, p14, p15, p16, hX⟩ := hI
  unfold X10Pr at p0
  obtain ⟨zi0_13, q0⟩ := p0
  unfold X10P11 at p16
  obtain ⟨zi102_3, zi102_4, zf106, zf107, zF108, p16j0, p16j1, q102, q103, q104, q105, q106, q107, q108⟩ := p16
  refine ⟨_, _, _, c_X10_lay l dC dI G _ (ax 0) (ax 1) (ax 11) (ax 18) (ax 25) (ax 40) (ax 41) (ax 44) (ax 68) (ax 69) (ax 74) (ax 77) (ax 102) (ax 103) (ax 104) (ax 105) (ax 106) (ax 107) fa zi0_13 k i v zi102_3 zi102_4 E Z (fun iq => ax (108 + iq)) zF108 (by first | with_reducible assumption | assumption), ⟨e0, rfl, (va_P.app (vpc q0 (vpc q102 (vpc q103 (vpc q104 (vpc q105 va_nilP))))) (va_P.app q108 va_nilP)), hK, vD_ix hi [0, 102, 103, 104, 105, 108, 109, 110, 111] (by rfl) (by decide) (by decide)⟩, ad_ix [0, 102, 103, 104, 105, 108, 109, 110, 111] (by rfl) (by decide), fun o t hq => ?_⟩
  obtain ⟨⟨r, u0, ho, ⟨hr, hu⟩, hP1, -⟩, hF⟩ := hq
  have FR : ∀ lo hi' : Nat, hi' ≤ 129 → ([0, 102, 103, 104, 105, 108, 109, 110, 111] : List Nat).all (fun x => decide (x < lo) || decide (hi' ≤ x)) = true → ∀ j : Nat, lo ≤ j → j < hi' → ax j < st.heap.size → t.heap[ax j]? = st.heap[ax j]? := fun lo hi' h1 h2 => fr_ix hi h1 hF.2 [0, 102, 103, 104, 105, 108, 109, 110, 111] (by rfl) (by decide) h2
  have np0 : X10Pr dC dI G ax fa t.heap := ⟨zi0_13, hP1 0 _ rfl⟩
  have np16 : X10P11 dC dI G ax E Z t.heap := ⟨zi102_3, zi102_4, zf106, zf107, u0, p16j0, p16j1, hP1 1 _ rfl, hP1 2 _ rfl, hP1 3 _ rfl, hP1 4 _ rfl, q106.kept (FR 106 107 (by decide) (by decide) 106 (by decide) (by decide) q106.lt), q107.kept (FR 107 108 (by decide) (by decide) 107 (by decide) (by decide) q107.lt), vp_mid hP1⟩
  exact ⟨⟨r, (), ho, hr, ⟨np0, p1.kept (FR 1 2 (by decide) (by decide)), p2.kept (FR 2 4 (by decide) (by decide)), p3.kept (FR 4 11 (by decide) (by decide)), p4.kept (FR 11 18 (by decide) (by decide)), p5.kept (FR 18 25 (by decide) (by decide)), p6.kept (FR 25 26 (by decide) (by decide)), p7.kept (FR 26 33 (by decide) (by decide)), p8.kept (FR 33 40 (by decide) (by decide)), p9.kept (FR 40 41 (by decide) (by decide)), p10.kept (FR 41 44 (by decide) (by decide)), p11.kept (FR 44 68 (by decide) (by decide)), p12.kept (FR 68 69 (by decide) (by decide)), p13.kept (FR 69 74 (by decide) (by decide)), p14.kept (FR 74 77 (by decide) (by decide)), p15.kept (FR 77 102 (by decide) (by decide)), np16, hX⟩⟩, hF.wide (ad_ix [0, 102, 103, 104, 105, 108, 109, 110, 111] (by rfl) (by decide))⟩

set_option maxHeartbeats 1000000 in
set_option maxRecDepth 100000 in
theorem k_X10_read (l : Launch) (dC : Nat → ClassId) (dI : Nat → Nat → Nat) (G : Nat → ClassId) (sz : Nat) (ax : Nat → Nat) (hi : adInj 129 ax) (T : Nat) (Y : Nat → Int32) (fa : Int32) (W0 : Nat → Int32) (W1 : Nat → Int32) (W2 : Nat → Int32) (N : Nat) (B : Nat) (N1 : Nat) (B1 : Nat) (N2 : Nat) (B2 : Nat) (K : Nat → Int32) (S : Nat) (M : Nat) (E : Nat → Int32) (Z : Nat → Int32) (k : Int32) (lane : Int32) (x1 : Int32) (n : Int32) : Met l yX10_read (Cond.code yX10_read cX10_read 6 (some .int) :: GT) ({ frames := 2, cells := 0, slots := 0, locals := 50 } : Room) (PcI [.ref (ax 0), .int k, .int lane, .int x1, .int n] dC dI G (X10I dC dI G ax T Y fa W0 W1 W2 N B N1 B1 N2 B2 K S M E Z) sz) (va_Qi (fun (r : Int32) (_ : Unit) => True) (fun _ t => X10I dC dI G ax T Y fa W0 W1 W2 N B N1 B1 N2 B2 K S M E Z t.heap) (adX 0 112 ax sz)) 0 0 (adX 0 112 ax sz) := by
  refine Met.pick (fun a st hp => ?_)
  obtain ⟨e0, hsz, hI, hK⟩ := hp
  subst hsz
  have hI0 := hI
  unfold X10I at hI
  obtain ⟨p0, p1, p2, p3, p4, p5, p6, p7, p8, p9, p10, p11, p12, p13, p14, p15, p16, hX⟩ := hI
  unfold X10Pr at p0
  obtain ⟨zi0_13, q0⟩ := p0
  unfold X10P1 at p4
  obtain ⟨zn11_2, zf12, zf13, zf14, zf15, zf16, zf17, p4j0, p4j1, p4j2, p4j3, q11, q12, q13, q14, q15, q16, q17⟩ := p4
  unfold X10P11 at p16
  obtain ⟨zi102_3, zi102_4, zf106, zf107, zF108, p16j0, p16j1, q102, q103, q104, q105, q106, q107, q108⟩ := p16
  refine ⟨_, _, _, c_X10_read l dC dI G _ (ax 0) (ax 1) (ax 11) (ax 18) (ax 25) (ax 40) (ax 41) (ax 44) (ax 68) (ax 69) (ax 74) (ax 77) (ax 102) (ax 12) (ax 13) (ax 14) (ax 15) (ax 16) (ax 17) N B zn11_2 (ax 103) (ax 104) (ax 105) (ax 106) (ax 107) fa zi0_13 k lane x1 n zi102_3 zi102_4 zf14 E Z zf106 zf107 (fun iq => ax (108 + iq)) zF108 (by first | with_reducible assumption | assumption) (by first | with_reducible assumption | assumption) (by first | with_reducible assumption | assumption) (by first | with_reducible assumption | assumption), ⟨e0, rfl, (va_P.app (vpc q0 (vpc q11 (vpc q14 (vpc q102 (vpc q103 (vpc q104 (vpc q105 (vpc q106 (vpc q107 va_nilP))))))))) (va_P.app q108 va_nilP)), hK, vD_ix hi [0, 11, 14, 102, 103, 104, 105, 106, 107, 108, 109, 110, 111] (by rfl) (by decide) (by decide)⟩, ad_ix [0, 11, 14, 102, 103, 104, 105, 106, 107, 108, 109, 110, 111] (by rfl) (by decide), fun o t hq => ?_⟩
  obtain ⟨⟨r, ⟨u0, u1, u2, u3, u4, u5⟩, ho, ⟨hr, hu⟩, hP1, -⟩, hF⟩ := hq
  have FR : ∀ lo hi' : Nat, hi' ≤ 129 → ([0, 11, 14, 102, 103, 104, 105, 106, 107, 108, 109, 110, 111] : List Nat).all (fun x => decide (x < lo) || decide (hi' ≤ x)) = true → ∀ j : Nat, lo ≤ j → j < hi' → ax j < st.heap.size → t.heap[ax j]? = st.heap[ax j]? := fun lo hi' h1 h2 => fr_ix hi h1 hF.2 [0, 11, 14, 102, 103, 104, 105, 106, 107, 108, 109, 110, 111] (by rfl) (by decide) h2
  have np0 : X10Pr dC dI G ax fa t.heap := ⟨u5, hP1 0 _ rfl⟩
  have np4 : X10P1 dC dI G ax W0 N B t.heap := ⟨zn11_2, zf12, zf13, u4, zf15, zf16, zf17, p4j0, p4j1, p4j2, p4j3, hP1 1 _ rfl, q12.kept (FR 12 13 (by decide) (by decide) 12 (by decide) (by decide) q12.lt), q13.kept (FR 13 14 (by decide) (by decide) 13 (by decide) (by decide) q13.lt), hP1 2 _ rfl, q15.kept (FR 15 16 (by decide) (by decide) 15 (by decide) (by decide) q15.lt), q16.kept (FR 16 17 (by decide) (by decide) 16 (by decide) (by decide) q16.lt), q17.kept (FR 17 18 (by decide) (by decide) 17 (by decide) (by decide) q17.lt)⟩
  have np16 : X10P11 dC dI G ax E Z t.heap := ⟨u0, u1, u2, u3, zF108, p16j0, p16j1, hP1 3 _ rfl, hP1 4 _ rfl, hP1 5 _ rfl, hP1 6 _ rfl, hP1 7 _ rfl, hP1 8 _ rfl, vp_mid hP1⟩
  exact ⟨⟨r, (), ho, trivial, ⟨np0, p1.kept (FR 1 2 (by decide) (by decide)), p2.kept (FR 2 4 (by decide) (by decide)), p3.kept (FR 4 11 (by decide) (by decide)), np4, p5.kept (FR 18 25 (by decide) (by decide)), p6.kept (FR 25 26 (by decide) (by decide)), p7.kept (FR 26 33 (by decide) (by decide)), p8.kept (FR 33 40 (by decide) (by decide)), p9.kept (FR 40 41 (by decide) (by decide)), p10.kept (FR 41 44 (by decide) (by decide)), p11.kept (FR 44 68 (by decide) (by decide)), p12.kept (FR 68 69 (by decide) (by decide)), p13.kept (FR 69 74 (by decide) (by decide)), p14.kept (FR 74 77 (by decide) (by decide)), p15.kept (FR 77 102 (by decide) (by decide)), np16, hX⟩⟩, hF.wide (ad_ix [0, 11, 14, 102, 103, 104, 105, 106, 107, 108, 109, 110, 111] (by rfl) (by decide))⟩

set_option maxHeartbeats 1000000 in
set_option maxRecDepth 100000 in
theorem k_X10_torn (l : Launch) (dC : Nat → ClassId) (dI : Nat → Nat → Nat) (G : Nat → ClassId) (sz : Nat) (ax : Nat → Nat) (hi : adInj 129 ax) (T : Nat) (Y : Nat → Int32) (fa : Int32) (W0 : Nat → Int32) (W1 : Nat → Int32) (W2 : Nat → Int32) (N : Nat) (B : Nat) (N1 : Nat) (B1 : Nat) (N2 : Nat) (B2 : Nat) (K : Nat → Int32) (S : Nat) (M : Nat) (E : Nat → Int32) (Z : Nat → Int32) : Met l yX10_torn (Cond.code yX10_torn cX10_torn 1 (some .int) :: GT) ({ frames := 0, cells := 0, slots := 0, locals := 0 } : Room) (PcI [.ref (ax 0)] dC dI G (X10I dC dI G ax T Y fa W0 W1 W2 N B N1 B1 N2 B2 K S M E Z) sz) (va_Qi (fun (r : Int32) (_ : Unit) => True) (fun _ t => X10I dC dI G ax T Y fa W0 W1 W2 N B N1 B1 N2 B2 K S M E Z t.heap) (adX 0 112 ax sz)) 0 0 (adX 0 112 ax sz) := by
  refine Met.pick (fun a st hp => ?_)
  obtain ⟨e0, hsz, hI, hK⟩ := hp
  subst hsz
  have hI0 := hI
  unfold X10I at hI
  obtain ⟨p0, p1, p2, p3, p4, p5, p6, p7, p8, p9, p10, p11, p12, p13, p14, p15, p16, hX⟩ := hI
  unfold X10Pr at p0
  obtain ⟨zi0_13, q0⟩ := p0
  refine ⟨_, _, _, c_X10_torn l dC dI G _ (ax 0) (ax 1) (ax 11) (ax 18) (ax 25) (ax 40) (ax 41) (ax 44) (ax 68) (ax 69) (ax 74) (ax 77) (ax 102) fa zi0_13 , ⟨e0, rfl, (vpc q0 va_nilP), hK⟩, fun q h => Or.inr h, fun o t hq => ?_⟩
  obtain ⟨⟨r, u, ho, ⟨hr, hu⟩, -⟩, hF⟩ := hq
  exact ⟨⟨r, (), ho, trivial, hI0.kept (fun j _ _ h => hF.2 _ h (Nat.not_le.mpr h))⟩, hF.wide (fun q h => Or.inr h)⟩

set_option maxHeartbeats 1000000 in
set_option maxRecDepth 100000 in
theorem k_X10_count (l : Launch) (dC : Nat → ClassId) (dI : Nat → Nat → Nat) (G : Nat → ClassId) (sz : Nat) (ax : Nat → Nat) (hi : adInj 129 ax) (T : Nat) (Y : Nat → Int32) (fa : Int32) (W0 : Nat → Int32) (W1 : Nat → Int32) (W2 : Nat → Int32) (N : Nat) (B : Nat) (N1 : Nat) (B1 : Nat) (N2 : Nat) (B2 : Nat) (K : Nat → Int32) (S : Nat) (M : Nat) (E : Nat → Int32) (Z : Nat → Int32) (what : Int32) : Met l yX10_count (Cond.code yX10_count cX10_count 2 (some .int) :: GT) ({ frames := 1, cells := 0, slots := 0, locals := 22 } : Room) (PcI [.ref (ax 0), .int what] dC dI G (X10I dC dI G ax T Y fa W0 W1 W2 N B N1 B1 N2 B2 K S M E Z) sz) (va_Qi (fun (r : Int32) (_ : Unit) => True) (fun _ t => X10I dC dI G ax T Y fa W0 W1 W2 N B N1 B1 N2 B2 K S M E Z t.heap) (adX 0 112 ax sz)) 0 0 (adX 0 112 ax sz) := by
  refine Met.pick (fun a st hp => ?_)
  obtain ⟨e0, hsz, hI, hK⟩ := hp
  subst hsz
  have hI0 := hI
  unfold X10I at hI
  obtain ⟨p0, p1, p2, p3, p4, p5, p6, p7, p8, p9, p10, p11, p12, p13, p14, p15, p16, hX⟩ := hI
  unfold X10Pr at p0
  obtain ⟨zi0_13, q0⟩ := p0
  unfold X10P0 at p1
  obtain ⟨zi1_2, zi1_3, zi1_4, zi1_5, zi1_6, zi1_7, zi1_8, zi1_9, zi1_10, zi1_11, q1⟩ := p1
  unfold X10P0_0 at p2
  obtain ⟨p2j0, q2, q3⟩ := p2
  unfold X10P1 at p4
  obtain ⟨zn11_2, zf12, zf13, zf14, zf15, zf16, zf17, p4j0, p4j1, p4j2, p4j3, q11, q12, q13, q14, q15, q16, q17⟩ := p4
  unfold X10P4 at p9
  have q40 := p9
  unfold X10P8 at p13
  obtain ⟨zf70, zf71, zf72, zf73, p13j0, q69, q70, q71, q72, q73⟩ := p13
  unfold X10P9 at p14
  obtain ⟨zf75, zf76, p14j0, q74, q75, q76⟩ := p14
  unfold X10P11 at p16
  obtain ⟨zi102_3, zi102_4, zf106, zf107, zF108, p16j0, p16j1, q102, q103, q104, q105, q106, q107, q108⟩ := p16
  refine ⟨_, _, _, c_X10_count l dC dI G _ (ax 0) (ax 1) (ax 11) (ax 18) (ax 25) (ax 40) (ax 41) (ax 44) (ax 68) (ax 69) (ax 74) (ax 77) (ax 102) (ax 70) (ax 71) (ax 72) (ax 73) (ax 75) (ax 76) S M (ax 2) (ax 4) (ax 3) T (ax 12) (ax 13) (ax 14) (ax 15) (ax 16) (ax 17) N B zn11_2 (ax 103) (ax 104) (ax 105) (ax 106) (ax 107) fa zi0_13 what zi1_2 zi1_3 zi1_4 zi1_5 zi1_6 zi1_7 zi1_8 zi1_9 zi1_10 zi1_11 zi102_3 zi102_4 K zf14 E Z (by first | with_reducible assumption | assumption) (by first | with_reducible assumption | assumption) (by first | with_reducible assumption | assumption) (by first | with_reducible assumption | assumption) (by first | with_reducible assumption | assumption) (by first | with_reducible assumption | assumption), ⟨e0, rfl, (vpc q0 (vpc q69 (vpc q74 (vpc q40 (vpc q1 (vpc q2 (vpc q11 (vpc q14 (vpc q102 (vpc q103 (vpc q104 va_nilP))))))))))), hK⟩, fun q h => Or.inr h, fun o t hq => ?_⟩
  obtain ⟨⟨r, u, ho, ⟨hr, hu⟩, -⟩, hF⟩ := hq
  exact ⟨⟨r, (), ho, trivial, hI0.kept (fun j _ _ h => hF.2 _ h (Nat.not_le.mpr h))⟩, hF.wide (fun q h => Or.inr h)⟩
