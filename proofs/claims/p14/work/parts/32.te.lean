set_option maxHeartbeats 1000000 in
set_option maxRecDepth 100000 in
theorem c_X11_failsE (l : Launch) (dC : Nat → ClassId) (dI : Nat → Nat → Nat) (G : Nat → ClassId) (sz : Nat) (h0 st N B rp tp T nhe cu lt od th be ln S ma M ah bh ik la lg ce : Nat) (cd vrs vrb vhs vca vxs vxb vfa vbr vba vsp vtk vva vto : Int32) (hN : N ≤ 10) (hB : B ≤ 6) (hT : T ≤ 320) (hS0 : S ≤ 8) (hM : M ≤ 6) (hcd : 0 < cd.toInt) (hbr : 0 ≤ vbr.toInt) (hnx : nhe ≤ 320) : Met l yX11_fails (Cond.code yX11_fails cX11_fails 2 none :: GT) ({ frames := 0, cells := 0, slots := 0, locals := 0 } : Room) (PcW [.ref h0, .int cd] dC dI G [(h0, .inr (11, [.ref st, .int (nI N), .int (nI B), .ref rp, .int vrs, .int vrb, .int vhs, .int vca, .int vxs, .int vxb, .ref tp, .int (nI T), .int vfa, .int vbr, .int vba, .int vsp, .int (nI nhe), .int vtk, .int vva, .ref cu, .ref lt, .ref od, .ref th, .ref be, .ref ln, .int (nI S), .ref ma, .int (nI M), .ref ah, .ref bh, .ref ik, .ref la, .ref lg, .ref ce, .int vto]))] sz) (va_Qv (fun (u : Int32 × Int32) => match u with | (obr, oba) => 0 < obr.toInt ∧ obr = flB cd vbr ∧ oba = flA vbr vba nhe) (fun (u : Int32 × Int32) (t : State) => match u with | (obr, oba) => va_P (dC, dI) vwCl [(h0, .inr (11, [.ref st, .int (nI N), .int (nI B), .ref rp, .int vrs, .int vrb, .int vhs, .int vca, .int vxs, .int vxb, .ref tp, .int (nI T), .int vfa, .int obr, .int oba, .int vsp, .int (nI nhe), .int vtk, .int vva, .ref cu, .ref lt, .ref od, .ref th, .ref be, .ref ln, .int (nI S), .ref ma, .int (nI M), .ref ah, .ref bh, .ref ik, .ref la, .ref lg, .ref ce, .int vto]))] t.heap ∧ va_D (va_A [(h0, .inr (11, [.ref st, .int (nI N), .int (nI B), .ref rp, .int vrs, .int vrb, .int vhs, .int vca, .int vxs, .int vxb, .ref tp, .int (nI T), .int vfa, .int vbr, .int vba, .int vsp, .int (nI nhe), .int vtk, .int vva, .ref cu, .ref lt, .ref od, .ref th, .ref be, .ref ln, .int (nI S), .ref ma, .int (nI M), .ref ah, .ref bh, .ref ik, .ref la, .ref lg, .ref ce, .int vto]))] sz) [(h0, .inr (11, [.ref st, .int (nI N), .int (nI B), .ref rp, .int vrs, .int vrb, .int vhs, .int vca, .int vxs, .int vxb, .ref tp, .int (nI T), .int vfa, .int obr, .int oba, .int vsp, .int (nI nhe), .int vtk, .int vva, .ref cu, .ref lt, .ref od, .ref th, .ref be, .ref ln, .int (nI S), .ref ma, .int (nI M), .ref ah, .ref bh, .ref ik, .ref la, .ref lg, .ref ce, .int vto]))]) (va_A [(h0, .inr (11, [.ref st, .int (nI N), .int (nI B), .ref rp, .int vrs, .int vrb, .int vhs, .int vca, .int vxs, .int vxb, .ref tp, .int (nI T), .int vfa, .int vbr, .int vba, .int vsp, .int (nI nhe), .int vtk, .int vva, .ref cu, .ref lt, .ref od, .ref th, .ref be, .ref ln, .int (nI S), .ref ma, .int (nI M), .ref ah, .ref bh, .ref ik, .ref la, .ref lg, .ref ce, .int vto]))] sz)) 0 0 (va_A [(h0, .inr (11, [.ref st, .int (nI N), .int (nI B), .ref rp, .int vrs, .int vrb, .int vhs, .int vca, .int vxs, .int vxb, .ref tp, .int (nI T), .int vfa, .int vbr, .int vba, .int vsp, .int (nI nhe), .int vtk, .int vva, .ref cu, .ref lt, .ref od, .ref th, .ref be, .ref ln, .int (nI S), .ref ma, .int (nI M), .ref ah, .ref bh, .ref ik, .ref la, .ref lg, .ref ce, .int vto]))] sz) := by
  have tn1254_ : nIT N := fun _ => nI_toInt (by omega)
  have tn1255_ : nIT B := fun _ => nI_toInt (by omega)
  have tn1256_ : nIT T := fun _ => nI_toInt (by omega)
  have tn1257_ : nIT S := fun _ => nI_toInt (by omega)
  have tn1258_ : nIT M := fun _ => nI_toInt (by omega)
  refine Met.ofW (cc := cX11_fails) (maxL := 2) (ret := none) (by decide) rfl ?_
  intro p e s m args below meth c s₁ Bd hml hv
  obtain ⟨rfl, hsz, hP, hK, hD0⟩ := hv
  have hx := Bd.exec
  have hb := Bd.bytes
  have hr := Bd.returns
  have hg : ∀ w ∈ GT, w.before ([.ref h0, .int cd] : List Value).toArray s = true := fun w h => atoms_spec (ws := Cond.code yX11_fails cX11_fails 2 none :: GT) Bd.pre w (List.mem_cons_of_mem _ h)
  have hown : s.vm.findClass RX11 = some m.cls := findClass_of_methodNamed Bd.named
  have hlocks := Bd.notSynchronized
  subst hsz
  have hD := hD0.self (sz := s.heap.size)
  generalize hAe : va_A [(h0, .inr (11, [.ref st, .int (nI N), .int (nI B), .ref rp, .int vrs, .int vrb, .int vhs, .int vca, .int vxs, .int vxb, .ref tp, .int (nI T), .int vfa, .int vbr, .int vba, .int vsp, .int (nI nhe), .int vtk, .int vva, .ref cu, .ref lt, .ref od, .ref th, .ref be, .ref ln, .int (nI S), .ref ma, .int (nI M), .ref ah, .ref bh, .ref ik, .ref la, .ref lg, .ref ce, .int vto]))] s.heap.size = A at hD ⊢
  have hA : ∀ q : Nat, s.heap.size ≤ q → A q := fun q h => by rw [← hAe]; exact Or.inr h
  have hS : va_S A s.heap s.heap [] := va_S.rf
  have hl := lv_entry ([.ref h0, .int cd]) (n := 2) (Nat.le_of_ble_eq_true rfl)
  rw [lg_entry_eq]
  generalize (lg_sl ([.ref h0, .int cd]) ++ List.replicate (2 - (lg_sl ([.ref h0, .int cd])).length) Slot.unset).toArray = ls at hl ⊢
  have hl : lv_has ls 2 [(0, .ref h0), (1, .int cd)] := hl
  refine lv_aload_n hx hb dX11_fails_0 rfl (lv_at hl 0 rfl) ?_
  refine va_get (D := (dC, dI)) (ci := 11) (v := .int vbr) (C := RX11) (T := TX11) (N := 35) hx hb hg inG11 hown hK.1 hP 0 rfl rfl 13 (Nat.le_of_ble_eq_true rfl) (hg _ wt_891) (fun _ h9 => h9) rfl dX11_fails_1 ?_
  refine lv_if_ne (tgt := 20) hx hb dX11_fails_4 rfl (fun c1 => ?_) (fun c1 => ?_)
  · skip
    obtain ⟨hP9, hD9⟩ := va_sub2 (ws' := [(h0, .inr (11, [.ref st, .int (nI N), .int (nI B), .ref rp, .int vrs, .int vrb, .int vhs, .int vca, .int vxs, .int vxb, .ref tp, .int (nI T), .int vfa, .int vbr, .int vba, .int vsp, .int (nI nhe), .int vtk, .int vva, .ref cu, .ref lt, .ref od, .ref th, .ref be, .ref ln, .int (nI S), .ref ma, .int (nI M), .ref ah, .ref bh, .ref ik, .ref la, .ref lg, .ref ce, .int vto]))]) hP hD [0] (by decide) rfl
    refine W.widen (k := 0) (n := 0) (Nat.le_of_ble_eq_true rfl) (Nat.le_of_ble_eq_true rfl) ?_
    have tn1259_ : nIT nhe := fun _ => nI_toInt (by first | omega | (have t_c1 := neI c1; have : (0 : Int32).toInt = 0 := qI_0; omega))
    exact W.vret hx hb hr (fun t ht hW => ⟨⟨(vbr, vba), rfl, (by refine ⟨by (have t_c1 := neI c1; have : (0 : Int32).toInt = 0 := qI_0; have tnb_ := nib6 tn1254_ tn1255_ tn1256_ tn1259_ tn1257_ tn1258_; omega), ?_, ?_⟩ <;> first | (unfold flB; first | (rw [if_pos (by with_reducible assumption)]) | (rw [if_neg (by with_reducible assumption)])) | (unfold flA; first | (rw [if_pos (by with_reducible assumption)]) | (rw [if_neg (by with_reducible assumption)]))), ⟨by rw [ht]; exact hP9, hD9⟩⟩, hS.F ht⟩) hS.2.2 dX11_fails_20
  · skip
    refine lv_aload_n hx hb dX11_fails_7 rfl (lv_at hl 0 rfl) ?_
    refine lv_iload_n hx hb dX11_fails_8 rfl (lv_at hl 1 rfl) ?_
    refine va_put (D := (dC, dI)) (ci := 11) (v := .int cd) (ty := .int) (C := RX11) (T := TX11) (N := 35) hx hb hg inG11 tyX11 tyX11_ok nmX11 hown hK.1 hP hD hS 0 rfl rfl 13 (Nat.le_of_ble_eq_true rfl) (hg _ wt_891) (fun _ h9 => h9) rfl (by decide +kernel) rfl rfl (Nat.le_of_ble_eq_true rfl) dX11_fails_9 (fun H locs hP hD hS => ?_)
    refine lv_aload_n hx hb dX11_fails_12 rfl (lv_at hl 0 rfl) ?_
    refine lv_aload_n hx hb dX11_fails_13 rfl (lv_at hl 0 rfl) ?_
    refine va_get (D := (dC, dI)) (ci := 11) (v := .int (nI nhe)) (C := RX11) (T := TX11) (N := 35) hx hb hg inG11 hown hK.1 hP 0 rfl rfl 16 (Nat.le_of_ble_eq_true rfl) (hg _ wt_894) (fun _ h9 => h9) rfl dX11_fails_14 ?_
    refine va_put (D := (dC, dI)) (ci := 11) (v := .int (nI nhe)) (ty := .int) (C := RX11) (T := TX11) (N := 35) hx hb hg inG11 tyX11 tyX11_ok nmX11 hown hK.1 hP hD hS 0 rfl rfl 14 (Nat.le_of_ble_eq_true rfl) (hg _ wt_892) (fun _ h9 => h9) rfl (by decide +kernel) rfl rfl (Nat.le_of_ble_eq_true rfl) dX11_fails_17 (fun H locs hP hD hS => ?_)
    obtain ⟨hP9, hD9⟩ := va_sub2 (ws' := [(h0, .inr (11, [.ref st, .int (nI N), .int (nI B), .ref rp, .int vrs, .int vrb, .int vhs, .int vca, .int vxs, .int vxb, .ref tp, .int (nI T), .int vfa, .int cd, .int (nI nhe), .int vsp, .int (nI nhe), .int vtk, .int vva, .ref cu, .ref lt, .ref od, .ref th, .ref be, .ref ln, .int (nI S), .ref ma, .int (nI M), .ref ah, .ref bh, .ref ik, .ref la, .ref lg, .ref ce, .int vto]))]) hP hD [0] (by decide) rfl
    refine W.widen (k := 0) (n := 0) (Nat.le_of_ble_eq_true rfl) (Nat.le_of_ble_eq_true rfl) ?_
    have tn1260_ : nIT nhe := fun _ => nI_toInt (by first | omega | (have t_c1 := eqI c1; have : (0 : Int32).toInt = 0 := qI_0; omega))
    exact W.vret hx hb hr (fun t ht hW => ⟨⟨(cd, (nI nhe)), rfl, (by refine ⟨by (have t_c1 := eqI c1; have : (0 : Int32).toInt = 0 := qI_0; have tnb_ := nib6 tn1254_ tn1255_ tn1256_ tn1260_ tn1257_ tn1258_; omega), ?_, ?_⟩ <;> first | (unfold flB; first | (rw [if_pos (by with_reducible assumption)]) | (rw [if_neg (by with_reducible assumption)])) | (unfold flA; first | (rw [if_pos (by with_reducible assumption)]) | (rw [if_neg (by with_reducible assumption)]))), ⟨by rw [ht]; exact hP9, hD9⟩⟩, hS.F ht⟩) hS.2.2 dX11_fails_20

set_option maxHeartbeats 1000000 in
set_option maxRecDepth 100000 in
theorem c_X11_goesOnE (l : Launch) (dC : Nat → ClassId) (dI : Nat → Nat → Nat) (G : Nat → ClassId) (sz : Nat) (h0 st N B rp tp T nsp nhe cu lt od th be ln S ma M ah bh ik la lg ce : Nat) (vrs vrb vhs vca vxs vxb vfa vbr vba vtk vva vto : Int32) (ftp : Nat → Int32) (hN : N ≤ 10) (hB : B ≤ 6) (hT : T ≤ 320) (hS0 : S ≤ 8) (hM : M ≤ 6) (hbr : 0 ≤ vbr.toInt) (hsp : nsp ≤ T) (hhb : nhe ≤ 320 ∧ (vbr.toInt = 0 ∨ nhe ≤ nsp)) (htb : ∀ q : Nat, q < 320 → 0 ≤ (ftp q).toInt) : Met l yX11_goesOn (Cond.code yX11_goesOn cX11_goesOn 2 none :: GT) ({ frames := 1, cells := 0, slots := 0, locals := 25 } : Room) (PcW [.ref h0] dC dI G [(h0, .inr (11, [.ref st, .int (nI N), .int (nI B), .ref rp, .int vrs, .int vrb, .int vhs, .int vca, .int vxs, .int vxb, .ref tp, .int (nI T), .int vfa, .int vbr, .int vba, .int (nI nsp), .int (nI nhe), .int vtk, .int vva, .ref cu, .ref lt, .ref od, .ref th, .ref be, .ref ln, .int (nI S), .ref ma, .int (nI M), .ref ah, .ref bh, .ref ik, .ref la, .ref lg, .ref ce, .int vto])), (tp, .inl (G 0, 320, .inl ftp))] sz) (va_Qv (fun (u : Int32 × Int32 × Nat × Nat × Int32 × Int32) => match u with | (obr, oba, osp, ohe, otk, ova) => 0 ≤ obr.toInt ∧ (vbr.toInt = 0 ∨ obr.toInt = vbr.toInt) ∧ nsp ≤ osp ∧ osp ≤ T ∧ ohe ≤ osp ∧ (0 < vbr.toInt ∨ otk.toInt = 0 ∨ nsp < osp) ∧ (obr, oba, osp, ohe, otk, ova) = gOn ftp T vbr vba nsp nhe vtk vva) (fun (u : Int32 × Int32 × Nat × Nat × Int32 × Int32) (t : State) => match u with | (obr, oba, osp, ohe, otk, ova) => va_P (dC, dI) vwCl [(h0, .inr (11, [.ref st, .int (nI N), .int (nI B), .ref rp, .int vrs, .int vrb, .int vhs, .int vca, .int vxs, .int vxb, .ref tp, .int (nI T), .int vfa, .int obr, .int oba, .int (nI osp), .int (nI ohe), .int otk, .int ova, .ref cu, .ref lt, .ref od, .ref th, .ref be, .ref ln, .int (nI S), .ref ma, .int (nI M), .ref ah, .ref bh, .ref ik, .ref la, .ref lg, .ref ce, .int vto])), (tp, .inl (G 0, 320, .inl ftp))] t.heap ∧ va_D (va_A [(h0, .inr (11, [.ref st, .int (nI N), .int (nI B), .ref rp, .int vrs, .int vrb, .int vhs, .int vca, .int vxs, .int vxb, .ref tp, .int (nI T), .int vfa, .int vbr, .int vba, .int (nI nsp), .int (nI nhe), .int vtk, .int vva, .ref cu, .ref lt, .ref od, .ref th, .ref be, .ref ln, .int (nI S), .ref ma, .int (nI M), .ref ah, .ref bh, .ref ik, .ref la, .ref lg, .ref ce, .int vto])), (tp, .inl (G 0, 320, .inl ftp))] sz) [(h0, .inr (11, [.ref st, .int (nI N), .int (nI B), .ref rp, .int vrs, .int vrb, .int vhs, .int vca, .int vxs, .int vxb, .ref tp, .int (nI T), .int vfa, .int obr, .int oba, .int (nI osp), .int (nI ohe), .int otk, .int ova, .ref cu, .ref lt, .ref od, .ref th, .ref be, .ref ln, .int (nI S), .ref ma, .int (nI M), .ref ah, .ref bh, .ref ik, .ref la, .ref lg, .ref ce, .int vto])), (tp, .inl (G 0, 320, .inl ftp))]) (va_A [(h0, .inr (11, [.ref st, .int (nI N), .int (nI B), .ref rp, .int vrs, .int vrb, .int vhs, .int vca, .int vxs, .int vxb, .ref tp, .int (nI T), .int vfa, .int vbr, .int vba, .int (nI nsp), .int (nI nhe), .int vtk, .int vva, .ref cu, .ref lt, .ref od, .ref th, .ref be, .ref ln, .int (nI S), .ref ma, .int (nI M), .ref ah, .ref bh, .ref ik, .ref la, .ref lg, .ref ce, .int vto])), (tp, .inl (G 0, 320, .inl ftp))] sz)) 0 0 (va_A [(h0, .inr (11, [.ref st, .int (nI N), .int (nI B), .ref rp, .int vrs, .int vrb, .int vhs, .int vca, .int vxs, .int vxb, .ref tp, .int (nI T), .int vfa, .int vbr, .int vba, .int (nI nsp), .int (nI nhe), .int vtk, .int vva, .ref cu, .ref lt, .ref od, .ref th, .ref be, .ref ln, .int (nI S), .ref ma, .int (nI M), .ref ah, .ref bh, .ref ik, .ref la, .ref lg, .ref ce, .int vto])), (tp, .inl (G 0, 320, .inl ftp))] sz) := by
  have hB_ := hB
  have hM_ := hM
  have hT_ := hT
  have tn1261_ : nIT N := fun _ => nI_toInt (by omega)
  have tn1262_ : nIT B := fun _ => nI_toInt (by omega)
  have tn1263_ : nIT T := fun _ => nI_toInt (by omega)
  have tn1264_ : nIT S := fun _ => nI_toInt (by omega)
  have tn1265_ : nIT M := fun _ => nI_toInt (by omega)
  refine Met.ofW (cc := cX11_goesOn) (maxL := 2) (ret := none) (by decide) rfl ?_
  intro p e s m args below meth c s₁ Bd hml hv
  obtain ⟨rfl, hsz, hP, hK, hD0⟩ := hv
  have hx := Bd.exec
  have hb := Bd.bytes
  have hr := Bd.returns
  have hg : ∀ w ∈ GT, w.before ([.ref h0] : List Value).toArray s = true := fun w h => atoms_spec (ws := Cond.code yX11_goesOn cX11_goesOn 2 none :: GT) Bd.pre w (List.mem_cons_of_mem _ h)
  have hown : s.vm.findClass RX11 = some m.cls := findClass_of_methodNamed Bd.named
  have hlocks := Bd.notSynchronized
  subst hsz
  have hD := hD0.self (sz := s.heap.size)
  generalize hAe : va_A [(h0, .inr (11, [.ref st, .int (nI N), .int (nI B), .ref rp, .int vrs, .int vrb, .int vhs, .int vca, .int vxs, .int vxb, .ref tp, .int (nI T), .int vfa, .int vbr, .int vba, .int (nI nsp), .int (nI nhe), .int vtk, .int vva, .ref cu, .ref lt, .ref od, .ref th, .ref be, .ref ln, .int (nI S), .ref ma, .int (nI M), .ref ah, .ref bh, .ref ik, .ref la, .ref lg, .ref ce, .int vto])), (tp, .inl (G 0, 320, .inl ftp))] s.heap.size = A at hD ⊢
  have hA : ∀ q : Nat, s.heap.size ≤ q → A q := fun q h => by rw [← hAe]; exact Or.inr h
  have hS : va_S A s.heap s.heap [] := va_S.rf
  have hl := lv_entry ([.ref h0]) (n := 2) (Nat.le_of_ble_eq_true rfl)
  rw [lg_entry_eq]
  generalize (lg_sl ([.ref h0]) ++ List.replicate (2 - (lg_sl ([.ref h0])).length) Slot.unset).toArray = ls at hl ⊢
  have hl : lv_has ls 2 [(0, .ref h0)] := hl
  refine lv_aload_n hx hb dX11_goesOn_0 rfl (lv_at hl 0 rfl) ?_
  refine va_get (D := (dC, dI)) (ci := 11) (v := .int vbr) (C := RX11) (T := TX11) (N := 35) hx hb hg inG11 hown hK.1 hP 0 rfl rfl 13 (Nat.le_of_ble_eq_true rfl) (hg _ wt_891) (fun _ h9 => h9) rfl dX11_goesOn_1 ?_
  refine lv_if_le (tgt := 8) hx hb dX11_goesOn_4 rfl (fun c1 => ?_) (fun c1 => ?_)
  · skip
    have loop8_4 : ∀ (nf : Nat) (k3 : Nat), (T - k3) < nf → (nsp ≤ k3 ∧ k3 ≤ T ∧ pst ftp T 32 32 k3 = pst ftp T 32 32 nsp) → ∀ (H : Heap) (locs : List Loc), va_P (dC, dI) vwCl [(h0, .inr (11, [.ref st, .int (nI N), .int (nI B), .ref rp, .int vrs, .int vrb, .int vhs, .int vca, .int vxs, .int vxb, .ref tp, .int (nI T), .int vfa, .int vbr, .int vba, .int (nI k3), .int (nI nhe), .int vtk, .int vva, .ref cu, .ref lt, .ref od, .ref th, .ref be, .ref ln, .int (nI S), .ref ma, .int (nI M), .ref ah, .ref bh, .ref ik, .ref la, .ref lg, .ref ce, .int vto])), (tp, .inl (G 0, 320, .inl ftp))] H → va_D A [(h0, .inr (11, [.ref st, .int (nI N), .int (nI B), .ref rp, .int vrs, .int vrb, .int vhs, .int vca, .int vxs, .int vxb, .ref tp, .int (nI T), .int vfa, .int vbr, .int vba, .int (nI k3), .int (nI nhe), .int vtk, .int vva, .ref cu, .ref lt, .ref od, .ref th, .ref be, .ref ln, .int (nI S), .ref ma, .int (nI M), .ref ah, .ref bh, .ref ik, .ref la, .ref lg, .ref ce, .int vto])), (tp, .inl (G 0, 320, .inl ftp))] → va_S A s.heap H locs → ∀ (ls : Array Slot), lv_has ls 2 [(0, .ref h0)] → W p l e (headSpec (Cond.code yX11_goesOn cX11_goesOn 2 none :: GT) ({ frames := 1, cells := 0, slots := 0, locals := 25 } : Room)).room s m ([.ref h0] : List Value).toArray below meth c H locs 0 0 (MQ below (va_Qv (fun (u : Int32 × Int32 × Nat × Nat × Int32 × Int32) => match u with | (obr, oba, osp, ohe, otk, ova) => 0 ≤ obr.toInt ∧ (vbr.toInt = 0 ∨ obr.toInt = vbr.toInt) ∧ nsp ≤ osp ∧ osp ≤ T ∧ ohe ≤ osp ∧ (0 < vbr.toInt ∨ otk.toInt = 0 ∨ nsp < osp) ∧ (obr, oba, osp, ohe, otk, ova) = gOn ftp T vbr vba nsp nhe vtk vva) (fun (u : Int32 × Int32 × Nat × Nat × Int32 × Int32) (t : State) => match u with | (obr, oba, osp, ohe, otk, ova) => va_P (dC, dI) vwCl [(h0, .inr (11, [.ref st, .int (nI N), .int (nI B), .ref rp, .int vrs, .int vrb, .int vhs, .int vca, .int vxs, .int vxb, .ref tp, .int (nI T), .int vfa, .int obr, .int oba, .int (nI osp), .int (nI ohe), .int otk, .int ova, .ref cu, .ref lt, .ref od, .ref th, .ref be, .ref ln, .int (nI S), .ref ma, .int (nI M), .ref ah, .ref bh, .ref ik, .ref la, .ref lg, .ref ce, .int vto])), (tp, .inl (G 0, 320, .inl ftp))] t.heap ∧ va_D A [(h0, .inr (11, [.ref st, .int (nI N), .int (nI B), .ref rp, .int vrs, .int vrb, .int vhs, .int vca, .int vxs, .int vxb, .ref tp, .int (nI T), .int vfa, .int obr, .int oba, .int (nI osp), .int (nI ohe), .int otk, .int ova, .ref cu, .ref lt, .ref od, .ref th, .ref be, .ref ln, .int (nI S), .ref ma, .int (nI M), .ref ah, .ref bh, .ref ik, .ref la, .ref lg, .ref ce, .int vto])), (tp, .inl (G 0, 320, .inl ftp))]) A) ([.ref h0] : List Value).toArray s 0 0 A) (F0 m 8 ls []) := by
      intro nf
      induction nf with
      | zero => intro k3 h1; exact absurd h1 (Nat.not_lt_zero _)
      | succ nf ih8_4 =>
        intro k3 hm5 hinva H locs hP hD hS ls hl
        refine lv_aload_n hx hb dX11_goesOn_8 rfl (lv_at hl 0 rfl) ?_
        refine lv_aload_n hx hb dX11_goesOn_9 rfl (lv_at hl 0 rfl) ?_
        refine va_get (D := (dC, dI)) (ci := 11) (v := .int (nI k3)) (C := RX11) (T := TX11) (N := 35) hx hb hg inG11 hown hK.1 hP 0 rfl rfl 15 (Nat.le_of_ble_eq_true rfl) (hg _ wt_893) (fun _ h9 => h9) rfl dX11_goesOn_10 ?_
        have hPc := hP.sub (ws' := [(h0, .inr (11, [.ref st, .int (nI N), .int (nI B), .ref rp, .int vrs, .int vrb, .int vhs, .int vca, .int vxs, .int vxb, .ref tp, .int (nI T), .int vfa, .int vbr, .int vba, .int (nI k3), .int (nI nhe), .int vtk, .int vva, .ref cu, .ref lt, .ref od, .ref th, .ref be, .ref ln, .int (nI S), .ref ma, .int (nI M), .ref ah, .ref bh, .ref ik, .ref la, .ref lg, .ref ce, .int vto])), (tp, .inl (G 0, 320, .inl ftp))]) [0, 1] rfl
        have tn1266_ : nIT nsp := fun _ => nI_toInt (by first | omega | (have t_c1 := leI c1; have t_hinva := hinva; have : (0 : Int32).toInt = 0 := qI_0; omega))
        have tn1267_ : nIT nhe := fun _ => nI_toInt (by first | omega | (have t_c1 := leI c1; have t_hinva := hinva; have : (0 : Int32).toInt = 0 := qI_0; omega))
        have tn1268_ : nIT k3 := fun _ => nI_toInt (by first | omega | (have t_c1 := leI c1; have t_hinva := hinva; have : (0 : Int32).toInt = 0 := qI_0; omega))
        refine va_calli (va_runV (As := [.int (nI k3)]) (rest := []) ⟨hx, hb, hml, hown, hg⟩ (c_X11_byteAt l dC dI G _ h0 k3 st N B rp tp T cu lt od th be ln S ma M ah bh ik la lg ce vrs vrb vhs vca vxs vxb vfa vbr vba (nI k3) (nI nhe) vtk vva vto ftp hN hB_ hT_ hS0 hM_ (by first | omega | (have t_c1 := leI c1; have t_hinva := hinva; have : (0 : Int32).toInt = 0 := qI_0; have tnb_ := nib8 tn1261_ tn1262_ tn1263_ tn1266_ tn1267_ tn1264_ tn1265_ tn1268_; omega))) (kwV hg mfX11_byteAt wt_1003 ⟨Nat.le_of_ble_eq_true rfl, Nat.le_of_ble_eq_true rfl⟩) (preVR hK hPc (ci := 11) (r := (RX11, TX11, 35)) rfl rfl) rfl rfl hl.1 rfl (lv_room (Nat.le_of_ble_eq_true rfl)) dX11_goesOn_13 ⟨Nat.le_of_ble_eq_true rfl, Nat.le_of_ble_eq_true rfl⟩) hS (fun q h1 h2 => absurd h2 (Nat.not_le.mpr h1)) (fun q h => hA q (Nat.le_trans hS.1 h)) (fun r6 ur6 t H1 locs ht hvm w7 hB hz1 hk1 hS => ?_)
        have hP := keepR hP hk1
        obtain ⟨w7, w7x⟩ := w7
        rcases w7 with ⟨w71, w72⟩ | ⟨w71, w72⟩
        · skip
          refine lv_cg (y := ftp k3) w72 ?_
          refine lv_bipush (v := 32) hx hb dX11_goesOn_16 rfl ?_
          refine lv_icmp_ne (tgt := 34) hx hb dX11_goesOn_18 rfl (fun c8 => ?_) (fun c8 => ?_)
          · skip
            refine lv_aload_n hx hb dX11_goesOn_34 rfl (lv_at hl 0 rfl) ?_
            refine lv_aload_n hx hb dX11_goesOn_35 rfl (lv_at hl 0 rfl) ?_
            refine va_get (D := (dC, dI)) (ci := 11) (v := .int (nI k3)) (C := RX11) (T := TX11) (N := 35) hx hb hg inG11 hown hK.1 hP 0 rfl rfl 15 (Nat.le_of_ble_eq_true rfl) (hg _ wt_893) (fun _ h9 => h9) rfl dX11_goesOn_36 ?_
            refine va_put (D := (dC, dI)) (ci := 11) (v := .int (nI k3)) (ty := .int) (C := RX11) (T := TX11) (N := 35) hx hb hg inG11 tyX11 tyX11_ok nmX11 hown hK.1 hP hD hS 0 rfl rfl 16 (Nat.le_of_ble_eq_true rfl) (hg _ wt_894) (fun _ h9 => h9) rfl (by decide +kernel) rfl rfl (Nat.le_of_ble_eq_true rfl) dX11_goesOn_39 (fun H locs hP hD hS => ?_)
            refine lv_aload_n hx hb dX11_goesOn_42 rfl (lv_at hl 0 rfl) ?_
            refine lv_aload_n hx hb dX11_goesOn_43 rfl (lv_at hl 0 rfl) ?_
            refine va_get (D := (dC, dI)) (ci := 11) (v := .int (nI k3)) (C := RX11) (T := TX11) (N := 35) hx hb hg inG11 hown hK.1 hP 0 rfl rfl 15 (Nat.le_of_ble_eq_true rfl) (hg _ wt_893) (fun _ h9 => h9) rfl dX11_goesOn_44 ?_
            have hPc := hP.sub (ws' := [(h0, .inr (11, [.ref st, .int (nI N), .int (nI B), .ref rp, .int vrs, .int vrb, .int vhs, .int vca, .int vxs, .int vxb, .ref tp, .int (nI T), .int vfa, .int vbr, .int vba, .int (nI k3), .int (nI k3), .int vtk, .int vva, .ref cu, .ref lt, .ref od, .ref th, .ref be, .ref ln, .int (nI S), .ref ma, .int (nI M), .ref ah, .ref bh, .ref ik, .ref la, .ref lg, .ref ce, .int vto])), (tp, .inl (G 0, 320, .inl ftp))]) [0, 1] rfl
            refine va_calli (va_runV (As := [.int (nI k3)]) (rest := []) ⟨hx, hb, hml, hown, hg⟩ (c_X11_byteAt l dC dI G _ h0 k3 st N B rp tp T cu lt od th be ln S ma M ah bh ik la lg ce vrs vrb vhs vca vxs vxb vfa vbr vba (nI k3) (nI k3) vtk vva vto ftp hN hB_ hT_ hS0 hM_ (by first | omega | (have t_c1 := leI c1; have t_hinva := hinva; have t_w71 := w71; have t_c8 := neI c8; have tqz_ := qz26_; have tnb_ := nib8 tn1261_ tn1262_ tn1263_ tn1266_ tn1267_ tn1264_ tn1265_ tn1268_; omega))) (kwV hg mfX11_byteAt wt_1003 ⟨Nat.le_of_ble_eq_true rfl, Nat.le_of_ble_eq_true rfl⟩) (preVR hK hPc (ci := 11) (r := (RX11, TX11, 35)) rfl rfl) rfl rfl hl.1 rfl (lv_room (Nat.le_of_ble_eq_true rfl)) dX11_goesOn_47 ⟨Nat.le_of_ble_eq_true rfl, Nat.le_of_ble_eq_true rfl⟩) hS (fun q h1 h2 => absurd h2 (Nat.not_le.mpr h1)) (fun q h => hA q (Nat.le_trans hS.1 h)) (fun r9 ur9 t H1 locs ht hvm w10 hB hz1 hk1 hS => ?_)
            have hP := keepR hP hk1
            obtain ⟨w10, w10x⟩ := w10
            rcases w10 with ⟨w101, w102⟩ | ⟨w101, w102⟩
            · skip
              refine lv_cg (y := ftp k3) w102 ?_
              refine lv_istore_n (lv' := [(1, .int (ftp k3)), (0, .ref h0)]) hx hb dX11_goesOn_50 rfl hl (by decide) rfl (fun ls hl => ?_)
              refine lv_aload_n hx hb dX11_goesOn_51 rfl (lv_at hl 1 rfl) ?_
              refine lv_iconst (v := 0) hx hb dX11_goesOn_52 rfl ?_
              refine va_put (D := (dC, dI)) (ci := 11) (v := .int 0) (ty := .int) (C := RX11) (T := TX11) (N := 35) hx hb hg inG11 tyX11 tyX11_ok nmX11 hown hK.1 hP hD hS 0 rfl rfl 18 (Nat.le_of_ble_eq_true rfl) (hg _ wt_896) (fun _ h9 => h9) rfl (by decide +kernel) rfl rfl (Nat.le_of_ble_eq_true rfl) dX11_goesOn_53 (fun H locs hP hD hS => ?_)
              refine lv_iload_n hx hb dX11_goesOn_56 rfl (lv_at hl 0 rfl) ?_
              refine lv_bipush (v := (-4)) hx hb dX11_goesOn_57 rfl ?_
              refine lv_icmp_ne (tgt := 70) hx hb dX11_goesOn_59 rfl (fun c11 => ?_) (fun c11 => ?_)
              · skip
                refine lv_iload_n hx hb dX11_goesOn_70 rfl (lv_at hl 0 rfl) ?_
                refine lv_i2l (v := (ftp k3).toInt64) hx hb dX11_goesOn_71 rfl ?_
                refine lv_ldc2 (v := 97) hx hb hown (hg _ wt_1007) dX11_goesOn_72 ?_
                refine lv_ldc2 (v := 122) hx hb hown (hg _ wt_1008) dX11_goesOn_75 ?_
                have hPc := hP.sub (ws' := []) [] rfl
                refine va_calli (va_runS (As := [.long ((ftp k3).toInt64), .long 97, .long 122]) (rest := []) ⟨hx, hb, hml, hown, hg⟩ (c_X11_in l dC dI G _ ((ftp k3).toInt64) 97 122) (kwS hg mfX11_in wt_992 ⟨Nat.le_of_ble_eq_true rfl, Nat.le_of_ble_eq_true rfl⟩) (preSR hK hPc) rfl rfl hl.1 rfl (lv_room (Nat.le_of_ble_eq_true rfl)) dX11_goesOn_78 ⟨Nat.le_of_ble_eq_true rfl, Nat.le_of_ble_eq_true rfl⟩) hS (fun q h1 h2 => absurd h2 (Nat.not_le.mpr h1)) (fun q h => hA q (Nat.le_trans hS.1 h)) (fun r12 ur12 t H1 locs ht hvm w13 hB hz1 hk1 hS => ?_)
                have hP := keepR hP hk1
                obtain ⟨w13, w13x⟩ := w13
                try simp only [l_ii, show (97 : Int64).toInt = 97 from by decide, show (122 : Int64).toInt = 122 from by decide] at w13
                subst w13
                refine lv_if_eq (tgt := 126) hx hb dX11_goesOn_81 rfl (fun c14 => ?_) (fun c14 => ?_)
                · skip
                  have b15 := if10_n c14
                  refine lv_iload_n hx hb dX11_goesOn_126 rfl (lv_at hl 0 rfl) ?_
                  refine lv_i2l (v := (ftp k3).toInt64) hx hb dX11_goesOn_127 rfl ?_
                  refine lv_ldc2 (v := 48) hx hb hown (hg _ wt_1009) dX11_goesOn_128 ?_
                  refine lv_ldc2 (v := 57) hx hb hown (hg _ wt_1010) dX11_goesOn_131 ?_
                  have hPc := hP.sub (ws' := []) [] rfl
                  refine va_calli (va_runS (As := [.long ((ftp k3).toInt64), .long 48, .long 57]) (rest := []) ⟨hx, hb, hml, hown, hg⟩ (c_X11_in l dC dI G _ ((ftp k3).toInt64) 48 57) (kwS hg mfX11_in wt_992 ⟨Nat.le_of_ble_eq_true rfl, Nat.le_of_ble_eq_true rfl⟩) (preSR hK hPc) rfl rfl hl.1 rfl (lv_room (Nat.le_of_ble_eq_true rfl)) dX11_goesOn_134 ⟨Nat.le_of_ble_eq_true rfl, Nat.le_of_ble_eq_true rfl⟩) hS (fun q h1 h2 => absurd h2 (Nat.not_le.mpr h1)) (fun q h => hA q (Nat.le_trans hS.1 h)) (fun r16 ur16 t H1 locs ht hvm w17 hB hz1 hk1 hS => ?_)
                  have hP := keepR hP hk1
                  obtain ⟨w17, w17x⟩ := w17
                  try simp only [l_ii, show (48 : Int64).toInt = 48 from by decide, show (57 : Int64).toInt = 57 from by decide] at w17
                  subst w17
                  refine lv_if_eq (tgt := 243) hx hb dX11_goesOn_137 rfl (fun c18 => ?_) (fun c18 => ?_)
                  · skip
                    have b19 := if10_n c18
                    refine lv_aload_n hx hb dX11_goesOn_243 rfl (lv_at hl 1 rfl) ?_
                    refine lv_iconst (v := 3) hx hb dX11_goesOn_244 rfl ?_
                    refine va_put (D := (dC, dI)) (ci := 11) (v := .int 3) (ty := .int) (C := RX11) (T := TX11) (N := 35) hx hb hg inG11 tyX11 tyX11_ok nmX11 hown hK.1 hP hD hS 0 rfl rfl 17 (Nat.le_of_ble_eq_true rfl) (hg _ wt_895) (fun _ h9 => h9) rfl (by decide +kernel) rfl rfl (Nat.le_of_ble_eq_true rfl) dX11_goesOn_245 (fun H locs hP hD hS => ?_)
                    refine lv_aload_n hx hb dX11_goesOn_248 rfl (lv_at hl 1 rfl) ?_
                    refine lv_dup hx hb dX11_goesOn_249 rfl ?_
                    refine va_get (D := (dC, dI)) (ci := 11) (v := .int (nI k3)) (C := RX11) (T := TX11) (N := 35) hx hb hg inG11 hown hK.1 hP 0 rfl rfl 15 (Nat.le_of_ble_eq_true rfl) (hg _ wt_893) (fun _ h9 => h9) rfl dX11_goesOn_250 ?_
                    refine lv_iconst (v := 1) hx hb dX11_goesOn_253 rfl ?_
                    refine lv_iadd hx hb dX11_goesOn_254 ?_
                    refine lv_cg (y := nI (k3 + 1)) (by rw [show (1 : Int32) = nI 1 from rfl]; exact nI_add _ _) ?_
                    refine va_put (D := (dC, dI)) (ci := 11) (v := .int (nI (k3 + 1))) (ty := .int) (C := RX11) (T := TX11) (N := 35) hx hb hg inG11 tyX11 tyX11_ok nmX11 hown hK.1 hP hD hS 0 rfl rfl 15 (Nat.le_of_ble_eq_true rfl) (hg _ wt_893) (fun _ h9 => h9) rfl (by decide +kernel) rfl rfl (Nat.le_of_ble_eq_true rfl) dX11_goesOn_255 (fun H locs hP hD hS => ?_)
                    refine lv_iload_n hx hb dX11_goesOn_258 rfl (lv_at hl 0 rfl) ?_
                    refine lv_bipush (v := 59) hx hb dX11_goesOn_259 rfl ?_
                    refine lv_icmp_eq (tgt := 269) hx hb dX11_goesOn_261 rfl (fun c20 => ?_) (fun c20 => ?_)
                    · skip
                      obtain ⟨hP9, hD9⟩ := va_sub2 (ws' := [(h0, .inr (11, [.ref st, .int (nI N), .int (nI B), .ref rp, .int vrs, .int vrb, .int vhs, .int vca, .int vxs, .int vxb, .ref tp, .int (nI T), .int vfa, .int vbr, .int vba, .int (nI (k3 + 1)), .int (nI k3), .int 3, .int 0, .ref cu, .ref lt, .ref od, .ref th, .ref be, .ref ln, .int (nI S), .ref ma, .int (nI M), .ref ah, .ref bh, .ref ik, .ref la, .ref lg, .ref ce, .int vto])), (tp, .inl (G 0, 320, .inl ftp))]) hP hD [0, 1] (by decide) rfl
                      refine W.widen (k := 0) (n := 0) (Nat.le_of_ble_eq_true rfl) (Nat.le_of_ble_eq_true rfl) ?_
                      exact W.vret hx hb hr (fun t ht hW => ⟨⟨(vbr, vba, (k3 + 1), k3, 3, 0), rfl, (by have hb8 := htb k3; first | (exfalso; (have t_c1 := leI c1; have t_hinva := hinva; have t_w71 := w71; have t_c8 := neI c8; have t_w101 := w101; have t_c11 := neI c11; have t_b15 := b15; have t_b19 := b19; have t_c20 := eqI c20; have tqz_ := qz27_; have tnb_ := nib8 tn1261_ tn1262_ tn1263_ tn1266_ tn1267_ tn1264_ tn1265_ tn1268_; have tqz_ := qz41_; omega)) | skip; refine ⟨by (have t_c1 := leI c1; have t_hinva := hinva; have t_w71 := w71; have t_c8 := neI c8; have t_w101 := w101; have t_c11 := neI c11; have t_b15 := b15; have t_b19 := b19; have t_c20 := eqI c20; have tqz_ := qz27_; have tnb_ := nib8 tn1261_ tn1262_ tn1263_ tn1266_ tn1267_ tn1264_ tn1265_ tn1268_; have tqz_ := qz41_; omega), ?_, by (have t_c1 := leI c1; have t_hinva := hinva; have t_w71 := w71; have t_c8 := neI c8; have t_w101 := w101; have t_c11 := neI c11; have t_b15 := b15; have t_b19 := b19; have t_c20 := eqI c20; have tqz_ := qz27_; have tnb_ := nib8 tn1261_ tn1262_ tn1263_ tn1266_ tn1267_ tn1264_ tn1265_ tn1268_; have tqz_ := qz41_; omega), by (have t_c1 := leI c1; have t_hinva := hinva; have t_w71 := w71; have t_c8 := neI c8; have t_w101 := w101; have t_c11 := neI c11; have t_b15 := b15; have t_b19 := b19; have t_c20 := eqI c20; have tqz_ := qz27_; have tnb_ := nib8 tn1261_ tn1262_ tn1263_ tn1266_ tn1267_ tn1264_ tn1265_ tn1268_; have tqz_ := qz41_; omega), by (have t_c1 := leI c1; have t_hinva := hinva; have t_w71 := w71; have t_c8 := neI c8; have t_w101 := w101; have t_c11 := neI c11; have t_b15 := b15; have t_b19 := b19; have t_c20 := eqI c20; have tqz_ := qz27_; have tnb_ := nib8 tn1261_ tn1262_ tn1263_ tn1266_ tn1267_ tn1264_ tn1265_ tn1268_; have tqz_ := qz41_; omega), ?_, ?_⟩; (first | exact Or.inr rfl | exact Or.inl (by (have t_c1 := leI c1; have t_hinva := hinva; have t_w71 := w71; have t_c8 := neI c8; have t_w101 := w101; have t_c11 := neI c11; have t_b15 := b15; have t_b19 := b19; have t_c20 := eqI c20; have tqz_ := qz27_; have tnb_ := nib8 tn1261_ tn1262_ tn1263_ tn1266_ tn1267_ tn1264_ tn1265_ tn1268_; have tqz_ := qz41_; omega))); (have t_c1 := leI c1; have t_hinva := hinva; have t_w71 := w71; have t_c8 := neI c8; have t_w101 := w101; have t_c11 := neI c11; have t_b15 := b15; have t_b19 := b19; have t_c20 := eqI c20; have tqz_ := qz27_; have tnb_ := nib8 tn1261_ tn1262_ tn1263_ tn1266_ tn1267_ tn1264_ tn1265_ tn1268_; have tqz_ := qz41_; omega); (have ea : pst ftp T 32 32 nsp = k3 := hinva.2.2.symm.trans (pst_out (by (have t_c1 := leI c1; have t_hinva := hinva; have t_w71 := w71; have t_c8 := neI c8; have t_w101 := w101; have t_c11 := neI c11; have t_b15 := b15; have t_b19 := b19; have t_c20 := eqI c20; have tqz_ := qz27_; have tnb_ := nib8 tn1261_ tn1262_ tn1263_ tn1266_ tn1267_ tn1264_ tn1265_ tn1268_; have tqz_ := qz41_; omega))); unfold gOn; rw [if_neg (by (have t_c1 := leI c1; have t_hinva := hinva; have t_w71 := w71; have t_c8 := neI c8; have t_w101 := w101; have t_c11 := neI c11; have t_b15 := b15; have t_b19 := b19; have t_c20 := eqI c20; have tqz_ := qz27_; have tnb_ := nib8 tn1261_ tn1262_ tn1263_ tn1266_ tn1267_ tn1264_ tn1265_ tn1268_; have tqz_ := qz41_; omega)), ea]; unfold gOn1; rw [if_neg (by (have t_c1 := leI c1; have t_hinva := hinva; have t_w71 := w71; have t_c8 := neI c8; have t_w101 := w101; have t_c11 := neI c11; have t_b15 := b15; have t_b19 := b19; have t_c20 := eqI c20; have tqz_ := qz27_; have tnb_ := nib8 tn1261_ tn1262_ tn1263_ tn1266_ tn1267_ tn1264_ tn1265_ tn1268_; have tqz_ := qz41_; omega)), if_neg (by (have t_c1 := leI c1; have t_hinva := hinva; have t_w71 := w71; have t_c8 := neI c8; have t_w101 := w101; have t_c11 := neI c11; have t_b15 := b15; have t_b19 := b19; have t_c20 := eqI c20; have tqz_ := qz27_; have tnb_ := nib8 tn1261_ tn1262_ tn1263_ tn1266_ tn1267_ tn1264_ tn1265_ tn1268_; have tqz_ := qz41_; omega)), if_neg (by (have t_c1 := leI c1; have t_hinva := hinva; have t_w71 := w71; have t_c8 := neI c8; have t_w101 := w101; have t_c11 := neI c11; have t_b15 := b15; have t_b19 := b19; have t_c20 := eqI c20; have tqz_ := qz27_; have tnb_ := nib8 tn1261_ tn1262_ tn1263_ tn1266_ tn1267_ tn1264_ tn1265_ tn1268_; have tqz_ := qz41_; omega))]; first | rw [if_pos (by with_reducible assumption)] | rw [if_neg (by with_reducible assumption)])), ⟨by rw [ht]; exact hP9, hD9⟩⟩, hS.F ht⟩) hS.2.2 dX11_goesOn_269
                    · skip
                      refine lv_aload_n hx hb dX11_goesOn_264 rfl (lv_at hl 1 rfl) ?_
                      refine lv_iconst (v := 1) hx hb dX11_goesOn_265 rfl ?_
                      obtain ⟨hPc, hDc, hFc⟩ := va_sub3 (ws' := [(h0, .inr (11, [.ref st, .int (nI N), .int (nI B), .ref rp, .int vrs, .int vrb, .int vhs, .int vca, .int vxs, .int vxb, .ref tp, .int (nI T), .int vfa, .int vbr, .int vba, .int (nI (k3 + 1)), .int (nI k3), .int 3, .int 0, .ref cu, .ref lt, .ref od, .ref th, .ref be, .ref ln, .int (nI S), .ref ma, .int (nI M), .ref ah, .ref bh, .ref ik, .ref la, .ref lg, .ref ce, .int vto]))]) hP hD hS hA [0] (by decide) rfl
                      refine va_callv (va_runV (As := [.int 1]) (rest := []) ⟨hx, hb, hml, hown, hg⟩ (c_X11_failsE l dC dI G _ h0 st N B rp tp T k3 cu lt od th be ln S ma M ah bh ik la lg ce 1 vrs vrb vhs vca vxs vxb vfa vbr vba (nI (k3 + 1)) 3 0 vto hN hB_ hT_ hS0 hM_ (by have t_c1 := leI c1; have t_hinva := hinva; have t_w71 := w71; have t_c8 := neI c8; have t_w101 := w101; have t_c11 := neI c11; have t_b15 := b15; have t_b19 := b19; have t_c20 := neI c20; have tqz_ := qz27_; have tnb_ := nib8 tn1261_ tn1262_ tn1263_ tn1266_ tn1267_ tn1264_ tn1265_ tn1268_; have : (1 : Int32).toInt = 1 := qI_1; omega) hbr (by first | omega | (have t_c1 := leI c1; have t_hinva := hinva; have t_w71 := w71; have t_c8 := neI c8; have t_w101 := w101; have t_c11 := neI c11; have t_b15 := b15; have t_b19 := b19; have t_c20 := neI c20; have tqz_ := qz27_; have tnb_ := nib8 tn1261_ tn1262_ tn1263_ tn1266_ tn1267_ tn1264_ tn1265_ tn1268_; have : (1 : Int32).toInt = 1 := qI_1; omega))) (kwV hg mfX11_fails wt_1011 ⟨Nat.le_of_ble_eq_true rfl, Nat.le_of_ble_eq_true rfl⟩) (preVW hK hPc hDc (ci := 11) (r := (RX11, TX11, 35)) rfl rfl) rfl rfl hl.1 rfl (lv_room (Nat.le_of_ble_eq_true rfl)) dX11_goesOn_266 ⟨Nat.le_of_ble_eq_true rfl, Nat.le_of_ble_eq_true rfl⟩) hS (fun q _ h => hFc q h) hFc (fun ur21 t H1 locs ht hvm w22 hB hz1 hk1 hS => ?_)
                      obtain ⟨u23, u24⟩ := ur21
                      obtain ⟨hP1, hD1⟩ := hB
                      rw [ht] at hP1
                      obtain ⟨hP, hD⟩ := va_join (wr := [(tp, .inl (G 0, 320, .inl ftp))]) (w1 := [(h0, .inr (11, [.ref st, .int (nI N), .int (nI B), .ref rp, .int vrs, .int vrb, .int vhs, .int vca, .int vxs, .int vxb, .ref tp, .int (nI T), .int vfa, .int u23, .int u24, .int (nI (k3 + 1)), .int (nI k3), .int 3, .int 0, .ref cu, .ref lt, .ref od, .ref th, .ref be, .ref ln, .int (nI S), .ref ma, .int (nI M), .ref ah, .ref bh, .ref ik, .ref la, .ref lg, .ref ce, .int vto]))]) hP hD [0] [1] rfl rfl (by decide) (by decide) hk1 hFc hP1 hD1
                      have w22 : 0 < u23.toInt ∧ u23 = flB (1 : Int32) vbr ∧ u24 = flA vbr vba k3 := w22
                      generalize H1 = H at hP hS ⊢
                      obtain ⟨hP9, hD9⟩ := va_sub2 (ws' := [(h0, .inr (11, [.ref st, .int (nI N), .int (nI B), .ref rp, .int vrs, .int vrb, .int vhs, .int vca, .int vxs, .int vxb, .ref tp, .int (nI T), .int vfa, .int u23, .int u24, .int (nI (k3 + 1)), .int (nI k3), .int 3, .int 0, .ref cu, .ref lt, .ref od, .ref th, .ref be, .ref ln, .int (nI S), .ref ma, .int (nI M), .ref ah, .ref bh, .ref ik, .ref la, .ref lg, .ref ce, .int vto])), (tp, .inl (G 0, 320, .inl ftp))]) hP hD [1, 0] (by decide) rfl
                      refine W.widen (k := 0) (n := 0) (Nat.le_of_ble_eq_true rfl) (Nat.le_of_ble_eq_true rfl) ?_
                      exact W.vret hx hb hr (fun t ht hW => ⟨⟨(u23, u24, (k3 + 1), k3, 3, 0), rfl, (by have hb8 := htb k3; first | (exfalso; (have t_c1 := leI c1; have t_hinva := hinva; have t_w71 := w71; have t_c8 := neI c8; have t_w101 := w101; have t_c11 := neI c11; have t_b15 := b15; have t_b19 := b19; have t_c20 := neI c20; have t_w22 := w22.1; have tqz_ := qz27_; have tnb_ := nib8 tn1261_ tn1262_ tn1263_ tn1266_ tn1267_ tn1264_ tn1265_ tn1268_; have tqz_ := qz41_; omega)) | skip; refine ⟨by (have t_c1 := leI c1; have t_hinva := hinva; have t_w71 := w71; have t_c8 := neI c8; have t_w101 := w101; have t_c11 := neI c11; have t_b15 := b15; have t_b19 := b19; have t_c20 := neI c20; have t_w22 := w22.1; have tqz_ := qz27_; have tnb_ := nib8 tn1261_ tn1262_ tn1263_ tn1266_ tn1267_ tn1264_ tn1265_ tn1268_; have tqz_ := qz41_; omega), ?_, by (have t_c1 := leI c1; have t_hinva := hinva; have t_w71 := w71; have t_c8 := neI c8; have t_w101 := w101; have t_c11 := neI c11; have t_b15 := b15; have t_b19 := b19; have t_c20 := neI c20; have t_w22 := w22.1; have tqz_ := qz27_; have tnb_ := nib8 tn1261_ tn1262_ tn1263_ tn1266_ tn1267_ tn1264_ tn1265_ tn1268_; have tqz_ := qz41_; omega), by (have t_c1 := leI c1; have t_hinva := hinva; have t_w71 := w71; have t_c8 := neI c8; have t_w101 := w101; have t_c11 := neI c11; have t_b15 := b15; have t_b19 := b19; have t_c20 := neI c20; have t_w22 := w22.1; have tqz_ := qz27_; have tnb_ := nib8 tn1261_ tn1262_ tn1263_ tn1266_ tn1267_ tn1264_ tn1265_ tn1268_; have tqz_ := qz41_; omega), by (have t_c1 := leI c1; have t_hinva := hinva; have t_w71 := w71; have t_c8 := neI c8; have t_w101 := w101; have t_c11 := neI c11; have t_b15 := b15; have t_b19 := b19; have t_c20 := neI c20; have t_w22 := w22.1; have tqz_ := qz27_; have tnb_ := nib8 tn1261_ tn1262_ tn1263_ tn1266_ tn1267_ tn1264_ tn1265_ tn1268_; have tqz_ := qz41_; omega), ?_, ?_⟩; (first | exact Or.inr rfl | exact Or.inl (by (have t_c1 := leI c1; have t_hinva := hinva; have t_w71 := w71; have t_c8 := neI c8; have t_w101 := w101; have t_c11 := neI c11; have t_b15 := b15; have t_b19 := b19; have t_c20 := neI c20; have t_w22 := w22.1; have tqz_ := qz27_; have tnb_ := nib8 tn1261_ tn1262_ tn1263_ tn1266_ tn1267_ tn1264_ tn1265_ tn1268_; have tqz_ := qz41_; omega))); (have t_c1 := leI c1; have t_hinva := hinva; have t_w71 := w71; have t_c8 := neI c8; have t_w101 := w101; have t_c11 := neI c11; have t_b15 := b15; have t_b19 := b19; have t_c20 := neI c20; have t_w22 := w22.1; have tqz_ := qz27_; have tnb_ := nib8 tn1261_ tn1262_ tn1263_ tn1266_ tn1267_ tn1264_ tn1265_ tn1268_; have tqz_ := qz41_; omega); (have ea : pst ftp T 32 32 nsp = k3 := hinva.2.2.symm.trans (pst_out (by (have t_c1 := leI c1; have t_hinva := hinva; have t_w71 := w71; have t_c8 := neI c8; have t_w101 := w101; have t_c11 := neI c11; have t_b15 := b15; have t_b19 := b19; have t_c20 := neI c20; have t_w22 := w22.1; have tqz_ := qz27_; have tnb_ := nib8 tn1261_ tn1262_ tn1263_ tn1266_ tn1267_ tn1264_ tn1265_ tn1268_; have tqz_ := qz41_; omega))); unfold gOn; rw [if_neg (by (have t_c1 := leI c1; have t_hinva := hinva; have t_w71 := w71; have t_c8 := neI c8; have t_w101 := w101; have t_c11 := neI c11; have t_b15 := b15; have t_b19 := b19; have t_c20 := neI c20; have t_w22 := w22.1; have tqz_ := qz27_; have tnb_ := nib8 tn1261_ tn1262_ tn1263_ tn1266_ tn1267_ tn1264_ tn1265_ tn1268_; have tqz_ := qz41_; omega)), ea]; unfold gOn1; have q1 := w22.2.1; have q2 := w22.2.2; rw [q1, q2]; rw [if_neg (by (have t_c1 := leI c1; have t_hinva := hinva; have t_w71 := w71; have t_c8 := neI c8; have t_w101 := w101; have t_c11 := neI c11; have t_b15 := b15; have t_b19 := b19; have t_c20 := neI c20; have t_w22 := w22.1; have tqz_ := qz27_; have tnb_ := nib8 tn1261_ tn1262_ tn1263_ tn1266_ tn1267_ tn1264_ tn1265_ tn1268_; have tqz_ := qz41_; omega)), if_neg (by (have t_c1 := leI c1; have t_hinva := hinva; have t_w71 := w71; have t_c8 := neI c8; have t_w101 := w101; have t_c11 := neI c11; have t_b15 := b15; have t_b19 := b19; have t_c20 := neI c20; have t_w22 := w22.1; have tqz_ := qz27_; have tnb_ := nib8 tn1261_ tn1262_ tn1263_ tn1266_ tn1267_ tn1264_ tn1265_ tn1268_; have tqz_ := qz41_; omega)), if_neg (by (have t_c1 := leI c1; have t_hinva := hinva; have t_w71 := w71; have t_c8 := neI c8; have t_w101 := w101; have t_c11 := neI c11; have t_b15 := b15; have t_b19 := b19; have t_c20 := neI c20; have t_w22 := w22.1; have tqz_ := qz27_; have tnb_ := nib8 tn1261_ tn1262_ tn1263_ tn1266_ tn1267_ tn1264_ tn1265_ tn1268_; have tqz_ := qz41_; omega))]; first | rw [if_pos (by with_reducible assumption)] | rw [if_neg (by with_reducible assumption)])), ⟨by rw [ht]; exact hP9, hD9⟩⟩, hS.F ht⟩) hS.2.2 dX11_goesOn_269
                  · skip
                    have b25 := if10_p c18
                    refine lv_aload_n hx hb dX11_goesOn_140 rfl (lv_at hl 1 rfl) ?_
                    refine lv_aload_n hx hb dX11_goesOn_141 rfl (lv_at hl 1 rfl) ?_
                    refine va_get (D := (dC, dI)) (ci := 11) (v := .int (nI k3)) (C := RX11) (T := TX11) (N := 35) hx hb hg inG11 hown hK.1 hP 0 rfl rfl 15 (Nat.le_of_ble_eq_true rfl) (hg _ wt_893) (fun _ h9 => h9) rfl dX11_goesOn_142 ?_
                    have hPc := hP.sub (ws' := [(h0, .inr (11, [.ref st, .int (nI N), .int (nI B), .ref rp, .int vrs, .int vrb, .int vhs, .int vca, .int vxs, .int vxb, .ref tp, .int (nI T), .int vfa, .int vbr, .int vba, .int (nI k3), .int (nI k3), .int vtk, .int 0, .ref cu, .ref lt, .ref od, .ref th, .ref be, .ref ln, .int (nI S), .ref ma, .int (nI M), .ref ah, .ref bh, .ref ik, .ref la, .ref lg, .ref ce, .int vto])), (tp, .inl (G 0, 320, .inl ftp))]) [0, 1] rfl
                    refine va_calli (va_runV (As := [.int (nI k3)]) (rest := []) ⟨hx, hb, hml, hown, hg⟩ (c_X11_byteAt l dC dI G _ h0 k3 st N B rp tp T cu lt od th be ln S ma M ah bh ik la lg ce vrs vrb vhs vca vxs vxb vfa vbr vba (nI k3) (nI k3) vtk 0 vto ftp hN hB_ hT_ hS0 hM_ (by first | omega | (have t_c1 := leI c1; have t_hinva := hinva; have t_w71 := w71; have t_c8 := neI c8; have t_w101 := w101; have t_c11 := neI c11; have t_b15 := b15; have t_b25 := b25; have tqz_ := qz28_; have tnb_ := nib8 tn1261_ tn1262_ tn1263_ tn1266_ tn1267_ tn1264_ tn1265_ tn1268_; omega))) (kwV hg mfX11_byteAt wt_1003 ⟨Nat.le_of_ble_eq_true rfl, Nat.le_of_ble_eq_true rfl⟩) (preVR hK hPc (ci := 11) (r := (RX11, TX11, 35)) rfl rfl) rfl rfl hl.1 rfl (lv_room (Nat.le_of_ble_eq_true rfl)) dX11_goesOn_145 ⟨Nat.le_of_ble_eq_true rfl, Nat.le_of_ble_eq_true rfl⟩) hS (fun q h1 h2 => absurd h2 (Nat.not_le.mpr h1)) (fun q h => hA q (Nat.le_trans hS.1 h)) (fun r26 ur26 t H1 locs ht hvm w27 hB hz1 hk1 hS => ?_)
                    have hP := keepR hP hk1
                    obtain ⟨w27, w27x⟩ := w27
                    rcases w27 with ⟨w271, w272⟩ | ⟨w271, w272⟩
                    · skip
                      refine lv_cg (y := ftp k3) w272 ?_
                      refine lv_i2l (v := (ftp k3).toInt64) hx hb dX11_goesOn_148 rfl ?_
                      refine lv_ldc2 (v := 48) hx hb hown (hg _ wt_1009) dX11_goesOn_149 ?_
                      refine lv_ldc2 (v := 57) hx hb hown (hg _ wt_1010) dX11_goesOn_152 ?_
                      have hPc := hP.sub (ws' := []) [] rfl
                      refine va_calli (va_runS (As := [.long ((ftp k3).toInt64), .long 48, .long 57]) (rest := []) ⟨hx, hb, hml, hown, hg⟩ (c_X11_in l dC dI G _ ((ftp k3).toInt64) 48 57) (kwS hg mfX11_in wt_992 ⟨Nat.le_of_ble_eq_true rfl, Nat.le_of_ble_eq_true rfl⟩) (preSR hK hPc) rfl rfl hl.1 rfl (lv_room (Nat.le_of_ble_eq_true rfl)) dX11_goesOn_155 ⟨Nat.le_of_ble_eq_true rfl, Nat.le_of_ble_eq_true rfl⟩) hS (fun q h1 h2 => absurd h2 (Nat.not_le.mpr h1)) (fun q h => hA q (Nat.le_trans hS.1 h)) (fun r28 ur28 t H1 locs ht hvm w29 hB hz1 hk1 hS => ?_)
                      have hP := keepR hP hk1
                      obtain ⟨w29, w29x⟩ := w29
                      try simp only [l_ii, show (48 : Int64).toInt = 48 from by decide, show (57 : Int64).toInt = 57 from by decide] at w29
                      have w29 : r28 = 1 := w29.trans (if_pos (by have t_c1 := leI c1; have t_hinva := hinva; have t_w71 := w71; have t_c8 := neI c8; have t_w101 := w101; have t_c11 := neI c11; have t_b15 := b15; have t_b25 := b25; have t_w271 := w271; have tqz_ := qz28_; have tnb_ := nib8 tn1261_ tn1262_ tn1263_ tn1266_ tn1267_ tn1264_ tn1265_ tn1268_; omega))
                      subst w29
                      refine lv_if_eq (tgt := 217) hx hb dX11_goesOn_158 rfl (fun c30 => ?_) (fun c30 => ?_)
                      · skip
                        exact absurd c30 (by decide)
                      · skip
                        refine lv_aload_n hx hb dX11_goesOn_161 rfl (lv_at hl 1 rfl) ?_
                        refine lv_aload_n hx hb dX11_goesOn_162 rfl (lv_at hl 1 rfl) ?_
                        refine va_get (D := (dC, dI)) (ci := 11) (v := .int (nI k3)) (C := RX11) (T := TX11) (N := 35) hx hb hg inG11 hown hK.1 hP 0 rfl rfl 15 (Nat.le_of_ble_eq_true rfl) (hg _ wt_893) (fun _ h9 => h9) rfl dX11_goesOn_163 ?_
                        refine lv_aload_n hx hb dX11_goesOn_166 rfl (lv_at hl 1 rfl) ?_
                        refine va_get (D := (dC, dI)) (ci := 11) (v := .int (nI k3)) (C := RX11) (T := TX11) (N := 35) hx hb hg inG11 hown hK.1 hP 0 rfl rfl 16 (Nat.le_of_ble_eq_true rfl) (hg _ wt_894) (fun _ h9 => h9) rfl dX11_goesOn_167 ?_
                        refine lv_isub hx hb dX11_goesOn_170 ?_
                        refine lv_cg (y := nI (k3 - k3)) (by exact pk_sub (by have t_c1 := leI c1; have t_hinva := hinva; have t_w71 := w71; have t_c8 := neI c8; have t_w101 := w101; have t_c11 := neI c11; have t_b15 := b15; have t_b25 := b25; have t_w271 := w271; have t_c30 := neI c30; have tqz_ := qz29_; have tnb_ := nib8 tn1261_ tn1262_ tn1263_ tn1266_ tn1267_ tn1264_ tn1265_ tn1268_; omega)) ?_
                        refine lv_iconst (v := 2) hx hb dX11_goesOn_171 rfl ?_
                        refine lv_icmp_ge (tgt := 197) hx hb dX11_goesOn_172 rfl (fun c31 => ?_) (fun c31 => ?_)
                        · skip
                          have tn1269_ : nIT (k3 - k3) := fun _ => nI_toInt (by first | omega | (have t := leI c31; omega))
                          have n32 : 2 ≤ (k3 - k3) := by have t := leI c31; rw [show (nI (k3 - k3)).toInt = ((k3 - k3 : Nat) : Int) from tn1269_ ()] at t; have : (2 : Int32).toInt = 2 := qI_2; omega
                          refine lv_aload_n hx hb dX11_goesOn_197 rfl (lv_at hl 1 rfl) ?_
                          refine va_get (D := (dC, dI)) (ci := 11) (v := .int 0) (C := RX11) (T := TX11) (N := 35) hx hb hg inG11 hown hK.1 hP 0 rfl rfl 18 (Nat.le_of_ble_eq_true rfl) (hg _ wt_896) (fun _ h9 => h9) rfl dX11_goesOn_198 ?_
                          refine va_put (D := (dC, dI)) (ci := 11) (v := .int 0) (ty := .int) (C := RX11) (T := TX11) (N := 35) hx hb hg inG11 tyX11 tyX11_ok nmX11 hown hK.1 hP hD hS 0 rfl rfl 18 (Nat.le_of_ble_eq_true rfl) (hg _ wt_896) (fun _ h9 => h9) rfl (by decide +kernel) rfl rfl (Nat.le_of_ble_eq_true rfl) dX11_goesOn_201 (fun H locs hP hD hS => ?_)
                          refine lv_aload_n hx hb dX11_goesOn_204 rfl (lv_at hl 1 rfl) ?_
                          refine lv_dup hx hb dX11_goesOn_205 rfl ?_
                          refine va_get (D := (dC, dI)) (ci := 11) (v := .int (nI k3)) (C := RX11) (T := TX11) (N := 35) hx hb hg inG11 hown hK.1 hP 0 rfl rfl 15 (Nat.le_of_ble_eq_true rfl) (hg _ wt_893) (fun _ h9 => h9) rfl dX11_goesOn_206 ?_
                          refine lv_iconst (v := 1) hx hb dX11_goesOn_209 rfl ?_
                          refine lv_iadd hx hb dX11_goesOn_210 ?_
                          refine lv_cg (y := nI (k3 + 1)) (by rw [show (1 : Int32) = nI 1 from rfl]; exact nI_add _ _) ?_
                          refine va_put (D := (dC, dI)) (ci := 11) (v := .int (nI (k3 + 1))) (ty := .int) (C := RX11) (T := TX11) (N := 35) hx hb hg inG11 tyX11 tyX11_ok nmX11 hown hK.1 hP hD hS 0 rfl rfl 15 (Nat.le_of_ble_eq_true rfl) (hg _ wt_893) (fun _ h9 => h9) rfl (by decide +kernel) rfl rfl (Nat.le_of_ble_eq_true rfl) dX11_goesOn_211 (fun H locs hP hD hS => ?_)
                          refine lv_goto (tgt := 140) hx hb dX11_goesOn_214 rfl ?_
                          have loop140_36 : ∀ (nf : Nat) (k34 : Nat) (y35 : Int32), (T - k34) < nf → ((k3 + 1) ≤ k34 ∧ k34 ≤ T ∧ pst ftp T 48 57 k34 = pst ftp T 48 57 k3 ∧ y35 = vlS ftp k3 (k34 - k3)) → ∀ (H : Heap) (locs : List Loc), va_P (dC, dI) vwCl [(h0, .inr (11, [.ref st, .int (nI N), .int (nI B), .ref rp, .int vrs, .int vrb, .int vhs, .int vca, .int vxs, .int vxb, .ref tp, .int (nI T), .int vfa, .int vbr, .int vba, .int (nI k34), .int (nI k3), .int vtk, .int y35, .ref cu, .ref lt, .ref od, .ref th, .ref be, .ref ln, .int (nI S), .ref ma, .int (nI M), .ref ah, .ref bh, .ref ik, .ref la, .ref lg, .ref ce, .int vto])), (tp, .inl (G 0, 320, .inl ftp))] H → va_D A [(h0, .inr (11, [.ref st, .int (nI N), .int (nI B), .ref rp, .int vrs, .int vrb, .int vhs, .int vca, .int vxs, .int vxb, .ref tp, .int (nI T), .int vfa, .int vbr, .int vba, .int (nI k34), .int (nI k3), .int vtk, .int y35, .ref cu, .ref lt, .ref od, .ref th, .ref be, .ref ln, .int (nI S), .ref ma, .int (nI M), .ref ah, .ref bh, .ref ik, .ref la, .ref lg, .ref ce, .int vto])), (tp, .inl (G 0, 320, .inl ftp))] → va_S A s.heap H locs → ∀ (ls : Array Slot), lv_has ls 2 [(1, .int (ftp k3)), (0, .ref h0)] → W p l e (headSpec (Cond.code yX11_goesOn cX11_goesOn 2 none :: GT) ({ frames := 1, cells := 0, slots := 0, locals := 25 } : Room)).room s m ([.ref h0] : List Value).toArray below meth c H locs 0 0 (MQ below (va_Qv (fun (u : Int32 × Int32 × Nat × Nat × Int32 × Int32) => match u with | (obr, oba, osp, ohe, otk, ova) => 0 ≤ obr.toInt ∧ (vbr.toInt = 0 ∨ obr.toInt = vbr.toInt) ∧ nsp ≤ osp ∧ osp ≤ T ∧ ohe ≤ osp ∧ (0 < vbr.toInt ∨ otk.toInt = 0 ∨ nsp < osp) ∧ (obr, oba, osp, ohe, otk, ova) = gOn ftp T vbr vba nsp nhe vtk vva) (fun (u : Int32 × Int32 × Nat × Nat × Int32 × Int32) (t : State) => match u with | (obr, oba, osp, ohe, otk, ova) => va_P (dC, dI) vwCl [(h0, .inr (11, [.ref st, .int (nI N), .int (nI B), .ref rp, .int vrs, .int vrb, .int vhs, .int vca, .int vxs, .int vxb, .ref tp, .int (nI T), .int vfa, .int obr, .int oba, .int (nI osp), .int (nI ohe), .int otk, .int ova, .ref cu, .ref lt, .ref od, .ref th, .ref be, .ref ln, .int (nI S), .ref ma, .int (nI M), .ref ah, .ref bh, .ref ik, .ref la, .ref lg, .ref ce, .int vto])), (tp, .inl (G 0, 320, .inl ftp))] t.heap ∧ va_D A [(h0, .inr (11, [.ref st, .int (nI N), .int (nI B), .ref rp, .int vrs, .int vrb, .int vhs, .int vca, .int vxs, .int vxb, .ref tp, .int (nI T), .int vfa, .int obr, .int oba, .int (nI osp), .int (nI ohe), .int otk, .int ova, .ref cu, .ref lt, .ref od, .ref th, .ref be, .ref ln, .int (nI S), .ref ma, .int (nI M), .ref ah, .ref bh, .ref ik, .ref la, .ref lg, .ref ce, .int vto])), (tp, .inl (G 0, 320, .inl ftp))]) A) ([.ref h0] : List Value).toArray s 0 0 A) (F0 m 140 ls []) := by
                            intro nf
                            induction nf with
                            | zero => intro k34 y35 h1; exact absurd h1 (Nat.not_lt_zero _)
                            | succ nf ih140_36 =>
                              intro k34 y35 hm37 hinvc H locs hP hD hS ls hl
                              refine lv_aload_n hx hb dX11_goesOn_140 rfl (lv_at hl 1 rfl) ?_
                              refine lv_aload_n hx hb dX11_goesOn_141 rfl (lv_at hl 1 rfl) ?_
                              refine va_get (D := (dC, dI)) (ci := 11) (v := .int (nI k34)) (C := RX11) (T := TX11) (N := 35) hx hb hg inG11 hown hK.1 hP 0 rfl rfl 15 (Nat.le_of_ble_eq_true rfl) (hg _ wt_893) (fun _ h9 => h9) rfl dX11_goesOn_142 ?_
                              have hPc := hP.sub (ws' := [(h0, .inr (11, [.ref st, .int (nI N), .int (nI B), .ref rp, .int vrs, .int vrb, .int vhs, .int vca, .int vxs, .int vxb, .ref tp, .int (nI T), .int vfa, .int vbr, .int vba, .int (nI k34), .int (nI k3), .int vtk, .int y35, .ref cu, .ref lt, .ref od, .ref th, .ref be, .ref ln, .int (nI S), .ref ma, .int (nI M), .ref ah, .ref bh, .ref ik, .ref la, .ref lg, .ref ce, .int vto])), (tp, .inl (G 0, 320, .inl ftp))]) [0, 1] rfl
                              have tn1270_ : nIT k34 := fun _ => nI_toInt (by first | omega | (have t_c1 := leI c1; have t_hinva := hinva; have t_w71 := w71; have t_c8 := neI c8; have t_w101 := w101; have t_c11 := neI c11; have t_b15 := b15; have t_b25 := b25; have t_w271 := w271; have t_c30 := neI c30; have t_n32 := n32; have t_hinvc := hinvc; have tqz_ := qz29_; omega))
                              refine va_calli (va_runV (As := [.int (nI k34)]) (rest := []) ⟨hx, hb, hml, hown, hg⟩ (c_X11_byteAt l dC dI G _ h0 k34 st N B rp tp T cu lt od th be ln S ma M ah bh ik la lg ce vrs vrb vhs vca vxs vxb vfa vbr vba (nI k34) (nI k3) vtk y35 vto ftp hN hB_ hT_ hS0 hM_ (by first | omega | (have t_c1 := leI c1; have t_hinva := hinva; have t_w71 := w71; have t_c8 := neI c8; have t_w101 := w101; have t_c11 := neI c11; have t_b15 := b15; have t_b25 := b25; have t_w271 := w271; have t_c30 := neI c30; have t_n32 := n32; have t_hinvc := hinvc; have tqz_ := qz29_; have tnb_ := nib9 tn1261_ tn1262_ tn1263_ tn1266_ tn1267_ tn1264_ tn1265_ tn1268_ tn1270_; omega))) (kwV hg mfX11_byteAt wt_1003 ⟨Nat.le_of_ble_eq_true rfl, Nat.le_of_ble_eq_true rfl⟩) (preVR hK hPc (ci := 11) (r := (RX11, TX11, 35)) rfl rfl) rfl rfl hl.1 rfl (lv_room (Nat.le_of_ble_eq_true rfl)) dX11_goesOn_145 ⟨Nat.le_of_ble_eq_true rfl, Nat.le_of_ble_eq_true rfl⟩) hS (fun q h1 h2 => absurd h2 (Nat.not_le.mpr h1)) (fun q h => hA q (Nat.le_trans hS.1 h)) (fun r38 ur38 t H1 locs ht hvm w39 hB hz1 hk1 hS => ?_)
                              have hP := keepR hP hk1
                              obtain ⟨w39, w39x⟩ := w39
                              rcases w39 with ⟨w391, w392⟩ | ⟨w391, w392⟩
                              · skip
                                refine lv_cg (y := ftp k34) w392 ?_
                                refine lv_i2l (v := (ftp k34).toInt64) hx hb dX11_goesOn_148 rfl ?_
                                refine lv_ldc2 (v := 48) hx hb hown (hg _ wt_1009) dX11_goesOn_149 ?_
                                refine lv_ldc2 (v := 57) hx hb hown (hg _ wt_1010) dX11_goesOn_152 ?_
                                have hPc := hP.sub (ws' := []) [] rfl
                                refine va_calli (va_runS (As := [.long ((ftp k34).toInt64), .long 48, .long 57]) (rest := []) ⟨hx, hb, hml, hown, hg⟩ (c_X11_in l dC dI G _ ((ftp k34).toInt64) 48 57) (kwS hg mfX11_in wt_992 ⟨Nat.le_of_ble_eq_true rfl, Nat.le_of_ble_eq_true rfl⟩) (preSR hK hPc) rfl rfl hl.1 rfl (lv_room (Nat.le_of_ble_eq_true rfl)) dX11_goesOn_155 ⟨Nat.le_of_ble_eq_true rfl, Nat.le_of_ble_eq_true rfl⟩) hS (fun q h1 h2 => absurd h2 (Nat.not_le.mpr h1)) (fun q h => hA q (Nat.le_trans hS.1 h)) (fun r40 ur40 t H1 locs ht hvm w41 hB hz1 hk1 hS => ?_)
                                have hP := keepR hP hk1
                                obtain ⟨w41, w41x⟩ := w41
                                try simp only [l_ii, show (48 : Int64).toInt = 48 from by decide, show (57 : Int64).toInt = 57 from by decide] at w41
                                subst w41
                                refine lv_if_eq (tgt := 217) hx hb dX11_goesOn_158 rfl (fun c42 => ?_) (fun c42 => ?_)
                                · skip
                                  have b43 := if10_n c42
                                  refine lv_aload_n hx hb dX11_goesOn_217 rfl (lv_at hl 1 rfl) ?_
                                  refine lv_iconst (v := 2) hx hb dX11_goesOn_218 rfl ?_
                                  refine va_put (D := (dC, dI)) (ci := 11) (v := .int 2) (ty := .int) (C := RX11) (T := TX11) (N := 35) hx hb hg inG11 tyX11 tyX11_ok nmX11 hown hK.1 hP hD hS 0 rfl rfl 17 (Nat.le_of_ble_eq_true rfl) (hg _ wt_895) (fun _ h9 => h9) rfl (by decide +kernel) rfl rfl (Nat.le_of_ble_eq_true rfl) dX11_goesOn_219 (fun H locs hP hD hS => ?_)
                                  refine lv_aload_n hx hb dX11_goesOn_222 rfl (lv_at hl 1 rfl) ?_
                                  refine va_get (D := (dC, dI)) (ci := 11) (v := .int (nI k34)) (C := RX11) (T := TX11) (N := 35) hx hb hg inG11 hown hK.1 hP 0 rfl rfl 15 (Nat.le_of_ble_eq_true rfl) (hg _ wt_893) (fun _ h9 => h9) rfl dX11_goesOn_223 ?_
                                  refine lv_aload_n hx hb dX11_goesOn_226 rfl (lv_at hl 1 rfl) ?_
                                  refine va_get (D := (dC, dI)) (ci := 11) (v := .int (nI k3)) (C := RX11) (T := TX11) (N := 35) hx hb hg inG11 hown hK.1 hP 0 rfl rfl 16 (Nat.le_of_ble_eq_true rfl) (hg _ wt_894) (fun _ h9 => h9) rfl dX11_goesOn_227 ?_
                                  refine lv_isub hx hb dX11_goesOn_230 ?_
                                  refine lv_cg (y := nI (k34 - k3)) (by exact pk_sub (by have t_c1 := leI c1; have t_hinva := hinva; have t_w71 := w71; have t_c8 := neI c8; have t_w101 := w101; have t_c11 := neI c11; have t_b15 := b15; have t_b25 := b25; have t_w271 := w271; have t_c30 := neI c30; have t_n32 := n32; have t_hinvc := hinvc; have t_w391 := w391; have t_b43 := b43; have tqz_ := qz29_; have tnb_ := nib9 tn1261_ tn1262_ tn1263_ tn1266_ tn1267_ tn1264_ tn1265_ tn1268_ tn1270_; omega)) ?_
                                  refine lv_iconst (v := 2) hx hb dX11_goesOn_231 rfl ?_
                                  refine lv_icmp_le (tgt := 269) hx hb dX11_goesOn_232 rfl (fun c44 => ?_) (fun c44 => ?_)
                                  · skip
                                    have tn1271_ : nIT (k34 - k3) := fun _ => nI_toInt (by first | omega | (have t := leI c44; omega))
                                    have n45 : (k34 - k3) ≤ 2 := by have t := leI c44; rw [show (nI (k34 - k3)).toInt = ((k34 - k3 : Nat) : Int) from tn1271_ ()] at t; have : (2 : Int32).toInt = 2 := qI_2; omega
                                    obtain ⟨hP9, hD9⟩ := va_sub2 (ws' := [(h0, .inr (11, [.ref st, .int (nI N), .int (nI B), .ref rp, .int vrs, .int vrb, .int vhs, .int vca, .int vxs, .int vxb, .ref tp, .int (nI T), .int vfa, .int vbr, .int vba, .int (nI k34), .int (nI k3), .int 2, .int y35, .ref cu, .ref lt, .ref od, .ref th, .ref be, .ref ln, .int (nI S), .ref ma, .int (nI M), .ref ah, .ref bh, .ref ik, .ref la, .ref lg, .ref ce, .int vto])), (tp, .inl (G 0, 320, .inl ftp))]) hP hD [0, 1] (by decide) rfl
                                    refine W.widen (k := 0) (n := 0) (Nat.le_of_ble_eq_true rfl) (Nat.le_of_ble_eq_true rfl) ?_
                                    exact W.vret hx hb hr (fun t ht hW => ⟨⟨(vbr, vba, k34, k3, 2, y35), rfl, (by have t_c1 := leI c1; have t_hinva := hinva; have t_w71 := w71; have t_c8 := neI c8; have t_w101 := w101; have t_c11 := neI c11; have t_b15 := b15; have t_b25 := b25; have t_w271 := w271; have t_c30 := neI c30; have t_n32 := n32; have t_hinvc := hinvc; have t_w391 := w391; have t_b43 := b43; have t_n45 := n45; have tqz_ := qz29_; have tnb_ := nib9 tn1261_ tn1262_ tn1263_ tn1266_ tn1267_ tn1264_ tn1265_ tn1268_ tn1270_; have tqz_ := qz41_; have hb8 := htb k3; first | (exfalso; omega) | skip; refine ⟨by omega, ?_, by omega, by omega, by omega, ?_, ?_⟩; (first | exact Or.inr rfl | exact Or.inl (by omega)); omega; (have ea : pst ftp T 32 32 nsp = k3 := hinva.2.2.symm.trans (pst_out (by omega)); unfold gOn; rw [if_neg (by omega), ea]; unfold gOn1; rw [if_neg (by omega), if_neg (by omega), if_pos (by omega), hinvc.2.2.1.symm.trans (pst_out (by omega)), hinvc.2.2.2]; first | rw [if_pos (by omega)] | rw [if_neg (by omega)])), ⟨by rw [ht]; exact hP9, hD9⟩⟩, hS.F ht⟩) hS.2.2 dX11_goesOn_269
                                  · skip
                                    have tn1272_ : nIT (k34 - k3) := fun _ => nI_toInt (by first | omega | (have t := nleI c44; omega))
                                    have n46 : 2 < (k34 - k3) := by have t := nleI c44; rw [show (nI (k34 - k3)).toInt = ((k34 - k3 : Nat) : Int) from tn1272_ ()] at t; have : (2 : Int32).toInt = 2 := qI_2; omega
                                    refine lv_aload_n hx hb dX11_goesOn_235 rfl (lv_at hl 1 rfl) ?_
                                    refine lv_iconst (v := 1) hx hb dX11_goesOn_236 rfl ?_
                                    obtain ⟨hPc, hDc, hFc⟩ := va_sub3 (ws' := [(h0, .inr (11, [.ref st, .int (nI N), .int (nI B), .ref rp, .int vrs, .int vrb, .int vhs, .int vca, .int vxs, .int vxb, .ref tp, .int (nI T), .int vfa, .int vbr, .int vba, .int (nI k34), .int (nI k3), .int 2, .int y35, .ref cu, .ref lt, .ref od, .ref th, .ref be, .ref ln, .int (nI S), .ref ma, .int (nI M), .ref ah, .ref bh, .ref ik, .ref la, .ref lg, .ref ce, .int vto]))]) hP hD hS hA [0] (by decide) rfl
                                    refine va_callv (va_runV (As := [.int 1]) (rest := []) ⟨hx, hb, hml, hown, hg⟩ (c_X11_failsE l dC dI G _ h0 st N B rp tp T k3 cu lt od th be ln S ma M ah bh ik la lg ce 1 vrs vrb vhs vca vxs vxb vfa vbr vba (nI k34) 2 y35 vto hN hB_ hT_ hS0 hM_ (by have t_c1 := leI c1; have t_hinva := hinva; have t_w71 := w71; have t_c8 := neI c8; have t_w101 := w101; have t_c11 := neI c11; have t_b15 := b15; have t_b25 := b25; have t_w271 := w271; have t_c30 := neI c30; have t_n32 := n32; have t_hinvc := hinvc; have t_w391 := w391; have t_b43 := b43; have t_n46 := n46; have tqz_ := qz29_; have tnb_ := nib9 tn1261_ tn1262_ tn1263_ tn1266_ tn1267_ tn1264_ tn1265_ tn1268_ tn1270_; have : (1 : Int32).toInt = 1 := qI_1; omega) hbr (by first | omega | (have t_c1 := leI c1; have t_hinva := hinva; have t_w71 := w71; have t_c8 := neI c8; have t_w101 := w101; have t_c11 := neI c11; have t_b15 := b15; have t_b25 := b25; have t_w271 := w271; have t_c30 := neI c30; have t_n32 := n32; have t_hinvc := hinvc; have t_w391 := w391; have t_b43 := b43; have t_n46 := n46; have tqz_ := qz29_; have tnb_ := nib9 tn1261_ tn1262_ tn1263_ tn1266_ tn1267_ tn1264_ tn1265_ tn1268_ tn1270_; have : (1 : Int32).toInt = 1 := qI_1; omega))) (kwV hg mfX11_fails wt_1011 ⟨Nat.le_of_ble_eq_true rfl, Nat.le_of_ble_eq_true rfl⟩) (preVW hK hPc hDc (ci := 11) (r := (RX11, TX11, 35)) rfl rfl) rfl rfl hl.1 rfl (lv_room (Nat.le_of_ble_eq_true rfl)) dX11_goesOn_237 ⟨Nat.le_of_ble_eq_true rfl, Nat.le_of_ble_eq_true rfl⟩) hS (fun q _ h => hFc q h) hFc (fun ur47 t H1 locs ht hvm w48 hB hz1 hk1 hS => ?_)
                                    obtain ⟨u49, u50⟩ := ur47
                                    obtain ⟨hP1, hD1⟩ := hB
                                    rw [ht] at hP1
                                    obtain ⟨hP, hD⟩ := va_join (wr := [(tp, .inl (G 0, 320, .inl ftp))]) (w1 := [(h0, .inr (11, [.ref st, .int (nI N), .int (nI B), .ref rp, .int vrs, .int vrb, .int vhs, .int vca, .int vxs, .int vxb, .ref tp, .int (nI T), .int vfa, .int u49, .int u50, .int (nI k34), .int (nI k3), .int 2, .int y35, .ref cu, .ref lt, .ref od, .ref th, .ref be, .ref ln, .int (nI S), .ref ma, .int (nI M), .ref ah, .ref bh, .ref ik, .ref la, .ref lg, .ref ce, .int vto]))]) hP hD [0] [1] rfl rfl (by decide) (by decide) hk1 hFc hP1 hD1
                                    have w48 : 0 < u49.toInt ∧ u49 = flB (1 : Int32) vbr ∧ u50 = flA vbr vba k3 := w48
                                    generalize H1 = H at hP hS ⊢
                                    refine lv_goto (tgt := 269) hx hb dX11_goesOn_240 rfl ?_
                                    obtain ⟨hP9, hD9⟩ := va_sub2 (ws' := [(h0, .inr (11, [.ref st, .int (nI N), .int (nI B), .ref rp, .int vrs, .int vrb, .int vhs, .int vca, .int vxs, .int vxb, .ref tp, .int (nI T), .int vfa, .int u49, .int u50, .int (nI k34), .int (nI k3), .int 2, .int y35, .ref cu, .ref lt, .ref od, .ref th, .ref be, .ref ln, .int (nI S), .ref ma, .int (nI M), .ref ah, .ref bh, .ref ik, .ref la, .ref lg, .ref ce, .int vto])), (tp, .inl (G 0, 320, .inl ftp))]) hP hD [1, 0] (by decide) rfl
                                    refine W.widen (k := 0) (n := 0) (Nat.le_of_ble_eq_true rfl) (Nat.le_of_ble_eq_true rfl) ?_
                                    exact W.vret hx hb hr (fun t ht hW => ⟨⟨(u49, u50, k34, k3, 2, y35), rfl, (by have t_c1 := leI c1; have t_hinva := hinva; have t_w71 := w71; have t_c8 := neI c8; have t_w101 := w101; have t_c11 := neI c11; have t_b15 := b15; have t_b25 := b25; have t_w271 := w271; have t_c30 := neI c30; have t_n32 := n32; have t_hinvc := hinvc; have t_w391 := w391; have t_b43 := b43; have t_n46 := n46; have t_w48 := w48.1; have tqz_ := qz29_; have tnb_ := nib9 tn1261_ tn1262_ tn1263_ tn1266_ tn1267_ tn1264_ tn1265_ tn1268_ tn1270_; have tqz_ := qz41_; have hb8 := htb k3; first | (exfalso; omega) | skip; refine ⟨by omega, ?_, by omega, by omega, by omega, ?_, ?_⟩; (first | exact Or.inr rfl | exact Or.inl (by omega)); omega; (have ea : pst ftp T 32 32 nsp = k3 := hinva.2.2.symm.trans (pst_out (by omega)); unfold gOn; rw [if_neg (by omega), ea]; unfold gOn1; have q1 := w48.2.1; have q2 := w48.2.2; rw [q1, q2]; rw [if_neg (by omega), if_neg (by omega), if_pos (by omega), hinvc.2.2.1.symm.trans (pst_out (by omega)), hinvc.2.2.2]; first | rw [if_pos (by omega)] | rw [if_neg (by omega)])), ⟨by rw [ht]; exact hP9, hD9⟩⟩, hS.F ht⟩) hS.2.2 dX11_goesOn_269
                                · skip
                                  have b51 := if10_p c42
                                  refine lv_aload_n hx hb dX11_goesOn_161 rfl (lv_at hl 1 rfl) ?_
                                  refine lv_aload_n hx hb dX11_goesOn_162 rfl (lv_at hl 1 rfl) ?_
                                  refine va_get (D := (dC, dI)) (ci := 11) (v := .int (nI k34)) (C := RX11) (T := TX11) (N := 35) hx hb hg inG11 hown hK.1 hP 0 rfl rfl 15 (Nat.le_of_ble_eq_true rfl) (hg _ wt_893) (fun _ h9 => h9) rfl dX11_goesOn_163 ?_
                                  refine lv_aload_n hx hb dX11_goesOn_166 rfl (lv_at hl 1 rfl) ?_
                                  refine va_get (D := (dC, dI)) (ci := 11) (v := .int (nI k3)) (C := RX11) (T := TX11) (N := 35) hx hb hg inG11 hown hK.1 hP 0 rfl rfl 16 (Nat.le_of_ble_eq_true rfl) (hg _ wt_894) (fun _ h9 => h9) rfl dX11_goesOn_167 ?_
                                  refine lv_isub hx hb dX11_goesOn_170 ?_
                                  refine lv_cg (y := nI (k34 - k3)) (by exact pk_sub (by have t_c1 := leI c1; have t_hinva := hinva; have t_w71 := w71; have t_c8 := neI c8; have t_w101 := w101; have t_c11 := neI c11; have t_b15 := b15; have t_b25 := b25; have t_w271 := w271; have t_c30 := neI c30; have t_n32 := n32; have t_hinvc := hinvc; have t_w391 := w391; have t_b51 := b51; have tqz_ := qz29_; have tnb_ := nib9 tn1261_ tn1262_ tn1263_ tn1266_ tn1267_ tn1264_ tn1265_ tn1268_ tn1270_; omega)) ?_
                                  refine lv_iconst (v := 2) hx hb dX11_goesOn_171 rfl ?_
                                  refine lv_icmp_ge (tgt := 197) hx hb dX11_goesOn_172 rfl (fun c52 => ?_) (fun c52 => ?_)
                                  · skip
                                    have tn1273_ : nIT (k34 - k3) := fun _ => nI_toInt (by first | omega | (have t := leI c52; omega))
                                    have n53 : 2 ≤ (k34 - k3) := by have t := leI c52; rw [show (nI (k34 - k3)).toInt = ((k34 - k3 : Nat) : Int) from tn1273_ ()] at t; have : (2 : Int32).toInt = 2 := qI_2; omega
                                    refine lv_aload_n hx hb dX11_goesOn_197 rfl (lv_at hl 1 rfl) ?_
                                    refine va_get (D := (dC, dI)) (ci := 11) (v := .int y35) (C := RX11) (T := TX11) (N := 35) hx hb hg inG11 hown hK.1 hP 0 rfl rfl 18 (Nat.le_of_ble_eq_true rfl) (hg _ wt_896) (fun _ h9 => h9) rfl dX11_goesOn_198 ?_
                                    refine va_put (D := (dC, dI)) (ci := 11) (v := .int y35) (ty := .int) (C := RX11) (T := TX11) (N := 35) hx hb hg inG11 tyX11 tyX11_ok nmX11 hown hK.1 hP hD hS 0 rfl rfl 18 (Nat.le_of_ble_eq_true rfl) (hg _ wt_896) (fun _ h9 => h9) rfl (by decide +kernel) rfl rfl (Nat.le_of_ble_eq_true rfl) dX11_goesOn_201 (fun H locs hP hD hS => ?_)
                                    refine lv_aload_n hx hb dX11_goesOn_204 rfl (lv_at hl 1 rfl) ?_
                                    refine lv_dup hx hb dX11_goesOn_205 rfl ?_
                                    refine va_get (D := (dC, dI)) (ci := 11) (v := .int (nI k34)) (C := RX11) (T := TX11) (N := 35) hx hb hg inG11 hown hK.1 hP 0 rfl rfl 15 (Nat.le_of_ble_eq_true rfl) (hg _ wt_893) (fun _ h9 => h9) rfl dX11_goesOn_206 ?_
                                    refine lv_iconst (v := 1) hx hb dX11_goesOn_209 rfl ?_
                                    refine lv_iadd hx hb dX11_goesOn_210 ?_
                                    refine lv_cg (y := nI (k34 + 1)) (by rw [show (1 : Int32) = nI 1 from rfl]; exact nI_add _ _) ?_
                                    refine va_put (D := (dC, dI)) (ci := 11) (v := .int (nI (k34 + 1))) (ty := .int) (C := RX11) (T := TX11) (N := 35) hx hb hg inG11 tyX11 tyX11_ok nmX11 hown hK.1 hP hD hS 0 rfl rfl 15 (Nat.le_of_ble_eq_true rfl) (hg _ wt_893) (fun _ h9 => h9) rfl (by decide +kernel) rfl rfl (Nat.le_of_ble_eq_true rfl) dX11_goesOn_211 (fun H locs hP hD hS => ?_)
                                    refine lv_goto (tgt := 140) hx hb dX11_goesOn_214 rfl ?_
                                    exact ih140_36 (k34 + 1) y35 (by have t_c1 := leI c1; have t_hinva := hinva; have t_w71 := w71; have t_c8 := neI c8; have t_w101 := w101; have t_c11 := neI c11; have t_b15 := b15; have t_b25 := b25; have t_w271 := w271; have t_c30 := neI c30; have t_n32 := n32; have t_hinvc := hinvc; have t_w391 := w391; have t_b51 := b51; have t_n53 := n53; have tqz_ := qz29_; have tnb_ := nib9 tn1261_ tn1262_ tn1263_ tn1266_ tn1267_ tn1264_ tn1265_ tn1268_ tn1270_; omega) ⟨(by have t_c1 := leI c1; have t_hinva := hinva; have t_w71 := w71; have t_c8 := neI c8; have t_w101 := w101; have t_c11 := neI c11; have t_b15 := b15; have t_b25 := b25; have t_w271 := w271; have t_c30 := neI c30; have t_n32 := n32; have t_hinvc := hinvc; have t_w391 := w391; have t_b51 := b51; have t_n53 := n53; have tqz_ := qz29_; have tnb_ := nib9 tn1261_ tn1262_ tn1263_ tn1266_ tn1267_ tn1264_ tn1265_ tn1268_ tn1270_; have tqz_ := qz41_; omega), (by have t_c1 := leI c1; have t_hinva := hinva; have t_w71 := w71; have t_c8 := neI c8; have t_w101 := w101; have t_c11 := neI c11; have t_b15 := b15; have t_b25 := b25; have t_w271 := w271; have t_c30 := neI c30; have t_n32 := n32; have t_hinvc := hinvc; have t_w391 := w391; have t_b51 := b51; have t_n53 := n53; have tqz_ := qz29_; have tnb_ := nib9 tn1261_ tn1262_ tn1263_ tn1266_ tn1267_ tn1264_ tn1265_ tn1268_ tn1270_; have tqz_ := qz41_; omega), (pst_in (p := k34) (by have t_c1 := leI c1; have t_hinva := hinva; have t_w71 := w71; have t_c8 := neI c8; have t_w101 := w101; have t_c11 := neI c11; have t_b15 := b15; have t_b25 := b25; have t_w271 := w271; have t_c30 := neI c30; have t_n32 := n32; have t_hinvc := hinvc; have t_w391 := w391; have t_b51 := b51; have t_n53 := n53; have tqz_ := qz29_; have tnb_ := nib9 tn1261_ tn1262_ tn1263_ tn1266_ tn1267_ tn1264_ tn1265_ tn1268_ tn1270_; have tqz_ := qz41_; omega) (by have t_c1 := leI c1; have t_hinva := hinva; have t_w71 := w71; have t_c8 := neI c8; have t_w101 := w101; have t_c11 := neI c11; have t_b15 := b15; have t_b25 := b25; have t_w271 := w271; have t_c30 := neI c30; have t_n32 := n32; have t_hinvc := hinvc; have t_w391 := w391; have t_b51 := b51; have t_n53 := n53; have tqz_ := qz29_; have tnb_ := nib9 tn1261_ tn1262_ tn1263_ tn1266_ tn1267_ tn1264_ tn1265_ tn1268_ tn1270_; have tqz_ := qz41_; omega) (by have t_c1 := leI c1; have t_hinva := hinva; have t_w71 := w71; have t_c8 := neI c8; have t_w101 := w101; have t_c11 := neI c11; have t_b15 := b15; have t_b25 := b25; have t_w271 := w271; have t_c30 := neI c30; have t_n32 := n32; have t_hinvc := hinvc; have t_w391 := w391; have t_b51 := b51; have t_n53 := n53; have tqz_ := qz29_; have tnb_ := nib9 tn1261_ tn1262_ tn1263_ tn1266_ tn1267_ tn1264_ tn1265_ tn1268_ tn1270_; have tqz_ := qz41_; omega)).symm.trans hinvc.2.2.1, (by have t_c1 := leI c1; have t_hinva := hinva; have t_w71 := w71; have t_c8 := neI c8; have t_w101 := w101; have t_c11 := neI c11; have t_b15 := b15; have t_b25 := b25; have t_w271 := w271; have t_c30 := neI c30; have t_n32 := n32; have t_hinvc := hinvc; have t_w391 := w391; have t_b51 := b51; have t_n53 := n53; have tqz_ := qz29_; have tnb_ := nib9 tn1261_ tn1262_ tn1263_ tn1266_ tn1267_ tn1264_ tn1265_ tn1268_ tn1270_; rw [show (k34 + 1) - k3 = (k34 - k3) + 1 by omega]; show _ = (if k34 - k3 < 2 then 10 * vlS ftp k3 (k34 - k3) + ftp (k3 + (k34 - k3)) - 48 else vlS ftp k3 (k34 - k3)); rw [show k3 + (k34 - k3) = k34 by omega]; first | (exfalso; omega) | (rw [if_pos (by omega), ← hinvc.2.2.2]) | (rw [if_neg (by omega)]; exact hinvc.2.2.2))⟩ _ _ hP hD hS ls (lv_sub hl [0, 1] rfl)
                                  · skip
                                    have tn1274_ : nIT (k34 - k3) := fun _ => nI_toInt (by first | omega | (have t := nleI c52; omega))
                                    have n54 : (k34 - k3) < 2 := by have t := nleI c52; rw [show (nI (k34 - k3)).toInt = ((k34 - k3 : Nat) : Int) from tn1274_ ()] at t; have : (2 : Int32).toInt = 2 := qI_2; omega
                                    refine lv_bipush (v := 10) hx hb dX11_goesOn_175 rfl ?_
                                    refine lv_aload_n hx hb dX11_goesOn_177 rfl (lv_at hl 1 rfl) ?_
                                    refine va_get (D := (dC, dI)) (ci := 11) (v := .int y35) (C := RX11) (T := TX11) (N := 35) hx hb hg inG11 hown hK.1 hP 0 rfl rfl 18 (Nat.le_of_ble_eq_true rfl) (hg _ wt_896) (fun _ h9 => h9) rfl dX11_goesOn_178 ?_
                                    refine lv_imul hx hb dX11_goesOn_181 ?_
                                    refine lv_aload_n hx hb dX11_goesOn_182 rfl (lv_at hl 1 rfl) ?_
                                    refine lv_aload_n hx hb dX11_goesOn_183 rfl (lv_at hl 1 rfl) ?_
                                    refine va_get (D := (dC, dI)) (ci := 11) (v := .int (nI k34)) (C := RX11) (T := TX11) (N := 35) hx hb hg inG11 hown hK.1 hP 0 rfl rfl 15 (Nat.le_of_ble_eq_true rfl) (hg _ wt_893) (fun _ h9 => h9) rfl dX11_goesOn_184 ?_
                                    have hPc := hP.sub (ws' := [(h0, .inr (11, [.ref st, .int (nI N), .int (nI B), .ref rp, .int vrs, .int vrb, .int vhs, .int vca, .int vxs, .int vxb, .ref tp, .int (nI T), .int vfa, .int vbr, .int vba, .int (nI k34), .int (nI k3), .int vtk, .int y35, .ref cu, .ref lt, .ref od, .ref th, .ref be, .ref ln, .int (nI S), .ref ma, .int (nI M), .ref ah, .ref bh, .ref ik, .ref la, .ref lg, .ref ce, .int vto])), (tp, .inl (G 0, 320, .inl ftp))]) [0, 1] rfl
                                    refine va_calli (va_runV (As := [.int (nI k34)]) (rest := [.int (10 * y35), .ref h0]) ⟨hx, hb, hml, hown, hg⟩ (c_X11_byteAt l dC dI G _ h0 k34 st N B rp tp T cu lt od th be ln S ma M ah bh ik la lg ce vrs vrb vhs vca vxs vxb vfa vbr vba (nI k34) (nI k3) vtk y35 vto ftp hN hB_ hT_ hS0 hM_ (by first | omega | (have t_c1 := leI c1; have t_hinva := hinva; have t_w71 := w71; have t_c8 := neI c8; have t_w101 := w101; have t_c11 := neI c11; have t_b15 := b15; have t_b25 := b25; have t_w271 := w271; have t_c30 := neI c30; have t_n32 := n32; have t_hinvc := hinvc; have t_w391 := w391; have t_b51 := b51; have t_n54 := n54; have tqz_ := qz29_; have tnb_ := nib9 tn1261_ tn1262_ tn1263_ tn1266_ tn1267_ tn1264_ tn1265_ tn1268_ tn1270_; omega))) (kwV hg mfX11_byteAt wt_1003 ⟨Nat.le_of_ble_eq_true rfl, Nat.le_of_ble_eq_true rfl⟩) (preVR hK hPc (ci := 11) (r := (RX11, TX11, 35)) rfl rfl) rfl rfl hl.1 rfl (lv_room (Nat.le_of_ble_eq_true rfl)) dX11_goesOn_187 ⟨Nat.le_of_ble_eq_true rfl, Nat.le_of_ble_eq_true rfl⟩) hS (fun q h1 h2 => absurd h2 (Nat.not_le.mpr h1)) (fun q h => hA q (Nat.le_trans hS.1 h)) (fun r55 ur55 t H1 locs ht hvm w56 hB hz1 hk1 hS => ?_)
                                    have hP := keepR hP hk1
                                    obtain ⟨w56, w56x⟩ := w56
                                    rcases w56 with ⟨w561, w562⟩ | ⟨w561, w562⟩
                                    · skip
                                      refine lv_cg (y := ftp k34) w562 ?_
                                      refine lv_iadd hx hb dX11_goesOn_190 ?_
                                      refine lv_bipush (v := 48) hx hb dX11_goesOn_191 rfl ?_
                                      refine lv_isub hx hb dX11_goesOn_193 ?_
                                      refine lv_goto (tgt := 201) hx hb dX11_goesOn_194 rfl ?_
                                      refine va_put (D := (dC, dI)) (ci := 11) (v := .int (((10 * y35) + (ftp k34)) - 48)) (ty := .int) (C := RX11) (T := TX11) (N := 35) hx hb hg inG11 tyX11 tyX11_ok nmX11 hown hK.1 hP hD hS 0 rfl rfl 18 (Nat.le_of_ble_eq_true rfl) (hg _ wt_896) (fun _ h9 => h9) rfl (by decide +kernel) rfl rfl (Nat.le_of_ble_eq_true rfl) dX11_goesOn_201 (fun H locs hP hD hS => ?_)
                                      refine lv_aload_n hx hb dX11_goesOn_204 rfl (lv_at hl 1 rfl) ?_
                                      refine lv_dup hx hb dX11_goesOn_205 rfl ?_
                                      refine va_get (D := (dC, dI)) (ci := 11) (v := .int (nI k34)) (C := RX11) (T := TX11) (N := 35) hx hb hg inG11 hown hK.1 hP 0 rfl rfl 15 (Nat.le_of_ble_eq_true rfl) (hg _ wt_893) (fun _ h9 => h9) rfl dX11_goesOn_206 ?_
                                      refine lv_iconst (v := 1) hx hb dX11_goesOn_209 rfl ?_
                                      refine lv_iadd hx hb dX11_goesOn_210 ?_
                                      refine lv_cg (y := nI (k34 + 1)) (by rw [show (1 : Int32) = nI 1 from rfl]; exact nI_add _ _) ?_
                                      refine va_put (D := (dC, dI)) (ci := 11) (v := .int (nI (k34 + 1))) (ty := .int) (C := RX11) (T := TX11) (N := 35) hx hb hg inG11 tyX11 tyX11_ok nmX11 hown hK.1 hP hD hS 0 rfl rfl 15 (Nat.le_of_ble_eq_true rfl) (hg _ wt_893) (fun _ h9 => h9) rfl (by decide +kernel) rfl rfl (Nat.le_of_ble_eq_true rfl) dX11_goesOn_211 (fun H locs hP hD hS => ?_)
                                      refine lv_goto (tgt := 140) hx hb dX11_goesOn_214 rfl ?_
                                      exact ih140_36 (k34 + 1) (((10 * y35) + (ftp k34)) - 48) (by have t_c1 := leI c1; have t_hinva := hinva; have t_w71 := w71; have t_c8 := neI c8; have t_w101 := w101; have t_c11 := neI c11; have t_b15 := b15; have t_b25 := b25; have t_w271 := w271; have t_c30 := neI c30; have t_n32 := n32; have t_hinvc := hinvc; have t_w391 := w391; have t_b51 := b51; have t_n54 := n54; have t_w561 := w561; have tqz_ := qz29_; have tnb_ := nib9 tn1261_ tn1262_ tn1263_ tn1266_ tn1267_ tn1264_ tn1265_ tn1268_ tn1270_; omega) ⟨(by have t_c1 := leI c1; have t_hinva := hinva; have t_w71 := w71; have t_c8 := neI c8; have t_w101 := w101; have t_c11 := neI c11; have t_b15 := b15; have t_b25 := b25; have t_w271 := w271; have t_c30 := neI c30; have t_n32 := n32; have t_hinvc := hinvc; have t_w391 := w391; have t_b51 := b51; have t_n54 := n54; have t_w561 := w561; have tqz_ := qz29_; have tnb_ := nib9 tn1261_ tn1262_ tn1263_ tn1266_ tn1267_ tn1264_ tn1265_ tn1268_ tn1270_; have tqz_ := qz41_; omega), (by have t_c1 := leI c1; have t_hinva := hinva; have t_w71 := w71; have t_c8 := neI c8; have t_w101 := w101; have t_c11 := neI c11; have t_b15 := b15; have t_b25 := b25; have t_w271 := w271; have t_c30 := neI c30; have t_n32 := n32; have t_hinvc := hinvc; have t_w391 := w391; have t_b51 := b51; have t_n54 := n54; have t_w561 := w561; have tqz_ := qz29_; have tnb_ := nib9 tn1261_ tn1262_ tn1263_ tn1266_ tn1267_ tn1264_ tn1265_ tn1268_ tn1270_; have tqz_ := qz41_; omega), (pst_in (p := k34) (by have t_c1 := leI c1; have t_hinva := hinva; have t_w71 := w71; have t_c8 := neI c8; have t_w101 := w101; have t_c11 := neI c11; have t_b15 := b15; have t_b25 := b25; have t_w271 := w271; have t_c30 := neI c30; have t_n32 := n32; have t_hinvc := hinvc; have t_w391 := w391; have t_b51 := b51; have t_n54 := n54; have t_w561 := w561; have tqz_ := qz29_; have tnb_ := nib9 tn1261_ tn1262_ tn1263_ tn1266_ tn1267_ tn1264_ tn1265_ tn1268_ tn1270_; have tqz_ := qz41_; omega) (by have t_c1 := leI c1; have t_hinva := hinva; have t_w71 := w71; have t_c8 := neI c8; have t_w101 := w101; have t_c11 := neI c11; have t_b15 := b15; have t_b25 := b25; have t_w271 := w271; have t_c30 := neI c30; have t_n32 := n32; have t_hinvc := hinvc; have t_w391 := w391; have t_b51 := b51; have t_n54 := n54; have t_w561 := w561; have tqz_ := qz29_; have tnb_ := nib9 tn1261_ tn1262_ tn1263_ tn1266_ tn1267_ tn1264_ tn1265_ tn1268_ tn1270_; have tqz_ := qz41_; omega) (by have t_c1 := leI c1; have t_hinva := hinva; have t_w71 := w71; have t_c8 := neI c8; have t_w101 := w101; have t_c11 := neI c11; have t_b15 := b15; have t_b25 := b25; have t_w271 := w271; have t_c30 := neI c30; have t_n32 := n32; have t_hinvc := hinvc; have t_w391 := w391; have t_b51 := b51; have t_n54 := n54; have t_w561 := w561; have tqz_ := qz29_; have tnb_ := nib9 tn1261_ tn1262_ tn1263_ tn1266_ tn1267_ tn1264_ tn1265_ tn1268_ tn1270_; have tqz_ := qz41_; omega)).symm.trans hinvc.2.2.1, (by have t_c1 := leI c1; have t_hinva := hinva; have t_w71 := w71; have t_c8 := neI c8; have t_w101 := w101; have t_c11 := neI c11; have t_b15 := b15; have t_b25 := b25; have t_w271 := w271; have t_c30 := neI c30; have t_n32 := n32; have t_hinvc := hinvc; have t_w391 := w391; have t_b51 := b51; have t_n54 := n54; have t_w561 := w561; have tqz_ := qz29_; have tnb_ := nib9 tn1261_ tn1262_ tn1263_ tn1266_ tn1267_ tn1264_ tn1265_ tn1268_ tn1270_; rw [show (k34 + 1) - k3 = (k34 - k3) + 1 by omega]; show _ = (if k34 - k3 < 2 then 10 * vlS ftp k3 (k34 - k3) + ftp (k3 + (k34 - k3)) - 48 else vlS ftp k3 (k34 - k3)); rw [show k3 + (k34 - k3) = k34 by omega]; first | (exfalso; omega) | (rw [if_pos (by omega), ← hinvc.2.2.2]) | (rw [if_neg (by omega)]; exact hinvc.2.2.2))⟩ _ _ hP hD hS ls (lv_sub hl [0, 1] rfl)
                                    · skip
                                      have t_c1 := leI c1
                                      have t_hinva := hinva
                                      have t_w71 := w71
                                      have t_c8 := neI c8
                                      have t_w101 := w101
                                      have t_c11 := neI c11
                                      have t_b15 := b15
                                      have t_b25 := b25
                                      have t_w271 := w271
                                      have t_c30 := neI c30
                                      have t_n32 := n32
                                      have t_hinvc := hinvc
                                      have t_w391 := w391
                                      have t_b51 := b51
                                      have t_n54 := n54
                                      have t_w561 := w561
                                      have : ((-4) : Int32).toInt = -4 := qI_m4
                                      have : (0 : Int32).toInt = 0 := qI_0
                                      have : (1 : Int32).toInt = 1 := qI_1
                                      have : (32 : Int32).toInt = 32 := qI_32
                                      have t_n0 : (nI N).toInt = (N : Int) := tn1261_ ()
                                      have t_n1 : (nI B).toInt = (B : Int) := tn1262_ ()
                                      have t_n2 : (nI T).toInt = (T : Int) := tn1263_ ()
                                      have t_n3 : (nI nsp).toInt = (nsp : Int) := tn1266_ ()
                                      have t_n4 : (nI nhe).toInt = (nhe : Int) := tn1267_ ()
                                      have t_n5 : (nI S).toInt = (S : Int) := tn1264_ ()
                                      have t_n6 : (nI M).toInt = (M : Int) := tn1265_ ()
                                      have t_n7 : (nI k3).toInt = (k3 : Int) := tn1268_ ()
                                      have t_n8 : (nI k34).toInt = (k34 : Int) := tn1270_ ()
                                      exfalso; omega
                              · skip
                                refine lv_cg (y := (-4)) w392 ?_
                                refine lv_i2l (v := (-4)) hx hb dX11_goesOn_148 (by decide) ?_
                                refine lv_ldc2 (v := 48) hx hb hown (hg _ wt_1009) dX11_goesOn_149 ?_
                                refine lv_ldc2 (v := 57) hx hb hown (hg _ wt_1010) dX11_goesOn_152 ?_
                                have hPc := hP.sub (ws' := []) [] rfl
                                refine va_calli (va_runS (As := [.long (-4), .long 48, .long 57]) (rest := []) ⟨hx, hb, hml, hown, hg⟩ (c_X11_in l dC dI G _ (-4) 48 57) (kwS hg mfX11_in wt_992 ⟨Nat.le_of_ble_eq_true rfl, Nat.le_of_ble_eq_true rfl⟩) (preSR hK hPc) rfl rfl hl.1 rfl (lv_room (Nat.le_of_ble_eq_true rfl)) dX11_goesOn_155 ⟨Nat.le_of_ble_eq_true rfl, Nat.le_of_ble_eq_true rfl⟩) hS (fun q h1 h2 => absurd h2 (Nat.not_le.mpr h1)) (fun q h => hA q (Nat.le_trans hS.1 h)) (fun r57 ur57 t H1 locs ht hvm w58 hB hz1 hk1 hS => ?_)
                                have hP := keepR hP hk1
                                obtain ⟨w58, w58x⟩ := w58
                                try simp only [l_ii, show (48 : Int64).toInt = 48 from by decide, show ((-4) : Int64).toInt = -4 from by decide, show (57 : Int64).toInt = 57 from by decide] at w58
                                have w58 : r57 = 0 := w58.trans (if_neg (by have t_c1 := leI c1; have t_hinva := hinva; have t_w71 := w71; have t_c8 := neI c8; have t_w101 := w101; have t_c11 := neI c11; have t_b15 := b15; have t_b25 := b25; have t_w271 := w271; have t_c30 := neI c30; have t_n32 := n32; have t_hinvc := hinvc; have t_w391 := w391; have tqz_ := qz29_; have tnb_ := nib9 tn1261_ tn1262_ tn1263_ tn1266_ tn1267_ tn1264_ tn1265_ tn1268_ tn1270_; omega))
                                subst w58
                                refine lv_if_eq (tgt := 217) hx hb dX11_goesOn_158 rfl (fun c59 => ?_) (fun c59 => ?_)
                                · skip
                                  refine lv_aload_n hx hb dX11_goesOn_217 rfl (lv_at hl 1 rfl) ?_
                                  refine lv_iconst (v := 2) hx hb dX11_goesOn_218 rfl ?_
                                  refine va_put (D := (dC, dI)) (ci := 11) (v := .int 2) (ty := .int) (C := RX11) (T := TX11) (N := 35) hx hb hg inG11 tyX11 tyX11_ok nmX11 hown hK.1 hP hD hS 0 rfl rfl 17 (Nat.le_of_ble_eq_true rfl) (hg _ wt_895) (fun _ h9 => h9) rfl (by decide +kernel) rfl rfl (Nat.le_of_ble_eq_true rfl) dX11_goesOn_219 (fun H locs hP hD hS => ?_)
                                  refine lv_aload_n hx hb dX11_goesOn_222 rfl (lv_at hl 1 rfl) ?_
                                  refine va_get (D := (dC, dI)) (ci := 11) (v := .int (nI k34)) (C := RX11) (T := TX11) (N := 35) hx hb hg inG11 hown hK.1 hP 0 rfl rfl 15 (Nat.le_of_ble_eq_true rfl) (hg _ wt_893) (fun _ h9 => h9) rfl dX11_goesOn_223 ?_
                                  refine lv_aload_n hx hb dX11_goesOn_226 rfl (lv_at hl 1 rfl) ?_
                                  refine va_get (D := (dC, dI)) (ci := 11) (v := .int (nI k3)) (C := RX11) (T := TX11) (N := 35) hx hb hg inG11 hown hK.1 hP 0 rfl rfl 16 (Nat.le_of_ble_eq_true rfl) (hg _ wt_894) (fun _ h9 => h9) rfl dX11_goesOn_227 ?_
                                  refine lv_isub hx hb dX11_goesOn_230 ?_
                                  refine lv_cg (y := nI (k34 - k3)) (by exact pk_sub (by have t_c1 := leI c1; have t_hinva := hinva; have t_w71 := w71; have t_c8 := neI c8; have t_w101 := w101; have t_c11 := neI c11; have t_b15 := b15; have t_b25 := b25; have t_w271 := w271; have t_c30 := neI c30; have t_n32 := n32; have t_hinvc := hinvc; have t_w391 := w391; have t_c59 := eqI c59; have tqz_ := qz29_; have tnb_ := nib9 tn1261_ tn1262_ tn1263_ tn1266_ tn1267_ tn1264_ tn1265_ tn1268_ tn1270_; omega)) ?_
                                  refine lv_iconst (v := 2) hx hb dX11_goesOn_231 rfl ?_
                                  refine lv_icmp_le (tgt := 269) hx hb dX11_goesOn_232 rfl (fun c60 => ?_) (fun c60 => ?_)
                                  · skip
                                    have tn1275_ : nIT (k34 - k3) := fun _ => nI_toInt (by first | omega | (have t := leI c60; omega))
                                    have n61 : (k34 - k3) ≤ 2 := by have t := leI c60; rw [show (nI (k34 - k3)).toInt = ((k34 - k3 : Nat) : Int) from tn1275_ ()] at t; have : (2 : Int32).toInt = 2 := qI_2; omega
                                    obtain ⟨hP9, hD9⟩ := va_sub2 (ws' := [(h0, .inr (11, [.ref st, .int (nI N), .int (nI B), .ref rp, .int vrs, .int vrb, .int vhs, .int vca, .int vxs, .int vxb, .ref tp, .int (nI T), .int vfa, .int vbr, .int vba, .int (nI k34), .int (nI k3), .int 2, .int y35, .ref cu, .ref lt, .ref od, .ref th, .ref be, .ref ln, .int (nI S), .ref ma, .int (nI M), .ref ah, .ref bh, .ref ik, .ref la, .ref lg, .ref ce, .int vto])), (tp, .inl (G 0, 320, .inl ftp))]) hP hD [0, 1] (by decide) rfl
                                    refine W.widen (k := 0) (n := 0) (Nat.le_of_ble_eq_true rfl) (Nat.le_of_ble_eq_true rfl) ?_
                                    exact W.vret hx hb hr (fun t ht hW => ⟨⟨(vbr, vba, k34, k3, 2, y35), rfl, (by have t_c1 := leI c1; have t_hinva := hinva; have t_w71 := w71; have t_c8 := neI c8; have t_w101 := w101; have t_c11 := neI c11; have t_b15 := b15; have t_b25 := b25; have t_w271 := w271; have t_c30 := neI c30; have t_n32 := n32; have t_hinvc := hinvc; have t_w391 := w391; have t_c59 := eqI c59; have t_n61 := n61; have tqz_ := qz29_; have tnb_ := nib9 tn1261_ tn1262_ tn1263_ tn1266_ tn1267_ tn1264_ tn1265_ tn1268_ tn1270_; have tqz_ := qz41_; have hb8 := htb k3; first | (exfalso; omega) | skip; refine ⟨by omega, ?_, by omega, by omega, by omega, ?_, ?_⟩; (first | exact Or.inr rfl | exact Or.inl (by omega)); omega; (have ea : pst ftp T 32 32 nsp = k3 := hinva.2.2.symm.trans (pst_out (by omega)); unfold gOn; rw [if_neg (by omega), ea]; unfold gOn1; rw [if_neg (by omega), if_neg (by omega), if_pos (by omega), hinvc.2.2.1.symm.trans (pst_out (by omega)), hinvc.2.2.2]; first | rw [if_pos (by omega)] | rw [if_neg (by omega)])), ⟨by rw [ht]; exact hP9, hD9⟩⟩, hS.F ht⟩) hS.2.2 dX11_goesOn_269
                                  · skip
                                    have tn1276_ : nIT (k34 - k3) := fun _ => nI_toInt (by first | omega | (have t := nleI c60; omega))
                                    have n62 : 2 < (k34 - k3) := by have t := nleI c60; rw [show (nI (k34 - k3)).toInt = ((k34 - k3 : Nat) : Int) from tn1276_ ()] at t; have : (2 : Int32).toInt = 2 := qI_2; omega
                                    refine lv_aload_n hx hb dX11_goesOn_235 rfl (lv_at hl 1 rfl) ?_
                                    refine lv_iconst (v := 1) hx hb dX11_goesOn_236 rfl ?_
                                    obtain ⟨hPc, hDc, hFc⟩ := va_sub3 (ws' := [(h0, .inr (11, [.ref st, .int (nI N), .int (nI B), .ref rp, .int vrs, .int vrb, .int vhs, .int vca, .int vxs, .int vxb, .ref tp, .int (nI T), .int vfa, .int vbr, .int vba, .int (nI k34), .int (nI k3), .int 2, .int y35, .ref cu, .ref lt, .ref od, .ref th, .ref be, .ref ln, .int (nI S), .ref ma, .int (nI M), .ref ah, .ref bh, .ref ik, .ref la, .ref lg, .ref ce, .int vto]))]) hP hD hS hA [0] (by decide) rfl
                                    refine va_callv (va_runV (As := [.int 1]) (rest := []) ⟨hx, hb, hml, hown, hg⟩ (c_X11_failsE l dC dI G _ h0 st N B rp tp T k3 cu lt od th be ln S ma M ah bh ik la lg ce 1 vrs vrb vhs vca vxs vxb vfa vbr vba (nI k34) 2 y35 vto hN hB_ hT_ hS0 hM_ (by have t_c1 := leI c1; have t_hinva := hinva; have t_w71 := w71; have t_c8 := neI c8; have t_w101 := w101; have t_c11 := neI c11; have t_b15 := b15; have t_b25 := b25; have t_w271 := w271; have t_c30 := neI c30; have t_n32 := n32; have t_hinvc := hinvc; have t_w391 := w391; have t_c59 := eqI c59; have t_n62 := n62; have tqz_ := qz29_; have tnb_ := nib9 tn1261_ tn1262_ tn1263_ tn1266_ tn1267_ tn1264_ tn1265_ tn1268_ tn1270_; have : (1 : Int32).toInt = 1 := qI_1; omega) hbr (by first | omega | (have t_c1 := leI c1; have t_hinva := hinva; have t_w71 := w71; have t_c8 := neI c8; have t_w101 := w101; have t_c11 := neI c11; have t_b15 := b15; have t_b25 := b25; have t_w271 := w271; have t_c30 := neI c30; have t_n32 := n32; have t_hinvc := hinvc; have t_w391 := w391; have t_c59 := eqI c59; have t_n62 := n62; have tqz_ := qz29_; have tnb_ := nib9 tn1261_ tn1262_ tn1263_ tn1266_ tn1267_ tn1264_ tn1265_ tn1268_ tn1270_; have : (1 : Int32).toInt = 1 := qI_1; omega))) (kwV hg mfX11_fails wt_1011 ⟨Nat.le_of_ble_eq_true rfl, Nat.le_of_ble_eq_true rfl⟩) (preVW hK hPc hDc (ci := 11) (r := (RX11, TX11, 35)) rfl rfl) rfl rfl hl.1 rfl (lv_room (Nat.le_of_ble_eq_true rfl)) dX11_goesOn_237 ⟨Nat.le_of_ble_eq_true rfl, Nat.le_of_ble_eq_true rfl⟩) hS (fun q _ h => hFc q h) hFc (fun ur63 t H1 locs ht hvm w64 hB hz1 hk1 hS => ?_)
                                    obtain ⟨u65, u66⟩ := ur63
                                    obtain ⟨hP1, hD1⟩ := hB
                                    rw [ht] at hP1
                                    obtain ⟨hP, hD⟩ := va_join (wr := [(tp, .inl (G 0, 320, .inl ftp))]) (w1 := [(h0, .inr (11, [.ref st, .int (nI N), .int (nI B), .ref rp, .int vrs, .int vrb, .int vhs, .int vca, .int vxs, .int vxb, .ref tp, .int (nI T), .int vfa, .int u65, .int u66, .int (nI k34), .int (nI k3), .int 2, .int y35, .ref cu, .ref lt, .ref od, .ref th, .ref be, .ref ln, .int (nI S), .ref ma, .int (nI M), .ref ah, .ref bh, .ref ik, .ref la, .ref lg, .ref ce, .int vto]))]) hP hD [0] [1] rfl rfl (by decide) (by decide) hk1 hFc hP1 hD1
                                    have w64 : 0 < u65.toInt ∧ u65 = flB (1 : Int32) vbr ∧ u66 = flA vbr vba k3 := w64
                                    generalize H1 = H at hP hS ⊢
                                    refine lv_goto (tgt := 269) hx hb dX11_goesOn_240 rfl ?_
                                    obtain ⟨hP9, hD9⟩ := va_sub2 (ws' := [(h0, .inr (11, [.ref st, .int (nI N), .int (nI B), .ref rp, .int vrs, .int vrb, .int vhs, .int vca, .int vxs, .int vxb, .ref tp, .int (nI T), .int vfa, .int u65, .int u66, .int (nI k34), .int (nI k3), .int 2, .int y35, .ref cu, .ref lt, .ref od, .ref th, .ref be, .ref ln, .int (nI S), .ref ma, .int (nI M), .ref ah, .ref bh, .ref ik, .ref la, .ref lg, .ref ce, .int vto])), (tp, .inl (G 0, 320, .inl ftp))]) hP hD [1, 0] (by decide) rfl
                                    refine W.widen (k := 0) (n := 0) (Nat.le_of_ble_eq_true rfl) (Nat.le_of_ble_eq_true rfl) ?_
                                    exact W.vret hx hb hr (fun t ht hW => ⟨⟨(u65, u66, k34, k3, 2, y35), rfl, (by have t_c1 := leI c1; have t_hinva := hinva; have t_w71 := w71; have t_c8 := neI c8; have t_w101 := w101; have t_c11 := neI c11; have t_b15 := b15; have t_b25 := b25; have t_w271 := w271; have t_c30 := neI c30; have t_n32 := n32; have t_hinvc := hinvc; have t_w391 := w391; have t_c59 := eqI c59; have t_n62 := n62; have t_w64 := w64.1; have tqz_ := qz29_; have tnb_ := nib9 tn1261_ tn1262_ tn1263_ tn1266_ tn1267_ tn1264_ tn1265_ tn1268_ tn1270_; have tqz_ := qz41_; have hb8 := htb k3; first | (exfalso; omega) | skip; refine ⟨by omega, ?_, by omega, by omega, by omega, ?_, ?_⟩; (first | exact Or.inr rfl | exact Or.inl (by omega)); omega; (have ea : pst ftp T 32 32 nsp = k3 := hinva.2.2.symm.trans (pst_out (by omega)); unfold gOn; rw [if_neg (by omega), ea]; unfold gOn1; have q1 := w64.2.1; have q2 := w64.2.2; rw [q1, q2]; rw [if_neg (by omega), if_neg (by omega), if_pos (by omega), hinvc.2.2.1.symm.trans (pst_out (by omega)), hinvc.2.2.2]; first | rw [if_pos (by omega)] | rw [if_neg (by omega)])), ⟨by rw [ht]; exact hP9, hD9⟩⟩, hS.F ht⟩) hS.2.2 dX11_goesOn_269
                                · skip
                                  exact absurd c59 (by decide)
                          exact loop140_36 ((T - (k3 + 1)) + 1) (k3 + 1) 0 (Nat.lt_succ_self _) ⟨(by have t_c1 := leI c1; have t_hinva := hinva; have t_w71 := w71; have t_c8 := neI c8; have t_w101 := w101; have t_c11 := neI c11; have t_b15 := b15; have t_b25 := b25; have t_w271 := w271; have t_c30 := neI c30; have t_n32 := n32; have tqz_ := qz29_; have tnb_ := nib8 tn1261_ tn1262_ tn1263_ tn1266_ tn1267_ tn1264_ tn1265_ tn1268_; have tqz_ := qz41_; omega), (by have t_c1 := leI c1; have t_hinva := hinva; have t_w71 := w71; have t_c8 := neI c8; have t_w101 := w101; have t_c11 := neI c11; have t_b15 := b15; have t_b25 := b25; have t_w271 := w271; have t_c30 := neI c30; have t_n32 := n32; have tqz_ := qz29_; have tnb_ := nib8 tn1261_ tn1262_ tn1263_ tn1266_ tn1267_ tn1264_ tn1265_ tn1268_; have tqz_ := qz41_; omega), (pst_in (p := k3) (by have t_c1 := leI c1; have t_hinva := hinva; have t_w71 := w71; have t_c8 := neI c8; have t_w101 := w101; have t_c11 := neI c11; have t_b15 := b15; have t_b25 := b25; have t_w271 := w271; have t_c30 := neI c30; have t_n32 := n32; have tqz_ := qz29_; have tnb_ := nib8 tn1261_ tn1262_ tn1263_ tn1266_ tn1267_ tn1264_ tn1265_ tn1268_; have tqz_ := qz41_; omega) (by have t_c1 := leI c1; have t_hinva := hinva; have t_w71 := w71; have t_c8 := neI c8; have t_w101 := w101; have t_c11 := neI c11; have t_b15 := b15; have t_b25 := b25; have t_w271 := w271; have t_c30 := neI c30; have t_n32 := n32; have tqz_ := qz29_; have tnb_ := nib8 tn1261_ tn1262_ tn1263_ tn1266_ tn1267_ tn1264_ tn1265_ tn1268_; have tqz_ := qz41_; omega) (by have t_c1 := leI c1; have t_hinva := hinva; have t_w71 := w71; have t_c8 := neI c8; have t_w101 := w101; have t_c11 := neI c11; have t_b15 := b15; have t_b25 := b25; have t_w271 := w271; have t_c30 := neI c30; have t_n32 := n32; have tqz_ := qz29_; have tnb_ := nib8 tn1261_ tn1262_ tn1263_ tn1266_ tn1267_ tn1264_ tn1265_ tn1268_; have tqz_ := qz41_; omega)).symm, (by have t_c1 := leI c1; have t_hinva := hinva; have t_w71 := w71; have t_c8 := neI c8; have t_w101 := w101; have t_c11 := neI c11; have t_b15 := b15; have t_b25 := b25; have t_w271 := w271; have t_c30 := neI c30; have t_n32 := n32; have tqz_ := qz29_; have tnb_ := nib8 tn1261_ tn1262_ tn1263_ tn1266_ tn1267_ tn1264_ tn1265_ tn1268_; first | (exfalso; omega) | (rw [show ((k3 + 1)) - k3 = 1 by omega]; show _ = (if (0 : Nat) < 2 then 10 * (0 : Int32) + ftp (k3 + 0) - 48 else 0); rw [if_pos (by decide), show (10 : Int32) * 0 = 0 from by decide]; rfl))⟩ _ _ hP hD hS ls (lv_sub hl [0, 1] rfl)
                        · skip
                          have tn1277_ : nIT (k3 - k3) := fun _ => nI_toInt (by first | omega | (have t := nleI c31; omega))
                          have n67 : (k3 - k3) < 2 := by have t := nleI c31; rw [show (nI (k3 - k3)).toInt = ((k3 - k3 : Nat) : Int) from tn1277_ ()] at t; have : (2 : Int32).toInt = 2 := qI_2; omega
                          refine lv_bipush (v := 10) hx hb dX11_goesOn_175 rfl ?_
                          refine lv_aload_n hx hb dX11_goesOn_177 rfl (lv_at hl 1 rfl) ?_
                          refine va_get (D := (dC, dI)) (ci := 11) (v := .int 0) (C := RX11) (T := TX11) (N := 35) hx hb hg inG11 hown hK.1 hP 0 rfl rfl 18 (Nat.le_of_ble_eq_true rfl) (hg _ wt_896) (fun _ h9 => h9) rfl dX11_goesOn_178 ?_
                          refine lv_imul hx hb dX11_goesOn_181 ?_
                          refine lv_cg (y := 0) (by decide) ?_
                          refine lv_aload_n hx hb dX11_goesOn_182 rfl (lv_at hl 1 rfl) ?_
                          refine lv_aload_n hx hb dX11_goesOn_183 rfl (lv_at hl 1 rfl) ?_
                          refine va_get (D := (dC, dI)) (ci := 11) (v := .int (nI k3)) (C := RX11) (T := TX11) (N := 35) hx hb hg inG11 hown hK.1 hP 0 rfl rfl 15 (Nat.le_of_ble_eq_true rfl) (hg _ wt_893) (fun _ h9 => h9) rfl dX11_goesOn_184 ?_
                          have hPc := hP.sub (ws' := [(h0, .inr (11, [.ref st, .int (nI N), .int (nI B), .ref rp, .int vrs, .int vrb, .int vhs, .int vca, .int vxs, .int vxb, .ref tp, .int (nI T), .int vfa, .int vbr, .int vba, .int (nI k3), .int (nI k3), .int vtk, .int 0, .ref cu, .ref lt, .ref od, .ref th, .ref be, .ref ln, .int (nI S), .ref ma, .int (nI M), .ref ah, .ref bh, .ref ik, .ref la, .ref lg, .ref ce, .int vto])), (tp, .inl (G 0, 320, .inl ftp))]) [0, 1] rfl
                          refine va_calli (va_runV (As := [.int (nI k3)]) (rest := [.int 0, .ref h0]) ⟨hx, hb, hml, hown, hg⟩ (c_X11_byteAt l dC dI G _ h0 k3 st N B rp tp T cu lt od th be ln S ma M ah bh ik la lg ce vrs vrb vhs vca vxs vxb vfa vbr vba (nI k3) (nI k3) vtk 0 vto ftp hN hB_ hT_ hS0 hM_ (by first | omega | (have t_c1 := leI c1; have t_hinva := hinva; have t_w71 := w71; have t_c8 := neI c8; have t_w101 := w101; have t_c11 := neI c11; have t_b15 := b15; have t_b25 := b25; have t_w271 := w271; have t_c30 := neI c30; have t_n67 := n67; have tqz_ := qz29_; have tnb_ := nib8 tn1261_ tn1262_ tn1263_ tn1266_ tn1267_ tn1264_ tn1265_ tn1268_; omega))) (kwV hg mfX11_byteAt wt_1003 ⟨Nat.le_of_ble_eq_true rfl, Nat.le_of_ble_eq_true rfl⟩) (preVR hK hPc (ci := 11) (r := (RX11, TX11, 35)) rfl rfl) rfl rfl hl.1 rfl (lv_room (Nat.le_of_ble_eq_true rfl)) dX11_goesOn_187 ⟨Nat.le_of_ble_eq_true rfl, Nat.le_of_ble_eq_true rfl⟩) hS (fun q h1 h2 => absurd h2 (Nat.not_le.mpr h1)) (fun q h => hA q (Nat.le_trans hS.1 h)) (fun r68 ur68 t H1 locs ht hvm w69 hB hz1 hk1 hS => ?_)
                          have hP := keepR hP hk1
                          obtain ⟨w69, w69x⟩ := w69
                          rcases w69 with ⟨w691, w692⟩ | ⟨w691, w692⟩
                          · skip
                            refine lv_cg (y := ftp k3) w692 ?_
                            refine lv_iadd hx hb dX11_goesOn_190 ?_
                            refine lv_bipush (v := 48) hx hb dX11_goesOn_191 rfl ?_
                            refine lv_isub hx hb dX11_goesOn_193 ?_
                            refine lv_goto (tgt := 201) hx hb dX11_goesOn_194 rfl ?_
                            refine va_put (D := (dC, dI)) (ci := 11) (v := .int ((0 + (ftp k3)) - 48)) (ty := .int) (C := RX11) (T := TX11) (N := 35) hx hb hg inG11 tyX11 tyX11_ok nmX11 hown hK.1 hP hD hS 0 rfl rfl 18 (Nat.le_of_ble_eq_true rfl) (hg _ wt_896) (fun _ h9 => h9) rfl (by decide +kernel) rfl rfl (Nat.le_of_ble_eq_true rfl) dX11_goesOn_201 (fun H locs hP hD hS => ?_)
                            refine lv_aload_n hx hb dX11_goesOn_204 rfl (lv_at hl 1 rfl) ?_
                            refine lv_dup hx hb dX11_goesOn_205 rfl ?_
                            refine va_get (D := (dC, dI)) (ci := 11) (v := .int (nI k3)) (C := RX11) (T := TX11) (N := 35) hx hb hg inG11 hown hK.1 hP 0 rfl rfl 15 (Nat.le_of_ble_eq_true rfl) (hg _ wt_893) (fun _ h9 => h9) rfl dX11_goesOn_206 ?_
                            refine lv_iconst (v := 1) hx hb dX11_goesOn_209 rfl ?_
                            refine lv_iadd hx hb dX11_goesOn_210 ?_
                            refine lv_cg (y := nI (k3 + 1)) (by rw [show (1 : Int32) = nI 1 from rfl]; exact nI_add _ _) ?_
                            refine va_put (D := (dC, dI)) (ci := 11) (v := .int (nI (k3 + 1))) (ty := .int) (C := RX11) (T := TX11) (N := 35) hx hb hg inG11 tyX11 tyX11_ok nmX11 hown hK.1 hP hD hS 0 rfl rfl 15 (Nat.le_of_ble_eq_true rfl) (hg _ wt_893) (fun _ h9 => h9) rfl (by decide +kernel) rfl rfl (Nat.le_of_ble_eq_true rfl) dX11_goesOn_211 (fun H locs hP hD hS => ?_)
                            refine lv_goto (tgt := 140) hx hb dX11_goesOn_214 rfl ?_
                            have loop140_73 : ∀ (nf : Nat) (k71 : Nat) (y72 : Int32), (T - k71) < nf → ((k3 + 1) ≤ k71 ∧ k71 ≤ T ∧ pst ftp T 48 57 k71 = pst ftp T 48 57 k3 ∧ y72 = vlS ftp k3 (k71 - k3)) → ∀ (H : Heap) (locs : List Loc), va_P (dC, dI) vwCl [(h0, .inr (11, [.ref st, .int (nI N), .int (nI B), .ref rp, .int vrs, .int vrb, .int vhs, .int vca, .int vxs, .int vxb, .ref tp, .int (nI T), .int vfa, .int vbr, .int vba, .int (nI k71), .int (nI k3), .int vtk, .int y72, .ref cu, .ref lt, .ref od, .ref th, .ref be, .ref ln, .int (nI S), .ref ma, .int (nI M), .ref ah, .ref bh, .ref ik, .ref la, .ref lg, .ref ce, .int vto])), (tp, .inl (G 0, 320, .inl ftp))] H → va_D A [(h0, .inr (11, [.ref st, .int (nI N), .int (nI B), .ref rp, .int vrs, .int vrb, .int vhs, .int vca, .int vxs, .int vxb, .ref tp, .int (nI T), .int vfa, .int vbr, .int vba, .int (nI k71), .int (nI k3), .int vtk, .int y72, .ref cu, .ref lt, .ref od, .ref th, .ref be, .ref ln, .int (nI S), .ref ma, .int (nI M), .ref ah, .ref bh, .ref ik, .ref la, .ref lg, .ref ce, .int vto])), (tp, .inl (G 0, 320, .inl ftp))] → va_S A s.heap H locs → ∀ (ls : Array Slot), lv_has ls 2 [(1, .int (ftp k3)), (0, .ref h0)] → W p l e (headSpec (Cond.code yX11_goesOn cX11_goesOn 2 none :: GT) ({ frames := 1, cells := 0, slots := 0, locals := 25 } : Room)).room s m ([.ref h0] : List Value).toArray below meth c H locs 0 0 (MQ below (va_Qv (fun (u : Int32 × Int32 × Nat × Nat × Int32 × Int32) => match u with | (obr, oba, osp, ohe, otk, ova) => 0 ≤ obr.toInt ∧ (vbr.toInt = 0 ∨ obr.toInt = vbr.toInt) ∧ nsp ≤ osp ∧ osp ≤ T ∧ ohe ≤ osp ∧ (0 < vbr.toInt ∨ otk.toInt = 0 ∨ nsp < osp) ∧ (obr, oba, osp, ohe, otk, ova) = gOn ftp T vbr vba nsp nhe vtk vva) (fun (u : Int32 × Int32 × Nat × Nat × Int32 × Int32) (t : State) => match u with | (obr, oba, osp, ohe, otk, ova) => va_P (dC, dI) vwCl [(h0, .inr (11, [.ref st, .int (nI N), .int (nI B), .ref rp, .int vrs, .int vrb, .int vhs, .int vca, .int vxs, .int vxb, .ref tp, .int (nI T), .int vfa, .int obr, .int oba, .int (nI osp), .int (nI ohe), .int otk, .int ova, .ref cu, .ref lt, .ref od, .ref th, .ref be, .ref ln, .int (nI S), .ref ma, .int (nI M), .ref ah, .ref bh, .ref ik, .ref la, .ref lg, .ref ce, .int vto])), (tp, .inl (G 0, 320, .inl ftp))] t.heap ∧ va_D A [(h0, .inr (11, [.ref st, .int (nI N), .int (nI B), .ref rp, .int vrs, .int vrb, .int vhs, .int vca, .int vxs, .int vxb, .ref tp, .int (nI T), .int vfa, .int obr, .int oba, .int (nI osp), .int (nI ohe), .int otk, .int ova, .ref cu, .ref lt, .ref od, .ref th, .ref be, .ref ln, .int (nI S), .ref ma, .int (nI M), .ref ah, .ref bh, .ref ik, .ref la, .ref lg, .ref ce, .int vto])), (tp, .inl (G 0, 320, .inl ftp))]) A) ([.ref h0] : List Value).toArray s 0 0 A) (F0 m 140 ls []) := by
                              intro nf
                              induction nf with
                              | zero => intro k71 y72 h1; exact absurd h1 (Nat.not_lt_zero _)
                              | succ nf ih140_73 =>
                                intro k71 y72 hm74 hinvc H locs hP hD hS ls hl
                                refine lv_aload_n hx hb dX11_goesOn_140 rfl (lv_at hl 1 rfl) ?_
                                refine lv_aload_n hx hb dX11_goesOn_141 rfl (lv_at hl 1 rfl) ?_
                                refine va_get (D := (dC, dI)) (ci := 11) (v := .int (nI k71)) (C := RX11) (T := TX11) (N := 35) hx hb hg inG11 hown hK.1 hP 0 rfl rfl 15 (Nat.le_of_ble_eq_true rfl) (hg _ wt_893) (fun _ h9 => h9) rfl dX11_goesOn_142 ?_
                                have hPc := hP.sub (ws' := [(h0, .inr (11, [.ref st, .int (nI N), .int (nI B), .ref rp, .int vrs, .int vrb, .int vhs, .int vca, .int vxs, .int vxb, .ref tp, .int (nI T), .int vfa, .int vbr, .int vba, .int (nI k71), .int (nI k3), .int vtk, .int y72, .ref cu, .ref lt, .ref od, .ref th, .ref be, .ref ln, .int (nI S), .ref ma, .int (nI M), .ref ah, .ref bh, .ref ik, .ref la, .ref lg, .ref ce, .int vto])), (tp, .inl (G 0, 320, .inl ftp))]) [0, 1] rfl
                                have tn1278_ : nIT k71 := fun _ => nI_toInt (by first | omega | (have t_c1 := leI c1; have t_hinva := hinva; have t_w71 := w71; have t_c8 := neI c8; have t_w101 := w101; have t_c11 := neI c11; have t_b15 := b15; have t_b25 := b25; have t_w271 := w271; have t_c30 := neI c30; have t_n67 := n67; have t_w691 := w691; have t_hinvc := hinvc; have tqz_ := qz29_; omega))
                                refine va_calli (va_runV (As := [.int (nI k71)]) (rest := []) ⟨hx, hb, hml, hown, hg⟩ (c_X11_byteAt l dC dI G _ h0 k71 st N B rp tp T cu lt od th be ln S ma M ah bh ik la lg ce vrs vrb vhs vca vxs vxb vfa vbr vba (nI k71) (nI k3) vtk y72 vto ftp hN hB_ hT_ hS0 hM_ (by first | omega | (have t_c1 := leI c1; have t_hinva := hinva; have t_w71 := w71; have t_c8 := neI c8; have t_w101 := w101; have t_c11 := neI c11; have t_b15 := b15; have t_b25 := b25; have t_w271 := w271; have t_c30 := neI c30; have t_n67 := n67; have t_w691 := w691; have t_hinvc := hinvc; have tqz_ := qz29_; have tnb_ := nib9 tn1261_ tn1262_ tn1263_ tn1266_ tn1267_ tn1264_ tn1265_ tn1268_ tn1278_; omega))) (kwV hg mfX11_byteAt wt_1003 ⟨Nat.le_of_ble_eq_true rfl, Nat.le_of_ble_eq_true rfl⟩) (preVR hK hPc (ci := 11) (r := (RX11, TX11, 35)) rfl rfl) rfl rfl hl.1 rfl (lv_room (Nat.le_of_ble_eq_true rfl)) dX11_goesOn_145 ⟨Nat.le_of_ble_eq_true rfl, Nat.le_of_ble_eq_true rfl⟩) hS (fun q h1 h2 => absurd h2 (Nat.not_le.mpr h1)) (fun q h => hA q (Nat.le_trans hS.1 h)) (fun r75 ur75 t H1 locs ht hvm w76 hB hz1 hk1 hS => ?_)
                                have hP := keepR hP hk1
                                obtain ⟨w76, w76x⟩ := w76
                                rcases w76 with ⟨w761, w762⟩ | ⟨w761, w762⟩
                                · skip
                                  refine lv_cg (y := ftp k71) w762 ?_
                                  refine lv_i2l (v := (ftp k71).toInt64) hx hb dX11_goesOn_148 rfl ?_
                                  refine lv_ldc2 (v := 48) hx hb hown (hg _ wt_1009) dX11_goesOn_149 ?_
                                  refine lv_ldc2 (v := 57) hx hb hown (hg _ wt_1010) dX11_goesOn_152 ?_
                                  have hPc := hP.sub (ws' := []) [] rfl
                                  refine va_calli (va_runS (As := [.long ((ftp k71).toInt64), .long 48, .long 57]) (rest := []) ⟨hx, hb, hml, hown, hg⟩ (c_X11_in l dC dI G _ ((ftp k71).toInt64) 48 57) (kwS hg mfX11_in wt_992 ⟨Nat.le_of_ble_eq_true rfl, Nat.le_of_ble_eq_true rfl⟩) (preSR hK hPc) rfl rfl hl.1 rfl (lv_room (Nat.le_of_ble_eq_true rfl)) dX11_goesOn_155 ⟨Nat.le_of_ble_eq_true rfl, Nat.le_of_ble_eq_true rfl⟩) hS (fun q h1 h2 => absurd h2 (Nat.not_le.mpr h1)) (fun q h => hA q (Nat.le_trans hS.1 h)) (fun r77 ur77 t H1 locs ht hvm w78 hB hz1 hk1 hS => ?_)
                                  have hP := keepR hP hk1
                                  obtain ⟨w78, w78x⟩ := w78
                                  try simp only [l_ii, show (48 : Int64).toInt = 48 from by decide, show (57 : Int64).toInt = 57 from by decide] at w78
                                  subst w78
                                  refine lv_if_eq (tgt := 217) hx hb dX11_goesOn_158 rfl (fun c79 => ?_) (fun c79 => ?_)
                                  · skip
                                    have b80 := if10_n c79
                                    refine lv_aload_n hx hb dX11_goesOn_217 rfl (lv_at hl 1 rfl) ?_
                                    refine lv_iconst (v := 2) hx hb dX11_goesOn_218 rfl ?_
                                    refine va_put (D := (dC, dI)) (ci := 11) (v := .int 2) (ty := .int) (C := RX11) (T := TX11) (N := 35) hx hb hg inG11 tyX11 tyX11_ok nmX11 hown hK.1 hP hD hS 0 rfl rfl 17 (Nat.le_of_ble_eq_true rfl) (hg _ wt_895) (fun _ h9 => h9) rfl (by decide +kernel) rfl rfl (Nat.le_of_ble_eq_true rfl) dX11_goesOn_219 (fun H locs hP hD hS => ?_)
                                    refine lv_aload_n hx hb dX11_goesOn_222 rfl (lv_at hl 1 rfl) ?_
                                    refine va_get (D := (dC, dI)) (ci := 11) (v := .int (nI k71)) (C := RX11) (T := TX11) (N := 35) hx hb hg inG11 hown hK.1 hP 0 rfl rfl 15 (Nat.le_of_ble_eq_true rfl) (hg _ wt_893) (fun _ h9 => h9) rfl dX11_goesOn_223 ?_
                                    refine lv_aload_n hx hb dX11_goesOn_226 rfl (lv_at hl 1 rfl) ?_
                                    refine va_get (D := (dC, dI)) (ci := 11) (v := .int (nI k3)) (C := RX11) (T := TX11) (N := 35) hx hb hg inG11 hown hK.1 hP 0 rfl rfl 16 (Nat.le_of_ble_eq_true rfl) (hg _ wt_894) (fun _ h9 => h9) rfl dX11_goesOn_227 ?_
                                    refine lv_isub hx hb dX11_goesOn_230 ?_
                                    refine lv_cg (y := nI (k71 - k3)) (by exact pk_sub (by have t_c1 := leI c1; have t_hinva := hinva; have t_w71 := w71; have t_c8 := neI c8; have t_w101 := w101; have t_c11 := neI c11; have t_b15 := b15; have t_b25 := b25; have t_w271 := w271; have t_c30 := neI c30; have t_n67 := n67; have t_w691 := w691; have t_hinvc := hinvc; have t_w761 := w761; have t_b80 := b80; have tqz_ := qz29_; have tnb_ := nib9 tn1261_ tn1262_ tn1263_ tn1266_ tn1267_ tn1264_ tn1265_ tn1268_ tn1278_; omega)) ?_
                                    refine lv_iconst (v := 2) hx hb dX11_goesOn_231 rfl ?_
                                    refine lv_icmp_le (tgt := 269) hx hb dX11_goesOn_232 rfl (fun c81 => ?_) (fun c81 => ?_)
                                    · skip
                                      have tn1279_ : nIT (k71 - k3) := fun _ => nI_toInt (by first | omega | (have t := leI c81; omega))
                                      have n82 : (k71 - k3) ≤ 2 := by have t := leI c81; rw [show (nI (k71 - k3)).toInt = ((k71 - k3 : Nat) : Int) from tn1279_ ()] at t; have : (2 : Int32).toInt = 2 := qI_2; omega
                                      obtain ⟨hP9, hD9⟩ := va_sub2 (ws' := [(h0, .inr (11, [.ref st, .int (nI N), .int (nI B), .ref rp, .int vrs, .int vrb, .int vhs, .int vca, .int vxs, .int vxb, .ref tp, .int (nI T), .int vfa, .int vbr, .int vba, .int (nI k71), .int (nI k3), .int 2, .int y72, .ref cu, .ref lt, .ref od, .ref th, .ref be, .ref ln, .int (nI S), .ref ma, .int (nI M), .ref ah, .ref bh, .ref ik, .ref la, .ref lg, .ref ce, .int vto])), (tp, .inl (G 0, 320, .inl ftp))]) hP hD [0, 1] (by decide) rfl
                                      refine W.widen (k := 0) (n := 0) (Nat.le_of_ble_eq_true rfl) (Nat.le_of_ble_eq_true rfl) ?_
                                      exact W.vret hx hb hr (fun t ht hW => ⟨⟨(vbr, vba, k71, k3, 2, y72), rfl, (by have t_c1 := leI c1; have t_hinva := hinva; have t_w71 := w71; have t_c8 := neI c8; have t_w101 := w101; have t_c11 := neI c11; have t_b15 := b15; have t_b25 := b25; have t_w271 := w271; have t_c30 := neI c30; have t_n67 := n67; have t_w691 := w691; have t_hinvc := hinvc; have t_w761 := w761; have t_b80 := b80; have t_n82 := n82; have tqz_ := qz29_; have tnb_ := nib9 tn1261_ tn1262_ tn1263_ tn1266_ tn1267_ tn1264_ tn1265_ tn1268_ tn1278_; have tqz_ := qz41_; have hb8 := htb k3; first | (exfalso; omega) | skip; refine ⟨by omega, ?_, by omega, by omega, by omega, ?_, ?_⟩; (first | exact Or.inr rfl | exact Or.inl (by omega)); omega; (have ea : pst ftp T 32 32 nsp = k3 := hinva.2.2.symm.trans (pst_out (by omega)); unfold gOn; rw [if_neg (by omega), ea]; unfold gOn1; rw [if_neg (by omega), if_neg (by omega), if_pos (by omega), hinvc.2.2.1.symm.trans (pst_out (by omega)), hinvc.2.2.2]; first | rw [if_pos (by omega)] | rw [if_neg (by omega)])), ⟨by rw [ht]; exact hP9, hD9⟩⟩, hS.F ht⟩) hS.2.2 dX11_goesOn_269
                                    · skip
                                      have tn1280_ : nIT (k71 - k3) := fun _ => nI_toInt (by first | omega | (have t := nleI c81; omega))
                                      have n83 : 2 < (k71 - k3) := by have t := nleI c81; rw [show (nI (k71 - k3)).toInt = ((k71 - k3 : Nat) : Int) from tn1280_ ()] at t; have : (2 : Int32).toInt = 2 := qI_2; omega
                                      refine lv_aload_n hx hb dX11_goesOn_235 rfl (lv_at hl 1 rfl) ?_
                                      refine lv_iconst (v := 1) hx hb dX11_goesOn_236 rfl ?_
                                      obtain ⟨hPc, hDc, hFc⟩ := va_sub3 (ws' := [(h0, .inr (11, [.ref st, .int (nI N), .int (nI B), .ref rp, .int vrs, .int vrb, .int vhs, .int vca, .int vxs, .int vxb, .ref tp, .int (nI T), .int vfa, .int vbr, .int vba, .int (nI k71), .int (nI k3), .int 2, .int y72, .ref cu, .ref lt, .ref od, .ref th, .ref be, .ref ln, .int (nI S), .ref ma, .int (nI M), .ref ah, .ref bh, .ref ik, .ref la, .ref lg, .ref ce, .int vto]))]) hP hD hS hA [0] (by decide) rfl
                                      refine va_callv (va_runV (As := [.int 1]) (rest := []) ⟨hx, hb, hml, hown, hg⟩ (c_X11_failsE l dC dI G _ h0 st N B rp tp T k3 cu lt od th be ln S ma M ah bh ik la lg ce 1 vrs vrb vhs vca vxs vxb vfa vbr vba (nI k71) 2 y72 vto hN hB_ hT_ hS0 hM_ (by have t_c1 := leI c1; have t_hinva := hinva; have t_w71 := w71; have t_c8 := neI c8; have t_w101 := w101; have t_c11 := neI c11; have t_b15 := b15; have t_b25 := b25; have t_w271 := w271; have t_c30 := neI c30; have t_n67 := n67; have t_w691 := w691; have t_hinvc := hinvc; have t_w761 := w761; have t_b80 := b80; have t_n83 := n83; have tqz_ := qz29_; have tnb_ := nib9 tn1261_ tn1262_ tn1263_ tn1266_ tn1267_ tn1264_ tn1265_ tn1268_ tn1278_; have : (1 : Int32).toInt = 1 := qI_1; omega) hbr (by first | omega | (have t_c1 := leI c1; have t_hinva := hinva; have t_w71 := w71; have t_c8 := neI c8; have t_w101 := w101; have t_c11 := neI c11; have t_b15 := b15; have t_b25 := b25; have t_w271 := w271; have t_c30 := neI c30; have t_n67 := n67; have t_w691 := w691; have t_hinvc := hinvc; have t_w761 := w761; have t_b80 := b80; have t_n83 := n83; have tqz_ := qz29_; have tnb_ := nib9 tn1261_ tn1262_ tn1263_ tn1266_ tn1267_ tn1264_ tn1265_ tn1268_ tn1278_; have : (1 : Int32).toInt = 1 := qI_1; omega))) (kwV hg mfX11_fails wt_1011 ⟨Nat.le_of_ble_eq_true rfl, Nat.le_of_ble_eq_true rfl⟩) (preVW hK hPc hDc (ci := 11) (r := (RX11, TX11, 35)) rfl rfl) rfl rfl hl.1 rfl (lv_room (Nat.le_of_ble_eq_true rfl)) dX11_goesOn_237 ⟨Nat.le_of_ble_eq_true rfl, Nat.le_of_ble_eq_true rfl⟩) hS (fun q _ h => hFc q h) hFc (fun ur84 t H1 locs ht hvm w85 hB hz1 hk1 hS => ?_)
                                      obtain ⟨u86, u87⟩ := ur84
                                      obtain ⟨hP1, hD1⟩ := hB
                                      rw [ht] at hP1
                                      obtain ⟨hP, hD⟩ := va_join (wr := [(tp, .inl (G 0, 320, .inl ftp))]) (w1 := [(h0, .inr (11, [.ref st, .int (nI N), .int (nI B), .ref rp, .int vrs, .int vrb, .int vhs, .int vca, .int vxs, .int vxb, .ref tp, .int (nI T), .int vfa, .int u86, .int u87, .int (nI k71), .int (nI k3), .int 2, .int y72, .ref cu, .ref lt, .ref od, .ref th, .ref be, .ref ln, .int (nI S), .ref ma, .int (nI M), .ref ah, .ref bh, .ref ik, .ref la, .ref lg, .ref ce, .int vto]))]) hP hD [0] [1] rfl rfl (by decide) (by decide) hk1 hFc hP1 hD1
                                      have w85 : 0 < u86.toInt ∧ u86 = flB (1 : Int32) vbr ∧ u87 = flA vbr vba k3 := w85
                                      generalize H1 = H at hP hS ⊢
                                      refine lv_goto (tgt := 269) hx hb dX11_goesOn_240 rfl ?_
                                      obtain ⟨hP9, hD9⟩ := va_sub2 (ws' := [(h0, .inr (11, [.ref st, .int (nI N), .int (nI B), .ref rp, .int vrs, .int vrb, .int vhs, .int vca, .int vxs, .int vxb, .ref tp, .int (nI T), .int vfa, .int u86, .int u87, .int (nI k71), .int (nI k3), .int 2, .int y72, .ref cu, .ref lt, .ref od, .ref th, .ref be, .ref ln, .int (nI S), .ref ma, .int (nI M), .ref ah, .ref bh, .ref ik, .ref la, .ref lg, .ref ce, .int vto])), (tp, .inl (G 0, 320, .inl ftp))]) hP hD [1, 0] (by decide) rfl
                                      refine W.widen (k := 0) (n := 0) (Nat.le_of_ble_eq_true rfl) (Nat.le_of_ble_eq_true rfl) ?_
                                      exact W.vret hx hb hr (fun t ht hW => ⟨⟨(u86, u87, k71, k3, 2, y72), rfl, (by have t_c1 := leI c1; have t_hinva := hinva; have t_w71 := w71; have t_c8 := neI c8; have t_w101 := w101; have t_c11 := neI c11; have t_b15 := b15; have t_b25 := b25; have t_w271 := w271; have t_c30 := neI c30; have t_n67 := n67; have t_w691 := w691; have t_hinvc := hinvc; have t_w761 := w761; have t_b80 := b80; have t_n83 := n83; have t_w85 := w85.1; have tqz_ := qz29_; have tnb_ := nib9 tn1261_ tn1262_ tn1263_ tn1266_ tn1267_ tn1264_ tn1265_ tn1268_ tn1278_; have tqz_ := qz41_; have hb8 := htb k3; first | (exfalso; omega) | skip; refine ⟨by omega, ?_, by omega, by omega, by omega, ?_, ?_⟩; (first | exact Or.inr rfl | exact Or.inl (by omega)); omega; (have ea : pst ftp T 32 32 nsp = k3 := hinva.2.2.symm.trans (pst_out (by omega)); unfold gOn; rw [if_neg (by omega), ea]; unfold gOn1; have q1 := w85.2.1; have q2 := w85.2.2; rw [q1, q2]; rw [if_neg (by omega), if_neg (by omega), if_pos (by omega), hinvc.2.2.1.symm.trans (pst_out (by omega)), hinvc.2.2.2]; first | rw [if_pos (by omega)] | rw [if_neg (by omega)])), ⟨by rw [ht]; exact hP9, hD9⟩⟩, hS.F ht⟩) hS.2.2 dX11_goesOn_269
                                  · skip
                                    have b88 := if10_p c79
                                    refine lv_aload_n hx hb dX11_goesOn_161 rfl (lv_at hl 1 rfl) ?_
                                    refine lv_aload_n hx hb dX11_goesOn_162 rfl (lv_at hl 1 rfl) ?_
                                    refine va_get (D := (dC, dI)) (ci := 11) (v := .int (nI k71)) (C := RX11) (T := TX11) (N := 35) hx hb hg inG11 hown hK.1 hP 0 rfl rfl 15 (Nat.le_of_ble_eq_true rfl) (hg _ wt_893) (fun _ h9 => h9) rfl dX11_goesOn_163 ?_
                                    refine lv_aload_n hx hb dX11_goesOn_166 rfl (lv_at hl 1 rfl) ?_
                                    refine va_get (D := (dC, dI)) (ci := 11) (v := .int (nI k3)) (C := RX11) (T := TX11) (N := 35) hx hb hg inG11 hown hK.1 hP 0 rfl rfl 16 (Nat.le_of_ble_eq_true rfl) (hg _ wt_894) (fun _ h9 => h9) rfl dX11_goesOn_167 ?_
                                    refine lv_isub hx hb dX11_goesOn_170 ?_
                                    refine lv_cg (y := nI (k71 - k3)) (by exact pk_sub (by have t_c1 := leI c1; have t_hinva := hinva; have t_w71 := w71; have t_c8 := neI c8; have t_w101 := w101; have t_c11 := neI c11; have t_b15 := b15; have t_b25 := b25; have t_w271 := w271; have t_c30 := neI c30; have t_n67 := n67; have t_w691 := w691; have t_hinvc := hinvc; have t_w761 := w761; have t_b88 := b88; have tqz_ := qz29_; have tnb_ := nib9 tn1261_ tn1262_ tn1263_ tn1266_ tn1267_ tn1264_ tn1265_ tn1268_ tn1278_; omega)) ?_
                                    refine lv_iconst (v := 2) hx hb dX11_goesOn_171 rfl ?_
                                    refine lv_icmp_ge (tgt := 197) hx hb dX11_goesOn_172 rfl (fun c89 => ?_) (fun c89 => ?_)
                                    · skip
                                      have tn1281_ : nIT (k71 - k3) := fun _ => nI_toInt (by first | omega | (have t := leI c89; omega))
                                      have n90 : 2 ≤ (k71 - k3) := by have t := leI c89; rw [show (nI (k71 - k3)).toInt = ((k71 - k3 : Nat) : Int) from tn1281_ ()] at t; have : (2 : Int32).toInt = 2 := qI_2; omega
                                      refine lv_aload_n hx hb dX11_goesOn_197 rfl (lv_at hl 1 rfl) ?_
                                      refine va_get (D := (dC, dI)) (ci := 11) (v := .int y72) (C := RX11) (T := TX11) (N := 35) hx hb hg inG11 hown hK.1 hP 0 rfl rfl 18 (Nat.le_of_ble_eq_true rfl) (hg _ wt_896) (fun _ h9 => h9) rfl dX11_goesOn_198 ?_
                                      refine va_put (D := (dC, dI)) (ci := 11) (v := .int y72) (ty := .int) (C := RX11) (T := TX11) (N := 35) hx hb hg inG11 tyX11 tyX11_ok nmX11 hown hK.1 hP hD hS 0 rfl rfl 18 (Nat.le_of_ble_eq_true rfl) (hg _ wt_896) (fun _ h9 => h9) rfl (by decide +kernel) rfl rfl (Nat.le_of_ble_eq_true rfl) dX11_goesOn_201 (fun H locs hP hD hS => ?_)
                                      refine lv_aload_n hx hb dX11_goesOn_204 rfl (lv_at hl 1 rfl) ?_
                                      refine lv_dup hx hb dX11_goesOn_205 rfl ?_
                                      refine va_get (D := (dC, dI)) (ci := 11) (v := .int (nI k71)) (C := RX11) (T := TX11) (N := 35) hx hb hg inG11 hown hK.1 hP 0 rfl rfl 15 (Nat.le_of_ble_eq_true rfl) (hg _ wt_893) (fun _ h9 => h9) rfl dX11_goesOn_206 ?_
                                      refine lv_iconst (v := 1) hx hb dX11_goesOn_209 rfl ?_
                                      refine lv_iadd hx hb dX11_goesOn_210 ?_
                                      refine lv_cg (y := nI (k71 + 1)) (by rw [show (1 : Int32) = nI 1 from rfl]; exact nI_add _ _) ?_
                                      refine va_put (D := (dC, dI)) (ci := 11) (v := .int (nI (k71 + 1))) (ty := .int) (C := RX11) (T := TX11) (N := 35) hx hb hg inG11 tyX11 tyX11_ok nmX11 hown hK.1 hP hD hS 0 rfl rfl 15 (Nat.le_of_ble_eq_true rfl) (hg _ wt_893) (fun _ h9 => h9) rfl (by decide +kernel) rfl rfl (Nat.le_of_ble_eq_true rfl) dX11_goesOn_211 (fun H locs hP hD hS => ?_)
                                      refine lv_goto (tgt := 140) hx hb dX11_goesOn_214 rfl ?_
                                      exact ih140_73 (k71 + 1) y72 (by have t_c1 := leI c1; have t_hinva := hinva; have t_w71 := w71; have t_c8 := neI c8; have t_w101 := w101; have t_c11 := neI c11; have t_b15 := b15; have t_b25 := b25; have t_w271 := w271; have t_c30 := neI c30; have t_n67 := n67; have t_w691 := w691; have t_hinvc := hinvc; have t_w761 := w761; have t_b88 := b88; have t_n90 := n90; have tqz_ := qz29_; have tnb_ := nib9 tn1261_ tn1262_ tn1263_ tn1266_ tn1267_ tn1264_ tn1265_ tn1268_ tn1278_; omega) ⟨(by have t_c1 := leI c1; have t_hinva := hinva; have t_w71 := w71; have t_c8 := neI c8; have t_w101 := w101; have t_c11 := neI c11; have t_b15 := b15; have t_b25 := b25; have t_w271 := w271; have t_c30 := neI c30; have t_n67 := n67; have t_w691 := w691; have t_hinvc := hinvc; have t_w761 := w761; have t_b88 := b88; have t_n90 := n90; have tqz_ := qz29_; have tnb_ := nib9 tn1261_ tn1262_ tn1263_ tn1266_ tn1267_ tn1264_ tn1265_ tn1268_ tn1278_; have tqz_ := qz41_; omega), (by have t_c1 := leI c1; have t_hinva := hinva; have t_w71 := w71; have t_c8 := neI c8; have t_w101 := w101; have t_c11 := neI c11; have t_b15 := b15; have t_b25 := b25; have t_w271 := w271; have t_c30 := neI c30; have t_n67 := n67; have t_w691 := w691; have t_hinvc := hinvc; have t_w761 := w761; have t_b88 := b88; have t_n90 := n90; have tqz_ := qz29_; have tnb_ := nib9 tn1261_ tn1262_ tn1263_ tn1266_ tn1267_ tn1264_ tn1265_ tn1268_ tn1278_; have tqz_ := qz41_; omega), (pst_in (p := k71) (by have t_c1 := leI c1; have t_hinva := hinva; have t_w71 := w71; have t_c8 := neI c8; have t_w101 := w101; have t_c11 := neI c11; have t_b15 := b15; have t_b25 := b25; have t_w271 := w271; have t_c30 := neI c30; have t_n67 := n67; have t_w691 := w691; have t_hinvc := hinvc; have t_w761 := w761; have t_b88 := b88; have t_n90 := n90; have tqz_ := qz29_; have tnb_ := nib9 tn1261_ tn1262_ tn1263_ tn1266_ tn1267_ tn1264_ tn1265_ tn1268_ tn1278_; have tqz_ := qz41_; omega) (by have t_c1 := leI c1; have t_hinva := hinva; have t_w71 := w71; have t_c8 := neI c8; have t_w101 := w101; have t_c11 := neI c11; have t_b15 := b15; have t_b25 := b25; have t_w271 := w271; have t_c30 := neI c30; have t_n67 := n67; have t_w691 := w691; have t_hinvc := hinvc; have t_w761 := w761; have t_b88 := b88; have t_n90 := n90; have tqz_ := qz29_; have tnb_ := nib9 tn1261_ tn1262_ tn1263_ tn1266_ tn1267_ tn1264_ tn1265_ tn1268_ tn1278_; have tqz_ := qz41_; omega) (by have t_c1 := leI c1; have t_hinva := hinva; have t_w71 := w71; have t_c8 := neI c8; have t_w101 := w101; have t_c11 := neI c11; have t_b15 := b15; have t_b25 := b25; have t_w271 := w271; have t_c30 := neI c30; have t_n67 := n67; have t_w691 := w691; have t_hinvc := hinvc; have t_w761 := w761; have t_b88 := b88; have t_n90 := n90; have tqz_ := qz29_; have tnb_ := nib9 tn1261_ tn1262_ tn1263_ tn1266_ tn1267_ tn1264_ tn1265_ tn1268_ tn1278_; have tqz_ := qz41_; omega)).symm.trans hinvc.2.2.1, (by have t_c1 := leI c1; have t_hinva := hinva; have t_w71 := w71; have t_c8 := neI c8; have t_w101 := w101; have t_c11 := neI c11; have t_b15 := b15; have t_b25 := b25; have t_w271 := w271; have t_c30 := neI c30; have t_n67 := n67; have t_w691 := w691; have t_hinvc := hinvc; have t_w761 := w761; have t_b88 := b88; have t_n90 := n90; have tqz_ := qz29_; have tnb_ := nib9 tn1261_ tn1262_ tn1263_ tn1266_ tn1267_ tn1264_ tn1265_ tn1268_ tn1278_; rw [show (k71 + 1) - k3 = (k71 - k3) + 1 by omega]; show _ = (if k71 - k3 < 2 then 10 * vlS ftp k3 (k71 - k3) + ftp (k3 + (k71 - k3)) - 48 else vlS ftp k3 (k71 - k3)); rw [show k3 + (k71 - k3) = k71 by omega]; first | (exfalso; omega) | (rw [if_pos (by omega), ← hinvc.2.2.2]) | (rw [if_neg (by omega)]; exact hinvc.2.2.2))⟩ _ _ hP hD hS ls (lv_sub hl [0, 1] rfl)
                                    · skip
                                      have tn1282_ : nIT (k71 - k3) := fun _ => nI_toInt (by first | omega | (have t := nleI c89; omega))
                                      have n91 : (k71 - k3) < 2 := by have t := nleI c89; rw [show (nI (k71 - k3)).toInt = ((k71 - k3 : Nat) : Int) from tn1282_ ()] at t; have : (2 : Int32).toInt = 2 := qI_2; omega
                                      refine lv_bipush (v := 10) hx hb dX11_goesOn_175 rfl ?_
                                      refine lv_aload_n hx hb dX11_goesOn_177 rfl (lv_at hl 1 rfl) ?_
                                      refine va_get (D := (dC, dI)) (ci := 11) (v := .int y72) (C := RX11) (T := TX11) (N := 35) hx hb hg inG11 hown hK.1 hP 0 rfl rfl 18 (Nat.le_of_ble_eq_true rfl) (hg _ wt_896) (fun _ h9 => h9) rfl dX11_goesOn_178 ?_
                                      refine lv_imul hx hb dX11_goesOn_181 ?_
                                      refine lv_aload_n hx hb dX11_goesOn_182 rfl (lv_at hl 1 rfl) ?_
                                      refine lv_aload_n hx hb dX11_goesOn_183 rfl (lv_at hl 1 rfl) ?_
                                      refine va_get (D := (dC, dI)) (ci := 11) (v := .int (nI k71)) (C := RX11) (T := TX11) (N := 35) hx hb hg inG11 hown hK.1 hP 0 rfl rfl 15 (Nat.le_of_ble_eq_true rfl) (hg _ wt_893) (fun _ h9 => h9) rfl dX11_goesOn_184 ?_
                                      have hPc := hP.sub (ws' := [(h0, .inr (11, [.ref st, .int (nI N), .int (nI B), .ref rp, .int vrs, .int vrb, .int vhs, .int vca, .int vxs, .int vxb, .ref tp, .int (nI T), .int vfa, .int vbr, .int vba, .int (nI k71), .int (nI k3), .int vtk, .int y72, .ref cu, .ref lt, .ref od, .ref th, .ref be, .ref ln, .int (nI S), .ref ma, .int (nI M), .ref ah, .ref bh, .ref ik, .ref la, .ref lg, .ref ce, .int vto])), (tp, .inl (G 0, 320, .inl ftp))]) [0, 1] rfl
                                      refine va_calli (va_runV (As := [.int (nI k71)]) (rest := [.int (10 * y72), .ref h0]) ⟨hx, hb, hml, hown, hg⟩ (c_X11_byteAt l dC dI G _ h0 k71 st N B rp tp T cu lt od th be ln S ma M ah bh ik la lg ce vrs vrb vhs vca vxs vxb vfa vbr vba (nI k71) (nI k3) vtk y72 vto ftp hN hB_ hT_ hS0 hM_ (by first | omega | (have t_c1 := leI c1; have t_hinva := hinva; have t_w71 := w71; have t_c8 := neI c8; have t_w101 := w101; have t_c11 := neI c11; have t_b15 := b15; have t_b25 := b25; have t_w271 := w271; have t_c30 := neI c30; have t_n67 := n67; have t_w691 := w691; have t_hinvc := hinvc; have t_w761 := w761; have t_b88 := b88; have t_n91 := n91; have tqz_ := qz29_; have tnb_ := nib9 tn1261_ tn1262_ tn1263_ tn1266_ tn1267_ tn1264_ tn1265_ tn1268_ tn1278_; omega))) (kwV hg mfX11_byteAt wt_1003 ⟨Nat.le_of_ble_eq_true rfl, Nat.le_of_ble_eq_true rfl⟩) (preVR hK hPc (ci := 11) (r := (RX11, TX11, 35)) rfl rfl) rfl rfl hl.1 rfl (lv_room (Nat.le_of_ble_eq_true rfl)) dX11_goesOn_187 ⟨Nat.le_of_ble_eq_true rfl, Nat.le_of_ble_eq_true rfl⟩) hS (fun q h1 h2 => absurd h2 (Nat.not_le.mpr h1)) (fun q h => hA q (Nat.le_trans hS.1 h)) (fun r92 ur92 t H1 locs ht hvm w93 hB hz1 hk1 hS => ?_)
                                      have hP := keepR hP hk1
                                      obtain ⟨w93, w93x⟩ := w93
                                      rcases w93 with ⟨w931, w932⟩ | ⟨w931, w932⟩
                                      · skip
                                        refine lv_cg (y := ftp k71) w932 ?_
                                        refine lv_iadd hx hb dX11_goesOn_190 ?_
                                        refine lv_bipush (v := 48) hx hb dX11_goesOn_191 rfl ?_
                                        refine lv_isub hx hb dX11_goesOn_193 ?_
                                        refine lv_goto (tgt := 201) hx hb dX11_goesOn_194 rfl ?_
                                        refine va_put (D := (dC, dI)) (ci := 11) (v := .int (((10 * y72) + (ftp k71)) - 48)) (ty := .int) (C := RX11) (T := TX11) (N := 35) hx hb hg inG11 tyX11 tyX11_ok nmX11 hown hK.1 hP hD hS 0 rfl rfl 18 (Nat.le_of_ble_eq_true rfl) (hg _ wt_896) (fun _ h9 => h9) rfl (by decide +kernel) rfl rfl (Nat.le_of_ble_eq_true rfl) dX11_goesOn_201 (fun H locs hP hD hS => ?_)
                                        refine lv_aload_n hx hb dX11_goesOn_204 rfl (lv_at hl 1 rfl) ?_
                                        refine lv_dup hx hb dX11_goesOn_205 rfl ?_
                                        refine va_get (D := (dC, dI)) (ci := 11) (v := .int (nI k71)) (C := RX11) (T := TX11) (N := 35) hx hb hg inG11 hown hK.1 hP 0 rfl rfl 15 (Nat.le_of_ble_eq_true rfl) (hg _ wt_893) (fun _ h9 => h9) rfl dX11_goesOn_206 ?_
                                        refine lv_iconst (v := 1) hx hb dX11_goesOn_209 rfl ?_
                                        refine lv_iadd hx hb dX11_goesOn_210 ?_
                                        refine lv_cg (y := nI (k71 + 1)) (by rw [show (1 : Int32) = nI 1 from rfl]; exact nI_add _ _) ?_
                                        refine va_put (D := (dC, dI)) (ci := 11) (v := .int (nI (k71 + 1))) (ty := .int) (C := RX11) (T := TX11) (N := 35) hx hb hg inG11 tyX11 tyX11_ok nmX11 hown hK.1 hP hD hS 0 rfl rfl 15 (Nat.le_of_ble_eq_true rfl) (hg _ wt_893) (fun _ h9 => h9) rfl (by decide +kernel) rfl rfl (Nat.le_of_ble_eq_true rfl) dX11_goesOn_211 (fun H locs hP hD hS => ?_)
                                        refine lv_goto (tgt := 140) hx hb dX11_goesOn_214 rfl ?_
                                        exact ih140_73 (k71 + 1) (((10 * y72) + (ftp k71)) - 48) (by have t_c1 := leI c1; have t_hinva := hinva; have t_w71 := w71; have t_c8 := neI c8; have t_w101 := w101; have t_c11 := neI c11; have t_b15 := b15; have t_b25 := b25; have t_w271 := w271; have t_c30 := neI c30; have t_n67 := n67; have t_w691 := w691; have t_hinvc := hinvc; have t_w761 := w761; have t_b88 := b88; have t_n91 := n91; have t_w931 := w931; have tqz_ := qz29_; have tnb_ := nib9 tn1261_ tn1262_ tn1263_ tn1266_ tn1267_ tn1264_ tn1265_ tn1268_ tn1278_; omega) ⟨(by have t_c1 := leI c1; have t_hinva := hinva; have t_w71 := w71; have t_c8 := neI c8; have t_w101 := w101; have t_c11 := neI c11; have t_b15 := b15; have t_b25 := b25; have t_w271 := w271; have t_c30 := neI c30; have t_n67 := n67; have t_w691 := w691; have t_hinvc := hinvc; have t_w761 := w761; have t_b88 := b88; have t_n91 := n91; have t_w931 := w931; have tqz_ := qz29_; have tnb_ := nib9 tn1261_ tn1262_ tn1263_ tn1266_ tn1267_ tn1264_ tn1265_ tn1268_ tn1278_; have tqz_ := qz41_; omega), (by have t_c1 := leI c1; have t_hinva := hinva; have t_w71 := w71; have t_c8 := neI c8; have t_w101 := w101; have t_c11 := neI c11; have t_b15 := b15; have t_b25 := b25; have t_w271 := w271; have t_c30 := neI c30; have t_n67 := n67; have t_w691 := w691; have t_hinvc := hinvc; have t_w761 := w761; have t_b88 := b88; have t_n91 := n91; have t_w931 := w931; have tqz_ := qz29_; have tnb_ := nib9 tn1261_ tn1262_ tn1263_ tn1266_ tn1267_ tn1264_ tn1265_ tn1268_ tn1278_; have tqz_ := qz41_; omega), (pst_in (p := k71) (by have t_c1 := leI c1; have t_hinva := hinva; have t_w71 := w71; have t_c8 := neI c8; have t_w101 := w101; have t_c11 := neI c11; have t_b15 := b15; have t_b25 := b25; have t_w271 := w271; have t_c30 := neI c30; have t_n67 := n67; have t_w691 := w691; have t_hinvc := hinvc; have t_w761 := w761; have t_b88 := b88; have t_n91 := n91; have t_w931 := w931; have tqz_ := qz29_; have tnb_ := nib9 tn1261_ tn1262_ tn1263_ tn1266_ tn1267_ tn1264_ tn1265_ tn1268_ tn1278_; have tqz_ := qz41_; omega) (by have t_c1 := leI c1; have t_hinva := hinva; have t_w71 := w71; have t_c8 := neI c8; have t_w101 := w101; have t_c11 := neI c11; have t_b15 := b15; have t_b25 := b25; have t_w271 := w271; have t_c30 := neI c30; have t_n67 := n67; have t_w691 := w691; have t_hinvc := hinvc; have t_w761 := w761; have t_b88 := b88; have t_n91 := n91; have t_w931 := w931; have tqz_ := qz29_; have tnb_ := nib9 tn1261_ tn1262_ tn1263_ tn1266_ tn1267_ tn1264_ tn1265_ tn1268_ tn1278_; have tqz_ := qz41_; omega) (by have t_c1 := leI c1; have t_hinva := hinva; have t_w71 := w71; have t_c8 := neI c8; have t_w101 := w101; have t_c11 := neI c11; have t_b15 := b15; have t_b25 := b25; have t_w271 := w271; have t_c30 := neI c30; have t_n67 := n67; have t_w691 := w691; have t_hinvc := hinvc; have t_w761 := w761; have t_b88 := b88; have t_n91 := n91; have t_w931 := w931; have tqz_ := qz29_; have tnb_ := nib9 tn1261_ tn1262_ tn1263_ tn1266_ tn1267_ tn1264_ tn1265_ tn1268_ tn1278_; have tqz_ := qz41_; omega)).symm.trans hinvc.2.2.1, (by have t_c1 := leI c1; have t_hinva := hinva; have t_w71 := w71; have t_c8 := neI c8; have t_w101 := w101; have t_c11 := neI c11; have t_b15 := b15; have t_b25 := b25; have t_w271 := w271; have t_c30 := neI c30; have t_n67 := n67; have t_w691 := w691; have t_hinvc := hinvc; have t_w761 := w761; have t_b88 := b88; have t_n91 := n91; have t_w931 := w931; have tqz_ := qz29_; have tnb_ := nib9 tn1261_ tn1262_ tn1263_ tn1266_ tn1267_ tn1264_ tn1265_ tn1268_ tn1278_; rw [show (k71 + 1) - k3 = (k71 - k3) + 1 by omega]; show _ = (if k71 - k3 < 2 then 10 * vlS ftp k3 (k71 - k3) + ftp (k3 + (k71 - k3)) - 48 else vlS ftp k3 (k71 - k3)); rw [show k3 + (k71 - k3) = k71 by omega]; first | (exfalso; omega) | (rw [if_pos (by omega), ← hinvc.2.2.2]) | (rw [if_neg (by omega)]; exact hinvc.2.2.2))⟩ _ _ hP hD hS ls (lv_sub hl [0, 1] rfl)
                                      · skip
                                        have t_c1 := leI c1
                                        have t_hinva := hinva
                                        have t_w71 := w71
                                        have t_c8 := neI c8
                                        have t_w101 := w101
                                        have t_c11 := neI c11
                                        have t_b15 := b15
                                        have t_b25 := b25
                                        have t_w271 := w271
                                        have t_c30 := neI c30
                                        have t_n67 := n67
                                        have t_w691 := w691
                                        have t_hinvc := hinvc
                                        have t_w761 := w761
                                        have t_b88 := b88
                                        have t_n91 := n91
                                        have t_w931 := w931
                                        have : ((-4) : Int32).toInt = -4 := qI_m4
                                        have : (0 : Int32).toInt = 0 := qI_0
                                        have : (1 : Int32).toInt = 1 := qI_1
                                        have : (32 : Int32).toInt = 32 := qI_32
                                        have t_n0 : (nI N).toInt = (N : Int) := tn1261_ ()
                                        have t_n1 : (nI B).toInt = (B : Int) := tn1262_ ()
                                        have t_n2 : (nI T).toInt = (T : Int) := tn1263_ ()
                                        have t_n3 : (nI nsp).toInt = (nsp : Int) := tn1266_ ()
                                        have t_n4 : (nI nhe).toInt = (nhe : Int) := tn1267_ ()
                                        have t_n5 : (nI S).toInt = (S : Int) := tn1264_ ()
                                        have t_n6 : (nI M).toInt = (M : Int) := tn1265_ ()
                                        have t_n7 : (nI k3).toInt = (k3 : Int) := tn1268_ ()
                                        have t_n8 : (nI k71).toInt = (k71 : Int) := tn1278_ ()
                                        exfalso; omega
                                · skip
                                  refine lv_cg (y := (-4)) w762 ?_
                                  refine lv_i2l (v := (-4)) hx hb dX11_goesOn_148 (by decide) ?_
                                  refine lv_ldc2 (v := 48) hx hb hown (hg _ wt_1009) dX11_goesOn_149 ?_
                                  refine lv_ldc2 (v := 57) hx hb hown (hg _ wt_1010) dX11_goesOn_152 ?_
                                  have hPc := hP.sub (ws' := []) [] rfl
                                  refine va_calli (va_runS (As := [.long (-4), .long 48, .long 57]) (rest := []) ⟨hx, hb, hml, hown, hg⟩ (c_X11_in l dC dI G _ (-4) 48 57) (kwS hg mfX11_in wt_992 ⟨Nat.le_of_ble_eq_true rfl, Nat.le_of_ble_eq_true rfl⟩) (preSR hK hPc) rfl rfl hl.1 rfl (lv_room (Nat.le_of_ble_eq_true rfl)) dX11_goesOn_155 ⟨Nat.le_of_ble_eq_true rfl, Nat.le_of_ble_eq_true rfl⟩) hS (fun q h1 h2 => absurd h2 (Nat.not_le.mpr h1)) (fun q h => hA q (Nat.le_trans hS.1 h)) (fun r94 ur94 t H1 locs ht hvm w95 hB hz1 hk1 hS => ?_)
                                  have hP := keepR hP hk1
                                  obtain ⟨w95, w95x⟩ := w95
                                  try simp only [l_ii, show (48 : Int64).toInt = 48 from by decide, show ((-4) : Int64).toInt = -4 from by decide, show (57 : Int64).toInt = 57 from by decide] at w95
                                  have w95 : r94 = 0 := w95.trans (if_neg (by have t_c1 := leI c1; have t_hinva := hinva; have t_w71 := w71; have t_c8 := neI c8; have t_w101 := w101; have t_c11 := neI c11; have t_b15 := b15; have t_b25 := b25; have t_w271 := w271; have t_c30 := neI c30; have t_n67 := n67; have t_w691 := w691; have t_hinvc := hinvc; have t_w761 := w761; have tqz_ := qz29_; have tnb_ := nib9 tn1261_ tn1262_ tn1263_ tn1266_ tn1267_ tn1264_ tn1265_ tn1268_ tn1278_; omega))
                                  subst w95
                                  refine lv_if_eq (tgt := 217) hx hb dX11_goesOn_158 rfl (fun c96 => ?_) (fun c96 => ?_)
                                  · skip
                                    refine lv_aload_n hx hb dX11_goesOn_217 rfl (lv_at hl 1 rfl) ?_
                                    refine lv_iconst (v := 2) hx hb dX11_goesOn_218 rfl ?_
                                    refine va_put (D := (dC, dI)) (ci := 11) (v := .int 2) (ty := .int) (C := RX11) (T := TX11) (N := 35) hx hb hg inG11 tyX11 tyX11_ok nmX11 hown hK.1 hP hD hS 0 rfl rfl 17 (Nat.le_of_ble_eq_true rfl) (hg _ wt_895) (fun _ h9 => h9) rfl (by decide +kernel) rfl rfl (Nat.le_of_ble_eq_true rfl) dX11_goesOn_219 (fun H locs hP hD hS => ?_)
                                    refine lv_aload_n hx hb dX11_goesOn_222 rfl (lv_at hl 1 rfl) ?_
                                    refine va_get (D := (dC, dI)) (ci := 11) (v := .int (nI k71)) (C := RX11) (T := TX11) (N := 35) hx hb hg inG11 hown hK.1 hP 0 rfl rfl 15 (Nat.le_of_ble_eq_true rfl) (hg _ wt_893) (fun _ h9 => h9) rfl dX11_goesOn_223 ?_
                                    refine lv_aload_n hx hb dX11_goesOn_226 rfl (lv_at hl 1 rfl) ?_
                                    refine va_get (D := (dC, dI)) (ci := 11) (v := .int (nI k3)) (C := RX11) (T := TX11) (N := 35) hx hb hg inG11 hown hK.1 hP 0 rfl rfl 16 (Nat.le_of_ble_eq_true rfl) (hg _ wt_894) (fun _ h9 => h9) rfl dX11_goesOn_227 ?_
                                    refine lv_isub hx hb dX11_goesOn_230 ?_
                                    refine lv_cg (y := nI (k71 - k3)) (by exact pk_sub (by have t_c1 := leI c1; have t_hinva := hinva; have t_w71 := w71; have t_c8 := neI c8; have t_w101 := w101; have t_c11 := neI c11; have t_b15 := b15; have t_b25 := b25; have t_w271 := w271; have t_c30 := neI c30; have t_n67 := n67; have t_w691 := w691; have t_hinvc := hinvc; have t_w761 := w761; have t_c96 := eqI c96; have tqz_ := qz29_; have tnb_ := nib9 tn1261_ tn1262_ tn1263_ tn1266_ tn1267_ tn1264_ tn1265_ tn1268_ tn1278_; omega)) ?_
                                    refine lv_iconst (v := 2) hx hb dX11_goesOn_231 rfl ?_
                                    refine lv_icmp_le (tgt := 269) hx hb dX11_goesOn_232 rfl (fun c97 => ?_) (fun c97 => ?_)
                                    · skip
                                      have tn1283_ : nIT (k71 - k3) := fun _ => nI_toInt (by first | omega | (have t := leI c97; omega))
                                      have n98 : (k71 - k3) ≤ 2 := by have t := leI c97; rw [show (nI (k71 - k3)).toInt = ((k71 - k3 : Nat) : Int) from tn1283_ ()] at t; have : (2 : Int32).toInt = 2 := qI_2; omega
                                      obtain ⟨hP9, hD9⟩ := va_sub2 (ws' := [(h0, .inr (11, [.ref st, .int (nI N), .int (nI B), .ref rp, .int vrs, .int vrb, .int vhs, .int vca, .int vxs, .int vxb, .ref tp, .int (nI T), .int vfa, .int vbr, .int vba, .int (nI k71), .int (nI k3), .int 2, .int y72, .ref cu, .ref lt, .ref od, .ref th, .ref be, .ref ln, .int (nI S), .ref ma, .int (nI M), .ref ah, .ref bh, .ref ik, .ref la, .ref lg, .ref ce, .int vto])), (tp, .inl (G 0, 320, .inl ftp))]) hP hD [0, 1] (by decide) rfl
                                      refine W.widen (k := 0) (n := 0) (Nat.le_of_ble_eq_true rfl) (Nat.le_of_ble_eq_true rfl) ?_
                                      exact W.vret hx hb hr (fun t ht hW => ⟨⟨(vbr, vba, k71, k3, 2, y72), rfl, (by have t_c1 := leI c1; have t_hinva := hinva; have t_w71 := w71; have t_c8 := neI c8; have t_w101 := w101; have t_c11 := neI c11; have t_b15 := b15; have t_b25 := b25; have t_w271 := w271; have t_c30 := neI c30; have t_n67 := n67; have t_w691 := w691; have t_hinvc := hinvc; have t_w761 := w761; have t_c96 := eqI c96; have t_n98 := n98; have tqz_ := qz29_; have tnb_ := nib9 tn1261_ tn1262_ tn1263_ tn1266_ tn1267_ tn1264_ tn1265_ tn1268_ tn1278_; have tqz_ := qz41_; have hb8 := htb k3; first | (exfalso; omega) | skip; refine ⟨by omega, ?_, by omega, by omega, by omega, ?_, ?_⟩; (first | exact Or.inr rfl | exact Or.inl (by omega)); omega; (have ea : pst ftp T 32 32 nsp = k3 := hinva.2.2.symm.trans (pst_out (by omega)); unfold gOn; rw [if_neg (by omega), ea]; unfold gOn1; rw [if_neg (by omega), if_neg (by omega), if_pos (by omega), hinvc.2.2.1.symm.trans (pst_out (by omega)), hinvc.2.2.2]; first | rw [if_pos (by omega)] | rw [if_neg (by omega)])), ⟨by rw [ht]; exact hP9, hD9⟩⟩, hS.F ht⟩) hS.2.2 dX11_goesOn_269
                                    · skip
                                      have tn1284_ : nIT (k71 - k3) := fun _ => nI_toInt (by first | omega | (have t := nleI c97; omega))
                                      have n99 : 2 < (k71 - k3) := by have t := nleI c97; rw [show (nI (k71 - k3)).toInt = ((k71 - k3 : Nat) : Int) from tn1284_ ()] at t; have : (2 : Int32).toInt = 2 := qI_2; omega
                                      refine lv_aload_n hx hb dX11_goesOn_235 rfl (lv_at hl 1 rfl) ?_
                                      refine lv_iconst (v := 1) hx hb dX11_goesOn_236 rfl ?_
                                      obtain ⟨hPc, hDc, hFc⟩ := va_sub3 (ws' := [(h0, .inr (11, [.ref st, .int (nI N), .int (nI B), .ref rp, .int vrs, .int vrb, .int vhs, .int vca, .int vxs, .int vxb, .ref tp, .int (nI T), .int vfa, .int vbr, .int vba, .int (nI k71), .int (nI k3), .int 2, .int y72, .ref cu, .ref lt, .ref od, .ref th, .ref be, .ref ln, .int (nI S), .ref ma, .int (nI M), .ref ah, .ref bh, .ref ik, .ref la, .ref lg, .ref ce, .int vto]))]) hP hD hS hA [0] (by decide) rfl
                                      refine va_callv (va_runV (As := [.int 1]) (rest := []) ⟨hx, hb, hml, hown, hg⟩ (c_X11_failsE l dC dI G _ h0 st N B rp tp T k3 cu lt od th be ln S ma M ah bh ik la lg ce 1 vrs vrb vhs vca vxs vxb vfa vbr vba (nI k71) 2 y72 vto hN hB_ hT_ hS0 hM_ (by have t_c1 := leI c1; have t_hinva := hinva; have t_w71 := w71; have t_c8 := neI c8; have t_w101 := w101; have t_c11 := neI c11; have t_b15 := b15; have t_b25 := b25; have t_w271 := w271; have t_c30 := neI c30; have t_n67 := n67; have t_w691 := w691; have t_hinvc := hinvc; have t_w761 := w761; have t_c96 := eqI c96; have t_n99 := n99; have tqz_ := qz29_; have tnb_ := nib9 tn1261_ tn1262_ tn1263_ tn1266_ tn1267_ tn1264_ tn1265_ tn1268_ tn1278_; have : (1 : Int32).toInt = 1 := qI_1; omega) hbr (by first | omega | (have t_c1 := leI c1; have t_hinva := hinva; have t_w71 := w71; have t_c8 := neI c8; have t_w101 := w101; have t_c11 := neI c11; have t_b15 := b15; have t_b25 := b25; have t_w271 := w271; have t_c30 := neI c30; have t_n67 := n67; have t_w691 := w691; have t_hinvc := hinvc; have t_w761 := w761; have t_c96 := eqI c96; have t_n99 := n99; have tqz_ := qz29_; have tnb_ := nib9 tn1261_ tn1262_ tn1263_ tn1266_ tn1267_ tn1264_ tn1265_ tn1268_ tn1278_; have : (1 : Int32).toInt = 1 := qI_1; omega))) (kwV hg mfX11_fails wt_1011 ⟨Nat.le_of_ble_eq_true rfl, Nat.le_of_ble_eq_true rfl⟩) (preVW hK hPc hDc (ci := 11) (r := (RX11, TX11, 35)) rfl rfl) rfl rfl hl.1 rfl (lv_room (Nat.le_of_ble_eq_true rfl)) dX11_goesOn_237 ⟨Nat.le_of_ble_eq_true rfl, Nat.le_of_ble_eq_true rfl⟩) hS (fun q _ h => hFc q h) hFc (fun ur100 t H1 locs ht hvm w101 hB hz1 hk1 hS => ?_)
                                      obtain ⟨u102, u103⟩ := ur100
                                      obtain ⟨hP1, hD1⟩ := hB
                                      rw [ht] at hP1
                                      obtain ⟨hP, hD⟩ := va_join (wr := [(tp, .inl (G 0, 320, .inl ftp))]) (w1 := [(h0, .inr (11, [.ref st, .int (nI N), .int (nI B), .ref rp, .int vrs, .int vrb, .int vhs, .int vca, .int vxs, .int vxb, .ref tp, .int (nI T), .int vfa, .int u102, .int u103, .int (nI k71), .int (nI k3), .int 2, .int y72, .ref cu, .ref lt, .ref od, .ref th, .ref be, .ref ln, .int (nI S), .ref ma, .int (nI M), .ref ah, .ref bh, .ref ik, .ref la, .ref lg, .ref ce, .int vto]))]) hP hD [0] [1] rfl rfl (by decide) (by decide) hk1 hFc hP1 hD1
                                      have w101 : 0 < u102.toInt ∧ u102 = flB (1 : Int32) vbr ∧ u103 = flA vbr vba k3 := w101
                                      generalize H1 = H at hP hS ⊢
                                      refine lv_goto (tgt := 269) hx hb dX11_goesOn_240 rfl ?_
                                      obtain ⟨hP9, hD9⟩ := va_sub2 (ws' := [(h0, .inr (11, [.ref st, .int (nI N), .int (nI B), .ref rp, .int vrs, .int vrb, .int vhs, .int vca, .int vxs, .int vxb, .ref tp, .int (nI T), .int vfa, .int u102, .int u103, .int (nI k71), .int (nI k3), .int 2, .int y72, .ref cu, .ref lt, .ref od, .ref th, .ref be, .ref ln, .int (nI S), .ref ma, .int (nI M), .ref ah, .ref bh, .ref ik, .ref la, .ref lg, .ref ce, .int vto])), (tp, .inl (G 0, 320, .inl ftp))]) hP hD [1, 0] (by decide) rfl
                                      refine W.widen (k := 0) (n := 0) (Nat.le_of_ble_eq_true rfl) (Nat.le_of_ble_eq_true rfl) ?_
                                      exact W.vret hx hb hr (fun t ht hW => ⟨⟨(u102, u103, k71, k3, 2, y72), rfl, (by have t_c1 := leI c1; have t_hinva := hinva; have t_w71 := w71; have t_c8 := neI c8; have t_w101 := w101; have t_c11 := neI c11; have t_b15 := b15; have t_b25 := b25; have t_w271 := w271; have t_c30 := neI c30; have t_n67 := n67; have t_w691 := w691; have t_hinvc := hinvc; have t_w761 := w761; have t_c96 := eqI c96; have t_n99 := n99; have t_w101 := w101.1; have tqz_ := qz29_; have tnb_ := nib9 tn1261_ tn1262_ tn1263_ tn1266_ tn1267_ tn1264_ tn1265_ tn1268_ tn1278_; have tqz_ := qz41_; have hb8 := htb k3; first | (exfalso; omega) | skip; refine ⟨by omega, ?_, by omega, by omega, by omega, ?_, ?_⟩; (first | exact Or.inr rfl | exact Or.inl (by omega)); omega; (have ea : pst ftp T 32 32 nsp = k3 := hinva.2.2.symm.trans (pst_out (by omega)); unfold gOn; rw [if_neg (by omega), ea]; unfold gOn1; have q1 := w101.2.1; have q2 := w101.2.2; rw [q1, q2]; rw [if_neg (by omega), if_neg (by omega), if_pos (by omega), hinvc.2.2.1.symm.trans (pst_out (by omega)), hinvc.2.2.2]; first | rw [if_pos (by omega)] | rw [if_neg (by omega)])), ⟨by rw [ht]; exact hP9, hD9⟩⟩, hS.F ht⟩) hS.2.2 dX11_goesOn_269
                                  · skip
                                    exact absurd c96 (by decide)
                            exact loop140_73 ((T - (k3 + 1)) + 1) (k3 + 1) ((0 + (ftp k3)) - 48) (Nat.lt_succ_self _) ⟨(by have t_c1 := leI c1; have t_hinva := hinva; have t_w71 := w71; have t_c8 := neI c8; have t_w101 := w101; have t_c11 := neI c11; have t_b15 := b15; have t_b25 := b25; have t_w271 := w271; have t_c30 := neI c30; have t_n67 := n67; have t_w691 := w691; have tqz_ := qz29_; have tnb_ := nib8 tn1261_ tn1262_ tn1263_ tn1266_ tn1267_ tn1264_ tn1265_ tn1268_; have tqz_ := qz41_; omega), (by have t_c1 := leI c1; have t_hinva := hinva; have t_w71 := w71; have t_c8 := neI c8; have t_w101 := w101; have t_c11 := neI c11; have t_b15 := b15; have t_b25 := b25; have t_w271 := w271; have t_c30 := neI c30; have t_n67 := n67; have t_w691 := w691; have tqz_ := qz29_; have tnb_ := nib8 tn1261_ tn1262_ tn1263_ tn1266_ tn1267_ tn1264_ tn1265_ tn1268_; have tqz_ := qz41_; omega), (pst_in (p := k3) (by have t_c1 := leI c1; have t_hinva := hinva; have t_w71 := w71; have t_c8 := neI c8; have t_w101 := w101; have t_c11 := neI c11; have t_b15 := b15; have t_b25 := b25; have t_w271 := w271; have t_c30 := neI c30; have t_n67 := n67; have t_w691 := w691; have tqz_ := qz29_; have tnb_ := nib8 tn1261_ tn1262_ tn1263_ tn1266_ tn1267_ tn1264_ tn1265_ tn1268_; have tqz_ := qz41_; omega) (by have t_c1 := leI c1; have t_hinva := hinva; have t_w71 := w71; have t_c8 := neI c8; have t_w101 := w101; have t_c11 := neI c11; have t_b15 := b15; have t_b25 := b25; have t_w271 := w271; have t_c30 := neI c30; have t_n67 := n67; have t_w691 := w691; have tqz_ := qz29_; have tnb_ := nib8 tn1261_ tn1262_ tn1263_ tn1266_ tn1267_ tn1264_ tn1265_ tn1268_; have tqz_ := qz41_; omega) (by have t_c1 := leI c1; have t_hinva := hinva; have t_w71 := w71; have t_c8 := neI c8; have t_w101 := w101; have t_c11 := neI c11; have t_b15 := b15; have t_b25 := b25; have t_w271 := w271; have t_c30 := neI c30; have t_n67 := n67; have t_w691 := w691; have tqz_ := qz29_; have tnb_ := nib8 tn1261_ tn1262_ tn1263_ tn1266_ tn1267_ tn1264_ tn1265_ tn1268_; have tqz_ := qz41_; omega)).symm, (by have t_c1 := leI c1; have t_hinva := hinva; have t_w71 := w71; have t_c8 := neI c8; have t_w101 := w101; have t_c11 := neI c11; have t_b15 := b15; have t_b25 := b25; have t_w271 := w271; have t_c30 := neI c30; have t_n67 := n67; have t_w691 := w691; have tqz_ := qz29_; have tnb_ := nib8 tn1261_ tn1262_ tn1263_ tn1266_ tn1267_ tn1264_ tn1265_ tn1268_; first | (exfalso; omega) | (rw [show ((k3 + 1)) - k3 = 1 by omega]; show _ = (if (0 : Nat) < 2 then 10 * (0 : Int32) + ftp (k3 + 0) - 48 else 0); rw [if_pos (by decide), show (10 : Int32) * 0 = 0 from by decide]; rfl))⟩ _ _ hP hD hS ls (lv_sub hl [0, 1] rfl)
                          · skip
                            have t_c1 := leI c1
                            have t_hinva := hinva
                            have t_w71 := w71
                            have t_c8 := neI c8
                            have t_w101 := w101
                            have t_c11 := neI c11
                            have t_b15 := b15
                            have t_b25 := b25
                            have t_w271 := w271
                            have t_c30 := neI c30
                            have t_n67 := n67
                            have t_w691 := w691
                            have : ((-4) : Int32).toInt = -4 := qI_m4
                            have : (0 : Int32).toInt = 0 := qI_0
                            have : (1 : Int32).toInt = 1 := qI_1
                            have : (32 : Int32).toInt = 32 := qI_32
                            have t_n0 : (nI N).toInt = (N : Int) := tn1261_ ()
                            have t_n1 : (nI B).toInt = (B : Int) := tn1262_ ()
                            have t_n2 : (nI T).toInt = (T : Int) := tn1263_ ()
                            have t_n3 : (nI nsp).toInt = (nsp : Int) := tn1266_ ()
                            have t_n4 : (nI nhe).toInt = (nhe : Int) := tn1267_ ()
                            have t_n5 : (nI S).toInt = (S : Int) := tn1264_ ()
                            have t_n6 : (nI M).toInt = (M : Int) := tn1265_ ()
                            have t_n7 : (nI k3).toInt = (k3 : Int) := tn1268_ ()
                            exfalso; omega
                    · skip
                      have t_c1 := leI c1
                      have t_hinva := hinva
                      have t_w71 := w71
                      have t_c8 := neI c8
                      have t_w101 := w101
                      have t_c11 := neI c11
                      have t_b15 := b15
                      have t_b25 := b25
                      have t_w271 := w271
                      have : ((-4) : Int32).toInt = -4 := qI_m4
                      have : (0 : Int32).toInt = 0 := qI_0
                      have : (32 : Int32).toInt = 32 := qI_32
                      have t_n0 : (nI N).toInt = (N : Int) := tn1261_ ()
                      have t_n1 : (nI B).toInt = (B : Int) := tn1262_ ()
                      have t_n2 : (nI T).toInt = (T : Int) := tn1263_ ()
                      have t_n3 : (nI nsp).toInt = (nsp : Int) := tn1266_ ()
                      have t_n4 : (nI nhe).toInt = (nhe : Int) := tn1267_ ()
                      have t_n5 : (nI S).toInt = (S : Int) := tn1264_ ()
                      have t_n6 : (nI M).toInt = (M : Int) := tn1265_ ()
                      have t_n7 : (nI k3).toInt = (k3 : Int) := tn1268_ ()
                      exfalso; omega
                · skip
                  have b104 := if10_p c14
                  refine lv_aload_n hx hb dX11_goesOn_84 rfl (lv_at hl 1 rfl) ?_
                  refine lv_aload_n hx hb dX11_goesOn_85 rfl (lv_at hl 1 rfl) ?_
                  refine va_get (D := (dC, dI)) (ci := 11) (v := .int (nI k3)) (C := RX11) (T := TX11) (N := 35) hx hb hg inG11 hown hK.1 hP 0 rfl rfl 15 (Nat.le_of_ble_eq_true rfl) (hg _ wt_893) (fun _ h9 => h9) rfl dX11_goesOn_86 ?_
                  have hPc := hP.sub (ws' := [(h0, .inr (11, [.ref st, .int (nI N), .int (nI B), .ref rp, .int vrs, .int vrb, .int vhs, .int vca, .int vxs, .int vxb, .ref tp, .int (nI T), .int vfa, .int vbr, .int vba, .int (nI k3), .int (nI k3), .int vtk, .int 0, .ref cu, .ref lt, .ref od, .ref th, .ref be, .ref ln, .int (nI S), .ref ma, .int (nI M), .ref ah, .ref bh, .ref ik, .ref la, .ref lg, .ref ce, .int vto])), (tp, .inl (G 0, 320, .inl ftp))]) [0, 1] rfl
                  refine va_calli (va_runV (As := [.int (nI k3)]) (rest := []) ⟨hx, hb, hml, hown, hg⟩ (c_X11_byteAt l dC dI G _ h0 k3 st N B rp tp T cu lt od th be ln S ma M ah bh ik la lg ce vrs vrb vhs vca vxs vxb vfa vbr vba (nI k3) (nI k3) vtk 0 vto ftp hN hB_ hT_ hS0 hM_ (by first | omega | (have t_c1 := leI c1; have t_hinva := hinva; have t_w71 := w71; have t_c8 := neI c8; have t_w101 := w101; have t_c11 := neI c11; have t_b104 := b104; have tqz_ := qz28_; have tnb_ := nib8 tn1261_ tn1262_ tn1263_ tn1266_ tn1267_ tn1264_ tn1265_ tn1268_; omega))) (kwV hg mfX11_byteAt wt_1003 ⟨Nat.le_of_ble_eq_true rfl, Nat.le_of_ble_eq_true rfl⟩) (preVR hK hPc (ci := 11) (r := (RX11, TX11, 35)) rfl rfl) rfl rfl hl.1 rfl (lv_room (Nat.le_of_ble_eq_true rfl)) dX11_goesOn_89 ⟨Nat.le_of_ble_eq_true rfl, Nat.le_of_ble_eq_true rfl⟩) hS (fun q h1 h2 => absurd h2 (Nat.not_le.mpr h1)) (fun q h => hA q (Nat.le_trans hS.1 h)) (fun r105 ur105 t H1 locs ht hvm w106 hB hz1 hk1 hS => ?_)
                  have hP := keepR hP hk1
                  obtain ⟨w106, w106x⟩ := w106
                  rcases w106 with ⟨w1061, w1062⟩ | ⟨w1061, w1062⟩
                  · skip
                    refine lv_cg (y := ftp k3) w1062 ?_
                    refine lv_i2l (v := (ftp k3).toInt64) hx hb dX11_goesOn_92 rfl ?_
                    refine lv_ldc2 (v := 97) hx hb hown (hg _ wt_1007) dX11_goesOn_93 ?_
                    refine lv_ldc2 (v := 122) hx hb hown (hg _ wt_1008) dX11_goesOn_96 ?_
                    have hPc := hP.sub (ws' := []) [] rfl
                    refine va_calli (va_runS (As := [.long ((ftp k3).toInt64), .long 97, .long 122]) (rest := []) ⟨hx, hb, hml, hown, hg⟩ (c_X11_in l dC dI G _ ((ftp k3).toInt64) 97 122) (kwS hg mfX11_in wt_992 ⟨Nat.le_of_ble_eq_true rfl, Nat.le_of_ble_eq_true rfl⟩) (preSR hK hPc) rfl rfl hl.1 rfl (lv_room (Nat.le_of_ble_eq_true rfl)) dX11_goesOn_99 ⟨Nat.le_of_ble_eq_true rfl, Nat.le_of_ble_eq_true rfl⟩) hS (fun q h1 h2 => absurd h2 (Nat.not_le.mpr h1)) (fun q h => hA q (Nat.le_trans hS.1 h)) (fun r107 ur107 t H1 locs ht hvm w108 hB hz1 hk1 hS => ?_)
                    have hP := keepR hP hk1
                    obtain ⟨w108, w108x⟩ := w108
                    try simp only [l_ii, show (97 : Int64).toInt = 97 from by decide, show (122 : Int64).toInt = 122 from by decide] at w108
                    have w108 : r107 = 1 := w108.trans (if_pos (by have t_c1 := leI c1; have t_hinva := hinva; have t_w71 := w71; have t_c8 := neI c8; have t_w101 := w101; have t_c11 := neI c11; have t_b104 := b104; have t_w1061 := w1061; have tqz_ := qz28_; have tnb_ := nib8 tn1261_ tn1262_ tn1263_ tn1266_ tn1267_ tn1264_ tn1265_ tn1268_; omega))
                    subst w108
                    refine lv_if_eq (tgt := 118) hx hb dX11_goesOn_102 rfl (fun c109 => ?_) (fun c109 => ?_)
                    · skip
                      exact absurd c109 (by decide)
                    · skip
                      refine lv_aload_n hx hb dX11_goesOn_105 rfl (lv_at hl 1 rfl) ?_
                      refine lv_dup hx hb dX11_goesOn_106 rfl ?_
                      refine va_get (D := (dC, dI)) (ci := 11) (v := .int (nI k3)) (C := RX11) (T := TX11) (N := 35) hx hb hg inG11 hown hK.1 hP 0 rfl rfl 15 (Nat.le_of_ble_eq_true rfl) (hg _ wt_893) (fun _ h9 => h9) rfl dX11_goesOn_107 ?_
                      refine lv_iconst (v := 1) hx hb dX11_goesOn_110 rfl ?_
                      refine lv_iadd hx hb dX11_goesOn_111 ?_
                      refine lv_cg (y := nI (k3 + 1)) (by rw [show (1 : Int32) = nI 1 from rfl]; exact nI_add _ _) ?_
                      refine va_put (D := (dC, dI)) (ci := 11) (v := .int (nI (k3 + 1))) (ty := .int) (C := RX11) (T := TX11) (N := 35) hx hb hg inG11 tyX11 tyX11_ok nmX11 hown hK.1 hP hD hS 0 rfl rfl 15 (Nat.le_of_ble_eq_true rfl) (hg _ wt_893) (fun _ h9 => h9) rfl (by decide +kernel) rfl rfl (Nat.le_of_ble_eq_true rfl) dX11_goesOn_112 (fun H locs hP hD hS => ?_)
                      refine lv_goto (tgt := 84) hx hb dX11_goesOn_115 rfl ?_
                      have loop84_112 : ∀ (nf : Nat) (k111 : Nat), (T - k111) < nf → ((k3 + 1) ≤ k111 ∧ k111 ≤ T ∧ pst ftp T 97 122 k111 = pst ftp T 97 122 k3) → ∀ (H : Heap) (locs : List Loc), va_P (dC, dI) vwCl [(h0, .inr (11, [.ref st, .int (nI N), .int (nI B), .ref rp, .int vrs, .int vrb, .int vhs, .int vca, .int vxs, .int vxb, .ref tp, .int (nI T), .int vfa, .int vbr, .int vba, .int (nI k111), .int (nI k3), .int vtk, .int 0, .ref cu, .ref lt, .ref od, .ref th, .ref be, .ref ln, .int (nI S), .ref ma, .int (nI M), .ref ah, .ref bh, .ref ik, .ref la, .ref lg, .ref ce, .int vto])), (tp, .inl (G 0, 320, .inl ftp))] H → va_D A [(h0, .inr (11, [.ref st, .int (nI N), .int (nI B), .ref rp, .int vrs, .int vrb, .int vhs, .int vca, .int vxs, .int vxb, .ref tp, .int (nI T), .int vfa, .int vbr, .int vba, .int (nI k111), .int (nI k3), .int vtk, .int 0, .ref cu, .ref lt, .ref od, .ref th, .ref be, .ref ln, .int (nI S), .ref ma, .int (nI M), .ref ah, .ref bh, .ref ik, .ref la, .ref lg, .ref ce, .int vto])), (tp, .inl (G 0, 320, .inl ftp))] → va_S A s.heap H locs → ∀ (ls : Array Slot), lv_has ls 2 [(1, .int (ftp k3)), (0, .ref h0)] → W p l e (headSpec (Cond.code yX11_goesOn cX11_goesOn 2 none :: GT) ({ frames := 1, cells := 0, slots := 0, locals := 25 } : Room)).room s m ([.ref h0] : List Value).toArray below meth c H locs 0 0 (MQ below (va_Qv (fun (u : Int32 × Int32 × Nat × Nat × Int32 × Int32) => match u with | (obr, oba, osp, ohe, otk, ova) => 0 ≤ obr.toInt ∧ (vbr.toInt = 0 ∨ obr.toInt = vbr.toInt) ∧ nsp ≤ osp ∧ osp ≤ T ∧ ohe ≤ osp ∧ (0 < vbr.toInt ∨ otk.toInt = 0 ∨ nsp < osp) ∧ (obr, oba, osp, ohe, otk, ova) = gOn ftp T vbr vba nsp nhe vtk vva) (fun (u : Int32 × Int32 × Nat × Nat × Int32 × Int32) (t : State) => match u with | (obr, oba, osp, ohe, otk, ova) => va_P (dC, dI) vwCl [(h0, .inr (11, [.ref st, .int (nI N), .int (nI B), .ref rp, .int vrs, .int vrb, .int vhs, .int vca, .int vxs, .int vxb, .ref tp, .int (nI T), .int vfa, .int obr, .int oba, .int (nI osp), .int (nI ohe), .int otk, .int ova, .ref cu, .ref lt, .ref od, .ref th, .ref be, .ref ln, .int (nI S), .ref ma, .int (nI M), .ref ah, .ref bh, .ref ik, .ref la, .ref lg, .ref ce, .int vto])), (tp, .inl (G 0, 320, .inl ftp))] t.heap ∧ va_D A [(h0, .inr (11, [.ref st, .int (nI N), .int (nI B), .ref rp, .int vrs, .int vrb, .int vhs, .int vca, .int vxs, .int vxb, .ref tp, .int (nI T), .int vfa, .int obr, .int oba, .int (nI osp), .int (nI ohe), .int otk, .int ova, .ref cu, .ref lt, .ref od, .ref th, .ref be, .ref ln, .int (nI S), .ref ma, .int (nI M), .ref ah, .ref bh, .ref ik, .ref la, .ref lg, .ref ce, .int vto])), (tp, .inl (G 0, 320, .inl ftp))]) A) ([.ref h0] : List Value).toArray s 0 0 A) (F0 m 84 ls []) := by
                        intro nf
                        induction nf with
                        | zero => intro k111 h1; exact absurd h1 (Nat.not_lt_zero _)
                        | succ nf ih84_112 =>
                          intro k111 hm113 hinvb H locs hP hD hS ls hl
                          refine lv_aload_n hx hb dX11_goesOn_84 rfl (lv_at hl 1 rfl) ?_
                          refine lv_aload_n hx hb dX11_goesOn_85 rfl (lv_at hl 1 rfl) ?_
                          refine va_get (D := (dC, dI)) (ci := 11) (v := .int (nI k111)) (C := RX11) (T := TX11) (N := 35) hx hb hg inG11 hown hK.1 hP 0 rfl rfl 15 (Nat.le_of_ble_eq_true rfl) (hg _ wt_893) (fun _ h9 => h9) rfl dX11_goesOn_86 ?_
                          have hPc := hP.sub (ws' := [(h0, .inr (11, [.ref st, .int (nI N), .int (nI B), .ref rp, .int vrs, .int vrb, .int vhs, .int vca, .int vxs, .int vxb, .ref tp, .int (nI T), .int vfa, .int vbr, .int vba, .int (nI k111), .int (nI k3), .int vtk, .int 0, .ref cu, .ref lt, .ref od, .ref th, .ref be, .ref ln, .int (nI S), .ref ma, .int (nI M), .ref ah, .ref bh, .ref ik, .ref la, .ref lg, .ref ce, .int vto])), (tp, .inl (G 0, 320, .inl ftp))]) [0, 1] rfl
                          have tn1285_ : nIT k111 := fun _ => nI_toInt (by first | omega | (have t_c1 := leI c1; have t_hinva := hinva; have t_w71 := w71; have t_c8 := neI c8; have t_w101 := w101; have t_c11 := neI c11; have t_b104 := b104; have t_w1061 := w1061; have t_c109 := neI c109; have t_hinvb := hinvb; have tqz_ := qz29_; omega))
                          refine va_calli (va_runV (As := [.int (nI k111)]) (rest := []) ⟨hx, hb, hml, hown, hg⟩ (c_X11_byteAt l dC dI G _ h0 k111 st N B rp tp T cu lt od th be ln S ma M ah bh ik la lg ce vrs vrb vhs vca vxs vxb vfa vbr vba (nI k111) (nI k3) vtk 0 vto ftp hN hB_ hT_ hS0 hM_ (by first | omega | (have t_c1 := leI c1; have t_hinva := hinva; have t_w71 := w71; have t_c8 := neI c8; have t_w101 := w101; have t_c11 := neI c11; have t_b104 := b104; have t_w1061 := w1061; have t_c109 := neI c109; have t_hinvb := hinvb; have tqz_ := qz29_; have tnb_ := nib9 tn1261_ tn1262_ tn1263_ tn1266_ tn1267_ tn1264_ tn1265_ tn1268_ tn1285_; omega))) (kwV hg mfX11_byteAt wt_1003 ⟨Nat.le_of_ble_eq_true rfl, Nat.le_of_ble_eq_true rfl⟩) (preVR hK hPc (ci := 11) (r := (RX11, TX11, 35)) rfl rfl) rfl rfl hl.1 rfl (lv_room (Nat.le_of_ble_eq_true rfl)) dX11_goesOn_89 ⟨Nat.le_of_ble_eq_true rfl, Nat.le_of_ble_eq_true rfl⟩) hS (fun q h1 h2 => absurd h2 (Nat.not_le.mpr h1)) (fun q h => hA q (Nat.le_trans hS.1 h)) (fun r114 ur114 t H1 locs ht hvm w115 hB hz1 hk1 hS => ?_)
                          have hP := keepR hP hk1
                          obtain ⟨w115, w115x⟩ := w115
                          rcases w115 with ⟨w1151, w1152⟩ | ⟨w1151, w1152⟩
                          · skip
                            refine lv_cg (y := ftp k111) w1152 ?_
                            refine lv_i2l (v := (ftp k111).toInt64) hx hb dX11_goesOn_92 rfl ?_
                            refine lv_ldc2 (v := 97) hx hb hown (hg _ wt_1007) dX11_goesOn_93 ?_
                            refine lv_ldc2 (v := 122) hx hb hown (hg _ wt_1008) dX11_goesOn_96 ?_
                            have hPc := hP.sub (ws' := []) [] rfl
                            refine va_calli (va_runS (As := [.long ((ftp k111).toInt64), .long 97, .long 122]) (rest := []) ⟨hx, hb, hml, hown, hg⟩ (c_X11_in l dC dI G _ ((ftp k111).toInt64) 97 122) (kwS hg mfX11_in wt_992 ⟨Nat.le_of_ble_eq_true rfl, Nat.le_of_ble_eq_true rfl⟩) (preSR hK hPc) rfl rfl hl.1 rfl (lv_room (Nat.le_of_ble_eq_true rfl)) dX11_goesOn_99 ⟨Nat.le_of_ble_eq_true rfl, Nat.le_of_ble_eq_true rfl⟩) hS (fun q h1 h2 => absurd h2 (Nat.not_le.mpr h1)) (fun q h => hA q (Nat.le_trans hS.1 h)) (fun r116 ur116 t H1 locs ht hvm w117 hB hz1 hk1 hS => ?_)
                            have hP := keepR hP hk1
                            obtain ⟨w117, w117x⟩ := w117
                            try simp only [l_ii, show (97 : Int64).toInt = 97 from by decide, show (122 : Int64).toInt = 122 from by decide] at w117
                            subst w117
                            refine lv_if_eq (tgt := 118) hx hb dX11_goesOn_102 rfl (fun c118 => ?_) (fun c118 => ?_)
                            · skip
                              have b119 := if10_n c118
                              refine lv_aload_n hx hb dX11_goesOn_118 rfl (lv_at hl 1 rfl) ?_
                              refine lv_iconst (v := 1) hx hb dX11_goesOn_119 rfl ?_
                              refine va_put (D := (dC, dI)) (ci := 11) (v := .int 1) (ty := .int) (C := RX11) (T := TX11) (N := 35) hx hb hg inG11 tyX11 tyX11_ok nmX11 hown hK.1 hP hD hS 0 rfl rfl 17 (Nat.le_of_ble_eq_true rfl) (hg _ wt_895) (fun _ h9 => h9) rfl (by decide +kernel) rfl rfl (Nat.le_of_ble_eq_true rfl) dX11_goesOn_120 (fun H locs hP hD hS => ?_)
                              refine lv_goto (tgt := 269) hx hb dX11_goesOn_123 rfl ?_
                              obtain ⟨hP9, hD9⟩ := va_sub2 (ws' := [(h0, .inr (11, [.ref st, .int (nI N), .int (nI B), .ref rp, .int vrs, .int vrb, .int vhs, .int vca, .int vxs, .int vxb, .ref tp, .int (nI T), .int vfa, .int vbr, .int vba, .int (nI k111), .int (nI k3), .int 1, .int 0, .ref cu, .ref lt, .ref od, .ref th, .ref be, .ref ln, .int (nI S), .ref ma, .int (nI M), .ref ah, .ref bh, .ref ik, .ref la, .ref lg, .ref ce, .int vto])), (tp, .inl (G 0, 320, .inl ftp))]) hP hD [0, 1] (by decide) rfl
                              refine W.widen (k := 0) (n := 0) (Nat.le_of_ble_eq_true rfl) (Nat.le_of_ble_eq_true rfl) ?_
                              exact W.vret hx hb hr (fun t ht hW => ⟨⟨(vbr, vba, k111, k3, 1, 0), rfl, (by have t_c1 := leI c1; have t_hinva := hinva; have t_w71 := w71; have t_c8 := neI c8; have t_w101 := w101; have t_c11 := neI c11; have t_b104 := b104; have t_w1061 := w1061; have t_c109 := neI c109; have t_hinvb := hinvb; have t_w1151 := w1151; have t_b119 := b119; have tqz_ := qz29_; have tnb_ := nib9 tn1261_ tn1262_ tn1263_ tn1266_ tn1267_ tn1264_ tn1265_ tn1268_ tn1285_; have tqz_ := qz41_; have hb8 := htb k3; first | (exfalso; omega) | skip; refine ⟨by omega, ?_, by omega, by omega, by omega, ?_, ?_⟩; (first | exact Or.inr rfl | exact Or.inl (by omega)); omega; (have ea : pst ftp T 32 32 nsp = k3 := hinva.2.2.symm.trans (pst_out (by omega)); unfold gOn; rw [if_neg (by omega), ea]; unfold gOn1; rw [if_neg (by omega), if_pos (by omega), hinvb.2.2.symm.trans (pst_out (by omega))])), ⟨by rw [ht]; exact hP9, hD9⟩⟩, hS.F ht⟩) hS.2.2 dX11_goesOn_269
                            · skip
                              have b120 := if10_p c118
                              refine lv_aload_n hx hb dX11_goesOn_105 rfl (lv_at hl 1 rfl) ?_
                              refine lv_dup hx hb dX11_goesOn_106 rfl ?_
                              refine va_get (D := (dC, dI)) (ci := 11) (v := .int (nI k111)) (C := RX11) (T := TX11) (N := 35) hx hb hg inG11 hown hK.1 hP 0 rfl rfl 15 (Nat.le_of_ble_eq_true rfl) (hg _ wt_893) (fun _ h9 => h9) rfl dX11_goesOn_107 ?_
                              refine lv_iconst (v := 1) hx hb dX11_goesOn_110 rfl ?_
                              refine lv_iadd hx hb dX11_goesOn_111 ?_
                              refine lv_cg (y := nI (k111 + 1)) (by rw [show (1 : Int32) = nI 1 from rfl]; exact nI_add _ _) ?_
                              refine va_put (D := (dC, dI)) (ci := 11) (v := .int (nI (k111 + 1))) (ty := .int) (C := RX11) (T := TX11) (N := 35) hx hb hg inG11 tyX11 tyX11_ok nmX11 hown hK.1 hP hD hS 0 rfl rfl 15 (Nat.le_of_ble_eq_true rfl) (hg _ wt_893) (fun _ h9 => h9) rfl (by decide +kernel) rfl rfl (Nat.le_of_ble_eq_true rfl) dX11_goesOn_112 (fun H locs hP hD hS => ?_)
                              refine lv_goto (tgt := 84) hx hb dX11_goesOn_115 rfl ?_
                              exact ih84_112 (k111 + 1) (by have t_c1 := leI c1; have t_hinva := hinva; have t_w71 := w71; have t_c8 := neI c8; have t_w101 := w101; have t_c11 := neI c11; have t_b104 := b104; have t_w1061 := w1061; have t_c109 := neI c109; have t_hinvb := hinvb; have t_w1151 := w1151; have t_b120 := b120; have tqz_ := qz29_; have tnb_ := nib9 tn1261_ tn1262_ tn1263_ tn1266_ tn1267_ tn1264_ tn1265_ tn1268_ tn1285_; omega) ⟨(by have t_c1 := leI c1; have t_hinva := hinva; have t_w71 := w71; have t_c8 := neI c8; have t_w101 := w101; have t_c11 := neI c11; have t_b104 := b104; have t_w1061 := w1061; have t_c109 := neI c109; have t_hinvb := hinvb; have t_w1151 := w1151; have t_b120 := b120; have tqz_ := qz29_; have tnb_ := nib9 tn1261_ tn1262_ tn1263_ tn1266_ tn1267_ tn1264_ tn1265_ tn1268_ tn1285_; have tqz_ := qz41_; omega), (by have t_c1 := leI c1; have t_hinva := hinva; have t_w71 := w71; have t_c8 := neI c8; have t_w101 := w101; have t_c11 := neI c11; have t_b104 := b104; have t_w1061 := w1061; have t_c109 := neI c109; have t_hinvb := hinvb; have t_w1151 := w1151; have t_b120 := b120; have tqz_ := qz29_; have tnb_ := nib9 tn1261_ tn1262_ tn1263_ tn1266_ tn1267_ tn1264_ tn1265_ tn1268_ tn1285_; have tqz_ := qz41_; omega), (pst_in (p := k111) (by have t_c1 := leI c1; have t_hinva := hinva; have t_w71 := w71; have t_c8 := neI c8; have t_w101 := w101; have t_c11 := neI c11; have t_b104 := b104; have t_w1061 := w1061; have t_c109 := neI c109; have t_hinvb := hinvb; have t_w1151 := w1151; have t_b120 := b120; have tqz_ := qz29_; have tnb_ := nib9 tn1261_ tn1262_ tn1263_ tn1266_ tn1267_ tn1264_ tn1265_ tn1268_ tn1285_; have tqz_ := qz41_; omega) (by have t_c1 := leI c1; have t_hinva := hinva; have t_w71 := w71; have t_c8 := neI c8; have t_w101 := w101; have t_c11 := neI c11; have t_b104 := b104; have t_w1061 := w1061; have t_c109 := neI c109; have t_hinvb := hinvb; have t_w1151 := w1151; have t_b120 := b120; have tqz_ := qz29_; have tnb_ := nib9 tn1261_ tn1262_ tn1263_ tn1266_ tn1267_ tn1264_ tn1265_ tn1268_ tn1285_; have tqz_ := qz41_; omega) (by have t_c1 := leI c1; have t_hinva := hinva; have t_w71 := w71; have t_c8 := neI c8; have t_w101 := w101; have t_c11 := neI c11; have t_b104 := b104; have t_w1061 := w1061; have t_c109 := neI c109; have t_hinvb := hinvb; have t_w1151 := w1151; have t_b120 := b120; have tqz_ := qz29_; have tnb_ := nib9 tn1261_ tn1262_ tn1263_ tn1266_ tn1267_ tn1264_ tn1265_ tn1268_ tn1285_; have tqz_ := qz41_; omega)).symm.trans hinvb.2.2⟩ _ _ hP hD hS ls (lv_sub hl [0, 1] rfl)
                          · skip
                            refine lv_cg (y := (-4)) w1152 ?_
                            refine lv_i2l (v := (-4)) hx hb dX11_goesOn_92 (by decide) ?_
                            refine lv_ldc2 (v := 97) hx hb hown (hg _ wt_1007) dX11_goesOn_93 ?_
                            refine lv_ldc2 (v := 122) hx hb hown (hg _ wt_1008) dX11_goesOn_96 ?_
                            have hPc := hP.sub (ws' := []) [] rfl
                            refine va_calli (va_runS (As := [.long (-4), .long 97, .long 122]) (rest := []) ⟨hx, hb, hml, hown, hg⟩ (c_X11_in l dC dI G _ (-4) 97 122) (kwS hg mfX11_in wt_992 ⟨Nat.le_of_ble_eq_true rfl, Nat.le_of_ble_eq_true rfl⟩) (preSR hK hPc) rfl rfl hl.1 rfl (lv_room (Nat.le_of_ble_eq_true rfl)) dX11_goesOn_99 ⟨Nat.le_of_ble_eq_true rfl, Nat.le_of_ble_eq_true rfl⟩) hS (fun q h1 h2 => absurd h2 (Nat.not_le.mpr h1)) (fun q h => hA q (Nat.le_trans hS.1 h)) (fun r121 ur121 t H1 locs ht hvm w122 hB hz1 hk1 hS => ?_)
                            have hP := keepR hP hk1
                            obtain ⟨w122, w122x⟩ := w122
                            try simp only [l_ii, show (97 : Int64).toInt = 97 from by decide, show ((-4) : Int64).toInt = -4 from by decide, show (122 : Int64).toInt = 122 from by decide] at w122
                            have w122 : r121 = 0 := w122.trans (if_neg (by have t_c1 := leI c1; have t_hinva := hinva; have t_w71 := w71; have t_c8 := neI c8; have t_w101 := w101; have t_c11 := neI c11; have t_b104 := b104; have t_w1061 := w1061; have t_c109 := neI c109; have t_hinvb := hinvb; have t_w1151 := w1151; have tqz_ := qz29_; have tnb_ := nib9 tn1261_ tn1262_ tn1263_ tn1266_ tn1267_ tn1264_ tn1265_ tn1268_ tn1285_; omega))
                            subst w122
                            refine lv_if_eq (tgt := 118) hx hb dX11_goesOn_102 rfl (fun c123 => ?_) (fun c123 => ?_)
                            · skip
                              refine lv_aload_n hx hb dX11_goesOn_118 rfl (lv_at hl 1 rfl) ?_
                              refine lv_iconst (v := 1) hx hb dX11_goesOn_119 rfl ?_
                              refine va_put (D := (dC, dI)) (ci := 11) (v := .int 1) (ty := .int) (C := RX11) (T := TX11) (N := 35) hx hb hg inG11 tyX11 tyX11_ok nmX11 hown hK.1 hP hD hS 0 rfl rfl 17 (Nat.le_of_ble_eq_true rfl) (hg _ wt_895) (fun _ h9 => h9) rfl (by decide +kernel) rfl rfl (Nat.le_of_ble_eq_true rfl) dX11_goesOn_120 (fun H locs hP hD hS => ?_)
                              refine lv_goto (tgt := 269) hx hb dX11_goesOn_123 rfl ?_
                              obtain ⟨hP9, hD9⟩ := va_sub2 (ws' := [(h0, .inr (11, [.ref st, .int (nI N), .int (nI B), .ref rp, .int vrs, .int vrb, .int vhs, .int vca, .int vxs, .int vxb, .ref tp, .int (nI T), .int vfa, .int vbr, .int vba, .int (nI k111), .int (nI k3), .int 1, .int 0, .ref cu, .ref lt, .ref od, .ref th, .ref be, .ref ln, .int (nI S), .ref ma, .int (nI M), .ref ah, .ref bh, .ref ik, .ref la, .ref lg, .ref ce, .int vto])), (tp, .inl (G 0, 320, .inl ftp))]) hP hD [0, 1] (by decide) rfl
                              refine W.widen (k := 0) (n := 0) (Nat.le_of_ble_eq_true rfl) (Nat.le_of_ble_eq_true rfl) ?_
                              exact W.vret hx hb hr (fun t ht hW => ⟨⟨(vbr, vba, k111, k3, 1, 0), rfl, (by have t_c1 := leI c1; have t_hinva := hinva; have t_w71 := w71; have t_c8 := neI c8; have t_w101 := w101; have t_c11 := neI c11; have t_b104 := b104; have t_w1061 := w1061; have t_c109 := neI c109; have t_hinvb := hinvb; have t_w1151 := w1151; have t_c123 := eqI c123; have tqz_ := qz29_; have tnb_ := nib9 tn1261_ tn1262_ tn1263_ tn1266_ tn1267_ tn1264_ tn1265_ tn1268_ tn1285_; have tqz_ := qz41_; have hb8 := htb k3; first | (exfalso; omega) | skip; refine ⟨by omega, ?_, by omega, by omega, by omega, ?_, ?_⟩; (first | exact Or.inr rfl | exact Or.inl (by omega)); omega; (have ea : pst ftp T 32 32 nsp = k3 := hinva.2.2.symm.trans (pst_out (by omega)); unfold gOn; rw [if_neg (by omega), ea]; unfold gOn1; rw [if_neg (by omega), if_pos (by omega), hinvb.2.2.symm.trans (pst_out (by omega))])), ⟨by rw [ht]; exact hP9, hD9⟩⟩, hS.F ht⟩) hS.2.2 dX11_goesOn_269
                            · skip
                              exact absurd c123 (by decide)
                      exact loop84_112 ((T - (k3 + 1)) + 1) (k3 + 1) (Nat.lt_succ_self _) ⟨(by have t_c1 := leI c1; have t_hinva := hinva; have t_w71 := w71; have t_c8 := neI c8; have t_w101 := w101; have t_c11 := neI c11; have t_b104 := b104; have t_w1061 := w1061; have t_c109 := neI c109; have tqz_ := qz29_; have tnb_ := nib8 tn1261_ tn1262_ tn1263_ tn1266_ tn1267_ tn1264_ tn1265_ tn1268_; have tqz_ := qz41_; omega), (by have t_c1 := leI c1; have t_hinva := hinva; have t_w71 := w71; have t_c8 := neI c8; have t_w101 := w101; have t_c11 := neI c11; have t_b104 := b104; have t_w1061 := w1061; have t_c109 := neI c109; have tqz_ := qz29_; have tnb_ := nib8 tn1261_ tn1262_ tn1263_ tn1266_ tn1267_ tn1264_ tn1265_ tn1268_; have tqz_ := qz41_; omega), (pst_in (p := k3) (by have t_c1 := leI c1; have t_hinva := hinva; have t_w71 := w71; have t_c8 := neI c8; have t_w101 := w101; have t_c11 := neI c11; have t_b104 := b104; have t_w1061 := w1061; have t_c109 := neI c109; have tqz_ := qz29_; have tnb_ := nib8 tn1261_ tn1262_ tn1263_ tn1266_ tn1267_ tn1264_ tn1265_ tn1268_; have tqz_ := qz41_; omega) (by have t_c1 := leI c1; have t_hinva := hinva; have t_w71 := w71; have t_c8 := neI c8; have t_w101 := w101; have t_c11 := neI c11; have t_b104 := b104; have t_w1061 := w1061; have t_c109 := neI c109; have tqz_ := qz29_; have tnb_ := nib8 tn1261_ tn1262_ tn1263_ tn1266_ tn1267_ tn1264_ tn1265_ tn1268_; have tqz_ := qz41_; omega) (by have t_c1 := leI c1; have t_hinva := hinva; have t_w71 := w71; have t_c8 := neI c8; have t_w101 := w101; have t_c11 := neI c11; have t_b104 := b104; have t_w1061 := w1061; have t_c109 := neI c109; have tqz_ := qz29_; have tnb_ := nib8 tn1261_ tn1262_ tn1263_ tn1266_ tn1267_ tn1264_ tn1265_ tn1268_; have tqz_ := qz41_; omega)).symm⟩ _ _ hP hD hS ls (lv_sub hl [0, 1] rfl)
                  · skip
                    have t_c1 := leI c1
                    have t_hinva := hinva
                    have t_w71 := w71
                    have t_c8 := neI c8
                    have t_w101 := w101
                    have t_c11 := neI c11
                    have t_b104 := b104
                    have t_w1061 := w1061
                    have : ((-4) : Int32).toInt = -4 := qI_m4
                    have : (0 : Int32).toInt = 0 := qI_0
                    have : (32 : Int32).toInt = 32 := qI_32
                    have t_n0 : (nI N).toInt = (N : Int) := tn1261_ ()
                    have t_n1 : (nI B).toInt = (B : Int) := tn1262_ ()
                    have t_n2 : (nI T).toInt = (T : Int) := tn1263_ ()
                    have t_n3 : (nI nsp).toInt = (nsp : Int) := tn1266_ ()
                    have t_n4 : (nI nhe).toInt = (nhe : Int) := tn1267_ ()
                    have t_n5 : (nI S).toInt = (S : Int) := tn1264_ ()
                    have t_n6 : (nI M).toInt = (M : Int) := tn1265_ ()
                    have t_n7 : (nI k3).toInt = (k3 : Int) := tn1268_ ()
                    exfalso; omega
              · skip
                refine lv_aload_n hx hb dX11_goesOn_62 rfl (lv_at hl 1 rfl) ?_
                refine lv_iconst (v := 0) hx hb dX11_goesOn_63 rfl ?_
                refine va_put (D := (dC, dI)) (ci := 11) (v := .int 0) (ty := .int) (C := RX11) (T := TX11) (N := 35) hx hb hg inG11 tyX11 tyX11_ok nmX11 hown hK.1 hP hD hS 0 rfl rfl 17 (Nat.le_of_ble_eq_true rfl) (hg _ wt_895) (fun _ h9 => h9) rfl (by decide +kernel) rfl rfl (Nat.le_of_ble_eq_true rfl) dX11_goesOn_64 (fun H locs hP hD hS => ?_)
                refine lv_goto (tgt := 269) hx hb dX11_goesOn_67 rfl ?_
                obtain ⟨hP9, hD9⟩ := va_sub2 (ws' := [(h0, .inr (11, [.ref st, .int (nI N), .int (nI B), .ref rp, .int vrs, .int vrb, .int vhs, .int vca, .int vxs, .int vxb, .ref tp, .int (nI T), .int vfa, .int vbr, .int vba, .int (nI k3), .int (nI k3), .int 0, .int 0, .ref cu, .ref lt, .ref od, .ref th, .ref be, .ref ln, .int (nI S), .ref ma, .int (nI M), .ref ah, .ref bh, .ref ik, .ref la, .ref lg, .ref ce, .int vto])), (tp, .inl (G 0, 320, .inl ftp))]) hP hD [0, 1] (by decide) rfl
                refine W.widen (k := 0) (n := 0) (Nat.le_of_ble_eq_true rfl) (Nat.le_of_ble_eq_true rfl) ?_
                exact W.vret hx hb hr (fun t ht hW => ⟨⟨(vbr, vba, k3, k3, 0, 0), rfl, (by have t_c1 := leI c1; have t_hinva := hinva; have t_w71 := w71; have t_c8 := neI c8; have t_w101 := w101; have t_c11 := eqI c11; have tqz_ := qz28_; have tnb_ := nib8 tn1261_ tn1262_ tn1263_ tn1266_ tn1267_ tn1264_ tn1265_ tn1268_; have tqz_ := qz41_; have hb8 := htb k3; first | (exfalso; omega) | skip; refine ⟨by omega, ?_, by omega, by omega, by omega, ?_, ?_⟩; (first | exact Or.inr rfl | exact Or.inl (by omega)); omega; (have ea : pst ftp T 32 32 nsp = k3 := hinva.2.2.symm.trans (pst_out (by omega)); unfold gOn; rw [if_neg (by omega), ea]; unfold gOn1; rw [if_pos (by omega)])), ⟨by rw [ht]; exact hP9, hD9⟩⟩, hS.F ht⟩) hS.2.2 dX11_goesOn_269
            · skip
              have t_c1 := leI c1
              have t_hinva := hinva
              have t_w71 := w71
              have t_c8 := neI c8
              have t_w101 := w101
              have : (0 : Int32).toInt = 0 := qI_0
              have : (32 : Int32).toInt = 32 := qI_32
              have t_n0 : (nI N).toInt = (N : Int) := tn1261_ ()
              have t_n1 : (nI B).toInt = (B : Int) := tn1262_ ()
              have t_n2 : (nI T).toInt = (T : Int) := tn1263_ ()
              have t_n3 : (nI nsp).toInt = (nsp : Int) := tn1266_ ()
              have t_n4 : (nI nhe).toInt = (nhe : Int) := tn1267_ ()
              have t_n5 : (nI S).toInt = (S : Int) := tn1264_ ()
              have t_n6 : (nI M).toInt = (M : Int) := tn1265_ ()
              have t_n7 : (nI k3).toInt = (k3 : Int) := tn1268_ ()
              exfalso; omega
          · skip
            refine lv_aload_n hx hb dX11_goesOn_21 rfl (lv_at hl 0 rfl) ?_
            refine lv_dup hx hb dX11_goesOn_22 rfl ?_
            refine va_get (D := (dC, dI)) (ci := 11) (v := .int (nI k3)) (C := RX11) (T := TX11) (N := 35) hx hb hg inG11 hown hK.1 hP 0 rfl rfl 15 (Nat.le_of_ble_eq_true rfl) (hg _ wt_893) (fun _ h9 => h9) rfl dX11_goesOn_23 ?_
            refine lv_iconst (v := 1) hx hb dX11_goesOn_26 rfl ?_
            refine lv_iadd hx hb dX11_goesOn_27 ?_
            refine lv_cg (y := nI (k3 + 1)) (by rw [show (1 : Int32) = nI 1 from rfl]; exact nI_add _ _) ?_
            refine va_put (D := (dC, dI)) (ci := 11) (v := .int (nI (k3 + 1))) (ty := .int) (C := RX11) (T := TX11) (N := 35) hx hb hg inG11 tyX11 tyX11_ok nmX11 hown hK.1 hP hD hS 0 rfl rfl 15 (Nat.le_of_ble_eq_true rfl) (hg _ wt_893) (fun _ h9 => h9) rfl (by decide +kernel) rfl rfl (Nat.le_of_ble_eq_true rfl) dX11_goesOn_28 (fun H locs hP hD hS => ?_)
            refine lv_goto (tgt := 8) hx hb dX11_goesOn_31 rfl ?_
            exact ih8_4 (k3 + 1) (by have t_c1 := leI c1; have t_hinva := hinva; have t_w71 := w71; have t_c8 := eqI c8; have tqz_ := qz26_; have tnb_ := nib8 tn1261_ tn1262_ tn1263_ tn1266_ tn1267_ tn1264_ tn1265_ tn1268_; omega) ⟨(by have t_c1 := leI c1; have t_hinva := hinva; have t_w71 := w71; have t_c8 := eqI c8; have tqz_ := qz26_; have tnb_ := nib8 tn1261_ tn1262_ tn1263_ tn1266_ tn1267_ tn1264_ tn1265_ tn1268_; have tqz_ := qz41_; omega), (by have t_c1 := leI c1; have t_hinva := hinva; have t_w71 := w71; have t_c8 := eqI c8; have tqz_ := qz26_; have tnb_ := nib8 tn1261_ tn1262_ tn1263_ tn1266_ tn1267_ tn1264_ tn1265_ tn1268_; have tqz_ := qz41_; omega), (pst_in (p := k3) (by have t_c1 := leI c1; have t_hinva := hinva; have t_w71 := w71; have t_c8 := eqI c8; have tqz_ := qz26_; have tnb_ := nib8 tn1261_ tn1262_ tn1263_ tn1266_ tn1267_ tn1264_ tn1265_ tn1268_; have tqz_ := qz41_; omega) (by have t_c1 := leI c1; have t_hinva := hinva; have t_w71 := w71; have t_c8 := eqI c8; have tqz_ := qz26_; have tnb_ := nib8 tn1261_ tn1262_ tn1263_ tn1266_ tn1267_ tn1264_ tn1265_ tn1268_; have tqz_ := qz41_; omega) (by have t_c1 := leI c1; have t_hinva := hinva; have t_w71 := w71; have t_c8 := eqI c8; have tqz_ := qz26_; have tnb_ := nib8 tn1261_ tn1262_ tn1263_ tn1266_ tn1267_ tn1264_ tn1265_ tn1268_; have tqz_ := qz41_; omega)).symm.trans hinva.2.2⟩ _ _ hP hD hS ls (lv_sub hl [0] rfl)
        · skip
          refine lv_cg (y := (-4)) w72 ?_
          refine lv_bipush (v := 32) hx hb dX11_goesOn_16 rfl ?_
          refine lv_icmp_ne (tgt := 34) hx hb dX11_goesOn_18 rfl (fun c124 => ?_) (fun c124 => ?_)
          · skip
            refine lv_aload_n hx hb dX11_goesOn_34 rfl (lv_at hl 0 rfl) ?_
            refine lv_aload_n hx hb dX11_goesOn_35 rfl (lv_at hl 0 rfl) ?_
            refine va_get (D := (dC, dI)) (ci := 11) (v := .int (nI k3)) (C := RX11) (T := TX11) (N := 35) hx hb hg inG11 hown hK.1 hP 0 rfl rfl 15 (Nat.le_of_ble_eq_true rfl) (hg _ wt_893) (fun _ h9 => h9) rfl dX11_goesOn_36 ?_
            refine va_put (D := (dC, dI)) (ci := 11) (v := .int (nI k3)) (ty := .int) (C := RX11) (T := TX11) (N := 35) hx hb hg inG11 tyX11 tyX11_ok nmX11 hown hK.1 hP hD hS 0 rfl rfl 16 (Nat.le_of_ble_eq_true rfl) (hg _ wt_894) (fun _ h9 => h9) rfl (by decide +kernel) rfl rfl (Nat.le_of_ble_eq_true rfl) dX11_goesOn_39 (fun H locs hP hD hS => ?_)
            refine lv_aload_n hx hb dX11_goesOn_42 rfl (lv_at hl 0 rfl) ?_
            refine lv_aload_n hx hb dX11_goesOn_43 rfl (lv_at hl 0 rfl) ?_
            refine va_get (D := (dC, dI)) (ci := 11) (v := .int (nI k3)) (C := RX11) (T := TX11) (N := 35) hx hb hg inG11 hown hK.1 hP 0 rfl rfl 15 (Nat.le_of_ble_eq_true rfl) (hg _ wt_893) (fun _ h9 => h9) rfl dX11_goesOn_44 ?_
            have hPc := hP.sub (ws' := [(h0, .inr (11, [.ref st, .int (nI N), .int (nI B), .ref rp, .int vrs, .int vrb, .int vhs, .int vca, .int vxs, .int vxb, .ref tp, .int (nI T), .int vfa, .int vbr, .int vba, .int (nI k3), .int (nI k3), .int vtk, .int vva, .ref cu, .ref lt, .ref od, .ref th, .ref be, .ref ln, .int (nI S), .ref ma, .int (nI M), .ref ah, .ref bh, .ref ik, .ref la, .ref lg, .ref ce, .int vto])), (tp, .inl (G 0, 320, .inl ftp))]) [0, 1] rfl
            refine va_calli (va_runV (As := [.int (nI k3)]) (rest := []) ⟨hx, hb, hml, hown, hg⟩ (c_X11_byteAt l dC dI G _ h0 k3 st N B rp tp T cu lt od th be ln S ma M ah bh ik la lg ce vrs vrb vhs vca vxs vxb vfa vbr vba (nI k3) (nI k3) vtk vva vto ftp hN hB_ hT_ hS0 hM_ (by first | omega | (have t_c1 := leI c1; have t_hinva := hinva; have t_w71 := w71; have t_c124 := neI c124; have tqz_ := qz28_; have tnb_ := nib8 tn1261_ tn1262_ tn1263_ tn1266_ tn1267_ tn1264_ tn1265_ tn1268_; omega))) (kwV hg mfX11_byteAt wt_1003 ⟨Nat.le_of_ble_eq_true rfl, Nat.le_of_ble_eq_true rfl⟩) (preVR hK hPc (ci := 11) (r := (RX11, TX11, 35)) rfl rfl) rfl rfl hl.1 rfl (lv_room (Nat.le_of_ble_eq_true rfl)) dX11_goesOn_47 ⟨Nat.le_of_ble_eq_true rfl, Nat.le_of_ble_eq_true rfl⟩) hS (fun q h1 h2 => absurd h2 (Nat.not_le.mpr h1)) (fun q h => hA q (Nat.le_trans hS.1 h)) (fun r125 ur125 t H1 locs ht hvm w126 hB hz1 hk1 hS => ?_)
            have hP := keepR hP hk1
            obtain ⟨w126, w126x⟩ := w126
            rcases w126 with ⟨w1261, w1262⟩ | ⟨w1261, w1262⟩
            · skip
              have t_c1 := leI c1
              have t_hinva := hinva
              have t_w71 := w71
              have t_c124 := neI c124
              have t_w1261 := w1261
              have : ((-4) : Int32).toInt = -4 := qI_m4
              have : (0 : Int32).toInt = 0 := qI_0
              have : (32 : Int32).toInt = 32 := qI_32
              have t_n0 : (nI N).toInt = (N : Int) := tn1261_ ()
              have t_n1 : (nI B).toInt = (B : Int) := tn1262_ ()
              have t_n2 : (nI T).toInt = (T : Int) := tn1263_ ()
              have t_n3 : (nI nsp).toInt = (nsp : Int) := tn1266_ ()
              have t_n4 : (nI nhe).toInt = (nhe : Int) := tn1267_ ()
              have t_n5 : (nI S).toInt = (S : Int) := tn1264_ ()
              have t_n6 : (nI M).toInt = (M : Int) := tn1265_ ()
              have t_n7 : (nI k3).toInt = (k3 : Int) := tn1268_ ()
              exfalso; omega
            · skip
              refine lv_cg (y := (-4)) w1262 ?_
              refine lv_istore_n (lv' := [(1, .int (-4)), (0, .ref h0)]) hx hb dX11_goesOn_50 rfl hl (by decide) rfl (fun ls hl => ?_)
              refine lv_aload_n hx hb dX11_goesOn_51 rfl (lv_at hl 1 rfl) ?_
              refine lv_iconst (v := 0) hx hb dX11_goesOn_52 rfl ?_
              refine va_put (D := (dC, dI)) (ci := 11) (v := .int 0) (ty := .int) (C := RX11) (T := TX11) (N := 35) hx hb hg inG11 tyX11 tyX11_ok nmX11 hown hK.1 hP hD hS 0 rfl rfl 18 (Nat.le_of_ble_eq_true rfl) (hg _ wt_896) (fun _ h9 => h9) rfl (by decide +kernel) rfl rfl (Nat.le_of_ble_eq_true rfl) dX11_goesOn_53 (fun H locs hP hD hS => ?_)
              refine lv_iload_n hx hb dX11_goesOn_56 rfl (lv_at hl 0 rfl) ?_
              refine lv_bipush (v := (-4)) hx hb dX11_goesOn_57 rfl ?_
              refine lv_icmp_ne (tgt := 70) hx hb dX11_goesOn_59 rfl (fun c127 => ?_) (fun c127 => ?_)
              · skip
                exact absurd c127 (by decide)
              · skip
                refine lv_aload_n hx hb dX11_goesOn_62 rfl (lv_at hl 1 rfl) ?_
                refine lv_iconst (v := 0) hx hb dX11_goesOn_63 rfl ?_
                refine va_put (D := (dC, dI)) (ci := 11) (v := .int 0) (ty := .int) (C := RX11) (T := TX11) (N := 35) hx hb hg inG11 tyX11 tyX11_ok nmX11 hown hK.1 hP hD hS 0 rfl rfl 17 (Nat.le_of_ble_eq_true rfl) (hg _ wt_895) (fun _ h9 => h9) rfl (by decide +kernel) rfl rfl (Nat.le_of_ble_eq_true rfl) dX11_goesOn_64 (fun H locs hP hD hS => ?_)
                refine lv_goto (tgt := 269) hx hb dX11_goesOn_67 rfl ?_
                obtain ⟨hP9, hD9⟩ := va_sub2 (ws' := [(h0, .inr (11, [.ref st, .int (nI N), .int (nI B), .ref rp, .int vrs, .int vrb, .int vhs, .int vca, .int vxs, .int vxb, .ref tp, .int (nI T), .int vfa, .int vbr, .int vba, .int (nI k3), .int (nI k3), .int 0, .int 0, .ref cu, .ref lt, .ref od, .ref th, .ref be, .ref ln, .int (nI S), .ref ma, .int (nI M), .ref ah, .ref bh, .ref ik, .ref la, .ref lg, .ref ce, .int vto])), (tp, .inl (G 0, 320, .inl ftp))]) hP hD [0, 1] (by decide) rfl
                refine W.widen (k := 0) (n := 0) (Nat.le_of_ble_eq_true rfl) (Nat.le_of_ble_eq_true rfl) ?_
                exact W.vret hx hb hr (fun t ht hW => ⟨⟨(vbr, vba, k3, k3, 0, 0), rfl, (by have t_c1 := leI c1; have t_hinva := hinva; have t_w71 := w71; have t_c124 := neI c124; have t_w1261 := w1261; have t_c127 := eqI c127; have tqz_ := qz28_; have tnb_ := nib8 tn1261_ tn1262_ tn1263_ tn1266_ tn1267_ tn1264_ tn1265_ tn1268_; have tqz_ := qz41_; have hb8 := htb k3; first | (exfalso; omega) | skip; refine ⟨by omega, ?_, by omega, by omega, by omega, ?_, ?_⟩; (first | exact Or.inr rfl | exact Or.inl (by omega)); omega; (have ea : pst ftp T 32 32 nsp = k3 := hinva.2.2.symm.trans (pst_out (by omega)); unfold gOn; rw [if_neg (by omega), ea]; unfold gOn1; rw [if_pos (by omega)])), ⟨by rw [ht]; exact hP9, hD9⟩⟩, hS.F ht⟩) hS.2.2 dX11_goesOn_269
          · skip
            exact absurd c124 (by decide)
    have tn1286_ : nIT nsp := fun _ => nI_toInt (by first | omega | (have t_c1 := leI c1; have : (0 : Int32).toInt = 0 := qI_0; omega))
    have tn1287_ : nIT nhe := fun _ => nI_toInt (by first | omega | (have t_c1 := leI c1; have : (0 : Int32).toInt = 0 := qI_0; omega))
    exact loop8_4 ((T - nsp) + 1) nsp (Nat.lt_succ_self _) ⟨(by have t_c1 := leI c1; have : (0 : Int32).toInt = 0 := qI_0; have tnb_ := nib7 tn1261_ tn1262_ tn1263_ tn1286_ tn1287_ tn1264_ tn1265_; have tqz_ := qz41_; omega), (by have t_c1 := leI c1; have : (0 : Int32).toInt = 0 := qI_0; have tnb_ := nib7 tn1261_ tn1262_ tn1263_ tn1286_ tn1287_ tn1264_ tn1265_; have tqz_ := qz41_; omega), rfl⟩ _ _ hP hD hS ls (lv_sub hl [0] rfl)
  · skip
    obtain ⟨hP9, hD9⟩ := va_sub2 (ws' := [(h0, .inr (11, [.ref st, .int (nI N), .int (nI B), .ref rp, .int vrs, .int vrb, .int vhs, .int vca, .int vxs, .int vxb, .ref tp, .int (nI T), .int vfa, .int vbr, .int vba, .int (nI nsp), .int (nI nhe), .int vtk, .int vva, .ref cu, .ref lt, .ref od, .ref th, .ref be, .ref ln, .int (nI S), .ref ma, .int (nI M), .ref ah, .ref bh, .ref ik, .ref la, .ref lg, .ref ce, .int vto])), (tp, .inl (G 0, 320, .inl ftp))]) hP hD [0, 1] (by decide) rfl
    refine W.widen (k := 0) (n := 0) (Nat.le_of_ble_eq_true rfl) (Nat.le_of_ble_eq_true rfl) ?_
    have tn1288_ : nIT nsp := fun _ => nI_toInt (by first | omega | (have t_c1 := nleI c1; have : (0 : Int32).toInt = 0 := qI_0; omega))
    have tn1289_ : nIT nhe := fun _ => nI_toInt (by first | omega | (have t_c1 := nleI c1; have : (0 : Int32).toInt = 0 := qI_0; omega))
    exact W.vret hx hb hr (fun t ht hW => ⟨⟨(vbr, vba, nsp, nhe, vtk, vva), rfl, (by have t_c1 := nleI c1; have : (0 : Int32).toInt = 0 := qI_0; have tnb_ := nib7 tn1261_ tn1262_ tn1263_ tn1288_ tn1289_ tn1264_ tn1265_; have tqz_ := qz41_; have hb8 := htb nhe; first | (exfalso; omega) | skip; refine ⟨by omega, ?_, by omega, by omega, by omega, ?_, ?_⟩; (first | exact Or.inr rfl | exact Or.inl (by omega)); omega; (unfold gOn; rw [if_pos (by omega)])), ⟨by rw [ht]; exact hP9, hD9⟩⟩, hS.F ht⟩) hS.2.2 dX11_goesOn_7

set_option maxHeartbeats 1000000 in
set_option maxRecDepth 100000 in
theorem c_X11_otherE (l : Launch) (dC : Nat → ClassId) (dI : Nat → Nat → Nat) (G : Nat → ClassId) (sz : Nat) (h0 st N B rp tp T nsp nhe cu lt od th be ln S ma M ah bh ik la lg ce : Nat) (lo xh sm vrs vrb vhs vca vxs vxb vfa vbr vba vtk vva vto : Int32) (ftp : Nat → Int32) (hN : N ≤ 10) (hB : B ≤ 6) (hT : T ≤ 320) (hS0 : S ≤ 8) (hM : M ≤ 6) (hbr : 0 ≤ vbr.toInt) (hsp : nsp ≤ T) (hhe : nhe ≤ nsp) (hlo : lo.toInt ≤ xh.toInt) (htb : ∀ q : Nat, q < 320 → 0 ≤ (ftp q).toInt) : Met l yX11_other (Cond.code yX11_other cX11_other 5 (some .int) :: GT) ({ frames := 2, cells := 0, slots := 0, locals := 46 } : Room) (PcW [.ref h0, .int lo, .int xh, .int sm] dC dI G [(h0, .inr (11, [.ref st, .int (nI N), .int (nI B), .ref rp, .int vrs, .int vrb, .int vhs, .int vca, .int vxs, .int vxb, .ref tp, .int (nI T), .int vfa, .int vbr, .int vba, .int (nI nsp), .int (nI nhe), .int vtk, .int vva, .ref cu, .ref lt, .ref od, .ref th, .ref be, .ref ln, .int (nI S), .ref ma, .int (nI M), .ref ah, .ref bh, .ref ik, .ref la, .ref lg, .ref ce, .int vto])), (tp, .inl (G 0, 320, .inl ftp))] sz) (va_Qi (fun (r : Int32) (u : Int32 × Int32 × Nat × Nat × Int32 × Int32) => match u with | (obr, oba, osp, ohe, otk, ova) => ((lo.toInt ≤ r.toInt ∧ r.toInt ≤ xh.toInt) ∧ r = otV lo xh sm vbr vtk vva) ∧ 0 ≤ obr.toInt ∧ (vbr.toInt = 0 ∨ 0 < obr.toInt) ∧ nsp ≤ osp ∧ osp ≤ T ∧ ohe ≤ osp ∧ (0 < obr.toInt ∨ otk.toInt = 0 ∨ nsp < osp) ∧ (obr, oba, osp, ohe, otk, ova) = gOn ftp T (otB lo xh sm vbr vtk vva) (otA lo xh sm vbr vba nhe vtk vva) nsp nhe vtk vva) (fun (u : Int32 × Int32 × Nat × Nat × Int32 × Int32) (t : State) => match u with | (obr, oba, osp, ohe, otk, ova) => va_P (dC, dI) vwCl [(h0, .inr (11, [.ref st, .int (nI N), .int (nI B), .ref rp, .int vrs, .int vrb, .int vhs, .int vca, .int vxs, .int vxb, .ref tp, .int (nI T), .int vfa, .int obr, .int oba, .int (nI osp), .int (nI ohe), .int otk, .int ova, .ref cu, .ref lt, .ref od, .ref th, .ref be, .ref ln, .int (nI S), .ref ma, .int (nI M), .ref ah, .ref bh, .ref ik, .ref la, .ref lg, .ref ce, .int vto])), (tp, .inl (G 0, 320, .inl ftp))] t.heap ∧ va_D (va_A [(h0, .inr (11, [.ref st, .int (nI N), .int (nI B), .ref rp, .int vrs, .int vrb, .int vhs, .int vca, .int vxs, .int vxb, .ref tp, .int (nI T), .int vfa, .int vbr, .int vba, .int (nI nsp), .int (nI nhe), .int vtk, .int vva, .ref cu, .ref lt, .ref od, .ref th, .ref be, .ref ln, .int (nI S), .ref ma, .int (nI M), .ref ah, .ref bh, .ref ik, .ref la, .ref lg, .ref ce, .int vto])), (tp, .inl (G 0, 320, .inl ftp))] sz) [(h0, .inr (11, [.ref st, .int (nI N), .int (nI B), .ref rp, .int vrs, .int vrb, .int vhs, .int vca, .int vxs, .int vxb, .ref tp, .int (nI T), .int vfa, .int obr, .int oba, .int (nI osp), .int (nI ohe), .int otk, .int ova, .ref cu, .ref lt, .ref od, .ref th, .ref be, .ref ln, .int (nI S), .ref ma, .int (nI M), .ref ah, .ref bh, .ref ik, .ref la, .ref lg, .ref ce, .int vto])), (tp, .inl (G 0, 320, .inl ftp))]) (va_A [(h0, .inr (11, [.ref st, .int (nI N), .int (nI B), .ref rp, .int vrs, .int vrb, .int vhs, .int vca, .int vxs, .int vxb, .ref tp, .int (nI T), .int vfa, .int vbr, .int vba, .int (nI nsp), .int (nI nhe), .int vtk, .int vva, .ref cu, .ref lt, .ref od, .ref th, .ref be, .ref ln, .int (nI S), .ref ma, .int (nI M), .ref ah, .ref bh, .ref ik, .ref la, .ref lg, .ref ce, .int vto])), (tp, .inl (G 0, 320, .inl ftp))] sz)) 0 0 (va_A [(h0, .inr (11, [.ref st, .int (nI N), .int (nI B), .ref rp, .int vrs, .int vrb, .int vhs, .int vca, .int vxs, .int vxb, .ref tp, .int (nI T), .int vfa, .int vbr, .int vba, .int (nI nsp), .int (nI nhe), .int vtk, .int vva, .ref cu, .ref lt, .ref od, .ref th, .ref be, .ref ln, .int (nI S), .ref ma, .int (nI M), .ref ah, .ref bh, .ref ik, .ref la, .ref lg, .ref ce, .int vto])), (tp, .inl (G 0, 320, .inl ftp))] sz) := by
  have hB_ := hB
  have hM_ := hM
  have hT_ := hT
  have tn1290_ : nIT N := fun _ => nI_toInt (by omega)
  have tn1291_ : nIT B := fun _ => nI_toInt (by omega)
  have tn1292_ : nIT T := fun _ => nI_toInt (by omega)
  have tn1293_ : nIT S := fun _ => nI_toInt (by omega)
  have tn1294_ : nIT M := fun _ => nI_toInt (by omega)
  refine Met.ofW (cc := cX11_other) (maxL := 5) (ret := (some .int)) (by decide) rfl ?_
  intro p e s m args below meth c s₁ Bd hml hv
  obtain ⟨rfl, hsz, hP, hK, hD0⟩ := hv
  have hx := Bd.exec
  have hb := Bd.bytes
  have hr := Bd.returns
  have hg : ∀ w ∈ GT, w.before ([.ref h0, .int lo, .int xh, .int sm] : List Value).toArray s = true := fun w h => atoms_spec (ws := Cond.code yX11_other cX11_other 5 (some .int) :: GT) Bd.pre w (List.mem_cons_of_mem _ h)
  have hown : s.vm.findClass RX11 = some m.cls := findClass_of_methodNamed Bd.named
  have hlocks := Bd.notSynchronized
  subst hsz
  have hD := hD0.self (sz := s.heap.size)
  generalize hAe : va_A [(h0, .inr (11, [.ref st, .int (nI N), .int (nI B), .ref rp, .int vrs, .int vrb, .int vhs, .int vca, .int vxs, .int vxb, .ref tp, .int (nI T), .int vfa, .int vbr, .int vba, .int (nI nsp), .int (nI nhe), .int vtk, .int vva, .ref cu, .ref lt, .ref od, .ref th, .ref be, .ref ln, .int (nI S), .ref ma, .int (nI M), .ref ah, .ref bh, .ref ik, .ref la, .ref lg, .ref ce, .int vto])), (tp, .inl (G 0, 320, .inl ftp))] s.heap.size = A at hD ⊢
  have hA : ∀ q : Nat, s.heap.size ≤ q → A q := fun q h => by rw [← hAe]; exact Or.inr h
  have hS : va_S A s.heap s.heap [] := va_S.rf
  have hl := lv_entry ([.ref h0, .int lo, .int xh, .int sm]) (n := 5) (Nat.le_of_ble_eq_true rfl)
  rw [lg_entry_eq]
  generalize (lg_sl ([.ref h0, .int lo, .int xh, .int sm]) ++ List.replicate (5 - (lg_sl ([.ref h0, .int lo, .int xh, .int sm])).length) Slot.unset).toArray = ls at hl ⊢
  have hl : lv_has ls 5 [(0, .ref h0), (1, .int lo), (2, .int xh), (3, .int sm)] := hl
  refine lv_aload_n hx hb dX11_other_0 rfl (lv_at hl 0 rfl) ?_
  refine va_get (D := (dC, dI)) (ci := 11) (v := .int vbr) (C := RX11) (T := TX11) (N := 35) hx hb hg inG11 hown hK.1 hP 0 rfl rfl 13 (Nat.le_of_ble_eq_true rfl) (hg _ wt_891) (fun _ h9 => h9) rfl dX11_other_1 ?_
  refine lv_if_ne (tgt := 20) hx hb dX11_other_4 rfl (fun c1 => ?_) (fun c1 => ?_)
  · skip
    refine lv_aload_n hx hb dX11_other_20 rfl (lv_at hl 0 rfl) ?_
    refine va_get (D := (dC, dI)) (ci := 11) (v := .int vbr) (C := RX11) (T := TX11) (N := 35) hx hb hg inG11 hown hK.1 hP 0 rfl rfl 13 (Nat.le_of_ble_eq_true rfl) (hg _ wt_891) (fun _ h9 => h9) rfl dX11_other_21 ?_
    refine lv_if_ne (tgt := 47) hx hb dX11_other_24 rfl (fun c2 => ?_) (fun c2 => ?_)
    · skip
      refine lv_aload_n hx hb dX11_other_47 rfl (lv_at hl 0 rfl) ?_
      refine va_get (D := (dC, dI)) (ci := 11) (v := .int vbr) (C := RX11) (T := TX11) (N := 35) hx hb hg inG11 hown hK.1 hP 0 rfl rfl 13 (Nat.le_of_ble_eq_true rfl) (hg _ wt_891) (fun _ h9 => h9) rfl dX11_other_48 ?_
      refine lv_if_ne (tgt := 71) hx hb dX11_other_51 rfl (fun c3 => ?_) (fun c3 => ?_)
      · skip
        refine lv_aload_n hx hb dX11_other_71 rfl (lv_at hl 0 rfl) ?_
        refine va_get (D := (dC, dI)) (ci := 11) (v := .int vbr) (C := RX11) (T := TX11) (N := 35) hx hb hg inG11 hown hK.1 hP 0 rfl rfl 13 (Nat.le_of_ble_eq_true rfl) (hg _ wt_891) (fun _ h9 => h9) rfl dX11_other_72 ?_
        refine lv_if_ne (tgt := 85) hx hb dX11_other_75 rfl (fun c4 => ?_) (fun c4 => ?_)
        · skip
          refine lv_iload_n hx hb dX11_other_85 rfl (lv_at hl 1 rfl) ?_
          refine lv_istore (lv' := [(4, .int lo), (0, .ref h0), (1, .int lo), (2, .int xh), (3, .int sm)]) hx hb dX11_other_86 hl (by decide) rfl (fun ls hl => ?_)
          refine lv_aload_n hx hb dX11_other_88 rfl (lv_at hl 1 rfl) ?_
          obtain ⟨hPc, hDc, hFc⟩ := va_sub3 (ws' := [(h0, .inr (11, [.ref st, .int (nI N), .int (nI B), .ref rp, .int vrs, .int vrb, .int vhs, .int vca, .int vxs, .int vxb, .ref tp, .int (nI T), .int vfa, .int vbr, .int vba, .int (nI nsp), .int (nI nhe), .int vtk, .int vva, .ref cu, .ref lt, .ref od, .ref th, .ref be, .ref ln, .int (nI S), .ref ma, .int (nI M), .ref ah, .ref bh, .ref ik, .ref la, .ref lg, .ref ce, .int vto])), (tp, .inl (G 0, 320, .inl ftp))]) hP hD hS hA [0, 1] (by decide) rfl
          have tn1295_ : nIT nsp := fun _ => nI_toInt (by first | omega | (have t_c1 := neI c1; have t_c2 := neI c2; have t_c3 := neI c3; have t_c4 := neI c4; have : (0 : Int32).toInt = 0 := qI_0; omega))
          have tn1296_ : nIT nhe := fun _ => nI_toInt (by first | omega | (have t_c1 := neI c1; have t_c2 := neI c2; have t_c3 := neI c3; have t_c4 := neI c4; have : (0 : Int32).toInt = 0 := qI_0; omega))
          refine va_callv (va_runV (As := []) (rest := []) ⟨hx, hb, hml, hown, hg⟩ (c_X11_goesOnE l dC dI G _ h0 st N B rp tp T nsp nhe cu lt od th be ln S ma M ah bh ik la lg ce vrs vrb vhs vca vxs vxb vfa vbr vba vtk vva vto ftp hN hB_ hT_ hS0 hM_ hbr hsp (by have t_c1 := neI c1; have t_c2 := neI c2; have t_c3 := neI c3; have t_c4 := neI c4; have : (0 : Int32).toInt = 0 := qI_0; have tnb_ := nib7 tn1290_ tn1291_ tn1292_ tn1295_ tn1296_ tn1293_ tn1294_; have tqz_ := qz41_; omega) htb) (kwV hg mfX11_goesOn wt_999 ⟨Nat.le_of_ble_eq_true rfl, Nat.le_of_ble_eq_true rfl⟩) (preVW hK hPc hDc (ci := 11) (r := (RX11, TX11, 35)) rfl rfl) rfl rfl hl.1 rfl (lv_room (Nat.le_of_ble_eq_true rfl)) dX11_other_89 ⟨Nat.le_of_ble_eq_true rfl, Nat.le_of_ble_eq_true rfl⟩) hS (fun q _ h => hFc q h) hFc (fun ur5 t H1 locs ht hvm w6 hB hz1 hk1 hS => ?_)
          obtain ⟨u7, u8, u9, u10, u11, u12⟩ := ur5
          obtain ⟨hP1, hD1⟩ := hB
          rw [ht] at hP1
          obtain ⟨hP, hD⟩ := va_join (wr := []) (w1 := [(h0, .inr (11, [.ref st, .int (nI N), .int (nI B), .ref rp, .int vrs, .int vrb, .int vhs, .int vca, .int vxs, .int vxb, .ref tp, .int (nI T), .int vfa, .int u7, .int u8, .int (nI u9), .int (nI u10), .int u11, .int u12, .ref cu, .ref lt, .ref od, .ref th, .ref be, .ref ln, .int (nI S), .ref ma, .int (nI M), .ref ah, .ref bh, .ref ik, .ref la, .ref lg, .ref ce, .int vto])), (tp, .inl (G 0, 320, .inl ftp))]) hP hD [0, 1] [] rfl rfl (by decide) (by decide) hk1 hFc hP1 hD1
          have w6 : 0 ≤ u7.toInt ∧ (vbr.toInt = 0 ∨ u7.toInt = vbr.toInt) ∧ nsp ≤ u9 ∧ u9 ≤ T ∧ u10 ≤ u9 ∧ (0 < vbr.toInt ∨ u11.toInt = 0 ∨ nsp < u9) ∧ (u7, u8, u9, u10, u11, u12) = gOn ftp T vbr vba nsp nhe vtk vva := w6
          generalize H1 = H at hP hS ⊢
          refine lv_iload hx hb dX11_other_92 (lv_at hl 0 rfl) ?_
          have hpost : (lo.toInt ≤ (lo : Int32).toInt ∧ (lo : Int32).toInt ≤ xh.toInt) ∧ (lo : Int32) = otV lo xh sm vbr vtk vva := by
            have eC : otC lo xh sm vbr vtk vva = 0 := (by unfold otC; (repeat (first | rw [if_pos (by with_reducible assumption)] | rw [if_neg (by with_reducible assumption)] | rw [if_pos (by (have t_c1 := neI c1; have t_c2 := neI c2; have t_c3 := neI c3; have t_c4 := neI c4; have : (0 : Int32).toInt = 0 := qI_0; have tnb_ := nib7 tn1290_ tn1291_ tn1292_ tn1295_ tn1296_ tn1293_ tn1294_; have tqz_ := qz41_; omega))] | rw [if_neg (by (have t_c1 := neI c1; have t_c2 := neI c2; have t_c3 := neI c3; have t_c4 := neI c4; have : (0 : Int32).toInt = 0 := qI_0; have tnb_ := nib7 tn1290_ tn1291_ tn1292_ tn1295_ tn1296_ tn1293_ tn1294_; have tqz_ := qz41_; omega))] | rw [if_pos (by decide)] | rw [if_neg (by decide)])))
            have eB : otB lo xh sm vbr vtk vva = vbr := (by unfold otB; rw [eC, if_pos rfl])
            have eA : otA lo xh sm vbr vba nhe vtk vva = vba := (by unfold otA; rw [eC, if_pos rfl])
            refine ⟨⟨by (have t_c1 := neI c1; have t_c2 := neI c2; have t_c3 := neI c3; have t_c4 := neI c4; have : (0 : Int32).toInt = 0 := qI_0; have tnb_ := nib7 tn1290_ tn1291_ tn1292_ tn1295_ tn1296_ tn1293_ tn1294_; have tqz_ := qz41_; omega), by (have t_c1 := neI c1; have t_c2 := neI c2; have t_c3 := neI c3; have t_c4 := neI c4; have : (0 : Int32).toInt = 0 := qI_0; have tnb_ := nib7 tn1290_ tn1291_ tn1292_ tn1295_ tn1296_ tn1293_ tn1294_; have tqz_ := qz41_; omega)⟩, ?_⟩
            unfold otV
            rw [eB]
            first | rw [if_pos (by with_reducible assumption)] | rw [if_neg (by with_reducible assumption)]
          obtain ⟨hP9, hD9⟩ := va_sub2 (ws' := [(h0, .inr (11, [.ref st, .int (nI N), .int (nI B), .ref rp, .int vrs, .int vrb, .int vhs, .int vca, .int vxs, .int vxb, .ref tp, .int (nI T), .int vfa, .int u7, .int u8, .int (nI u9), .int (nI u10), .int u11, .int u12, .ref cu, .ref lt, .ref od, .ref th, .ref be, .ref ln, .int (nI S), .ref ma, .int (nI M), .ref ah, .ref bh, .ref ik, .ref la, .ref lg, .ref ce, .int vto])), (tp, .inl (G 0, 320, .inl ftp))]) hP hD [0, 1] (by decide) rfl
          refine W.widen (k := 0) (n := 0) (Nat.le_of_ble_eq_true rfl) (Nat.le_of_ble_eq_true rfl) ?_
          exact W.iret (v := lo) hx hb hr (fun t ht hW => ⟨⟨lo, (u7, u8, u9, u10, u11, u12), rfl, ⟨hpost, (by have eC : otC lo xh sm vbr vtk vva = 0 := (by unfold otC; (repeat (first | rw [if_pos (by with_reducible assumption)] | rw [if_neg (by with_reducible assumption)] | rw [if_pos (by (have t_c1 := neI c1; have t_c2 := neI c2; have t_c3 := neI c3; have t_c4 := neI c4; have : (0 : Int32).toInt = 0 := qI_0; have tnb_ := nib7 tn1290_ tn1291_ tn1292_ tn1295_ tn1296_ tn1293_ tn1294_; have tqz_ := qz41_; omega))] | rw [if_neg (by (have t_c1 := neI c1; have t_c2 := neI c2; have t_c3 := neI c3; have t_c4 := neI c4; have : (0 : Int32).toInt = 0 := qI_0; have tnb_ := nib7 tn1290_ tn1291_ tn1292_ tn1295_ tn1296_ tn1293_ tn1294_; have tqz_ := qz41_; omega))] | rw [if_pos (by decide)] | rw [if_neg (by decide)]))); have eB : otB lo xh sm vbr vtk vva = vbr := (by unfold otB; rw [eC, if_pos rfl]); have eA : otA lo xh sm vbr vba nhe vtk vva = vba := (by unfold otA; rw [eC, if_pos rfl]); refine ⟨by (have t_c1 := neI c1; have t_c2 := neI c2; have t_c3 := neI c3; have t_c4 := neI c4; have : (0 : Int32).toInt = 0 := qI_0; have tnb_ := nib7 tn1290_ tn1291_ tn1292_ tn1295_ tn1296_ tn1293_ tn1294_; have tqz_ := qz41_; omega), by (have t_c1 := neI c1; have t_c2 := neI c2; have t_c3 := neI c3; have t_c4 := neI c4; have : (0 : Int32).toInt = 0 := qI_0; have tnb_ := nib7 tn1290_ tn1291_ tn1292_ tn1295_ tn1296_ tn1293_ tn1294_; have tqz_ := qz41_; omega), by (have t_c1 := neI c1; have t_c2 := neI c2; have t_c3 := neI c3; have t_c4 := neI c4; have : (0 : Int32).toInt = 0 := qI_0; have tnb_ := nib7 tn1290_ tn1291_ tn1292_ tn1295_ tn1296_ tn1293_ tn1294_; have tqz_ := qz41_; omega), by (have t_c1 := neI c1; have t_c2 := neI c2; have t_c3 := neI c3; have t_c4 := neI c4; have : (0 : Int32).toInt = 0 := qI_0; have tnb_ := nib7 tn1290_ tn1291_ tn1292_ tn1295_ tn1296_ tn1293_ tn1294_; have tqz_ := qz41_; omega), by (have t_c1 := neI c1; have t_c2 := neI c2; have t_c3 := neI c3; have t_c4 := neI c4; have : (0 : Int32).toInt = 0 := qI_0; have tnb_ := nib7 tn1290_ tn1291_ tn1292_ tn1295_ tn1296_ tn1293_ tn1294_; have tqz_ := qz41_; omega), by (have t_c1 := neI c1; have t_c2 := neI c2; have t_c3 := neI c3; have t_c4 := neI c4; have : (0 : Int32).toInt = 0 := qI_0; have tnb_ := nib7 tn1290_ tn1291_ tn1292_ tn1295_ tn1296_ tn1293_ tn1294_; have tqz_ := qz41_; omega), ?_⟩; rw [eB, eA]; have e7 := w6.2.2.2.2.2.2; exact e7)⟩, ⟨by rw [ht]; exact hP9, hD9⟩⟩, hS.F ht⟩) hS.2.2 dX11_other_94
        · skip
          have t_c1 := neI c1
          have t_c2 := neI c2
          have t_c3 := neI c3
          have t_c4 := eqI c4
          have : (0 : Int32).toInt = 0 := qI_0
          have t_n0 : (nI N).toInt = (N : Int) := tn1290_ ()
          have t_n1 : (nI B).toInt = (B : Int) := tn1291_ ()
          have t_n2 : (nI T).toInt = (T : Int) := tn1292_ ()
          have tn1297_ : nIT nsp := fun _ => nI_toInt (by omega)
          have t_n3 : (nI nsp).toInt = (nsp : Int) := tn1297_ ()
          have tn1298_ : nIT nhe := fun _ => nI_toInt (by omega)
          have t_n4 : (nI nhe).toInt = (nhe : Int) := tn1298_ ()
          have t_n5 : (nI S).toInt = (S : Int) := tn1293_ ()
          have t_n6 : (nI M).toInt = (M : Int) := tn1294_ ()
          exfalso; omega
      · skip
        have t_c1 := neI c1
        have t_c2 := neI c2
        have t_c3 := eqI c3
        have : (0 : Int32).toInt = 0 := qI_0
        have t_n0 : (nI N).toInt = (N : Int) := tn1290_ ()
        have t_n1 : (nI B).toInt = (B : Int) := tn1291_ ()
        have t_n2 : (nI T).toInt = (T : Int) := tn1292_ ()
        have tn1299_ : nIT nsp := fun _ => nI_toInt (by omega)
        have t_n3 : (nI nsp).toInt = (nsp : Int) := tn1299_ ()
        have tn1300_ : nIT nhe := fun _ => nI_toInt (by omega)
        have t_n4 : (nI nhe).toInt = (nhe : Int) := tn1300_ ()
        have t_n5 : (nI S).toInt = (S : Int) := tn1293_ ()
        have t_n6 : (nI M).toInt = (M : Int) := tn1294_ ()
        exfalso; omega
    · skip
      have t_c1 := neI c1
      have t_c2 := eqI c2
      have : (0 : Int32).toInt = 0 := qI_0
      have t_n0 : (nI N).toInt = (N : Int) := tn1290_ ()
      have t_n1 : (nI B).toInt = (B : Int) := tn1291_ ()
      have t_n2 : (nI T).toInt = (T : Int) := tn1292_ ()
      have tn1301_ : nIT nsp := fun _ => nI_toInt (by omega)
      have t_n3 : (nI nsp).toInt = (nsp : Int) := tn1301_ ()
      have tn1302_ : nIT nhe := fun _ => nI_toInt (by omega)
      have t_n4 : (nI nhe).toInt = (nhe : Int) := tn1302_ ()
      have t_n5 : (nI S).toInt = (S : Int) := tn1293_ ()
      have t_n6 : (nI M).toInt = (M : Int) := tn1294_ ()
      exfalso; omega
  · skip
    refine lv_aload_n hx hb dX11_other_7 rfl (lv_at hl 0 rfl) ?_
    refine va_get (D := (dC, dI)) (ci := 11) (v := .int vtk) (C := RX11) (T := TX11) (N := 35) hx hb hg inG11 hown hK.1 hP 0 rfl rfl 17 (Nat.le_of_ble_eq_true rfl) (hg _ wt_895) (fun _ h9 => h9) rfl dX11_other_8 ?_
    refine lv_iconst (v := 2) hx hb dX11_other_11 rfl ?_
    refine lv_icmp_eq (tgt := 20) hx hb dX11_other_12 rfl (fun c13 => ?_) (fun c13 => ?_)
    · skip
      refine lv_aload_n hx hb dX11_other_20 rfl (lv_at hl 0 rfl) ?_
      refine va_get (D := (dC, dI)) (ci := 11) (v := .int vbr) (C := RX11) (T := TX11) (N := 35) hx hb hg inG11 hown hK.1 hP 0 rfl rfl 13 (Nat.le_of_ble_eq_true rfl) (hg _ wt_891) (fun _ h9 => h9) rfl dX11_other_21 ?_
      refine lv_if_ne (tgt := 47) hx hb dX11_other_24 rfl (fun c14 => ?_) (fun c14 => ?_)
      · skip
        have t_c1 := eqI c1
        have t_c13 := eqI c13
        have t_c14 := neI c14
        have : (0 : Int32).toInt = 0 := qI_0
        have : (2 : Int32).toInt = 2 := qI_2
        have t_n0 : (nI N).toInt = (N : Int) := tn1290_ ()
        have t_n1 : (nI B).toInt = (B : Int) := tn1291_ ()
        have t_n2 : (nI T).toInt = (T : Int) := tn1292_ ()
        have tn1303_ : nIT nsp := fun _ => nI_toInt (by omega)
        have t_n3 : (nI nsp).toInt = (nsp : Int) := tn1303_ ()
        have tn1304_ : nIT nhe := fun _ => nI_toInt (by omega)
        have t_n4 : (nI nhe).toInt = (nhe : Int) := tn1304_ ()
        have t_n5 : (nI S).toInt = (S : Int) := tn1293_ ()
        have t_n6 : (nI M).toInt = (M : Int) := tn1294_ ()
        exfalso; omega
      · skip
        refine lv_aload_n hx hb dX11_other_27 rfl (lv_at hl 0 rfl) ?_
        refine va_get (D := (dC, dI)) (ci := 11) (v := .int vva) (C := RX11) (T := TX11) (N := 35) hx hb hg inG11 hown hK.1 hP 0 rfl rfl 18 (Nat.le_of_ble_eq_true rfl) (hg _ wt_896) (fun _ h9 => h9) rfl dX11_other_28 ?_
        refine lv_i2l (v := vva.toInt64) hx hb dX11_other_31 rfl ?_
        refine lv_iload_n hx hb dX11_other_32 rfl (lv_at hl 1 rfl) ?_
        refine lv_i2l (v := lo.toInt64) hx hb dX11_other_33 rfl ?_
        refine lv_iload_n hx hb dX11_other_34 rfl (lv_at hl 2 rfl) ?_
        refine lv_i2l (v := xh.toInt64) hx hb dX11_other_35 rfl ?_
        have hPc := hP.sub (ws' := []) [] rfl
        refine va_calli (va_runS (As := [.long vva.toInt64, .long lo.toInt64, .long xh.toInt64]) (rest := []) ⟨hx, hb, hml, hown, hg⟩ (c_X11_in l dC dI G _ vva.toInt64 lo.toInt64 xh.toInt64) (kwS hg mfX11_in wt_992 ⟨Nat.le_of_ble_eq_true rfl, Nat.le_of_ble_eq_true rfl⟩) (preSR hK hPc) rfl rfl hl.1 rfl (lv_room (Nat.le_of_ble_eq_true rfl)) dX11_other_36 ⟨Nat.le_of_ble_eq_true rfl, Nat.le_of_ble_eq_true rfl⟩) hS (fun q h1 h2 => absurd h2 (Nat.not_le.mpr h1)) (fun q h => hA q (Nat.le_trans hS.1 h)) (fun r15 ur15 t H1 locs ht hvm w16 hB hz1 hk1 hS => ?_)
        have hP := keepR hP hk1
        obtain ⟨w16, w16x⟩ := w16
        try simp only [l_ii] at w16
        subst w16
        refine lv_if_ne (tgt := 47) hx hb dX11_other_39 rfl (fun c17 => ?_) (fun c17 => ?_)
        · skip
          have b18 := if10_p c17
          refine lv_aload_n hx hb dX11_other_47 rfl (lv_at hl 0 rfl) ?_
          refine va_get (D := (dC, dI)) (ci := 11) (v := .int vbr) (C := RX11) (T := TX11) (N := 35) hx hb hg inG11 hown hK.1 hP 0 rfl rfl 13 (Nat.le_of_ble_eq_true rfl) (hg _ wt_891) (fun _ h9 => h9) rfl dX11_other_48 ?_
          refine lv_if_ne (tgt := 71) hx hb dX11_other_51 rfl (fun c19 => ?_) (fun c19 => ?_)
          · skip
            have t_c1 := eqI c1
            have t_c13 := eqI c13
            have t_c14 := eqI c14
            have t_b18 := b18
            have t_c19 := neI c19
            have : (0 : Int32).toInt = 0 := qI_0
            have : (2 : Int32).toInt = 2 := qI_2
            have t_n0 : (nI N).toInt = (N : Int) := tn1290_ ()
            have t_n1 : (nI B).toInt = (B : Int) := tn1291_ ()
            have t_n2 : (nI T).toInt = (T : Int) := tn1292_ ()
            have tn1305_ : nIT nsp := fun _ => nI_toInt (by omega)
            have t_n3 : (nI nsp).toInt = (nsp : Int) := tn1305_ ()
            have tn1306_ : nIT nhe := fun _ => nI_toInt (by omega)
            have t_n4 : (nI nhe).toInt = (nhe : Int) := tn1306_ ()
            have t_n5 : (nI S).toInt = (S : Int) := tn1293_ ()
            have t_n6 : (nI M).toInt = (M : Int) := tn1294_ ()
            exfalso; omega
          · skip
            refine lv_iload_n hx hb dX11_other_54 rfl (lv_at hl 3 rfl) ?_
            refine lv_aload_n hx hb dX11_other_55 rfl (lv_at hl 0 rfl) ?_
            refine va_get (D := (dC, dI)) (ci := 11) (v := .int vva) (C := RX11) (T := TX11) (N := 35) hx hb hg inG11 hown hK.1 hP 0 rfl rfl 18 (Nat.le_of_ble_eq_true rfl) (hg _ wt_896) (fun _ h9 => h9) rfl dX11_other_56 ?_
            refine lv_ishr hx hb dX11_other_59 ?_
            refine lv_iconst (v := 1) hx hb dX11_other_60 rfl ?_
            refine lv_iand hx hb dX11_other_61 ?_
            refine lv_iconst (v := 1) hx hb dX11_other_62 rfl ?_
            refine lv_icmp_ne (tgt := 71) hx hb dX11_other_63 rfl (fun c20 => ?_) (fun c20 => ?_)
            · skip
              refine lv_aload_n hx hb dX11_other_71 rfl (lv_at hl 0 rfl) ?_
              refine va_get (D := (dC, dI)) (ci := 11) (v := .int vbr) (C := RX11) (T := TX11) (N := 35) hx hb hg inG11 hown hK.1 hP 0 rfl rfl 13 (Nat.le_of_ble_eq_true rfl) (hg _ wt_891) (fun _ h9 => h9) rfl dX11_other_72 ?_
              refine lv_if_ne (tgt := 85) hx hb dX11_other_75 rfl (fun c21 => ?_) (fun c21 => ?_)
              · skip
                have t_c1 := eqI c1
                have t_c13 := eqI c13
                have t_c14 := eqI c14
                have t_b18 := b18
                have t_c19 := eqI c19
                have t_c20 := neI c20
                have t_c21 := neI c21
                have : (0 : Int32).toInt = 0 := qI_0
                have : (1 : Int32).toInt = 1 := qI_1
                have : (2 : Int32).toInt = 2 := qI_2
                have t_n0 : (nI N).toInt = (N : Int) := tn1290_ ()
                have t_n1 : (nI B).toInt = (B : Int) := tn1291_ ()
                have t_n2 : (nI T).toInt = (T : Int) := tn1292_ ()
                have tn1307_ : nIT nsp := fun _ => nI_toInt (by omega)
                have t_n3 : (nI nsp).toInt = (nsp : Int) := tn1307_ ()
                have tn1308_ : nIT nhe := fun _ => nI_toInt (by omega)
                have t_n4 : (nI nhe).toInt = (nhe : Int) := tn1308_ ()
                have t_n5 : (nI S).toInt = (S : Int) := tn1293_ ()
                have t_n6 : (nI M).toInt = (M : Int) := tn1294_ ()
                exfalso; omega
              · skip
                refine lv_aload_n hx hb dX11_other_78 rfl (lv_at hl 0 rfl) ?_
                refine va_get (D := (dC, dI)) (ci := 11) (v := .int vva) (C := RX11) (T := TX11) (N := 35) hx hb hg inG11 hown hK.1 hP 0 rfl rfl 18 (Nat.le_of_ble_eq_true rfl) (hg _ wt_896) (fun _ h9 => h9) rfl dX11_other_79 ?_
                refine lv_goto (tgt := 86) hx hb dX11_other_82 rfl ?_
                refine lv_istore (lv' := [(4, .int vva), (0, .ref h0), (1, .int lo), (2, .int xh), (3, .int sm)]) hx hb dX11_other_86 hl (by decide) rfl (fun ls hl => ?_)
                refine lv_aload_n hx hb dX11_other_88 rfl (lv_at hl 1 rfl) ?_
                obtain ⟨hPc, hDc, hFc⟩ := va_sub3 (ws' := [(h0, .inr (11, [.ref st, .int (nI N), .int (nI B), .ref rp, .int vrs, .int vrb, .int vhs, .int vca, .int vxs, .int vxb, .ref tp, .int (nI T), .int vfa, .int vbr, .int vba, .int (nI nsp), .int (nI nhe), .int vtk, .int vva, .ref cu, .ref lt, .ref od, .ref th, .ref be, .ref ln, .int (nI S), .ref ma, .int (nI M), .ref ah, .ref bh, .ref ik, .ref la, .ref lg, .ref ce, .int vto])), (tp, .inl (G 0, 320, .inl ftp))]) hP hD hS hA [0, 1] (by decide) rfl
                have tn1309_ : nIT nsp := fun _ => nI_toInt (by first | omega | (have t_c1 := eqI c1; have t_c13 := eqI c13; have t_c14 := eqI c14; have t_b18 := b18; have t_c19 := eqI c19; have t_c20 := neI c20; have t_c21 := eqI c21; have tqz_ := qz5_; omega))
                have tn1310_ : nIT nhe := fun _ => nI_toInt (by first | omega | (have t_c1 := eqI c1; have t_c13 := eqI c13; have t_c14 := eqI c14; have t_b18 := b18; have t_c19 := eqI c19; have t_c20 := neI c20; have t_c21 := eqI c21; have tqz_ := qz5_; omega))
                refine va_callv (va_runV (As := []) (rest := []) ⟨hx, hb, hml, hown, hg⟩ (c_X11_goesOnE l dC dI G _ h0 st N B rp tp T nsp nhe cu lt od th be ln S ma M ah bh ik la lg ce vrs vrb vhs vca vxs vxb vfa vbr vba vtk vva vto ftp hN hB_ hT_ hS0 hM_ hbr hsp (by have t_c1 := eqI c1; have t_c13 := eqI c13; have t_c14 := eqI c14; have t_b18 := b18; have t_c19 := eqI c19; have t_c20 := neI c20; have t_c21 := eqI c21; have tqz_ := qz5_; have tnb_ := nib7 tn1290_ tn1291_ tn1292_ tn1309_ tn1310_ tn1293_ tn1294_; have tqz_ := qz41_; omega) htb) (kwV hg mfX11_goesOn wt_999 ⟨Nat.le_of_ble_eq_true rfl, Nat.le_of_ble_eq_true rfl⟩) (preVW hK hPc hDc (ci := 11) (r := (RX11, TX11, 35)) rfl rfl) rfl rfl hl.1 rfl (lv_room (Nat.le_of_ble_eq_true rfl)) dX11_other_89 ⟨Nat.le_of_ble_eq_true rfl, Nat.le_of_ble_eq_true rfl⟩) hS (fun q _ h => hFc q h) hFc (fun ur22 t H1 locs ht hvm w23 hB hz1 hk1 hS => ?_)
                obtain ⟨u24, u25, u26, u27, u28, u29⟩ := ur22
                obtain ⟨hP1, hD1⟩ := hB
                rw [ht] at hP1
                obtain ⟨hP, hD⟩ := va_join (wr := []) (w1 := [(h0, .inr (11, [.ref st, .int (nI N), .int (nI B), .ref rp, .int vrs, .int vrb, .int vhs, .int vca, .int vxs, .int vxb, .ref tp, .int (nI T), .int vfa, .int u24, .int u25, .int (nI u26), .int (nI u27), .int u28, .int u29, .ref cu, .ref lt, .ref od, .ref th, .ref be, .ref ln, .int (nI S), .ref ma, .int (nI M), .ref ah, .ref bh, .ref ik, .ref la, .ref lg, .ref ce, .int vto])), (tp, .inl (G 0, 320, .inl ftp))]) hP hD [0, 1] [] rfl rfl (by decide) (by decide) hk1 hFc hP1 hD1
                have w23 : 0 ≤ u24.toInt ∧ (vbr.toInt = 0 ∨ u24.toInt = vbr.toInt) ∧ nsp ≤ u26 ∧ u26 ≤ T ∧ u27 ≤ u26 ∧ (0 < vbr.toInt ∨ u28.toInt = 0 ∨ nsp < u26) ∧ (u24, u25, u26, u27, u28, u29) = gOn ftp T vbr vba nsp nhe vtk vva := w23
                generalize H1 = H at hP hS ⊢
                refine lv_iload hx hb dX11_other_92 (lv_at hl 0 rfl) ?_
                have hpost : (lo.toInt ≤ (vva : Int32).toInt ∧ (vva : Int32).toInt ≤ xh.toInt) ∧ (vva : Int32) = otV lo xh sm vbr vtk vva := by
                  have eC : otC lo xh sm vbr vtk vva = 0 := (by unfold otC; (repeat (first | rw [if_pos (by with_reducible assumption)] | rw [if_neg (by with_reducible assumption)] | rw [if_pos (by (have t_c1 := eqI c1; have t_c13 := eqI c13; have t_c14 := eqI c14; have t_b18 := b18; have t_c19 := eqI c19; have t_c20 := neI c20; have t_c21 := eqI c21; have tqz_ := qz5_; have tnb_ := nib7 tn1290_ tn1291_ tn1292_ tn1309_ tn1310_ tn1293_ tn1294_; have tqz_ := qz41_; omega))] | rw [if_neg (by (have t_c1 := eqI c1; have t_c13 := eqI c13; have t_c14 := eqI c14; have t_b18 := b18; have t_c19 := eqI c19; have t_c20 := neI c20; have t_c21 := eqI c21; have tqz_ := qz5_; have tnb_ := nib7 tn1290_ tn1291_ tn1292_ tn1309_ tn1310_ tn1293_ tn1294_; have tqz_ := qz41_; omega))] | rw [if_pos (by decide)] | rw [if_neg (by decide)])))
                  have eB : otB lo xh sm vbr vtk vva = vbr := (by unfold otB; rw [eC, if_pos rfl])
                  have eA : otA lo xh sm vbr vba nhe vtk vva = vba := (by unfold otA; rw [eC, if_pos rfl])
                  refine ⟨⟨by (have t_c1 := eqI c1; have t_c13 := eqI c13; have t_c14 := eqI c14; have t_b18 := b18; have t_c19 := eqI c19; have t_c20 := neI c20; have t_c21 := eqI c21; have tqz_ := qz5_; have tnb_ := nib7 tn1290_ tn1291_ tn1292_ tn1309_ tn1310_ tn1293_ tn1294_; have tqz_ := qz41_; omega), by (have t_c1 := eqI c1; have t_c13 := eqI c13; have t_c14 := eqI c14; have t_b18 := b18; have t_c19 := eqI c19; have t_c20 := neI c20; have t_c21 := eqI c21; have tqz_ := qz5_; have tnb_ := nib7 tn1290_ tn1291_ tn1292_ tn1309_ tn1310_ tn1293_ tn1294_; have tqz_ := qz41_; omega)⟩, ?_⟩
                  unfold otV
                  rw [eB]
                  first | rw [if_pos (by with_reducible assumption)] | rw [if_neg (by with_reducible assumption)]
                obtain ⟨hP9, hD9⟩ := va_sub2 (ws' := [(h0, .inr (11, [.ref st, .int (nI N), .int (nI B), .ref rp, .int vrs, .int vrb, .int vhs, .int vca, .int vxs, .int vxb, .ref tp, .int (nI T), .int vfa, .int u24, .int u25, .int (nI u26), .int (nI u27), .int u28, .int u29, .ref cu, .ref lt, .ref od, .ref th, .ref be, .ref ln, .int (nI S), .ref ma, .int (nI M), .ref ah, .ref bh, .ref ik, .ref la, .ref lg, .ref ce, .int vto])), (tp, .inl (G 0, 320, .inl ftp))]) hP hD [0, 1] (by decide) rfl
                refine W.widen (k := 0) (n := 0) (Nat.le_of_ble_eq_true rfl) (Nat.le_of_ble_eq_true rfl) ?_
                exact W.iret (v := vva) hx hb hr (fun t ht hW => ⟨⟨vva, (u24, u25, u26, u27, u28, u29), rfl, ⟨hpost, (by have eC : otC lo xh sm vbr vtk vva = 0 := (by unfold otC; (repeat (first | rw [if_pos (by with_reducible assumption)] | rw [if_neg (by with_reducible assumption)] | rw [if_pos (by (have t_c1 := eqI c1; have t_c13 := eqI c13; have t_c14 := eqI c14; have t_b18 := b18; have t_c19 := eqI c19; have t_c20 := neI c20; have t_c21 := eqI c21; have tqz_ := qz5_; have tnb_ := nib7 tn1290_ tn1291_ tn1292_ tn1309_ tn1310_ tn1293_ tn1294_; have tqz_ := qz41_; omega))] | rw [if_neg (by (have t_c1 := eqI c1; have t_c13 := eqI c13; have t_c14 := eqI c14; have t_b18 := b18; have t_c19 := eqI c19; have t_c20 := neI c20; have t_c21 := eqI c21; have tqz_ := qz5_; have tnb_ := nib7 tn1290_ tn1291_ tn1292_ tn1309_ tn1310_ tn1293_ tn1294_; have tqz_ := qz41_; omega))] | rw [if_pos (by decide)] | rw [if_neg (by decide)]))); have eB : otB lo xh sm vbr vtk vva = vbr := (by unfold otB; rw [eC, if_pos rfl]); have eA : otA lo xh sm vbr vba nhe vtk vva = vba := (by unfold otA; rw [eC, if_pos rfl]); refine ⟨by (have t_c1 := eqI c1; have t_c13 := eqI c13; have t_c14 := eqI c14; have t_b18 := b18; have t_c19 := eqI c19; have t_c20 := neI c20; have t_c21 := eqI c21; have tqz_ := qz5_; have tnb_ := nib7 tn1290_ tn1291_ tn1292_ tn1309_ tn1310_ tn1293_ tn1294_; have tqz_ := qz41_; omega), by (have t_c1 := eqI c1; have t_c13 := eqI c13; have t_c14 := eqI c14; have t_b18 := b18; have t_c19 := eqI c19; have t_c20 := neI c20; have t_c21 := eqI c21; have tqz_ := qz5_; have tnb_ := nib7 tn1290_ tn1291_ tn1292_ tn1309_ tn1310_ tn1293_ tn1294_; have tqz_ := qz41_; omega), by (have t_c1 := eqI c1; have t_c13 := eqI c13; have t_c14 := eqI c14; have t_b18 := b18; have t_c19 := eqI c19; have t_c20 := neI c20; have t_c21 := eqI c21; have tqz_ := qz5_; have tnb_ := nib7 tn1290_ tn1291_ tn1292_ tn1309_ tn1310_ tn1293_ tn1294_; have tqz_ := qz41_; omega), by (have t_c1 := eqI c1; have t_c13 := eqI c13; have t_c14 := eqI c14; have t_b18 := b18; have t_c19 := eqI c19; have t_c20 := neI c20; have t_c21 := eqI c21; have tqz_ := qz5_; have tnb_ := nib7 tn1290_ tn1291_ tn1292_ tn1309_ tn1310_ tn1293_ tn1294_; have tqz_ := qz41_; omega), by (have t_c1 := eqI c1; have t_c13 := eqI c13; have t_c14 := eqI c14; have t_b18 := b18; have t_c19 := eqI c19; have t_c20 := neI c20; have t_c21 := eqI c21; have tqz_ := qz5_; have tnb_ := nib7 tn1290_ tn1291_ tn1292_ tn1309_ tn1310_ tn1293_ tn1294_; have tqz_ := qz41_; omega), by (have t_c1 := eqI c1; have t_c13 := eqI c13; have t_c14 := eqI c14; have t_b18 := b18; have t_c19 := eqI c19; have t_c20 := neI c20; have t_c21 := eqI c21; have tqz_ := qz5_; have tnb_ := nib7 tn1290_ tn1291_ tn1292_ tn1309_ tn1310_ tn1293_ tn1294_; have tqz_ := qz41_; omega), ?_⟩; rw [eB, eA]; have e7 := w23.2.2.2.2.2.2; exact e7)⟩, ⟨by rw [ht]; exact hP9, hD9⟩⟩, hS.F ht⟩) hS.2.2 dX11_other_94
            · skip
              refine lv_aload_n hx hb dX11_other_66 rfl (lv_at hl 0 rfl) ?_
              refine lv_iconst (v := 4) hx hb dX11_other_67 rfl ?_
              obtain ⟨hPc, hDc, hFc⟩ := va_sub3 (ws' := [(h0, .inr (11, [.ref st, .int (nI N), .int (nI B), .ref rp, .int vrs, .int vrb, .int vhs, .int vca, .int vxs, .int vxb, .ref tp, .int (nI T), .int vfa, .int vbr, .int vba, .int (nI nsp), .int (nI nhe), .int vtk, .int vva, .ref cu, .ref lt, .ref od, .ref th, .ref be, .ref ln, .int (nI S), .ref ma, .int (nI M), .ref ah, .ref bh, .ref ik, .ref la, .ref lg, .ref ce, .int vto]))]) hP hD hS hA [0] (by decide) rfl
              have tn1311_ : nIT nsp := fun _ => nI_toInt (by first | omega | (have t_c1 := eqI c1; have t_c13 := eqI c13; have t_c14 := eqI c14; have t_b18 := b18; have t_c19 := eqI c19; have t_c20 := eqI c20; have tqz_ := qz5_; omega))
              have tn1312_ : nIT nhe := fun _ => nI_toInt (by first | omega | (have t_c1 := eqI c1; have t_c13 := eqI c13; have t_c14 := eqI c14; have t_b18 := b18; have t_c19 := eqI c19; have t_c20 := eqI c20; have tqz_ := qz5_; omega))
              refine va_callv (va_runV (As := [.int 4]) (rest := []) ⟨hx, hb, hml, hown, hg⟩ (c_X11_failsE l dC dI G _ h0 st N B rp tp T nhe cu lt od th be ln S ma M ah bh ik la lg ce 4 vrs vrb vhs vca vxs vxb vfa vbr vba (nI nsp) vtk vva vto hN hB_ hT_ hS0 hM_ (by have t_c1 := eqI c1; have t_c13 := eqI c13; have t_c14 := eqI c14; have t_b18 := b18; have t_c19 := eqI c19; have t_c20 := eqI c20; have tqz_ := qz5_; have tnb_ := nib7 tn1290_ tn1291_ tn1292_ tn1311_ tn1312_ tn1293_ tn1294_; have : (4 : Int32).toInt = 4 := qI_4; omega) hbr (by first | omega | (have t_c1 := eqI c1; have t_c13 := eqI c13; have t_c14 := eqI c14; have t_b18 := b18; have t_c19 := eqI c19; have t_c20 := eqI c20; have tqz_ := qz5_; have tnb_ := nib7 tn1290_ tn1291_ tn1292_ tn1311_ tn1312_ tn1293_ tn1294_; have : (4 : Int32).toInt = 4 := qI_4; omega))) (kwV hg mfX11_fails wt_1011 ⟨Nat.le_of_ble_eq_true rfl, Nat.le_of_ble_eq_true rfl⟩) (preVW hK hPc hDc (ci := 11) (r := (RX11, TX11, 35)) rfl rfl) rfl rfl hl.1 rfl (lv_room (Nat.le_of_ble_eq_true rfl)) dX11_other_68 ⟨Nat.le_of_ble_eq_true rfl, Nat.le_of_ble_eq_true rfl⟩) hS (fun q _ h => hFc q h) hFc (fun ur30 t H1 locs ht hvm w31 hB hz1 hk1 hS => ?_)
              obtain ⟨u32, u33⟩ := ur30
              obtain ⟨hP1, hD1⟩ := hB
              rw [ht] at hP1
              obtain ⟨hP, hD⟩ := va_join (wr := [(tp, .inl (G 0, 320, .inl ftp))]) (w1 := [(h0, .inr (11, [.ref st, .int (nI N), .int (nI B), .ref rp, .int vrs, .int vrb, .int vhs, .int vca, .int vxs, .int vxb, .ref tp, .int (nI T), .int vfa, .int u32, .int u33, .int (nI nsp), .int (nI nhe), .int vtk, .int vva, .ref cu, .ref lt, .ref od, .ref th, .ref be, .ref ln, .int (nI S), .ref ma, .int (nI M), .ref ah, .ref bh, .ref ik, .ref la, .ref lg, .ref ce, .int vto]))]) hP hD [0] [1] rfl rfl (by decide) (by decide) hk1 hFc hP1 hD1
              have w31 : 0 < u32.toInt ∧ u32 = flB (4 : Int32) vbr ∧ u33 = flA vbr vba nhe := w31
              generalize H1 = H at hP hS ⊢
              refine lv_aload_n hx hb dX11_other_71 rfl (lv_at hl 0 rfl) ?_
              refine va_get (D := (dC, dI)) (ci := 11) (v := .int u32) (C := RX11) (T := TX11) (N := 35) hx hb hg inG11 hown hK.1 hP 1 rfl rfl 13 (Nat.le_of_ble_eq_true rfl) (hg _ wt_891) (fun _ h9 => h9) rfl dX11_other_72 ?_
              refine lv_if_ne (tgt := 85) hx hb dX11_other_75 rfl (fun c34 => ?_) (fun c34 => ?_)
              · skip
                refine lv_iload_n hx hb dX11_other_85 rfl (lv_at hl 1 rfl) ?_
                refine lv_istore (lv' := [(4, .int lo), (0, .ref h0), (1, .int lo), (2, .int xh), (3, .int sm)]) hx hb dX11_other_86 hl (by decide) rfl (fun ls hl => ?_)
                refine lv_aload_n hx hb dX11_other_88 rfl (lv_at hl 1 rfl) ?_
                obtain ⟨hPc, hDc, hFc⟩ := va_sub3 (ws' := [(h0, .inr (11, [.ref st, .int (nI N), .int (nI B), .ref rp, .int vrs, .int vrb, .int vhs, .int vca, .int vxs, .int vxb, .ref tp, .int (nI T), .int vfa, .int u32, .int u33, .int (nI nsp), .int (nI nhe), .int vtk, .int vva, .ref cu, .ref lt, .ref od, .ref th, .ref be, .ref ln, .int (nI S), .ref ma, .int (nI M), .ref ah, .ref bh, .ref ik, .ref la, .ref lg, .ref ce, .int vto])), (tp, .inl (G 0, 320, .inl ftp))]) hP hD hS hA [1, 0] (by decide) rfl
                refine va_callv (va_runV (As := []) (rest := []) ⟨hx, hb, hml, hown, hg⟩ (c_X11_goesOnE l dC dI G _ h0 st N B rp tp T nsp nhe cu lt od th be ln S ma M ah bh ik la lg ce vrs vrb vhs vca vxs vxb vfa u32 u33 vtk vva vto ftp hN hB_ hT_ hS0 hM_ (by have t_c1 := eqI c1; have t_c13 := eqI c13; have t_c14 := eqI c14; have t_b18 := b18; have t_c19 := eqI c19; have t_c20 := eqI c20; have t_w31 := w31.1; have t_c34 := neI c34; have tqz_ := qz5_; have tnb_ := nib7 tn1290_ tn1291_ tn1292_ tn1311_ tn1312_ tn1293_ tn1294_; have tqz_ := qz41_; omega) hsp (by have t_c1 := eqI c1; have t_c13 := eqI c13; have t_c14 := eqI c14; have t_b18 := b18; have t_c19 := eqI c19; have t_c20 := eqI c20; have t_w31 := w31.1; have t_c34 := neI c34; have tqz_ := qz5_; have tnb_ := nib7 tn1290_ tn1291_ tn1292_ tn1311_ tn1312_ tn1293_ tn1294_; have tqz_ := qz41_; omega) htb) (kwV hg mfX11_goesOn wt_999 ⟨Nat.le_of_ble_eq_true rfl, Nat.le_of_ble_eq_true rfl⟩) (preVW hK hPc hDc (ci := 11) (r := (RX11, TX11, 35)) rfl rfl) rfl rfl hl.1 rfl (lv_room (Nat.le_of_ble_eq_true rfl)) dX11_other_89 ⟨Nat.le_of_ble_eq_true rfl, Nat.le_of_ble_eq_true rfl⟩) hS (fun q _ h => hFc q h) hFc (fun ur35 t H1 locs ht hvm w36 hB hz1 hk1 hS => ?_)
                obtain ⟨u37, u38, u39, u40, u41, u42⟩ := ur35
                obtain ⟨hP1, hD1⟩ := hB
                rw [ht] at hP1
                obtain ⟨hP, hD⟩ := va_join (wr := []) (w1 := [(h0, .inr (11, [.ref st, .int (nI N), .int (nI B), .ref rp, .int vrs, .int vrb, .int vhs, .int vca, .int vxs, .int vxb, .ref tp, .int (nI T), .int vfa, .int u37, .int u38, .int (nI u39), .int (nI u40), .int u41, .int u42, .ref cu, .ref lt, .ref od, .ref th, .ref be, .ref ln, .int (nI S), .ref ma, .int (nI M), .ref ah, .ref bh, .ref ik, .ref la, .ref lg, .ref ce, .int vto])), (tp, .inl (G 0, 320, .inl ftp))]) hP hD [1, 0] [] rfl rfl (by decide) (by decide) hk1 hFc hP1 hD1
                have w36 : 0 ≤ u37.toInt ∧ (u32.toInt = 0 ∨ u37.toInt = u32.toInt) ∧ nsp ≤ u39 ∧ u39 ≤ T ∧ u40 ≤ u39 ∧ (0 < u32.toInt ∨ u41.toInt = 0 ∨ nsp < u39) ∧ (u37, u38, u39, u40, u41, u42) = gOn ftp T u32 u33 nsp nhe vtk vva := w36
                generalize H1 = H at hP hS ⊢
                refine lv_iload hx hb dX11_other_92 (lv_at hl 0 rfl) ?_
                have hpost : (lo.toInt ≤ (lo : Int32).toInt ∧ (lo : Int32).toInt ≤ xh.toInt) ∧ (lo : Int32) = otV lo xh sm vbr vtk vva := by
                  have t_c1 := eqI c1
                  have t_c13 := eqI c13
                  have t_c14 := eqI c14
                  have t_b18 := b18
                  have t_c19 := eqI c19
                  have t_c20 := eqI c20
                  have t_w31 := w31.1
                  have t_c34 := neI c34
                  have : (0 : Int32).toInt = 0 := qI_0
                  have : (1 : Int32).toInt = 1 := qI_1
                  have : (2 : Int32).toInt = 2 := qI_2
                  have t_n0 : (nI N).toInt = (N : Int) := tn1290_ ()
                  have t_n1 : (nI B).toInt = (B : Int) := tn1291_ ()
                  have t_n2 : (nI T).toInt = (T : Int) := tn1292_ ()
                  have t_n3 : (nI nsp).toInt = (nsp : Int) := tn1311_ ()
                  have t_n4 : (nI nhe).toInt = (nhe : Int) := tn1312_ ()
                  have t_n5 : (nI S).toInt = (S : Int) := tn1293_ ()
                  have t_n6 : (nI M).toInt = (M : Int) := tn1294_ ()
                  have z0 : (0 : Int32).toInt = 0 := qI_0
                  have z1 : (1 : Int32).toInt = 1 := qI_1
                  have z2 : (2 : Int32).toInt = 2 := qI_2
                  have z3 : (3 : Int32).toInt = 3 := qI_3
                  have z5 : (5 : Int32).toInt = 5 := qI_5
                  have z9 : (9 : Int32).toInt = 9 := qI_9
                  have eC : otC lo xh sm vbr vtk vva = 4 := (by unfold otC; (repeat (first | rw [if_pos (by with_reducible assumption)] | rw [if_neg (by with_reducible assumption)] | rw [if_pos (by omega)] | rw [if_neg (by omega)] | rw [if_pos (by decide)] | rw [if_neg (by decide)])))
                  have z9 : vbr = 0 := (by first | with_reducible assumption | assumption)
                  have q1 := w31.2.1
                  have q2 := w31.2.2
                  unfold flB at q1
                  unfold flA at q2
                  rw [if_pos z9] at q1 q2
                  have eB : otB lo xh sm vbr vtk vva = 4 := (by unfold otB; rw [eC, if_neg (by decide)])
                  have eA : otA lo xh sm vbr vba nhe vtk vva = nI nhe := (by unfold otA; rw [eC, if_neg (by decide)])
                  refine ⟨⟨by omega, by omega⟩, ?_⟩
                  unfold otV
                  rw [eB, if_neg (by decide)]
                obtain ⟨hP9, hD9⟩ := va_sub2 (ws' := [(h0, .inr (11, [.ref st, .int (nI N), .int (nI B), .ref rp, .int vrs, .int vrb, .int vhs, .int vca, .int vxs, .int vxb, .ref tp, .int (nI T), .int vfa, .int u37, .int u38, .int (nI u39), .int (nI u40), .int u41, .int u42, .ref cu, .ref lt, .ref od, .ref th, .ref be, .ref ln, .int (nI S), .ref ma, .int (nI M), .ref ah, .ref bh, .ref ik, .ref la, .ref lg, .ref ce, .int vto])), (tp, .inl (G 0, 320, .inl ftp))]) hP hD [0, 1] (by decide) rfl
                refine W.widen (k := 0) (n := 0) (Nat.le_of_ble_eq_true rfl) (Nat.le_of_ble_eq_true rfl) ?_
                exact W.iret (v := lo) hx hb hr (fun t ht hW => ⟨⟨lo, (u37, u38, u39, u40, u41, u42), rfl, ⟨hpost, (by have t_c1 := eqI c1; have t_c13 := eqI c13; have t_c14 := eqI c14; have t_b18 := b18; have t_c19 := eqI c19; have t_c20 := eqI c20; have t_w31 := w31.1; have t_c34 := neI c34; have tqz_ := qz5_; have tnb_ := nib7 tn1290_ tn1291_ tn1292_ tn1311_ tn1312_ tn1293_ tn1294_; have tqz_ := qz41_; have eC : otC lo xh sm vbr vtk vva = 4 := (by unfold otC; (repeat (first | rw [if_pos (by with_reducible assumption)] | rw [if_neg (by with_reducible assumption)] | rw [if_pos (by omega)] | rw [if_neg (by omega)] | rw [if_pos (by decide)] | rw [if_neg (by decide)]))); have z9 : vbr = 0 := (by first | with_reducible assumption | assumption); have q1 := w31.2.1; have q2 := w31.2.2; unfold flB at q1; unfold flA at q2; rw [if_pos z9] at q1 q2; have eB : otB lo xh sm vbr vtk vva = 4 := (by unfold otB; rw [eC, if_neg (by decide)]); have eA : otA lo xh sm vbr vba nhe vtk vva = nI nhe := (by unfold otA; rw [eC, if_neg (by decide)]); refine ⟨by omega, by omega, by omega, by omega, by omega, by omega, ?_⟩; rw [eB, eA]; have e7 := w36.2.2.2.2.2.2; rw [q1, q2] at e7; exact e7)⟩, ⟨by rw [ht]; exact hP9, hD9⟩⟩, hS.F ht⟩) hS.2.2 dX11_other_94
              · skip
                have t_c1 := eqI c1
                have t_c13 := eqI c13
                have t_c14 := eqI c14
                have t_b18 := b18
                have t_c19 := eqI c19
                have t_c20 := eqI c20
                have t_w31 := w31.1
                have t_c34 := eqI c34
                have : (0 : Int32).toInt = 0 := qI_0
                have : (1 : Int32).toInt = 1 := qI_1
                have : (2 : Int32).toInt = 2 := qI_2
                have t_n0 : (nI N).toInt = (N : Int) := tn1290_ ()
                have t_n1 : (nI B).toInt = (B : Int) := tn1291_ ()
                have t_n2 : (nI T).toInt = (T : Int) := tn1292_ ()
                have t_n3 : (nI nsp).toInt = (nsp : Int) := tn1311_ ()
                have t_n4 : (nI nhe).toInt = (nhe : Int) := tn1312_ ()
                have t_n5 : (nI S).toInt = (S : Int) := tn1293_ ()
                have t_n6 : (nI M).toInt = (M : Int) := tn1294_ ()
                exfalso; omega
        · skip
          have b43 := if10_n c17
          refine lv_aload_n hx hb dX11_other_42 rfl (lv_at hl 0 rfl) ?_
          refine lv_iconst (v := 3) hx hb dX11_other_43 rfl ?_
          obtain ⟨hPc, hDc, hFc⟩ := va_sub3 (ws' := [(h0, .inr (11, [.ref st, .int (nI N), .int (nI B), .ref rp, .int vrs, .int vrb, .int vhs, .int vca, .int vxs, .int vxb, .ref tp, .int (nI T), .int vfa, .int vbr, .int vba, .int (nI nsp), .int (nI nhe), .int vtk, .int vva, .ref cu, .ref lt, .ref od, .ref th, .ref be, .ref ln, .int (nI S), .ref ma, .int (nI M), .ref ah, .ref bh, .ref ik, .ref la, .ref lg, .ref ce, .int vto]))]) hP hD hS hA [0] (by decide) rfl
          have tn1313_ : nIT nsp := fun _ => nI_toInt (by first | omega | (have t_c1 := eqI c1; have t_c13 := eqI c13; have t_c14 := eqI c14; have t_b43 := b43; have tqz_ := qz22_; omega))
          have tn1314_ : nIT nhe := fun _ => nI_toInt (by first | omega | (have t_c1 := eqI c1; have t_c13 := eqI c13; have t_c14 := eqI c14; have t_b43 := b43; have tqz_ := qz22_; omega))
          refine va_callv (va_runV (As := [.int 3]) (rest := []) ⟨hx, hb, hml, hown, hg⟩ (c_X11_failsE l dC dI G _ h0 st N B rp tp T nhe cu lt od th be ln S ma M ah bh ik la lg ce 3 vrs vrb vhs vca vxs vxb vfa vbr vba (nI nsp) vtk vva vto hN hB_ hT_ hS0 hM_ (by have t_c1 := eqI c1; have t_c13 := eqI c13; have t_c14 := eqI c14; have t_b43 := b43; have tqz_ := qz22_; have tnb_ := nib7 tn1290_ tn1291_ tn1292_ tn1313_ tn1314_ tn1293_ tn1294_; have : (3 : Int32).toInt = 3 := qI_3; omega) hbr (by first | omega | (have t_c1 := eqI c1; have t_c13 := eqI c13; have t_c14 := eqI c14; have t_b43 := b43; have tqz_ := qz22_; have tnb_ := nib7 tn1290_ tn1291_ tn1292_ tn1313_ tn1314_ tn1293_ tn1294_; have : (3 : Int32).toInt = 3 := qI_3; omega))) (kwV hg mfX11_fails wt_1011 ⟨Nat.le_of_ble_eq_true rfl, Nat.le_of_ble_eq_true rfl⟩) (preVW hK hPc hDc (ci := 11) (r := (RX11, TX11, 35)) rfl rfl) rfl rfl hl.1 rfl (lv_room (Nat.le_of_ble_eq_true rfl)) dX11_other_44 ⟨Nat.le_of_ble_eq_true rfl, Nat.le_of_ble_eq_true rfl⟩) hS (fun q _ h => hFc q h) hFc (fun ur44 t H1 locs ht hvm w45 hB hz1 hk1 hS => ?_)
          obtain ⟨u46, u47⟩ := ur44
          obtain ⟨hP1, hD1⟩ := hB
          rw [ht] at hP1
          obtain ⟨hP, hD⟩ := va_join (wr := [(tp, .inl (G 0, 320, .inl ftp))]) (w1 := [(h0, .inr (11, [.ref st, .int (nI N), .int (nI B), .ref rp, .int vrs, .int vrb, .int vhs, .int vca, .int vxs, .int vxb, .ref tp, .int (nI T), .int vfa, .int u46, .int u47, .int (nI nsp), .int (nI nhe), .int vtk, .int vva, .ref cu, .ref lt, .ref od, .ref th, .ref be, .ref ln, .int (nI S), .ref ma, .int (nI M), .ref ah, .ref bh, .ref ik, .ref la, .ref lg, .ref ce, .int vto]))]) hP hD [0] [1] rfl rfl (by decide) (by decide) hk1 hFc hP1 hD1
          have w45 : 0 < u46.toInt ∧ u46 = flB (3 : Int32) vbr ∧ u47 = flA vbr vba nhe := w45
          generalize H1 = H at hP hS ⊢
          refine lv_aload_n hx hb dX11_other_47 rfl (lv_at hl 0 rfl) ?_
          refine va_get (D := (dC, dI)) (ci := 11) (v := .int u46) (C := RX11) (T := TX11) (N := 35) hx hb hg inG11 hown hK.1 hP 1 rfl rfl 13 (Nat.le_of_ble_eq_true rfl) (hg _ wt_891) (fun _ h9 => h9) rfl dX11_other_48 ?_
          refine lv_if_ne (tgt := 71) hx hb dX11_other_51 rfl (fun c48 => ?_) (fun c48 => ?_)
          · skip
            refine lv_aload_n hx hb dX11_other_71 rfl (lv_at hl 0 rfl) ?_
            refine va_get (D := (dC, dI)) (ci := 11) (v := .int u46) (C := RX11) (T := TX11) (N := 35) hx hb hg inG11 hown hK.1 hP 1 rfl rfl 13 (Nat.le_of_ble_eq_true rfl) (hg _ wt_891) (fun _ h9 => h9) rfl dX11_other_72 ?_
            refine lv_if_ne (tgt := 85) hx hb dX11_other_75 rfl (fun c49 => ?_) (fun c49 => ?_)
            · skip
              refine lv_iload_n hx hb dX11_other_85 rfl (lv_at hl 1 rfl) ?_
              refine lv_istore (lv' := [(4, .int lo), (0, .ref h0), (1, .int lo), (2, .int xh), (3, .int sm)]) hx hb dX11_other_86 hl (by decide) rfl (fun ls hl => ?_)
              refine lv_aload_n hx hb dX11_other_88 rfl (lv_at hl 1 rfl) ?_
              obtain ⟨hPc, hDc, hFc⟩ := va_sub3 (ws' := [(h0, .inr (11, [.ref st, .int (nI N), .int (nI B), .ref rp, .int vrs, .int vrb, .int vhs, .int vca, .int vxs, .int vxb, .ref tp, .int (nI T), .int vfa, .int u46, .int u47, .int (nI nsp), .int (nI nhe), .int vtk, .int vva, .ref cu, .ref lt, .ref od, .ref th, .ref be, .ref ln, .int (nI S), .ref ma, .int (nI M), .ref ah, .ref bh, .ref ik, .ref la, .ref lg, .ref ce, .int vto])), (tp, .inl (G 0, 320, .inl ftp))]) hP hD hS hA [1, 0] (by decide) rfl
              refine va_callv (va_runV (As := []) (rest := []) ⟨hx, hb, hml, hown, hg⟩ (c_X11_goesOnE l dC dI G _ h0 st N B rp tp T nsp nhe cu lt od th be ln S ma M ah bh ik la lg ce vrs vrb vhs vca vxs vxb vfa u46 u47 vtk vva vto ftp hN hB_ hT_ hS0 hM_ (by have t_c1 := eqI c1; have t_c13 := eqI c13; have t_c14 := eqI c14; have t_b43 := b43; have t_w45 := w45.1; have t_c48 := neI c48; have t_c49 := neI c49; have tqz_ := qz22_; have tnb_ := nib7 tn1290_ tn1291_ tn1292_ tn1313_ tn1314_ tn1293_ tn1294_; have tqz_ := qz41_; omega) hsp (by have t_c1 := eqI c1; have t_c13 := eqI c13; have t_c14 := eqI c14; have t_b43 := b43; have t_w45 := w45.1; have t_c48 := neI c48; have t_c49 := neI c49; have tqz_ := qz22_; have tnb_ := nib7 tn1290_ tn1291_ tn1292_ tn1313_ tn1314_ tn1293_ tn1294_; have tqz_ := qz41_; omega) htb) (kwV hg mfX11_goesOn wt_999 ⟨Nat.le_of_ble_eq_true rfl, Nat.le_of_ble_eq_true rfl⟩) (preVW hK hPc hDc (ci := 11) (r := (RX11, TX11, 35)) rfl rfl) rfl rfl hl.1 rfl (lv_room (Nat.le_of_ble_eq_true rfl)) dX11_other_89 ⟨Nat.le_of_ble_eq_true rfl, Nat.le_of_ble_eq_true rfl⟩) hS (fun q _ h => hFc q h) hFc (fun ur50 t H1 locs ht hvm w51 hB hz1 hk1 hS => ?_)
              obtain ⟨u52, u53, u54, u55, u56, u57⟩ := ur50
              obtain ⟨hP1, hD1⟩ := hB
              rw [ht] at hP1
              obtain ⟨hP, hD⟩ := va_join (wr := []) (w1 := [(h0, .inr (11, [.ref st, .int (nI N), .int (nI B), .ref rp, .int vrs, .int vrb, .int vhs, .int vca, .int vxs, .int vxb, .ref tp, .int (nI T), .int vfa, .int u52, .int u53, .int (nI u54), .int (nI u55), .int u56, .int u57, .ref cu, .ref lt, .ref od, .ref th, .ref be, .ref ln, .int (nI S), .ref ma, .int (nI M), .ref ah, .ref bh, .ref ik, .ref la, .ref lg, .ref ce, .int vto])), (tp, .inl (G 0, 320, .inl ftp))]) hP hD [1, 0] [] rfl rfl (by decide) (by decide) hk1 hFc hP1 hD1
              have w51 : 0 ≤ u52.toInt ∧ (u46.toInt = 0 ∨ u52.toInt = u46.toInt) ∧ nsp ≤ u54 ∧ u54 ≤ T ∧ u55 ≤ u54 ∧ (0 < u46.toInt ∨ u56.toInt = 0 ∨ nsp < u54) ∧ (u52, u53, u54, u55, u56, u57) = gOn ftp T u46 u47 nsp nhe vtk vva := w51
              generalize H1 = H at hP hS ⊢
              refine lv_iload hx hb dX11_other_92 (lv_at hl 0 rfl) ?_
              have hpost : (lo.toInt ≤ (lo : Int32).toInt ∧ (lo : Int32).toInt ≤ xh.toInt) ∧ (lo : Int32) = otV lo xh sm vbr vtk vva := by
                have t_c1 := eqI c1
                have t_c13 := eqI c13
                have t_c14 := eqI c14
                have t_b43 := b43
                have t_w45 := w45.1
                have t_c48 := neI c48
                have t_c49 := neI c49
                have : (0 : Int32).toInt = 0 := qI_0
                have : (2 : Int32).toInt = 2 := qI_2
                have t_n0 : (nI N).toInt = (N : Int) := tn1290_ ()
                have t_n1 : (nI B).toInt = (B : Int) := tn1291_ ()
                have t_n2 : (nI T).toInt = (T : Int) := tn1292_ ()
                have t_n3 : (nI nsp).toInt = (nsp : Int) := tn1313_ ()
                have t_n4 : (nI nhe).toInt = (nhe : Int) := tn1314_ ()
                have t_n5 : (nI S).toInt = (S : Int) := tn1293_ ()
                have t_n6 : (nI M).toInt = (M : Int) := tn1294_ ()
                have z0 : (0 : Int32).toInt = 0 := qI_0
                have z1 : (1 : Int32).toInt = 1 := qI_1
                have z2 : (2 : Int32).toInt = 2 := qI_2
                have z3 : (3 : Int32).toInt = 3 := qI_3
                have z5 : (5 : Int32).toInt = 5 := qI_5
                have z9 : (9 : Int32).toInt = 9 := qI_9
                have eC : otC lo xh sm vbr vtk vva = 3 := (by unfold otC; (repeat (first | rw [if_pos (by with_reducible assumption)] | rw [if_neg (by with_reducible assumption)] | rw [if_pos (by omega)] | rw [if_neg (by omega)] | rw [if_pos (by decide)] | rw [if_neg (by decide)])))
                have z9 : vbr = 0 := (by first | with_reducible assumption | assumption)
                have q1 := w45.2.1
                have q2 := w45.2.2
                unfold flB at q1
                unfold flA at q2
                rw [if_pos z9] at q1 q2
                have eB : otB lo xh sm vbr vtk vva = 3 := (by unfold otB; rw [eC, if_neg (by decide)])
                have eA : otA lo xh sm vbr vba nhe vtk vva = nI nhe := (by unfold otA; rw [eC, if_neg (by decide)])
                refine ⟨⟨by omega, by omega⟩, ?_⟩
                unfold otV
                rw [eB, if_neg (by decide)]
              obtain ⟨hP9, hD9⟩ := va_sub2 (ws' := [(h0, .inr (11, [.ref st, .int (nI N), .int (nI B), .ref rp, .int vrs, .int vrb, .int vhs, .int vca, .int vxs, .int vxb, .ref tp, .int (nI T), .int vfa, .int u52, .int u53, .int (nI u54), .int (nI u55), .int u56, .int u57, .ref cu, .ref lt, .ref od, .ref th, .ref be, .ref ln, .int (nI S), .ref ma, .int (nI M), .ref ah, .ref bh, .ref ik, .ref la, .ref lg, .ref ce, .int vto])), (tp, .inl (G 0, 320, .inl ftp))]) hP hD [0, 1] (by decide) rfl
              refine W.widen (k := 0) (n := 0) (Nat.le_of_ble_eq_true rfl) (Nat.le_of_ble_eq_true rfl) ?_
              exact W.iret (v := lo) hx hb hr (fun t ht hW => ⟨⟨lo, (u52, u53, u54, u55, u56, u57), rfl, ⟨hpost, (by have t_c1 := eqI c1; have t_c13 := eqI c13; have t_c14 := eqI c14; have t_b43 := b43; have t_w45 := w45.1; have t_c48 := neI c48; have t_c49 := neI c49; have tqz_ := qz22_; have tnb_ := nib7 tn1290_ tn1291_ tn1292_ tn1313_ tn1314_ tn1293_ tn1294_; have tqz_ := qz41_; have eC : otC lo xh sm vbr vtk vva = 3 := (by unfold otC; (repeat (first | rw [if_pos (by with_reducible assumption)] | rw [if_neg (by with_reducible assumption)] | rw [if_pos (by omega)] | rw [if_neg (by omega)] | rw [if_pos (by decide)] | rw [if_neg (by decide)]))); have z9 : vbr = 0 := (by first | with_reducible assumption | assumption); have q1 := w45.2.1; have q2 := w45.2.2; unfold flB at q1; unfold flA at q2; rw [if_pos z9] at q1 q2; have eB : otB lo xh sm vbr vtk vva = 3 := (by unfold otB; rw [eC, if_neg (by decide)]); have eA : otA lo xh sm vbr vba nhe vtk vva = nI nhe := (by unfold otA; rw [eC, if_neg (by decide)]); refine ⟨by omega, by omega, by omega, by omega, by omega, by omega, ?_⟩; rw [eB, eA]; have e7 := w51.2.2.2.2.2.2; rw [q1, q2] at e7; exact e7)⟩, ⟨by rw [ht]; exact hP9, hD9⟩⟩, hS.F ht⟩) hS.2.2 dX11_other_94
            · skip
              have t_c1 := eqI c1
              have t_c13 := eqI c13
              have t_c14 := eqI c14
              have t_b43 := b43
              have t_w45 := w45.1
              have t_c48 := neI c48
              have t_c49 := eqI c49
              have : (0 : Int32).toInt = 0 := qI_0
              have : (2 : Int32).toInt = 2 := qI_2
              have t_n0 : (nI N).toInt = (N : Int) := tn1290_ ()
              have t_n1 : (nI B).toInt = (B : Int) := tn1291_ ()
              have t_n2 : (nI T).toInt = (T : Int) := tn1292_ ()
              have t_n3 : (nI nsp).toInt = (nsp : Int) := tn1313_ ()
              have t_n4 : (nI nhe).toInt = (nhe : Int) := tn1314_ ()
              have t_n5 : (nI S).toInt = (S : Int) := tn1293_ ()
              have t_n6 : (nI M).toInt = (M : Int) := tn1294_ ()
              exfalso; omega
          · skip
            have t_c1 := eqI c1
            have t_c13 := eqI c13
            have t_c14 := eqI c14
            have t_b43 := b43
            have t_w45 := w45.1
            have t_c48 := eqI c48
            have : (0 : Int32).toInt = 0 := qI_0
            have : (2 : Int32).toInt = 2 := qI_2
            have t_n0 : (nI N).toInt = (N : Int) := tn1290_ ()
            have t_n1 : (nI B).toInt = (B : Int) := tn1291_ ()
            have t_n2 : (nI T).toInt = (T : Int) := tn1292_ ()
            have t_n3 : (nI nsp).toInt = (nsp : Int) := tn1313_ ()
            have t_n4 : (nI nhe).toInt = (nhe : Int) := tn1314_ ()
            have t_n5 : (nI S).toInt = (S : Int) := tn1293_ ()
            have t_n6 : (nI M).toInt = (M : Int) := tn1294_ ()
            exfalso; omega
    · skip
      refine lv_aload_n hx hb dX11_other_15 rfl (lv_at hl 0 rfl) ?_
      refine lv_iconst (v := 2) hx hb dX11_other_16 rfl ?_
      obtain ⟨hPc, hDc, hFc⟩ := va_sub3 (ws' := [(h0, .inr (11, [.ref st, .int (nI N), .int (nI B), .ref rp, .int vrs, .int vrb, .int vhs, .int vca, .int vxs, .int vxb, .ref tp, .int (nI T), .int vfa, .int vbr, .int vba, .int (nI nsp), .int (nI nhe), .int vtk, .int vva, .ref cu, .ref lt, .ref od, .ref th, .ref be, .ref ln, .int (nI S), .ref ma, .int (nI M), .ref ah, .ref bh, .ref ik, .ref la, .ref lg, .ref ce, .int vto]))]) hP hD hS hA [0] (by decide) rfl
      have tn1315_ : nIT nsp := fun _ => nI_toInt (by first | omega | (have t_c1 := eqI c1; have t_c13 := neI c13; have tqz_ := qz22_; omega))
      have tn1316_ : nIT nhe := fun _ => nI_toInt (by first | omega | (have t_c1 := eqI c1; have t_c13 := neI c13; have tqz_ := qz22_; omega))
      refine va_callv (va_runV (As := [.int 2]) (rest := []) ⟨hx, hb, hml, hown, hg⟩ (c_X11_failsE l dC dI G _ h0 st N B rp tp T nhe cu lt od th be ln S ma M ah bh ik la lg ce 2 vrs vrb vhs vca vxs vxb vfa vbr vba (nI nsp) vtk vva vto hN hB_ hT_ hS0 hM_ (by have t_c1 := eqI c1; have t_c13 := neI c13; have tqz_ := qz22_; have tnb_ := nib7 tn1290_ tn1291_ tn1292_ tn1315_ tn1316_ tn1293_ tn1294_; have : (2 : Int32).toInt = 2 := qI_2; omega) hbr (by first | omega | (have t_c1 := eqI c1; have t_c13 := neI c13; have tqz_ := qz22_; have tnb_ := nib7 tn1290_ tn1291_ tn1292_ tn1315_ tn1316_ tn1293_ tn1294_; have : (2 : Int32).toInt = 2 := qI_2; omega))) (kwV hg mfX11_fails wt_1011 ⟨Nat.le_of_ble_eq_true rfl, Nat.le_of_ble_eq_true rfl⟩) (preVW hK hPc hDc (ci := 11) (r := (RX11, TX11, 35)) rfl rfl) rfl rfl hl.1 rfl (lv_room (Nat.le_of_ble_eq_true rfl)) dX11_other_17 ⟨Nat.le_of_ble_eq_true rfl, Nat.le_of_ble_eq_true rfl⟩) hS (fun q _ h => hFc q h) hFc (fun ur58 t H1 locs ht hvm w59 hB hz1 hk1 hS => ?_)
      obtain ⟨u60, u61⟩ := ur58
      obtain ⟨hP1, hD1⟩ := hB
      rw [ht] at hP1
      obtain ⟨hP, hD⟩ := va_join (wr := [(tp, .inl (G 0, 320, .inl ftp))]) (w1 := [(h0, .inr (11, [.ref st, .int (nI N), .int (nI B), .ref rp, .int vrs, .int vrb, .int vhs, .int vca, .int vxs, .int vxb, .ref tp, .int (nI T), .int vfa, .int u60, .int u61, .int (nI nsp), .int (nI nhe), .int vtk, .int vva, .ref cu, .ref lt, .ref od, .ref th, .ref be, .ref ln, .int (nI S), .ref ma, .int (nI M), .ref ah, .ref bh, .ref ik, .ref la, .ref lg, .ref ce, .int vto]))]) hP hD [0] [1] rfl rfl (by decide) (by decide) hk1 hFc hP1 hD1
      have w59 : 0 < u60.toInt ∧ u60 = flB (2 : Int32) vbr ∧ u61 = flA vbr vba nhe := w59
      generalize H1 = H at hP hS ⊢
      refine lv_aload_n hx hb dX11_other_20 rfl (lv_at hl 0 rfl) ?_
      refine va_get (D := (dC, dI)) (ci := 11) (v := .int u60) (C := RX11) (T := TX11) (N := 35) hx hb hg inG11 hown hK.1 hP 1 rfl rfl 13 (Nat.le_of_ble_eq_true rfl) (hg _ wt_891) (fun _ h9 => h9) rfl dX11_other_21 ?_
      refine lv_if_ne (tgt := 47) hx hb dX11_other_24 rfl (fun c62 => ?_) (fun c62 => ?_)
      · skip
        refine lv_aload_n hx hb dX11_other_47 rfl (lv_at hl 0 rfl) ?_
        refine va_get (D := (dC, dI)) (ci := 11) (v := .int u60) (C := RX11) (T := TX11) (N := 35) hx hb hg inG11 hown hK.1 hP 1 rfl rfl 13 (Nat.le_of_ble_eq_true rfl) (hg _ wt_891) (fun _ h9 => h9) rfl dX11_other_48 ?_
        refine lv_if_ne (tgt := 71) hx hb dX11_other_51 rfl (fun c63 => ?_) (fun c63 => ?_)
        · skip
          refine lv_aload_n hx hb dX11_other_71 rfl (lv_at hl 0 rfl) ?_
          refine va_get (D := (dC, dI)) (ci := 11) (v := .int u60) (C := RX11) (T := TX11) (N := 35) hx hb hg inG11 hown hK.1 hP 1 rfl rfl 13 (Nat.le_of_ble_eq_true rfl) (hg _ wt_891) (fun _ h9 => h9) rfl dX11_other_72 ?_
          refine lv_if_ne (tgt := 85) hx hb dX11_other_75 rfl (fun c64 => ?_) (fun c64 => ?_)
          · skip
            refine lv_iload_n hx hb dX11_other_85 rfl (lv_at hl 1 rfl) ?_
            refine lv_istore (lv' := [(4, .int lo), (0, .ref h0), (1, .int lo), (2, .int xh), (3, .int sm)]) hx hb dX11_other_86 hl (by decide) rfl (fun ls hl => ?_)
            refine lv_aload_n hx hb dX11_other_88 rfl (lv_at hl 1 rfl) ?_
            obtain ⟨hPc, hDc, hFc⟩ := va_sub3 (ws' := [(h0, .inr (11, [.ref st, .int (nI N), .int (nI B), .ref rp, .int vrs, .int vrb, .int vhs, .int vca, .int vxs, .int vxb, .ref tp, .int (nI T), .int vfa, .int u60, .int u61, .int (nI nsp), .int (nI nhe), .int vtk, .int vva, .ref cu, .ref lt, .ref od, .ref th, .ref be, .ref ln, .int (nI S), .ref ma, .int (nI M), .ref ah, .ref bh, .ref ik, .ref la, .ref lg, .ref ce, .int vto])), (tp, .inl (G 0, 320, .inl ftp))]) hP hD hS hA [1, 0] (by decide) rfl
            refine va_callv (va_runV (As := []) (rest := []) ⟨hx, hb, hml, hown, hg⟩ (c_X11_goesOnE l dC dI G _ h0 st N B rp tp T nsp nhe cu lt od th be ln S ma M ah bh ik la lg ce vrs vrb vhs vca vxs vxb vfa u60 u61 vtk vva vto ftp hN hB_ hT_ hS0 hM_ (by have t_c1 := eqI c1; have t_c13 := neI c13; have t_w59 := w59.1; have t_c62 := neI c62; have t_c63 := neI c63; have t_c64 := neI c64; have tqz_ := qz22_; have tnb_ := nib7 tn1290_ tn1291_ tn1292_ tn1315_ tn1316_ tn1293_ tn1294_; have tqz_ := qz41_; omega) hsp (by have t_c1 := eqI c1; have t_c13 := neI c13; have t_w59 := w59.1; have t_c62 := neI c62; have t_c63 := neI c63; have t_c64 := neI c64; have tqz_ := qz22_; have tnb_ := nib7 tn1290_ tn1291_ tn1292_ tn1315_ tn1316_ tn1293_ tn1294_; have tqz_ := qz41_; omega) htb) (kwV hg mfX11_goesOn wt_999 ⟨Nat.le_of_ble_eq_true rfl, Nat.le_of_ble_eq_true rfl⟩) (preVW hK hPc hDc (ci := 11) (r := (RX11, TX11, 35)) rfl rfl) rfl rfl hl.1 rfl (lv_room (Nat.le_of_ble_eq_true rfl)) dX11_other_89 ⟨Nat.le_of_ble_eq_true rfl, Nat.le_of_ble_eq_true rfl⟩) hS (fun q _ h => hFc q h) hFc (fun ur65 t H1 locs ht hvm w66 hB hz1 hk1 hS => ?_)
            obtain ⟨u67, u68, u69, u70, u71, u72⟩ := ur65
            obtain ⟨hP1, hD1⟩ := hB
            rw [ht] at hP1
            obtain ⟨hP, hD⟩ := va_join (wr := []) (w1 := [(h0, .inr (11, [.ref st, .int (nI N), .int (nI B), .ref rp, .int vrs, .int vrb, .int vhs, .int vca, .int vxs, .int vxb, .ref tp, .int (nI T), .int vfa, .int u67, .int u68, .int (nI u69), .int (nI u70), .int u71, .int u72, .ref cu, .ref lt, .ref od, .ref th, .ref be, .ref ln, .int (nI S), .ref ma, .int (nI M), .ref ah, .ref bh, .ref ik, .ref la, .ref lg, .ref ce, .int vto])), (tp, .inl (G 0, 320, .inl ftp))]) hP hD [1, 0] [] rfl rfl (by decide) (by decide) hk1 hFc hP1 hD1
            have w66 : 0 ≤ u67.toInt ∧ (u60.toInt = 0 ∨ u67.toInt = u60.toInt) ∧ nsp ≤ u69 ∧ u69 ≤ T ∧ u70 ≤ u69 ∧ (0 < u60.toInt ∨ u71.toInt = 0 ∨ nsp < u69) ∧ (u67, u68, u69, u70, u71, u72) = gOn ftp T u60 u61 nsp nhe vtk vva := w66
            generalize H1 = H at hP hS ⊢
            refine lv_iload hx hb dX11_other_92 (lv_at hl 0 rfl) ?_
            have hpost : (lo.toInt ≤ (lo : Int32).toInt ∧ (lo : Int32).toInt ≤ xh.toInt) ∧ (lo : Int32) = otV lo xh sm vbr vtk vva := by
              have t_c1 := eqI c1
              have t_c13 := neI c13
              have t_w59 := w59.1
              have t_c62 := neI c62
              have t_c63 := neI c63
              have t_c64 := neI c64
              have : (0 : Int32).toInt = 0 := qI_0
              have : (2 : Int32).toInt = 2 := qI_2
              have t_n0 : (nI N).toInt = (N : Int) := tn1290_ ()
              have t_n1 : (nI B).toInt = (B : Int) := tn1291_ ()
              have t_n2 : (nI T).toInt = (T : Int) := tn1292_ ()
              have t_n3 : (nI nsp).toInt = (nsp : Int) := tn1315_ ()
              have t_n4 : (nI nhe).toInt = (nhe : Int) := tn1316_ ()
              have t_n5 : (nI S).toInt = (S : Int) := tn1293_ ()
              have t_n6 : (nI M).toInt = (M : Int) := tn1294_ ()
              have z0 : (0 : Int32).toInt = 0 := qI_0
              have z1 : (1 : Int32).toInt = 1 := qI_1
              have z2 : (2 : Int32).toInt = 2 := qI_2
              have z3 : (3 : Int32).toInt = 3 := qI_3
              have z5 : (5 : Int32).toInt = 5 := qI_5
              have z9 : (9 : Int32).toInt = 9 := qI_9
              have eC : otC lo xh sm vbr vtk vva = 2 := (by unfold otC; (repeat (first | rw [if_pos (by with_reducible assumption)] | rw [if_neg (by with_reducible assumption)] | rw [if_pos (by omega)] | rw [if_neg (by omega)] | rw [if_pos (by decide)] | rw [if_neg (by decide)])))
              have z9 : vbr = 0 := (by first | with_reducible assumption | assumption)
              have q1 := w59.2.1
              have q2 := w59.2.2
              unfold flB at q1
              unfold flA at q2
              rw [if_pos z9] at q1 q2
              have eB : otB lo xh sm vbr vtk vva = 2 := (by unfold otB; rw [eC, if_neg (by decide)])
              have eA : otA lo xh sm vbr vba nhe vtk vva = nI nhe := (by unfold otA; rw [eC, if_neg (by decide)])
              refine ⟨⟨by omega, by omega⟩, ?_⟩
              unfold otV
              rw [eB, if_neg (by decide)]
            obtain ⟨hP9, hD9⟩ := va_sub2 (ws' := [(h0, .inr (11, [.ref st, .int (nI N), .int (nI B), .ref rp, .int vrs, .int vrb, .int vhs, .int vca, .int vxs, .int vxb, .ref tp, .int (nI T), .int vfa, .int u67, .int u68, .int (nI u69), .int (nI u70), .int u71, .int u72, .ref cu, .ref lt, .ref od, .ref th, .ref be, .ref ln, .int (nI S), .ref ma, .int (nI M), .ref ah, .ref bh, .ref ik, .ref la, .ref lg, .ref ce, .int vto])), (tp, .inl (G 0, 320, .inl ftp))]) hP hD [0, 1] (by decide) rfl
            refine W.widen (k := 0) (n := 0) (Nat.le_of_ble_eq_true rfl) (Nat.le_of_ble_eq_true rfl) ?_
            exact W.iret (v := lo) hx hb hr (fun t ht hW => ⟨⟨lo, (u67, u68, u69, u70, u71, u72), rfl, ⟨hpost, (by have t_c1 := eqI c1; have t_c13 := neI c13; have t_w59 := w59.1; have t_c62 := neI c62; have t_c63 := neI c63; have t_c64 := neI c64; have tqz_ := qz22_; have tnb_ := nib7 tn1290_ tn1291_ tn1292_ tn1315_ tn1316_ tn1293_ tn1294_; have tqz_ := qz41_; have eC : otC lo xh sm vbr vtk vva = 2 := (by unfold otC; (repeat (first | rw [if_pos (by with_reducible assumption)] | rw [if_neg (by with_reducible assumption)] | rw [if_pos (by omega)] | rw [if_neg (by omega)] | rw [if_pos (by decide)] | rw [if_neg (by decide)]))); have z9 : vbr = 0 := (by first | with_reducible assumption | assumption); have q1 := w59.2.1; have q2 := w59.2.2; unfold flB at q1; unfold flA at q2; rw [if_pos z9] at q1 q2; have eB : otB lo xh sm vbr vtk vva = 2 := (by unfold otB; rw [eC, if_neg (by decide)]); have eA : otA lo xh sm vbr vba nhe vtk vva = nI nhe := (by unfold otA; rw [eC, if_neg (by decide)]); refine ⟨by omega, by omega, by omega, by omega, by omega, by omega, ?_⟩; rw [eB, eA]; have e7 := w66.2.2.2.2.2.2; rw [q1, q2] at e7; exact e7)⟩, ⟨by rw [ht]; exact hP9, hD9⟩⟩, hS.F ht⟩) hS.2.2 dX11_other_94
          · skip
            have t_c1 := eqI c1
            have t_c13 := neI c13
            have t_w59 := w59.1
            have t_c62 := neI c62
            have t_c63 := neI c63
            have t_c64 := eqI c64
            have : (0 : Int32).toInt = 0 := qI_0
            have : (2 : Int32).toInt = 2 := qI_2
            have t_n0 : (nI N).toInt = (N : Int) := tn1290_ ()
            have t_n1 : (nI B).toInt = (B : Int) := tn1291_ ()
            have t_n2 : (nI T).toInt = (T : Int) := tn1292_ ()
            have t_n3 : (nI nsp).toInt = (nsp : Int) := tn1315_ ()
            have t_n4 : (nI nhe).toInt = (nhe : Int) := tn1316_ ()
            have t_n5 : (nI S).toInt = (S : Int) := tn1293_ ()
            have t_n6 : (nI M).toInt = (M : Int) := tn1294_ ()
            exfalso; omega
        · skip
          have t_c1 := eqI c1
          have t_c13 := neI c13
          have t_w59 := w59.1
          have t_c62 := neI c62
          have t_c63 := eqI c63
          have : (0 : Int32).toInt = 0 := qI_0
          have : (2 : Int32).toInt = 2 := qI_2
          have t_n0 : (nI N).toInt = (N : Int) := tn1290_ ()
          have t_n1 : (nI B).toInt = (B : Int) := tn1291_ ()
          have t_n2 : (nI T).toInt = (T : Int) := tn1292_ ()
          have t_n3 : (nI nsp).toInt = (nsp : Int) := tn1315_ ()
          have t_n4 : (nI nhe).toInt = (nhe : Int) := tn1316_ ()
          have t_n5 : (nI S).toInt = (S : Int) := tn1293_ ()
          have t_n6 : (nI M).toInt = (M : Int) := tn1294_ ()
          exfalso; omega
      · skip
        have t_c1 := eqI c1
        have t_c13 := neI c13
        have t_w59 := w59.1
        have t_c62 := eqI c62
        have : (0 : Int32).toInt = 0 := qI_0
        have : (2 : Int32).toInt = 2 := qI_2
        have t_n0 : (nI N).toInt = (N : Int) := tn1290_ ()
        have t_n1 : (nI B).toInt = (B : Int) := tn1291_ ()
        have t_n2 : (nI T).toInt = (T : Int) := tn1292_ ()
        have t_n3 : (nI nsp).toInt = (nsp : Int) := tn1315_ ()
        have t_n4 : (nI nhe).toInt = (nhe : Int) := tn1316_ ()
        have t_n5 : (nI S).toInt = (S : Int) := tn1293_ ()
        have t_n6 : (nI M).toInt = (M : Int) := tn1294_ ()
        exfalso; omega

set_option maxHeartbeats 1000000 in
set_option maxRecDepth 100000 in
theorem c_X11_nameHereE (l : Launch) (dC : Nat → ClassId) (dI : Nat → Nat → Nat) (G : Nat → ClassId) (sz : Nat) (h0 st N B rp tp T nsp nhe cu lt od th be ln S ma M ah bh ik la lg ce : Nat) (vrs vrb vhs vca vxs vxb vfa vbr vba vtk vva vto : Int32) (ftp : Nat → Int32) (fcu : Nat → Int32) (flt : Nat → Int32) (hN : N ≤ 10) (hB : B ≤ 6) (hT : T ≤ 320) (hS0 : S ≤ 8) (hM : M ≤ 6) (hsp : nsp ≤ T) (hhe : nhe ≤ nsp) (hc : ∀ q : Nat, q < 11 → fcu q = nI (cutL.getD q 0)) (hlt : ∀ q : Nat, q < 54 → flt q = letL.getD q 0) : Met l yX11_nameHere (Cond.code yX11_nameHere cX11_nameHere 4 (some .int) :: GT) ({ frames := 1, cells := 0, slots := 0, locals := 21 } : Room) (PcR [.ref h0] dC dI G [(h0, .inr (11, [.ref st, .int (nI N), .int (nI B), .ref rp, .int vrs, .int vrb, .int vhs, .int vca, .int vxs, .int vxb, .ref tp, .int (nI T), .int vfa, .int vbr, .int vba, .int (nI nsp), .int (nI nhe), .int vtk, .int vva, .ref cu, .ref lt, .ref od, .ref th, .ref be, .ref ln, .int (nI S), .ref ma, .int (nI M), .ref ah, .ref bh, .ref ik, .ref la, .ref lg, .ref ce, .int vto])), (tp, .inl (G 0, 320, .inl ftp)), (cu, .inl (G 0, 11, .inl fcu)), (lt, .inl (G 0, 54, .inl flt))] sz) (va_Qi (fun (r : Int32) (u : Unit) => match u with | _ => ((r = -4 ∨ ∃ k : Nat, r = nI k ∧ k ≤ 9) ∧ r = nmS ftp nhe nsp vtk) ∧ True) (fun _ _ => True) (fun q : Nat => sz ≤ q)) 0 0 (fun q : Nat => sz ≤ q) := by
  have hB_ := hB
  have hM_ := hM
  have hT_ := hT
  have tn1317_ : nIT N := fun _ => nI_toInt (by omega)
  have tn1318_ : nIT B := fun _ => nI_toInt (by omega)
  have tn1319_ : nIT T := fun _ => nI_toInt (by omega)
  have tn1320_ : nIT S := fun _ => nI_toInt (by omega)
  have tn1321_ : nIT M := fun _ => nI_toInt (by omega)
  refine Met.ofW (cc := cX11_nameHere) (maxL := 4) (ret := (some .int)) (by decide) rfl ?_
  intro p e s m args below meth c s₁ Bd hml hv
  obtain ⟨rfl, hsz, hP, hK⟩ := hv
  have hx := Bd.exec
  have hb := Bd.bytes
  have hr := Bd.returns
  have hg : ∀ w ∈ GT, w.before ([.ref h0] : List Value).toArray s = true := fun w h => atoms_spec (ws := Cond.code yX11_nameHere cX11_nameHere 4 (some .int) :: GT) Bd.pre w (List.mem_cons_of_mem _ h)
  have hown : s.vm.findClass RX11 = some m.cls := findClass_of_methodNamed Bd.named
  have hlocks := Bd.notSynchronized
  subst hsz
  have hA : ∀ q : Nat, s.heap.size ≤ q → (fun q : Nat => s.heap.size ≤ q) q := fun _ h => h
  have hS : va_S (fun q : Nat => s.heap.size ≤ q) s.heap s.heap [] := va_S.rf
  have hl := lv_entry ([.ref h0]) (n := 4) (Nat.le_of_ble_eq_true rfl)
  rw [lg_entry_eq]
  generalize (lg_sl ([.ref h0]) ++ List.replicate (4 - (lg_sl ([.ref h0])).length) Slot.unset).toArray = ls at hl ⊢
  have hl : lv_has ls 4 [(0, .ref h0)] := hl
  refine lv_iconst (v := 0) hx hb dX11_nameHere_0 rfl ?_
  refine lv_istore_n (lv' := [(1, .int 0), (0, .ref h0)]) hx hb dX11_nameHere_1 rfl hl (by decide) rfl (fun ls hl => ?_)
  have loop2_2 : ∀ (nf j1 : Nat), 10 + 1 ≤ j1 + nf → j1 ≤ 10 → ∀ (H : Heap) (locs : List Loc), nmF ftp nhe nsp (10 - j1) = nmF ftp nhe nsp 10 → va_P (dC, dI) vwCl [(h0, .inr (11, [.ref st, .int (nI N), .int (nI B), .ref rp, .int vrs, .int vrb, .int vhs, .int vca, .int vxs, .int vxb, .ref tp, .int (nI T), .int vfa, .int vbr, .int vba, .int (nI nsp), .int (nI nhe), .int vtk, .int vva, .ref cu, .ref lt, .ref od, .ref th, .ref be, .ref ln, .int (nI S), .ref ma, .int (nI M), .ref ah, .ref bh, .ref ik, .ref la, .ref lg, .ref ce, .int vto])), (tp, .inl (G 0, 320, .inl ftp)), (cu, .inl (G 0, 11, .inl fcu)), (lt, .inl (G 0, 54, .inl flt))] H → va_S (fun q : Nat => s.heap.size ≤ q) s.heap H locs → ∀ (ls : Array Slot), lv_has ls 4 [(1, .int (nI j1)), (0, .ref h0)] → W p l e (headSpec (Cond.code yX11_nameHere cX11_nameHere 4 (some .int) :: GT) ({ frames := 1, cells := 0, slots := 0, locals := 21 } : Room)).room s m ([.ref h0] : List Value).toArray below meth c H locs 0 0 (MQ below (va_Qi (fun (r : Int32) (u : Unit) => match u with | _ => ((r = -4 ∨ ∃ k : Nat, r = nI k ∧ k ≤ 9) ∧ r = nmS ftp nhe nsp vtk) ∧ True) (fun _ _ => True) (fun q : Nat => s.heap.size ≤ q)) ([.ref h0] : List Value).toArray s 0 0 (fun q : Nat => s.heap.size ≤ q)) (F0 m 2 ls []) := by
    intro nf
    induction nf with
    | zero => intro j1 h1 h2; exact absurd h1 (by omega)
    | succ nf ih2_2 =>
      intro j1 hn3 hj4  H locs hinv hP hS ls hl
      refine lv_iload_n hx hb dX11_nameHere_2 rfl (lv_at hl 0 rfl) ?_
      refine lv_bipush (v := 10) hx hb dX11_nameHere_3 rfl ?_
      refine lv_icmp_ge (tgt := 118) hx hb dX11_nameHere_5 rfl (fun c5 => ?_) (fun c5 => ?_)
      · skip
        have tn1322_ : nIT j1 := fun _ => nI_toInt (by first | omega | (have t := leI c5; omega))
        have n6 : 10 ≤ j1 := by have t := leI c5; rw [show (nI (j1)).toInt = ((j1 : Nat) : Int) from tn1322_ ()] at t; have : (10 : Int32).toInt = 10 := qI_10; omega
        refine lv_bipush (v := (-4)) hx hb dX11_nameHere_118 rfl ?_
        have hpost : (((-4) : Int32) = -4 ∨ ∃ k : Nat, ((-4) : Int32) = nI k ∧ k ≤ 9) ∧ ((-4) : Int32) = nmS ftp nhe nsp vtk := by
          have tn1323_ : nIT nsp := fun _ => nI_toInt (by omega)
          have tn1324_ : nIT nhe := fun _ => nI_toInt (by omega)
          refine ⟨Or.inl rfl, ?_⟩
          unfold nmS
          first | (rw [if_neg (by with_reducible assumption)]) | (split <;> first | rfl | (rw [← hinv, show 10 - j1 = 0 by (have t_hj4 := hj4; have t_n6 := n6; have tnb_ := nib8 tn1317_ tn1318_ tn1319_ tn1323_ tn1324_ tn1320_ tn1321_ tn1322_; have tqz_ := qz41_; omega)]; rfl))
        refine W.widen (k := 0) (n := 0) (Nat.le_of_ble_eq_true rfl) (Nat.le_of_ble_eq_true rfl) ?_
        exact W.iret (v := (-4)) hx hb hr (fun t ht hW => ⟨⟨(-4), (), rfl, ⟨hpost, trivial⟩, trivial⟩, hS.F ht⟩) hS.2.2 dX11_nameHere_120
      · skip
        have tn1325_ : nIT j1 := fun _ => nI_toInt (by first | omega | (have t := nleI c5; omega))
        have n7 : j1 < 10 := by have t := nleI c5; rw [show (nI (j1)).toInt = ((j1 : Nat) : Int) from tn1325_ ()] at t; have : (10 : Int32).toInt = 10 := qI_10; omega
        refine lv_aload_n hx hb dX11_nameHere_8 rfl (lv_at hl 1 rfl) ?_
        refine va_get (D := (dC, dI)) (ci := 11) (v := .int vtk) (C := RX11) (T := TX11) (N := 35) hx hb hg inG11 hown hK.1 hP 0 rfl rfl 17 (Nat.le_of_ble_eq_true rfl) (hg _ wt_895) (fun _ h9 => h9) rfl dX11_nameHere_9 ?_
        refine lv_iconst (v := 1) hx hb dX11_nameHere_12 rfl ?_
        refine lv_icmp_ne (tgt := 118) hx hb dX11_nameHere_13 rfl (fun c8 => ?_) (fun c8 => ?_)
        · skip
          refine lv_bipush (v := (-4)) hx hb dX11_nameHere_118 rfl ?_
          have hpost : (((-4) : Int32) = -4 ∨ ∃ k : Nat, ((-4) : Int32) = nI k ∧ k ≤ 9) ∧ ((-4) : Int32) = nmS ftp nhe nsp vtk := by
            have tn1326_ : nIT nsp := fun _ => nI_toInt (by omega)
            have tn1327_ : nIT nhe := fun _ => nI_toInt (by omega)
            refine ⟨Or.inl rfl, ?_⟩
            unfold nmS
            first | (rw [if_neg (by with_reducible assumption)]) | (split <;> first | rfl | (rw [← hinv, show 10 - j1 = 0 by (have t_hj4 := hj4; have t_n7 := n7; have t_c8 := neI c8; have : (1 : Int32).toInt = 1 := qI_1; have tnb_ := nib8 tn1317_ tn1318_ tn1319_ tn1326_ tn1327_ tn1320_ tn1321_ tn1325_; have tqz_ := qz41_; omega)]; rfl))
          refine W.widen (k := 0) (n := 0) (Nat.le_of_ble_eq_true rfl) (Nat.le_of_ble_eq_true rfl) ?_
          exact W.iret (v := (-4)) hx hb hr (fun t ht hW => ⟨⟨(-4), (), rfl, ⟨hpost, trivial⟩, trivial⟩, hS.F ht⟩) hS.2.2 dX11_nameHere_120
        · skip
          have hout := hinv
          refine lv_aload_n hx hb dX11_nameHere_16 rfl (lv_at hl 1 rfl) ?_
          refine va_get (D := (dC, dI)) (ci := 11) (v := .int (nI nsp)) (C := RX11) (T := TX11) (N := 35) hx hb hg inG11 hown hK.1 hP 0 rfl rfl 15 (Nat.le_of_ble_eq_true rfl) (hg _ wt_893) (fun _ h9 => h9) rfl dX11_nameHere_17 ?_
          refine lv_aload_n hx hb dX11_nameHere_20 rfl (lv_at hl 1 rfl) ?_
          refine va_get (D := (dC, dI)) (ci := 11) (v := .int (nI nhe)) (C := RX11) (T := TX11) (N := 35) hx hb hg inG11 hown hK.1 hP 0 rfl rfl 16 (Nat.le_of_ble_eq_true rfl) (hg _ wt_894) (fun _ h9 => h9) rfl dX11_nameHere_21 ?_
          refine lv_isub hx hb dX11_nameHere_24 ?_
          have tn1328_ : nIT nsp := fun _ => nI_toInt (by first | omega | (have t_hj4 := hj4; have t_n7 := n7; have t_c8 := eqI c8; have : (1 : Int32).toInt = 1 := qI_1; omega))
          have tn1329_ : nIT nhe := fun _ => nI_toInt (by first | omega | (have t_hj4 := hj4; have t_n7 := n7; have t_c8 := eqI c8; have : (1 : Int32).toInt = 1 := qI_1; omega))
          refine lv_cg (y := nI (nsp - nhe)) (by exact pk_sub (by have t_hj4 := hj4; have t_n7 := n7; have t_c8 := eqI c8; have : (1 : Int32).toInt = 1 := qI_1; have tnb_ := nib8 tn1317_ tn1318_ tn1319_ tn1328_ tn1329_ tn1320_ tn1321_ tn1325_; omega)) ?_
          refine lv_aload_n hx hb dX11_nameHere_25 rfl (lv_at hl 1 rfl) ?_
          refine va_get (D := (dC, dI)) (ci := 11) (v := .ref cu) (C := RX11) (T := TX11) (N := 35) hx hb hg inG11 hown hK.1 hP 0 rfl rfl 19 (Nat.le_of_ble_eq_true rfl) (hg _ wt_897) (fun _ h9 => h9) rfl dX11_nameHere_26 ?_
          refine lv_iload_n hx hb dX11_nameHere_29 rfl (lv_at hl 0 rfl) ?_
          refine lv_iconst (v := 1) hx hb dX11_nameHere_30 rfl ?_
          refine lv_iadd hx hb dX11_nameHere_31 ?_
          refine lv_cg (y := nI (j1 + 1)) (by rw [show (1 : Int32) = nI 1 from rfl]; exact nI_add _ _) ?_
          refine va_iald hx hb hK.1 hP 2 0 rfl rfl (vp_in_nI (by first | omega | (have t_hj4 := hj4; have t_n7 := n7; have t_c8 := eqI c8; have : (1 : Int32).toInt = 1 := qI_1; have tnb_ := nib8 tn1317_ tn1318_ tn1319_ tn1328_ tn1329_ tn1320_ tn1321_ tn1325_; omega)) (by decide)) dX11_nameHere_32 ?_
          refine lv_cg (y := fcu (j1 + 1)) (by rw [nI_clamp (by omega)]) ?_
          refine lv_cg (y := nI (cutL.getD (j1 + 1) 0)) (hc (j1 + 1) (by omega)) ?_
          refine lv_aload_n hx hb dX11_nameHere_33 rfl (lv_at hl 1 rfl) ?_
          refine va_get (D := (dC, dI)) (ci := 11) (v := .ref cu) (C := RX11) (T := TX11) (N := 35) hx hb hg inG11 hown hK.1 hP 0 rfl rfl 19 (Nat.le_of_ble_eq_true rfl) (hg _ wt_897) (fun _ h9 => h9) rfl dX11_nameHere_34 ?_
          refine lv_iload_n hx hb dX11_nameHere_37 rfl (lv_at hl 0 rfl) ?_
          refine va_iald hx hb hK.1 hP 2 0 rfl rfl (vp_in_nI (by first | omega | (have t_hj4 := hj4; have t_n7 := n7; have t_c8 := eqI c8; have : (1 : Int32).toInt = 1 := qI_1; have tnb_ := nib8 tn1317_ tn1318_ tn1319_ tn1328_ tn1329_ tn1320_ tn1321_ tn1325_; omega)) (by decide)) dX11_nameHere_38 ?_
          refine lv_cg (y := fcu j1) (by rw [nI_clamp (by omega)]) ?_
          refine lv_cg (y := nI (cutL.getD j1 0)) (hc j1 (by omega)) ?_
          have hcmj1 := cut_mono (n := j1) (by omega)
          refine lv_isub hx hb dX11_nameHere_39 ?_
          refine lv_cg (y := nI ((cutL.getD (j1 + 1) 0) - (cutL.getD j1 0))) (by exact pk_sub (by have t_hj4 := hj4; have t_n7 := n7; have t_c8 := eqI c8; have t_hcmj1 := hcmj1; have : (1 : Int32).toInt = 1 := qI_1; have tnb_ := nib8 tn1317_ tn1318_ tn1319_ tn1328_ tn1329_ tn1320_ tn1321_ tn1325_; omega)) ?_
          refine lv_icmp_ne (tgt := 47) hx hb dX11_nameHere_40 rfl (fun c9 => ?_) (fun c9 => ?_)
          · skip
            have tn1330_ : nIT (nsp - nhe) := fun _ => nI_toInt (by first | omega | (have t := neI c9; omega))
            have tn1331_ : nIT ((cutL.getD (j1 + 1) 0) - (cutL.getD j1 0)) := fun _ => nI_toInt (by omega)
            have n10 : (nsp - nhe) ≠ ((cutL.getD (j1 + 1) 0) - (cutL.getD j1 0)) := by have t := neI c9; rw [show (nI (nsp - nhe)).toInt = ((nsp - nhe : Nat) : Int) from tn1330_ ()] at t; rw [show (nI ((cutL.getD (j1 + 1) 0) - (cutL.getD j1 0))).toInt = (((cutL.getD (j1 + 1) 0) - (cutL.getD j1 0) : Nat) : Int) from tn1331_ ()] at t; omega
            refine lv_iconst (v := 0) hx hb dX11_nameHere_47 rfl ?_
            refine lv_istore_n (lv' := [(2, .int 0), (1, .int (nI j1)), (0, .ref h0)]) hx hb dX11_nameHere_48 rfl hl (by decide) rfl (fun ls hl => ?_)
            refine lv_iconst (v := 0) hx hb dX11_nameHere_49 rfl ?_
            refine lv_istore_n (lv' := [(3, .int 0), (2, .int 0), (1, .int (nI j1)), (0, .ref h0)]) hx hb dX11_nameHere_50 rfl hl (by decide) rfl (fun ls hl => ?_)
            have loop51_12 : ∀ (nf j11 : Nat), (nsp - nhe) + 1 ≤ j11 + nf → j11 ≤ (nsp - nhe) → ∀ (H : Heap) (locs : List Loc), True → va_P (dC, dI) vwCl [(h0, .inr (11, [.ref st, .int (nI N), .int (nI B), .ref rp, .int vrs, .int vrb, .int vhs, .int vca, .int vxs, .int vxb, .ref tp, .int (nI T), .int vfa, .int vbr, .int vba, .int (nI nsp), .int (nI nhe), .int vtk, .int vva, .ref cu, .ref lt, .ref od, .ref th, .ref be, .ref ln, .int (nI S), .ref ma, .int (nI M), .ref ah, .ref bh, .ref ik, .ref la, .ref lg, .ref ce, .int vto])), (tp, .inl (G 0, 320, .inl ftp)), (cu, .inl (G 0, 11, .inl fcu)), (lt, .inl (G 0, 54, .inl flt))] H → va_S (fun q : Nat => s.heap.size ≤ q) s.heap H locs → ∀ (ls : Array Slot), lv_has ls 4 [(3, .int (nI j11)), (2, .int 0), (1, .int (nI j1)), (0, .ref h0)] → W p l e (headSpec (Cond.code yX11_nameHere cX11_nameHere 4 (some .int) :: GT) ({ frames := 1, cells := 0, slots := 0, locals := 21 } : Room)).room s m ([.ref h0] : List Value).toArray below meth c H locs 0 0 (MQ below (va_Qi (fun (r : Int32) (u : Unit) => match u with | _ => ((r = -4 ∨ ∃ k : Nat, r = nI k ∧ k ≤ 9) ∧ r = nmS ftp nhe nsp vtk) ∧ True) (fun _ _ => True) (fun q : Nat => s.heap.size ≤ q)) ([.ref h0] : List Value).toArray s 0 0 (fun q : Nat => s.heap.size ≤ q)) (F0 m 51 ls []) := by
              intro nf
              induction nf with
              | zero => intro j11 h1 h2; exact absurd h1 (by omega)
              | succ nf ih51_12 =>
                intro j11 hn13 hj14  H locs hinv hP hS ls hl
                refine lv_iload_n hx hb dX11_nameHere_51 rfl (lv_at hl 1 rfl) ?_
                refine lv_if_eq (tgt := 106) hx hb dX11_nameHere_52 rfl (fun c15 => ?_) (fun c15 => ?_)
                · skip
                  refine lv_iload_n hx hb dX11_nameHere_106 rfl (lv_at hl 1 rfl) ?_
                  refine lv_if_eq (tgt := 112) hx hb dX11_nameHere_107 rfl (fun c16 => ?_) (fun c16 => ?_)
                  · skip
                    refine lv_iinc (v := nI (j1 + 1)) (lv' := [(1, .int (nI (j1 + 1))), (3, .int (nI j11)), (2, .int 0), (0, .ref h0)]) hx hb dX11_nameHere_112 hl (k := 2) rfl (by rw [show Int32.ofInt 1 = nI 1 from by decide]; exact nI_add _ _) (by decide) rfl (fun ls hl => ?_)
                    refine lv_goto (tgt := 2) hx hb dX11_nameHere_115 rfl ?_
                    have tn1332_ : nIT j11 := fun _ => nI_toInt (by first | omega | (have t_hj4 := hj4; have t_n7 := n7; have t_c8 := eqI c8; have t_hcmj1 := hcmj1; have t_n10 := n10; have t_hj14 := hj14; have t_c15 := eqI c15; have t_c16 := eqI c16; have tqz_ := qz2_; omega))
                    exact ih2_2 (j1 + 1) (by omega) (by omega)  _ _ (by have t_hj4 := hj4; have t_n7 := n7; have t_c8 := eqI c8; have t_hcmj1 := hcmj1; have t_n10 := n10; have t_hj14 := hj14; have t_c15 := eqI c15; have t_c16 := eqI c16; have tqz_ := qz2_; have tnb_ := nib9 tn1317_ tn1318_ tn1319_ tn1328_ tn1329_ tn1320_ tn1321_ tn1325_ tn1332_; have tqz_ := qz41_; exact (nmF_n (n := j1) (by omega) (fun h9 => absurd h9.1 (by omega))).symm.trans hout) hP hS ls (lv_sub hl [0, 3] rfl)
                  · skip
                    exact absurd c16 (by decide)
                · skip
                  exact absurd c15 (by decide)
            exact loop51_12 ((nsp - nhe) + 1) 0 (by omega) (by omega)  _ _ trivial hP hS ls (lv_sub hl [0, 1, 2, 3] rfl)
          · skip
            have tn1333_ : nIT (nsp - nhe) := fun _ => nI_toInt (by first | omega | (have t := eqI c9; omega))
            have tn1334_ : nIT ((cutL.getD (j1 + 1) 0) - (cutL.getD j1 0)) := fun _ => nI_toInt (by omega)
            have n17 : (nsp - nhe) = ((cutL.getD (j1 + 1) 0) - (cutL.getD j1 0)) := by have t := eqI c9; rw [show (nI (nsp - nhe)).toInt = ((nsp - nhe : Nat) : Int) from tn1333_ ()] at t; rw [show (nI ((cutL.getD (j1 + 1) 0) - (cutL.getD j1 0))).toInt = (((cutL.getD (j1 + 1) 0) - (cutL.getD j1 0) : Nat) : Int) from tn1334_ ()] at t; omega
            refine lv_iconst (v := 1) hx hb dX11_nameHere_43 rfl ?_
            refine lv_goto (tgt := 48) hx hb dX11_nameHere_44 rfl ?_
            refine lv_istore_n (lv' := [(2, .int 1), (1, .int (nI j1)), (0, .ref h0)]) hx hb dX11_nameHere_48 rfl hl (by decide) rfl (fun ls hl => ?_)
            refine lv_iconst (v := 0) hx hb dX11_nameHere_49 rfl ?_
            refine lv_istore_n (lv' := [(3, .int 0), (2, .int 1), (1, .int (nI j1)), (0, .ref h0)]) hx hb dX11_nameHere_50 rfl hl (by decide) rfl (fun ls hl => ?_)
            have loop51_20 : ∀ (nf j18 : Nat), (nsp - nhe) + 1 ≤ j18 + nf → j18 ≤ (nsp - nhe) → ∀ (y19 : Int32) (H : Heap) (locs : List Loc), ((y19 = 1 ∧ ∀ q9 : Nat, q9 < j18 → ftp (nhe + q9) = letL.getD (cutL.getD j1 0 + q9) 0) ∨ (y19 = 0 ∧ ¬ ∀ q9 : Nat, q9 < nsp - nhe → ftp (nhe + q9) = letL.getD (cutL.getD j1 0 + q9) 0)) → va_P (dC, dI) vwCl [(h0, .inr (11, [.ref st, .int (nI N), .int (nI B), .ref rp, .int vrs, .int vrb, .int vhs, .int vca, .int vxs, .int vxb, .ref tp, .int (nI T), .int vfa, .int vbr, .int vba, .int (nI nsp), .int (nI nhe), .int vtk, .int vva, .ref cu, .ref lt, .ref od, .ref th, .ref be, .ref ln, .int (nI S), .ref ma, .int (nI M), .ref ah, .ref bh, .ref ik, .ref la, .ref lg, .ref ce, .int vto])), (tp, .inl (G 0, 320, .inl ftp)), (cu, .inl (G 0, 11, .inl fcu)), (lt, .inl (G 0, 54, .inl flt))] H → va_S (fun q : Nat => s.heap.size ≤ q) s.heap H locs → ∀ (ls : Array Slot), lv_has ls 4 [(3, .int (nI j18)), (2, .int y19), (1, .int (nI j1)), (0, .ref h0)] → W p l e (headSpec (Cond.code yX11_nameHere cX11_nameHere 4 (some .int) :: GT) ({ frames := 1, cells := 0, slots := 0, locals := 21 } : Room)).room s m ([.ref h0] : List Value).toArray below meth c H locs 0 0 (MQ below (va_Qi (fun (r : Int32) (u : Unit) => match u with | _ => ((r = -4 ∨ ∃ k : Nat, r = nI k ∧ k ≤ 9) ∧ r = nmS ftp nhe nsp vtk) ∧ True) (fun _ _ => True) (fun q : Nat => s.heap.size ≤ q)) ([.ref h0] : List Value).toArray s 0 0 (fun q : Nat => s.heap.size ≤ q)) (F0 m 51 ls []) := by
              intro nf
              induction nf with
              | zero => intro j18 h1 h2; exact absurd h1 (by omega)
              | succ nf ih51_20 =>
                intro j18 hn21 hj22 y19 H locs hinv hP hS ls hl
                refine lv_iload_n hx hb dX11_nameHere_51 rfl (lv_at hl 1 rfl) ?_
                refine lv_if_eq (tgt := 106) hx hb dX11_nameHere_52 rfl (fun c23 => ?_) (fun c23 => ?_)
                · skip
                  refine lv_iload_n hx hb dX11_nameHere_106 rfl (lv_at hl 1 rfl) ?_
                  refine lv_if_eq (tgt := 112) hx hb dX11_nameHere_107 rfl (fun c24 => ?_) (fun c24 => ?_)
                  · skip
                    refine lv_iinc (v := nI (j1 + 1)) (lv' := [(1, .int (nI (j1 + 1))), (3, .int (nI j18)), (2, .int y19), (0, .ref h0)]) hx hb dX11_nameHere_112 hl (k := 2) rfl (by rw [show Int32.ofInt 1 = nI 1 from by decide]; exact nI_add _ _) (by decide) rfl (fun ls hl => ?_)
                    refine lv_goto (tgt := 2) hx hb dX11_nameHere_115 rfl ?_
                    have tn1335_ : nIT j18 := fun _ => nI_toInt (by first | omega | (have t_hj4 := hj4; have t_n7 := n7; have t_c8 := eqI c8; have t_hcmj1 := hcmj1; have t_n17 := n17; have t_hj22 := hj22; have t_c23 := eqI c23; have t_c24 := eqI c24; have tqz_ := qz2_; omega))
                    exact ih2_2 (j1 + 1) (by omega) (by omega)  _ _ (by have t_hj4 := hj4; have t_n7 := n7; have t_c8 := eqI c8; have t_hcmj1 := hcmj1; have t_n17 := n17; have t_hj22 := hj22; have t_c23 := eqI c23; have t_c24 := eqI c24; have tqz_ := qz2_; have tnb_ := nib9 tn1317_ tn1318_ tn1319_ tn1328_ tn1329_ tn1320_ tn1321_ tn1325_ tn1335_; have tqz_ := qz41_; exact (nmF_n (n := j1) (by omega) (fun h9 => by rcases hinv with g9 | g9; exact absurd (g9.1.symm.trans (by assumption : y19 = 0)) (by decide); exact g9.2 h9.2)).symm.trans hout) hP hS ls (lv_sub hl [0, 3] rfl)
                  · skip
                    have t_hj4 := hj4
                    have t_n7 := n7
                    have t_c8 := eqI c8
                    have t_hcmj1 := hcmj1
                    have t_n17 := n17
                    have t_hj22 := hj22
                    have t_c23 := eqI c23
                    have t_c24 := neI c24
                    have : (0 : Int32).toInt = 0 := qI_0
                    have : (1 : Int32).toInt = 1 := qI_1
                    have t_n0 : (nI N).toInt = (N : Int) := tn1317_ ()
                    have t_n1 : (nI B).toInt = (B : Int) := tn1318_ ()
                    have t_n2 : (nI T).toInt = (T : Int) := tn1319_ ()
                    have t_n3 : (nI nsp).toInt = (nsp : Int) := tn1328_ ()
                    have t_n4 : (nI nhe).toInt = (nhe : Int) := tn1329_ ()
                    have t_n5 : (nI S).toInt = (S : Int) := tn1320_ ()
                    have t_n6 : (nI M).toInt = (M : Int) := tn1321_ ()
                    have t_n7 : (nI j1).toInt = (j1 : Int) := tn1325_ ()
                    have tn1336_ : nIT j18 := fun _ => nI_toInt (by omega)
                    have t_n8 : (nI j18).toInt = (j18 : Int) := tn1336_ ()
                    exfalso; omega
                · skip
                  refine lv_iload_n hx hb dX11_nameHere_55 rfl (lv_at hl 0 rfl) ?_
                  refine lv_aload_n hx hb dX11_nameHere_56 rfl (lv_at hl 3 rfl) ?_
                  refine va_get (D := (dC, dI)) (ci := 11) (v := .int (nI nsp)) (C := RX11) (T := TX11) (N := 35) hx hb hg inG11 hown hK.1 hP 0 rfl rfl 15 (Nat.le_of_ble_eq_true rfl) (hg _ wt_893) (fun _ h9 => h9) rfl dX11_nameHere_57 ?_
                  refine lv_aload_n hx hb dX11_nameHere_60 rfl (lv_at hl 3 rfl) ?_
                  refine va_get (D := (dC, dI)) (ci := 11) (v := .int (nI nhe)) (C := RX11) (T := TX11) (N := 35) hx hb hg inG11 hown hK.1 hP 0 rfl rfl 16 (Nat.le_of_ble_eq_true rfl) (hg _ wt_894) (fun _ h9 => h9) rfl dX11_nameHere_61 ?_
                  refine lv_isub hx hb dX11_nameHere_64 ?_
                  have tn1337_ : nIT j18 := fun _ => nI_toInt (by first | omega | (have t_hj4 := hj4; have t_n7 := n7; have t_c8 := eqI c8; have t_hcmj1 := hcmj1; have t_n17 := n17; have t_hj22 := hj22; have t_c23 := neI c23; have tqz_ := qz2_; omega))
                  refine lv_cg (y := nI (nsp - nhe)) (by exact pk_sub (by have t_hj4 := hj4; have t_n7 := n7; have t_c8 := eqI c8; have t_hcmj1 := hcmj1; have t_n17 := n17; have t_hj22 := hj22; have t_c23 := neI c23; have tqz_ := qz2_; have tnb_ := nib9 tn1317_ tn1318_ tn1319_ tn1328_ tn1329_ tn1320_ tn1321_ tn1325_ tn1337_; omega)) ?_
                  refine lv_icmp_ge (tgt := 106) hx hb dX11_nameHere_65 rfl (fun c25 => ?_) (fun c25 => ?_)
                  · skip
                    have n26 : (nsp - nhe) ≤ j18 := by have t := leI c25; rw [show (nI (j18)).toInt = ((j18 : Nat) : Int) from tn1337_ ()] at t; rw [show (nI (nsp - nhe)).toInt = ((nsp - nhe : Nat) : Int) from tn1333_ ()] at t; omega
                    refine lv_iload_n hx hb dX11_nameHere_106 rfl (lv_at hl 1 rfl) ?_
                    refine lv_if_eq (tgt := 112) hx hb dX11_nameHere_107 rfl (fun c27 => ?_) (fun c27 => ?_)
                    · skip
                      have t_hj4 := hj4
                      have t_n7 := n7
                      have t_c8 := eqI c8
                      have t_hcmj1 := hcmj1
                      have t_n17 := n17
                      have t_hj22 := hj22
                      have t_c23 := neI c23
                      have t_n26 := n26
                      have t_c27 := eqI c27
                      have : (0 : Int32).toInt = 0 := qI_0
                      have : (1 : Int32).toInt = 1 := qI_1
                      have t_n0 : (nI N).toInt = (N : Int) := tn1317_ ()
                      have t_n1 : (nI B).toInt = (B : Int) := tn1318_ ()
                      have t_n2 : (nI T).toInt = (T : Int) := tn1319_ ()
                      have t_n3 : (nI nsp).toInt = (nsp : Int) := tn1328_ ()
                      have t_n4 : (nI nhe).toInt = (nhe : Int) := tn1329_ ()
                      have t_n5 : (nI S).toInt = (S : Int) := tn1320_ ()
                      have t_n6 : (nI M).toInt = (M : Int) := tn1321_ ()
                      have t_n7 : (nI j1).toInt = (j1 : Int) := tn1325_ ()
                      have t_n8 : (nI j18).toInt = (j18 : Int) := tn1337_ ()
                      exfalso; omega
                    · skip
                      refine lv_iload_n hx hb dX11_nameHere_110 rfl (lv_at hl 2 rfl) ?_
                      have hpost : ((nI j1 : Int32) = -4 ∨ ∃ k : Nat, (nI j1 : Int32) = nI k ∧ k ≤ 9) ∧ (nI j1 : Int32) = nmS ftp nhe nsp vtk := by
                        have t_hj4 := hj4
                        have t_n7 := n7
                        have t_c8 := eqI c8
                        have t_hcmj1 := hcmj1
                        have t_n17 := n17
                        have t_hj22 := hj22
                        have t_c23 := neI c23
                        have t_n26 := n26
                        have t_c27 := neI c27
                        have : (0 : Int32).toInt = 0 := qI_0
                        have : (1 : Int32).toInt = 1 := qI_1
                        have t_n0 : (nI N).toInt = (N : Int) := tn1317_ ()
                        have t_n1 : (nI B).toInt = (B : Int) := tn1318_ ()
                        have t_n2 : (nI T).toInt = (T : Int) := tn1319_ ()
                        have t_n3 : (nI nsp).toInt = (nsp : Int) := tn1328_ ()
                        have t_n4 : (nI nhe).toInt = (nhe : Int) := tn1329_ ()
                        have t_n5 : (nI S).toInt = (S : Int) := tn1320_ ()
                        have t_n6 : (nI M).toInt = (M : Int) := tn1321_ ()
                        have t_n7 : (nI j1).toInt = (j1 : Int) := tn1325_ ()
                        have t_n8 : (nI j18).toInt = (j18 : Int) := tn1337_ ()
                        have z0 : (0 : Int32).toInt = 0 := qI_0
                        have z1 : (1 : Int32).toInt = 1 := qI_1
                        have z2 : (2 : Int32).toInt = 2 := qI_2
                        have z3 : (3 : Int32).toInt = 3 := qI_3
                        have z5 : (5 : Int32).toInt = 5 := qI_5
                        have z9 : (9 : Int32).toInt = 9 := qI_9
                        refine ⟨Or.inr ⟨j1, rfl, by omega⟩, ?_⟩
                        unfold nmS
                        rw [if_pos (by first | with_reducible assumption | assumption), ← hout]
                        refine (nmF_y (by omega) ⟨by omega, fun q9 h9 => ?_⟩).symm
                        rcases hinv with g9 | g9
                        · exact g9.2 q9 (by omega)
                        · exact absurd g9.1 (by first | with_reducible assumption | assumption)
                      refine W.widen (k := 0) (n := 0) (Nat.le_of_ble_eq_true rfl) (Nat.le_of_ble_eq_true rfl) ?_
                      exact W.iret (v := nI j1) hx hb hr (fun t ht hW => ⟨⟨nI j1, (), rfl, ⟨hpost, trivial⟩, trivial⟩, hS.F ht⟩) hS.2.2 dX11_nameHere_111
                  · skip
                    have n28 : j18 < (nsp - nhe) := by have t := nleI c25; rw [show (nI (j18)).toInt = ((j18 : Nat) : Int) from tn1337_ ()] at t; rw [show (nI (nsp - nhe)).toInt = ((nsp - nhe : Nat) : Int) from tn1333_ ()] at t; omega
                    refine lv_aload_n hx hb dX11_nameHere_68 rfl (lv_at hl 3 rfl) ?_
                    refine lv_aload_n hx hb dX11_nameHere_69 rfl (lv_at hl 3 rfl) ?_
                    refine va_get (D := (dC, dI)) (ci := 11) (v := .int (nI nhe)) (C := RX11) (T := TX11) (N := 35) hx hb hg inG11 hown hK.1 hP 0 rfl rfl 16 (Nat.le_of_ble_eq_true rfl) (hg _ wt_894) (fun _ h9 => h9) rfl dX11_nameHere_70 ?_
                    refine lv_iload_n hx hb dX11_nameHere_73 rfl (lv_at hl 0 rfl) ?_
                    refine lv_iadd hx hb dX11_nameHere_74 ?_
                    refine lv_cg (y := nI (nhe + j18)) (by exact nI_add _ _) ?_
                    have hPc := hP.sub (ws' := [(h0, .inr (11, [.ref st, .int (nI N), .int (nI B), .ref rp, .int vrs, .int vrb, .int vhs, .int vca, .int vxs, .int vxb, .ref tp, .int (nI T), .int vfa, .int vbr, .int vba, .int (nI nsp), .int (nI nhe), .int vtk, .int vva, .ref cu, .ref lt, .ref od, .ref th, .ref be, .ref ln, .int (nI S), .ref ma, .int (nI M), .ref ah, .ref bh, .ref ik, .ref la, .ref lg, .ref ce, .int vto])), (tp, .inl (G 0, 320, .inl ftp))]) [0, 1] rfl
                    refine va_calli (va_runV (As := [.int (nI (nhe + j18))]) (rest := []) ⟨hx, hb, hml, hown, hg⟩ (c_X11_byteAt l dC dI G _ h0 (nhe + j18) st N B rp tp T cu lt od th be ln S ma M ah bh ik la lg ce vrs vrb vhs vca vxs vxb vfa vbr vba (nI nsp) (nI nhe) vtk vva vto ftp hN hB_ hT_ hS0 hM_ (by first | omega | (have t_hj4 := hj4; have t_n7 := n7; have t_c8 := eqI c8; have t_hcmj1 := hcmj1; have t_n17 := n17; have t_hj22 := hj22; have t_c23 := neI c23; have t_n28 := n28; have tqz_ := qz2_; have tnb_ := nib9 tn1317_ tn1318_ tn1319_ tn1328_ tn1329_ tn1320_ tn1321_ tn1325_ tn1337_; omega))) (kwV hg mfX11_byteAt wt_1003 ⟨Nat.le_of_ble_eq_true rfl, Nat.le_of_ble_eq_true rfl⟩) (preVR hK hPc (ci := 11) (r := (RX11, TX11, 35)) rfl rfl) rfl rfl hl.1 rfl (lv_room (Nat.le_of_ble_eq_true rfl)) dX11_nameHere_75 ⟨Nat.le_of_ble_eq_true rfl, Nat.le_of_ble_eq_true rfl⟩) hS (fun q h1 h2 => absurd h2 (Nat.not_le.mpr h1)) (fun q h => hA q (Nat.le_trans hS.1 h)) (fun r29 ur29 t H1 locs ht hvm w30 hB hz1 hk1 hS => ?_)
                    have hP := keepR hP hk1
                    obtain ⟨w30, w30x⟩ := w30
                    rcases w30 with ⟨w301, w302⟩ | ⟨w301, w302⟩
                    · skip
                      refine lv_cg (y := ftp (nhe + j18)) w302 ?_
                      refine lv_aload_n hx hb dX11_nameHere_78 rfl (lv_at hl 3 rfl) ?_
                      refine va_get (D := (dC, dI)) (ci := 11) (v := .ref lt) (C := RX11) (T := TX11) (N := 35) hx hb hg inG11 hown hK.1 hP 0 rfl rfl 20 (Nat.le_of_ble_eq_true rfl) (hg _ wt_898) (fun _ h9 => h9) rfl dX11_nameHere_79 ?_
                      refine lv_aload_n hx hb dX11_nameHere_82 rfl (lv_at hl 3 rfl) ?_
                      refine va_get (D := (dC, dI)) (ci := 11) (v := .ref cu) (C := RX11) (T := TX11) (N := 35) hx hb hg inG11 hown hK.1 hP 0 rfl rfl 19 (Nat.le_of_ble_eq_true rfl) (hg _ wt_897) (fun _ h9 => h9) rfl dX11_nameHere_83 ?_
                      refine lv_iload_n hx hb dX11_nameHere_86 rfl (lv_at hl 2 rfl) ?_
                      refine va_iald hx hb hK.1 hP 2 0 rfl rfl (vp_in_nI (by first | omega | (have t_hj4 := hj4; have t_n7 := n7; have t_c8 := eqI c8; have t_hcmj1 := hcmj1; have t_n17 := n17; have t_hj22 := hj22; have t_c23 := neI c23; have t_n28 := n28; have t_w301 := w301; have tqz_ := qz2_; have tnb_ := nib9 tn1317_ tn1318_ tn1319_ tn1328_ tn1329_ tn1320_ tn1321_ tn1325_ tn1337_; omega)) (by decide)) dX11_nameHere_87 ?_
                      refine lv_cg (y := fcu j1) (by rw [nI_clamp (by omega)]) ?_
                      refine lv_cg (y := nI (cutL.getD j1 0)) (hc j1 (by omega)) ?_
                      refine lv_iload_n hx hb dX11_nameHere_88 rfl (lv_at hl 0 rfl) ?_
                      refine lv_iadd hx hb dX11_nameHere_89 ?_
                      refine lv_cg (y := nI ((cutL.getD j1 0) + j18)) (by exact nI_add _ _) ?_
                      refine va_iald hx hb hK.1 hP 3 0 rfl rfl (vp_in_nI (by first | omega | (have t_hj4 := hj4; have t_n7 := n7; have t_c8 := eqI c8; have t_hcmj1 := hcmj1; have t_n17 := n17; have t_hj22 := hj22; have t_c23 := neI c23; have t_n28 := n28; have t_w301 := w301; have tqz_ := qz2_; have tnb_ := nib9 tn1317_ tn1318_ tn1319_ tn1328_ tn1329_ tn1320_ tn1321_ tn1325_ tn1337_; omega)) (by decide)) dX11_nameHere_90 ?_
                      refine lv_cg (y := flt ((cutL.getD j1 0) + j18)) (by rw [nI_clamp (by omega)]) ?_
                      refine lv_icmp_ne (tgt := 98) hx hb dX11_nameHere_91 rfl (fun c31 => ?_) (fun c31 => ?_)
                      · skip
                        refine lv_iconst (v := 0) hx hb dX11_nameHere_98 rfl ?_
                        refine lv_istore_n (lv' := [(2, .int 0), (3, .int (nI j18)), (1, .int (nI j1)), (0, .ref h0)]) hx hb dX11_nameHere_99 rfl hl (by decide) rfl (fun ls hl => ?_)
                        refine lv_iinc (v := nI (j18 + 1)) (lv' := [(3, .int (nI (j18 + 1))), (2, .int 0), (1, .int (nI j1)), (0, .ref h0)]) hx hb dX11_nameHere_100 hl (k := 1) rfl (by rw [show Int32.ofInt 1 = nI 1 from by decide]; exact nI_add _ _) (by decide) rfl (fun ls hl => ?_)
                        refine lv_goto (tgt := 51) hx hb dX11_nameHere_103 rfl ?_
                        exact ih51_20 (j18 + 1) (by omega) (by omega) 0 _ _ (by first | (exfalso; (have t_hj4 := hj4; have t_n7 := n7; have t_c8 := eqI c8; have t_hcmj1 := hcmj1; have t_n17 := n17; have t_hj22 := hj22; have t_c23 := neI c23; have t_n28 := n28; have t_w301 := w301; have t_c31 := neI c31; have tqz_ := qz2_; have tnb_ := nib9 tn1317_ tn1318_ tn1319_ tn1328_ tn1329_ tn1320_ tn1321_ tn1325_ tn1337_; have tqz_ := qz41_; omega)) | (refine Or.inr ⟨rfl, fun g9 => ?_⟩; have g8 := g9 j18 (by (have t_hj4 := hj4; have t_n7 := n7; have t_c8 := eqI c8; have t_hcmj1 := hcmj1; have t_n17 := n17; have t_hj22 := hj22; have t_c23 := neI c23; have t_n28 := n28; have t_w301 := w301; have t_c31 := neI c31; have tqz_ := qz2_; have tnb_ := nib9 tn1317_ tn1318_ tn1319_ tn1328_ tn1329_ tn1320_ tn1321_ tn1325_ tn1337_; have tqz_ := qz41_; omega)); rw [← hlt _ (by (have t_hj4 := hj4; have t_n7 := n7; have t_c8 := eqI c8; have t_hcmj1 := hcmj1; have t_n17 := n17; have t_hj22 := hj22; have t_c23 := neI c23; have t_n28 := n28; have t_w301 := w301; have t_c31 := neI c31; have tqz_ := qz2_; have tnb_ := nib9 tn1317_ tn1318_ tn1319_ tn1328_ tn1329_ tn1320_ tn1321_ tn1325_ tn1337_; have tqz_ := qz41_; omega))] at g8; exact absurd g8 (by first | with_reducible assumption | assumption))) hP hS ls (lv_sub hl [0, 1, 2, 3] rfl)
                      · skip
                        refine lv_iconst (v := 1) hx hb dX11_nameHere_94 rfl ?_
                        refine lv_goto (tgt := 99) hx hb dX11_nameHere_95 rfl ?_
                        refine lv_istore_n (lv' := [(2, .int 1), (3, .int (nI j18)), (1, .int (nI j1)), (0, .ref h0)]) hx hb dX11_nameHere_99 rfl hl (by decide) rfl (fun ls hl => ?_)
                        refine lv_iinc (v := nI (j18 + 1)) (lv' := [(3, .int (nI (j18 + 1))), (2, .int 1), (1, .int (nI j1)), (0, .ref h0)]) hx hb dX11_nameHere_100 hl (k := 1) rfl (by rw [show Int32.ofInt 1 = nI 1 from by decide]; exact nI_add _ _) (by decide) rfl (fun ls hl => ?_)
                        refine lv_goto (tgt := 51) hx hb dX11_nameHere_103 rfl ?_
                        exact ih51_20 (j18 + 1) (by omega) (by omega) 1 _ _ (by have t_hj4 := hj4; have t_n7 := n7; have t_c8 := eqI c8; have t_hcmj1 := hcmj1; have t_n17 := n17; have t_hj22 := hj22; have t_c23 := neI c23; have t_n28 := n28; have t_w301 := w301; have t_c31 := eqI c31; have tqz_ := qz2_; have tnb_ := nib9 tn1317_ tn1318_ tn1319_ tn1328_ tn1329_ tn1320_ tn1321_ tn1325_ tn1337_; have tqz_ := qz41_; first | (exfalso; omega) | (refine Or.inl ⟨rfl, fun q9 h9 => ?_⟩; by_cases e9 : q9 = j18; (subst e9; exact (by assumption : ftp (nhe + q9) = flt (cutL.getD j1 0 + q9)).trans (hlt _ (by omega))); (rcases hinv with g9 | g9; exact g9.2 q9 (by omega); exact absurd g9.1 (by first | with_reducible assumption | assumption)))) hP hS ls (lv_sub hl [0, 1, 2, 3] rfl)
                    · skip
                      refine lv_cg (y := (-4)) w302 ?_
                      refine lv_aload_n hx hb dX11_nameHere_78 rfl (lv_at hl 3 rfl) ?_
                      refine va_get (D := (dC, dI)) (ci := 11) (v := .ref lt) (C := RX11) (T := TX11) (N := 35) hx hb hg inG11 hown hK.1 hP 0 rfl rfl 20 (Nat.le_of_ble_eq_true rfl) (hg _ wt_898) (fun _ h9 => h9) rfl dX11_nameHere_79 ?_
                      refine lv_aload_n hx hb dX11_nameHere_82 rfl (lv_at hl 3 rfl) ?_
                      refine va_get (D := (dC, dI)) (ci := 11) (v := .ref cu) (C := RX11) (T := TX11) (N := 35) hx hb hg inG11 hown hK.1 hP 0 rfl rfl 19 (Nat.le_of_ble_eq_true rfl) (hg _ wt_897) (fun _ h9 => h9) rfl dX11_nameHere_83 ?_
                      refine lv_iload_n hx hb dX11_nameHere_86 rfl (lv_at hl 2 rfl) ?_
                      refine va_iald hx hb hK.1 hP 2 0 rfl rfl (vp_in_nI (by first | omega | (have t_hj4 := hj4; have t_n7 := n7; have t_c8 := eqI c8; have t_hcmj1 := hcmj1; have t_n17 := n17; have t_hj22 := hj22; have t_c23 := neI c23; have t_n28 := n28; have t_w301 := w301; have tqz_ := qz2_; have tnb_ := nib9 tn1317_ tn1318_ tn1319_ tn1328_ tn1329_ tn1320_ tn1321_ tn1325_ tn1337_; omega)) (by decide)) dX11_nameHere_87 ?_
                      refine lv_cg (y := fcu j1) (by rw [nI_clamp (by omega)]) ?_
                      refine lv_cg (y := nI (cutL.getD j1 0)) (hc j1 (by omega)) ?_
                      refine lv_iload_n hx hb dX11_nameHere_88 rfl (lv_at hl 0 rfl) ?_
                      refine lv_iadd hx hb dX11_nameHere_89 ?_
                      refine lv_cg (y := nI ((cutL.getD j1 0) + j18)) (by exact nI_add _ _) ?_
                      refine va_iald hx hb hK.1 hP 3 0 rfl rfl (vp_in_nI (by first | omega | (have t_hj4 := hj4; have t_n7 := n7; have t_c8 := eqI c8; have t_hcmj1 := hcmj1; have t_n17 := n17; have t_hj22 := hj22; have t_c23 := neI c23; have t_n28 := n28; have t_w301 := w301; have tqz_ := qz2_; have tnb_ := nib9 tn1317_ tn1318_ tn1319_ tn1328_ tn1329_ tn1320_ tn1321_ tn1325_ tn1337_; omega)) (by decide)) dX11_nameHere_90 ?_
                      refine lv_cg (y := flt ((cutL.getD j1 0) + j18)) (by rw [nI_clamp (by omega)]) ?_
                      refine lv_icmp_ne (tgt := 98) hx hb dX11_nameHere_91 rfl (fun c32 => ?_) (fun c32 => ?_)
                      · skip
                        refine lv_iconst (v := 0) hx hb dX11_nameHere_98 rfl ?_
                        refine lv_istore_n (lv' := [(2, .int 0), (3, .int (nI j18)), (1, .int (nI j1)), (0, .ref h0)]) hx hb dX11_nameHere_99 rfl hl (by decide) rfl (fun ls hl => ?_)
                        refine lv_iinc (v := nI (j18 + 1)) (lv' := [(3, .int (nI (j18 + 1))), (2, .int 0), (1, .int (nI j1)), (0, .ref h0)]) hx hb dX11_nameHere_100 hl (k := 1) rfl (by rw [show Int32.ofInt 1 = nI 1 from by decide]; exact nI_add _ _) (by decide) rfl (fun ls hl => ?_)
                        refine lv_goto (tgt := 51) hx hb dX11_nameHere_103 rfl ?_
                        exact ih51_20 (j18 + 1) (by omega) (by omega) 0 _ _ (by first | (exfalso; (have t_hj4 := hj4; have t_n7 := n7; have t_c8 := eqI c8; have t_hcmj1 := hcmj1; have t_n17 := n17; have t_hj22 := hj22; have t_c23 := neI c23; have t_n28 := n28; have t_w301 := w301; have t_c32 := neI c32; have tqz_ := qz40_; have tnb_ := nib9 tn1317_ tn1318_ tn1319_ tn1328_ tn1329_ tn1320_ tn1321_ tn1325_ tn1337_; have tqz_ := qz41_; omega)) | (refine Or.inr ⟨rfl, fun g9 => ?_⟩; have g8 := g9 j18 (by (have t_hj4 := hj4; have t_n7 := n7; have t_c8 := eqI c8; have t_hcmj1 := hcmj1; have t_n17 := n17; have t_hj22 := hj22; have t_c23 := neI c23; have t_n28 := n28; have t_w301 := w301; have t_c32 := neI c32; have tqz_ := qz40_; have tnb_ := nib9 tn1317_ tn1318_ tn1319_ tn1328_ tn1329_ tn1320_ tn1321_ tn1325_ tn1337_; have tqz_ := qz41_; omega)); rw [← hlt _ (by (have t_hj4 := hj4; have t_n7 := n7; have t_c8 := eqI c8; have t_hcmj1 := hcmj1; have t_n17 := n17; have t_hj22 := hj22; have t_c23 := neI c23; have t_n28 := n28; have t_w301 := w301; have t_c32 := neI c32; have tqz_ := qz40_; have tnb_ := nib9 tn1317_ tn1318_ tn1319_ tn1328_ tn1329_ tn1320_ tn1321_ tn1325_ tn1337_; have tqz_ := qz41_; omega))] at g8; exact absurd g8 (by first | with_reducible assumption | assumption))) hP hS ls (lv_sub hl [0, 1, 2, 3] rfl)
                      · skip
                        refine lv_iconst (v := 1) hx hb dX11_nameHere_94 rfl ?_
                        refine lv_goto (tgt := 99) hx hb dX11_nameHere_95 rfl ?_
                        refine lv_istore_n (lv' := [(2, .int 1), (3, .int (nI j18)), (1, .int (nI j1)), (0, .ref h0)]) hx hb dX11_nameHere_99 rfl hl (by decide) rfl (fun ls hl => ?_)
                        refine lv_iinc (v := nI (j18 + 1)) (lv' := [(3, .int (nI (j18 + 1))), (2, .int 1), (1, .int (nI j1)), (0, .ref h0)]) hx hb dX11_nameHere_100 hl (k := 1) rfl (by rw [show Int32.ofInt 1 = nI 1 from by decide]; exact nI_add _ _) (by decide) rfl (fun ls hl => ?_)
                        refine lv_goto (tgt := 51) hx hb dX11_nameHere_103 rfl ?_
                        exact ih51_20 (j18 + 1) (by omega) (by omega) 1 _ _ (by have t_hj4 := hj4; have t_n7 := n7; have t_c8 := eqI c8; have t_hcmj1 := hcmj1; have t_n17 := n17; have t_hj22 := hj22; have t_c23 := neI c23; have t_n28 := n28; have t_w301 := w301; have t_c32 := eqI c32; have tqz_ := qz40_; have tnb_ := nib9 tn1317_ tn1318_ tn1319_ tn1328_ tn1329_ tn1320_ tn1321_ tn1325_ tn1337_; have tqz_ := qz41_; first | (exfalso; omega) | (refine Or.inl ⟨rfl, fun q9 h9 => ?_⟩; by_cases e9 : q9 = j18; (subst e9; exact (by assumption : ftp (nhe + q9) = flt (cutL.getD j1 0 + q9)).trans (hlt _ (by omega))); (rcases hinv with g9 | g9; exact g9.2 q9 (by omega); exact absurd g9.1 (by first | with_reducible assumption | assumption)))) hP hS ls (lv_sub hl [0, 1, 2, 3] rfl)
            exact loop51_20 ((nsp - nhe) + 1) 0 (by omega) (by omega) 1 _ _ (Or.inl ⟨rfl, fun q9 h9 => absurd h9 (Nat.not_lt_zero _)⟩) hP hS ls (lv_sub hl [0, 1, 2, 3] rfl)
  exact loop2_2 (10 + 1) 0 (by omega) (by omega)  _ _ rfl hP hS ls (lv_sub hl [0, 1] rfl)

set_option maxHeartbeats 1000000 in
set_option maxRecDepth 100000 in
theorem c_X11_readBearerE (l : Launch) (dC : Nat → ClassId) (dI : Nat → Nat → Nat) (G : Nat → ClassId) (sz : Nat) (h0 st N B rp nrb tp T nsp nhe cu lt od th be ln S ma M ah bh ik la lg ce : Nat) (vrs vhs vca vxs vxb vfa vbr vba vtk vva vto : Int32) (ftp : Nat → Int32) (fcu : Nat → Int32) (flt : Nat → Int32) (frp : Nat → Int32) (hN : N ≤ 10) (hB : B ≤ 6) (hT : T ≤ 320) (hS0 : S ≤ 8) (hM : M ≤ 6) (hbr : 0 ≤ vbr.toInt) (hsp : nsp ≤ T) (hhe : nhe ≤ nsp) (hrb : nrb ≤ 6) (hc : ∀ q : Nat, q < 11 → fcu q = nI (cutL.getD q 0)) (hrp : OKP frp) (hlt : ∀ q : Nat, q < 54 → flt q = letL.getD q 0) (htb : ∀ q : Nat, q < 320 → 0 ≤ (ftp q).toInt) : Met l yX11_readBearer (Cond.code yX11_readBearer cX11_readBearer 3 none :: GT) ({ frames := 3, cells := 0, slots := 0, locals := 70 } : Room) (PcW [.ref h0] dC dI G [(h0, .inr (11, [.ref st, .int (nI N), .int (nI B), .ref rp, .int vrs, .int (nI nrb), .int vhs, .int vca, .int vxs, .int vxb, .ref tp, .int (nI T), .int vfa, .int vbr, .int vba, .int (nI nsp), .int (nI nhe), .int vtk, .int vva, .ref cu, .ref lt, .ref od, .ref th, .ref be, .ref ln, .int (nI S), .ref ma, .int (nI M), .ref ah, .ref bh, .ref ik, .ref la, .ref lg, .ref ce, .int vto])), (tp, .inl (G 0, 320, .inl ftp)), (cu, .inl (G 0, 11, .inl fcu)), (lt, .inl (G 0, 54, .inl flt)), (rp, .inl (G 0, 49, .inl frp))] sz) (va_Qv (fun (u : Int32 × Int32 × Nat × Nat × Int32 × Int32 × Nat × (Nat → Int32)) => match u with | (obr, oba, osp, ohe, otk, ova, orb, orp) => (OKP orp ∧ ((0 ≤ obr.toInt ∧ (vbr.toInt = 0 ∨ 0 < obr.toInt) ∧ nsp ≤ osp ∧ osp ≤ T ∧ ohe ≤ osp ∧ (0 < obr.toInt ∨ otk.toInt = 0 ∨ nsp < osp)) ∧ orb ≤ 6)) ∧ ((obr, oba, osp, ohe, otk, ova), orb, orp) = rbS ftp T (vbr, vba, nsp, nhe, vtk, vva) nrb frp) (fun (u : Int32 × Int32 × Nat × Nat × Int32 × Int32 × Nat × (Nat → Int32)) (t : State) => match u with | (obr, oba, osp, ohe, otk, ova, orb, orp) => va_P (dC, dI) vwCl [(h0, .inr (11, [.ref st, .int (nI N), .int (nI B), .ref rp, .int vrs, .int (nI orb), .int vhs, .int vca, .int vxs, .int vxb, .ref tp, .int (nI T), .int vfa, .int obr, .int oba, .int (nI osp), .int (nI ohe), .int otk, .int ova, .ref cu, .ref lt, .ref od, .ref th, .ref be, .ref ln, .int (nI S), .ref ma, .int (nI M), .ref ah, .ref bh, .ref ik, .ref la, .ref lg, .ref ce, .int vto])), (tp, .inl (G 0, 320, .inl ftp)), (cu, .inl (G 0, 11, .inl fcu)), (lt, .inl (G 0, 54, .inl flt)), (rp, .inl (G 0, 49, .inl orp))] t.heap ∧ va_D (va_A [(h0, .inr (11, [.ref st, .int (nI N), .int (nI B), .ref rp, .int vrs, .int (nI nrb), .int vhs, .int vca, .int vxs, .int vxb, .ref tp, .int (nI T), .int vfa, .int vbr, .int vba, .int (nI nsp), .int (nI nhe), .int vtk, .int vva, .ref cu, .ref lt, .ref od, .ref th, .ref be, .ref ln, .int (nI S), .ref ma, .int (nI M), .ref ah, .ref bh, .ref ik, .ref la, .ref lg, .ref ce, .int vto])), (tp, .inl (G 0, 320, .inl ftp)), (cu, .inl (G 0, 11, .inl fcu)), (lt, .inl (G 0, 54, .inl flt)), (rp, .inl (G 0, 49, .inl frp))] sz) [(h0, .inr (11, [.ref st, .int (nI N), .int (nI B), .ref rp, .int vrs, .int (nI orb), .int vhs, .int vca, .int vxs, .int vxb, .ref tp, .int (nI T), .int vfa, .int obr, .int oba, .int (nI osp), .int (nI ohe), .int otk, .int ova, .ref cu, .ref lt, .ref od, .ref th, .ref be, .ref ln, .int (nI S), .ref ma, .int (nI M), .ref ah, .ref bh, .ref ik, .ref la, .ref lg, .ref ce, .int vto])), (tp, .inl (G 0, 320, .inl ftp)), (cu, .inl (G 0, 11, .inl fcu)), (lt, .inl (G 0, 54, .inl flt)), (rp, .inl (G 0, 49, .inl orp))]) (va_A [(h0, .inr (11, [.ref st, .int (nI N), .int (nI B), .ref rp, .int vrs, .int (nI nrb), .int vhs, .int vca, .int vxs, .int vxb, .ref tp, .int (nI T), .int vfa, .int vbr, .int vba, .int (nI nsp), .int (nI nhe), .int vtk, .int vva, .ref cu, .ref lt, .ref od, .ref th, .ref be, .ref ln, .int (nI S), .ref ma, .int (nI M), .ref ah, .ref bh, .ref ik, .ref la, .ref lg, .ref ce, .int vto])), (tp, .inl (G 0, 320, .inl ftp)), (cu, .inl (G 0, 11, .inl fcu)), (lt, .inl (G 0, 54, .inl flt)), (rp, .inl (G 0, 49, .inl frp))] sz)) 0 0 (va_A [(h0, .inr (11, [.ref st, .int (nI N), .int (nI B), .ref rp, .int vrs, .int (nI nrb), .int vhs, .int vca, .int vxs, .int vxb, .ref tp, .int (nI T), .int vfa, .int vbr, .int vba, .int (nI nsp), .int (nI nhe), .int vtk, .int vva, .ref cu, .ref lt, .ref od, .ref th, .ref be, .ref ln, .int (nI S), .ref ma, .int (nI M), .ref ah, .ref bh, .ref ik, .ref la, .ref lg, .ref ce, .int vto])), (tp, .inl (G 0, 320, .inl ftp)), (cu, .inl (G 0, 11, .inl fcu)), (lt, .inl (G 0, 54, .inl flt)), (rp, .inl (G 0, 49, .inl frp))] sz) := by
  have hB_ := hB
  have hM_ := hM
  have hT_ := hT
  have tn1338_ : nIT N := fun _ => nI_toInt (by omega)
  have tn1339_ : nIT B := fun _ => nI_toInt (by omega)
  have tn1340_ : nIT T := fun _ => nI_toInt (by omega)
  have tn1341_ : nIT S := fun _ => nI_toInt (by omega)
  have tn1342_ : nIT M := fun _ => nI_toInt (by omega)
  refine Met.ofW (cc := cX11_readBearer) (maxL := 3) (ret := none) (by decide) rfl ?_
  intro p e s m args below meth c s₁ Bd hml hv
  obtain ⟨rfl, hsz, hP, hK, hD0⟩ := hv
  have hx := Bd.exec
  have hb := Bd.bytes
  have hr := Bd.returns
  have hg : ∀ w ∈ GT, w.before ([.ref h0] : List Value).toArray s = true := fun w h => atoms_spec (ws := Cond.code yX11_readBearer cX11_readBearer 3 none :: GT) Bd.pre w (List.mem_cons_of_mem _ h)
  have hown : s.vm.findClass RX11 = some m.cls := findClass_of_methodNamed Bd.named
  have hlocks := Bd.notSynchronized
  subst hsz
  have hD := hD0.self (sz := s.heap.size)
  generalize hAe : va_A [(h0, .inr (11, [.ref st, .int (nI N), .int (nI B), .ref rp, .int vrs, .int (nI nrb), .int vhs, .int vca, .int vxs, .int vxb, .ref tp, .int (nI T), .int vfa, .int vbr, .int vba, .int (nI nsp), .int (nI nhe), .int vtk, .int vva, .ref cu, .ref lt, .ref od, .ref th, .ref be, .ref ln, .int (nI S), .ref ma, .int (nI M), .ref ah, .ref bh, .ref ik, .ref la, .ref lg, .ref ce, .int vto])), (tp, .inl (G 0, 320, .inl ftp)), (cu, .inl (G 0, 11, .inl fcu)), (lt, .inl (G 0, 54, .inl flt)), (rp, .inl (G 0, 49, .inl frp))] s.heap.size = A at hD ⊢
  have hA : ∀ q : Nat, s.heap.size ≤ q → A q := fun q h => by rw [← hAe]; exact Or.inr h
  have hS : va_S A s.heap s.heap [] := va_S.rf
  have hl := lv_entry ([.ref h0]) (n := 3) (Nat.le_of_ble_eq_true rfl)
  rw [lg_entry_eq]
  generalize (lg_sl ([.ref h0]) ++ List.replicate (3 - (lg_sl ([.ref h0])).length) Slot.unset).toArray = ls at hl ⊢
  have hl : lv_has ls 3 [(0, .ref h0)] := hl
  refine lv_aload_n hx hb dX11_readBearer_0 rfl (lv_at hl 0 rfl) ?_
  refine va_get (D := (dC, dI)) (ci := 11) (v := .int (nI nrb)) (C := RX11) (T := TX11) (N := 35) hx hb hg inG11 hown hK.1 hP 0 rfl rfl 5 (Nat.le_of_ble_eq_true rfl) (hg _ wt_883) (fun _ h9 => h9) rfl dX11_readBearer_1 ?_
  refine lv_istore_n (lv' := [(1, .int (nI nrb)), (0, .ref h0)]) hx hb dX11_readBearer_4 rfl hl (by decide) rfl (fun ls hl => ?_)
  refine lv_iload_n hx hb dX11_readBearer_5 rfl (lv_at hl 0 rfl) ?_
  refine lv_bipush (v := 6) hx hb dX11_readBearer_6 rfl ?_
  refine lv_icmp_ne (tgt := 17) hx hb dX11_readBearer_8 rfl (fun c1 => ?_) (fun c1 => ?_)
  · skip
    have tn1343_ : nIT nrb := fun _ => nI_toInt (by first | omega | (have t := neI c1; omega))
    have n2 : nrb ≠ 6 := by have t := neI c1; rw [show (nI (nrb)).toInt = ((nrb : Nat) : Int) from tn1343_ ()] at t; have : (6 : Int32).toInt = 6 := qI_6; omega
    refine lv_aload_n hx hb dX11_readBearer_17 rfl (lv_at hl 1 rfl) ?_
    obtain ⟨hPc, hDc, hFc⟩ := va_sub3 (ws' := [(h0, .inr (11, [.ref st, .int (nI N), .int (nI B), .ref rp, .int vrs, .int (nI nrb), .int vhs, .int vca, .int vxs, .int vxb, .ref tp, .int (nI T), .int vfa, .int vbr, .int vba, .int (nI nsp), .int (nI nhe), .int vtk, .int vva, .ref cu, .ref lt, .ref od, .ref th, .ref be, .ref ln, .int (nI S), .ref ma, .int (nI M), .ref ah, .ref bh, .ref ik, .ref la, .ref lg, .ref ce, .int vto])), (tp, .inl (G 0, 320, .inl ftp))]) hP hD hS hA [0, 1] (by decide) rfl
    have tn1344_ : nIT nsp := fun _ => nI_toInt (by first | omega | (have t_n2 := n2; omega))
    have tn1345_ : nIT nhe := fun _ => nI_toInt (by first | omega | (have t_n2 := n2; omega))
    refine va_callv (va_runV (As := []) (rest := []) ⟨hx, hb, hml, hown, hg⟩ (c_X11_goesOnE l dC dI G _ h0 st N B rp tp T nsp nhe cu lt od th be ln S ma M ah bh ik la lg ce vrs (nI nrb) vhs vca vxs vxb vfa vbr vba vtk vva vto ftp hN hB_ hT_ hS0 hM_ hbr hsp (by have t_n2 := n2; have tnb_ := nib8 tn1338_ tn1339_ tn1343_ tn1340_ tn1344_ tn1345_ tn1341_ tn1342_; have tqz_ := qz41_; omega) htb) (kwV hg mfX11_goesOn wt_999 ⟨Nat.le_of_ble_eq_true rfl, Nat.le_of_ble_eq_true rfl⟩) (preVW hK hPc hDc (ci := 11) (r := (RX11, TX11, 35)) rfl rfl) rfl rfl hl.1 rfl (lv_room (Nat.le_of_ble_eq_true rfl)) dX11_readBearer_18 ⟨Nat.le_of_ble_eq_true rfl, Nat.le_of_ble_eq_true rfl⟩) hS (fun q _ h => hFc q h) hFc (fun ur3 t H1 locs ht hvm w4 hB hz1 hk1 hS => ?_)
    obtain ⟨u5, u6, u7, u8, u9, u10⟩ := ur3
    obtain ⟨hP1, hD1⟩ := hB
    rw [ht] at hP1
    obtain ⟨hP, hD⟩ := va_join (wr := [(cu, .inl (G 0, 11, .inl fcu)), (lt, .inl (G 0, 54, .inl flt)), (rp, .inl (G 0, 49, .inl frp))]) (w1 := [(h0, .inr (11, [.ref st, .int (nI N), .int (nI B), .ref rp, .int vrs, .int (nI nrb), .int vhs, .int vca, .int vxs, .int vxb, .ref tp, .int (nI T), .int vfa, .int u5, .int u6, .int (nI u7), .int (nI u8), .int u9, .int u10, .ref cu, .ref lt, .ref od, .ref th, .ref be, .ref ln, .int (nI S), .ref ma, .int (nI M), .ref ah, .ref bh, .ref ik, .ref la, .ref lg, .ref ce, .int vto])), (tp, .inl (G 0, 320, .inl ftp))]) hP hD [0, 1] [2, 3, 4] rfl rfl (by decide) (by decide) hk1 hFc hP1 hD1
    have w4 : 0 ≤ u5.toInt ∧ (vbr.toInt = 0 ∨ u5.toInt = vbr.toInt) ∧ nsp ≤ u7 ∧ u7 ≤ T ∧ u8 ≤ u7 ∧ (0 < vbr.toInt ∨ u9.toInt = 0 ∨ nsp < u7) ∧ (u5, u6, u7, u8, u9, u10) = gOn ftp T vbr vba nsp nhe vtk vva := w4
    generalize H1 = H at hP hS ⊢
    have ew4 : gT ftp T (vbr, vba, nsp, nhe, vtk, vva) = (u5, u6, u7, u8, u9, u10) := w4.2.2.2.2.2.2.symm
    refine lv_aload_n hx hb dX11_readBearer_21 rfl (lv_at hl 1 rfl) ?_
    have hPc := hP.sub (ws' := [(h0, .inr (11, [.ref st, .int (nI N), .int (nI B), .ref rp, .int vrs, .int (nI nrb), .int vhs, .int vca, .int vxs, .int vxb, .ref tp, .int (nI T), .int vfa, .int u5, .int u6, .int (nI u7), .int (nI u8), .int u9, .int u10, .ref cu, .ref lt, .ref od, .ref th, .ref be, .ref ln, .int (nI S), .ref ma, .int (nI M), .ref ah, .ref bh, .ref ik, .ref la, .ref lg, .ref ce, .int vto])), (tp, .inl (G 0, 320, .inl ftp)), (cu, .inl (G 0, 11, .inl fcu)), (lt, .inl (G 0, 54, .inl flt))]) [3, 4, 0, 1] rfl
    refine va_calli (va_runV (As := []) (rest := []) ⟨hx, hb, hml, hown, hg⟩ (c_X11_nameHereE l dC dI G _ h0 st N B rp tp T u7 u8 cu lt od th be ln S ma M ah bh ik la lg ce vrs (nI nrb) vhs vca vxs vxb vfa u5 u6 u9 u10 vto ftp fcu flt hN hB_ hT_ hS0 hM_ (by first | omega | (have t_n2 := n2; have tnb_ := nib8 tn1338_ tn1339_ tn1343_ tn1340_ tn1344_ tn1345_ tn1341_ tn1342_; have tqz_ := qz41_; omega)) (by first | omega | (have t_n2 := n2; have tnb_ := nib8 tn1338_ tn1339_ tn1343_ tn1340_ tn1344_ tn1345_ tn1341_ tn1342_; have tqz_ := qz41_; omega)) hc hlt) (kwV hg mfX11_nameHere wt_1019 ⟨Nat.le_of_ble_eq_true rfl, Nat.le_of_ble_eq_true rfl⟩) (preVR hK hPc (ci := 11) (r := (RX11, TX11, 35)) rfl rfl) rfl rfl hl.1 rfl (lv_room (Nat.le_of_ble_eq_true rfl)) dX11_readBearer_22 ⟨Nat.le_of_ble_eq_true rfl, Nat.le_of_ble_eq_true rfl⟩) hS (fun q h1 h2 => absurd h2 (Nat.not_le.mpr h1)) (fun q h => hA q (Nat.le_trans hS.1 h)) (fun r11 ur11 t H1 locs ht hvm w12 hB hz1 hk1 hS => ?_)
    have hP := keepR hP hk1
    obtain ⟨w12, w12x⟩ := w12
    obtain ⟨w12, w12e⟩ := w12
    rcases w12 with w121 | ⟨w120, w121, w122⟩
    · skip
      have ew12 : nT ftp (u5, u6, u7, u8, u9, u10) = (-4) := (w121.symm.trans w12e).symm
      refine lv_cg (y := (-4)) w121 ?_
      refine lv_iconst (v := 4) hx hb dX11_readBearer_25 rfl ?_
      refine lv_isub hx hb dX11_readBearer_26 ?_
      refine lv_cg (y := (-8)) (by decide) ?_
      refine lv_istore_n (lv' := [(2, .int (-8)), (1, .int (nI nrb)), (0, .ref h0)]) hx hb dX11_readBearer_27 rfl hl (by decide) rfl (fun ls hl => ?_)
      refine lv_iload_n hx hb dX11_readBearer_28 rfl (lv_at hl 0 rfl) ?_
      refine lv_if_ge (tgt := 38) hx hb dX11_readBearer_29 rfl (fun c13 => ?_) (fun c13 => ?_)
      · skip
        exact absurd c13 (by decide)
      · skip
        refine lv_aload_n hx hb dX11_readBearer_32 rfl (lv_at hl 2 rfl) ?_
        refine lv_iconst (v := 2) hx hb dX11_readBearer_33 rfl ?_
        obtain ⟨hPc, hDc, hFc⟩ := va_sub3 (ws' := [(h0, .inr (11, [.ref st, .int (nI N), .int (nI B), .ref rp, .int vrs, .int (nI nrb), .int vhs, .int vca, .int vxs, .int vxb, .ref tp, .int (nI T), .int vfa, .int u5, .int u6, .int (nI u7), .int (nI u8), .int u9, .int u10, .ref cu, .ref lt, .ref od, .ref th, .ref be, .ref ln, .int (nI S), .ref ma, .int (nI M), .ref ah, .ref bh, .ref ik, .ref la, .ref lg, .ref ce, .int vto]))]) hP hD hS hA [3] (by decide) rfl
        refine va_callv (va_runV (As := [.int 2]) (rest := []) ⟨hx, hb, hml, hown, hg⟩ (c_X11_failsE l dC dI G _ h0 st N B rp tp T u8 cu lt od th be ln S ma M ah bh ik la lg ce 2 vrs (nI nrb) vhs vca vxs vxb vfa u5 u6 (nI u7) u9 u10 vto hN hB_ hT_ hS0 hM_ (by have t_n2 := n2; have t_c13 := nleI c13; have tqz_ := qz42_; have tnb_ := nib8 tn1338_ tn1339_ tn1343_ tn1340_ tn1344_ tn1345_ tn1341_ tn1342_; have tqz_ := qz45_; omega) (by have t_n2 := n2; have t_c13 := nleI c13; have tqz_ := qz42_; have tnb_ := nib8 tn1338_ tn1339_ tn1343_ tn1340_ tn1344_ tn1345_ tn1341_ tn1342_; have tqz_ := qz45_; omega) (by first | omega | (have t_n2 := n2; have t_c13 := nleI c13; have tqz_ := qz42_; have tnb_ := nib8 tn1338_ tn1339_ tn1343_ tn1340_ tn1344_ tn1345_ tn1341_ tn1342_; have tqz_ := qz45_; omega))) (kwV hg mfX11_fails wt_1011 ⟨Nat.le_of_ble_eq_true rfl, Nat.le_of_ble_eq_true rfl⟩) (preVW hK hPc hDc (ci := 11) (r := (RX11, TX11, 35)) rfl rfl) rfl rfl hl.1 rfl (lv_room (Nat.le_of_ble_eq_true rfl)) dX11_readBearer_34 ⟨Nat.le_of_ble_eq_true rfl, Nat.le_of_ble_eq_true rfl⟩) hS (fun q _ h => hFc q h) hFc (fun ur14 t H1 locs ht hvm w15 hB hz1 hk1 hS => ?_)
        obtain ⟨u16, u17⟩ := ur14
        obtain ⟨hP1, hD1⟩ := hB
        rw [ht] at hP1
        obtain ⟨hP, hD⟩ := va_join (wr := [(cu, .inl (G 0, 11, .inl fcu)), (lt, .inl (G 0, 54, .inl flt)), (rp, .inl (G 0, 49, .inl frp)), (tp, .inl (G 0, 320, .inl ftp))]) (w1 := [(h0, .inr (11, [.ref st, .int (nI N), .int (nI B), .ref rp, .int vrs, .int (nI nrb), .int vhs, .int vca, .int vxs, .int vxb, .ref tp, .int (nI T), .int vfa, .int u16, .int u17, .int (nI u7), .int (nI u8), .int u9, .int u10, .ref cu, .ref lt, .ref od, .ref th, .ref be, .ref ln, .int (nI S), .ref ma, .int (nI M), .ref ah, .ref bh, .ref ik, .ref la, .ref lg, .ref ce, .int vto]))]) hP hD [3] [0, 1, 2, 4] rfl rfl (by decide) (by decide) hk1 hFc hP1 hD1
        have w15 : 0 < u16.toInt ∧ u16 = flB (2 : Int32) u5 ∧ u17 = flA u5 u6 u8 := w15
        generalize H1 = H at hP hS ⊢
        have ew15 : fT 2 (u5, u6, u7, u8, u9, u10) = (u16, u17, u7, u8, u9, u10) := (by show (flB _ _, flA _ _ _, _, _, _, _) = _; rw [← w15.2.1, ← w15.2.2])
        obtain ⟨hP9, hD9⟩ := va_sub2 (ws' := [(h0, .inr (11, [.ref st, .int (nI N), .int (nI B), .ref rp, .int vrs, .int (nI nrb), .int vhs, .int vca, .int vxs, .int vxb, .ref tp, .int (nI T), .int vfa, .int u16, .int u17, .int (nI u7), .int (nI u8), .int u9, .int u10, .ref cu, .ref lt, .ref od, .ref th, .ref be, .ref ln, .int (nI S), .ref ma, .int (nI M), .ref ah, .ref bh, .ref ik, .ref la, .ref lg, .ref ce, .int vto])), (tp, .inl (G 0, 320, .inl ftp)), (cu, .inl (G 0, 11, .inl fcu)), (lt, .inl (G 0, 54, .inl flt)), (rp, .inl (G 0, 49, .inl frp))]) hP hD [4, 3, 0, 1, 2] (by decide) rfl
        refine W.widen (k := 0) (n := 0) (Nat.le_of_ble_eq_true rfl) (Nat.le_of_ble_eq_true rfl) ?_
        exact W.vret hx hb hr (fun t ht hW => ⟨⟨(u16, u17, u7, u8, u9, u10, nrb, frp), rfl, ⟨⟨hrp, (by have t_n2 := n2; have t_c13 := nleI c13; have t_w15 := w15.1; have tqz_ := qz42_; have tnb_ := nib8 tn1338_ tn1339_ tn1343_ tn1340_ tn1344_ tn1345_ tn1341_ tn1342_; have tqz_ := qz41_; omega)⟩, (by unfold rbS; (first | rw [if_pos (by (have t_n2 := n2; have t_c13 := nleI c13; have t_w15 := w15.1; have tqz_ := qz42_; have tnb_ := nib8 tn1338_ tn1339_ tn1343_ tn1340_ tn1344_ tn1345_ tn1341_ tn1342_; have tqz_ := qz41_; omega))] | rw [if_neg (by (have t_n2 := n2; have t_c13 := nleI c13; have t_w15 := w15.1; have tqz_ := qz42_; have tnb_ := nib8 tn1338_ tn1339_ tn1343_ tn1340_ tn1344_ tn1345_ tn1341_ tn1342_; have tqz_ := qz41_; omega))]); (try rw [ew4]); (try rw [ew12]); (try rw [ew15]); (try (repeat (first | rw [if_pos (by with_reducible assumption)] | rw [if_neg (by with_reducible assumption)] | rw [if_pos (by (have t_n2 := n2; have t_c13 := nleI c13; have t_w15 := w15.1; have tqz_ := qz42_; have tnb_ := nib8 tn1338_ tn1339_ tn1343_ tn1340_ tn1344_ tn1345_ tn1341_ tn1342_; have tqz_ := qz41_; omega))] | rw [if_neg (by (have t_n2 := n2; have t_c13 := nleI c13; have t_w15 := w15.1; have tqz_ := qz42_; have tnb_ := nib8 tn1338_ tn1339_ tn1343_ tn1340_ tn1344_ tn1345_ tn1341_ tn1342_; have tqz_ := qz41_; omega))] | rw [if_pos (by decide)] | rw [if_neg (by decide)]))); all_goals rfl)⟩, ⟨by rw [ht]; exact hP9, hD9⟩⟩, hS.F ht⟩) hS.2.2 dX11_readBearer_37
    · skip
      have ew12 : nT ftp (u5, u6, u7, u8, u9, u10) = nI w120 := (w121.symm.trans w12e).symm
      refine lv_cg (y := nI w120) w121 ?_
      refine lv_iconst (v := 4) hx hb dX11_readBearer_25 rfl ?_
      refine lv_isub hx hb dX11_readBearer_26 ?_
      have e9 := nIm4 (n := w120) (by omega)
      refine lv_istore_n (lv' := [(2, .int ((nI w120) - 4)), (1, .int (nI nrb)), (0, .ref h0)]) hx hb dX11_readBearer_27 rfl hl (by decide) rfl (fun ls hl => ?_)
      refine lv_iload_n hx hb dX11_readBearer_28 rfl (lv_at hl 0 rfl) ?_
      refine lv_if_ge (tgt := 38) hx hb dX11_readBearer_29 rfl (fun c18 => ?_) (fun c18 => ?_)
      · skip
        refine lv_aload_n hx hb dX11_readBearer_38 rfl (lv_at hl 2 rfl) ?_
        obtain ⟨hPc, hDc, hFc⟩ := va_sub3 (ws' := [(h0, .inr (11, [.ref st, .int (nI N), .int (nI B), .ref rp, .int vrs, .int (nI nrb), .int vhs, .int vca, .int vxs, .int vxb, .ref tp, .int (nI T), .int vfa, .int u5, .int u6, .int (nI u7), .int (nI u8), .int u9, .int u10, .ref cu, .ref lt, .ref od, .ref th, .ref be, .ref ln, .int (nI S), .ref ma, .int (nI M), .ref ah, .ref bh, .ref ik, .ref la, .ref lg, .ref ce, .int vto])), (tp, .inl (G 0, 320, .inl ftp))]) hP hD hS hA [3, 4] (by decide) rfl
        have tn1346_ : nIT w120 := fun _ => nI_toInt (by first | omega | (have t_n2 := n2; have t_w122 := w122; have t_e9 := e9; have t_c18 := leI c18; have : (0 : Int32).toInt = 0 := qI_0; omega))
        refine va_callv (va_runV (As := []) (rest := []) ⟨hx, hb, hml, hown, hg⟩ (c_X11_goesOnE l dC dI G _ h0 st N B rp tp T u7 u8 cu lt od th be ln S ma M ah bh ik la lg ce vrs (nI nrb) vhs vca vxs vxb vfa u5 u6 u9 u10 vto ftp hN hB_ hT_ hS0 hM_ (by have t_n2 := n2; have t_w122 := w122; have t_e9 := e9; have t_c18 := leI c18; have : (0 : Int32).toInt = 0 := qI_0; have tnb_ := nib9 tn1338_ tn1339_ tn1343_ tn1340_ tn1344_ tn1345_ tn1341_ tn1342_ tn1346_; have tqz_ := qz41_; omega) (by first | omega | (have t_n2 := n2; have t_w122 := w122; have t_e9 := e9; have t_c18 := leI c18; have : (0 : Int32).toInt = 0 := qI_0; have tnb_ := nib9 tn1338_ tn1339_ tn1343_ tn1340_ tn1344_ tn1345_ tn1341_ tn1342_ tn1346_; have tqz_ := qz41_; omega)) (by have t_n2 := n2; have t_w122 := w122; have t_e9 := e9; have t_c18 := leI c18; have : (0 : Int32).toInt = 0 := qI_0; have tnb_ := nib9 tn1338_ tn1339_ tn1343_ tn1340_ tn1344_ tn1345_ tn1341_ tn1342_ tn1346_; have tqz_ := qz41_; omega) htb) (kwV hg mfX11_goesOn wt_999 ⟨Nat.le_of_ble_eq_true rfl, Nat.le_of_ble_eq_true rfl⟩) (preVW hK hPc hDc (ci := 11) (r := (RX11, TX11, 35)) rfl rfl) rfl rfl hl.1 rfl (lv_room (Nat.le_of_ble_eq_true rfl)) dX11_readBearer_39 ⟨Nat.le_of_ble_eq_true rfl, Nat.le_of_ble_eq_true rfl⟩) hS (fun q _ h => hFc q h) hFc (fun ur19 t H1 locs ht hvm w20 hB hz1 hk1 hS => ?_)
        obtain ⟨u21, u22, u23, u24, u25, u26⟩ := ur19
        obtain ⟨hP1, hD1⟩ := hB
        rw [ht] at hP1
        obtain ⟨hP, hD⟩ := va_join (wr := [(cu, .inl (G 0, 11, .inl fcu)), (lt, .inl (G 0, 54, .inl flt)), (rp, .inl (G 0, 49, .inl frp))]) (w1 := [(h0, .inr (11, [.ref st, .int (nI N), .int (nI B), .ref rp, .int vrs, .int (nI nrb), .int vhs, .int vca, .int vxs, .int vxb, .ref tp, .int (nI T), .int vfa, .int u21, .int u22, .int (nI u23), .int (nI u24), .int u25, .int u26, .ref cu, .ref lt, .ref od, .ref th, .ref be, .ref ln, .int (nI S), .ref ma, .int (nI M), .ref ah, .ref bh, .ref ik, .ref la, .ref lg, .ref ce, .int vto])), (tp, .inl (G 0, 320, .inl ftp))]) hP hD [3, 4] [0, 1, 2] rfl rfl (by decide) (by decide) hk1 hFc hP1 hD1
        have w20 : 0 ≤ u21.toInt ∧ (u5.toInt = 0 ∨ u21.toInt = u5.toInt) ∧ u7 ≤ u23 ∧ u23 ≤ T ∧ u24 ≤ u23 ∧ (0 < u5.toInt ∨ u25.toInt = 0 ∨ u7 < u23) ∧ (u21, u22, u23, u24, u25, u26) = gOn ftp T u5 u6 u7 u8 u9 u10 := w20
        generalize H1 = H at hP hS ⊢
        have ew20 : gT ftp T (u5, u6, u7, u8, u9, u10) = (u21, u22, u23, u24, u25, u26) := w20.2.2.2.2.2.2.symm
        refine lv_aload_n hx hb dX11_readBearer_42 rfl (lv_at hl 2 rfl) ?_
        refine va_get (D := (dC, dI)) (ci := 11) (v := .ref rp) (C := RX11) (T := TX11) (N := 35) hx hb hg inG11 hown hK.1 hP 3 rfl rfl 3 (Nat.le_of_ble_eq_true rfl) (hg _ wt_881) (fun _ h9 => h9) rfl dX11_readBearer_43 ?_
        refine lv_bipush (v := 20) hx hb dX11_readBearer_46 rfl ?_
        refine lv_iconst (v := 3) hx hb dX11_readBearer_48 rfl ?_
        refine lv_iload_n hx hb dX11_readBearer_49 rfl (lv_at hl 1 rfl) ?_
        refine lv_imul hx hb dX11_readBearer_50 ?_
        refine lv_cg (y := nI (3 * nrb)) (by rw [show (3 : Int32) = nI 3 from rfl]; exact pk_mul _ _) ?_
        refine lv_iadd hx hb dX11_readBearer_51 ?_
        refine lv_cg (y := nI (20 + (3 * nrb))) (by rw [show (20 : Int32) = nI 20 from rfl]; exact nI_add _ _) ?_
        refine lv_iload_n hx hb dX11_readBearer_52 rfl (lv_at hl 0 rfl) ?_
        refine va_iast hx hb hK.1 hP hD hS 2 0 rfl rfl (vp_in_nI (by first | omega | (have t_n2 := n2; have t_w122 := w122; have t_e9 := e9; have t_c18 := leI c18; have : (0 : Int32).toInt = 0 := qI_0; have tnb_ := nib9 tn1338_ tn1339_ tn1343_ tn1340_ tn1344_ tn1345_ tn1341_ tn1342_ tn1346_; omega)) (by decide)) dX11_readBearer_53 (fun H locs hP hD hS => ?_)
        rw [nI_clamp (by omega)] at hP hD
        refine lv_aload_n hx hb dX11_readBearer_54 rfl (lv_at hl 2 rfl) ?_
        refine va_get (D := (dC, dI)) (ci := 11) (v := .ref rp) (C := RX11) (T := TX11) (N := 35) hx hb hg inG11 hown hK.1 hP 3 rfl rfl 3 (Nat.le_of_ble_eq_true rfl) (hg _ wt_881) (fun _ h9 => h9) rfl dX11_readBearer_55 ?_
        refine lv_bipush (v := 20) hx hb dX11_readBearer_58 rfl ?_
        refine lv_iconst (v := 3) hx hb dX11_readBearer_60 rfl ?_
        refine lv_iload_n hx hb dX11_readBearer_61 rfl (lv_at hl 1 rfl) ?_
        refine lv_imul hx hb dX11_readBearer_62 ?_
        refine lv_cg (y := nI (3 * nrb)) (by rw [show (3 : Int32) = nI 3 from rfl]; exact pk_mul _ _) ?_
        refine lv_iadd hx hb dX11_readBearer_63 ?_
        refine lv_cg (y := nI (20 + (3 * nrb))) (by rw [show (20 : Int32) = nI 20 from rfl]; exact nI_add _ _) ?_
        refine lv_iconst (v := 1) hx hb dX11_readBearer_64 rfl ?_
        refine lv_iadd hx hb dX11_readBearer_65 ?_
        refine lv_cg (y := nI ((20 + (3 * nrb)) + 1)) (by rw [show (1 : Int32) = nI 1 from rfl]; exact nI_add _ _) ?_
        refine lv_aload_n hx hb dX11_readBearer_66 rfl (lv_at hl 2 rfl) ?_
        refine lv_iconst (v := 0) hx hb dX11_readBearer_67 rfl ?_
        refine lv_bipush (v := 9) hx hb dX11_readBearer_68 rfl ?_
        refine lv_iconst (v := 0) hx hb dX11_readBearer_70 rfl ?_
        obtain ⟨hPc, hDc, hFc⟩ := va_sub3 (ws' := [(h0, .inr (11, [.ref st, .int (nI N), .int (nI B), .ref rp, .int vrs, .int (nI nrb), .int vhs, .int vca, .int vxs, .int vxb, .ref tp, .int (nI T), .int vfa, .int u21, .int u22, .int (nI u23), .int (nI u24), .int u25, .int u26, .ref cu, .ref lt, .ref od, .ref th, .ref be, .ref ln, .int (nI S), .ref ma, .int (nI M), .ref ah, .ref bh, .ref ik, .ref la, .ref lg, .ref ce, .int vto])), (tp, .inl (G 0, 320, .inl ftp))]) hP hD hS hA [3, 4] (by decide) rfl
        refine va_calli (va_runV (As := [.int 0, .int 9, .int 0]) (rest := [.int (nI ((20 + (3 * nrb)) + 1)), .ref rp]) ⟨hx, hb, hml, hown, hg⟩ (c_X11_otherE l dC dI G _ h0 st N B rp tp T u23 u24 cu lt od th be ln S ma M ah bh ik la lg ce 0 9 0 vrs (nI nrb) vhs vca vxs vxb vfa u21 u22 u25 u26 vto ftp hN hB_ hT_ hS0 hM_ (by have t_n2 := n2; have t_w122 := w122; have t_e9 := e9; have t_c18 := leI c18; have : (0 : Int32).toInt = 0 := qI_0; have tnb_ := nib9 tn1338_ tn1339_ tn1343_ tn1340_ tn1344_ tn1345_ tn1341_ tn1342_ tn1346_; have tqz_ := qz41_; omega) (by first | omega | (have t_n2 := n2; have t_w122 := w122; have t_e9 := e9; have t_c18 := leI c18; have : (0 : Int32).toInt = 0 := qI_0; have tnb_ := nib9 tn1338_ tn1339_ tn1343_ tn1340_ tn1344_ tn1345_ tn1341_ tn1342_ tn1346_; have tqz_ := qz41_; omega)) (by first | omega | (have t_n2 := n2; have t_w122 := w122; have t_e9 := e9; have t_c18 := leI c18; have : (0 : Int32).toInt = 0 := qI_0; have tnb_ := nib9 tn1338_ tn1339_ tn1343_ tn1340_ tn1344_ tn1345_ tn1341_ tn1342_ tn1346_; have tqz_ := qz41_; omega)) (by have t_n2 := n2; have t_w122 := w122; have t_e9 := e9; have t_c18 := leI c18; have : (0 : Int32).toInt = 0 := qI_0; have tnb_ := nib9 tn1338_ tn1339_ tn1343_ tn1340_ tn1344_ tn1345_ tn1341_ tn1342_ tn1346_; have tqz_ := qz41_; omega) htb) (kwV hg mfX11_other wt_1028 ⟨Nat.le_of_ble_eq_true rfl, Nat.le_of_ble_eq_true rfl⟩) (preVW hK hPc hDc (ci := 11) (r := (RX11, TX11, 35)) rfl rfl) rfl rfl hl.1 rfl (lv_room (Nat.le_of_ble_eq_true rfl)) dX11_readBearer_71 ⟨Nat.le_of_ble_eq_true rfl, Nat.le_of_ble_eq_true rfl⟩) hS (fun q _ h => hFc q h) hFc (fun r27 ur27 t H1 locs ht hvm w28 hB hz1 hk1 hS => ?_)
        obtain ⟨u29, u30, u31, u32, u33, u34⟩ := ur27
        obtain ⟨hP1, hD1⟩ := hB
        rw [ht] at hP1
        obtain ⟨hP, hD⟩ := va_join (wr := [(cu, .inl (G 0, 11, .inl fcu)), (lt, .inl (G 0, 54, .inl flt)), (rp, .inl (G 0, 49, .inl (upd frp (20 + (3 * nrb)) ((nI w120) - 4))))]) (w1 := [(h0, .inr (11, [.ref st, .int (nI N), .int (nI B), .ref rp, .int vrs, .int (nI nrb), .int vhs, .int vca, .int vxs, .int vxb, .ref tp, .int (nI T), .int vfa, .int u29, .int u30, .int (nI u31), .int (nI u32), .int u33, .int u34, .ref cu, .ref lt, .ref od, .ref th, .ref be, .ref ln, .int (nI S), .ref ma, .int (nI M), .ref ah, .ref bh, .ref ik, .ref la, .ref lg, .ref ce, .int vto])), (tp, .inl (G 0, 320, .inl ftp))]) hP hD [3, 4] [0, 1, 2] rfl rfl (by decide) (by decide) hk1 hFc hP1 hD1
        generalize H1 = H at hP hS ⊢
        obtain ⟨w28, w28x⟩ := w28
        have vw28 : oV 0 9 0 (u21, u22, u23, u24, u25, u26) = r27 := w28.2.symm
        have ew28 : oS ftp T 0 9 0 (u21, u22, u23, u24, u25, u26) = (u29, u30, u31, u32, u33, u34) := w28x.2.2.2.2.2.2.symm
        refine va_iast hx hb hK.1 hP hD hS 2 0 rfl rfl (vp_in_nI (by first | omega | (have t_n2 := n2; have t_w122 := w122; have t_e9 := e9; have t_c18 := leI c18; have : (0 : Int32).toInt = 0 := qI_0; have tnb_ := nib9 tn1338_ tn1339_ tn1343_ tn1340_ tn1344_ tn1345_ tn1341_ tn1342_ tn1346_; omega)) (by decide)) dX11_readBearer_74 (fun H locs hP hD hS => ?_)
        rw [nI_clamp (by omega)] at hP hD
        refine lv_aload_n hx hb dX11_readBearer_75 rfl (lv_at hl 2 rfl) ?_
        refine va_get (D := (dC, dI)) (ci := 11) (v := .ref rp) (C := RX11) (T := TX11) (N := 35) hx hb hg inG11 hown hK.1 hP 3 rfl rfl 3 (Nat.le_of_ble_eq_true rfl) (hg _ wt_881) (fun _ h9 => h9) rfl dX11_readBearer_76 ?_
        refine lv_bipush (v := 20) hx hb dX11_readBearer_79 rfl ?_
        refine lv_iconst (v := 3) hx hb dX11_readBearer_81 rfl ?_
        refine lv_iload_n hx hb dX11_readBearer_82 rfl (lv_at hl 1 rfl) ?_
        refine lv_imul hx hb dX11_readBearer_83 ?_
        refine lv_cg (y := nI (3 * nrb)) (by rw [show (3 : Int32) = nI 3 from rfl]; exact pk_mul _ _) ?_
        refine lv_iadd hx hb dX11_readBearer_84 ?_
        refine lv_cg (y := nI (20 + (3 * nrb))) (by rw [show (20 : Int32) = nI 20 from rfl]; exact nI_add _ _) ?_
        refine lv_iconst (v := 2) hx hb dX11_readBearer_85 rfl ?_
        refine lv_iadd hx hb dX11_readBearer_86 ?_
        refine lv_cg (y := nI ((20 + (3 * nrb)) + 2)) (by rw [show (2 : Int32) = nI 2 from rfl]; exact nI_add _ _) ?_
        refine lv_aload_n hx hb dX11_readBearer_87 rfl (lv_at hl 2 rfl) ?_
        refine lv_iconst (v := 0) hx hb dX11_readBearer_88 rfl ?_
        refine lv_bipush (v := 9) hx hb dX11_readBearer_89 rfl ?_
        refine lv_iconst (v := 0) hx hb dX11_readBearer_91 rfl ?_
        obtain ⟨hPc, hDc, hFc⟩ := va_sub3 (ws' := [(h0, .inr (11, [.ref st, .int (nI N), .int (nI B), .ref rp, .int vrs, .int (nI nrb), .int vhs, .int vca, .int vxs, .int vxb, .ref tp, .int (nI T), .int vfa, .int u29, .int u30, .int (nI u31), .int (nI u32), .int u33, .int u34, .ref cu, .ref lt, .ref od, .ref th, .ref be, .ref ln, .int (nI S), .ref ma, .int (nI M), .ref ah, .ref bh, .ref ik, .ref la, .ref lg, .ref ce, .int vto])), (tp, .inl (G 0, 320, .inl ftp))]) hP hD hS hA [3, 4] (by decide) rfl
        refine va_calli (va_runV (As := [.int 0, .int 9, .int 0]) (rest := [.int (nI ((20 + (3 * nrb)) + 2)), .ref rp]) ⟨hx, hb, hml, hown, hg⟩ (c_X11_otherE l dC dI G _ h0 st N B rp tp T u31 u32 cu lt od th be ln S ma M ah bh ik la lg ce 0 9 0 vrs (nI nrb) vhs vca vxs vxb vfa u29 u30 u33 u34 vto ftp hN hB_ hT_ hS0 hM_ (by have t_n2 := n2; have t_w122 := w122; have t_e9 := e9; have t_c18 := leI c18; have : (0 : Int32).toInt = 0 := qI_0; have tnb_ := nib9 tn1338_ tn1339_ tn1343_ tn1340_ tn1344_ tn1345_ tn1341_ tn1342_ tn1346_; have tqz_ := qz41_; omega) (by first | omega | (have t_n2 := n2; have t_w122 := w122; have t_e9 := e9; have t_c18 := leI c18; have : (0 : Int32).toInt = 0 := qI_0; have tnb_ := nib9 tn1338_ tn1339_ tn1343_ tn1340_ tn1344_ tn1345_ tn1341_ tn1342_ tn1346_; have tqz_ := qz41_; omega)) (by first | omega | (have t_n2 := n2; have t_w122 := w122; have t_e9 := e9; have t_c18 := leI c18; have : (0 : Int32).toInt = 0 := qI_0; have tnb_ := nib9 tn1338_ tn1339_ tn1343_ tn1340_ tn1344_ tn1345_ tn1341_ tn1342_ tn1346_; have tqz_ := qz41_; omega)) (by have t_n2 := n2; have t_w122 := w122; have t_e9 := e9; have t_c18 := leI c18; have : (0 : Int32).toInt = 0 := qI_0; have tnb_ := nib9 tn1338_ tn1339_ tn1343_ tn1340_ tn1344_ tn1345_ tn1341_ tn1342_ tn1346_; have tqz_ := qz41_; omega) htb) (kwV hg mfX11_other wt_1028 ⟨Nat.le_of_ble_eq_true rfl, Nat.le_of_ble_eq_true rfl⟩) (preVW hK hPc hDc (ci := 11) (r := (RX11, TX11, 35)) rfl rfl) rfl rfl hl.1 rfl (lv_room (Nat.le_of_ble_eq_true rfl)) dX11_readBearer_92 ⟨Nat.le_of_ble_eq_true rfl, Nat.le_of_ble_eq_true rfl⟩) hS (fun q _ h => hFc q h) hFc (fun r35 ur35 t H1 locs ht hvm w36 hB hz1 hk1 hS => ?_)
        obtain ⟨u37, u38, u39, u40, u41, u42⟩ := ur35
        obtain ⟨hP1, hD1⟩ := hB
        rw [ht] at hP1
        obtain ⟨hP, hD⟩ := va_join (wr := [(cu, .inl (G 0, 11, .inl fcu)), (lt, .inl (G 0, 54, .inl flt)), (rp, .inl (G 0, 49, .inl (upd (upd frp (20 + (3 * nrb)) ((nI w120) - 4)) ((20 + (3 * nrb)) + 1) r27)))]) (w1 := [(h0, .inr (11, [.ref st, .int (nI N), .int (nI B), .ref rp, .int vrs, .int (nI nrb), .int vhs, .int vca, .int vxs, .int vxb, .ref tp, .int (nI T), .int vfa, .int u37, .int u38, .int (nI u39), .int (nI u40), .int u41, .int u42, .ref cu, .ref lt, .ref od, .ref th, .ref be, .ref ln, .int (nI S), .ref ma, .int (nI M), .ref ah, .ref bh, .ref ik, .ref la, .ref lg, .ref ce, .int vto])), (tp, .inl (G 0, 320, .inl ftp))]) hP hD [3, 4] [0, 1, 2] rfl rfl (by decide) (by decide) hk1 hFc hP1 hD1
        generalize H1 = H at hP hS ⊢
        obtain ⟨w36, w36x⟩ := w36
        have vw36 : oV 0 9 0 (u29, u30, u31, u32, u33, u34) = r35 := w36.2.symm
        have ew36 : oS ftp T 0 9 0 (u29, u30, u31, u32, u33, u34) = (u37, u38, u39, u40, u41, u42) := w36x.2.2.2.2.2.2.symm
        refine va_iast hx hb hK.1 hP hD hS 2 0 rfl rfl (vp_in_nI (by first | omega | (have t_n2 := n2; have t_w122 := w122; have t_e9 := e9; have t_c18 := leI c18; have : (0 : Int32).toInt = 0 := qI_0; have tnb_ := nib9 tn1338_ tn1339_ tn1343_ tn1340_ tn1344_ tn1345_ tn1341_ tn1342_ tn1346_; omega)) (by decide)) dX11_readBearer_95 (fun H locs hP hD hS => ?_)
        rw [nI_clamp (by omega)] at hP hD
        refine lv_aload_n hx hb dX11_readBearer_96 rfl (lv_at hl 2 rfl) ?_
        refine lv_dup hx hb dX11_readBearer_97 rfl ?_
        refine va_get (D := (dC, dI)) (ci := 11) (v := .int (nI nrb)) (C := RX11) (T := TX11) (N := 35) hx hb hg inG11 hown hK.1 hP 3 rfl rfl 5 (Nat.le_of_ble_eq_true rfl) (hg _ wt_883) (fun _ h9 => h9) rfl dX11_readBearer_98 ?_
        refine lv_iconst (v := 1) hx hb dX11_readBearer_101 rfl ?_
        refine lv_iadd hx hb dX11_readBearer_102 ?_
        refine lv_cg (y := nI (nrb + 1)) (by rw [show (1 : Int32) = nI 1 from rfl]; exact nI_add _ _) ?_
        refine va_put (D := (dC, dI)) (ci := 11) (v := .int (nI (nrb + 1))) (ty := .int) (C := RX11) (T := TX11) (N := 35) hx hb hg inG11 tyX11 tyX11_ok nmX11 hown hK.1 hP hD hS 3 rfl rfl 5 (Nat.le_of_ble_eq_true rfl) (hg _ wt_883) (fun _ h9 => h9) rfl (by decide +kernel) rfl rfl (Nat.le_of_ble_eq_true rfl) dX11_readBearer_103 (fun H locs hP hD hS => ?_)
        obtain ⟨hP9, hD9⟩ := va_sub2 (ws' := [(h0, .inr (11, [.ref st, .int (nI N), .int (nI B), .ref rp, .int vrs, .int (nI (nrb + 1)), .int vhs, .int vca, .int vxs, .int vxb, .ref tp, .int (nI T), .int vfa, .int u37, .int u38, .int (nI u39), .int (nI u40), .int u41, .int u42, .ref cu, .ref lt, .ref od, .ref th, .ref be, .ref ln, .int (nI S), .ref ma, .int (nI M), .ref ah, .ref bh, .ref ik, .ref la, .ref lg, .ref ce, .int vto])), (tp, .inl (G 0, 320, .inl ftp)), (cu, .inl (G 0, 11, .inl fcu)), (lt, .inl (G 0, 54, .inl flt)), (rp, .inl (G 0, 49, .inl (upd (upd (upd frp (20 + (3 * nrb)) ((nI w120) - 4)) ((20 + (3 * nrb)) + 1) r27) ((20 + (3 * nrb)) + 2) r35)))]) hP hD [3, 4, 0, 1, 2] (by decide) rfl
        refine W.widen (k := 0) (n := 0) (Nat.le_of_ble_eq_true rfl) (Nat.le_of_ble_eq_true rfl) ?_
        exact W.vret hx hb hr (fun t ht hW => ⟨⟨(u37, u38, u39, u40, u41, u42, (nrb + 1), (upd (upd (upd frp (20 + (3 * nrb)) ((nI w120) - 4)) ((20 + (3 * nrb)) + 1) r27) ((20 + (3 * nrb)) + 2) r35)), rfl, ⟨⟨(OKP.upd (OKP.upd (OKP.upd hrp (by have t_n2 := n2; have t_w122 := w122; have t_e9 := e9; have t_c18 := leI c18; have : (0 : Int32).toInt = 0 := qI_0; have tnb_ := nib9 tn1338_ tn1339_ tn1343_ tn1340_ tn1344_ tn1345_ tn1341_ tn1342_ tn1346_; have tqz_ := qz41_; first | exact okS_lo (by omega) (by omega) (by omega) | exact okS_or (by omega) (by omega) (by omega) (by omega) | exact okS_sd (by omega) (by omega))) (by have t_n2 := n2; have t_w122 := w122; have t_e9 := e9; have t_c18 := leI c18; have : (0 : Int32).toInt = 0 := qI_0; have tnb_ := nib9 tn1338_ tn1339_ tn1343_ tn1340_ tn1344_ tn1345_ tn1341_ tn1342_ tn1346_; have tqz_ := qz41_; first | exact okS_lo (by omega) (by omega) (by omega) | exact okS_or (by omega) (by omega) (by omega) (by omega) | exact okS_sd (by omega) (by omega))) (by have t_n2 := n2; have t_w122 := w122; have t_e9 := e9; have t_c18 := leI c18; have : (0 : Int32).toInt = 0 := qI_0; have tnb_ := nib9 tn1338_ tn1339_ tn1343_ tn1340_ tn1344_ tn1345_ tn1341_ tn1342_ tn1346_; have tqz_ := qz41_; first | exact okS_lo (by omega) (by omega) (by omega) | exact okS_or (by omega) (by omega) (by omega) (by omega) | exact okS_sd (by omega) (by omega))), (by have t_n2 := n2; have t_w122 := w122; have t_e9 := e9; have t_c18 := leI c18; have : (0 : Int32).toInt = 0 := qI_0; have tnb_ := nib9 tn1338_ tn1339_ tn1343_ tn1340_ tn1344_ tn1345_ tn1341_ tn1342_ tn1346_; have tqz_ := qz41_; omega)⟩, (by unfold rbS; (first | rw [if_pos (by (have t_n2 := n2; have t_w122 := w122; have t_e9 := e9; have t_c18 := leI c18; have : (0 : Int32).toInt = 0 := qI_0; have tnb_ := nib9 tn1338_ tn1339_ tn1343_ tn1340_ tn1344_ tn1345_ tn1341_ tn1342_ tn1346_; have tqz_ := qz41_; omega))] | rw [if_neg (by (have t_n2 := n2; have t_w122 := w122; have t_e9 := e9; have t_c18 := leI c18; have : (0 : Int32).toInt = 0 := qI_0; have tnb_ := nib9 tn1338_ tn1339_ tn1343_ tn1340_ tn1344_ tn1345_ tn1341_ tn1342_ tn1346_; have tqz_ := qz41_; omega))]); (try rw [ew4]); (try rw [ew12]); (try rw [ew20]); (try rw [vw28]); (try rw [ew28]); (try rw [vw36]); (try rw [ew36]); (try (repeat (first | rw [if_pos (by with_reducible assumption)] | rw [if_neg (by with_reducible assumption)] | rw [if_pos (by (have t_n2 := n2; have t_w122 := w122; have t_e9 := e9; have t_c18 := leI c18; have : (0 : Int32).toInt = 0 := qI_0; have tnb_ := nib9 tn1338_ tn1339_ tn1343_ tn1340_ tn1344_ tn1345_ tn1341_ tn1342_ tn1346_; have tqz_ := qz41_; omega))] | rw [if_neg (by (have t_n2 := n2; have t_w122 := w122; have t_e9 := e9; have t_c18 := leI c18; have : (0 : Int32).toInt = 0 := qI_0; have tnb_ := nib9 tn1338_ tn1339_ tn1343_ tn1340_ tn1344_ tn1345_ tn1341_ tn1342_ tn1346_; have tqz_ := qz41_; omega))] | rw [if_pos (by decide)] | rw [if_neg (by decide)]))); all_goals rfl)⟩, ⟨by rw [ht]; exact hP9, hD9⟩⟩, hS.F ht⟩) hS.2.2 dX11_readBearer_106
      · skip
        refine lv_aload_n hx hb dX11_readBearer_32 rfl (lv_at hl 2 rfl) ?_
        refine lv_iconst (v := 2) hx hb dX11_readBearer_33 rfl ?_
        obtain ⟨hPc, hDc, hFc⟩ := va_sub3 (ws' := [(h0, .inr (11, [.ref st, .int (nI N), .int (nI B), .ref rp, .int vrs, .int (nI nrb), .int vhs, .int vca, .int vxs, .int vxb, .ref tp, .int (nI T), .int vfa, .int u5, .int u6, .int (nI u7), .int (nI u8), .int u9, .int u10, .ref cu, .ref lt, .ref od, .ref th, .ref be, .ref ln, .int (nI S), .ref ma, .int (nI M), .ref ah, .ref bh, .ref ik, .ref la, .ref lg, .ref ce, .int vto]))]) hP hD hS hA [3] (by decide) rfl
        have tn1347_ : nIT w120 := fun _ => nI_toInt (by first | omega | (have t_n2 := n2; have t_w122 := w122; have t_e9 := e9; have t_c18 := nleI c18; have : (0 : Int32).toInt = 0 := qI_0; omega))
        refine va_callv (va_runV (As := [.int 2]) (rest := []) ⟨hx, hb, hml, hown, hg⟩ (c_X11_failsE l dC dI G _ h0 st N B rp tp T u8 cu lt od th be ln S ma M ah bh ik la lg ce 2 vrs (nI nrb) vhs vca vxs vxb vfa u5 u6 (nI u7) u9 u10 vto hN hB_ hT_ hS0 hM_ (by have t_n2 := n2; have t_w122 := w122; have t_e9 := e9; have t_c18 := nleI c18; have : (0 : Int32).toInt = 0 := qI_0; have tnb_ := nib9 tn1338_ tn1339_ tn1343_ tn1340_ tn1344_ tn1345_ tn1341_ tn1342_ tn1347_; have tqz_ := qz45_; omega) (by have t_n2 := n2; have t_w122 := w122; have t_e9 := e9; have t_c18 := nleI c18; have : (0 : Int32).toInt = 0 := qI_0; have tnb_ := nib9 tn1338_ tn1339_ tn1343_ tn1340_ tn1344_ tn1345_ tn1341_ tn1342_ tn1347_; have tqz_ := qz45_; omega) (by first | omega | (have t_n2 := n2; have t_w122 := w122; have t_e9 := e9; have t_c18 := nleI c18; have : (0 : Int32).toInt = 0 := qI_0; have tnb_ := nib9 tn1338_ tn1339_ tn1343_ tn1340_ tn1344_ tn1345_ tn1341_ tn1342_ tn1347_; have tqz_ := qz45_; omega))) (kwV hg mfX11_fails wt_1011 ⟨Nat.le_of_ble_eq_true rfl, Nat.le_of_ble_eq_true rfl⟩) (preVW hK hPc hDc (ci := 11) (r := (RX11, TX11, 35)) rfl rfl) rfl rfl hl.1 rfl (lv_room (Nat.le_of_ble_eq_true rfl)) dX11_readBearer_34 ⟨Nat.le_of_ble_eq_true rfl, Nat.le_of_ble_eq_true rfl⟩) hS (fun q _ h => hFc q h) hFc (fun ur43 t H1 locs ht hvm w44 hB hz1 hk1 hS => ?_)
        obtain ⟨u45, u46⟩ := ur43
        obtain ⟨hP1, hD1⟩ := hB
        rw [ht] at hP1
        obtain ⟨hP, hD⟩ := va_join (wr := [(cu, .inl (G 0, 11, .inl fcu)), (lt, .inl (G 0, 54, .inl flt)), (rp, .inl (G 0, 49, .inl frp)), (tp, .inl (G 0, 320, .inl ftp))]) (w1 := [(h0, .inr (11, [.ref st, .int (nI N), .int (nI B), .ref rp, .int vrs, .int (nI nrb), .int vhs, .int vca, .int vxs, .int vxb, .ref tp, .int (nI T), .int vfa, .int u45, .int u46, .int (nI u7), .int (nI u8), .int u9, .int u10, .ref cu, .ref lt, .ref od, .ref th, .ref be, .ref ln, .int (nI S), .ref ma, .int (nI M), .ref ah, .ref bh, .ref ik, .ref la, .ref lg, .ref ce, .int vto]))]) hP hD [3] [0, 1, 2, 4] rfl rfl (by decide) (by decide) hk1 hFc hP1 hD1
        have w44 : 0 < u45.toInt ∧ u45 = flB (2 : Int32) u5 ∧ u46 = flA u5 u6 u8 := w44
        generalize H1 = H at hP hS ⊢
        have ew44 : fT 2 (u5, u6, u7, u8, u9, u10) = (u45, u46, u7, u8, u9, u10) := (by show (flB _ _, flA _ _ _, _, _, _, _) = _; rw [← w44.2.1, ← w44.2.2])
        obtain ⟨hP9, hD9⟩ := va_sub2 (ws' := [(h0, .inr (11, [.ref st, .int (nI N), .int (nI B), .ref rp, .int vrs, .int (nI nrb), .int vhs, .int vca, .int vxs, .int vxb, .ref tp, .int (nI T), .int vfa, .int u45, .int u46, .int (nI u7), .int (nI u8), .int u9, .int u10, .ref cu, .ref lt, .ref od, .ref th, .ref be, .ref ln, .int (nI S), .ref ma, .int (nI M), .ref ah, .ref bh, .ref ik, .ref la, .ref lg, .ref ce, .int vto])), (tp, .inl (G 0, 320, .inl ftp)), (cu, .inl (G 0, 11, .inl fcu)), (lt, .inl (G 0, 54, .inl flt)), (rp, .inl (G 0, 49, .inl frp))]) hP hD [4, 3, 0, 1, 2] (by decide) rfl
        refine W.widen (k := 0) (n := 0) (Nat.le_of_ble_eq_true rfl) (Nat.le_of_ble_eq_true rfl) ?_
        exact W.vret hx hb hr (fun t ht hW => ⟨⟨(u45, u46, u7, u8, u9, u10, nrb, frp), rfl, ⟨⟨hrp, (by have t_n2 := n2; have t_w122 := w122; have t_e9 := e9; have t_c18 := nleI c18; have t_w44 := w44.1; have : (0 : Int32).toInt = 0 := qI_0; have tnb_ := nib9 tn1338_ tn1339_ tn1343_ tn1340_ tn1344_ tn1345_ tn1341_ tn1342_ tn1347_; have tqz_ := qz41_; omega)⟩, (by unfold rbS; (first | rw [if_pos (by (have t_n2 := n2; have t_w122 := w122; have t_e9 := e9; have t_c18 := nleI c18; have t_w44 := w44.1; have : (0 : Int32).toInt = 0 := qI_0; have tnb_ := nib9 tn1338_ tn1339_ tn1343_ tn1340_ tn1344_ tn1345_ tn1341_ tn1342_ tn1347_; have tqz_ := qz41_; omega))] | rw [if_neg (by (have t_n2 := n2; have t_w122 := w122; have t_e9 := e9; have t_c18 := nleI c18; have t_w44 := w44.1; have : (0 : Int32).toInt = 0 := qI_0; have tnb_ := nib9 tn1338_ tn1339_ tn1343_ tn1340_ tn1344_ tn1345_ tn1341_ tn1342_ tn1347_; have tqz_ := qz41_; omega))]); (try rw [ew4]); (try rw [ew12]); (try rw [ew44]); (try (repeat (first | rw [if_pos (by with_reducible assumption)] | rw [if_neg (by with_reducible assumption)] | rw [if_pos (by (have t_n2 := n2; have t_w122 := w122; have t_e9 := e9; have t_c18 := nleI c18; have t_w44 := w44.1; have : (0 : Int32).toInt = 0 := qI_0; have tnb_ := nib9 tn1338_ tn1339_ tn1343_ tn1340_ tn1344_ tn1345_ tn1341_ tn1342_ tn1347_; have tqz_ := qz41_; omega))] | rw [if_neg (by (have t_n2 := n2; have t_w122 := w122; have t_e9 := e9; have t_c18 := nleI c18; have t_w44 := w44.1; have : (0 : Int32).toInt = 0 := qI_0; have tnb_ := nib9 tn1338_ tn1339_ tn1343_ tn1340_ tn1344_ tn1345_ tn1341_ tn1342_ tn1347_; have tqz_ := qz41_; omega))] | rw [if_pos (by decide)] | rw [if_neg (by decide)]))); all_goals rfl)⟩, ⟨by rw [ht]; exact hP9, hD9⟩⟩, hS.F ht⟩) hS.2.2 dX11_readBearer_37
  · skip
    have tn1348_ : nIT nrb := fun _ => nI_toInt (by first | omega | (have t := eqI c1; omega))
    have n47 : nrb = 6 := by have t := eqI c1; rw [show (nI (nrb)).toInt = ((nrb : Nat) : Int) from tn1348_ ()] at t; have : (6 : Int32).toInt = 6 := qI_6; omega
    refine lv_aload_n hx hb dX11_readBearer_11 rfl (lv_at hl 1 rfl) ?_
    refine lv_iconst (v := 5) hx hb dX11_readBearer_12 rfl ?_
    obtain ⟨hPc, hDc, hFc⟩ := va_sub3 (ws' := [(h0, .inr (11, [.ref st, .int (nI N), .int (nI B), .ref rp, .int vrs, .int (nI nrb), .int vhs, .int vca, .int vxs, .int vxb, .ref tp, .int (nI T), .int vfa, .int vbr, .int vba, .int (nI nsp), .int (nI nhe), .int vtk, .int vva, .ref cu, .ref lt, .ref od, .ref th, .ref be, .ref ln, .int (nI S), .ref ma, .int (nI M), .ref ah, .ref bh, .ref ik, .ref la, .ref lg, .ref ce, .int vto]))]) hP hD hS hA [0] (by decide) rfl
    have tn1349_ : nIT nsp := fun _ => nI_toInt (by first | omega | (have t_n47 := n47; omega))
    have tn1350_ : nIT nhe := fun _ => nI_toInt (by first | omega | (have t_n47 := n47; omega))
    refine va_callv (va_runV (As := [.int 5]) (rest := []) ⟨hx, hb, hml, hown, hg⟩ (c_X11_failsE l dC dI G _ h0 st N B rp tp T nhe cu lt od th be ln S ma M ah bh ik la lg ce 5 vrs (nI nrb) vhs vca vxs vxb vfa vbr vba (nI nsp) vtk vva vto hN hB_ hT_ hS0 hM_ (by have t_n47 := n47; have tnb_ := nib8 tn1338_ tn1339_ tn1348_ tn1340_ tn1349_ tn1350_ tn1341_ tn1342_; have tqz_ := qz45_; omega) hbr (by first | omega | (have t_n47 := n47; have tnb_ := nib8 tn1338_ tn1339_ tn1348_ tn1340_ tn1349_ tn1350_ tn1341_ tn1342_; have tqz_ := qz45_; omega))) (kwV hg mfX11_fails wt_1011 ⟨Nat.le_of_ble_eq_true rfl, Nat.le_of_ble_eq_true rfl⟩) (preVW hK hPc hDc (ci := 11) (r := (RX11, TX11, 35)) rfl rfl) rfl rfl hl.1 rfl (lv_room (Nat.le_of_ble_eq_true rfl)) dX11_readBearer_13 ⟨Nat.le_of_ble_eq_true rfl, Nat.le_of_ble_eq_true rfl⟩) hS (fun q _ h => hFc q h) hFc (fun ur48 t H1 locs ht hvm w49 hB hz1 hk1 hS => ?_)
    obtain ⟨u50, u51⟩ := ur48
    obtain ⟨hP1, hD1⟩ := hB
    rw [ht] at hP1
    obtain ⟨hP, hD⟩ := va_join (wr := [(tp, .inl (G 0, 320, .inl ftp)), (cu, .inl (G 0, 11, .inl fcu)), (lt, .inl (G 0, 54, .inl flt)), (rp, .inl (G 0, 49, .inl frp))]) (w1 := [(h0, .inr (11, [.ref st, .int (nI N), .int (nI B), .ref rp, .int vrs, .int (nI nrb), .int vhs, .int vca, .int vxs, .int vxb, .ref tp, .int (nI T), .int vfa, .int u50, .int u51, .int (nI nsp), .int (nI nhe), .int vtk, .int vva, .ref cu, .ref lt, .ref od, .ref th, .ref be, .ref ln, .int (nI S), .ref ma, .int (nI M), .ref ah, .ref bh, .ref ik, .ref la, .ref lg, .ref ce, .int vto]))]) hP hD [0] [1, 2, 3, 4] rfl rfl (by decide) (by decide) hk1 hFc hP1 hD1
    have w49 : 0 < u50.toInt ∧ u50 = flB (5 : Int32) vbr ∧ u51 = flA vbr vba nhe := w49
    generalize H1 = H at hP hS ⊢
    have ew49 : fT 5 (vbr, vba, nsp, nhe, vtk, vva) = (u50, u51, nsp, nhe, vtk, vva) := (by show (flB _ _, flA _ _ _, _, _, _, _) = _; rw [← w49.2.1, ← w49.2.2])
    obtain ⟨hP9, hD9⟩ := va_sub2 (ws' := [(h0, .inr (11, [.ref st, .int (nI N), .int (nI B), .ref rp, .int vrs, .int (nI nrb), .int vhs, .int vca, .int vxs, .int vxb, .ref tp, .int (nI T), .int vfa, .int u50, .int u51, .int (nI nsp), .int (nI nhe), .int vtk, .int vva, .ref cu, .ref lt, .ref od, .ref th, .ref be, .ref ln, .int (nI S), .ref ma, .int (nI M), .ref ah, .ref bh, .ref ik, .ref la, .ref lg, .ref ce, .int vto])), (tp, .inl (G 0, 320, .inl ftp)), (cu, .inl (G 0, 11, .inl fcu)), (lt, .inl (G 0, 54, .inl flt)), (rp, .inl (G 0, 49, .inl frp))]) hP hD [4, 0, 1, 2, 3] (by decide) rfl
    refine W.widen (k := 0) (n := 0) (Nat.le_of_ble_eq_true rfl) (Nat.le_of_ble_eq_true rfl) ?_
    exact W.vret hx hb hr (fun t ht hW => ⟨⟨(u50, u51, nsp, nhe, vtk, vva, nrb, frp), rfl, ⟨⟨hrp, (by have t_n47 := n47; have t_w49 := w49.1; have tnb_ := nib8 tn1338_ tn1339_ tn1348_ tn1340_ tn1349_ tn1350_ tn1341_ tn1342_; have tqz_ := qz41_; omega)⟩, (by unfold rbS; (first | rw [if_pos (by (have t_n47 := n47; have t_w49 := w49.1; have tnb_ := nib8 tn1338_ tn1339_ tn1348_ tn1340_ tn1349_ tn1350_ tn1341_ tn1342_; have tqz_ := qz41_; omega))] | rw [if_neg (by (have t_n47 := n47; have t_w49 := w49.1; have tnb_ := nib8 tn1338_ tn1339_ tn1348_ tn1340_ tn1349_ tn1350_ tn1341_ tn1342_; have tqz_ := qz41_; omega))]); (try rw [ew49]); (try (repeat (first | rw [if_pos (by with_reducible assumption)] | rw [if_neg (by with_reducible assumption)] | rw [if_pos (by (have t_n47 := n47; have t_w49 := w49.1; have tnb_ := nib8 tn1338_ tn1339_ tn1348_ tn1340_ tn1349_ tn1350_ tn1341_ tn1342_; have tqz_ := qz41_; omega))] | rw [if_neg (by (have t_n47 := n47; have t_w49 := w49.1; have tnb_ := nib8 tn1338_ tn1339_ tn1348_ tn1340_ tn1349_ tn1350_ tn1341_ tn1342_; have tqz_ := qz41_; omega))] | rw [if_pos (by decide)] | rw [if_neg (by decide)]))); all_goals rfl)⟩, ⟨by rw [ht]; exact hP9, hD9⟩⟩, hS.F ht⟩) hS.2.2 dX11_readBearer_16

set_option maxHeartbeats 8000000 in
set_option maxRecDepth 100000 in
theorem c_X11_readMoreE (l : Launch) (dC : Nat → ClassId) (dI : Nat → Nat → Nat) (G : Nat → ClassId) (sz : Nat) (h0 st N B rp nrs tp T nsp nhe cu lt od th be ln S ma M ah bh ik la lg ce : Nat) (nm vrb vhs vca vxs vxb vfa vbr vba vtk vva vto : Int32) (ftp : Nat → Int32) (frp : Nat → Int32) (hN : N ≤ 10) (hB : B ≤ 6) (hT : T ≤ 320) (hS0 : S ≤ 8) (hM : M ≤ 6) (hbr : 0 ≤ vbr.toInt) (hsp : nsp ≤ T) (hhe : nhe ≤ nsp) (hrs : nrs ≤ 10) (hrp : OKP frp) (htb : ∀ q : Nat, q < 320 → 0 ≤ (ftp q).toInt) : Met l yX11_readMore (Cond.code yX11_readMore cX11_readMore 4 none :: GT) ({ frames := 3, cells := 0, slots := 0, locals := 70 } : Room) (PcW [.ref h0, .int nm] dC dI G [(h0, .inr (11, [.ref st, .int (nI N), .int (nI B), .ref rp, .int (nI nrs), .int vrb, .int vhs, .int vca, .int vxs, .int vxb, .ref tp, .int (nI T), .int vfa, .int vbr, .int vba, .int (nI nsp), .int (nI nhe), .int vtk, .int vva, .ref cu, .ref lt, .ref od, .ref th, .ref be, .ref ln, .int (nI S), .ref ma, .int (nI M), .ref ah, .ref bh, .ref ik, .ref la, .ref lg, .ref ce, .int vto])), (tp, .inl (G 0, 320, .inl ftp)), (rp, .inl (G 0, 49, .inl frp))] sz) (va_Qv (fun (u : Int32 × Int32 × Nat × Nat × Int32 × Int32 × Nat × Int32 × Int32 × Int32 × Int32 × (Nat → Int32)) => match u with | (obr, oba, osp, ohe, otk, ova, ors, ohs, oca, oxs, oxb, orp) => (OKP orp ∧ ((0 ≤ obr.toInt ∧ (vbr.toInt = 0 ∨ 0 < obr.toInt) ∧ nsp ≤ osp ∧ osp ≤ T ∧ ohe ≤ osp ∧ (0 < obr.toInt ∨ otk.toInt = 0 ∨ nsp < osp)) ∧ ors ≤ 11 ∧ (0 < obr.toInt ∨ ors ≤ 10))) ∧ ((obr, oba, osp, ohe, otk, ova), ors, ohs, oca, oxs, oxb, orp) = rmS ftp T nm (vbr, vba, nsp, nhe, vtk, vva) nrs vhs vca vxs vxb frp) (fun (u : Int32 × Int32 × Nat × Nat × Int32 × Int32 × Nat × Int32 × Int32 × Int32 × Int32 × (Nat → Int32)) (t : State) => match u with | (obr, oba, osp, ohe, otk, ova, ors, ohs, oca, oxs, oxb, orp) => va_P (dC, dI) vwCl [(h0, .inr (11, [.ref st, .int (nI N), .int (nI B), .ref rp, .int (nI ors), .int vrb, .int ohs, .int oca, .int oxs, .int oxb, .ref tp, .int (nI T), .int vfa, .int obr, .int oba, .int (nI osp), .int (nI ohe), .int otk, .int ova, .ref cu, .ref lt, .ref od, .ref th, .ref be, .ref ln, .int (nI S), .ref ma, .int (nI M), .ref ah, .ref bh, .ref ik, .ref la, .ref lg, .ref ce, .int vto])), (tp, .inl (G 0, 320, .inl ftp)), (rp, .inl (G 0, 49, .inl orp))] t.heap ∧ va_D (va_A [(h0, .inr (11, [.ref st, .int (nI N), .int (nI B), .ref rp, .int (nI nrs), .int vrb, .int vhs, .int vca, .int vxs, .int vxb, .ref tp, .int (nI T), .int vfa, .int vbr, .int vba, .int (nI nsp), .int (nI nhe), .int vtk, .int vva, .ref cu, .ref lt, .ref od, .ref th, .ref be, .ref ln, .int (nI S), .ref ma, .int (nI M), .ref ah, .ref bh, .ref ik, .ref la, .ref lg, .ref ce, .int vto])), (tp, .inl (G 0, 320, .inl ftp)), (rp, .inl (G 0, 49, .inl frp))] sz) [(h0, .inr (11, [.ref st, .int (nI N), .int (nI B), .ref rp, .int (nI ors), .int vrb, .int ohs, .int oca, .int oxs, .int oxb, .ref tp, .int (nI T), .int vfa, .int obr, .int oba, .int (nI osp), .int (nI ohe), .int otk, .int ova, .ref cu, .ref lt, .ref od, .ref th, .ref be, .ref ln, .int (nI S), .ref ma, .int (nI M), .ref ah, .ref bh, .ref ik, .ref la, .ref lg, .ref ce, .int vto])), (tp, .inl (G 0, 320, .inl ftp)), (rp, .inl (G 0, 49, .inl orp))]) (va_A [(h0, .inr (11, [.ref st, .int (nI N), .int (nI B), .ref rp, .int (nI nrs), .int vrb, .int vhs, .int vca, .int vxs, .int vxb, .ref tp, .int (nI T), .int vfa, .int vbr, .int vba, .int (nI nsp), .int (nI nhe), .int vtk, .int vva, .ref cu, .ref lt, .ref od, .ref th, .ref be, .ref ln, .int (nI S), .ref ma, .int (nI M), .ref ah, .ref bh, .ref ik, .ref la, .ref lg, .ref ce, .int vto])), (tp, .inl (G 0, 320, .inl ftp)), (rp, .inl (G 0, 49, .inl frp))] sz)) 0 0 (va_A [(h0, .inr (11, [.ref st, .int (nI N), .int (nI B), .ref rp, .int (nI nrs), .int vrb, .int vhs, .int vca, .int vxs, .int vxb, .ref tp, .int (nI T), .int vfa, .int vbr, .int vba, .int (nI nsp), .int (nI nhe), .int vtk, .int vva, .ref cu, .ref lt, .ref od, .ref th, .ref be, .ref ln, .int (nI S), .ref ma, .int (nI M), .ref ah, .ref bh, .ref ik, .ref la, .ref lg, .ref ce, .int vto])), (tp, .inl (G 0, 320, .inl ftp)), (rp, .inl (G 0, 49, .inl frp))] sz) := by
  have hB_ := hB
  have hM_ := hM
  have hT_ := hT
  have tn1351_ : nIT N := fun _ => nI_toInt (by omega)
  have tn1352_ : nIT B := fun _ => nI_toInt (by omega)
  have tn1353_ : nIT T := fun _ => nI_toInt (by omega)
  have tn1354_ : nIT S := fun _ => nI_toInt (by omega)
  have tn1355_ : nIT M := fun _ => nI_toInt (by omega)
  refine Met.ofW (cc := cX11_readMore) (maxL := 4) (ret := none) (by decide) rfl ?_
  intro p e s m args below meth c s₁ Bd hml hv
  obtain ⟨rfl, hsz, hP, hK, hD0⟩ := hv
  have hx := Bd.exec
  have hb := Bd.bytes
  have hr := Bd.returns
  have hg : ∀ w ∈ GT, w.before ([.ref h0, .int nm] : List Value).toArray s = true := fun w h => atoms_spec (ws := Cond.code yX11_readMore cX11_readMore 4 none :: GT) Bd.pre w (List.mem_cons_of_mem _ h)
  have hown : s.vm.findClass RX11 = some m.cls := findClass_of_methodNamed Bd.named
  have hlocks := Bd.notSynchronized
  subst hsz
  have hD := hD0.self (sz := s.heap.size)
  generalize hAe : va_A [(h0, .inr (11, [.ref st, .int (nI N), .int (nI B), .ref rp, .int (nI nrs), .int vrb, .int vhs, .int vca, .int vxs, .int vxb, .ref tp, .int (nI T), .int vfa, .int vbr, .int vba, .int (nI nsp), .int (nI nhe), .int vtk, .int vva, .ref cu, .ref lt, .ref od, .ref th, .ref be, .ref ln, .int (nI S), .ref ma, .int (nI M), .ref ah, .ref bh, .ref ik, .ref la, .ref lg, .ref ce, .int vto])), (tp, .inl (G 0, 320, .inl ftp)), (rp, .inl (G 0, 49, .inl frp))] s.heap.size = A at hD ⊢
  have hA : ∀ q : Nat, s.heap.size ≤ q → A q := fun q h => by rw [← hAe]; exact Or.inr h
  have hS : va_S A s.heap s.heap [] := va_S.rf
  have hl := lv_entry ([.ref h0, .int nm]) (n := 4) (Nat.le_of_ble_eq_true rfl)
  rw [lg_entry_eq]
  generalize (lg_sl ([.ref h0, .int nm]) ++ List.replicate (4 - (lg_sl ([.ref h0, .int nm])).length) Slot.unset).toArray = ls at hl ⊢
  have hl : lv_has ls 4 [(0, .ref h0), (1, .int nm)] := hl
  refine lv_iload_n hx hb dX11_readMore_0 rfl (lv_at hl 1 rfl) ?_
  refine lv_iconst (v := 1) hx hb dX11_readMore_1 rfl ?_
  refine lv_icmp_ne (tgt := 19) hx hb dX11_readMore_2 rfl (fun c1 => ?_) (fun c1 => ?_)
  · skip
    refine lv_iload_n hx hb dX11_readMore_19 rfl (lv_at hl 1 rfl) ?_
    refine lv_if_ne (tgt := 35) hx hb dX11_readMore_20 rfl (fun c2 => ?_) (fun c2 => ?_)
    · skip
      refine lv_aload_n hx hb dX11_readMore_35 rfl (lv_at hl 0 rfl) ?_
      obtain ⟨hPc, hDc, hFc⟩ := va_sub3 (ws' := [(h0, .inr (11, [.ref st, .int (nI N), .int (nI B), .ref rp, .int (nI nrs), .int vrb, .int vhs, .int vca, .int vxs, .int vxb, .ref tp, .int (nI T), .int vfa, .int vbr, .int vba, .int (nI nsp), .int (nI nhe), .int vtk, .int vva, .ref cu, .ref lt, .ref od, .ref th, .ref be, .ref ln, .int (nI S), .ref ma, .int (nI M), .ref ah, .ref bh, .ref ik, .ref la, .ref lg, .ref ce, .int vto])), (tp, .inl (G 0, 320, .inl ftp))]) hP hD hS hA [0, 1] (by decide) rfl
      have tn1356_ : nIT nrs := fun _ => nI_toInt (by first | omega | (have t_c1 := neI c1; have t_c2 := neI c2; have tqz_ := qz2_; omega))
      have tn1357_ : nIT nsp := fun _ => nI_toInt (by first | omega | (have t_c1 := neI c1; have t_c2 := neI c2; have tqz_ := qz2_; omega))
      have tn1358_ : nIT nhe := fun _ => nI_toInt (by first | omega | (have t_c1 := neI c1; have t_c2 := neI c2; have tqz_ := qz2_; omega))
      refine va_callv (va_runV (As := []) (rest := []) ⟨hx, hb, hml, hown, hg⟩ (c_X11_goesOnE l dC dI G _ h0 st N B rp tp T nsp nhe cu lt od th be ln S ma M ah bh ik la lg ce (nI nrs) vrb vhs vca vxs vxb vfa vbr vba vtk vva vto ftp hN hB_ hT_ hS0 hM_ hbr hsp (by have t_c1 := neI c1; have t_c2 := neI c2; have tqz_ := qz2_; have tnb_ := nib8 tn1351_ tn1352_ tn1356_ tn1353_ tn1357_ tn1358_ tn1354_ tn1355_; have tqz_ := qz41_; omega) htb) (kwV hg mfX11_goesOn wt_999 ⟨Nat.le_of_ble_eq_true rfl, Nat.le_of_ble_eq_true rfl⟩) (preVW hK hPc hDc (ci := 11) (r := (RX11, TX11, 35)) rfl rfl) rfl rfl hl.1 rfl (lv_room (Nat.le_of_ble_eq_true rfl)) dX11_readMore_36 ⟨Nat.le_of_ble_eq_true rfl, Nat.le_of_ble_eq_true rfl⟩) hS (fun q _ h => hFc q h) hFc (fun ur3 t H1 locs ht hvm w4 hB hz1 hk1 hS => ?_)
      obtain ⟨u5, u6, u7, u8, u9, u10⟩ := ur3
      obtain ⟨hP1, hD1⟩ := hB
      rw [ht] at hP1
      obtain ⟨hP, hD⟩ := va_join (wr := [(rp, .inl (G 0, 49, .inl frp))]) (w1 := [(h0, .inr (11, [.ref st, .int (nI N), .int (nI B), .ref rp, .int (nI nrs), .int vrb, .int vhs, .int vca, .int vxs, .int vxb, .ref tp, .int (nI T), .int vfa, .int u5, .int u6, .int (nI u7), .int (nI u8), .int u9, .int u10, .ref cu, .ref lt, .ref od, .ref th, .ref be, .ref ln, .int (nI S), .ref ma, .int (nI M), .ref ah, .ref bh, .ref ik, .ref la, .ref lg, .ref ce, .int vto])), (tp, .inl (G 0, 320, .inl ftp))]) hP hD [0, 1] [2] rfl rfl (by decide) (by decide) hk1 hFc hP1 hD1
      have w4 : 0 ≤ u5.toInt ∧ (vbr.toInt = 0 ∨ u5.toInt = vbr.toInt) ∧ nsp ≤ u7 ∧ u7 ≤ T ∧ u8 ≤ u7 ∧ (0 < vbr.toInt ∨ u9.toInt = 0 ∨ nsp < u7) ∧ (u5, u6, u7, u8, u9, u10) = gOn ftp T vbr vba nsp nhe vtk vva := w4
      generalize H1 = H at hP hS ⊢
      have ew4 : gT ftp T (vbr, vba, nsp, nhe, vtk, vva) = (u5, u6, u7, u8, u9, u10) := w4.2.2.2.2.2.2.symm
      refine lv_iload_n hx hb dX11_readMore_39 rfl (lv_at hl 1 rfl) ?_
      refine lv_if_ne (tgt := 68) hx hb dX11_readMore_40 rfl (fun c11 => ?_) (fun c11 => ?_)
      · skip
        refine lv_iload_n hx hb dX11_readMore_68 rfl (lv_at hl 1 rfl) ?_
        refine lv_iconst (v := 1) hx hb dX11_readMore_69 rfl ?_
        refine lv_icmp_ne (tgt := 136) hx hb dX11_readMore_70 rfl (fun c12 => ?_) (fun c12 => ?_)
        · skip
          refine lv_aload_n hx hb dX11_readMore_136 rfl (lv_at hl 0 rfl) ?_
          refine lv_iconst (v := 0) hx hb dX11_readMore_137 rfl ?_
          refine lv_bipush (v := 9) hx hb dX11_readMore_138 rfl ?_
          refine lv_aload_n hx hb dX11_readMore_140 rfl (lv_at hl 0 rfl) ?_
          refine va_get (D := (dC, dI)) (ci := 11) (v := .int vca) (C := RX11) (T := TX11) (N := 35) hx hb hg inG11 hown hK.1 hP 1 rfl rfl 7 (Nat.le_of_ble_eq_true rfl) (hg _ wt_885) (fun _ h9 => h9) rfl dX11_readMore_141 ?_
          obtain ⟨hPc, hDc, hFc⟩ := va_sub3 (ws' := [(h0, .inr (11, [.ref st, .int (nI N), .int (nI B), .ref rp, .int (nI nrs), .int vrb, .int vhs, .int vca, .int vxs, .int vxb, .ref tp, .int (nI T), .int vfa, .int u5, .int u6, .int (nI u7), .int (nI u8), .int u9, .int u10, .ref cu, .ref lt, .ref od, .ref th, .ref be, .ref ln, .int (nI S), .ref ma, .int (nI M), .ref ah, .ref bh, .ref ik, .ref la, .ref lg, .ref ce, .int vto])), (tp, .inl (G 0, 320, .inl ftp))]) hP hD hS hA [1, 2] (by decide) rfl
          refine va_calli (va_runV (As := [.int 0, .int 9, .int vca]) (rest := []) ⟨hx, hb, hml, hown, hg⟩ (c_X11_otherE l dC dI G _ h0 st N B rp tp T u7 u8 cu lt od th be ln S ma M ah bh ik la lg ce 0 9 vca (nI nrs) vrb vhs vca vxs vxb vfa u5 u6 u9 u10 vto ftp hN hB_ hT_ hS0 hM_ (by have t_c1 := neI c1; have t_c2 := neI c2; have t_c11 := neI c11; have t_c12 := neI c12; have tqz_ := qz2_; have tnb_ := nib8 tn1351_ tn1352_ tn1356_ tn1353_ tn1357_ tn1358_ tn1354_ tn1355_; have tqz_ := qz41_; omega) (by first | omega | (have t_c1 := neI c1; have t_c2 := neI c2; have t_c11 := neI c11; have t_c12 := neI c12; have tqz_ := qz2_; have tnb_ := nib8 tn1351_ tn1352_ tn1356_ tn1353_ tn1357_ tn1358_ tn1354_ tn1355_; have tqz_ := qz41_; omega)) (by first | omega | (have t_c1 := neI c1; have t_c2 := neI c2; have t_c11 := neI c11; have t_c12 := neI c12; have tqz_ := qz2_; have tnb_ := nib8 tn1351_ tn1352_ tn1356_ tn1353_ tn1357_ tn1358_ tn1354_ tn1355_; have tqz_ := qz41_; omega)) (by have t_c1 := neI c1; have t_c2 := neI c2; have t_c11 := neI c11; have t_c12 := neI c12; have tqz_ := qz2_; have tnb_ := nib8 tn1351_ tn1352_ tn1356_ tn1353_ tn1357_ tn1358_ tn1354_ tn1355_; have tqz_ := qz41_; omega) htb) (kwV hg mfX11_other wt_1028 ⟨Nat.le_of_ble_eq_true rfl, Nat.le_of_ble_eq_true rfl⟩) (preVW hK hPc hDc (ci := 11) (r := (RX11, TX11, 35)) rfl rfl) rfl rfl hl.1 rfl (lv_room (Nat.le_of_ble_eq_true rfl)) dX11_readMore_144 ⟨Nat.le_of_ble_eq_true rfl, Nat.le_of_ble_eq_true rfl⟩) hS (fun q _ h => hFc q h) hFc (fun r13 ur13 t H1 locs ht hvm w14 hB hz1 hk1 hS => ?_)
          obtain ⟨u15, u16, u17, u18, u19, u20⟩ := ur13
          obtain ⟨hP1, hD1⟩ := hB
          rw [ht] at hP1
          obtain ⟨hP, hD⟩ := va_join (wr := [(rp, .inl (G 0, 49, .inl frp))]) (w1 := [(h0, .inr (11, [.ref st, .int (nI N), .int (nI B), .ref rp, .int (nI nrs), .int vrb, .int vhs, .int vca, .int vxs, .int vxb, .ref tp, .int (nI T), .int vfa, .int u15, .int u16, .int (nI u17), .int (nI u18), .int u19, .int u20, .ref cu, .ref lt, .ref od, .ref th, .ref be, .ref ln, .int (nI S), .ref ma, .int (nI M), .ref ah, .ref bh, .ref ik, .ref la, .ref lg, .ref ce, .int vto])), (tp, .inl (G 0, 320, .inl ftp))]) hP hD [1, 2] [0] rfl rfl (by decide) (by decide) hk1 hFc hP1 hD1
          generalize H1 = H at hP hS ⊢
          obtain ⟨w14, w14x⟩ := w14
          have vw14 : oV 0 9 vca (u5, u6, u7, u8, u9, u10) = r13 := w14.2.symm
          have ew14 : oS ftp T 0 9 vca (u5, u6, u7, u8, u9, u10) = (u15, u16, u17, u18, u19, u20) := w14x.2.2.2.2.2.2.symm
          obtain ⟨io9, hio9, eio9⟩ := i32_nat (x := r13) (n := 10) (by have t_c1 := neI c1; have t_c2 := neI c2; have t_c11 := neI c11; have t_c12 := neI c12; have tqz_ := qz2_; have tnb_ := nib8 tn1351_ tn1352_ tn1356_ tn1353_ tn1357_ tn1358_ tn1354_ tn1355_; have tqz_ := qz41_; omega) (by have t_c1 := neI c1; have t_c2 := neI c2; have t_c11 := neI c11; have t_c12 := neI c12; have tqz_ := qz2_; have tnb_ := nib8 tn1351_ tn1352_ tn1356_ tn1353_ tn1357_ tn1358_ tn1354_ tn1355_; have tqz_ := qz41_; omega)
          refine lv_cg (y := nI io9) eio9 ?_
          refine lv_istore_n (lv' := [(2, .int (nI io9)), (0, .ref h0), (1, .int nm)]) hx hb dX11_readMore_147 rfl hl (by decide) rfl (fun ls hl => ?_)
          refine lv_aload_n hx hb dX11_readMore_148 rfl (lv_at hl 1 rfl) ?_
          refine lv_dup hx hb dX11_readMore_149 rfl ?_
          refine va_get (D := (dC, dI)) (ci := 11) (v := .int vca) (C := RX11) (T := TX11) (N := 35) hx hb hg inG11 hown hK.1 hP 1 rfl rfl 7 (Nat.le_of_ble_eq_true rfl) (hg _ wt_885) (fun _ h9 => h9) rfl dX11_readMore_150 ?_
          refine lv_iconst (v := 1) hx hb dX11_readMore_153 rfl ?_
          refine lv_iload_n hx hb dX11_readMore_154 rfl (lv_at hl 0 rfl) ?_
          refine lv_ishl hx hb dX11_readMore_155 ?_
          refine lv_ior hx hb dX11_readMore_156 ?_
          refine va_put (D := (dC, dI)) (ci := 11) (v := .int (vca ||| (1 <<< ((nI io9) &&& 31)))) (ty := .int) (C := RX11) (T := TX11) (N := 35) hx hb hg inG11 tyX11 tyX11_ok nmX11 hown hK.1 hP hD hS 1 rfl rfl 7 (Nat.le_of_ble_eq_true rfl) (hg _ wt_885) (fun _ h9 => h9) rfl (by decide +kernel) rfl rfl (Nat.le_of_ble_eq_true rfl) dX11_readMore_157 (fun H locs hP hD hS => ?_)
          refine lv_aload_n hx hb dX11_readMore_160 rfl (lv_at hl 1 rfl) ?_
          refine lv_iload_n hx hb dX11_readMore_161 rfl (lv_at hl 0 rfl) ?_
          refine lv_aload_n hx hb dX11_readMore_162 rfl (lv_at hl 1 rfl) ?_
          refine va_get (D := (dC, dI)) (ci := 11) (v := .int vxs) (C := RX11) (T := TX11) (N := 35) hx hb hg inG11 hown hK.1 hP 1 rfl rfl 8 (Nat.le_of_ble_eq_true rfl) (hg _ wt_886) (fun _ h9 => h9) rfl dX11_readMore_163 ?_
          refine lv_icmp_le (tgt := 173) hx hb dX11_readMore_166 rfl (fun c21 => ?_) (fun c21 => ?_)
          · skip
            refine lv_aload_n hx hb dX11_readMore_173 rfl (lv_at hl 1 rfl) ?_
            refine va_get (D := (dC, dI)) (ci := 11) (v := .int vxs) (C := RX11) (T := TX11) (N := 35) hx hb hg inG11 hown hK.1 hP 1 rfl rfl 8 (Nat.le_of_ble_eq_true rfl) (hg _ wt_886) (fun _ h9 => h9) rfl dX11_readMore_174 ?_
            refine va_put (D := (dC, dI)) (ci := 11) (v := .int vxs) (ty := .int) (C := RX11) (T := TX11) (N := 35) hx hb hg inG11 tyX11 tyX11_ok nmX11 hown hK.1 hP hD hS 1 rfl rfl 8 (Nat.le_of_ble_eq_true rfl) (hg _ wt_886) (fun _ h9 => h9) rfl (by decide +kernel) rfl rfl (Nat.le_of_ble_eq_true rfl) dX11_readMore_177 (fun H locs hP hD hS => ?_)
            refine lv_aload_n hx hb dX11_readMore_180 rfl (lv_at hl 1 rfl) ?_
            refine lv_iconst (v := 0) hx hb dX11_readMore_181 rfl ?_
            refine lv_iconst (v := 5) hx hb dX11_readMore_182 rfl ?_
            refine lv_iconst (v := 0) hx hb dX11_readMore_183 rfl ?_
            obtain ⟨hPc, hDc, hFc⟩ := va_sub3 (ws' := [(h0, .inr (11, [.ref st, .int (nI N), .int (nI B), .ref rp, .int (nI nrs), .int vrb, .int vhs, .int (vca ||| (1 <<< ((nI io9) &&& 31))), .int vxs, .int vxb, .ref tp, .int (nI T), .int vfa, .int u15, .int u16, .int (nI u17), .int (nI u18), .int u19, .int u20, .ref cu, .ref lt, .ref od, .ref th, .ref be, .ref ln, .int (nI S), .ref ma, .int (nI M), .ref ah, .ref bh, .ref ik, .ref la, .ref lg, .ref ce, .int vto])), (tp, .inl (G 0, 320, .inl ftp))]) hP hD hS hA [1, 2] (by decide) rfl
            have tn1359_ : nIT io9 := fun _ => nI_toInt (by first | omega | (have t_c1 := neI c1; have t_c2 := neI c2; have t_c11 := neI c11; have t_c12 := neI c12; have t_hio9 := hio9; have t_c21 := leI c21; have tqz_ := qz2_; omega))
            refine va_calli (va_runV (As := [.int 0, .int 5, .int 0]) (rest := []) ⟨hx, hb, hml, hown, hg⟩ (c_X11_otherE l dC dI G _ h0 st N B rp tp T u17 u18 cu lt od th be ln S ma M ah bh ik la lg ce 0 5 0 (nI nrs) vrb vhs (vca ||| (1 <<< ((nI io9) &&& 31))) vxs vxb vfa u15 u16 u19 u20 vto ftp hN hB_ hT_ hS0 hM_ (by have t_c1 := neI c1; have t_c2 := neI c2; have t_c11 := neI c11; have t_c12 := neI c12; have t_hio9 := hio9; have t_c21 := leI c21; have tqz_ := qz2_; have tnb_ := nib9 tn1351_ tn1352_ tn1356_ tn1353_ tn1357_ tn1358_ tn1354_ tn1355_ tn1359_; have tqz_ := qz41_; omega) (by first | omega | (have t_c1 := neI c1; have t_c2 := neI c2; have t_c11 := neI c11; have t_c12 := neI c12; have t_hio9 := hio9; have t_c21 := leI c21; have tqz_ := qz2_; have tnb_ := nib9 tn1351_ tn1352_ tn1356_ tn1353_ tn1357_ tn1358_ tn1354_ tn1355_ tn1359_; have tqz_ := qz41_; omega)) (by first | omega | (have t_c1 := neI c1; have t_c2 := neI c2; have t_c11 := neI c11; have t_c12 := neI c12; have t_hio9 := hio9; have t_c21 := leI c21; have tqz_ := qz2_; have tnb_ := nib9 tn1351_ tn1352_ tn1356_ tn1353_ tn1357_ tn1358_ tn1354_ tn1355_ tn1359_; have tqz_ := qz41_; omega)) (by have t_c1 := neI c1; have t_c2 := neI c2; have t_c11 := neI c11; have t_c12 := neI c12; have t_hio9 := hio9; have t_c21 := leI c21; have tqz_ := qz2_; have tnb_ := nib9 tn1351_ tn1352_ tn1356_ tn1353_ tn1357_ tn1358_ tn1354_ tn1355_ tn1359_; have tqz_ := qz41_; omega) htb) (kwV hg mfX11_other wt_1028 ⟨Nat.le_of_ble_eq_true rfl, Nat.le_of_ble_eq_true rfl⟩) (preVW hK hPc hDc (ci := 11) (r := (RX11, TX11, 35)) rfl rfl) rfl rfl hl.1 rfl (lv_room (Nat.le_of_ble_eq_true rfl)) dX11_readMore_184 ⟨Nat.le_of_ble_eq_true rfl, Nat.le_of_ble_eq_true rfl⟩) hS (fun q _ h => hFc q h) hFc (fun r22 ur22 t H1 locs ht hvm w23 hB hz1 hk1 hS => ?_)
            obtain ⟨u24, u25, u26, u27, u28, u29⟩ := ur22
            obtain ⟨hP1, hD1⟩ := hB
            rw [ht] at hP1
            obtain ⟨hP, hD⟩ := va_join (wr := [(rp, .inl (G 0, 49, .inl frp))]) (w1 := [(h0, .inr (11, [.ref st, .int (nI N), .int (nI B), .ref rp, .int (nI nrs), .int vrb, .int vhs, .int (vca ||| (1 <<< ((nI io9) &&& 31))), .int vxs, .int vxb, .ref tp, .int (nI T), .int vfa, .int u24, .int u25, .int (nI u26), .int (nI u27), .int u28, .int u29, .ref cu, .ref lt, .ref od, .ref th, .ref be, .ref ln, .int (nI S), .ref ma, .int (nI M), .ref ah, .ref bh, .ref ik, .ref la, .ref lg, .ref ce, .int vto])), (tp, .inl (G 0, 320, .inl ftp))]) hP hD [1, 2] [0] rfl rfl (by decide) (by decide) hk1 hFc hP1 hD1
            generalize H1 = H at hP hS ⊢
            obtain ⟨w23, w23x⟩ := w23
            have vw23 : oV 0 5 0 (u15, u16, u17, u18, u19, u20) = r22 := w23.2.symm
            have ew23 : oS ftp T 0 5 0 (u15, u16, u17, u18, u19, u20) = (u24, u25, u26, u27, u28, u29) := w23x.2.2.2.2.2.2.symm
            refine lv_istore_n (lv' := [(3, .int r22), (2, .int (nI io9)), (0, .ref h0), (1, .int nm)]) hx hb dX11_readMore_187 rfl hl (by decide) rfl (fun ls hl => ?_)
            refine lv_aload_n hx hb dX11_readMore_188 rfl (lv_at hl 2 rfl) ?_
            refine lv_iload_n hx hb dX11_readMore_189 rfl (lv_at hl 0 rfl) ?_
            refine lv_aload_n hx hb dX11_readMore_190 rfl (lv_at hl 2 rfl) ?_
            refine va_get (D := (dC, dI)) (ci := 11) (v := .int vxb) (C := RX11) (T := TX11) (N := 35) hx hb hg inG11 hown hK.1 hP 1 rfl rfl 9 (Nat.le_of_ble_eq_true rfl) (hg _ wt_887) (fun _ h9 => h9) rfl dX11_readMore_191 ?_
            refine lv_icmp_le (tgt := 201) hx hb dX11_readMore_194 rfl (fun c30 => ?_) (fun c30 => ?_)
            · skip
              refine lv_aload_n hx hb dX11_readMore_201 rfl (lv_at hl 2 rfl) ?_
              refine va_get (D := (dC, dI)) (ci := 11) (v := .int vxb) (C := RX11) (T := TX11) (N := 35) hx hb hg inG11 hown hK.1 hP 1 rfl rfl 9 (Nat.le_of_ble_eq_true rfl) (hg _ wt_887) (fun _ h9 => h9) rfl dX11_readMore_202 ?_
              refine va_put (D := (dC, dI)) (ci := 11) (v := .int vxb) (ty := .int) (C := RX11) (T := TX11) (N := 35) hx hb hg inG11 tyX11 tyX11_ok nmX11 hown hK.1 hP hD hS 1 rfl rfl 9 (Nat.le_of_ble_eq_true rfl) (hg _ wt_887) (fun _ h9 => h9) rfl (by decide +kernel) rfl rfl (Nat.le_of_ble_eq_true rfl) dX11_readMore_205 (fun H locs hP hD hS => ?_)
              refine lv_aload_n hx hb dX11_readMore_208 rfl (lv_at hl 2 rfl) ?_
              refine va_get (D := (dC, dI)) (ci := 11) (v := .ref rp) (C := RX11) (T := TX11) (N := 35) hx hb hg inG11 hown hK.1 hP 1 rfl rfl 3 (Nat.le_of_ble_eq_true rfl) (hg _ wt_881) (fun _ h9 => h9) rfl dX11_readMore_209 ?_
              refine lv_bipush (v := 38) hx hb dX11_readMore_212 rfl ?_
              refine lv_iload_n hx hb dX11_readMore_214 rfl (lv_at hl 1 rfl) ?_
              refine lv_iadd hx hb dX11_readMore_215 ?_
              refine lv_cg (y := nI (38 + io9)) (by rw [show (38 : Int32) = nI 38 from rfl]; exact nI_add _ _) ?_
              refine lv_iload_n hx hb dX11_readMore_216 rfl (lv_at hl 0 rfl) ?_
              refine va_iast hx hb hK.1 hP hD hS 0 0 rfl rfl (vp_in_nI (by first | omega | (have t_c1 := neI c1; have t_c2 := neI c2; have t_c11 := neI c11; have t_c12 := neI c12; have t_hio9 := hio9; have t_c21 := leI c21; have t_c30 := leI c30; have tqz_ := qz2_; have tnb_ := nib9 tn1351_ tn1352_ tn1356_ tn1353_ tn1357_ tn1358_ tn1354_ tn1355_ tn1359_; omega)) (by decide)) dX11_readMore_217 (fun H locs hP hD hS => ?_)
              rw [nI_clamp (by omega)] at hP hD
              obtain ⟨hP9, hD9⟩ := va_sub2 (ws' := [(h0, .inr (11, [.ref st, .int (nI N), .int (nI B), .ref rp, .int (nI nrs), .int vrb, .int vhs, .int (vca ||| (1 <<< ((nI io9) &&& 31))), .int vxs, .int vxb, .ref tp, .int (nI T), .int vfa, .int u24, .int u25, .int (nI u26), .int (nI u27), .int u28, .int u29, .ref cu, .ref lt, .ref od, .ref th, .ref be, .ref ln, .int (nI S), .ref ma, .int (nI M), .ref ah, .ref bh, .ref ik, .ref la, .ref lg, .ref ce, .int vto])), (tp, .inl (G 0, 320, .inl ftp)), (rp, .inl (G 0, 49, .inl (upd frp (38 + io9) r22)))]) hP hD [1, 2, 0] (by decide) rfl
              refine W.widen (k := 0) (n := 0) (Nat.le_of_ble_eq_true rfl) (Nat.le_of_ble_eq_true rfl) ?_
              exact W.vret hx hb hr (fun t ht hW => ⟨⟨(u24, u25, u26, u27, u28, u29, nrs, vhs, (vca ||| (1 <<< ((nI io9) &&& 31))), vxs, vxb, (upd frp (38 + io9) r22)), rfl, ⟨⟨(OKP.upd hrp (by have t_c1 := neI c1; have t_c2 := neI c2; have t_c11 := neI c11; have t_c12 := neI c12; have t_hio9 := hio9; have t_c21 := leI c21; have t_c30 := leI c30; have tqz_ := qz2_; have tnb_ := nib9 tn1351_ tn1352_ tn1356_ tn1353_ tn1357_ tn1358_ tn1354_ tn1355_ tn1359_; have tqz_ := qz41_; first | exact okS_lo (by omega) (by omega) (by omega) | exact okS_or (by omega) (by omega) (by omega) (by omega) | exact okS_sd (by omega) (by omega))), (by have t_c1 := neI c1; have t_c2 := neI c2; have t_c11 := neI c11; have t_c12 := neI c12; have t_hio9 := hio9; have t_c21 := leI c21; have t_c30 := leI c30; have tqz_ := qz2_; have tnb_ := nib9 tn1351_ tn1352_ tn1356_ tn1353_ tn1357_ tn1358_ tn1354_ tn1355_ tn1359_; have tqz_ := qz41_; omega)⟩, (by unfold rmS; (try (repeat (first | rw [if_pos (by with_reducible assumption)] | rw [if_neg (by with_reducible assumption)] | rw [if_pos (by (have t_c1 := neI c1; have t_c2 := neI c2; have t_c11 := neI c11; have t_c12 := neI c12; have t_hio9 := hio9; have t_c21 := leI c21; have t_c30 := leI c30; have tqz_ := qz2_; have tnb_ := nib9 tn1351_ tn1352_ tn1356_ tn1353_ tn1357_ tn1358_ tn1354_ tn1355_ tn1359_; have tqz_ := qz41_; omega))] | rw [if_neg (by (have t_c1 := neI c1; have t_c2 := neI c2; have t_c11 := neI c11; have t_c12 := neI c12; have t_hio9 := hio9; have t_c21 := leI c21; have t_c30 := leI c30; have tqz_ := qz2_; have tnb_ := nib9 tn1351_ tn1352_ tn1356_ tn1353_ tn1357_ tn1358_ tn1354_ tn1355_ tn1359_; have tqz_ := qz41_; omega))] | rw [if_pos (by decide)] | rw [if_neg (by decide)]))); unfold rmA; (try (repeat (first | rw [if_pos (by with_reducible assumption)] | rw [if_neg (by with_reducible assumption)] | rw [if_pos (by (have t_c1 := neI c1; have t_c2 := neI c2; have t_c11 := neI c11; have t_c12 := neI c12; have t_hio9 := hio9; have t_c21 := leI c21; have t_c30 := leI c30; have tqz_ := qz2_; have tnb_ := nib9 tn1351_ tn1352_ tn1356_ tn1353_ tn1357_ tn1358_ tn1354_ tn1355_ tn1359_; have tqz_ := qz41_; omega))] | rw [if_neg (by (have t_c1 := neI c1; have t_c2 := neI c2; have t_c11 := neI c11; have t_c12 := neI c12; have t_hio9 := hio9; have t_c21 := leI c21; have t_c30 := leI c30; have tqz_ := qz2_; have tnb_ := nib9 tn1351_ tn1352_ tn1356_ tn1353_ tn1357_ tn1358_ tn1354_ tn1355_ tn1359_; have tqz_ := qz41_; omega))] | rw [if_pos (by decide)] | rw [if_neg (by decide)]))); (try rw [ew4]); (try rw [vw14]); (try rw [ew14]); (try rw [vw23]); (try rw [ew23]); (try unfold rmI); (try (repeat (first | rw [if_pos (by with_reducible assumption)] | rw [if_neg (by with_reducible assumption)] | rw [if_pos (by (have t_c1 := neI c1; have t_c2 := neI c2; have t_c11 := neI c11; have t_c12 := neI c12; have t_hio9 := hio9; have t_c21 := leI c21; have t_c30 := leI c30; have tqz_ := qz2_; have tnb_ := nib9 tn1351_ tn1352_ tn1356_ tn1353_ tn1357_ tn1358_ tn1354_ tn1355_ tn1359_; have tqz_ := qz41_; omega))] | rw [if_neg (by (have t_c1 := neI c1; have t_c2 := neI c2; have t_c11 := neI c11; have t_c12 := neI c12; have t_hio9 := hio9; have t_c21 := leI c21; have t_c30 := leI c30; have tqz_ := qz2_; have tnb_ := nib9 tn1351_ tn1352_ tn1356_ tn1353_ tn1357_ tn1358_ tn1354_ tn1355_ tn1359_; have tqz_ := qz41_; omega))] | rw [if_pos (by decide)] | rw [if_neg (by decide)]))); (try rw [eio9]); (try rw [nI_clamp (by (have t_c1 := neI c1; have t_c2 := neI c2; have t_c11 := neI c11; have t_c12 := neI c12; have t_hio9 := hio9; have t_c21 := leI c21; have t_c30 := leI c30; have tqz_ := qz2_; have tnb_ := nib9 tn1351_ tn1352_ tn1356_ tn1353_ tn1357_ tn1358_ tn1354_ tn1355_ tn1359_; have tqz_ := qz41_; omega))]); (try unfold rmX); (try (repeat (first | rw [if_pos (by with_reducible assumption)] | rw [if_neg (by with_reducible assumption)] | rw [if_pos (by (have t_c1 := neI c1; have t_c2 := neI c2; have t_c11 := neI c11; have t_c12 := neI c12; have t_hio9 := hio9; have t_c21 := leI c21; have t_c30 := leI c30; have tqz_ := qz2_; have tnb_ := nib9 tn1351_ tn1352_ tn1356_ tn1353_ tn1357_ tn1358_ tn1354_ tn1355_ tn1359_; have tqz_ := qz41_; omega))] | rw [if_neg (by (have t_c1 := neI c1; have t_c2 := neI c2; have t_c11 := neI c11; have t_c12 := neI c12; have t_hio9 := hio9; have t_c21 := leI c21; have t_c30 := leI c30; have tqz_ := qz2_; have tnb_ := nib9 tn1351_ tn1352_ tn1356_ tn1353_ tn1357_ tn1358_ tn1354_ tn1355_ tn1359_; have tqz_ := qz41_; omega))] | rw [if_pos (by decide)] | rw [if_neg (by decide)]))); all_goals rfl)⟩, ⟨by rw [ht]; exact hP9, hD9⟩⟩, hS.F ht⟩) hS.2.2 dX11_readMore_218
            · skip
              refine lv_iload_n hx hb dX11_readMore_197 rfl (lv_at hl 0 rfl) ?_
              refine lv_goto (tgt := 205) hx hb dX11_readMore_198 rfl ?_
              refine va_put (D := (dC, dI)) (ci := 11) (v := .int r22) (ty := .int) (C := RX11) (T := TX11) (N := 35) hx hb hg inG11 tyX11 tyX11_ok nmX11 hown hK.1 hP hD hS 1 rfl rfl 9 (Nat.le_of_ble_eq_true rfl) (hg _ wt_887) (fun _ h9 => h9) rfl (by decide +kernel) rfl rfl (Nat.le_of_ble_eq_true rfl) dX11_readMore_205 (fun H locs hP hD hS => ?_)
              refine lv_aload_n hx hb dX11_readMore_208 rfl (lv_at hl 2 rfl) ?_
              refine va_get (D := (dC, dI)) (ci := 11) (v := .ref rp) (C := RX11) (T := TX11) (N := 35) hx hb hg inG11 hown hK.1 hP 1 rfl rfl 3 (Nat.le_of_ble_eq_true rfl) (hg _ wt_881) (fun _ h9 => h9) rfl dX11_readMore_209 ?_
              refine lv_bipush (v := 38) hx hb dX11_readMore_212 rfl ?_
              refine lv_iload_n hx hb dX11_readMore_214 rfl (lv_at hl 1 rfl) ?_
              refine lv_iadd hx hb dX11_readMore_215 ?_
              refine lv_cg (y := nI (38 + io9)) (by rw [show (38 : Int32) = nI 38 from rfl]; exact nI_add _ _) ?_
              refine lv_iload_n hx hb dX11_readMore_216 rfl (lv_at hl 0 rfl) ?_
              refine va_iast hx hb hK.1 hP hD hS 0 0 rfl rfl (vp_in_nI (by first | omega | (have t_c1 := neI c1; have t_c2 := neI c2; have t_c11 := neI c11; have t_c12 := neI c12; have t_hio9 := hio9; have t_c21 := leI c21; have t_c30 := nleI c30; have tqz_ := qz2_; have tnb_ := nib9 tn1351_ tn1352_ tn1356_ tn1353_ tn1357_ tn1358_ tn1354_ tn1355_ tn1359_; omega)) (by decide)) dX11_readMore_217 (fun H locs hP hD hS => ?_)
              rw [nI_clamp (by omega)] at hP hD
              obtain ⟨hP9, hD9⟩ := va_sub2 (ws' := [(h0, .inr (11, [.ref st, .int (nI N), .int (nI B), .ref rp, .int (nI nrs), .int vrb, .int vhs, .int (vca ||| (1 <<< ((nI io9) &&& 31))), .int vxs, .int r22, .ref tp, .int (nI T), .int vfa, .int u24, .int u25, .int (nI u26), .int (nI u27), .int u28, .int u29, .ref cu, .ref lt, .ref od, .ref th, .ref be, .ref ln, .int (nI S), .ref ma, .int (nI M), .ref ah, .ref bh, .ref ik, .ref la, .ref lg, .ref ce, .int vto])), (tp, .inl (G 0, 320, .inl ftp)), (rp, .inl (G 0, 49, .inl (upd frp (38 + io9) r22)))]) hP hD [1, 2, 0] (by decide) rfl
              refine W.widen (k := 0) (n := 0) (Nat.le_of_ble_eq_true rfl) (Nat.le_of_ble_eq_true rfl) ?_
              exact W.vret hx hb hr (fun t ht hW => ⟨⟨(u24, u25, u26, u27, u28, u29, nrs, vhs, (vca ||| (1 <<< ((nI io9) &&& 31))), vxs, r22, (upd frp (38 + io9) r22)), rfl, ⟨⟨(OKP.upd hrp (by have t_c1 := neI c1; have t_c2 := neI c2; have t_c11 := neI c11; have t_c12 := neI c12; have t_hio9 := hio9; have t_c21 := leI c21; have t_c30 := nleI c30; have tqz_ := qz2_; have tnb_ := nib9 tn1351_ tn1352_ tn1356_ tn1353_ tn1357_ tn1358_ tn1354_ tn1355_ tn1359_; have tqz_ := qz41_; first | exact okS_lo (by omega) (by omega) (by omega) | exact okS_or (by omega) (by omega) (by omega) (by omega) | exact okS_sd (by omega) (by omega))), (by have t_c1 := neI c1; have t_c2 := neI c2; have t_c11 := neI c11; have t_c12 := neI c12; have t_hio9 := hio9; have t_c21 := leI c21; have t_c30 := nleI c30; have tqz_ := qz2_; have tnb_ := nib9 tn1351_ tn1352_ tn1356_ tn1353_ tn1357_ tn1358_ tn1354_ tn1355_ tn1359_; have tqz_ := qz41_; omega)⟩, (by unfold rmS; (try (repeat (first | rw [if_pos (by with_reducible assumption)] | rw [if_neg (by with_reducible assumption)] | rw [if_pos (by (have t_c1 := neI c1; have t_c2 := neI c2; have t_c11 := neI c11; have t_c12 := neI c12; have t_hio9 := hio9; have t_c21 := leI c21; have t_c30 := nleI c30; have tqz_ := qz2_; have tnb_ := nib9 tn1351_ tn1352_ tn1356_ tn1353_ tn1357_ tn1358_ tn1354_ tn1355_ tn1359_; have tqz_ := qz41_; omega))] | rw [if_neg (by (have t_c1 := neI c1; have t_c2 := neI c2; have t_c11 := neI c11; have t_c12 := neI c12; have t_hio9 := hio9; have t_c21 := leI c21; have t_c30 := nleI c30; have tqz_ := qz2_; have tnb_ := nib9 tn1351_ tn1352_ tn1356_ tn1353_ tn1357_ tn1358_ tn1354_ tn1355_ tn1359_; have tqz_ := qz41_; omega))] | rw [if_pos (by decide)] | rw [if_neg (by decide)]))); unfold rmA; (try (repeat (first | rw [if_pos (by with_reducible assumption)] | rw [if_neg (by with_reducible assumption)] | rw [if_pos (by (have t_c1 := neI c1; have t_c2 := neI c2; have t_c11 := neI c11; have t_c12 := neI c12; have t_hio9 := hio9; have t_c21 := leI c21; have t_c30 := nleI c30; have tqz_ := qz2_; have tnb_ := nib9 tn1351_ tn1352_ tn1356_ tn1353_ tn1357_ tn1358_ tn1354_ tn1355_ tn1359_; have tqz_ := qz41_; omega))] | rw [if_neg (by (have t_c1 := neI c1; have t_c2 := neI c2; have t_c11 := neI c11; have t_c12 := neI c12; have t_hio9 := hio9; have t_c21 := leI c21; have t_c30 := nleI c30; have tqz_ := qz2_; have tnb_ := nib9 tn1351_ tn1352_ tn1356_ tn1353_ tn1357_ tn1358_ tn1354_ tn1355_ tn1359_; have tqz_ := qz41_; omega))] | rw [if_pos (by decide)] | rw [if_neg (by decide)]))); (try rw [ew4]); (try rw [vw14]); (try rw [ew14]); (try rw [vw23]); (try rw [ew23]); (try unfold rmI); (try (repeat (first | rw [if_pos (by with_reducible assumption)] | rw [if_neg (by with_reducible assumption)] | rw [if_pos (by (have t_c1 := neI c1; have t_c2 := neI c2; have t_c11 := neI c11; have t_c12 := neI c12; have t_hio9 := hio9; have t_c21 := leI c21; have t_c30 := nleI c30; have tqz_ := qz2_; have tnb_ := nib9 tn1351_ tn1352_ tn1356_ tn1353_ tn1357_ tn1358_ tn1354_ tn1355_ tn1359_; have tqz_ := qz41_; omega))] | rw [if_neg (by (have t_c1 := neI c1; have t_c2 := neI c2; have t_c11 := neI c11; have t_c12 := neI c12; have t_hio9 := hio9; have t_c21 := leI c21; have t_c30 := nleI c30; have tqz_ := qz2_; have tnb_ := nib9 tn1351_ tn1352_ tn1356_ tn1353_ tn1357_ tn1358_ tn1354_ tn1355_ tn1359_; have tqz_ := qz41_; omega))] | rw [if_pos (by decide)] | rw [if_neg (by decide)]))); (try rw [eio9]); (try rw [nI_clamp (by (have t_c1 := neI c1; have t_c2 := neI c2; have t_c11 := neI c11; have t_c12 := neI c12; have t_hio9 := hio9; have t_c21 := leI c21; have t_c30 := nleI c30; have tqz_ := qz2_; have tnb_ := nib9 tn1351_ tn1352_ tn1356_ tn1353_ tn1357_ tn1358_ tn1354_ tn1355_ tn1359_; have tqz_ := qz41_; omega))]); (try unfold rmX); (try (repeat (first | rw [if_pos (by with_reducible assumption)] | rw [if_neg (by with_reducible assumption)] | rw [if_pos (by (have t_c1 := neI c1; have t_c2 := neI c2; have t_c11 := neI c11; have t_c12 := neI c12; have t_hio9 := hio9; have t_c21 := leI c21; have t_c30 := nleI c30; have tqz_ := qz2_; have tnb_ := nib9 tn1351_ tn1352_ tn1356_ tn1353_ tn1357_ tn1358_ tn1354_ tn1355_ tn1359_; have tqz_ := qz41_; omega))] | rw [if_neg (by (have t_c1 := neI c1; have t_c2 := neI c2; have t_c11 := neI c11; have t_c12 := neI c12; have t_hio9 := hio9; have t_c21 := leI c21; have t_c30 := nleI c30; have tqz_ := qz2_; have tnb_ := nib9 tn1351_ tn1352_ tn1356_ tn1353_ tn1357_ tn1358_ tn1354_ tn1355_ tn1359_; have tqz_ := qz41_; omega))] | rw [if_pos (by decide)] | rw [if_neg (by decide)]))); all_goals rfl)⟩, ⟨by rw [ht]; exact hP9, hD9⟩⟩, hS.F ht⟩) hS.2.2 dX11_readMore_218
          · skip
            refine lv_iload_n hx hb dX11_readMore_169 rfl (lv_at hl 0 rfl) ?_
            refine lv_goto (tgt := 177) hx hb dX11_readMore_170 rfl ?_
            refine va_put (D := (dC, dI)) (ci := 11) (v := .int (nI io9)) (ty := .int) (C := RX11) (T := TX11) (N := 35) hx hb hg inG11 tyX11 tyX11_ok nmX11 hown hK.1 hP hD hS 1 rfl rfl 8 (Nat.le_of_ble_eq_true rfl) (hg _ wt_886) (fun _ h9 => h9) rfl (by decide +kernel) rfl rfl (Nat.le_of_ble_eq_true rfl) dX11_readMore_177 (fun H locs hP hD hS => ?_)
            refine lv_aload_n hx hb dX11_readMore_180 rfl (lv_at hl 1 rfl) ?_
            refine lv_iconst (v := 0) hx hb dX11_readMore_181 rfl ?_
            refine lv_iconst (v := 5) hx hb dX11_readMore_182 rfl ?_
            refine lv_iconst (v := 0) hx hb dX11_readMore_183 rfl ?_
            obtain ⟨hPc, hDc, hFc⟩ := va_sub3 (ws' := [(h0, .inr (11, [.ref st, .int (nI N), .int (nI B), .ref rp, .int (nI nrs), .int vrb, .int vhs, .int (vca ||| (1 <<< ((nI io9) &&& 31))), .int (nI io9), .int vxb, .ref tp, .int (nI T), .int vfa, .int u15, .int u16, .int (nI u17), .int (nI u18), .int u19, .int u20, .ref cu, .ref lt, .ref od, .ref th, .ref be, .ref ln, .int (nI S), .ref ma, .int (nI M), .ref ah, .ref bh, .ref ik, .ref la, .ref lg, .ref ce, .int vto])), (tp, .inl (G 0, 320, .inl ftp))]) hP hD hS hA [1, 2] (by decide) rfl
            have tn1360_ : nIT io9 := fun _ => nI_toInt (by first | omega | (have t_c1 := neI c1; have t_c2 := neI c2; have t_c11 := neI c11; have t_c12 := neI c12; have t_hio9 := hio9; have t_c21 := nleI c21; have tqz_ := qz2_; omega))
            refine va_calli (va_runV (As := [.int 0, .int 5, .int 0]) (rest := []) ⟨hx, hb, hml, hown, hg⟩ (c_X11_otherE l dC dI G _ h0 st N B rp tp T u17 u18 cu lt od th be ln S ma M ah bh ik la lg ce 0 5 0 (nI nrs) vrb vhs (vca ||| (1 <<< ((nI io9) &&& 31))) (nI io9) vxb vfa u15 u16 u19 u20 vto ftp hN hB_ hT_ hS0 hM_ (by have t_c1 := neI c1; have t_c2 := neI c2; have t_c11 := neI c11; have t_c12 := neI c12; have t_hio9 := hio9; have t_c21 := nleI c21; have tqz_ := qz2_; have tnb_ := nib9 tn1351_ tn1352_ tn1356_ tn1353_ tn1357_ tn1358_ tn1354_ tn1355_ tn1360_; have tqz_ := qz41_; omega) (by first | omega | (have t_c1 := neI c1; have t_c2 := neI c2; have t_c11 := neI c11; have t_c12 := neI c12; have t_hio9 := hio9; have t_c21 := nleI c21; have tqz_ := qz2_; have tnb_ := nib9 tn1351_ tn1352_ tn1356_ tn1353_ tn1357_ tn1358_ tn1354_ tn1355_ tn1360_; have tqz_ := qz41_; omega)) (by first | omega | (have t_c1 := neI c1; have t_c2 := neI c2; have t_c11 := neI c11; have t_c12 := neI c12; have t_hio9 := hio9; have t_c21 := nleI c21; have tqz_ := qz2_; have tnb_ := nib9 tn1351_ tn1352_ tn1356_ tn1353_ tn1357_ tn1358_ tn1354_ tn1355_ tn1360_; have tqz_ := qz41_; omega)) (by have t_c1 := neI c1; have t_c2 := neI c2; have t_c11 := neI c11; have t_c12 := neI c12; have t_hio9 := hio9; have t_c21 := nleI c21; have tqz_ := qz2_; have tnb_ := nib9 tn1351_ tn1352_ tn1356_ tn1353_ tn1357_ tn1358_ tn1354_ tn1355_ tn1360_; have tqz_ := qz41_; omega) htb) (kwV hg mfX11_other wt_1028 ⟨Nat.le_of_ble_eq_true rfl, Nat.le_of_ble_eq_true rfl⟩) (preVW hK hPc hDc (ci := 11) (r := (RX11, TX11, 35)) rfl rfl) rfl rfl hl.1 rfl (lv_room (Nat.le_of_ble_eq_true rfl)) dX11_readMore_184 ⟨Nat.le_of_ble_eq_true rfl, Nat.le_of_ble_eq_true rfl⟩) hS (fun q _ h => hFc q h) hFc (fun r31 ur31 t H1 locs ht hvm w32 hB hz1 hk1 hS => ?_)
            obtain ⟨u33, u34, u35, u36, u37, u38⟩ := ur31
            obtain ⟨hP1, hD1⟩ := hB
            rw [ht] at hP1
            obtain ⟨hP, hD⟩ := va_join (wr := [(rp, .inl (G 0, 49, .inl frp))]) (w1 := [(h0, .inr (11, [.ref st, .int (nI N), .int (nI B), .ref rp, .int (nI nrs), .int vrb, .int vhs, .int (vca ||| (1 <<< ((nI io9) &&& 31))), .int (nI io9), .int vxb, .ref tp, .int (nI T), .int vfa, .int u33, .int u34, .int (nI u35), .int (nI u36), .int u37, .int u38, .ref cu, .ref lt, .ref od, .ref th, .ref be, .ref ln, .int (nI S), .ref ma, .int (nI M), .ref ah, .ref bh, .ref ik, .ref la, .ref lg, .ref ce, .int vto])), (tp, .inl (G 0, 320, .inl ftp))]) hP hD [1, 2] [0] rfl rfl (by decide) (by decide) hk1 hFc hP1 hD1
            generalize H1 = H at hP hS ⊢
            obtain ⟨w32, w32x⟩ := w32
            have vw32 : oV 0 5 0 (u15, u16, u17, u18, u19, u20) = r31 := w32.2.symm
            have ew32 : oS ftp T 0 5 0 (u15, u16, u17, u18, u19, u20) = (u33, u34, u35, u36, u37, u38) := w32x.2.2.2.2.2.2.symm
            refine lv_istore_n (lv' := [(3, .int r31), (2, .int (nI io9)), (0, .ref h0), (1, .int nm)]) hx hb dX11_readMore_187 rfl hl (by decide) rfl (fun ls hl => ?_)
            refine lv_aload_n hx hb dX11_readMore_188 rfl (lv_at hl 2 rfl) ?_
            refine lv_iload_n hx hb dX11_readMore_189 rfl (lv_at hl 0 rfl) ?_
            refine lv_aload_n hx hb dX11_readMore_190 rfl (lv_at hl 2 rfl) ?_
            refine va_get (D := (dC, dI)) (ci := 11) (v := .int vxb) (C := RX11) (T := TX11) (N := 35) hx hb hg inG11 hown hK.1 hP 1 rfl rfl 9 (Nat.le_of_ble_eq_true rfl) (hg _ wt_887) (fun _ h9 => h9) rfl dX11_readMore_191 ?_
            refine lv_icmp_le (tgt := 201) hx hb dX11_readMore_194 rfl (fun c39 => ?_) (fun c39 => ?_)
            · skip
              refine lv_aload_n hx hb dX11_readMore_201 rfl (lv_at hl 2 rfl) ?_
              refine va_get (D := (dC, dI)) (ci := 11) (v := .int vxb) (C := RX11) (T := TX11) (N := 35) hx hb hg inG11 hown hK.1 hP 1 rfl rfl 9 (Nat.le_of_ble_eq_true rfl) (hg _ wt_887) (fun _ h9 => h9) rfl dX11_readMore_202 ?_
              refine va_put (D := (dC, dI)) (ci := 11) (v := .int vxb) (ty := .int) (C := RX11) (T := TX11) (N := 35) hx hb hg inG11 tyX11 tyX11_ok nmX11 hown hK.1 hP hD hS 1 rfl rfl 9 (Nat.le_of_ble_eq_true rfl) (hg _ wt_887) (fun _ h9 => h9) rfl (by decide +kernel) rfl rfl (Nat.le_of_ble_eq_true rfl) dX11_readMore_205 (fun H locs hP hD hS => ?_)
              refine lv_aload_n hx hb dX11_readMore_208 rfl (lv_at hl 2 rfl) ?_
              refine va_get (D := (dC, dI)) (ci := 11) (v := .ref rp) (C := RX11) (T := TX11) (N := 35) hx hb hg inG11 hown hK.1 hP 1 rfl rfl 3 (Nat.le_of_ble_eq_true rfl) (hg _ wt_881) (fun _ h9 => h9) rfl dX11_readMore_209 ?_
              refine lv_bipush (v := 38) hx hb dX11_readMore_212 rfl ?_
              refine lv_iload_n hx hb dX11_readMore_214 rfl (lv_at hl 1 rfl) ?_
              refine lv_iadd hx hb dX11_readMore_215 ?_
              refine lv_cg (y := nI (38 + io9)) (by rw [show (38 : Int32) = nI 38 from rfl]; exact nI_add _ _) ?_
              refine lv_iload_n hx hb dX11_readMore_216 rfl (lv_at hl 0 rfl) ?_
              refine va_iast hx hb hK.1 hP hD hS 0 0 rfl rfl (vp_in_nI (by first | omega | (have t_c1 := neI c1; have t_c2 := neI c2; have t_c11 := neI c11; have t_c12 := neI c12; have t_hio9 := hio9; have t_c21 := nleI c21; have t_c39 := leI c39; have tqz_ := qz2_; have tnb_ := nib9 tn1351_ tn1352_ tn1356_ tn1353_ tn1357_ tn1358_ tn1354_ tn1355_ tn1360_; omega)) (by decide)) dX11_readMore_217 (fun H locs hP hD hS => ?_)
              rw [nI_clamp (by omega)] at hP hD
              obtain ⟨hP9, hD9⟩ := va_sub2 (ws' := [(h0, .inr (11, [.ref st, .int (nI N), .int (nI B), .ref rp, .int (nI nrs), .int vrb, .int vhs, .int (vca ||| (1 <<< ((nI io9) &&& 31))), .int (nI io9), .int vxb, .ref tp, .int (nI T), .int vfa, .int u33, .int u34, .int (nI u35), .int (nI u36), .int u37, .int u38, .ref cu, .ref lt, .ref od, .ref th, .ref be, .ref ln, .int (nI S), .ref ma, .int (nI M), .ref ah, .ref bh, .ref ik, .ref la, .ref lg, .ref ce, .int vto])), (tp, .inl (G 0, 320, .inl ftp)), (rp, .inl (G 0, 49, .inl (upd frp (38 + io9) r31)))]) hP hD [1, 2, 0] (by decide) rfl
              refine W.widen (k := 0) (n := 0) (Nat.le_of_ble_eq_true rfl) (Nat.le_of_ble_eq_true rfl) ?_
              exact W.vret hx hb hr (fun t ht hW => ⟨⟨(u33, u34, u35, u36, u37, u38, nrs, vhs, (vca ||| (1 <<< ((nI io9) &&& 31))), (nI io9), vxb, (upd frp (38 + io9) r31)), rfl, ⟨⟨(OKP.upd hrp (by have t_c1 := neI c1; have t_c2 := neI c2; have t_c11 := neI c11; have t_c12 := neI c12; have t_hio9 := hio9; have t_c21 := nleI c21; have t_c39 := leI c39; have tqz_ := qz2_; have tnb_ := nib9 tn1351_ tn1352_ tn1356_ tn1353_ tn1357_ tn1358_ tn1354_ tn1355_ tn1360_; have tqz_ := qz41_; first | exact okS_lo (by omega) (by omega) (by omega) | exact okS_or (by omega) (by omega) (by omega) (by omega) | exact okS_sd (by omega) (by omega))), (by have t_c1 := neI c1; have t_c2 := neI c2; have t_c11 := neI c11; have t_c12 := neI c12; have t_hio9 := hio9; have t_c21 := nleI c21; have t_c39 := leI c39; have tqz_ := qz2_; have tnb_ := nib9 tn1351_ tn1352_ tn1356_ tn1353_ tn1357_ tn1358_ tn1354_ tn1355_ tn1360_; have tqz_ := qz41_; omega)⟩, (by unfold rmS; (try (repeat (first | rw [if_pos (by with_reducible assumption)] | rw [if_neg (by with_reducible assumption)] | rw [if_pos (by (have t_c1 := neI c1; have t_c2 := neI c2; have t_c11 := neI c11; have t_c12 := neI c12; have t_hio9 := hio9; have t_c21 := nleI c21; have t_c39 := leI c39; have tqz_ := qz2_; have tnb_ := nib9 tn1351_ tn1352_ tn1356_ tn1353_ tn1357_ tn1358_ tn1354_ tn1355_ tn1360_; have tqz_ := qz41_; omega))] | rw [if_neg (by (have t_c1 := neI c1; have t_c2 := neI c2; have t_c11 := neI c11; have t_c12 := neI c12; have t_hio9 := hio9; have t_c21 := nleI c21; have t_c39 := leI c39; have tqz_ := qz2_; have tnb_ := nib9 tn1351_ tn1352_ tn1356_ tn1353_ tn1357_ tn1358_ tn1354_ tn1355_ tn1360_; have tqz_ := qz41_; omega))] | rw [if_pos (by decide)] | rw [if_neg (by decide)]))); unfold rmA; (try (repeat (first | rw [if_pos (by with_reducible assumption)] | rw [if_neg (by with_reducible assumption)] | rw [if_pos (by (have t_c1 := neI c1; have t_c2 := neI c2; have t_c11 := neI c11; have t_c12 := neI c12; have t_hio9 := hio9; have t_c21 := nleI c21; have t_c39 := leI c39; have tqz_ := qz2_; have tnb_ := nib9 tn1351_ tn1352_ tn1356_ tn1353_ tn1357_ tn1358_ tn1354_ tn1355_ tn1360_; have tqz_ := qz41_; omega))] | rw [if_neg (by (have t_c1 := neI c1; have t_c2 := neI c2; have t_c11 := neI c11; have t_c12 := neI c12; have t_hio9 := hio9; have t_c21 := nleI c21; have t_c39 := leI c39; have tqz_ := qz2_; have tnb_ := nib9 tn1351_ tn1352_ tn1356_ tn1353_ tn1357_ tn1358_ tn1354_ tn1355_ tn1360_; have tqz_ := qz41_; omega))] | rw [if_pos (by decide)] | rw [if_neg (by decide)]))); (try rw [ew4]); (try rw [vw14]); (try rw [ew14]); (try rw [vw32]); (try rw [ew32]); (try unfold rmI); (try (repeat (first | rw [if_pos (by with_reducible assumption)] | rw [if_neg (by with_reducible assumption)] | rw [if_pos (by (have t_c1 := neI c1; have t_c2 := neI c2; have t_c11 := neI c11; have t_c12 := neI c12; have t_hio9 := hio9; have t_c21 := nleI c21; have t_c39 := leI c39; have tqz_ := qz2_; have tnb_ := nib9 tn1351_ tn1352_ tn1356_ tn1353_ tn1357_ tn1358_ tn1354_ tn1355_ tn1360_; have tqz_ := qz41_; omega))] | rw [if_neg (by (have t_c1 := neI c1; have t_c2 := neI c2; have t_c11 := neI c11; have t_c12 := neI c12; have t_hio9 := hio9; have t_c21 := nleI c21; have t_c39 := leI c39; have tqz_ := qz2_; have tnb_ := nib9 tn1351_ tn1352_ tn1356_ tn1353_ tn1357_ tn1358_ tn1354_ tn1355_ tn1360_; have tqz_ := qz41_; omega))] | rw [if_pos (by decide)] | rw [if_neg (by decide)]))); (try rw [eio9]); (try rw [nI_clamp (by (have t_c1 := neI c1; have t_c2 := neI c2; have t_c11 := neI c11; have t_c12 := neI c12; have t_hio9 := hio9; have t_c21 := nleI c21; have t_c39 := leI c39; have tqz_ := qz2_; have tnb_ := nib9 tn1351_ tn1352_ tn1356_ tn1353_ tn1357_ tn1358_ tn1354_ tn1355_ tn1360_; have tqz_ := qz41_; omega))]); (try unfold rmX); (try (repeat (first | rw [if_pos (by with_reducible assumption)] | rw [if_neg (by with_reducible assumption)] | rw [if_pos (by (have t_c1 := neI c1; have t_c2 := neI c2; have t_c11 := neI c11; have t_c12 := neI c12; have t_hio9 := hio9; have t_c21 := nleI c21; have t_c39 := leI c39; have tqz_ := qz2_; have tnb_ := nib9 tn1351_ tn1352_ tn1356_ tn1353_ tn1357_ tn1358_ tn1354_ tn1355_ tn1360_; have tqz_ := qz41_; omega))] | rw [if_neg (by (have t_c1 := neI c1; have t_c2 := neI c2; have t_c11 := neI c11; have t_c12 := neI c12; have t_hio9 := hio9; have t_c21 := nleI c21; have t_c39 := leI c39; have tqz_ := qz2_; have tnb_ := nib9 tn1351_ tn1352_ tn1356_ tn1353_ tn1357_ tn1358_ tn1354_ tn1355_ tn1360_; have tqz_ := qz41_; omega))] | rw [if_pos (by decide)] | rw [if_neg (by decide)]))); all_goals rfl)⟩, ⟨by rw [ht]; exact hP9, hD9⟩⟩, hS.F ht⟩) hS.2.2 dX11_readMore_218
            · skip
              refine lv_iload_n hx hb dX11_readMore_197 rfl (lv_at hl 0 rfl) ?_
              refine lv_goto (tgt := 205) hx hb dX11_readMore_198 rfl ?_
              refine va_put (D := (dC, dI)) (ci := 11) (v := .int r31) (ty := .int) (C := RX11) (T := TX11) (N := 35) hx hb hg inG11 tyX11 tyX11_ok nmX11 hown hK.1 hP hD hS 1 rfl rfl 9 (Nat.le_of_ble_eq_true rfl) (hg _ wt_887) (fun _ h9 => h9) rfl (by decide +kernel) rfl rfl (Nat.le_of_ble_eq_true rfl) dX11_readMore_205 (fun H locs hP hD hS => ?_)
              refine lv_aload_n hx hb dX11_readMore_208 rfl (lv_at hl 2 rfl) ?_
              refine va_get (D := (dC, dI)) (ci := 11) (v := .ref rp) (C := RX11) (T := TX11) (N := 35) hx hb hg inG11 hown hK.1 hP 1 rfl rfl 3 (Nat.le_of_ble_eq_true rfl) (hg _ wt_881) (fun _ h9 => h9) rfl dX11_readMore_209 ?_
              refine lv_bipush (v := 38) hx hb dX11_readMore_212 rfl ?_
              refine lv_iload_n hx hb dX11_readMore_214 rfl (lv_at hl 1 rfl) ?_
              refine lv_iadd hx hb dX11_readMore_215 ?_
              refine lv_cg (y := nI (38 + io9)) (by rw [show (38 : Int32) = nI 38 from rfl]; exact nI_add _ _) ?_
              refine lv_iload_n hx hb dX11_readMore_216 rfl (lv_at hl 0 rfl) ?_
              refine va_iast hx hb hK.1 hP hD hS 0 0 rfl rfl (vp_in_nI (by first | omega | (have t_c1 := neI c1; have t_c2 := neI c2; have t_c11 := neI c11; have t_c12 := neI c12; have t_hio9 := hio9; have t_c21 := nleI c21; have t_c39 := nleI c39; have tqz_ := qz2_; have tnb_ := nib9 tn1351_ tn1352_ tn1356_ tn1353_ tn1357_ tn1358_ tn1354_ tn1355_ tn1360_; omega)) (by decide)) dX11_readMore_217 (fun H locs hP hD hS => ?_)
              rw [nI_clamp (by omega)] at hP hD
              obtain ⟨hP9, hD9⟩ := va_sub2 (ws' := [(h0, .inr (11, [.ref st, .int (nI N), .int (nI B), .ref rp, .int (nI nrs), .int vrb, .int vhs, .int (vca ||| (1 <<< ((nI io9) &&& 31))), .int (nI io9), .int r31, .ref tp, .int (nI T), .int vfa, .int u33, .int u34, .int (nI u35), .int (nI u36), .int u37, .int u38, .ref cu, .ref lt, .ref od, .ref th, .ref be, .ref ln, .int (nI S), .ref ma, .int (nI M), .ref ah, .ref bh, .ref ik, .ref la, .ref lg, .ref ce, .int vto])), (tp, .inl (G 0, 320, .inl ftp)), (rp, .inl (G 0, 49, .inl (upd frp (38 + io9) r31)))]) hP hD [1, 2, 0] (by decide) rfl
              refine W.widen (k := 0) (n := 0) (Nat.le_of_ble_eq_true rfl) (Nat.le_of_ble_eq_true rfl) ?_
              exact W.vret hx hb hr (fun t ht hW => ⟨⟨(u33, u34, u35, u36, u37, u38, nrs, vhs, (vca ||| (1 <<< ((nI io9) &&& 31))), (nI io9), r31, (upd frp (38 + io9) r31)), rfl, ⟨⟨(OKP.upd hrp (by have t_c1 := neI c1; have t_c2 := neI c2; have t_c11 := neI c11; have t_c12 := neI c12; have t_hio9 := hio9; have t_c21 := nleI c21; have t_c39 := nleI c39; have tqz_ := qz2_; have tnb_ := nib9 tn1351_ tn1352_ tn1356_ tn1353_ tn1357_ tn1358_ tn1354_ tn1355_ tn1360_; have tqz_ := qz41_; first | exact okS_lo (by omega) (by omega) (by omega) | exact okS_or (by omega) (by omega) (by omega) (by omega) | exact okS_sd (by omega) (by omega))), (by have t_c1 := neI c1; have t_c2 := neI c2; have t_c11 := neI c11; have t_c12 := neI c12; have t_hio9 := hio9; have t_c21 := nleI c21; have t_c39 := nleI c39; have tqz_ := qz2_; have tnb_ := nib9 tn1351_ tn1352_ tn1356_ tn1353_ tn1357_ tn1358_ tn1354_ tn1355_ tn1360_; have tqz_ := qz41_; omega)⟩, (by unfold rmS; (try (repeat (first | rw [if_pos (by with_reducible assumption)] | rw [if_neg (by with_reducible assumption)] | rw [if_pos (by (have t_c1 := neI c1; have t_c2 := neI c2; have t_c11 := neI c11; have t_c12 := neI c12; have t_hio9 := hio9; have t_c21 := nleI c21; have t_c39 := nleI c39; have tqz_ := qz2_; have tnb_ := nib9 tn1351_ tn1352_ tn1356_ tn1353_ tn1357_ tn1358_ tn1354_ tn1355_ tn1360_; have tqz_ := qz41_; omega))] | rw [if_neg (by (have t_c1 := neI c1; have t_c2 := neI c2; have t_c11 := neI c11; have t_c12 := neI c12; have t_hio9 := hio9; have t_c21 := nleI c21; have t_c39 := nleI c39; have tqz_ := qz2_; have tnb_ := nib9 tn1351_ tn1352_ tn1356_ tn1353_ tn1357_ tn1358_ tn1354_ tn1355_ tn1360_; have tqz_ := qz41_; omega))] | rw [if_pos (by decide)] | rw [if_neg (by decide)]))); unfold rmA; (try (repeat (first | rw [if_pos (by with_reducible assumption)] | rw [if_neg (by with_reducible assumption)] | rw [if_pos (by (have t_c1 := neI c1; have t_c2 := neI c2; have t_c11 := neI c11; have t_c12 := neI c12; have t_hio9 := hio9; have t_c21 := nleI c21; have t_c39 := nleI c39; have tqz_ := qz2_; have tnb_ := nib9 tn1351_ tn1352_ tn1356_ tn1353_ tn1357_ tn1358_ tn1354_ tn1355_ tn1360_; have tqz_ := qz41_; omega))] | rw [if_neg (by (have t_c1 := neI c1; have t_c2 := neI c2; have t_c11 := neI c11; have t_c12 := neI c12; have t_hio9 := hio9; have t_c21 := nleI c21; have t_c39 := nleI c39; have tqz_ := qz2_; have tnb_ := nib9 tn1351_ tn1352_ tn1356_ tn1353_ tn1357_ tn1358_ tn1354_ tn1355_ tn1360_; have tqz_ := qz41_; omega))] | rw [if_pos (by decide)] | rw [if_neg (by decide)]))); (try rw [ew4]); (try rw [vw14]); (try rw [ew14]); (try rw [vw32]); (try rw [ew32]); (try unfold rmI); (try (repeat (first | rw [if_pos (by with_reducible assumption)] | rw [if_neg (by with_reducible assumption)] | rw [if_pos (by (have t_c1 := neI c1; have t_c2 := neI c2; have t_c11 := neI c11; have t_c12 := neI c12; have t_hio9 := hio9; have t_c21 := nleI c21; have t_c39 := nleI c39; have tqz_ := qz2_; have tnb_ := nib9 tn1351_ tn1352_ tn1356_ tn1353_ tn1357_ tn1358_ tn1354_ tn1355_ tn1360_; have tqz_ := qz41_; omega))] | rw [if_neg (by (have t_c1 := neI c1; have t_c2 := neI c2; have t_c11 := neI c11; have t_c12 := neI c12; have t_hio9 := hio9; have t_c21 := nleI c21; have t_c39 := nleI c39; have tqz_ := qz2_; have tnb_ := nib9 tn1351_ tn1352_ tn1356_ tn1353_ tn1357_ tn1358_ tn1354_ tn1355_ tn1360_; have tqz_ := qz41_; omega))] | rw [if_pos (by decide)] | rw [if_neg (by decide)]))); (try rw [eio9]); (try rw [nI_clamp (by (have t_c1 := neI c1; have t_c2 := neI c2; have t_c11 := neI c11; have t_c12 := neI c12; have t_hio9 := hio9; have t_c21 := nleI c21; have t_c39 := nleI c39; have tqz_ := qz2_; have tnb_ := nib9 tn1351_ tn1352_ tn1356_ tn1353_ tn1357_ tn1358_ tn1354_ tn1355_ tn1360_; have tqz_ := qz41_; omega))]); (try unfold rmX); (try (repeat (first | rw [if_pos (by with_reducible assumption)] | rw [if_neg (by with_reducible assumption)] | rw [if_pos (by (have t_c1 := neI c1; have t_c2 := neI c2; have t_c11 := neI c11; have t_c12 := neI c12; have t_hio9 := hio9; have t_c21 := nleI c21; have t_c39 := nleI c39; have tqz_ := qz2_; have tnb_ := nib9 tn1351_ tn1352_ tn1356_ tn1353_ tn1357_ tn1358_ tn1354_ tn1355_ tn1360_; have tqz_ := qz41_; omega))] | rw [if_neg (by (have t_c1 := neI c1; have t_c2 := neI c2; have t_c11 := neI c11; have t_c12 := neI c12; have t_hio9 := hio9; have t_c21 := nleI c21; have t_c39 := nleI c39; have tqz_ := qz2_; have tnb_ := nib9 tn1351_ tn1352_ tn1356_ tn1353_ tn1357_ tn1358_ tn1354_ tn1355_ tn1360_; have tqz_ := qz41_; omega))] | rw [if_pos (by decide)] | rw [if_neg (by decide)]))); all_goals rfl)⟩, ⟨by rw [ht]; exact hP9, hD9⟩⟩, hS.F ht⟩) hS.2.2 dX11_readMore_218
        · skip
          have t_c1 := neI c1
          have t_c2 := neI c2
          have t_c11 := neI c11
          have t_c12 := eqI c12
          have : (0 : Int32).toInt = 0 := qI_0
          have : (1 : Int32).toInt = 1 := qI_1
          have t_n0 : (nI N).toInt = (N : Int) := tn1351_ ()
          have t_n1 : (nI B).toInt = (B : Int) := tn1352_ ()
          have t_n2 : (nI nrs).toInt = (nrs : Int) := tn1356_ ()
          have t_n3 : (nI T).toInt = (T : Int) := tn1353_ ()
          have t_n4 : (nI nsp).toInt = (nsp : Int) := tn1357_ ()
          have t_n5 : (nI nhe).toInt = (nhe : Int) := tn1358_ ()
          have t_n6 : (nI S).toInt = (S : Int) := tn1354_ ()
          have t_n7 : (nI M).toInt = (M : Int) := tn1355_ ()
          exfalso; omega
      · skip
        have t_c1 := neI c1
        have t_c2 := neI c2
        have t_c11 := eqI c11
        have : (0 : Int32).toInt = 0 := qI_0
        have : (1 : Int32).toInt = 1 := qI_1
        have t_n0 : (nI N).toInt = (N : Int) := tn1351_ ()
        have t_n1 : (nI B).toInt = (B : Int) := tn1352_ ()
        have t_n2 : (nI nrs).toInt = (nrs : Int) := tn1356_ ()
        have t_n3 : (nI T).toInt = (T : Int) := tn1353_ ()
        have t_n4 : (nI nsp).toInt = (nsp : Int) := tn1357_ ()
        have t_n5 : (nI nhe).toInt = (nhe : Int) := tn1358_ ()
        have t_n6 : (nI S).toInt = (S : Int) := tn1354_ ()
        have t_n7 : (nI M).toInt = (M : Int) := tn1355_ ()
        exfalso; omega
    · skip
      refine lv_aload_n hx hb dX11_readMore_23 rfl (lv_at hl 0 rfl) ?_
      refine va_get (D := (dC, dI)) (ci := 11) (v := .int vhs) (C := RX11) (T := TX11) (N := 35) hx hb hg inG11 hown hK.1 hP 0 rfl rfl 6 (Nat.le_of_ble_eq_true rfl) (hg _ wt_884) (fun _ h9 => h9) rfl dX11_readMore_24 ?_
      refine lv_if_eq (tgt := 35) hx hb dX11_readMore_27 rfl (fun c40 => ?_) (fun c40 => ?_)
      · skip
        refine lv_aload_n hx hb dX11_readMore_35 rfl (lv_at hl 0 rfl) ?_
        obtain ⟨hPc, hDc, hFc⟩ := va_sub3 (ws' := [(h0, .inr (11, [.ref st, .int (nI N), .int (nI B), .ref rp, .int (nI nrs), .int vrb, .int vhs, .int vca, .int vxs, .int vxb, .ref tp, .int (nI T), .int vfa, .int vbr, .int vba, .int (nI nsp), .int (nI nhe), .int vtk, .int vva, .ref cu, .ref lt, .ref od, .ref th, .ref be, .ref ln, .int (nI S), .ref ma, .int (nI M), .ref ah, .ref bh, .ref ik, .ref la, .ref lg, .ref ce, .int vto])), (tp, .inl (G 0, 320, .inl ftp))]) hP hD hS hA [0, 1] (by decide) rfl
        have tn1361_ : nIT nrs := fun _ => nI_toInt (by first | omega | (have t_c1 := neI c1; have t_c2 := eqI c2; have t_c40 := eqI c40; have tqz_ := qz2_; omega))
        have tn1362_ : nIT nsp := fun _ => nI_toInt (by first | omega | (have t_c1 := neI c1; have t_c2 := eqI c2; have t_c40 := eqI c40; have tqz_ := qz2_; omega))
        have tn1363_ : nIT nhe := fun _ => nI_toInt (by first | omega | (have t_c1 := neI c1; have t_c2 := eqI c2; have t_c40 := eqI c40; have tqz_ := qz2_; omega))
        refine va_callv (va_runV (As := []) (rest := []) ⟨hx, hb, hml, hown, hg⟩ (c_X11_goesOnE l dC dI G _ h0 st N B rp tp T nsp nhe cu lt od th be ln S ma M ah bh ik la lg ce (nI nrs) vrb vhs vca vxs vxb vfa vbr vba vtk vva vto ftp hN hB_ hT_ hS0 hM_ hbr hsp (by have t_c1 := neI c1; have t_c2 := eqI c2; have t_c40 := eqI c40; have tqz_ := qz2_; have tnb_ := nib8 tn1351_ tn1352_ tn1361_ tn1353_ tn1362_ tn1363_ tn1354_ tn1355_; have tqz_ := qz41_; omega) htb) (kwV hg mfX11_goesOn wt_999 ⟨Nat.le_of_ble_eq_true rfl, Nat.le_of_ble_eq_true rfl⟩) (preVW hK hPc hDc (ci := 11) (r := (RX11, TX11, 35)) rfl rfl) rfl rfl hl.1 rfl (lv_room (Nat.le_of_ble_eq_true rfl)) dX11_readMore_36 ⟨Nat.le_of_ble_eq_true rfl, Nat.le_of_ble_eq_true rfl⟩) hS (fun q _ h => hFc q h) hFc (fun ur41 t H1 locs ht hvm w42 hB hz1 hk1 hS => ?_)
        obtain ⟨u43, u44, u45, u46, u47, u48⟩ := ur41
        obtain ⟨hP1, hD1⟩ := hB
        rw [ht] at hP1
        obtain ⟨hP, hD⟩ := va_join (wr := [(rp, .inl (G 0, 49, .inl frp))]) (w1 := [(h0, .inr (11, [.ref st, .int (nI N), .int (nI B), .ref rp, .int (nI nrs), .int vrb, .int vhs, .int vca, .int vxs, .int vxb, .ref tp, .int (nI T), .int vfa, .int u43, .int u44, .int (nI u45), .int (nI u46), .int u47, .int u48, .ref cu, .ref lt, .ref od, .ref th, .ref be, .ref ln, .int (nI S), .ref ma, .int (nI M), .ref ah, .ref bh, .ref ik, .ref la, .ref lg, .ref ce, .int vto])), (tp, .inl (G 0, 320, .inl ftp))]) hP hD [0, 1] [2] rfl rfl (by decide) (by decide) hk1 hFc hP1 hD1
        have w42 : 0 ≤ u43.toInt ∧ (vbr.toInt = 0 ∨ u43.toInt = vbr.toInt) ∧ nsp ≤ u45 ∧ u45 ≤ T ∧ u46 ≤ u45 ∧ (0 < vbr.toInt ∨ u47.toInt = 0 ∨ nsp < u45) ∧ (u43, u44, u45, u46, u47, u48) = gOn ftp T vbr vba nsp nhe vtk vva := w42
        generalize H1 = H at hP hS ⊢
        have ew42 : gT ftp T (vbr, vba, nsp, nhe, vtk, vva) = (u43, u44, u45, u46, u47, u48) := w42.2.2.2.2.2.2.symm
        refine lv_iload_n hx hb dX11_readMore_39 rfl (lv_at hl 1 rfl) ?_
        refine lv_if_ne (tgt := 68) hx hb dX11_readMore_40 rfl (fun c49 => ?_) (fun c49 => ?_)
        · skip
          have t_c1 := neI c1
          have t_c2 := eqI c2
          have t_c40 := eqI c40
          have t_c49 := neI c49
          have : (0 : Int32).toInt = 0 := qI_0
          have : (1 : Int32).toInt = 1 := qI_1
          have t_n0 : (nI N).toInt = (N : Int) := tn1351_ ()
          have t_n1 : (nI B).toInt = (B : Int) := tn1352_ ()
          have t_n2 : (nI nrs).toInt = (nrs : Int) := tn1361_ ()
          have t_n3 : (nI T).toInt = (T : Int) := tn1353_ ()
          have t_n4 : (nI nsp).toInt = (nsp : Int) := tn1362_ ()
          have t_n5 : (nI nhe).toInt = (nhe : Int) := tn1363_ ()
          have t_n6 : (nI S).toInt = (S : Int) := tn1354_ ()
          have t_n7 : (nI M).toInt = (M : Int) := tn1355_ ()
          exfalso; omega
        · skip
          refine lv_aload_n hx hb dX11_readMore_43 rfl (lv_at hl 0 rfl) ?_
          refine lv_iconst (v := 1) hx hb dX11_readMore_44 rfl ?_
          refine va_put (D := (dC, dI)) (ci := 11) (v := .int 1) (ty := .boolean) (C := RX11) (T := TX11) (N := 35) hx hb hg inG11 tyX11 tyX11_ok nmX11 hown hK.1 hP hD hS 1 rfl rfl 6 (Nat.le_of_ble_eq_true rfl) (hg _ wt_884) (fun _ h9 => h9) rfl (by decide +kernel) rfl rfl (Nat.le_of_ble_eq_true rfl) dX11_readMore_45 (fun H locs hP hD hS => ?_)
          refine lv_aload_n hx hb dX11_readMore_48 rfl (lv_at hl 0 rfl) ?_
          refine va_get (D := (dC, dI)) (ci := 11) (v := .ref rp) (C := RX11) (T := TX11) (N := 35) hx hb hg inG11 hown hK.1 hP 1 rfl rfl 3 (Nat.le_of_ble_eq_true rfl) (hg _ wt_881) (fun _ h9 => h9) rfl dX11_readMore_49 ?_
          refine lv_bipush (v := 48) hx hb dX11_readMore_52 rfl ?_
          refine lv_aload_n hx hb dX11_readMore_54 rfl (lv_at hl 0 rfl) ?_
          refine lv_iconst (v := 1) hx hb dX11_readMore_55 rfl ?_
          refine lv_bipush (v := 9) hx hb dX11_readMore_56 rfl ?_
          refine lv_iconst (v := 0) hx hb dX11_readMore_58 rfl ?_
          obtain ⟨hPc, hDc, hFc⟩ := va_sub3 (ws' := [(h0, .inr (11, [.ref st, .int (nI N), .int (nI B), .ref rp, .int (nI nrs), .int vrb, .int 1, .int vca, .int vxs, .int vxb, .ref tp, .int (nI T), .int vfa, .int u43, .int u44, .int (nI u45), .int (nI u46), .int u47, .int u48, .ref cu, .ref lt, .ref od, .ref th, .ref be, .ref ln, .int (nI S), .ref ma, .int (nI M), .ref ah, .ref bh, .ref ik, .ref la, .ref lg, .ref ce, .int vto])), (tp, .inl (G 0, 320, .inl ftp))]) hP hD hS hA [1, 2] (by decide) rfl
          refine va_calli (va_runV (As := [.int 1, .int 9, .int 0]) (rest := [.int 48, .ref rp]) ⟨hx, hb, hml, hown, hg⟩ (c_X11_otherE l dC dI G _ h0 st N B rp tp T u45 u46 cu lt od th be ln S ma M ah bh ik la lg ce 1 9 0 (nI nrs) vrb 1 vca vxs vxb vfa u43 u44 u47 u48 vto ftp hN hB_ hT_ hS0 hM_ (by have t_c1 := neI c1; have t_c2 := eqI c2; have t_c40 := eqI c40; have t_c49 := eqI c49; have tqz_ := qz2_; have tnb_ := nib8 tn1351_ tn1352_ tn1361_ tn1353_ tn1362_ tn1363_ tn1354_ tn1355_; have tqz_ := qz41_; omega) (by first | omega | (have t_c1 := neI c1; have t_c2 := eqI c2; have t_c40 := eqI c40; have t_c49 := eqI c49; have tqz_ := qz2_; have tnb_ := nib8 tn1351_ tn1352_ tn1361_ tn1353_ tn1362_ tn1363_ tn1354_ tn1355_; have tqz_ := qz41_; omega)) (by first | omega | (have t_c1 := neI c1; have t_c2 := eqI c2; have t_c40 := eqI c40; have t_c49 := eqI c49; have tqz_ := qz2_; have tnb_ := nib8 tn1351_ tn1352_ tn1361_ tn1353_ tn1362_ tn1363_ tn1354_ tn1355_; have tqz_ := qz41_; omega)) (by have t_c1 := neI c1; have t_c2 := eqI c2; have t_c40 := eqI c40; have t_c49 := eqI c49; have tqz_ := qz2_; have tnb_ := nib8 tn1351_ tn1352_ tn1361_ tn1353_ tn1362_ tn1363_ tn1354_ tn1355_; have tqz_ := qz41_; omega) htb) (kwV hg mfX11_other wt_1028 ⟨Nat.le_of_ble_eq_true rfl, Nat.le_of_ble_eq_true rfl⟩) (preVW hK hPc hDc (ci := 11) (r := (RX11, TX11, 35)) rfl rfl) rfl rfl hl.1 rfl (lv_room (Nat.le_of_ble_eq_true rfl)) dX11_readMore_59 ⟨Nat.le_of_ble_eq_true rfl, Nat.le_of_ble_eq_true rfl⟩) hS (fun q _ h => hFc q h) hFc (fun r50 ur50 t H1 locs ht hvm w51 hB hz1 hk1 hS => ?_)
          obtain ⟨u52, u53, u54, u55, u56, u57⟩ := ur50
          obtain ⟨hP1, hD1⟩ := hB
          rw [ht] at hP1
          obtain ⟨hP, hD⟩ := va_join (wr := [(rp, .inl (G 0, 49, .inl frp))]) (w1 := [(h0, .inr (11, [.ref st, .int (nI N), .int (nI B), .ref rp, .int (nI nrs), .int vrb, .int 1, .int vca, .int vxs, .int vxb, .ref tp, .int (nI T), .int vfa, .int u52, .int u53, .int (nI u54), .int (nI u55), .int u56, .int u57, .ref cu, .ref lt, .ref od, .ref th, .ref be, .ref ln, .int (nI S), .ref ma, .int (nI M), .ref ah, .ref bh, .ref ik, .ref la, .ref lg, .ref ce, .int vto])), (tp, .inl (G 0, 320, .inl ftp))]) hP hD [1, 2] [0] rfl rfl (by decide) (by decide) hk1 hFc hP1 hD1
          generalize H1 = H at hP hS ⊢
          obtain ⟨w51, w51x⟩ := w51
          have vw51 : oV 1 9 0 (u43, u44, u45, u46, u47, u48) = r50 := w51.2.symm
          have ew51 : oS ftp T 1 9 0 (u43, u44, u45, u46, u47, u48) = (u52, u53, u54, u55, u56, u57) := w51x.2.2.2.2.2.2.symm
          refine lv_iconst (v := 5) hx hb dX11_readMore_62 rfl ?_
          refine lv_isub hx hb dX11_readMore_63 ?_
          refine va_iast hx hb hK.1 hP hD hS 0 0 rfl rfl (vp_in_iff.mpr ⟨by decide, by decide⟩) dX11_readMore_64 (fun H locs hP hD hS => ?_)
          refine lv_goto (tgt := 218) hx hb dX11_readMore_65 rfl ?_
          obtain ⟨hP9, hD9⟩ := va_sub2 (ws' := [(h0, .inr (11, [.ref st, .int (nI N), .int (nI B), .ref rp, .int (nI nrs), .int vrb, .int 1, .int vca, .int vxs, .int vxb, .ref tp, .int (nI T), .int vfa, .int u52, .int u53, .int (nI u54), .int (nI u55), .int u56, .int u57, .ref cu, .ref lt, .ref od, .ref th, .ref be, .ref ln, .int (nI S), .ref ma, .int (nI M), .ref ah, .ref bh, .ref ik, .ref la, .ref lg, .ref ce, .int vto])), (tp, .inl (G 0, 320, .inl ftp)), (rp, .inl (G 0, 49, .inl (upd frp 48 (r50 - 5))))]) hP hD [1, 2, 0] (by decide) rfl
          refine W.widen (k := 0) (n := 0) (Nat.le_of_ble_eq_true rfl) (Nat.le_of_ble_eq_true rfl) ?_
          exact W.vret hx hb hr (fun t ht hW => ⟨⟨(u52, u53, u54, u55, u56, u57, nrs, 1, vca, vxs, vxb, (upd frp 48 (r50 - 5))), rfl, ⟨⟨(OKP.upd hrp (by have t_c1 := neI c1; have t_c2 := eqI c2; have t_c40 := eqI c40; have t_c49 := eqI c49; have tqz_ := qz2_; have tnb_ := nib8 tn1351_ tn1352_ tn1361_ tn1353_ tn1362_ tn1363_ tn1354_ tn1355_; have tqz_ := qz41_; first | exact okS_lo (by omega) (by omega) (by omega) | exact okS_or (by omega) (by omega) (by omega) (by omega) | exact okS_sd (by omega) (by omega))), (by have t_c1 := neI c1; have t_c2 := eqI c2; have t_c40 := eqI c40; have t_c49 := eqI c49; have tqz_ := qz2_; have tnb_ := nib8 tn1351_ tn1352_ tn1361_ tn1353_ tn1362_ tn1363_ tn1354_ tn1355_; have tqz_ := qz41_; omega)⟩, (by unfold rmS; (try (repeat (first | rw [if_pos (by with_reducible assumption)] | rw [if_neg (by with_reducible assumption)] | rw [if_pos (by (have t_c1 := neI c1; have t_c2 := eqI c2; have t_c40 := eqI c40; have t_c49 := eqI c49; have tqz_ := qz2_; have tnb_ := nib8 tn1351_ tn1352_ tn1361_ tn1353_ tn1362_ tn1363_ tn1354_ tn1355_; have tqz_ := qz41_; omega))] | rw [if_neg (by (have t_c1 := neI c1; have t_c2 := eqI c2; have t_c40 := eqI c40; have t_c49 := eqI c49; have tqz_ := qz2_; have tnb_ := nib8 tn1351_ tn1352_ tn1361_ tn1353_ tn1362_ tn1363_ tn1354_ tn1355_; have tqz_ := qz41_; omega))] | rw [if_pos (by decide)] | rw [if_neg (by decide)]))); unfold rmA; (try (repeat (first | rw [if_pos (by with_reducible assumption)] | rw [if_neg (by with_reducible assumption)] | rw [if_pos (by (have t_c1 := neI c1; have t_c2 := eqI c2; have t_c40 := eqI c40; have t_c49 := eqI c49; have tqz_ := qz2_; have tnb_ := nib8 tn1351_ tn1352_ tn1361_ tn1353_ tn1362_ tn1363_ tn1354_ tn1355_; have tqz_ := qz41_; omega))] | rw [if_neg (by (have t_c1 := neI c1; have t_c2 := eqI c2; have t_c40 := eqI c40; have t_c49 := eqI c49; have tqz_ := qz2_; have tnb_ := nib8 tn1351_ tn1352_ tn1361_ tn1353_ tn1362_ tn1363_ tn1354_ tn1355_; have tqz_ := qz41_; omega))] | rw [if_pos (by decide)] | rw [if_neg (by decide)]))); (try rw [ew42]); (try rw [vw51]); (try rw [ew51]); (try unfold rmI); (try (repeat (first | rw [if_pos (by with_reducible assumption)] | rw [if_neg (by with_reducible assumption)] | rw [if_pos (by (have t_c1 := neI c1; have t_c2 := eqI c2; have t_c40 := eqI c40; have t_c49 := eqI c49; have tqz_ := qz2_; have tnb_ := nib8 tn1351_ tn1352_ tn1361_ tn1353_ tn1362_ tn1363_ tn1354_ tn1355_; have tqz_ := qz41_; omega))] | rw [if_neg (by (have t_c1 := neI c1; have t_c2 := eqI c2; have t_c40 := eqI c40; have t_c49 := eqI c49; have tqz_ := qz2_; have tnb_ := nib8 tn1351_ tn1352_ tn1361_ tn1353_ tn1362_ tn1363_ tn1354_ tn1355_; have tqz_ := qz41_; omega))] | rw [if_pos (by decide)] | rw [if_neg (by decide)]))); (try rw [eio9]); (try rw [nI_clamp (by (have t_c1 := neI c1; have t_c2 := eqI c2; have t_c40 := eqI c40; have t_c49 := eqI c49; have tqz_ := qz2_; have tnb_ := nib8 tn1351_ tn1352_ tn1361_ tn1353_ tn1362_ tn1363_ tn1354_ tn1355_; have tqz_ := qz41_; omega))]); (try unfold rmX); (try (repeat (first | rw [if_pos (by with_reducible assumption)] | rw [if_neg (by with_reducible assumption)] | rw [if_pos (by (have t_c1 := neI c1; have t_c2 := eqI c2; have t_c40 := eqI c40; have t_c49 := eqI c49; have tqz_ := qz2_; have tnb_ := nib8 tn1351_ tn1352_ tn1361_ tn1353_ tn1362_ tn1363_ tn1354_ tn1355_; have tqz_ := qz41_; omega))] | rw [if_neg (by (have t_c1 := neI c1; have t_c2 := eqI c2; have t_c40 := eqI c40; have t_c49 := eqI c49; have tqz_ := qz2_; have tnb_ := nib8 tn1351_ tn1352_ tn1361_ tn1353_ tn1362_ tn1363_ tn1354_ tn1355_; have tqz_ := qz41_; omega))] | rw [if_pos (by decide)] | rw [if_neg (by decide)]))); all_goals rfl)⟩, ⟨by rw [ht]; exact hP9, hD9⟩⟩, hS.F ht⟩) hS.2.2 dX11_readMore_218
      · skip
        refine lv_aload_n hx hb dX11_readMore_30 rfl (lv_at hl 0 rfl) ?_
        refine lv_iconst (v := 4) hx hb dX11_readMore_31 rfl ?_
        obtain ⟨hPc, hDc, hFc⟩ := va_sub3 (ws' := [(h0, .inr (11, [.ref st, .int (nI N), .int (nI B), .ref rp, .int (nI nrs), .int vrb, .int vhs, .int vca, .int vxs, .int vxb, .ref tp, .int (nI T), .int vfa, .int vbr, .int vba, .int (nI nsp), .int (nI nhe), .int vtk, .int vva, .ref cu, .ref lt, .ref od, .ref th, .ref be, .ref ln, .int (nI S), .ref ma, .int (nI M), .ref ah, .ref bh, .ref ik, .ref la, .ref lg, .ref ce, .int vto]))]) hP hD hS hA [0] (by decide) rfl
        have tn1364_ : nIT nrs := fun _ => nI_toInt (by first | omega | (have t_c1 := neI c1; have t_c2 := eqI c2; have t_c40 := neI c40; have tqz_ := qz2_; omega))
        have tn1365_ : nIT nsp := fun _ => nI_toInt (by first | omega | (have t_c1 := neI c1; have t_c2 := eqI c2; have t_c40 := neI c40; have tqz_ := qz2_; omega))
        have tn1366_ : nIT nhe := fun _ => nI_toInt (by first | omega | (have t_c1 := neI c1; have t_c2 := eqI c2; have t_c40 := neI c40; have tqz_ := qz2_; omega))
        refine va_callv (va_runV (As := [.int 4]) (rest := []) ⟨hx, hb, hml, hown, hg⟩ (c_X11_failsE l dC dI G _ h0 st N B rp tp T nhe cu lt od th be ln S ma M ah bh ik la lg ce 4 (nI nrs) vrb vhs vca vxs vxb vfa vbr vba (nI nsp) vtk vva vto hN hB_ hT_ hS0 hM_ (by have t_c1 := neI c1; have t_c2 := eqI c2; have t_c40 := neI c40; have tqz_ := qz2_; have tnb_ := nib8 tn1351_ tn1352_ tn1364_ tn1353_ tn1365_ tn1366_ tn1354_ tn1355_; have tqz_ := qz45_; omega) hbr (by first | omega | (have t_c1 := neI c1; have t_c2 := eqI c2; have t_c40 := neI c40; have tqz_ := qz2_; have tnb_ := nib8 tn1351_ tn1352_ tn1364_ tn1353_ tn1365_ tn1366_ tn1354_ tn1355_; have tqz_ := qz45_; omega))) (kwV hg mfX11_fails wt_1011 ⟨Nat.le_of_ble_eq_true rfl, Nat.le_of_ble_eq_true rfl⟩) (preVW hK hPc hDc (ci := 11) (r := (RX11, TX11, 35)) rfl rfl) rfl rfl hl.1 rfl (lv_room (Nat.le_of_ble_eq_true rfl)) dX11_readMore_32 ⟨Nat.le_of_ble_eq_true rfl, Nat.le_of_ble_eq_true rfl⟩) hS (fun q _ h => hFc q h) hFc (fun ur58 t H1 locs ht hvm w59 hB hz1 hk1 hS => ?_)
        obtain ⟨u60, u61⟩ := ur58
        obtain ⟨hP1, hD1⟩ := hB
        rw [ht] at hP1
        obtain ⟨hP, hD⟩ := va_join (wr := [(tp, .inl (G 0, 320, .inl ftp)), (rp, .inl (G 0, 49, .inl frp))]) (w1 := [(h0, .inr (11, [.ref st, .int (nI N), .int (nI B), .ref rp, .int (nI nrs), .int vrb, .int vhs, .int vca, .int vxs, .int vxb, .ref tp, .int (nI T), .int vfa, .int u60, .int u61, .int (nI nsp), .int (nI nhe), .int vtk, .int vva, .ref cu, .ref lt, .ref od, .ref th, .ref be, .ref ln, .int (nI S), .ref ma, .int (nI M), .ref ah, .ref bh, .ref ik, .ref la, .ref lg, .ref ce, .int vto]))]) hP hD [0] [1, 2] rfl rfl (by decide) (by decide) hk1 hFc hP1 hD1
        have w59 : 0 < u60.toInt ∧ u60 = flB (4 : Int32) vbr ∧ u61 = flA vbr vba nhe := w59
        generalize H1 = H at hP hS ⊢
        have ew59 : fT 4 (vbr, vba, nsp, nhe, vtk, vva) = (u60, u61, nsp, nhe, vtk, vva) := (by show (flB _ _, flA _ _ _, _, _, _, _) = _; rw [← w59.2.1, ← w59.2.2])
        refine lv_aload_n hx hb dX11_readMore_35 rfl (lv_at hl 0 rfl) ?_
        obtain ⟨hPc, hDc, hFc⟩ := va_sub3 (ws' := [(h0, .inr (11, [.ref st, .int (nI N), .int (nI B), .ref rp, .int (nI nrs), .int vrb, .int vhs, .int vca, .int vxs, .int vxb, .ref tp, .int (nI T), .int vfa, .int u60, .int u61, .int (nI nsp), .int (nI nhe), .int vtk, .int vva, .ref cu, .ref lt, .ref od, .ref th, .ref be, .ref ln, .int (nI S), .ref ma, .int (nI M), .ref ah, .ref bh, .ref ik, .ref la, .ref lg, .ref ce, .int vto])), (tp, .inl (G 0, 320, .inl ftp))]) hP hD hS hA [2, 0] (by decide) rfl
        refine va_callv (va_runV (As := []) (rest := []) ⟨hx, hb, hml, hown, hg⟩ (c_X11_goesOnE l dC dI G _ h0 st N B rp tp T nsp nhe cu lt od th be ln S ma M ah bh ik la lg ce (nI nrs) vrb vhs vca vxs vxb vfa u60 u61 vtk vva vto ftp hN hB_ hT_ hS0 hM_ (by have t_c1 := neI c1; have t_c2 := eqI c2; have t_c40 := neI c40; have t_w59 := w59.1; have tqz_ := qz2_; have tnb_ := nib8 tn1351_ tn1352_ tn1364_ tn1353_ tn1365_ tn1366_ tn1354_ tn1355_; have tqz_ := qz41_; omega) hsp (by have t_c1 := neI c1; have t_c2 := eqI c2; have t_c40 := neI c40; have t_w59 := w59.1; have tqz_ := qz2_; have tnb_ := nib8 tn1351_ tn1352_ tn1364_ tn1353_ tn1365_ tn1366_ tn1354_ tn1355_; have tqz_ := qz41_; omega) htb) (kwV hg mfX11_goesOn wt_999 ⟨Nat.le_of_ble_eq_true rfl, Nat.le_of_ble_eq_true rfl⟩) (preVW hK hPc hDc (ci := 11) (r := (RX11, TX11, 35)) rfl rfl) rfl rfl hl.1 rfl (lv_room (Nat.le_of_ble_eq_true rfl)) dX11_readMore_36 ⟨Nat.le_of_ble_eq_true rfl, Nat.le_of_ble_eq_true rfl⟩) hS (fun q _ h => hFc q h) hFc (fun ur62 t H1 locs ht hvm w63 hB hz1 hk1 hS => ?_)
        obtain ⟨u64, u65, u66, u67, u68, u69⟩ := ur62
        obtain ⟨hP1, hD1⟩ := hB
        rw [ht] at hP1
        obtain ⟨hP, hD⟩ := va_join (wr := [(rp, .inl (G 0, 49, .inl frp))]) (w1 := [(h0, .inr (11, [.ref st, .int (nI N), .int (nI B), .ref rp, .int (nI nrs), .int vrb, .int vhs, .int vca, .int vxs, .int vxb, .ref tp, .int (nI T), .int vfa, .int u64, .int u65, .int (nI u66), .int (nI u67), .int u68, .int u69, .ref cu, .ref lt, .ref od, .ref th, .ref be, .ref ln, .int (nI S), .ref ma, .int (nI M), .ref ah, .ref bh, .ref ik, .ref la, .ref lg, .ref ce, .int vto])), (tp, .inl (G 0, 320, .inl ftp))]) hP hD [2, 0] [1] rfl rfl (by decide) (by decide) hk1 hFc hP1 hD1
        have w63 : 0 ≤ u64.toInt ∧ (u60.toInt = 0 ∨ u64.toInt = u60.toInt) ∧ nsp ≤ u66 ∧ u66 ≤ T ∧ u67 ≤ u66 ∧ (0 < u60.toInt ∨ u68.toInt = 0 ∨ nsp < u66) ∧ (u64, u65, u66, u67, u68, u69) = gOn ftp T u60 u61 nsp nhe vtk vva := w63
        generalize H1 = H at hP hS ⊢
        have ew63 : gT ftp T (u60, u61, nsp, nhe, vtk, vva) = (u64, u65, u66, u67, u68, u69) := w63.2.2.2.2.2.2.symm
        refine lv_iload_n hx hb dX11_readMore_39 rfl (lv_at hl 1 rfl) ?_
        refine lv_if_ne (tgt := 68) hx hb dX11_readMore_40 rfl (fun c70 => ?_) (fun c70 => ?_)
        · skip
          have t_c1 := neI c1
          have t_c2 := eqI c2
          have t_c40 := neI c40
          have t_w59 := w59.1
          have t_c70 := neI c70
          have : (0 : Int32).toInt = 0 := qI_0
          have : (1 : Int32).toInt = 1 := qI_1
          have t_n0 : (nI N).toInt = (N : Int) := tn1351_ ()
          have t_n1 : (nI B).toInt = (B : Int) := tn1352_ ()
          have t_n2 : (nI nrs).toInt = (nrs : Int) := tn1364_ ()
          have t_n3 : (nI T).toInt = (T : Int) := tn1353_ ()
          have t_n4 : (nI nsp).toInt = (nsp : Int) := tn1365_ ()
          have t_n5 : (nI nhe).toInt = (nhe : Int) := tn1366_ ()
          have t_n6 : (nI S).toInt = (S : Int) := tn1354_ ()
          have t_n7 : (nI M).toInt = (M : Int) := tn1355_ ()
          exfalso; omega
        · skip
          refine lv_aload_n hx hb dX11_readMore_43 rfl (lv_at hl 0 rfl) ?_
          refine lv_iconst (v := 1) hx hb dX11_readMore_44 rfl ?_
          refine va_put (D := (dC, dI)) (ci := 11) (v := .int 1) (ty := .boolean) (C := RX11) (T := TX11) (N := 35) hx hb hg inG11 tyX11 tyX11_ok nmX11 hown hK.1 hP hD hS 1 rfl rfl 6 (Nat.le_of_ble_eq_true rfl) (hg _ wt_884) (fun _ h9 => h9) rfl (by decide +kernel) rfl rfl (Nat.le_of_ble_eq_true rfl) dX11_readMore_45 (fun H locs hP hD hS => ?_)
          refine lv_aload_n hx hb dX11_readMore_48 rfl (lv_at hl 0 rfl) ?_
          refine va_get (D := (dC, dI)) (ci := 11) (v := .ref rp) (C := RX11) (T := TX11) (N := 35) hx hb hg inG11 hown hK.1 hP 1 rfl rfl 3 (Nat.le_of_ble_eq_true rfl) (hg _ wt_881) (fun _ h9 => h9) rfl dX11_readMore_49 ?_
          refine lv_bipush (v := 48) hx hb dX11_readMore_52 rfl ?_
          refine lv_aload_n hx hb dX11_readMore_54 rfl (lv_at hl 0 rfl) ?_
          refine lv_iconst (v := 1) hx hb dX11_readMore_55 rfl ?_
          refine lv_bipush (v := 9) hx hb dX11_readMore_56 rfl ?_
          refine lv_iconst (v := 0) hx hb dX11_readMore_58 rfl ?_
          obtain ⟨hPc, hDc, hFc⟩ := va_sub3 (ws' := [(h0, .inr (11, [.ref st, .int (nI N), .int (nI B), .ref rp, .int (nI nrs), .int vrb, .int 1, .int vca, .int vxs, .int vxb, .ref tp, .int (nI T), .int vfa, .int u64, .int u65, .int (nI u66), .int (nI u67), .int u68, .int u69, .ref cu, .ref lt, .ref od, .ref th, .ref be, .ref ln, .int (nI S), .ref ma, .int (nI M), .ref ah, .ref bh, .ref ik, .ref la, .ref lg, .ref ce, .int vto])), (tp, .inl (G 0, 320, .inl ftp))]) hP hD hS hA [1, 2] (by decide) rfl
          refine va_calli (va_runV (As := [.int 1, .int 9, .int 0]) (rest := [.int 48, .ref rp]) ⟨hx, hb, hml, hown, hg⟩ (c_X11_otherE l dC dI G _ h0 st N B rp tp T u66 u67 cu lt od th be ln S ma M ah bh ik la lg ce 1 9 0 (nI nrs) vrb 1 vca vxs vxb vfa u64 u65 u68 u69 vto ftp hN hB_ hT_ hS0 hM_ (by have t_c1 := neI c1; have t_c2 := eqI c2; have t_c40 := neI c40; have t_w59 := w59.1; have t_c70 := eqI c70; have tqz_ := qz2_; have tnb_ := nib8 tn1351_ tn1352_ tn1364_ tn1353_ tn1365_ tn1366_ tn1354_ tn1355_; have tqz_ := qz41_; omega) (by first | omega | (have t_c1 := neI c1; have t_c2 := eqI c2; have t_c40 := neI c40; have t_w59 := w59.1; have t_c70 := eqI c70; have tqz_ := qz2_; have tnb_ := nib8 tn1351_ tn1352_ tn1364_ tn1353_ tn1365_ tn1366_ tn1354_ tn1355_; have tqz_ := qz41_; omega)) (by first | omega | (have t_c1 := neI c1; have t_c2 := eqI c2; have t_c40 := neI c40; have t_w59 := w59.1; have t_c70 := eqI c70; have tqz_ := qz2_; have tnb_ := nib8 tn1351_ tn1352_ tn1364_ tn1353_ tn1365_ tn1366_ tn1354_ tn1355_; have tqz_ := qz41_; omega)) (by have t_c1 := neI c1; have t_c2 := eqI c2; have t_c40 := neI c40; have t_w59 := w59.1; have t_c70 := eqI c70; have tqz_ := qz2_; have tnb_ := nib8 tn1351_ tn1352_ tn1364_ tn1353_ tn1365_ tn1366_ tn1354_ tn1355_; have tqz_ := qz41_; omega) htb) (kwV hg mfX11_other wt_1028 ⟨Nat.le_of_ble_eq_true rfl, Nat.le_of_ble_eq_true rfl⟩) (preVW hK hPc hDc (ci := 11) (r := (RX11, TX11, 35)) rfl rfl) rfl rfl hl.1 rfl (lv_room (Nat.le_of_ble_eq_true rfl)) dX11_readMore_59 ⟨Nat.le_of_ble_eq_true rfl, Nat.le_of_ble_eq_true rfl⟩) hS (fun q _ h => hFc q h) hFc (fun r71 ur71 t H1 locs ht hvm w72 hB hz1 hk1 hS => ?_)
          obtain ⟨u73, u74, u75, u76, u77, u78⟩ := ur71
          obtain ⟨hP1, hD1⟩ := hB
          rw [ht] at hP1
          obtain ⟨hP, hD⟩ := va_join (wr := [(rp, .inl (G 0, 49, .inl frp))]) (w1 := [(h0, .inr (11, [.ref st, .int (nI N), .int (nI B), .ref rp, .int (nI nrs), .int vrb, .int 1, .int vca, .int vxs, .int vxb, .ref tp, .int (nI T), .int vfa, .int u73, .int u74, .int (nI u75), .int (nI u76), .int u77, .int u78, .ref cu, .ref lt, .ref od, .ref th, .ref be, .ref ln, .int (nI S), .ref ma, .int (nI M), .ref ah, .ref bh, .ref ik, .ref la, .ref lg, .ref ce, .int vto])), (tp, .inl (G 0, 320, .inl ftp))]) hP hD [1, 2] [0] rfl rfl (by decide) (by decide) hk1 hFc hP1 hD1
          generalize H1 = H at hP hS ⊢
          obtain ⟨w72, w72x⟩ := w72
          have vw72 : oV 1 9 0 (u64, u65, u66, u67, u68, u69) = r71 := w72.2.symm
          have ew72 : oS ftp T 1 9 0 (u64, u65, u66, u67, u68, u69) = (u73, u74, u75, u76, u77, u78) := w72x.2.2.2.2.2.2.symm
          refine lv_iconst (v := 5) hx hb dX11_readMore_62 rfl ?_
          refine lv_isub hx hb dX11_readMore_63 ?_
          refine va_iast hx hb hK.1 hP hD hS 0 0 rfl rfl (vp_in_iff.mpr ⟨by decide, by decide⟩) dX11_readMore_64 (fun H locs hP hD hS => ?_)
          refine lv_goto (tgt := 218) hx hb dX11_readMore_65 rfl ?_
          obtain ⟨hP9, hD9⟩ := va_sub2 (ws' := [(h0, .inr (11, [.ref st, .int (nI N), .int (nI B), .ref rp, .int (nI nrs), .int vrb, .int 1, .int vca, .int vxs, .int vxb, .ref tp, .int (nI T), .int vfa, .int u73, .int u74, .int (nI u75), .int (nI u76), .int u77, .int u78, .ref cu, .ref lt, .ref od, .ref th, .ref be, .ref ln, .int (nI S), .ref ma, .int (nI M), .ref ah, .ref bh, .ref ik, .ref la, .ref lg, .ref ce, .int vto])), (tp, .inl (G 0, 320, .inl ftp)), (rp, .inl (G 0, 49, .inl (upd frp 48 (r71 - 5))))]) hP hD [1, 2, 0] (by decide) rfl
          refine W.widen (k := 0) (n := 0) (Nat.le_of_ble_eq_true rfl) (Nat.le_of_ble_eq_true rfl) ?_
          exact W.vret hx hb hr (fun t ht hW => ⟨⟨(u73, u74, u75, u76, u77, u78, nrs, 1, vca, vxs, vxb, (upd frp 48 (r71 - 5))), rfl, ⟨⟨(OKP.upd hrp (by have t_c1 := neI c1; have t_c2 := eqI c2; have t_c40 := neI c40; have t_w59 := w59.1; have t_c70 := eqI c70; have tqz_ := qz2_; have tnb_ := nib8 tn1351_ tn1352_ tn1364_ tn1353_ tn1365_ tn1366_ tn1354_ tn1355_; have tqz_ := qz41_; first | exact okS_lo (by omega) (by omega) (by omega) | exact okS_or (by omega) (by omega) (by omega) (by omega) | exact okS_sd (by omega) (by omega))), (by have t_c1 := neI c1; have t_c2 := eqI c2; have t_c40 := neI c40; have t_w59 := w59.1; have t_c70 := eqI c70; have tqz_ := qz2_; have tnb_ := nib8 tn1351_ tn1352_ tn1364_ tn1353_ tn1365_ tn1366_ tn1354_ tn1355_; have tqz_ := qz41_; omega)⟩, (by unfold rmS; (try (repeat (first | rw [if_pos (by with_reducible assumption)] | rw [if_neg (by with_reducible assumption)] | rw [if_pos (by (have t_c1 := neI c1; have t_c2 := eqI c2; have t_c40 := neI c40; have t_w59 := w59.1; have t_c70 := eqI c70; have tqz_ := qz2_; have tnb_ := nib8 tn1351_ tn1352_ tn1364_ tn1353_ tn1365_ tn1366_ tn1354_ tn1355_; have tqz_ := qz41_; omega))] | rw [if_neg (by (have t_c1 := neI c1; have t_c2 := eqI c2; have t_c40 := neI c40; have t_w59 := w59.1; have t_c70 := eqI c70; have tqz_ := qz2_; have tnb_ := nib8 tn1351_ tn1352_ tn1364_ tn1353_ tn1365_ tn1366_ tn1354_ tn1355_; have tqz_ := qz41_; omega))] | rw [if_pos (by decide)] | rw [if_neg (by decide)]))); unfold rmA; (try (repeat (first | rw [if_pos (by with_reducible assumption)] | rw [if_neg (by with_reducible assumption)] | rw [if_pos (by (have t_c1 := neI c1; have t_c2 := eqI c2; have t_c40 := neI c40; have t_w59 := w59.1; have t_c70 := eqI c70; have tqz_ := qz2_; have tnb_ := nib8 tn1351_ tn1352_ tn1364_ tn1353_ tn1365_ tn1366_ tn1354_ tn1355_; have tqz_ := qz41_; omega))] | rw [if_neg (by (have t_c1 := neI c1; have t_c2 := eqI c2; have t_c40 := neI c40; have t_w59 := w59.1; have t_c70 := eqI c70; have tqz_ := qz2_; have tnb_ := nib8 tn1351_ tn1352_ tn1364_ tn1353_ tn1365_ tn1366_ tn1354_ tn1355_; have tqz_ := qz41_; omega))] | rw [if_pos (by decide)] | rw [if_neg (by decide)]))); (try rw [ew59]); (try rw [ew63]); (try rw [vw72]); (try rw [ew72]); (try unfold rmI); (try (repeat (first | rw [if_pos (by with_reducible assumption)] | rw [if_neg (by with_reducible assumption)] | rw [if_pos (by (have t_c1 := neI c1; have t_c2 := eqI c2; have t_c40 := neI c40; have t_w59 := w59.1; have t_c70 := eqI c70; have tqz_ := qz2_; have tnb_ := nib8 tn1351_ tn1352_ tn1364_ tn1353_ tn1365_ tn1366_ tn1354_ tn1355_; have tqz_ := qz41_; omega))] | rw [if_neg (by (have t_c1 := neI c1; have t_c2 := eqI c2; have t_c40 := neI c40; have t_w59 := w59.1; have t_c70 := eqI c70; have tqz_ := qz2_; have tnb_ := nib8 tn1351_ tn1352_ tn1364_ tn1353_ tn1365_ tn1366_ tn1354_ tn1355_; have tqz_ := qz41_; omega))] | rw [if_pos (by decide)] | rw [if_neg (by decide)]))); (try rw [eio9]); (try rw [nI_clamp (by (have t_c1 := neI c1; have t_c2 := eqI c2; have t_c40 := neI c40; have t_w59 := w59.1; have t_c70 := eqI c70; have tqz_ := qz2_; have tnb_ := nib8 tn1351_ tn1352_ tn1364_ tn1353_ tn1365_ tn1366_ tn1354_ tn1355_; have tqz_ := qz41_; omega))]); (try unfold rmX); (try (repeat (first | rw [if_pos (by with_reducible assumption)] | rw [if_neg (by with_reducible assumption)] | rw [if_pos (by (have t_c1 := neI c1; have t_c2 := eqI c2; have t_c40 := neI c40; have t_w59 := w59.1; have t_c70 := eqI c70; have tqz_ := qz2_; have tnb_ := nib8 tn1351_ tn1352_ tn1364_ tn1353_ tn1365_ tn1366_ tn1354_ tn1355_; have tqz_ := qz41_; omega))] | rw [if_neg (by (have t_c1 := neI c1; have t_c2 := eqI c2; have t_c40 := neI c40; have t_w59 := w59.1; have t_c70 := eqI c70; have tqz_ := qz2_; have tnb_ := nib8 tn1351_ tn1352_ tn1364_ tn1353_ tn1365_ tn1366_ tn1354_ tn1355_; have tqz_ := qz41_; omega))] | rw [if_pos (by decide)] | rw [if_neg (by decide)]))); all_goals rfl)⟩, ⟨by rw [ht]; exact hP9, hD9⟩⟩, hS.F ht⟩) hS.2.2 dX11_readMore_218
  · skip
    refine lv_aload_n hx hb dX11_readMore_5 rfl (lv_at hl 0 rfl) ?_
    refine va_get (D := (dC, dI)) (ci := 11) (v := .int (nI nrs)) (C := RX11) (T := TX11) (N := 35) hx hb hg inG11 hown hK.1 hP 0 rfl rfl 4 (Nat.le_of_ble_eq_true rfl) (hg _ wt_882) (fun _ h9 => h9) rfl dX11_readMore_6 ?_
    refine lv_bipush (v := 10) hx hb dX11_readMore_9 rfl ?_
    refine lv_icmp_ne (tgt := 19) hx hb dX11_readMore_11 rfl (fun c79 => ?_) (fun c79 => ?_)
    · skip
      have tn1367_ : nIT nrs := fun _ => nI_toInt (by first | omega | (have t := neI c79; omega))
      have n80 : nrs ≠ 10 := by have t := neI c79; rw [show (nI (nrs)).toInt = ((nrs : Nat) : Int) from tn1367_ ()] at t; have : (10 : Int32).toInt = 10 := qI_10; omega
      refine lv_iload_n hx hb dX11_readMore_19 rfl (lv_at hl 1 rfl) ?_
      refine lv_if_ne (tgt := 35) hx hb dX11_readMore_20 rfl (fun c81 => ?_) (fun c81 => ?_)
      · skip
        refine lv_aload_n hx hb dX11_readMore_35 rfl (lv_at hl 0 rfl) ?_
        obtain ⟨hPc, hDc, hFc⟩ := va_sub3 (ws' := [(h0, .inr (11, [.ref st, .int (nI N), .int (nI B), .ref rp, .int (nI nrs), .int vrb, .int vhs, .int vca, .int vxs, .int vxb, .ref tp, .int (nI T), .int vfa, .int vbr, .int vba, .int (nI nsp), .int (nI nhe), .int vtk, .int vva, .ref cu, .ref lt, .ref od, .ref th, .ref be, .ref ln, .int (nI S), .ref ma, .int (nI M), .ref ah, .ref bh, .ref ik, .ref la, .ref lg, .ref ce, .int vto])), (tp, .inl (G 0, 320, .inl ftp))]) hP hD hS hA [0, 1] (by decide) rfl
        have tn1368_ : nIT nsp := fun _ => nI_toInt (by first | omega | (have t_c1 := eqI c1; have t_n80 := n80; have t_c81 := neI c81; have tqz_ := qz2_; omega))
        have tn1369_ : nIT nhe := fun _ => nI_toInt (by first | omega | (have t_c1 := eqI c1; have t_n80 := n80; have t_c81 := neI c81; have tqz_ := qz2_; omega))
        refine va_callv (va_runV (As := []) (rest := []) ⟨hx, hb, hml, hown, hg⟩ (c_X11_goesOnE l dC dI G _ h0 st N B rp tp T nsp nhe cu lt od th be ln S ma M ah bh ik la lg ce (nI nrs) vrb vhs vca vxs vxb vfa vbr vba vtk vva vto ftp hN hB_ hT_ hS0 hM_ hbr hsp (by have t_c1 := eqI c1; have t_n80 := n80; have t_c81 := neI c81; have tqz_ := qz2_; have tnb_ := nib8 tn1351_ tn1352_ tn1367_ tn1353_ tn1368_ tn1369_ tn1354_ tn1355_; have tqz_ := qz41_; omega) htb) (kwV hg mfX11_goesOn wt_999 ⟨Nat.le_of_ble_eq_true rfl, Nat.le_of_ble_eq_true rfl⟩) (preVW hK hPc hDc (ci := 11) (r := (RX11, TX11, 35)) rfl rfl) rfl rfl hl.1 rfl (lv_room (Nat.le_of_ble_eq_true rfl)) dX11_readMore_36 ⟨Nat.le_of_ble_eq_true rfl, Nat.le_of_ble_eq_true rfl⟩) hS (fun q _ h => hFc q h) hFc (fun ur82 t H1 locs ht hvm w83 hB hz1 hk1 hS => ?_)
        obtain ⟨u84, u85, u86, u87, u88, u89⟩ := ur82
        obtain ⟨hP1, hD1⟩ := hB
        rw [ht] at hP1
        obtain ⟨hP, hD⟩ := va_join (wr := [(rp, .inl (G 0, 49, .inl frp))]) (w1 := [(h0, .inr (11, [.ref st, .int (nI N), .int (nI B), .ref rp, .int (nI nrs), .int vrb, .int vhs, .int vca, .int vxs, .int vxb, .ref tp, .int (nI T), .int vfa, .int u84, .int u85, .int (nI u86), .int (nI u87), .int u88, .int u89, .ref cu, .ref lt, .ref od, .ref th, .ref be, .ref ln, .int (nI S), .ref ma, .int (nI M), .ref ah, .ref bh, .ref ik, .ref la, .ref lg, .ref ce, .int vto])), (tp, .inl (G 0, 320, .inl ftp))]) hP hD [0, 1] [2] rfl rfl (by decide) (by decide) hk1 hFc hP1 hD1
        have w83 : 0 ≤ u84.toInt ∧ (vbr.toInt = 0 ∨ u84.toInt = vbr.toInt) ∧ nsp ≤ u86 ∧ u86 ≤ T ∧ u87 ≤ u86 ∧ (0 < vbr.toInt ∨ u88.toInt = 0 ∨ nsp < u86) ∧ (u84, u85, u86, u87, u88, u89) = gOn ftp T vbr vba nsp nhe vtk vva := w83
        generalize H1 = H at hP hS ⊢
        have ew83 : gT ftp T (vbr, vba, nsp, nhe, vtk, vva) = (u84, u85, u86, u87, u88, u89) := w83.2.2.2.2.2.2.symm
        refine lv_iload_n hx hb dX11_readMore_39 rfl (lv_at hl 1 rfl) ?_
        refine lv_if_ne (tgt := 68) hx hb dX11_readMore_40 rfl (fun c90 => ?_) (fun c90 => ?_)
        · skip
          refine lv_iload_n hx hb dX11_readMore_68 rfl (lv_at hl 1 rfl) ?_
          refine lv_iconst (v := 1) hx hb dX11_readMore_69 rfl ?_
          refine lv_icmp_ne (tgt := 136) hx hb dX11_readMore_70 rfl (fun c91 => ?_) (fun c91 => ?_)
          · skip
            have t_c1 := eqI c1
            have t_n80 := n80
            have t_c81 := neI c81
            have t_c90 := neI c90
            have t_c91 := neI c91
            have : (0 : Int32).toInt = 0 := qI_0
            have : (1 : Int32).toInt = 1 := qI_1
            have t_n0 : (nI N).toInt = (N : Int) := tn1351_ ()
            have t_n1 : (nI B).toInt = (B : Int) := tn1352_ ()
            have t_n2 : (nI nrs).toInt = (nrs : Int) := tn1367_ ()
            have t_n3 : (nI T).toInt = (T : Int) := tn1353_ ()
            have t_n4 : (nI nsp).toInt = (nsp : Int) := tn1368_ ()
            have t_n5 : (nI nhe).toInt = (nhe : Int) := tn1369_ ()
            have t_n6 : (nI S).toInt = (S : Int) := tn1354_ ()
            have t_n7 : (nI M).toInt = (M : Int) := tn1355_ ()
            exfalso; omega
          · skip
            refine lv_aload_n hx hb dX11_readMore_73 rfl (lv_at hl 0 rfl) ?_
            refine va_get (D := (dC, dI)) (ci := 11) (v := .int u84) (C := RX11) (T := TX11) (N := 35) hx hb hg inG11 hown hK.1 hP 1 rfl rfl 13 (Nat.le_of_ble_eq_true rfl) (hg _ wt_891) (fun _ h9 => h9) rfl dX11_readMore_74 ?_
            refine lv_if_ne (tgt := 87) hx hb dX11_readMore_77 rfl (fun c92 => ?_) (fun c92 => ?_)
            · skip
              refine lv_iconst (v := 0) hx hb dX11_readMore_87 rfl ?_
              refine lv_istore_n (lv' := [(2, .int 0), (0, .ref h0), (1, .int nm)]) hx hb dX11_readMore_88 rfl hl (by decide) rfl (fun ls hl => ?_)
              refine lv_aload_n hx hb dX11_readMore_89 rfl (lv_at hl 1 rfl) ?_
              refine va_get (D := (dC, dI)) (ci := 11) (v := .ref rp) (C := RX11) (T := TX11) (N := 35) hx hb hg inG11 hown hK.1 hP 1 rfl rfl 3 (Nat.le_of_ble_eq_true rfl) (hg _ wt_881) (fun _ h9 => h9) rfl dX11_readMore_90 ?_
              refine lv_iconst (v := 2) hx hb dX11_readMore_93 rfl ?_
              refine lv_iload_n hx hb dX11_readMore_94 rfl (lv_at hl 0 rfl) ?_
              refine lv_imul hx hb dX11_readMore_95 ?_
              refine lv_cg (y := 0) (by decide) ?_
              refine lv_aload_n hx hb dX11_readMore_96 rfl (lv_at hl 1 rfl) ?_
              refine lv_iconst (v := 0) hx hb dX11_readMore_97 rfl ?_
              refine lv_bipush (v := 9) hx hb dX11_readMore_98 rfl ?_
              refine lv_iconst (v := 0) hx hb dX11_readMore_100 rfl ?_
              obtain ⟨hPc, hDc, hFc⟩ := va_sub3 (ws' := [(h0, .inr (11, [.ref st, .int (nI N), .int (nI B), .ref rp, .int (nI nrs), .int vrb, .int vhs, .int vca, .int vxs, .int vxb, .ref tp, .int (nI T), .int vfa, .int u84, .int u85, .int (nI u86), .int (nI u87), .int u88, .int u89, .ref cu, .ref lt, .ref od, .ref th, .ref be, .ref ln, .int (nI S), .ref ma, .int (nI M), .ref ah, .ref bh, .ref ik, .ref la, .ref lg, .ref ce, .int vto])), (tp, .inl (G 0, 320, .inl ftp))]) hP hD hS hA [1, 2] (by decide) rfl
              refine va_calli (va_runV (As := [.int 0, .int 9, .int 0]) (rest := [.int 0, .ref rp]) ⟨hx, hb, hml, hown, hg⟩ (c_X11_otherE l dC dI G _ h0 st N B rp tp T u86 u87 cu lt od th be ln S ma M ah bh ik la lg ce 0 9 0 (nI nrs) vrb vhs vca vxs vxb vfa u84 u85 u88 u89 vto ftp hN hB_ hT_ hS0 hM_ (by have t_c1 := eqI c1; have t_n80 := n80; have t_c81 := neI c81; have t_c90 := neI c90; have t_c91 := eqI c91; have t_c92 := neI c92; have tqz_ := qz2_; have tnb_ := nib8 tn1351_ tn1352_ tn1367_ tn1353_ tn1368_ tn1369_ tn1354_ tn1355_; have tqz_ := qz41_; omega) (by first | omega | (have t_c1 := eqI c1; have t_n80 := n80; have t_c81 := neI c81; have t_c90 := neI c90; have t_c91 := eqI c91; have t_c92 := neI c92; have tqz_ := qz2_; have tnb_ := nib8 tn1351_ tn1352_ tn1367_ tn1353_ tn1368_ tn1369_ tn1354_ tn1355_; have tqz_ := qz41_; omega)) (by first | omega | (have t_c1 := eqI c1; have t_n80 := n80; have t_c81 := neI c81; have t_c90 := neI c90; have t_c91 := eqI c91; have t_c92 := neI c92; have tqz_ := qz2_; have tnb_ := nib8 tn1351_ tn1352_ tn1367_ tn1353_ tn1368_ tn1369_ tn1354_ tn1355_; have tqz_ := qz41_; omega)) (by have t_c1 := eqI c1; have t_n80 := n80; have t_c81 := neI c81; have t_c90 := neI c90; have t_c91 := eqI c91; have t_c92 := neI c92; have tqz_ := qz2_; have tnb_ := nib8 tn1351_ tn1352_ tn1367_ tn1353_ tn1368_ tn1369_ tn1354_ tn1355_; have tqz_ := qz41_; omega) htb) (kwV hg mfX11_other wt_1028 ⟨Nat.le_of_ble_eq_true rfl, Nat.le_of_ble_eq_true rfl⟩) (preVW hK hPc hDc (ci := 11) (r := (RX11, TX11, 35)) rfl rfl) rfl rfl hl.1 rfl (lv_room (Nat.le_of_ble_eq_true rfl)) dX11_readMore_101 ⟨Nat.le_of_ble_eq_true rfl, Nat.le_of_ble_eq_true rfl⟩) hS (fun q _ h => hFc q h) hFc (fun r93 ur93 t H1 locs ht hvm w94 hB hz1 hk1 hS => ?_)
              obtain ⟨u95, u96, u97, u98, u99, u100⟩ := ur93
              obtain ⟨hP1, hD1⟩ := hB
              rw [ht] at hP1
              obtain ⟨hP, hD⟩ := va_join (wr := [(rp, .inl (G 0, 49, .inl frp))]) (w1 := [(h0, .inr (11, [.ref st, .int (nI N), .int (nI B), .ref rp, .int (nI nrs), .int vrb, .int vhs, .int vca, .int vxs, .int vxb, .ref tp, .int (nI T), .int vfa, .int u95, .int u96, .int (nI u97), .int (nI u98), .int u99, .int u100, .ref cu, .ref lt, .ref od, .ref th, .ref be, .ref ln, .int (nI S), .ref ma, .int (nI M), .ref ah, .ref bh, .ref ik, .ref la, .ref lg, .ref ce, .int vto])), (tp, .inl (G 0, 320, .inl ftp))]) hP hD [1, 2] [0] rfl rfl (by decide) (by decide) hk1 hFc hP1 hD1
              generalize H1 = H at hP hS ⊢
              obtain ⟨w94, w94x⟩ := w94
              have vw94 : oV 0 9 0 (u84, u85, u86, u87, u88, u89) = r93 := w94.2.symm
              have ew94 : oS ftp T 0 9 0 (u84, u85, u86, u87, u88, u89) = (u95, u96, u97, u98, u99, u100) := w94x.2.2.2.2.2.2.symm
              refine va_iast hx hb hK.1 hP hD hS 0 0 rfl rfl (vp_in_iff.mpr ⟨by decide, by decide⟩) dX11_readMore_104 (fun H locs hP hD hS => ?_)
              refine lv_aload_n hx hb dX11_readMore_105 rfl (lv_at hl 1 rfl) ?_
              refine va_get (D := (dC, dI)) (ci := 11) (v := .ref rp) (C := RX11) (T := TX11) (N := 35) hx hb hg inG11 hown hK.1 hP 1 rfl rfl 3 (Nat.le_of_ble_eq_true rfl) (hg _ wt_881) (fun _ h9 => h9) rfl dX11_readMore_106 ?_
              refine lv_iconst (v := 2) hx hb dX11_readMore_109 rfl ?_
              refine lv_iload_n hx hb dX11_readMore_110 rfl (lv_at hl 0 rfl) ?_
              refine lv_imul hx hb dX11_readMore_111 ?_
              refine lv_cg (y := 0) (by decide) ?_
              refine lv_iconst (v := 1) hx hb dX11_readMore_112 rfl ?_
              refine lv_iadd hx hb dX11_readMore_113 ?_
              refine lv_cg (y := 1) (by decide) ?_
              refine lv_aload_n hx hb dX11_readMore_114 rfl (lv_at hl 1 rfl) ?_
              refine lv_iconst (v := 0) hx hb dX11_readMore_115 rfl ?_
              refine lv_bipush (v := 9) hx hb dX11_readMore_116 rfl ?_
              refine lv_iconst (v := 0) hx hb dX11_readMore_118 rfl ?_
              obtain ⟨hPc, hDc, hFc⟩ := va_sub3 (ws' := [(h0, .inr (11, [.ref st, .int (nI N), .int (nI B), .ref rp, .int (nI nrs), .int vrb, .int vhs, .int vca, .int vxs, .int vxb, .ref tp, .int (nI T), .int vfa, .int u95, .int u96, .int (nI u97), .int (nI u98), .int u99, .int u100, .ref cu, .ref lt, .ref od, .ref th, .ref be, .ref ln, .int (nI S), .ref ma, .int (nI M), .ref ah, .ref bh, .ref ik, .ref la, .ref lg, .ref ce, .int vto])), (tp, .inl (G 0, 320, .inl ftp))]) hP hD hS hA [1, 2] (by decide) rfl
              refine va_calli (va_runV (As := [.int 0, .int 9, .int 0]) (rest := [.int 1, .ref rp]) ⟨hx, hb, hml, hown, hg⟩ (c_X11_otherE l dC dI G _ h0 st N B rp tp T u97 u98 cu lt od th be ln S ma M ah bh ik la lg ce 0 9 0 (nI nrs) vrb vhs vca vxs vxb vfa u95 u96 u99 u100 vto ftp hN hB_ hT_ hS0 hM_ (by have t_c1 := eqI c1; have t_n80 := n80; have t_c81 := neI c81; have t_c90 := neI c90; have t_c91 := eqI c91; have t_c92 := neI c92; have tqz_ := qz2_; have tnb_ := nib8 tn1351_ tn1352_ tn1367_ tn1353_ tn1368_ tn1369_ tn1354_ tn1355_; have tqz_ := qz41_; omega) (by first | omega | (have t_c1 := eqI c1; have t_n80 := n80; have t_c81 := neI c81; have t_c90 := neI c90; have t_c91 := eqI c91; have t_c92 := neI c92; have tqz_ := qz2_; have tnb_ := nib8 tn1351_ tn1352_ tn1367_ tn1353_ tn1368_ tn1369_ tn1354_ tn1355_; have tqz_ := qz41_; omega)) (by first | omega | (have t_c1 := eqI c1; have t_n80 := n80; have t_c81 := neI c81; have t_c90 := neI c90; have t_c91 := eqI c91; have t_c92 := neI c92; have tqz_ := qz2_; have tnb_ := nib8 tn1351_ tn1352_ tn1367_ tn1353_ tn1368_ tn1369_ tn1354_ tn1355_; have tqz_ := qz41_; omega)) (by have t_c1 := eqI c1; have t_n80 := n80; have t_c81 := neI c81; have t_c90 := neI c90; have t_c91 := eqI c91; have t_c92 := neI c92; have tqz_ := qz2_; have tnb_ := nib8 tn1351_ tn1352_ tn1367_ tn1353_ tn1368_ tn1369_ tn1354_ tn1355_; have tqz_ := qz41_; omega) htb) (kwV hg mfX11_other wt_1028 ⟨Nat.le_of_ble_eq_true rfl, Nat.le_of_ble_eq_true rfl⟩) (preVW hK hPc hDc (ci := 11) (r := (RX11, TX11, 35)) rfl rfl) rfl rfl hl.1 rfl (lv_room (Nat.le_of_ble_eq_true rfl)) dX11_readMore_119 ⟨Nat.le_of_ble_eq_true rfl, Nat.le_of_ble_eq_true rfl⟩) hS (fun q _ h => hFc q h) hFc (fun r101 ur101 t H1 locs ht hvm w102 hB hz1 hk1 hS => ?_)
              obtain ⟨u103, u104, u105, u106, u107, u108⟩ := ur101
              obtain ⟨hP1, hD1⟩ := hB
              rw [ht] at hP1
              obtain ⟨hP, hD⟩ := va_join (wr := [(rp, .inl (G 0, 49, .inl (upd frp 0 r93)))]) (w1 := [(h0, .inr (11, [.ref st, .int (nI N), .int (nI B), .ref rp, .int (nI nrs), .int vrb, .int vhs, .int vca, .int vxs, .int vxb, .ref tp, .int (nI T), .int vfa, .int u103, .int u104, .int (nI u105), .int (nI u106), .int u107, .int u108, .ref cu, .ref lt, .ref od, .ref th, .ref be, .ref ln, .int (nI S), .ref ma, .int (nI M), .ref ah, .ref bh, .ref ik, .ref la, .ref lg, .ref ce, .int vto])), (tp, .inl (G 0, 320, .inl ftp))]) hP hD [1, 2] [0] rfl rfl (by decide) (by decide) hk1 hFc hP1 hD1
              generalize H1 = H at hP hS ⊢
              obtain ⟨w102, w102x⟩ := w102
              have vw102 : oV 0 9 0 (u95, u96, u97, u98, u99, u100) = r101 := w102.2.symm
              have ew102 : oS ftp T 0 9 0 (u95, u96, u97, u98, u99, u100) = (u103, u104, u105, u106, u107, u108) := w102x.2.2.2.2.2.2.symm
              refine va_iast hx hb hK.1 hP hD hS 0 0 rfl rfl (vp_in_iff.mpr ⟨by decide, by decide⟩) dX11_readMore_122 (fun H locs hP hD hS => ?_)
              refine lv_aload_n hx hb dX11_readMore_123 rfl (lv_at hl 1 rfl) ?_
              refine lv_dup hx hb dX11_readMore_124 rfl ?_
              refine va_get (D := (dC, dI)) (ci := 11) (v := .int (nI nrs)) (C := RX11) (T := TX11) (N := 35) hx hb hg inG11 hown hK.1 hP 1 rfl rfl 4 (Nat.le_of_ble_eq_true rfl) (hg _ wt_882) (fun _ h9 => h9) rfl dX11_readMore_125 ?_
              refine lv_iconst (v := 1) hx hb dX11_readMore_128 rfl ?_
              refine lv_iadd hx hb dX11_readMore_129 ?_
              refine lv_cg (y := nI (nrs + 1)) (by rw [show (1 : Int32) = nI 1 from rfl]; exact nI_add _ _) ?_
              refine va_put (D := (dC, dI)) (ci := 11) (v := .int (nI (nrs + 1))) (ty := .int) (C := RX11) (T := TX11) (N := 35) hx hb hg inG11 tyX11 tyX11_ok nmX11 hown hK.1 hP hD hS 1 rfl rfl 4 (Nat.le_of_ble_eq_true rfl) (hg _ wt_882) (fun _ h9 => h9) rfl (by decide +kernel) rfl rfl (Nat.le_of_ble_eq_true rfl) dX11_readMore_130 (fun H locs hP hD hS => ?_)
              refine lv_goto (tgt := 218) hx hb dX11_readMore_133 rfl ?_
              obtain ⟨hP9, hD9⟩ := va_sub2 (ws' := [(h0, .inr (11, [.ref st, .int (nI N), .int (nI B), .ref rp, .int (nI (nrs + 1)), .int vrb, .int vhs, .int vca, .int vxs, .int vxb, .ref tp, .int (nI T), .int vfa, .int u103, .int u104, .int (nI u105), .int (nI u106), .int u107, .int u108, .ref cu, .ref lt, .ref od, .ref th, .ref be, .ref ln, .int (nI S), .ref ma, .int (nI M), .ref ah, .ref bh, .ref ik, .ref la, .ref lg, .ref ce, .int vto])), (tp, .inl (G 0, 320, .inl ftp)), (rp, .inl (G 0, 49, .inl (upd (upd frp 0 r93) 1 r101)))]) hP hD [1, 2, 0] (by decide) rfl
              refine W.widen (k := 0) (n := 0) (Nat.le_of_ble_eq_true rfl) (Nat.le_of_ble_eq_true rfl) ?_
              exact W.vret hx hb hr (fun t ht hW => ⟨⟨(u103, u104, u105, u106, u107, u108, (nrs + 1), vhs, vca, vxs, vxb, (upd (upd frp 0 r93) 1 r101)), rfl, ⟨⟨(OKP.upd (OKP.upd hrp (by have t_c1 := eqI c1; have t_n80 := n80; have t_c81 := neI c81; have t_c90 := neI c90; have t_c91 := eqI c91; have t_c92 := neI c92; have tqz_ := qz2_; have tnb_ := nib8 tn1351_ tn1352_ tn1367_ tn1353_ tn1368_ tn1369_ tn1354_ tn1355_; have tqz_ := qz41_; first | exact okS_lo (by omega) (by omega) (by omega) | exact okS_or (by omega) (by omega) (by omega) (by omega) | exact okS_sd (by omega) (by omega))) (by have t_c1 := eqI c1; have t_n80 := n80; have t_c81 := neI c81; have t_c90 := neI c90; have t_c91 := eqI c91; have t_c92 := neI c92; have tqz_ := qz2_; have tnb_ := nib8 tn1351_ tn1352_ tn1367_ tn1353_ tn1368_ tn1369_ tn1354_ tn1355_; have tqz_ := qz41_; first | exact okS_lo (by omega) (by omega) (by omega) | exact okS_or (by omega) (by omega) (by omega) (by omega) | exact okS_sd (by omega) (by omega))), (by have t_c1 := eqI c1; have t_n80 := n80; have t_c81 := neI c81; have t_c90 := neI c90; have t_c91 := eqI c91; have t_c92 := neI c92; have tqz_ := qz2_; have tnb_ := nib8 tn1351_ tn1352_ tn1367_ tn1353_ tn1368_ tn1369_ tn1354_ tn1355_; have tqz_ := qz41_; omega)⟩, (by unfold rmS; (try (repeat (first | rw [if_pos (by with_reducible assumption)] | rw [if_neg (by with_reducible assumption)] | rw [if_pos (by (have t_c1 := eqI c1; have t_n80 := n80; have t_c81 := neI c81; have t_c90 := neI c90; have t_c91 := eqI c91; have t_c92 := neI c92; have tqz_ := qz2_; have tnb_ := nib8 tn1351_ tn1352_ tn1367_ tn1353_ tn1368_ tn1369_ tn1354_ tn1355_; have tqz_ := qz41_; omega))] | rw [if_neg (by (have t_c1 := eqI c1; have t_n80 := n80; have t_c81 := neI c81; have t_c90 := neI c90; have t_c91 := eqI c91; have t_c92 := neI c92; have tqz_ := qz2_; have tnb_ := nib8 tn1351_ tn1352_ tn1367_ tn1353_ tn1368_ tn1369_ tn1354_ tn1355_; have tqz_ := qz41_; omega))] | rw [if_pos (by decide)] | rw [if_neg (by decide)]))); unfold rmA; (try (repeat (first | rw [if_pos (by with_reducible assumption)] | rw [if_neg (by with_reducible assumption)] | rw [if_pos (by (have t_c1 := eqI c1; have t_n80 := n80; have t_c81 := neI c81; have t_c90 := neI c90; have t_c91 := eqI c91; have t_c92 := neI c92; have tqz_ := qz2_; have tnb_ := nib8 tn1351_ tn1352_ tn1367_ tn1353_ tn1368_ tn1369_ tn1354_ tn1355_; have tqz_ := qz41_; omega))] | rw [if_neg (by (have t_c1 := eqI c1; have t_n80 := n80; have t_c81 := neI c81; have t_c90 := neI c90; have t_c91 := eqI c91; have t_c92 := neI c92; have tqz_ := qz2_; have tnb_ := nib8 tn1351_ tn1352_ tn1367_ tn1353_ tn1368_ tn1369_ tn1354_ tn1355_; have tqz_ := qz41_; omega))] | rw [if_pos (by decide)] | rw [if_neg (by decide)]))); (try rw [ew83]); (try rw [vw94]); (try rw [ew94]); (try rw [vw102]); (try rw [ew102]); (try unfold rmI); (try (repeat (first | rw [if_pos (by with_reducible assumption)] | rw [if_neg (by with_reducible assumption)] | rw [if_pos (by (have t_c1 := eqI c1; have t_n80 := n80; have t_c81 := neI c81; have t_c90 := neI c90; have t_c91 := eqI c91; have t_c92 := neI c92; have tqz_ := qz2_; have tnb_ := nib8 tn1351_ tn1352_ tn1367_ tn1353_ tn1368_ tn1369_ tn1354_ tn1355_; have tqz_ := qz41_; omega))] | rw [if_neg (by (have t_c1 := eqI c1; have t_n80 := n80; have t_c81 := neI c81; have t_c90 := neI c90; have t_c91 := eqI c91; have t_c92 := neI c92; have tqz_ := qz2_; have tnb_ := nib8 tn1351_ tn1352_ tn1367_ tn1353_ tn1368_ tn1369_ tn1354_ tn1355_; have tqz_ := qz41_; omega))] | rw [if_pos (by decide)] | rw [if_neg (by decide)]))); (try rw [eio9]); (try rw [nI_clamp (by (have t_c1 := eqI c1; have t_n80 := n80; have t_c81 := neI c81; have t_c90 := neI c90; have t_c91 := eqI c91; have t_c92 := neI c92; have tqz_ := qz2_; have tnb_ := nib8 tn1351_ tn1352_ tn1367_ tn1353_ tn1368_ tn1369_ tn1354_ tn1355_; have tqz_ := qz41_; omega))]); (try unfold rmX); (try (repeat (first | rw [if_pos (by with_reducible assumption)] | rw [if_neg (by with_reducible assumption)] | rw [if_pos (by (have t_c1 := eqI c1; have t_n80 := n80; have t_c81 := neI c81; have t_c90 := neI c90; have t_c91 := eqI c91; have t_c92 := neI c92; have tqz_ := qz2_; have tnb_ := nib8 tn1351_ tn1352_ tn1367_ tn1353_ tn1368_ tn1369_ tn1354_ tn1355_; have tqz_ := qz41_; omega))] | rw [if_neg (by (have t_c1 := eqI c1; have t_n80 := n80; have t_c81 := neI c81; have t_c90 := neI c90; have t_c91 := eqI c91; have t_c92 := neI c92; have tqz_ := qz2_; have tnb_ := nib8 tn1351_ tn1352_ tn1367_ tn1353_ tn1368_ tn1369_ tn1354_ tn1355_; have tqz_ := qz41_; omega))] | rw [if_pos (by decide)] | rw [if_neg (by decide)]))); all_goals rfl)⟩, ⟨by rw [ht]; exact hP9, hD9⟩⟩, hS.F ht⟩) hS.2.2 dX11_readMore_218
            · skip
              refine lv_aload_n hx hb dX11_readMore_80 rfl (lv_at hl 0 rfl) ?_
              refine va_get (D := (dC, dI)) (ci := 11) (v := .int (nI nrs)) (C := RX11) (T := TX11) (N := 35) hx hb hg inG11 hown hK.1 hP 1 rfl rfl 4 (Nat.le_of_ble_eq_true rfl) (hg _ wt_882) (fun _ h9 => h9) rfl dX11_readMore_81 ?_
              refine lv_goto (tgt := 88) hx hb dX11_readMore_84 rfl ?_
              refine lv_istore_n (lv' := [(2, .int (nI nrs)), (0, .ref h0), (1, .int nm)]) hx hb dX11_readMore_88 rfl hl (by decide) rfl (fun ls hl => ?_)
              refine lv_aload_n hx hb dX11_readMore_89 rfl (lv_at hl 1 rfl) ?_
              refine va_get (D := (dC, dI)) (ci := 11) (v := .ref rp) (C := RX11) (T := TX11) (N := 35) hx hb hg inG11 hown hK.1 hP 1 rfl rfl 3 (Nat.le_of_ble_eq_true rfl) (hg _ wt_881) (fun _ h9 => h9) rfl dX11_readMore_90 ?_
              refine lv_iconst (v := 2) hx hb dX11_readMore_93 rfl ?_
              refine lv_iload_n hx hb dX11_readMore_94 rfl (lv_at hl 0 rfl) ?_
              refine lv_imul hx hb dX11_readMore_95 ?_
              refine lv_cg (y := nI (2 * nrs)) (by rw [show (2 : Int32) = nI 2 from rfl]; exact pk_mul _ _) ?_
              refine lv_aload_n hx hb dX11_readMore_96 rfl (lv_at hl 1 rfl) ?_
              refine lv_iconst (v := 0) hx hb dX11_readMore_97 rfl ?_
              refine lv_bipush (v := 9) hx hb dX11_readMore_98 rfl ?_
              refine lv_iconst (v := 0) hx hb dX11_readMore_100 rfl ?_
              obtain ⟨hPc, hDc, hFc⟩ := va_sub3 (ws' := [(h0, .inr (11, [.ref st, .int (nI N), .int (nI B), .ref rp, .int (nI nrs), .int vrb, .int vhs, .int vca, .int vxs, .int vxb, .ref tp, .int (nI T), .int vfa, .int u84, .int u85, .int (nI u86), .int (nI u87), .int u88, .int u89, .ref cu, .ref lt, .ref od, .ref th, .ref be, .ref ln, .int (nI S), .ref ma, .int (nI M), .ref ah, .ref bh, .ref ik, .ref la, .ref lg, .ref ce, .int vto])), (tp, .inl (G 0, 320, .inl ftp))]) hP hD hS hA [1, 2] (by decide) rfl
              refine va_calli (va_runV (As := [.int 0, .int 9, .int 0]) (rest := [.int (nI (2 * nrs)), .ref rp]) ⟨hx, hb, hml, hown, hg⟩ (c_X11_otherE l dC dI G _ h0 st N B rp tp T u86 u87 cu lt od th be ln S ma M ah bh ik la lg ce 0 9 0 (nI nrs) vrb vhs vca vxs vxb vfa u84 u85 u88 u89 vto ftp hN hB_ hT_ hS0 hM_ (by have t_c1 := eqI c1; have t_n80 := n80; have t_c81 := neI c81; have t_c90 := neI c90; have t_c91 := eqI c91; have t_c92 := eqI c92; have tqz_ := qz2_; have tnb_ := nib8 tn1351_ tn1352_ tn1367_ tn1353_ tn1368_ tn1369_ tn1354_ tn1355_; have tqz_ := qz41_; omega) (by first | omega | (have t_c1 := eqI c1; have t_n80 := n80; have t_c81 := neI c81; have t_c90 := neI c90; have t_c91 := eqI c91; have t_c92 := eqI c92; have tqz_ := qz2_; have tnb_ := nib8 tn1351_ tn1352_ tn1367_ tn1353_ tn1368_ tn1369_ tn1354_ tn1355_; have tqz_ := qz41_; omega)) (by first | omega | (have t_c1 := eqI c1; have t_n80 := n80; have t_c81 := neI c81; have t_c90 := neI c90; have t_c91 := eqI c91; have t_c92 := eqI c92; have tqz_ := qz2_; have tnb_ := nib8 tn1351_ tn1352_ tn1367_ tn1353_ tn1368_ tn1369_ tn1354_ tn1355_; have tqz_ := qz41_; omega)) (by have t_c1 := eqI c1; have t_n80 := n80; have t_c81 := neI c81; have t_c90 := neI c90; have t_c91 := eqI c91; have t_c92 := eqI c92; have tqz_ := qz2_; have tnb_ := nib8 tn1351_ tn1352_ tn1367_ tn1353_ tn1368_ tn1369_ tn1354_ tn1355_; have tqz_ := qz41_; omega) htb) (kwV hg mfX11_other wt_1028 ⟨Nat.le_of_ble_eq_true rfl, Nat.le_of_ble_eq_true rfl⟩) (preVW hK hPc hDc (ci := 11) (r := (RX11, TX11, 35)) rfl rfl) rfl rfl hl.1 rfl (lv_room (Nat.le_of_ble_eq_true rfl)) dX11_readMore_101 ⟨Nat.le_of_ble_eq_true rfl, Nat.le_of_ble_eq_true rfl⟩) hS (fun q _ h => hFc q h) hFc (fun r109 ur109 t H1 locs ht hvm w110 hB hz1 hk1 hS => ?_)
              obtain ⟨u111, u112, u113, u114, u115, u116⟩ := ur109
              obtain ⟨hP1, hD1⟩ := hB
              rw [ht] at hP1
              obtain ⟨hP, hD⟩ := va_join (wr := [(rp, .inl (G 0, 49, .inl frp))]) (w1 := [(h0, .inr (11, [.ref st, .int (nI N), .int (nI B), .ref rp, .int (nI nrs), .int vrb, .int vhs, .int vca, .int vxs, .int vxb, .ref tp, .int (nI T), .int vfa, .int u111, .int u112, .int (nI u113), .int (nI u114), .int u115, .int u116, .ref cu, .ref lt, .ref od, .ref th, .ref be, .ref ln, .int (nI S), .ref ma, .int (nI M), .ref ah, .ref bh, .ref ik, .ref la, .ref lg, .ref ce, .int vto])), (tp, .inl (G 0, 320, .inl ftp))]) hP hD [1, 2] [0] rfl rfl (by decide) (by decide) hk1 hFc hP1 hD1
              generalize H1 = H at hP hS ⊢
              obtain ⟨w110, w110x⟩ := w110
              have vw110 : oV 0 9 0 (u84, u85, u86, u87, u88, u89) = r109 := w110.2.symm
              have ew110 : oS ftp T 0 9 0 (u84, u85, u86, u87, u88, u89) = (u111, u112, u113, u114, u115, u116) := w110x.2.2.2.2.2.2.symm
              refine va_iast hx hb hK.1 hP hD hS 0 0 rfl rfl (vp_in_nI (by first | omega | (have t_c1 := eqI c1; have t_n80 := n80; have t_c81 := neI c81; have t_c90 := neI c90; have t_c91 := eqI c91; have t_c92 := eqI c92; have tqz_ := qz2_; have tnb_ := nib8 tn1351_ tn1352_ tn1367_ tn1353_ tn1368_ tn1369_ tn1354_ tn1355_; omega)) (by decide)) dX11_readMore_104 (fun H locs hP hD hS => ?_)
              rw [nI_clamp (by omega)] at hP hD
              refine lv_aload_n hx hb dX11_readMore_105 rfl (lv_at hl 1 rfl) ?_
              refine va_get (D := (dC, dI)) (ci := 11) (v := .ref rp) (C := RX11) (T := TX11) (N := 35) hx hb hg inG11 hown hK.1 hP 1 rfl rfl 3 (Nat.le_of_ble_eq_true rfl) (hg _ wt_881) (fun _ h9 => h9) rfl dX11_readMore_106 ?_
              refine lv_iconst (v := 2) hx hb dX11_readMore_109 rfl ?_
              refine lv_iload_n hx hb dX11_readMore_110 rfl (lv_at hl 0 rfl) ?_
              refine lv_imul hx hb dX11_readMore_111 ?_
              refine lv_cg (y := nI (2 * nrs)) (by rw [show (2 : Int32) = nI 2 from rfl]; exact pk_mul _ _) ?_
              refine lv_iconst (v := 1) hx hb dX11_readMore_112 rfl ?_
              refine lv_iadd hx hb dX11_readMore_113 ?_
              refine lv_cg (y := nI ((2 * nrs) + 1)) (by rw [show (1 : Int32) = nI 1 from rfl]; exact nI_add _ _) ?_
              refine lv_aload_n hx hb dX11_readMore_114 rfl (lv_at hl 1 rfl) ?_
              refine lv_iconst (v := 0) hx hb dX11_readMore_115 rfl ?_
              refine lv_bipush (v := 9) hx hb dX11_readMore_116 rfl ?_
              refine lv_iconst (v := 0) hx hb dX11_readMore_118 rfl ?_
              obtain ⟨hPc, hDc, hFc⟩ := va_sub3 (ws' := [(h0, .inr (11, [.ref st, .int (nI N), .int (nI B), .ref rp, .int (nI nrs), .int vrb, .int vhs, .int vca, .int vxs, .int vxb, .ref tp, .int (nI T), .int vfa, .int u111, .int u112, .int (nI u113), .int (nI u114), .int u115, .int u116, .ref cu, .ref lt, .ref od, .ref th, .ref be, .ref ln, .int (nI S), .ref ma, .int (nI M), .ref ah, .ref bh, .ref ik, .ref la, .ref lg, .ref ce, .int vto])), (tp, .inl (G 0, 320, .inl ftp))]) hP hD hS hA [1, 2] (by decide) rfl
              refine va_calli (va_runV (As := [.int 0, .int 9, .int 0]) (rest := [.int (nI ((2 * nrs) + 1)), .ref rp]) ⟨hx, hb, hml, hown, hg⟩ (c_X11_otherE l dC dI G _ h0 st N B rp tp T u113 u114 cu lt od th be ln S ma M ah bh ik la lg ce 0 9 0 (nI nrs) vrb vhs vca vxs vxb vfa u111 u112 u115 u116 vto ftp hN hB_ hT_ hS0 hM_ (by have t_c1 := eqI c1; have t_n80 := n80; have t_c81 := neI c81; have t_c90 := neI c90; have t_c91 := eqI c91; have t_c92 := eqI c92; have tqz_ := qz2_; have tnb_ := nib8 tn1351_ tn1352_ tn1367_ tn1353_ tn1368_ tn1369_ tn1354_ tn1355_; have tqz_ := qz41_; omega) (by first | omega | (have t_c1 := eqI c1; have t_n80 := n80; have t_c81 := neI c81; have t_c90 := neI c90; have t_c91 := eqI c91; have t_c92 := eqI c92; have tqz_ := qz2_; have tnb_ := nib8 tn1351_ tn1352_ tn1367_ tn1353_ tn1368_ tn1369_ tn1354_ tn1355_; have tqz_ := qz41_; omega)) (by first | omega | (have t_c1 := eqI c1; have t_n80 := n80; have t_c81 := neI c81; have t_c90 := neI c90; have t_c91 := eqI c91; have t_c92 := eqI c92; have tqz_ := qz2_; have tnb_ := nib8 tn1351_ tn1352_ tn1367_ tn1353_ tn1368_ tn1369_ tn1354_ tn1355_; have tqz_ := qz41_; omega)) (by have t_c1 := eqI c1; have t_n80 := n80; have t_c81 := neI c81; have t_c90 := neI c90; have t_c91 := eqI c91; have t_c92 := eqI c92; have tqz_ := qz2_; have tnb_ := nib8 tn1351_ tn1352_ tn1367_ tn1353_ tn1368_ tn1369_ tn1354_ tn1355_; have tqz_ := qz41_; omega) htb) (kwV hg mfX11_other wt_1028 ⟨Nat.le_of_ble_eq_true rfl, Nat.le_of_ble_eq_true rfl⟩) (preVW hK hPc hDc (ci := 11) (r := (RX11, TX11, 35)) rfl rfl) rfl rfl hl.1 rfl (lv_room (Nat.le_of_ble_eq_true rfl)) dX11_readMore_119 ⟨Nat.le_of_ble_eq_true rfl, Nat.le_of_ble_eq_true rfl⟩) hS (fun q _ h => hFc q h) hFc (fun r117 ur117 t H1 locs ht hvm w118 hB hz1 hk1 hS => ?_)
              obtain ⟨u119, u120, u121, u122, u123, u124⟩ := ur117
              obtain ⟨hP1, hD1⟩ := hB
              rw [ht] at hP1
              obtain ⟨hP, hD⟩ := va_join (wr := [(rp, .inl (G 0, 49, .inl (upd frp (2 * nrs) r109)))]) (w1 := [(h0, .inr (11, [.ref st, .int (nI N), .int (nI B), .ref rp, .int (nI nrs), .int vrb, .int vhs, .int vca, .int vxs, .int vxb, .ref tp, .int (nI T), .int vfa, .int u119, .int u120, .int (nI u121), .int (nI u122), .int u123, .int u124, .ref cu, .ref lt, .ref od, .ref th, .ref be, .ref ln, .int (nI S), .ref ma, .int (nI M), .ref ah, .ref bh, .ref ik, .ref la, .ref lg, .ref ce, .int vto])), (tp, .inl (G 0, 320, .inl ftp))]) hP hD [1, 2] [0] rfl rfl (by decide) (by decide) hk1 hFc hP1 hD1
              generalize H1 = H at hP hS ⊢
              obtain ⟨w118, w118x⟩ := w118
              have vw118 : oV 0 9 0 (u111, u112, u113, u114, u115, u116) = r117 := w118.2.symm
              have ew118 : oS ftp T 0 9 0 (u111, u112, u113, u114, u115, u116) = (u119, u120, u121, u122, u123, u124) := w118x.2.2.2.2.2.2.symm
              refine va_iast hx hb hK.1 hP hD hS 0 0 rfl rfl (vp_in_nI (by first | omega | (have t_c1 := eqI c1; have t_n80 := n80; have t_c81 := neI c81; have t_c90 := neI c90; have t_c91 := eqI c91; have t_c92 := eqI c92; have tqz_ := qz2_; have tnb_ := nib8 tn1351_ tn1352_ tn1367_ tn1353_ tn1368_ tn1369_ tn1354_ tn1355_; omega)) (by decide)) dX11_readMore_122 (fun H locs hP hD hS => ?_)
              rw [nI_clamp (by omega)] at hP hD
              refine lv_aload_n hx hb dX11_readMore_123 rfl (lv_at hl 1 rfl) ?_
              refine lv_dup hx hb dX11_readMore_124 rfl ?_
              refine va_get (D := (dC, dI)) (ci := 11) (v := .int (nI nrs)) (C := RX11) (T := TX11) (N := 35) hx hb hg inG11 hown hK.1 hP 1 rfl rfl 4 (Nat.le_of_ble_eq_true rfl) (hg _ wt_882) (fun _ h9 => h9) rfl dX11_readMore_125 ?_
              refine lv_iconst (v := 1) hx hb dX11_readMore_128 rfl ?_
              refine lv_iadd hx hb dX11_readMore_129 ?_
              refine lv_cg (y := nI (nrs + 1)) (by rw [show (1 : Int32) = nI 1 from rfl]; exact nI_add _ _) ?_
              refine va_put (D := (dC, dI)) (ci := 11) (v := .int (nI (nrs + 1))) (ty := .int) (C := RX11) (T := TX11) (N := 35) hx hb hg inG11 tyX11 tyX11_ok nmX11 hown hK.1 hP hD hS 1 rfl rfl 4 (Nat.le_of_ble_eq_true rfl) (hg _ wt_882) (fun _ h9 => h9) rfl (by decide +kernel) rfl rfl (Nat.le_of_ble_eq_true rfl) dX11_readMore_130 (fun H locs hP hD hS => ?_)
              refine lv_goto (tgt := 218) hx hb dX11_readMore_133 rfl ?_
              obtain ⟨hP9, hD9⟩ := va_sub2 (ws' := [(h0, .inr (11, [.ref st, .int (nI N), .int (nI B), .ref rp, .int (nI (nrs + 1)), .int vrb, .int vhs, .int vca, .int vxs, .int vxb, .ref tp, .int (nI T), .int vfa, .int u119, .int u120, .int (nI u121), .int (nI u122), .int u123, .int u124, .ref cu, .ref lt, .ref od, .ref th, .ref be, .ref ln, .int (nI S), .ref ma, .int (nI M), .ref ah, .ref bh, .ref ik, .ref la, .ref lg, .ref ce, .int vto])), (tp, .inl (G 0, 320, .inl ftp)), (rp, .inl (G 0, 49, .inl (upd (upd frp (2 * nrs) r109) ((2 * nrs) + 1) r117)))]) hP hD [1, 2, 0] (by decide) rfl
              refine W.widen (k := 0) (n := 0) (Nat.le_of_ble_eq_true rfl) (Nat.le_of_ble_eq_true rfl) ?_
              exact W.vret hx hb hr (fun t ht hW => ⟨⟨(u119, u120, u121, u122, u123, u124, (nrs + 1), vhs, vca, vxs, vxb, (upd (upd frp (2 * nrs) r109) ((2 * nrs) + 1) r117)), rfl, ⟨⟨(OKP.upd (OKP.upd hrp (by have t_c1 := eqI c1; have t_n80 := n80; have t_c81 := neI c81; have t_c90 := neI c90; have t_c91 := eqI c91; have t_c92 := eqI c92; have tqz_ := qz2_; have tnb_ := nib8 tn1351_ tn1352_ tn1367_ tn1353_ tn1368_ tn1369_ tn1354_ tn1355_; have tqz_ := qz41_; first | exact okS_lo (by omega) (by omega) (by omega) | exact okS_or (by omega) (by omega) (by omega) (by omega) | exact okS_sd (by omega) (by omega))) (by have t_c1 := eqI c1; have t_n80 := n80; have t_c81 := neI c81; have t_c90 := neI c90; have t_c91 := eqI c91; have t_c92 := eqI c92; have tqz_ := qz2_; have tnb_ := nib8 tn1351_ tn1352_ tn1367_ tn1353_ tn1368_ tn1369_ tn1354_ tn1355_; have tqz_ := qz41_; first | exact okS_lo (by omega) (by omega) (by omega) | exact okS_or (by omega) (by omega) (by omega) (by omega) | exact okS_sd (by omega) (by omega))), (by have t_c1 := eqI c1; have t_n80 := n80; have t_c81 := neI c81; have t_c90 := neI c90; have t_c91 := eqI c91; have t_c92 := eqI c92; have tqz_ := qz2_; have tnb_ := nib8 tn1351_ tn1352_ tn1367_ tn1353_ tn1368_ tn1369_ tn1354_ tn1355_; have tqz_ := qz41_; omega)⟩, (by unfold rmS; (try (repeat (first | rw [if_pos (by with_reducible assumption)] | rw [if_neg (by with_reducible assumption)] | rw [if_pos (by (have t_c1 := eqI c1; have t_n80 := n80; have t_c81 := neI c81; have t_c90 := neI c90; have t_c91 := eqI c91; have t_c92 := eqI c92; have tqz_ := qz2_; have tnb_ := nib8 tn1351_ tn1352_ tn1367_ tn1353_ tn1368_ tn1369_ tn1354_ tn1355_; have tqz_ := qz41_; omega))] | rw [if_neg (by (have t_c1 := eqI c1; have t_n80 := n80; have t_c81 := neI c81; have t_c90 := neI c90; have t_c91 := eqI c91; have t_c92 := eqI c92; have tqz_ := qz2_; have tnb_ := nib8 tn1351_ tn1352_ tn1367_ tn1353_ tn1368_ tn1369_ tn1354_ tn1355_; have tqz_ := qz41_; omega))] | rw [if_pos (by decide)] | rw [if_neg (by decide)]))); unfold rmA; (try (repeat (first | rw [if_pos (by with_reducible assumption)] | rw [if_neg (by with_reducible assumption)] | rw [if_pos (by (have t_c1 := eqI c1; have t_n80 := n80; have t_c81 := neI c81; have t_c90 := neI c90; have t_c91 := eqI c91; have t_c92 := eqI c92; have tqz_ := qz2_; have tnb_ := nib8 tn1351_ tn1352_ tn1367_ tn1353_ tn1368_ tn1369_ tn1354_ tn1355_; have tqz_ := qz41_; omega))] | rw [if_neg (by (have t_c1 := eqI c1; have t_n80 := n80; have t_c81 := neI c81; have t_c90 := neI c90; have t_c91 := eqI c91; have t_c92 := eqI c92; have tqz_ := qz2_; have tnb_ := nib8 tn1351_ tn1352_ tn1367_ tn1353_ tn1368_ tn1369_ tn1354_ tn1355_; have tqz_ := qz41_; omega))] | rw [if_pos (by decide)] | rw [if_neg (by decide)]))); (try rw [ew83]); (try rw [vw110]); (try rw [ew110]); (try rw [vw118]); (try rw [ew118]); (try unfold rmI); (try (repeat (first | rw [if_pos (by with_reducible assumption)] | rw [if_neg (by with_reducible assumption)] | rw [if_pos (by (have t_c1 := eqI c1; have t_n80 := n80; have t_c81 := neI c81; have t_c90 := neI c90; have t_c91 := eqI c91; have t_c92 := eqI c92; have tqz_ := qz2_; have tnb_ := nib8 tn1351_ tn1352_ tn1367_ tn1353_ tn1368_ tn1369_ tn1354_ tn1355_; have tqz_ := qz41_; omega))] | rw [if_neg (by (have t_c1 := eqI c1; have t_n80 := n80; have t_c81 := neI c81; have t_c90 := neI c90; have t_c91 := eqI c91; have t_c92 := eqI c92; have tqz_ := qz2_; have tnb_ := nib8 tn1351_ tn1352_ tn1367_ tn1353_ tn1368_ tn1369_ tn1354_ tn1355_; have tqz_ := qz41_; omega))] | rw [if_pos (by decide)] | rw [if_neg (by decide)]))); (try rw [eio9]); (try rw [nI_clamp (by (have t_c1 := eqI c1; have t_n80 := n80; have t_c81 := neI c81; have t_c90 := neI c90; have t_c91 := eqI c91; have t_c92 := eqI c92; have tqz_ := qz2_; have tnb_ := nib8 tn1351_ tn1352_ tn1367_ tn1353_ tn1368_ tn1369_ tn1354_ tn1355_; have tqz_ := qz41_; omega))]); (try unfold rmX); (try (repeat (first | rw [if_pos (by with_reducible assumption)] | rw [if_neg (by with_reducible assumption)] | rw [if_pos (by (have t_c1 := eqI c1; have t_n80 := n80; have t_c81 := neI c81; have t_c90 := neI c90; have t_c91 := eqI c91; have t_c92 := eqI c92; have tqz_ := qz2_; have tnb_ := nib8 tn1351_ tn1352_ tn1367_ tn1353_ tn1368_ tn1369_ tn1354_ tn1355_; have tqz_ := qz41_; omega))] | rw [if_neg (by (have t_c1 := eqI c1; have t_n80 := n80; have t_c81 := neI c81; have t_c90 := neI c90; have t_c91 := eqI c91; have t_c92 := eqI c92; have tqz_ := qz2_; have tnb_ := nib8 tn1351_ tn1352_ tn1367_ tn1353_ tn1368_ tn1369_ tn1354_ tn1355_; have tqz_ := qz41_; omega))] | rw [if_pos (by decide)] | rw [if_neg (by decide)]))); all_goals rfl)⟩, ⟨by rw [ht]; exact hP9, hD9⟩⟩, hS.F ht⟩) hS.2.2 dX11_readMore_218
        · skip
          have t_c1 := eqI c1
          have t_n80 := n80
          have t_c81 := neI c81
          have t_c90 := eqI c90
          have : (0 : Int32).toInt = 0 := qI_0
          have : (1 : Int32).toInt = 1 := qI_1
          have t_n0 : (nI N).toInt = (N : Int) := tn1351_ ()
          have t_n1 : (nI B).toInt = (B : Int) := tn1352_ ()
          have t_n2 : (nI nrs).toInt = (nrs : Int) := tn1367_ ()
          have t_n3 : (nI T).toInt = (T : Int) := tn1353_ ()
          have t_n4 : (nI nsp).toInt = (nsp : Int) := tn1368_ ()
          have t_n5 : (nI nhe).toInt = (nhe : Int) := tn1369_ ()
          have t_n6 : (nI S).toInt = (S : Int) := tn1354_ ()
          have t_n7 : (nI M).toInt = (M : Int) := tn1355_ ()
          exfalso; omega
      · skip
        have t_c1 := eqI c1
        have t_n80 := n80
        have t_c81 := eqI c81
        have : (0 : Int32).toInt = 0 := qI_0
        have : (1 : Int32).toInt = 1 := qI_1
        have t_n0 : (nI N).toInt = (N : Int) := tn1351_ ()
        have t_n1 : (nI B).toInt = (B : Int) := tn1352_ ()
        have t_n2 : (nI nrs).toInt = (nrs : Int) := tn1367_ ()
        have t_n3 : (nI T).toInt = (T : Int) := tn1353_ ()
        have tn1370_ : nIT nsp := fun _ => nI_toInt (by omega)
        have t_n4 : (nI nsp).toInt = (nsp : Int) := tn1370_ ()
        have tn1371_ : nIT nhe := fun _ => nI_toInt (by omega)
        have t_n5 : (nI nhe).toInt = (nhe : Int) := tn1371_ ()
        have t_n6 : (nI S).toInt = (S : Int) := tn1354_ ()
        have t_n7 : (nI M).toInt = (M : Int) := tn1355_ ()
        exfalso; omega
    · skip
      have tn1372_ : nIT nrs := fun _ => nI_toInt (by first | omega | (have t := eqI c79; omega))
      have n125 : nrs = 10 := by have t := eqI c79; rw [show (nI (nrs)).toInt = ((nrs : Nat) : Int) from tn1372_ ()] at t; have : (10 : Int32).toInt = 10 := qI_10; omega
      refine lv_aload_n hx hb dX11_readMore_14 rfl (lv_at hl 0 rfl) ?_
      refine lv_iconst (v := 5) hx hb dX11_readMore_15 rfl ?_
      obtain ⟨hPc, hDc, hFc⟩ := va_sub3 (ws' := [(h0, .inr (11, [.ref st, .int (nI N), .int (nI B), .ref rp, .int (nI nrs), .int vrb, .int vhs, .int vca, .int vxs, .int vxb, .ref tp, .int (nI T), .int vfa, .int vbr, .int vba, .int (nI nsp), .int (nI nhe), .int vtk, .int vva, .ref cu, .ref lt, .ref od, .ref th, .ref be, .ref ln, .int (nI S), .ref ma, .int (nI M), .ref ah, .ref bh, .ref ik, .ref la, .ref lg, .ref ce, .int vto]))]) hP hD hS hA [0] (by decide) rfl
      have tn1373_ : nIT nsp := fun _ => nI_toInt (by first | omega | (have t_c1 := eqI c1; have t_n125 := n125; have : (1 : Int32).toInt = 1 := qI_1; omega))
      have tn1374_ : nIT nhe := fun _ => nI_toInt (by first | omega | (have t_c1 := eqI c1; have t_n125 := n125; have : (1 : Int32).toInt = 1 := qI_1; omega))
      refine va_callv (va_runV (As := [.int 5]) (rest := []) ⟨hx, hb, hml, hown, hg⟩ (c_X11_failsE l dC dI G _ h0 st N B rp tp T nhe cu lt od th be ln S ma M ah bh ik la lg ce 5 (nI nrs) vrb vhs vca vxs vxb vfa vbr vba (nI nsp) vtk vva vto hN hB_ hT_ hS0 hM_ (by have t_c1 := eqI c1; have t_n125 := n125; have : (1 : Int32).toInt = 1 := qI_1; have tnb_ := nib8 tn1351_ tn1352_ tn1372_ tn1353_ tn1373_ tn1374_ tn1354_ tn1355_; have tqz_ := qz45_; omega) hbr (by first | omega | (have t_c1 := eqI c1; have t_n125 := n125; have : (1 : Int32).toInt = 1 := qI_1; have tnb_ := nib8 tn1351_ tn1352_ tn1372_ tn1353_ tn1373_ tn1374_ tn1354_ tn1355_; have tqz_ := qz45_; omega))) (kwV hg mfX11_fails wt_1011 ⟨Nat.le_of_ble_eq_true rfl, Nat.le_of_ble_eq_true rfl⟩) (preVW hK hPc hDc (ci := 11) (r := (RX11, TX11, 35)) rfl rfl) rfl rfl hl.1 rfl (lv_room (Nat.le_of_ble_eq_true rfl)) dX11_readMore_16 ⟨Nat.le_of_ble_eq_true rfl, Nat.le_of_ble_eq_true rfl⟩) hS (fun q _ h => hFc q h) hFc (fun ur126 t H1 locs ht hvm w127 hB hz1 hk1 hS => ?_)
      obtain ⟨u128, u129⟩ := ur126
      obtain ⟨hP1, hD1⟩ := hB
      rw [ht] at hP1
      obtain ⟨hP, hD⟩ := va_join (wr := [(tp, .inl (G 0, 320, .inl ftp)), (rp, .inl (G 0, 49, .inl frp))]) (w1 := [(h0, .inr (11, [.ref st, .int (nI N), .int (nI B), .ref rp, .int (nI nrs), .int vrb, .int vhs, .int vca, .int vxs, .int vxb, .ref tp, .int (nI T), .int vfa, .int u128, .int u129, .int (nI nsp), .int (nI nhe), .int vtk, .int vva, .ref cu, .ref lt, .ref od, .ref th, .ref be, .ref ln, .int (nI S), .ref ma, .int (nI M), .ref ah, .ref bh, .ref ik, .ref la, .ref lg, .ref ce, .int vto]))]) hP hD [0] [1, 2] rfl rfl (by decide) (by decide) hk1 hFc hP1 hD1
      have w127 : 0 < u128.toInt ∧ u128 = flB (5 : Int32) vbr ∧ u129 = flA vbr vba nhe := w127
      generalize H1 = H at hP hS ⊢
      have ew127 : fT 5 (vbr, vba, nsp, nhe, vtk, vva) = (u128, u129, nsp, nhe, vtk, vva) := (by show (flB _ _, flA _ _ _, _, _, _, _) = _; rw [← w127.2.1, ← w127.2.2])
      refine lv_iload_n hx hb dX11_readMore_19 rfl (lv_at hl 1 rfl) ?_
      refine lv_if_ne (tgt := 35) hx hb dX11_readMore_20 rfl (fun c130 => ?_) (fun c130 => ?_)
      · skip
        refine lv_aload_n hx hb dX11_readMore_35 rfl (lv_at hl 0 rfl) ?_
        obtain ⟨hPc, hDc, hFc⟩ := va_sub3 (ws' := [(h0, .inr (11, [.ref st, .int (nI N), .int (nI B), .ref rp, .int (nI nrs), .int vrb, .int vhs, .int vca, .int vxs, .int vxb, .ref tp, .int (nI T), .int vfa, .int u128, .int u129, .int (nI nsp), .int (nI nhe), .int vtk, .int vva, .ref cu, .ref lt, .ref od, .ref th, .ref be, .ref ln, .int (nI S), .ref ma, .int (nI M), .ref ah, .ref bh, .ref ik, .ref la, .ref lg, .ref ce, .int vto])), (tp, .inl (G 0, 320, .inl ftp))]) hP hD hS hA [2, 0] (by decide) rfl
        refine va_callv (va_runV (As := []) (rest := []) ⟨hx, hb, hml, hown, hg⟩ (c_X11_goesOnE l dC dI G _ h0 st N B rp tp T nsp nhe cu lt od th be ln S ma M ah bh ik la lg ce (nI nrs) vrb vhs vca vxs vxb vfa u128 u129 vtk vva vto ftp hN hB_ hT_ hS0 hM_ (by have t_c1 := eqI c1; have t_n125 := n125; have t_w127 := w127.1; have t_c130 := neI c130; have tqz_ := qz2_; have tnb_ := nib8 tn1351_ tn1352_ tn1372_ tn1353_ tn1373_ tn1374_ tn1354_ tn1355_; have tqz_ := qz41_; omega) hsp (by have t_c1 := eqI c1; have t_n125 := n125; have t_w127 := w127.1; have t_c130 := neI c130; have tqz_ := qz2_; have tnb_ := nib8 tn1351_ tn1352_ tn1372_ tn1353_ tn1373_ tn1374_ tn1354_ tn1355_; have tqz_ := qz41_; omega) htb) (kwV hg mfX11_goesOn wt_999 ⟨Nat.le_of_ble_eq_true rfl, Nat.le_of_ble_eq_true rfl⟩) (preVW hK hPc hDc (ci := 11) (r := (RX11, TX11, 35)) rfl rfl) rfl rfl hl.1 rfl (lv_room (Nat.le_of_ble_eq_true rfl)) dX11_readMore_36 ⟨Nat.le_of_ble_eq_true rfl, Nat.le_of_ble_eq_true rfl⟩) hS (fun q _ h => hFc q h) hFc (fun ur131 t H1 locs ht hvm w132 hB hz1 hk1 hS => ?_)
        obtain ⟨u133, u134, u135, u136, u137, u138⟩ := ur131
        obtain ⟨hP1, hD1⟩ := hB
        rw [ht] at hP1
        obtain ⟨hP, hD⟩ := va_join (wr := [(rp, .inl (G 0, 49, .inl frp))]) (w1 := [(h0, .inr (11, [.ref st, .int (nI N), .int (nI B), .ref rp, .int (nI nrs), .int vrb, .int vhs, .int vca, .int vxs, .int vxb, .ref tp, .int (nI T), .int vfa, .int u133, .int u134, .int (nI u135), .int (nI u136), .int u137, .int u138, .ref cu, .ref lt, .ref od, .ref th, .ref be, .ref ln, .int (nI S), .ref ma, .int (nI M), .ref ah, .ref bh, .ref ik, .ref la, .ref lg, .ref ce, .int vto])), (tp, .inl (G 0, 320, .inl ftp))]) hP hD [2, 0] [1] rfl rfl (by decide) (by decide) hk1 hFc hP1 hD1
        have w132 : 0 ≤ u133.toInt ∧ (u128.toInt = 0 ∨ u133.toInt = u128.toInt) ∧ nsp ≤ u135 ∧ u135 ≤ T ∧ u136 ≤ u135 ∧ (0 < u128.toInt ∨ u137.toInt = 0 ∨ nsp < u135) ∧ (u133, u134, u135, u136, u137, u138) = gOn ftp T u128 u129 nsp nhe vtk vva := w132
        generalize H1 = H at hP hS ⊢
        have ew132 : gT ftp T (u128, u129, nsp, nhe, vtk, vva) = (u133, u134, u135, u136, u137, u138) := w132.2.2.2.2.2.2.symm
        refine lv_iload_n hx hb dX11_readMore_39 rfl (lv_at hl 1 rfl) ?_
        refine lv_if_ne (tgt := 68) hx hb dX11_readMore_40 rfl (fun c139 => ?_) (fun c139 => ?_)
        · skip
          refine lv_iload_n hx hb dX11_readMore_68 rfl (lv_at hl 1 rfl) ?_
          refine lv_iconst (v := 1) hx hb dX11_readMore_69 rfl ?_
          refine lv_icmp_ne (tgt := 136) hx hb dX11_readMore_70 rfl (fun c140 => ?_) (fun c140 => ?_)
          · skip
            have t_c1 := eqI c1
            have t_n125 := n125
            have t_w127 := w127.1
            have t_c130 := neI c130
            have t_c139 := neI c139
            have t_c140 := neI c140
            have : (0 : Int32).toInt = 0 := qI_0
            have : (1 : Int32).toInt = 1 := qI_1
            have t_n0 : (nI N).toInt = (N : Int) := tn1351_ ()
            have t_n1 : (nI B).toInt = (B : Int) := tn1352_ ()
            have t_n2 : (nI nrs).toInt = (nrs : Int) := tn1372_ ()
            have t_n3 : (nI T).toInt = (T : Int) := tn1353_ ()
            have t_n4 : (nI nsp).toInt = (nsp : Int) := tn1373_ ()
            have t_n5 : (nI nhe).toInt = (nhe : Int) := tn1374_ ()
            have t_n6 : (nI S).toInt = (S : Int) := tn1354_ ()
            have t_n7 : (nI M).toInt = (M : Int) := tn1355_ ()
            exfalso; omega
          · skip
            refine lv_aload_n hx hb dX11_readMore_73 rfl (lv_at hl 0 rfl) ?_
            refine va_get (D := (dC, dI)) (ci := 11) (v := .int u133) (C := RX11) (T := TX11) (N := 35) hx hb hg inG11 hown hK.1 hP 1 rfl rfl 13 (Nat.le_of_ble_eq_true rfl) (hg _ wt_891) (fun _ h9 => h9) rfl dX11_readMore_74 ?_
            refine lv_if_ne (tgt := 87) hx hb dX11_readMore_77 rfl (fun c141 => ?_) (fun c141 => ?_)
            · skip
              refine lv_iconst (v := 0) hx hb dX11_readMore_87 rfl ?_
              refine lv_istore_n (lv' := [(2, .int 0), (0, .ref h0), (1, .int nm)]) hx hb dX11_readMore_88 rfl hl (by decide) rfl (fun ls hl => ?_)
              refine lv_aload_n hx hb dX11_readMore_89 rfl (lv_at hl 1 rfl) ?_
              refine va_get (D := (dC, dI)) (ci := 11) (v := .ref rp) (C := RX11) (T := TX11) (N := 35) hx hb hg inG11 hown hK.1 hP 1 rfl rfl 3 (Nat.le_of_ble_eq_true rfl) (hg _ wt_881) (fun _ h9 => h9) rfl dX11_readMore_90 ?_
              refine lv_iconst (v := 2) hx hb dX11_readMore_93 rfl ?_
              refine lv_iload_n hx hb dX11_readMore_94 rfl (lv_at hl 0 rfl) ?_
              refine lv_imul hx hb dX11_readMore_95 ?_
              refine lv_cg (y := 0) (by decide) ?_
              refine lv_aload_n hx hb dX11_readMore_96 rfl (lv_at hl 1 rfl) ?_
              refine lv_iconst (v := 0) hx hb dX11_readMore_97 rfl ?_
              refine lv_bipush (v := 9) hx hb dX11_readMore_98 rfl ?_
              refine lv_iconst (v := 0) hx hb dX11_readMore_100 rfl ?_
              obtain ⟨hPc, hDc, hFc⟩ := va_sub3 (ws' := [(h0, .inr (11, [.ref st, .int (nI N), .int (nI B), .ref rp, .int (nI nrs), .int vrb, .int vhs, .int vca, .int vxs, .int vxb, .ref tp, .int (nI T), .int vfa, .int u133, .int u134, .int (nI u135), .int (nI u136), .int u137, .int u138, .ref cu, .ref lt, .ref od, .ref th, .ref be, .ref ln, .int (nI S), .ref ma, .int (nI M), .ref ah, .ref bh, .ref ik, .ref la, .ref lg, .ref ce, .int vto])), (tp, .inl (G 0, 320, .inl ftp))]) hP hD hS hA [1, 2] (by decide) rfl
              refine va_calli (va_runV (As := [.int 0, .int 9, .int 0]) (rest := [.int 0, .ref rp]) ⟨hx, hb, hml, hown, hg⟩ (c_X11_otherE l dC dI G _ h0 st N B rp tp T u135 u136 cu lt od th be ln S ma M ah bh ik la lg ce 0 9 0 (nI nrs) vrb vhs vca vxs vxb vfa u133 u134 u137 u138 vto ftp hN hB_ hT_ hS0 hM_ (by have t_c1 := eqI c1; have t_n125 := n125; have t_w127 := w127.1; have t_c130 := neI c130; have t_c139 := neI c139; have t_c140 := eqI c140; have t_c141 := neI c141; have tqz_ := qz2_; have tnb_ := nib8 tn1351_ tn1352_ tn1372_ tn1353_ tn1373_ tn1374_ tn1354_ tn1355_; have tqz_ := qz41_; omega) (by first | omega | (have t_c1 := eqI c1; have t_n125 := n125; have t_w127 := w127.1; have t_c130 := neI c130; have t_c139 := neI c139; have t_c140 := eqI c140; have t_c141 := neI c141; have tqz_ := qz2_; have tnb_ := nib8 tn1351_ tn1352_ tn1372_ tn1353_ tn1373_ tn1374_ tn1354_ tn1355_; have tqz_ := qz41_; omega)) (by first | omega | (have t_c1 := eqI c1; have t_n125 := n125; have t_w127 := w127.1; have t_c130 := neI c130; have t_c139 := neI c139; have t_c140 := eqI c140; have t_c141 := neI c141; have tqz_ := qz2_; have tnb_ := nib8 tn1351_ tn1352_ tn1372_ tn1353_ tn1373_ tn1374_ tn1354_ tn1355_; have tqz_ := qz41_; omega)) (by have t_c1 := eqI c1; have t_n125 := n125; have t_w127 := w127.1; have t_c130 := neI c130; have t_c139 := neI c139; have t_c140 := eqI c140; have t_c141 := neI c141; have tqz_ := qz2_; have tnb_ := nib8 tn1351_ tn1352_ tn1372_ tn1353_ tn1373_ tn1374_ tn1354_ tn1355_; have tqz_ := qz41_; omega) htb) (kwV hg mfX11_other wt_1028 ⟨Nat.le_of_ble_eq_true rfl, Nat.le_of_ble_eq_true rfl⟩) (preVW hK hPc hDc (ci := 11) (r := (RX11, TX11, 35)) rfl rfl) rfl rfl hl.1 rfl (lv_room (Nat.le_of_ble_eq_true rfl)) dX11_readMore_101 ⟨Nat.le_of_ble_eq_true rfl, Nat.le_of_ble_eq_true rfl⟩) hS (fun q _ h => hFc q h) hFc (fun r142 ur142 t H1 locs ht hvm w143 hB hz1 hk1 hS => ?_)
              obtain ⟨u144, u145, u146, u147, u148, u149⟩ := ur142
              obtain ⟨hP1, hD1⟩ := hB
              rw [ht] at hP1
              obtain ⟨hP, hD⟩ := va_join (wr := [(rp, .inl (G 0, 49, .inl frp))]) (w1 := [(h0, .inr (11, [.ref st, .int (nI N), .int (nI B), .ref rp, .int (nI nrs), .int vrb, .int vhs, .int vca, .int vxs, .int vxb, .ref tp, .int (nI T), .int vfa, .int u144, .int u145, .int (nI u146), .int (nI u147), .int u148, .int u149, .ref cu, .ref lt, .ref od, .ref th, .ref be, .ref ln, .int (nI S), .ref ma, .int (nI M), .ref ah, .ref bh, .ref ik, .ref la, .ref lg, .ref ce, .int vto])), (tp, .inl (G 0, 320, .inl ftp))]) hP hD [1, 2] [0] rfl rfl (by decide) (by decide) hk1 hFc hP1 hD1
              generalize H1 = H at hP hS ⊢
              obtain ⟨w143, w143x⟩ := w143
              have vw143 : oV 0 9 0 (u133, u134, u135, u136, u137, u138) = r142 := w143.2.symm
              have ew143 : oS ftp T 0 9 0 (u133, u134, u135, u136, u137, u138) = (u144, u145, u146, u147, u148, u149) := w143x.2.2.2.2.2.2.symm
              refine va_iast hx hb hK.1 hP hD hS 0 0 rfl rfl (vp_in_iff.mpr ⟨by decide, by decide⟩) dX11_readMore_104 (fun H locs hP hD hS => ?_)
              refine lv_aload_n hx hb dX11_readMore_105 rfl (lv_at hl 1 rfl) ?_
              refine va_get (D := (dC, dI)) (ci := 11) (v := .ref rp) (C := RX11) (T := TX11) (N := 35) hx hb hg inG11 hown hK.1 hP 1 rfl rfl 3 (Nat.le_of_ble_eq_true rfl) (hg _ wt_881) (fun _ h9 => h9) rfl dX11_readMore_106 ?_
              refine lv_iconst (v := 2) hx hb dX11_readMore_109 rfl ?_
              refine lv_iload_n hx hb dX11_readMore_110 rfl (lv_at hl 0 rfl) ?_
              refine lv_imul hx hb dX11_readMore_111 ?_
              refine lv_cg (y := 0) (by decide) ?_
              refine lv_iconst (v := 1) hx hb dX11_readMore_112 rfl ?_
              refine lv_iadd hx hb dX11_readMore_113 ?_
              refine lv_cg (y := 1) (by decide) ?_
              refine lv_aload_n hx hb dX11_readMore_114 rfl (lv_at hl 1 rfl) ?_
              refine lv_iconst (v := 0) hx hb dX11_readMore_115 rfl ?_
              refine lv_bipush (v := 9) hx hb dX11_readMore_116 rfl ?_
              refine lv_iconst (v := 0) hx hb dX11_readMore_118 rfl ?_
              obtain ⟨hPc, hDc, hFc⟩ := va_sub3 (ws' := [(h0, .inr (11, [.ref st, .int (nI N), .int (nI B), .ref rp, .int (nI nrs), .int vrb, .int vhs, .int vca, .int vxs, .int vxb, .ref tp, .int (nI T), .int vfa, .int u144, .int u145, .int (nI u146), .int (nI u147), .int u148, .int u149, .ref cu, .ref lt, .ref od, .ref th, .ref be, .ref ln, .int (nI S), .ref ma, .int (nI M), .ref ah, .ref bh, .ref ik, .ref la, .ref lg, .ref ce, .int vto])), (tp, .inl (G 0, 320, .inl ftp))]) hP hD hS hA [1, 2] (by decide) rfl
              refine va_calli (va_runV (As := [.int 0, .int 9, .int 0]) (rest := [.int 1, .ref rp]) ⟨hx, hb, hml, hown, hg⟩ (c_X11_otherE l dC dI G _ h0 st N B rp tp T u146 u147 cu lt od th be ln S ma M ah bh ik la lg ce 0 9 0 (nI nrs) vrb vhs vca vxs vxb vfa u144 u145 u148 u149 vto ftp hN hB_ hT_ hS0 hM_ (by have t_c1 := eqI c1; have t_n125 := n125; have t_w127 := w127.1; have t_c130 := neI c130; have t_c139 := neI c139; have t_c140 := eqI c140; have t_c141 := neI c141; have tqz_ := qz2_; have tnb_ := nib8 tn1351_ tn1352_ tn1372_ tn1353_ tn1373_ tn1374_ tn1354_ tn1355_; have tqz_ := qz41_; omega) (by first | omega | (have t_c1 := eqI c1; have t_n125 := n125; have t_w127 := w127.1; have t_c130 := neI c130; have t_c139 := neI c139; have t_c140 := eqI c140; have t_c141 := neI c141; have tqz_ := qz2_; have tnb_ := nib8 tn1351_ tn1352_ tn1372_ tn1353_ tn1373_ tn1374_ tn1354_ tn1355_; have tqz_ := qz41_; omega)) (by first | omega | (have t_c1 := eqI c1; have t_n125 := n125; have t_w127 := w127.1; have t_c130 := neI c130; have t_c139 := neI c139; have t_c140 := eqI c140; have t_c141 := neI c141; have tqz_ := qz2_; have tnb_ := nib8 tn1351_ tn1352_ tn1372_ tn1353_ tn1373_ tn1374_ tn1354_ tn1355_; have tqz_ := qz41_; omega)) (by have t_c1 := eqI c1; have t_n125 := n125; have t_w127 := w127.1; have t_c130 := neI c130; have t_c139 := neI c139; have t_c140 := eqI c140; have t_c141 := neI c141; have tqz_ := qz2_; have tnb_ := nib8 tn1351_ tn1352_ tn1372_ tn1353_ tn1373_ tn1374_ tn1354_ tn1355_; have tqz_ := qz41_; omega) htb) (kwV hg mfX11_other wt_1028 ⟨Nat.le_of_ble_eq_true rfl, Nat.le_of_ble_eq_true rfl⟩) (preVW hK hPc hDc (ci := 11) (r := (RX11, TX11, 35)) rfl rfl) rfl rfl hl.1 rfl (lv_room (Nat.le_of_ble_eq_true rfl)) dX11_readMore_119 ⟨Nat.le_of_ble_eq_true rfl, Nat.le_of_ble_eq_true rfl⟩) hS (fun q _ h => hFc q h) hFc (fun r150 ur150 t H1 locs ht hvm w151 hB hz1 hk1 hS => ?_)
              obtain ⟨u152, u153, u154, u155, u156, u157⟩ := ur150
              obtain ⟨hP1, hD1⟩ := hB
              rw [ht] at hP1
              obtain ⟨hP, hD⟩ := va_join (wr := [(rp, .inl (G 0, 49, .inl (upd frp 0 r142)))]) (w1 := [(h0, .inr (11, [.ref st, .int (nI N), .int (nI B), .ref rp, .int (nI nrs), .int vrb, .int vhs, .int vca, .int vxs, .int vxb, .ref tp, .int (nI T), .int vfa, .int u152, .int u153, .int (nI u154), .int (nI u155), .int u156, .int u157, .ref cu, .ref lt, .ref od, .ref th, .ref be, .ref ln, .int (nI S), .ref ma, .int (nI M), .ref ah, .ref bh, .ref ik, .ref la, .ref lg, .ref ce, .int vto])), (tp, .inl (G 0, 320, .inl ftp))]) hP hD [1, 2] [0] rfl rfl (by decide) (by decide) hk1 hFc hP1 hD1
              generalize H1 = H at hP hS ⊢
              obtain ⟨w151, w151x⟩ := w151
              have vw151 : oV 0 9 0 (u144, u145, u146, u147, u148, u149) = r150 := w151.2.symm
              have ew151 : oS ftp T 0 9 0 (u144, u145, u146, u147, u148, u149) = (u152, u153, u154, u155, u156, u157) := w151x.2.2.2.2.2.2.symm
              refine va_iast hx hb hK.1 hP hD hS 0 0 rfl rfl (vp_in_iff.mpr ⟨by decide, by decide⟩) dX11_readMore_122 (fun H locs hP hD hS => ?_)
              refine lv_aload_n hx hb dX11_readMore_123 rfl (lv_at hl 1 rfl) ?_
              refine lv_dup hx hb dX11_readMore_124 rfl ?_
              refine va_get (D := (dC, dI)) (ci := 11) (v := .int (nI nrs)) (C := RX11) (T := TX11) (N := 35) hx hb hg inG11 hown hK.1 hP 1 rfl rfl 4 (Nat.le_of_ble_eq_true rfl) (hg _ wt_882) (fun _ h9 => h9) rfl dX11_readMore_125 ?_
              refine lv_iconst (v := 1) hx hb dX11_readMore_128 rfl ?_
              refine lv_iadd hx hb dX11_readMore_129 ?_
              refine lv_cg (y := nI (nrs + 1)) (by rw [show (1 : Int32) = nI 1 from rfl]; exact nI_add _ _) ?_
              refine va_put (D := (dC, dI)) (ci := 11) (v := .int (nI (nrs + 1))) (ty := .int) (C := RX11) (T := TX11) (N := 35) hx hb hg inG11 tyX11 tyX11_ok nmX11 hown hK.1 hP hD hS 1 rfl rfl 4 (Nat.le_of_ble_eq_true rfl) (hg _ wt_882) (fun _ h9 => h9) rfl (by decide +kernel) rfl rfl (Nat.le_of_ble_eq_true rfl) dX11_readMore_130 (fun H locs hP hD hS => ?_)
              refine lv_goto (tgt := 218) hx hb dX11_readMore_133 rfl ?_
              obtain ⟨hP9, hD9⟩ := va_sub2 (ws' := [(h0, .inr (11, [.ref st, .int (nI N), .int (nI B), .ref rp, .int (nI (nrs + 1)), .int vrb, .int vhs, .int vca, .int vxs, .int vxb, .ref tp, .int (nI T), .int vfa, .int u152, .int u153, .int (nI u154), .int (nI u155), .int u156, .int u157, .ref cu, .ref lt, .ref od, .ref th, .ref be, .ref ln, .int (nI S), .ref ma, .int (nI M), .ref ah, .ref bh, .ref ik, .ref la, .ref lg, .ref ce, .int vto])), (tp, .inl (G 0, 320, .inl ftp)), (rp, .inl (G 0, 49, .inl (upd (upd frp 0 r142) 1 r150)))]) hP hD [1, 2, 0] (by decide) rfl
              refine W.widen (k := 0) (n := 0) (Nat.le_of_ble_eq_true rfl) (Nat.le_of_ble_eq_true rfl) ?_
              exact W.vret hx hb hr (fun t ht hW => ⟨⟨(u152, u153, u154, u155, u156, u157, (nrs + 1), vhs, vca, vxs, vxb, (upd (upd frp 0 r142) 1 r150)), rfl, ⟨⟨(OKP.upd (OKP.upd hrp (by have t_c1 := eqI c1; have t_n125 := n125; have t_w127 := w127.1; have t_c130 := neI c130; have t_c139 := neI c139; have t_c140 := eqI c140; have t_c141 := neI c141; have tqz_ := qz2_; have tnb_ := nib8 tn1351_ tn1352_ tn1372_ tn1353_ tn1373_ tn1374_ tn1354_ tn1355_; have tqz_ := qz41_; first | exact okS_lo (by omega) (by omega) (by omega) | exact okS_or (by omega) (by omega) (by omega) (by omega) | exact okS_sd (by omega) (by omega))) (by have t_c1 := eqI c1; have t_n125 := n125; have t_w127 := w127.1; have t_c130 := neI c130; have t_c139 := neI c139; have t_c140 := eqI c140; have t_c141 := neI c141; have tqz_ := qz2_; have tnb_ := nib8 tn1351_ tn1352_ tn1372_ tn1353_ tn1373_ tn1374_ tn1354_ tn1355_; have tqz_ := qz41_; first | exact okS_lo (by omega) (by omega) (by omega) | exact okS_or (by omega) (by omega) (by omega) (by omega) | exact okS_sd (by omega) (by omega))), (by have t_c1 := eqI c1; have t_n125 := n125; have t_w127 := w127.1; have t_c130 := neI c130; have t_c139 := neI c139; have t_c140 := eqI c140; have t_c141 := neI c141; have tqz_ := qz2_; have tnb_ := nib8 tn1351_ tn1352_ tn1372_ tn1353_ tn1373_ tn1374_ tn1354_ tn1355_; have tqz_ := qz41_; omega)⟩, (by unfold rmS; (try (repeat (first | rw [if_pos (by with_reducible assumption)] | rw [if_neg (by with_reducible assumption)] | rw [if_pos (by (have t_c1 := eqI c1; have t_n125 := n125; have t_w127 := w127.1; have t_c130 := neI c130; have t_c139 := neI c139; have t_c140 := eqI c140; have t_c141 := neI c141; have tqz_ := qz2_; have tnb_ := nib8 tn1351_ tn1352_ tn1372_ tn1353_ tn1373_ tn1374_ tn1354_ tn1355_; have tqz_ := qz41_; omega))] | rw [if_neg (by (have t_c1 := eqI c1; have t_n125 := n125; have t_w127 := w127.1; have t_c130 := neI c130; have t_c139 := neI c139; have t_c140 := eqI c140; have t_c141 := neI c141; have tqz_ := qz2_; have tnb_ := nib8 tn1351_ tn1352_ tn1372_ tn1353_ tn1373_ tn1374_ tn1354_ tn1355_; have tqz_ := qz41_; omega))] | rw [if_pos (by decide)] | rw [if_neg (by decide)]))); unfold rmA; (try (repeat (first | rw [if_pos (by with_reducible assumption)] | rw [if_neg (by with_reducible assumption)] | rw [if_pos (by (have t_c1 := eqI c1; have t_n125 := n125; have t_w127 := w127.1; have t_c130 := neI c130; have t_c139 := neI c139; have t_c140 := eqI c140; have t_c141 := neI c141; have tqz_ := qz2_; have tnb_ := nib8 tn1351_ tn1352_ tn1372_ tn1353_ tn1373_ tn1374_ tn1354_ tn1355_; have tqz_ := qz41_; omega))] | rw [if_neg (by (have t_c1 := eqI c1; have t_n125 := n125; have t_w127 := w127.1; have t_c130 := neI c130; have t_c139 := neI c139; have t_c140 := eqI c140; have t_c141 := neI c141; have tqz_ := qz2_; have tnb_ := nib8 tn1351_ tn1352_ tn1372_ tn1353_ tn1373_ tn1374_ tn1354_ tn1355_; have tqz_ := qz41_; omega))] | rw [if_pos (by decide)] | rw [if_neg (by decide)]))); (try rw [ew127]); (try rw [ew132]); (try rw [vw143]); (try rw [ew143]); (try rw [vw151]); (try rw [ew151]); (try unfold rmI); (try (repeat (first | rw [if_pos (by with_reducible assumption)] | rw [if_neg (by with_reducible assumption)] | rw [if_pos (by (have t_c1 := eqI c1; have t_n125 := n125; have t_w127 := w127.1; have t_c130 := neI c130; have t_c139 := neI c139; have t_c140 := eqI c140; have t_c141 := neI c141; have tqz_ := qz2_; have tnb_ := nib8 tn1351_ tn1352_ tn1372_ tn1353_ tn1373_ tn1374_ tn1354_ tn1355_; have tqz_ := qz41_; omega))] | rw [if_neg (by (have t_c1 := eqI c1; have t_n125 := n125; have t_w127 := w127.1; have t_c130 := neI c130; have t_c139 := neI c139; have t_c140 := eqI c140; have t_c141 := neI c141; have tqz_ := qz2_; have tnb_ := nib8 tn1351_ tn1352_ tn1372_ tn1353_ tn1373_ tn1374_ tn1354_ tn1355_; have tqz_ := qz41_; omega))] | rw [if_pos (by decide)] | rw [if_neg (by decide)]))); (try rw [eio9]); (try rw [nI_clamp (by (have t_c1 := eqI c1; have t_n125 := n125; have t_w127 := w127.1; have t_c130 := neI c130; have t_c139 := neI c139; have t_c140 := eqI c140; have t_c141 := neI c141; have tqz_ := qz2_; have tnb_ := nib8 tn1351_ tn1352_ tn1372_ tn1353_ tn1373_ tn1374_ tn1354_ tn1355_; have tqz_ := qz41_; omega))]); (try unfold rmX); (try (repeat (first | rw [if_pos (by with_reducible assumption)] | rw [if_neg (by with_reducible assumption)] | rw [if_pos (by (have t_c1 := eqI c1; have t_n125 := n125; have t_w127 := w127.1; have t_c130 := neI c130; have t_c139 := neI c139; have t_c140 := eqI c140; have t_c141 := neI c141; have tqz_ := qz2_; have tnb_ := nib8 tn1351_ tn1352_ tn1372_ tn1353_ tn1373_ tn1374_ tn1354_ tn1355_; have tqz_ := qz41_; omega))] | rw [if_neg (by (have t_c1 := eqI c1; have t_n125 := n125; have t_w127 := w127.1; have t_c130 := neI c130; have t_c139 := neI c139; have t_c140 := eqI c140; have t_c141 := neI c141; have tqz_ := qz2_; have tnb_ := nib8 tn1351_ tn1352_ tn1372_ tn1353_ tn1373_ tn1374_ tn1354_ tn1355_; have tqz_ := qz41_; omega))] | rw [if_pos (by decide)] | rw [if_neg (by decide)]))); all_goals rfl)⟩, ⟨by rw [ht]; exact hP9, hD9⟩⟩, hS.F ht⟩) hS.2.2 dX11_readMore_218
            · skip
              refine lv_aload_n hx hb dX11_readMore_80 rfl (lv_at hl 0 rfl) ?_
              refine va_get (D := (dC, dI)) (ci := 11) (v := .int (nI nrs)) (C := RX11) (T := TX11) (N := 35) hx hb hg inG11 hown hK.1 hP 1 rfl rfl 4 (Nat.le_of_ble_eq_true rfl) (hg _ wt_882) (fun _ h9 => h9) rfl dX11_readMore_81 ?_
              refine lv_goto (tgt := 88) hx hb dX11_readMore_84 rfl ?_
              refine lv_istore_n (lv' := [(2, .int (nI nrs)), (0, .ref h0), (1, .int nm)]) hx hb dX11_readMore_88 rfl hl (by decide) rfl (fun ls hl => ?_)
              refine lv_aload_n hx hb dX11_readMore_89 rfl (lv_at hl 1 rfl) ?_
              refine va_get (D := (dC, dI)) (ci := 11) (v := .ref rp) (C := RX11) (T := TX11) (N := 35) hx hb hg inG11 hown hK.1 hP 1 rfl rfl 3 (Nat.le_of_ble_eq_true rfl) (hg _ wt_881) (fun _ h9 => h9) rfl dX11_readMore_90 ?_
              refine lv_iconst (v := 2) hx hb dX11_readMore_93 rfl ?_
              refine lv_iload_n hx hb dX11_readMore_94 rfl (lv_at hl 0 rfl) ?_
              refine lv_imul hx hb dX11_readMore_95 ?_
              refine lv_cg (y := nI (2 * nrs)) (by rw [show (2 : Int32) = nI 2 from rfl]; exact pk_mul _ _) ?_
              refine lv_aload_n hx hb dX11_readMore_96 rfl (lv_at hl 1 rfl) ?_
              refine lv_iconst (v := 0) hx hb dX11_readMore_97 rfl ?_
              refine lv_bipush (v := 9) hx hb dX11_readMore_98 rfl ?_
              refine lv_iconst (v := 0) hx hb dX11_readMore_100 rfl ?_
              obtain ⟨hPc, hDc, hFc⟩ := va_sub3 (ws' := [(h0, .inr (11, [.ref st, .int (nI N), .int (nI B), .ref rp, .int (nI nrs), .int vrb, .int vhs, .int vca, .int vxs, .int vxb, .ref tp, .int (nI T), .int vfa, .int u133, .int u134, .int (nI u135), .int (nI u136), .int u137, .int u138, .ref cu, .ref lt, .ref od, .ref th, .ref be, .ref ln, .int (nI S), .ref ma, .int (nI M), .ref ah, .ref bh, .ref ik, .ref la, .ref lg, .ref ce, .int vto])), (tp, .inl (G 0, 320, .inl ftp))]) hP hD hS hA [1, 2] (by decide) rfl
              refine va_calli (va_runV (As := [.int 0, .int 9, .int 0]) (rest := [.int (nI (2 * nrs)), .ref rp]) ⟨hx, hb, hml, hown, hg⟩ (c_X11_otherE l dC dI G _ h0 st N B rp tp T u135 u136 cu lt od th be ln S ma M ah bh ik la lg ce 0 9 0 (nI nrs) vrb vhs vca vxs vxb vfa u133 u134 u137 u138 vto ftp hN hB_ hT_ hS0 hM_ (by have t_c1 := eqI c1; have t_n125 := n125; have t_w127 := w127.1; have t_c130 := neI c130; have t_c139 := neI c139; have t_c140 := eqI c140; have t_c141 := eqI c141; have tqz_ := qz2_; have tnb_ := nib8 tn1351_ tn1352_ tn1372_ tn1353_ tn1373_ tn1374_ tn1354_ tn1355_; have tqz_ := qz41_; omega) (by first | omega | (have t_c1 := eqI c1; have t_n125 := n125; have t_w127 := w127.1; have t_c130 := neI c130; have t_c139 := neI c139; have t_c140 := eqI c140; have t_c141 := eqI c141; have tqz_ := qz2_; have tnb_ := nib8 tn1351_ tn1352_ tn1372_ tn1353_ tn1373_ tn1374_ tn1354_ tn1355_; have tqz_ := qz41_; omega)) (by first | omega | (have t_c1 := eqI c1; have t_n125 := n125; have t_w127 := w127.1; have t_c130 := neI c130; have t_c139 := neI c139; have t_c140 := eqI c140; have t_c141 := eqI c141; have tqz_ := qz2_; have tnb_ := nib8 tn1351_ tn1352_ tn1372_ tn1353_ tn1373_ tn1374_ tn1354_ tn1355_; have tqz_ := qz41_; omega)) (by have t_c1 := eqI c1; have t_n125 := n125; have t_w127 := w127.1; have t_c130 := neI c130; have t_c139 := neI c139; have t_c140 := eqI c140; have t_c141 := eqI c141; have tqz_ := qz2_; have tnb_ := nib8 tn1351_ tn1352_ tn1372_ tn1353_ tn1373_ tn1374_ tn1354_ tn1355_; have tqz_ := qz41_; omega) htb) (kwV hg mfX11_other wt_1028 ⟨Nat.le_of_ble_eq_true rfl, Nat.le_of_ble_eq_true rfl⟩) (preVW hK hPc hDc (ci := 11) (r := (RX11, TX11, 35)) rfl rfl) rfl rfl hl.1 rfl (lv_room (Nat.le_of_ble_eq_true rfl)) dX11_readMore_101 ⟨Nat.le_of_ble_eq_true rfl, Nat.le_of_ble_eq_true rfl⟩) hS (fun q _ h => hFc q h) hFc (fun r158 ur158 t H1 locs ht hvm w159 hB hz1 hk1 hS => ?_)
              obtain ⟨u160, u161, u162, u163, u164, u165⟩ := ur158
              obtain ⟨hP1, hD1⟩ := hB
              rw [ht] at hP1
              obtain ⟨hP, hD⟩ := va_join (wr := [(rp, .inl (G 0, 49, .inl frp))]) (w1 := [(h0, .inr (11, [.ref st, .int (nI N), .int (nI B), .ref rp, .int (nI nrs), .int vrb, .int vhs, .int vca, .int vxs, .int vxb, .ref tp, .int (nI T), .int vfa, .int u160, .int u161, .int (nI u162), .int (nI u163), .int u164, .int u165, .ref cu, .ref lt, .ref od, .ref th, .ref be, .ref ln, .int (nI S), .ref ma, .int (nI M), .ref ah, .ref bh, .ref ik, .ref la, .ref lg, .ref ce, .int vto])), (tp, .inl (G 0, 320, .inl ftp))]) hP hD [1, 2] [0] rfl rfl (by decide) (by decide) hk1 hFc hP1 hD1
              generalize H1 = H at hP hS ⊢
              obtain ⟨w159, w159x⟩ := w159
              have vw159 : oV 0 9 0 (u133, u134, u135, u136, u137, u138) = r158 := w159.2.symm
              have ew159 : oS ftp T 0 9 0 (u133, u134, u135, u136, u137, u138) = (u160, u161, u162, u163, u164, u165) := w159x.2.2.2.2.2.2.symm
              refine va_iast hx hb hK.1 hP hD hS 0 0 rfl rfl (vp_in_nI (by first | omega | (have t_c1 := eqI c1; have t_n125 := n125; have t_w127 := w127.1; have t_c130 := neI c130; have t_c139 := neI c139; have t_c140 := eqI c140; have t_c141 := eqI c141; have tqz_ := qz2_; have tnb_ := nib8 tn1351_ tn1352_ tn1372_ tn1353_ tn1373_ tn1374_ tn1354_ tn1355_; omega)) (by decide)) dX11_readMore_104 (fun H locs hP hD hS => ?_)
              rw [nI_clamp (by omega)] at hP hD
              refine lv_aload_n hx hb dX11_readMore_105 rfl (lv_at hl 1 rfl) ?_
              refine va_get (D := (dC, dI)) (ci := 11) (v := .ref rp) (C := RX11) (T := TX11) (N := 35) hx hb hg inG11 hown hK.1 hP 1 rfl rfl 3 (Nat.le_of_ble_eq_true rfl) (hg _ wt_881) (fun _ h9 => h9) rfl dX11_readMore_106 ?_
              refine lv_iconst (v := 2) hx hb dX11_readMore_109 rfl ?_
              refine lv_iload_n hx hb dX11_readMore_110 rfl (lv_at hl 0 rfl) ?_
              refine lv_imul hx hb dX11_readMore_111 ?_
              refine lv_cg (y := nI (2 * nrs)) (by rw [show (2 : Int32) = nI 2 from rfl]; exact pk_mul _ _) ?_
              refine lv_iconst (v := 1) hx hb dX11_readMore_112 rfl ?_
              refine lv_iadd hx hb dX11_readMore_113 ?_
              refine lv_cg (y := nI ((2 * nrs) + 1)) (by rw [show (1 : Int32) = nI 1 from rfl]; exact nI_add _ _) ?_
              refine lv_aload_n hx hb dX11_readMore_114 rfl (lv_at hl 1 rfl) ?_
              refine lv_iconst (v := 0) hx hb dX11_readMore_115 rfl ?_
              refine lv_bipush (v := 9) hx hb dX11_readMore_116 rfl ?_
              refine lv_iconst (v := 0) hx hb dX11_readMore_118 rfl ?_
              obtain ⟨hPc, hDc, hFc⟩ := va_sub3 (ws' := [(h0, .inr (11, [.ref st, .int (nI N), .int (nI B), .ref rp, .int (nI nrs), .int vrb, .int vhs, .int vca, .int vxs, .int vxb, .ref tp, .int (nI T), .int vfa, .int u160, .int u161, .int (nI u162), .int (nI u163), .int u164, .int u165, .ref cu, .ref lt, .ref od, .ref th, .ref be, .ref ln, .int (nI S), .ref ma, .int (nI M), .ref ah, .ref bh, .ref ik, .ref la, .ref lg, .ref ce, .int vto])), (tp, .inl (G 0, 320, .inl ftp))]) hP hD hS hA [1, 2] (by decide) rfl
              refine va_calli (va_runV (As := [.int 0, .int 9, .int 0]) (rest := [.int (nI ((2 * nrs) + 1)), .ref rp]) ⟨hx, hb, hml, hown, hg⟩ (c_X11_otherE l dC dI G _ h0 st N B rp tp T u162 u163 cu lt od th be ln S ma M ah bh ik la lg ce 0 9 0 (nI nrs) vrb vhs vca vxs vxb vfa u160 u161 u164 u165 vto ftp hN hB_ hT_ hS0 hM_ (by have t_c1 := eqI c1; have t_n125 := n125; have t_w127 := w127.1; have t_c130 := neI c130; have t_c139 := neI c139; have t_c140 := eqI c140; have t_c141 := eqI c141; have tqz_ := qz2_; have tnb_ := nib8 tn1351_ tn1352_ tn1372_ tn1353_ tn1373_ tn1374_ tn1354_ tn1355_; have tqz_ := qz41_; omega) (by first | omega | (have t_c1 := eqI c1; have t_n125 := n125; have t_w127 := w127.1; have t_c130 := neI c130; have t_c139 := neI c139; have t_c140 := eqI c140; have t_c141 := eqI c141; have tqz_ := qz2_; have tnb_ := nib8 tn1351_ tn1352_ tn1372_ tn1353_ tn1373_ tn1374_ tn1354_ tn1355_; have tqz_ := qz41_; omega)) (by first | omega | (have t_c1 := eqI c1; have t_n125 := n125; have t_w127 := w127.1; have t_c130 := neI c130; have t_c139 := neI c139; have t_c140 := eqI c140; have t_c141 := eqI c141; have tqz_ := qz2_; have tnb_ := nib8 tn1351_ tn1352_ tn1372_ tn1353_ tn1373_ tn1374_ tn1354_ tn1355_; have tqz_ := qz41_; omega)) (by have t_c1 := eqI c1; have t_n125 := n125; have t_w127 := w127.1; have t_c130 := neI c130; have t_c139 := neI c139; have t_c140 := eqI c140; have t_c141 := eqI c141; have tqz_ := qz2_; have tnb_ := nib8 tn1351_ tn1352_ tn1372_ tn1353_ tn1373_ tn1374_ tn1354_ tn1355_; have tqz_ := qz41_; omega) htb) (kwV hg mfX11_other wt_1028 ⟨Nat.le_of_ble_eq_true rfl, Nat.le_of_ble_eq_true rfl⟩) (preVW hK hPc hDc (ci := 11) (r := (RX11, TX11, 35)) rfl rfl) rfl rfl hl.1 rfl (lv_room (Nat.le_of_ble_eq_true rfl)) dX11_readMore_119 ⟨Nat.le_of_ble_eq_true rfl, Nat.le_of_ble_eq_true rfl⟩) hS (fun q _ h => hFc q h) hFc (fun r166 ur166 t H1 locs ht hvm w167 hB hz1 hk1 hS => ?_)
              obtain ⟨u168, u169, u170, u171, u172, u173⟩ := ur166
              obtain ⟨hP1, hD1⟩ := hB
              rw [ht] at hP1
              obtain ⟨hP, hD⟩ := va_join (wr := [(rp, .inl (G 0, 49, .inl (upd frp (2 * nrs) r158)))]) (w1 := [(h0, .inr (11, [.ref st, .int (nI N), .int (nI B), .ref rp, .int (nI nrs), .int vrb, .int vhs, .int vca, .int vxs, .int vxb, .ref tp, .int (nI T), .int vfa, .int u168, .int u169, .int (nI u170), .int (nI u171), .int u172, .int u173, .ref cu, .ref lt, .ref od, .ref th, .ref be, .ref ln, .int (nI S), .ref ma, .int (nI M), .ref ah, .ref bh, .ref ik, .ref la, .ref lg, .ref ce, .int vto])), (tp, .inl (G 0, 320, .inl ftp))]) hP hD [1, 2] [0] rfl rfl (by decide) (by decide) hk1 hFc hP1 hD1
              generalize H1 = H at hP hS ⊢
              obtain ⟨w167, w167x⟩ := w167
              have vw167 : oV 0 9 0 (u160, u161, u162, u163, u164, u165) = r166 := w167.2.symm
              have ew167 : oS ftp T 0 9 0 (u160, u161, u162, u163, u164, u165) = (u168, u169, u170, u171, u172, u173) := w167x.2.2.2.2.2.2.symm
              refine va_iast hx hb hK.1 hP hD hS 0 0 rfl rfl (vp_in_nI (by first | omega | (have t_c1 := eqI c1; have t_n125 := n125; have t_w127 := w127.1; have t_c130 := neI c130; have t_c139 := neI c139; have t_c140 := eqI c140; have t_c141 := eqI c141; have tqz_ := qz2_; have tnb_ := nib8 tn1351_ tn1352_ tn1372_ tn1353_ tn1373_ tn1374_ tn1354_ tn1355_; omega)) (by decide)) dX11_readMore_122 (fun H locs hP hD hS => ?_)
              rw [nI_clamp (by omega)] at hP hD
              refine lv_aload_n hx hb dX11_readMore_123 rfl (lv_at hl 1 rfl) ?_
              refine lv_dup hx hb dX11_readMore_124 rfl ?_
              refine va_get (D := (dC, dI)) (ci := 11) (v := .int (nI nrs)) (C := RX11) (T := TX11) (N := 35) hx hb hg inG11 hown hK.1 hP 1 rfl rfl 4 (Nat.le_of_ble_eq_true rfl) (hg _ wt_882) (fun _ h9 => h9) rfl dX11_readMore_125 ?_
              refine lv_iconst (v := 1) hx hb dX11_readMore_128 rfl ?_
              refine lv_iadd hx hb dX11_readMore_129 ?_
              refine lv_cg (y := nI (nrs + 1)) (by rw [show (1 : Int32) = nI 1 from rfl]; exact nI_add _ _) ?_
              refine va_put (D := (dC, dI)) (ci := 11) (v := .int (nI (nrs + 1))) (ty := .int) (C := RX11) (T := TX11) (N := 35) hx hb hg inG11 tyX11 tyX11_ok nmX11 hown hK.1 hP hD hS 1 rfl rfl 4 (Nat.le_of_ble_eq_true rfl) (hg _ wt_882) (fun _ h9 => h9) rfl (by decide +kernel) rfl rfl (Nat.le_of_ble_eq_true rfl) dX11_readMore_130 (fun H locs hP hD hS => ?_)
              refine lv_goto (tgt := 218) hx hb dX11_readMore_133 rfl ?_
              obtain ⟨hP9, hD9⟩ := va_sub2 (ws' := [(h0, .inr (11, [.ref st, .int (nI N), .int (nI B), .ref rp, .int (nI (nrs + 1)), .int vrb, .int vhs, .int vca, .int vxs, .int vxb, .ref tp, .int (nI T), .int vfa, .int u168, .int u169, .int (nI u170), .int (nI u171), .int u172, .int u173, .ref cu, .ref lt, .ref od, .ref th, .ref be, .ref ln, .int (nI S), .ref ma, .int (nI M), .ref ah, .ref bh, .ref ik, .ref la, .ref lg, .ref ce, .int vto])), (tp, .inl (G 0, 320, .inl ftp)), (rp, .inl (G 0, 49, .inl (upd (upd frp (2 * nrs) r158) ((2 * nrs) + 1) r166)))]) hP hD [1, 2, 0] (by decide) rfl
              refine W.widen (k := 0) (n := 0) (Nat.le_of_ble_eq_true rfl) (Nat.le_of_ble_eq_true rfl) ?_
              exact W.vret hx hb hr (fun t ht hW => ⟨⟨(u168, u169, u170, u171, u172, u173, (nrs + 1), vhs, vca, vxs, vxb, (upd (upd frp (2 * nrs) r158) ((2 * nrs) + 1) r166)), rfl, ⟨⟨(OKP.upd (OKP.upd hrp (by have t_c1 := eqI c1; have t_n125 := n125; have t_w127 := w127.1; have t_c130 := neI c130; have t_c139 := neI c139; have t_c140 := eqI c140; have t_c141 := eqI c141; have tqz_ := qz2_; have tnb_ := nib8 tn1351_ tn1352_ tn1372_ tn1353_ tn1373_ tn1374_ tn1354_ tn1355_; have tqz_ := qz41_; first | exact okS_lo (by omega) (by omega) (by omega) | exact okS_or (by omega) (by omega) (by omega) (by omega) | exact okS_sd (by omega) (by omega))) (by have t_c1 := eqI c1; have t_n125 := n125; have t_w127 := w127.1; have t_c130 := neI c130; have t_c139 := neI c139; have t_c140 := eqI c140; have t_c141 := eqI c141; have tqz_ := qz2_; have tnb_ := nib8 tn1351_ tn1352_ tn1372_ tn1353_ tn1373_ tn1374_ tn1354_ tn1355_; have tqz_ := qz41_; first | exact okS_lo (by omega) (by omega) (by omega) | exact okS_or (by omega) (by omega) (by omega) (by omega) | exact okS_sd (by omega) (by omega))), (by have t_c1 := eqI c1; have t_n125 := n125; have t_w127 := w127.1; have t_c130 := neI c130; have t_c139 := neI c139; have t_c140 := eqI c140; have t_c141 := eqI c141; have tqz_ := qz2_; have tnb_ := nib8 tn1351_ tn1352_ tn1372_ tn1353_ tn1373_ tn1374_ tn1354_ tn1355_; have tqz_ := qz41_; omega)⟩, (by unfold rmS; (try (repeat (first | rw [if_pos (by with_reducible assumption)] | rw [if_neg (by with_reducible assumption)] | rw [if_pos (by (have t_c1 := eqI c1; have t_n125 := n125; have t_w127 := w127.1; have t_c130 := neI c130; have t_c139 := neI c139; have t_c140 := eqI c140; have t_c141 := eqI c141; have tqz_ := qz2_; have tnb_ := nib8 tn1351_ tn1352_ tn1372_ tn1353_ tn1373_ tn1374_ tn1354_ tn1355_; have tqz_ := qz41_; omega))] | rw [if_neg (by (have t_c1 := eqI c1; have t_n125 := n125; have t_w127 := w127.1; have t_c130 := neI c130; have t_c139 := neI c139; have t_c140 := eqI c140; have t_c141 := eqI c141; have tqz_ := qz2_; have tnb_ := nib8 tn1351_ tn1352_ tn1372_ tn1353_ tn1373_ tn1374_ tn1354_ tn1355_; have tqz_ := qz41_; omega))] | rw [if_pos (by decide)] | rw [if_neg (by decide)]))); unfold rmA; (try (repeat (first | rw [if_pos (by with_reducible assumption)] | rw [if_neg (by with_reducible assumption)] | rw [if_pos (by (have t_c1 := eqI c1; have t_n125 := n125; have t_w127 := w127.1; have t_c130 := neI c130; have t_c139 := neI c139; have t_c140 := eqI c140; have t_c141 := eqI c141; have tqz_ := qz2_; have tnb_ := nib8 tn1351_ tn1352_ tn1372_ tn1353_ tn1373_ tn1374_ tn1354_ tn1355_; have tqz_ := qz41_; omega))] | rw [if_neg (by (have t_c1 := eqI c1; have t_n125 := n125; have t_w127 := w127.1; have t_c130 := neI c130; have t_c139 := neI c139; have t_c140 := eqI c140; have t_c141 := eqI c141; have tqz_ := qz2_; have tnb_ := nib8 tn1351_ tn1352_ tn1372_ tn1353_ tn1373_ tn1374_ tn1354_ tn1355_; have tqz_ := qz41_; omega))] | rw [if_pos (by decide)] | rw [if_neg (by decide)]))); (try rw [ew127]); (try rw [ew132]); (try rw [vw159]); (try rw [ew159]); (try rw [vw167]); (try rw [ew167]); (try unfold rmI); (try (repeat (first | rw [if_pos (by with_reducible assumption)] | rw [if_neg (by with_reducible assumption)] | rw [if_pos (by (have t_c1 := eqI c1; have t_n125 := n125; have t_w127 := w127.1; have t_c130 := neI c130; have t_c139 := neI c139; have t_c140 := eqI c140; have t_c141 := eqI c141; have tqz_ := qz2_; have tnb_ := nib8 tn1351_ tn1352_ tn1372_ tn1353_ tn1373_ tn1374_ tn1354_ tn1355_; have tqz_ := qz41_; omega))] | rw [if_neg (by (have t_c1 := eqI c1; have t_n125 := n125; have t_w127 := w127.1; have t_c130 := neI c130; have t_c139 := neI c139; have t_c140 := eqI c140; have t_c141 := eqI c141; have tqz_ := qz2_; have tnb_ := nib8 tn1351_ tn1352_ tn1372_ tn1353_ tn1373_ tn1374_ tn1354_ tn1355_; have tqz_ := qz41_; omega))] | rw [if_pos (by decide)] | rw [if_neg (by decide)]))); (try rw [eio9]); (try rw [nI_clamp (by (have t_c1 := eqI c1; have t_n125 := n125; have t_w127 := w127.1; have t_c130 := neI c130; have t_c139 := neI c139; have t_c140 := eqI c140; have t_c141 := eqI c141; have tqz_ := qz2_; have tnb_ := nib8 tn1351_ tn1352_ tn1372_ tn1353_ tn1373_ tn1374_ tn1354_ tn1355_; have tqz_ := qz41_; omega))]); (try unfold rmX); (try (repeat (first | rw [if_pos (by with_reducible assumption)] | rw [if_neg (by with_reducible assumption)] | rw [if_pos (by (have t_c1 := eqI c1; have t_n125 := n125; have t_w127 := w127.1; have t_c130 := neI c130; have t_c139 := neI c139; have t_c140 := eqI c140; have t_c141 := eqI c141; have tqz_ := qz2_; have tnb_ := nib8 tn1351_ tn1352_ tn1372_ tn1353_ tn1373_ tn1374_ tn1354_ tn1355_; have tqz_ := qz41_; omega))] | rw [if_neg (by (have t_c1 := eqI c1; have t_n125 := n125; have t_w127 := w127.1; have t_c130 := neI c130; have t_c139 := neI c139; have t_c140 := eqI c140; have t_c141 := eqI c141; have tqz_ := qz2_; have tnb_ := nib8 tn1351_ tn1352_ tn1372_ tn1353_ tn1373_ tn1374_ tn1354_ tn1355_; have tqz_ := qz41_; omega))] | rw [if_pos (by decide)] | rw [if_neg (by decide)]))); all_goals rfl)⟩, ⟨by rw [ht]; exact hP9, hD9⟩⟩, hS.F ht⟩) hS.2.2 dX11_readMore_218
        · skip
          have t_c1 := eqI c1
          have t_n125 := n125
          have t_w127 := w127.1
          have t_c130 := neI c130
          have t_c139 := eqI c139
          have : (0 : Int32).toInt = 0 := qI_0
          have : (1 : Int32).toInt = 1 := qI_1
          have t_n0 : (nI N).toInt = (N : Int) := tn1351_ ()
          have t_n1 : (nI B).toInt = (B : Int) := tn1352_ ()
          have t_n2 : (nI nrs).toInt = (nrs : Int) := tn1372_ ()
          have t_n3 : (nI T).toInt = (T : Int) := tn1353_ ()
          have t_n4 : (nI nsp).toInt = (nsp : Int) := tn1373_ ()
          have t_n5 : (nI nhe).toInt = (nhe : Int) := tn1374_ ()
          have t_n6 : (nI S).toInt = (S : Int) := tn1354_ ()
          have t_n7 : (nI M).toInt = (M : Int) := tn1355_ ()
          exfalso; omega
      · skip
        have t_c1 := eqI c1
        have t_n125 := n125
        have t_w127 := w127.1
        have t_c130 := eqI c130
        have : (0 : Int32).toInt = 0 := qI_0
        have : (1 : Int32).toInt = 1 := qI_1
        have t_n0 : (nI N).toInt = (N : Int) := tn1351_ ()
        have t_n1 : (nI B).toInt = (B : Int) := tn1352_ ()
        have t_n2 : (nI nrs).toInt = (nrs : Int) := tn1372_ ()
        have t_n3 : (nI T).toInt = (T : Int) := tn1353_ ()
        have t_n4 : (nI nsp).toInt = (nsp : Int) := tn1373_ ()
        have t_n5 : (nI nhe).toInt = (nhe : Int) := tn1374_ ()
        have t_n6 : (nI S).toInt = (S : Int) := tn1354_ ()
        have t_n7 : (nI M).toInt = (M : Int) := tn1355_ ()
        exfalso; omega

set_option maxHeartbeats 8000000 in
set_option maxRecDepth 100000 in
theorem c_X11_readLineE (l : Launch) (dC : Nat → ClassId) (dI : Nat → Nat → Nat) (G : Nat → ClassId) (sz : Nat) (h0 st N B rp nrs nrb tp T nsp nhe cu lt od th be ln S ma M ah bh ik la lg ce : Nat) (vhs vca vxs vxb vfa vbr vba vtk vva vto : Int32) (ftp : Nat → Int32) (fcu : Nat → Int32) (flt : Nat → Int32) (frp : Nat → Int32) (hN : N ≤ 10) (hB : B ≤ 6) (hT : T ≤ 320) (hS0 : S ≤ 8) (hM : M ≤ 6) (hbr : 0 ≤ vbr.toInt) (hsp : nsp ≤ T) (hhe : nhe ≤ nsp) (hrs : nrs ≤ 10) (hrb : nrb ≤ 6) (hc : ∀ q : Nat, q < 11 → fcu q = nI (cutL.getD q 0)) (hrp : OKP frp) (hlt : ∀ q : Nat, q < 54 → flt q = letL.getD q 0) (htb : ∀ q : Nat, q < 320 → 0 ≤ (ftp q).toInt) : Met l yX11_readLine (Cond.code yX11_readLine cX11_readLine 2 none :: GT) ({ frames := 4, cells := 0, slots := 0, locals := 93 } : Room) (PcW [.ref h0] dC dI G [(h0, .inr (11, [.ref st, .int (nI N), .int (nI B), .ref rp, .int (nI nrs), .int (nI nrb), .int vhs, .int vca, .int vxs, .int vxb, .ref tp, .int (nI T), .int vfa, .int vbr, .int vba, .int (nI nsp), .int (nI nhe), .int vtk, .int vva, .ref cu, .ref lt, .ref od, .ref th, .ref be, .ref ln, .int (nI S), .ref ma, .int (nI M), .ref ah, .ref bh, .ref ik, .ref la, .ref lg, .ref ce, .int vto])), (tp, .inl (G 0, 320, .inl ftp)), (cu, .inl (G 0, 11, .inl fcu)), (lt, .inl (G 0, 54, .inl flt)), (rp, .inl (G 0, 49, .inl frp))] sz) (va_Qv (fun (u : Int32 × Int32 × Nat × Nat × Int32 × Int32 × Nat × Nat × Int32 × Int32 × Int32 × Int32 × (Nat → Int32)) => match u with | (obr, oba, osp, ohe, otk, ova, ors, orb, ohs, oca, oxs, oxb, orp) => (OKP orp ∧ (0 ≤ obr.toInt ∧ osp ≤ T ∧ ohe ≤ osp ∧ (0 < obr.toInt ∨ nsp < osp) ∧ ors ≤ 11 ∧ (0 < obr.toInt ∨ ors ≤ 10) ∧ orb ≤ 6)) ∧ ((obr, oba, osp, ohe, otk, ova), ors, orb, ohs, oca, oxs, oxb, orp) = rlS ftp T (vbr, vba, nsp, nhe, vtk, vva) nrs nrb vhs vca vxs vxb frp) (fun (u : Int32 × Int32 × Nat × Nat × Int32 × Int32 × Nat × Nat × Int32 × Int32 × Int32 × Int32 × (Nat → Int32)) (t : State) => match u with | (obr, oba, osp, ohe, otk, ova, ors, orb, ohs, oca, oxs, oxb, orp) => va_P (dC, dI) vwCl [(h0, .inr (11, [.ref st, .int (nI N), .int (nI B), .ref rp, .int (nI ors), .int (nI orb), .int ohs, .int oca, .int oxs, .int oxb, .ref tp, .int (nI T), .int vfa, .int obr, .int oba, .int (nI osp), .int (nI ohe), .int otk, .int ova, .ref cu, .ref lt, .ref od, .ref th, .ref be, .ref ln, .int (nI S), .ref ma, .int (nI M), .ref ah, .ref bh, .ref ik, .ref la, .ref lg, .ref ce, .int vto])), (tp, .inl (G 0, 320, .inl ftp)), (cu, .inl (G 0, 11, .inl fcu)), (lt, .inl (G 0, 54, .inl flt)), (rp, .inl (G 0, 49, .inl orp))] t.heap ∧ va_D (va_A [(h0, .inr (11, [.ref st, .int (nI N), .int (nI B), .ref rp, .int (nI nrs), .int (nI nrb), .int vhs, .int vca, .int vxs, .int vxb, .ref tp, .int (nI T), .int vfa, .int vbr, .int vba, .int (nI nsp), .int (nI nhe), .int vtk, .int vva, .ref cu, .ref lt, .ref od, .ref th, .ref be, .ref ln, .int (nI S), .ref ma, .int (nI M), .ref ah, .ref bh, .ref ik, .ref la, .ref lg, .ref ce, .int vto])), (tp, .inl (G 0, 320, .inl ftp)), (cu, .inl (G 0, 11, .inl fcu)), (lt, .inl (G 0, 54, .inl flt)), (rp, .inl (G 0, 49, .inl frp))] sz) [(h0, .inr (11, [.ref st, .int (nI N), .int (nI B), .ref rp, .int (nI ors), .int (nI orb), .int ohs, .int oca, .int oxs, .int oxb, .ref tp, .int (nI T), .int vfa, .int obr, .int oba, .int (nI osp), .int (nI ohe), .int otk, .int ova, .ref cu, .ref lt, .ref od, .ref th, .ref be, .ref ln, .int (nI S), .ref ma, .int (nI M), .ref ah, .ref bh, .ref ik, .ref la, .ref lg, .ref ce, .int vto])), (tp, .inl (G 0, 320, .inl ftp)), (cu, .inl (G 0, 11, .inl fcu)), (lt, .inl (G 0, 54, .inl flt)), (rp, .inl (G 0, 49, .inl orp))]) (va_A [(h0, .inr (11, [.ref st, .int (nI N), .int (nI B), .ref rp, .int (nI nrs), .int (nI nrb), .int vhs, .int vca, .int vxs, .int vxb, .ref tp, .int (nI T), .int vfa, .int vbr, .int vba, .int (nI nsp), .int (nI nhe), .int vtk, .int vva, .ref cu, .ref lt, .ref od, .ref th, .ref be, .ref ln, .int (nI S), .ref ma, .int (nI M), .ref ah, .ref bh, .ref ik, .ref la, .ref lg, .ref ce, .int vto])), (tp, .inl (G 0, 320, .inl ftp)), (cu, .inl (G 0, 11, .inl fcu)), (lt, .inl (G 0, 54, .inl flt)), (rp, .inl (G 0, 49, .inl frp))] sz)) 0 0 (va_A [(h0, .inr (11, [.ref st, .int (nI N), .int (nI B), .ref rp, .int (nI nrs), .int (nI nrb), .int vhs, .int vca, .int vxs, .int vxb, .ref tp, .int (nI T), .int vfa, .int vbr, .int vba, .int (nI nsp), .int (nI nhe), .int vtk, .int vva, .ref cu, .ref lt, .ref od, .ref th, .ref be, .ref ln, .int (nI S), .ref ma, .int (nI M), .ref ah, .ref bh, .ref ik, .ref la, .ref lg, .ref ce, .int vto])), (tp, .inl (G 0, 320, .inl ftp)), (cu, .inl (G 0, 11, .inl fcu)), (lt, .inl (G 0, 54, .inl flt)), (rp, .inl (G 0, 49, .inl frp))] sz) := by
  have hB_ := hB
  have hM_ := hM
  have hT_ := hT
  have tn1375_ : nIT N := fun _ => nI_toInt (by omega)
  have tn1376_ : nIT B := fun _ => nI_toInt (by omega)
  have tn1377_ : nIT T := fun _ => nI_toInt (by omega)
  have tn1378_ : nIT S := fun _ => nI_toInt (by omega)
  have tn1379_ : nIT M := fun _ => nI_toInt (by omega)
  refine Met.ofW (cc := cX11_readLine) (maxL := 2) (ret := none) (by decide) rfl ?_
  intro p e s m args below meth c s₁ Bd hml hv
  obtain ⟨rfl, hsz, hP, hK, hD0⟩ := hv
  have hx := Bd.exec
  have hb := Bd.bytes
  have hr := Bd.returns
  have hg : ∀ w ∈ GT, w.before ([.ref h0] : List Value).toArray s = true := fun w h => atoms_spec (ws := Cond.code yX11_readLine cX11_readLine 2 none :: GT) Bd.pre w (List.mem_cons_of_mem _ h)
  have hown : s.vm.findClass RX11 = some m.cls := findClass_of_methodNamed Bd.named
  have hlocks := Bd.notSynchronized
  subst hsz
  have hD := hD0.self (sz := s.heap.size)
  generalize hAe : va_A [(h0, .inr (11, [.ref st, .int (nI N), .int (nI B), .ref rp, .int (nI nrs), .int (nI nrb), .int vhs, .int vca, .int vxs, .int vxb, .ref tp, .int (nI T), .int vfa, .int vbr, .int vba, .int (nI nsp), .int (nI nhe), .int vtk, .int vva, .ref cu, .ref lt, .ref od, .ref th, .ref be, .ref ln, .int (nI S), .ref ma, .int (nI M), .ref ah, .ref bh, .ref ik, .ref la, .ref lg, .ref ce, .int vto])), (tp, .inl (G 0, 320, .inl ftp)), (cu, .inl (G 0, 11, .inl fcu)), (lt, .inl (G 0, 54, .inl flt)), (rp, .inl (G 0, 49, .inl frp))] s.heap.size = A at hD ⊢
  have hA : ∀ q : Nat, s.heap.size ≤ q → A q := fun q h => by rw [← hAe]; exact Or.inr h
  have hS : va_S A s.heap s.heap [] := va_S.rf
  have hl := lv_entry ([.ref h0]) (n := 2) (Nat.le_of_ble_eq_true rfl)
  rw [lg_entry_eq]
  generalize (lg_sl ([.ref h0]) ++ List.replicate (2 - (lg_sl ([.ref h0])).length) Slot.unset).toArray = ls at hl ⊢
  have hl : lv_has ls 2 [(0, .ref h0)] := hl
  refine lv_aload_n hx hb dX11_readLine_0 rfl (lv_at hl 0 rfl) ?_
  have hPc := hP.sub (ws' := [(h0, .inr (11, [.ref st, .int (nI N), .int (nI B), .ref rp, .int (nI nrs), .int (nI nrb), .int vhs, .int vca, .int vxs, .int vxb, .ref tp, .int (nI T), .int vfa, .int vbr, .int vba, .int (nI nsp), .int (nI nhe), .int vtk, .int vva, .ref cu, .ref lt, .ref od, .ref th, .ref be, .ref ln, .int (nI S), .ref ma, .int (nI M), .ref ah, .ref bh, .ref ik, .ref la, .ref lg, .ref ce, .int vto])), (tp, .inl (G 0, 320, .inl ftp)), (cu, .inl (G 0, 11, .inl fcu)), (lt, .inl (G 0, 54, .inl flt))]) [0, 1, 2, 3] rfl
  have tn1380_ : nIT nrs := fun _ => nI_toInt (by omega)
  have tn1381_ : nIT nrb := fun _ => nI_toInt (by omega)
  have tn1382_ : nIT nsp := fun _ => nI_toInt (by omega)
  have tn1383_ : nIT nhe := fun _ => nI_toInt (by omega)
  refine va_calli (va_runV (As := []) (rest := []) ⟨hx, hb, hml, hown, hg⟩ (c_X11_nameHereE l dC dI G _ h0 st N B rp tp T nsp nhe cu lt od th be ln S ma M ah bh ik la lg ce (nI nrs) (nI nrb) vhs vca vxs vxb vfa vbr vba vtk vva vto ftp fcu flt hN hB_ hT_ hS0 hM_ hsp hhe hc hlt) (kwV hg mfX11_nameHere wt_1019 ⟨Nat.le_of_ble_eq_true rfl, Nat.le_of_ble_eq_true rfl⟩) (preVR hK hPc (ci := 11) (r := (RX11, TX11, 35)) rfl rfl) rfl rfl hl.1 rfl (lv_room (Nat.le_of_ble_eq_true rfl)) dX11_readLine_1 ⟨Nat.le_of_ble_eq_true rfl, Nat.le_of_ble_eq_true rfl⟩) hS (fun q h1 h2 => absurd h2 (Nat.not_le.mpr h1)) (fun q h => hA q (Nat.le_trans hS.1 h)) (fun r1 ur1 t H1 locs ht hvm w2 hB hz1 hk1 hS => ?_)
  have hP := keepR hP hk1
  obtain ⟨w2, w2x⟩ := w2
  obtain ⟨w2, w2e⟩ := w2
  rcases w2 with w21 | ⟨w20, w21, w22⟩
  · skip
    have ew2 : nT ftp (vbr, vba, nsp, nhe, vtk, vva) = (-4) := (w21.symm.trans w2e).symm
    refine lv_cg (y := (-4)) w21 ?_
    refine lv_istore_n (lv' := [(1, .int (-4)), (0, .ref h0)]) hx hb dX11_readLine_4 rfl hl (by decide) rfl (fun ls hl => ?_)
    refine lv_iload_n hx hb dX11_readLine_5 rfl (lv_at hl 0 rfl) ?_
    refine lv_i2l (v := (-4)) hx hb dX11_readLine_6 (by decide) ?_
    refine lv_lconst (v := 0) hx hb dX11_readLine_7 (by decide) ?_
    refine lv_ldc2 (v := 3) hx hb hown (hg _ wt_1023) dX11_readLine_8 ?_
    have hPc := hP.sub (ws' := []) [] rfl
    refine va_calli (va_runS (As := [.long (-4), .long 0, .long 3]) (rest := []) ⟨hx, hb, hml, hown, hg⟩ (c_X11_in l dC dI G _ (-4) 0 3) (kwS hg mfX11_in wt_992 ⟨Nat.le_of_ble_eq_true rfl, Nat.le_of_ble_eq_true rfl⟩) (preSR hK hPc) rfl rfl hl.1 rfl (lv_room (Nat.le_of_ble_eq_true rfl)) dX11_readLine_11 ⟨Nat.le_of_ble_eq_true rfl, Nat.le_of_ble_eq_true rfl⟩) hS (fun q h1 h2 => absurd h2 (Nat.not_le.mpr h1)) (fun q h => hA q (Nat.le_trans hS.1 h)) (fun r3 ur3 t H1 locs ht hvm w4 hB hz1 hk1 hS => ?_)
    have hP := keepR hP hk1
    obtain ⟨w4, w4x⟩ := w4
    try simp only [l_ii, show (0 : Int64).toInt = 0 from by decide, show ((-4) : Int64).toInt = -4 from by decide, show (3 : Int64).toInt = 3 from by decide] at w4
    have w4 : r3 = 0 := w4.trans (if_neg (by have tnb_ := nib9 tn1375_ tn1376_ tn1380_ tn1381_ tn1377_ tn1382_ tn1383_ tn1378_ tn1379_; omega))
    subst w4
    refine lv_if_ne (tgt := 23) hx hb dX11_readLine_14 rfl (fun c5 => ?_) (fun c5 => ?_)
    · skip
      exact absurd c5 (by decide)
    · skip
      refine lv_aload_n hx hb dX11_readLine_17 rfl (lv_at hl 1 rfl) ?_
      refine lv_iconst (v := 2) hx hb dX11_readLine_18 rfl ?_
      obtain ⟨hPc, hDc, hFc⟩ := va_sub3 (ws' := [(h0, .inr (11, [.ref st, .int (nI N), .int (nI B), .ref rp, .int (nI nrs), .int (nI nrb), .int vhs, .int vca, .int vxs, .int vxb, .ref tp, .int (nI T), .int vfa, .int vbr, .int vba, .int (nI nsp), .int (nI nhe), .int vtk, .int vva, .ref cu, .ref lt, .ref od, .ref th, .ref be, .ref ln, .int (nI S), .ref ma, .int (nI M), .ref ah, .ref bh, .ref ik, .ref la, .ref lg, .ref ce, .int vto]))]) hP hD hS hA [0] (by decide) rfl
      refine va_callv (va_runV (As := [.int 2]) (rest := []) ⟨hx, hb, hml, hown, hg⟩ (c_X11_failsE l dC dI G _ h0 st N B rp tp T nhe cu lt od th be ln S ma M ah bh ik la lg ce 2 (nI nrs) (nI nrb) vhs vca vxs vxb vfa vbr vba (nI nsp) vtk vva vto hN hB_ hT_ hS0 hM_ (by have t_c5 := eqI c5; have : (0 : Int32).toInt = 0 := qI_0; have tnb_ := nib9 tn1375_ tn1376_ tn1380_ tn1381_ tn1377_ tn1382_ tn1383_ tn1378_ tn1379_; have tqz_ := qz45_; omega) hbr (by first | omega | (have t_c5 := eqI c5; have : (0 : Int32).toInt = 0 := qI_0; have tnb_ := nib9 tn1375_ tn1376_ tn1380_ tn1381_ tn1377_ tn1382_ tn1383_ tn1378_ tn1379_; have tqz_ := qz45_; omega))) (kwV hg mfX11_fails wt_1011 ⟨Nat.le_of_ble_eq_true rfl, Nat.le_of_ble_eq_true rfl⟩) (preVW hK hPc hDc (ci := 11) (r := (RX11, TX11, 35)) rfl rfl) rfl rfl hl.1 rfl (lv_room (Nat.le_of_ble_eq_true rfl)) dX11_readLine_19 ⟨Nat.le_of_ble_eq_true rfl, Nat.le_of_ble_eq_true rfl⟩) hS (fun q _ h => hFc q h) hFc (fun ur6 t H1 locs ht hvm w7 hB hz1 hk1 hS => ?_)
      obtain ⟨u8, u9⟩ := ur6
      obtain ⟨hP1, hD1⟩ := hB
      rw [ht] at hP1
      obtain ⟨hP, hD⟩ := va_join (wr := [(tp, .inl (G 0, 320, .inl ftp)), (cu, .inl (G 0, 11, .inl fcu)), (lt, .inl (G 0, 54, .inl flt)), (rp, .inl (G 0, 49, .inl frp))]) (w1 := [(h0, .inr (11, [.ref st, .int (nI N), .int (nI B), .ref rp, .int (nI nrs), .int (nI nrb), .int vhs, .int vca, .int vxs, .int vxb, .ref tp, .int (nI T), .int vfa, .int u8, .int u9, .int (nI nsp), .int (nI nhe), .int vtk, .int vva, .ref cu, .ref lt, .ref od, .ref th, .ref be, .ref ln, .int (nI S), .ref ma, .int (nI M), .ref ah, .ref bh, .ref ik, .ref la, .ref lg, .ref ce, .int vto]))]) hP hD [0] [1, 2, 3, 4] rfl rfl (by decide) (by decide) hk1 hFc hP1 hD1
      have w7 : 0 < u8.toInt ∧ u8 = flB (2 : Int32) vbr ∧ u9 = flA vbr vba nhe := w7
      generalize H1 = H at hP hS ⊢
      have ew7 : fT 2 (vbr, vba, nsp, nhe, vtk, vva) = (u8, u9, nsp, nhe, vtk, vva) := (by show (flB _ _, flA _ _ _, _, _, _, _) = _; rw [← w7.2.1, ← w7.2.2])
      obtain ⟨hP9, hD9⟩ := va_sub2 (ws' := [(h0, .inr (11, [.ref st, .int (nI N), .int (nI B), .ref rp, .int (nI nrs), .int (nI nrb), .int vhs, .int vca, .int vxs, .int vxb, .ref tp, .int (nI T), .int vfa, .int u8, .int u9, .int (nI nsp), .int (nI nhe), .int vtk, .int vva, .ref cu, .ref lt, .ref od, .ref th, .ref be, .ref ln, .int (nI S), .ref ma, .int (nI M), .ref ah, .ref bh, .ref ik, .ref la, .ref lg, .ref ce, .int vto])), (tp, .inl (G 0, 320, .inl ftp)), (cu, .inl (G 0, 11, .inl fcu)), (lt, .inl (G 0, 54, .inl flt)), (rp, .inl (G 0, 49, .inl frp))]) hP hD [4, 0, 1, 2, 3] (by decide) rfl
      refine W.widen (k := 0) (n := 0) (Nat.le_of_ble_eq_true rfl) (Nat.le_of_ble_eq_true rfl) ?_
      exact W.vret hx hb hr (fun t ht hW => ⟨⟨(u8, u9, nsp, nhe, vtk, vva, nrs, nrb, vhs, vca, vxs, vxb, frp), rfl, ⟨⟨hrp, (by have t_c5 := eqI c5; have t_w7 := w7.1; have : (0 : Int32).toInt = 0 := qI_0; have tnb_ := nib9 tn1375_ tn1376_ tn1380_ tn1381_ tn1377_ tn1382_ tn1383_ tn1378_ tn1379_; have tqz_ := qz41_; omega)⟩, (by unfold rlS; (try rw [ew2]); (try (repeat (first | rw [if_pos (by with_reducible assumption)] | rw [if_neg (by with_reducible assumption)] | rw [if_pos (by (have t_c5 := eqI c5; have t_w7 := w7.1; have : (0 : Int32).toInt = 0 := qI_0; have tnb_ := nib9 tn1375_ tn1376_ tn1380_ tn1381_ tn1377_ tn1382_ tn1383_ tn1378_ tn1379_; have tqz_ := qz41_; omega))] | rw [if_neg (by (have t_c5 := eqI c5; have t_w7 := w7.1; have : (0 : Int32).toInt = 0 := qI_0; have tnb_ := nib9 tn1375_ tn1376_ tn1380_ tn1381_ tn1377_ tn1382_ tn1383_ tn1378_ tn1379_; have tqz_ := qz41_; omega))] | rw [if_pos (by decide)] | rw [if_neg (by decide)]))); (try unfold fiS); (try (repeat (first | rw [if_pos (by with_reducible assumption)] | rw [if_neg (by with_reducible assumption)] | rw [if_pos (by (have t_c5 := eqI c5; have t_w7 := w7.1; have : (0 : Int32).toInt = 0 := qI_0; have tnb_ := nib9 tn1375_ tn1376_ tn1380_ tn1381_ tn1377_ tn1382_ tn1383_ tn1378_ tn1379_; have tqz_ := qz41_; omega))] | rw [if_neg (by (have t_c5 := eqI c5; have t_w7 := w7.1; have : (0 : Int32).toInt = 0 := qI_0; have tnb_ := nib9 tn1375_ tn1376_ tn1380_ tn1381_ tn1377_ tn1382_ tn1383_ tn1378_ tn1379_; have tqz_ := qz41_; omega))] | rw [if_pos (by decide)] | rw [if_neg (by decide)]))); (try rw [ew7]); (try (repeat (first | rw [if_pos (by with_reducible assumption)] | rw [if_neg (by with_reducible assumption)] | rw [if_pos (by (have t_c5 := eqI c5; have t_w7 := w7.1; have : (0 : Int32).toInt = 0 := qI_0; have tnb_ := nib9 tn1375_ tn1376_ tn1380_ tn1381_ tn1377_ tn1382_ tn1383_ tn1378_ tn1379_; have tqz_ := qz41_; omega))] | rw [if_neg (by (have t_c5 := eqI c5; have t_w7 := w7.1; have : (0 : Int32).toInt = 0 := qI_0; have tnb_ := nib9 tn1375_ tn1376_ tn1380_ tn1381_ tn1377_ tn1382_ tn1383_ tn1378_ tn1379_; have tqz_ := qz41_; omega))] | rw [if_pos (by decide)] | rw [if_neg (by decide)]))); (try unfold fiS); (try (repeat (first | rw [if_pos (by with_reducible assumption)] | rw [if_neg (by with_reducible assumption)] | rw [if_pos (by (have t_c5 := eqI c5; have t_w7 := w7.1; have : (0 : Int32).toInt = 0 := qI_0; have tnb_ := nib9 tn1375_ tn1376_ tn1380_ tn1381_ tn1377_ tn1382_ tn1383_ tn1378_ tn1379_; have tqz_ := qz41_; omega))] | rw [if_neg (by (have t_c5 := eqI c5; have t_w7 := w7.1; have : (0 : Int32).toInt = 0 := qI_0; have tnb_ := nib9 tn1375_ tn1376_ tn1380_ tn1381_ tn1377_ tn1382_ tn1383_ tn1378_ tn1379_; have tqz_ := qz41_; omega))] | rw [if_pos (by decide)] | rw [if_neg (by decide)]))); all_goals rfl)⟩, ⟨by rw [ht]; exact hP9, hD9⟩⟩, hS.F ht⟩) hS.2.2 dX11_readLine_22
  · skip
    have ew2 : nT ftp (vbr, vba, nsp, nhe, vtk, vva) = nI w20 := (w21.symm.trans w2e).symm
    refine lv_cg (y := nI w20) w21 ?_
    refine lv_istore_n (lv' := [(1, .int (nI w20)), (0, .ref h0)]) hx hb dX11_readLine_4 rfl hl (by decide) rfl (fun ls hl => ?_)
    refine lv_iload_n hx hb dX11_readLine_5 rfl (lv_at hl 0 rfl) ?_
    refine lv_i2l (v := (nI w20).toInt64) hx hb dX11_readLine_6 rfl ?_
    refine lv_lconst (v := 0) hx hb dX11_readLine_7 (by decide) ?_
    refine lv_ldc2 (v := 3) hx hb hown (hg _ wt_1023) dX11_readLine_8 ?_
    have hPc := hP.sub (ws' := []) [] rfl
    refine va_calli (va_runS (As := [.long ((nI w20).toInt64), .long 0, .long 3]) (rest := []) ⟨hx, hb, hml, hown, hg⟩ (c_X11_in l dC dI G _ ((nI w20).toInt64) 0 3) (kwS hg mfX11_in wt_992 ⟨Nat.le_of_ble_eq_true rfl, Nat.le_of_ble_eq_true rfl⟩) (preSR hK hPc) rfl rfl hl.1 rfl (lv_room (Nat.le_of_ble_eq_true rfl)) dX11_readLine_11 ⟨Nat.le_of_ble_eq_true rfl, Nat.le_of_ble_eq_true rfl⟩) hS (fun q h1 h2 => absurd h2 (Nat.not_le.mpr h1)) (fun q h => hA q (Nat.le_trans hS.1 h)) (fun r10 ur10 t H1 locs ht hvm w11 hB hz1 hk1 hS => ?_)
    have hP := keepR hP hk1
    obtain ⟨w11, w11x⟩ := w11
    try simp only [l_ii, show (0 : Int64).toInt = 0 from by decide, show (3 : Int64).toInt = 3 from by decide] at w11
    subst w11
    refine lv_if_ne (tgt := 23) hx hb dX11_readLine_14 rfl (fun c12 => ?_) (fun c12 => ?_)
    · skip
      have b13 := if10_p c12
      refine lv_iload_n hx hb dX11_readLine_23 rfl (lv_at hl 0 rfl) ?_
      refine lv_iconst (v := 2) hx hb dX11_readLine_24 rfl ?_
      refine lv_icmp_ne (tgt := 35) hx hb dX11_readLine_25 rfl (fun c14 => ?_) (fun c14 => ?_)
      · skip
        have tn1384_ : nIT w20 := fun _ => nI_toInt (by first | omega | (have t := neI c14; omega))
        have n15 : w20 ≠ 2 := by have t := neI c14; rw [show (nI (w20)).toInt = ((w20 : Nat) : Int) from tn1384_ ()] at t; have : (2 : Int32).toInt = 2 := qI_2; omega
        refine lv_aload_n hx hb dX11_readLine_35 rfl (lv_at hl 1 rfl) ?_
        refine lv_iload_n hx hb dX11_readLine_36 rfl (lv_at hl 0 rfl) ?_
        obtain ⟨hPc, hDc, hFc⟩ := va_sub3 (ws' := [(h0, .inr (11, [.ref st, .int (nI N), .int (nI B), .ref rp, .int (nI nrs), .int (nI nrb), .int vhs, .int vca, .int vxs, .int vxb, .ref tp, .int (nI T), .int vfa, .int vbr, .int vba, .int (nI nsp), .int (nI nhe), .int vtk, .int vva, .ref cu, .ref lt, .ref od, .ref th, .ref be, .ref ln, .int (nI S), .ref ma, .int (nI M), .ref ah, .ref bh, .ref ik, .ref la, .ref lg, .ref ce, .int vto])), (tp, .inl (G 0, 320, .inl ftp)), (rp, .inl (G 0, 49, .inl frp))]) hP hD hS hA [0, 1, 4] (by decide) rfl
        refine va_callv (va_runV (As := [.int (nI w20)]) (rest := []) ⟨hx, hb, hml, hown, hg⟩ (c_X11_readMoreE l dC dI G _ h0 st N B rp nrs tp T nsp nhe cu lt od th be ln S ma M ah bh ik la lg ce (nI w20) (nI nrb) vhs vca vxs vxb vfa vbr vba vtk vva vto ftp frp hN hB_ hT_ hS0 hM_ hbr hsp hhe hrs hrp htb) (kwV hg mfX11_readMore wt_1032 ⟨Nat.le_of_ble_eq_true rfl, Nat.le_of_ble_eq_true rfl⟩) (preVW hK hPc hDc (ci := 11) (r := (RX11, TX11, 35)) rfl rfl) rfl rfl hl.1 rfl (lv_room (Nat.le_of_ble_eq_true rfl)) dX11_readLine_37 ⟨Nat.le_of_ble_eq_true rfl, Nat.le_of_ble_eq_true rfl⟩) hS (fun q _ h => hFc q h) hFc (fun ur16 t H1 locs ht hvm w17 hB hz1 hk1 hS => ?_)
        obtain ⟨u18, u19, u20, u21, u22, u23, u24, u25, u26, u27, u28, u29⟩ := ur16
        obtain ⟨hP1, hD1⟩ := hB
        rw [ht] at hP1
        obtain ⟨hP, hD⟩ := va_join (wr := [(cu, .inl (G 0, 11, .inl fcu)), (lt, .inl (G 0, 54, .inl flt))]) (w1 := [(h0, .inr (11, [.ref st, .int (nI N), .int (nI B), .ref rp, .int (nI u24), .int (nI nrb), .int u25, .int u26, .int u27, .int u28, .ref tp, .int (nI T), .int vfa, .int u18, .int u19, .int (nI u20), .int (nI u21), .int u22, .int u23, .ref cu, .ref lt, .ref od, .ref th, .ref be, .ref ln, .int (nI S), .ref ma, .int (nI M), .ref ah, .ref bh, .ref ik, .ref la, .ref lg, .ref ce, .int vto])), (tp, .inl (G 0, 320, .inl ftp)), (rp, .inl (G 0, 49, .inl u29))]) hP hD [0, 1, 4] [2, 3] rfl rfl (by decide) (by decide) hk1 hFc hP1 hD1
        have w17 : (OKP u29 ∧ ((0 ≤ u18.toInt ∧ (vbr.toInt = 0 ∨ 0 < u18.toInt) ∧ nsp ≤ u20 ∧ u20 ≤ T ∧ u21 ≤ u20 ∧ (0 < u18.toInt ∨ u22.toInt = 0 ∨ nsp < u20)) ∧ u24 ≤ 11 ∧ (0 < u18.toInt ∨ u24 ≤ 10))) ∧ ((u18, u19, u20, u21, u22, u23), u24, u25, u26, u27, u28, u29) = rmS ftp T (nI w20) (vbr, vba, nsp, nhe, vtk, vva) nrs vhs vca vxs vxb frp := w17
        generalize H1 = H at hP hS ⊢
        have ew17 : rmS ftp T (nI w20) (vbr, vba, nsp, nhe, vtk, vva) nrs vhs vca vxs vxb frp = _ := w17.2.symm
        refine lv_aload_n hx hb dX11_readLine_40 rfl (lv_at hl 1 rfl) ?_
        refine va_get (D := (dC, dI)) (ci := 11) (v := .int u18) (C := RX11) (T := TX11) (N := 35) hx hb hg inG11 hown hK.1 hP 2 rfl rfl 13 (Nat.le_of_ble_eq_true rfl) (hg _ wt_891) (fun _ h9 => h9) rfl dX11_readLine_41 ?_
        refine lv_if_ne (tgt := 60) hx hb dX11_readLine_44 rfl (fun c30 => ?_) (fun c30 => ?_)
        · skip
          refine lv_aload_n hx hb dX11_readLine_60 rfl (lv_at hl 1 rfl) ?_
          obtain ⟨hPc, hDc, hFc⟩ := va_sub3 (ws' := [(h0, .inr (11, [.ref st, .int (nI N), .int (nI B), .ref rp, .int (nI u24), .int (nI nrb), .int u25, .int u26, .int u27, .int u28, .ref tp, .int (nI T), .int vfa, .int u18, .int u19, .int (nI u20), .int (nI u21), .int u22, .int u23, .ref cu, .ref lt, .ref od, .ref th, .ref be, .ref ln, .int (nI S), .ref ma, .int (nI M), .ref ah, .ref bh, .ref ik, .ref la, .ref lg, .ref ce, .int vto])), (tp, .inl (G 0, 320, .inl ftp))]) hP hD hS hA [2, 3] (by decide) rfl
          refine va_callv (va_runV (As := []) (rest := []) ⟨hx, hb, hml, hown, hg⟩ (c_X11_goesOnE l dC dI G _ h0 st N B rp tp T u20 u21 cu lt od th be ln S ma M ah bh ik la lg ce (nI u24) (nI nrb) u25 u26 u27 u28 vfa u18 u19 u22 u23 vto ftp hN hB_ hT_ hS0 hM_ (by have t_w22 := w22; have t_b13 := b13; have t_n15 := n15; have t_c30 := neI c30; have : (0 : Int32).toInt = 0 := qI_0; have tnb_ := nib10 tn1375_ tn1376_ tn1380_ tn1381_ tn1377_ tn1382_ tn1383_ tn1378_ tn1379_ tn1384_; have tqz_ := qz41_; omega) (by first | omega | (have t_w22 := w22; have t_b13 := b13; have t_n15 := n15; have t_c30 := neI c30; have : (0 : Int32).toInt = 0 := qI_0; have tnb_ := nib10 tn1375_ tn1376_ tn1380_ tn1381_ tn1377_ tn1382_ tn1383_ tn1378_ tn1379_ tn1384_; have tqz_ := qz41_; omega)) (by have t_w22 := w22; have t_b13 := b13; have t_n15 := n15; have t_c30 := neI c30; have : (0 : Int32).toInt = 0 := qI_0; have tnb_ := nib10 tn1375_ tn1376_ tn1380_ tn1381_ tn1377_ tn1382_ tn1383_ tn1378_ tn1379_ tn1384_; have tqz_ := qz41_; omega) htb) (kwV hg mfX11_goesOn wt_999 ⟨Nat.le_of_ble_eq_true rfl, Nat.le_of_ble_eq_true rfl⟩) (preVW hK hPc hDc (ci := 11) (r := (RX11, TX11, 35)) rfl rfl) rfl rfl hl.1 rfl (lv_room (Nat.le_of_ble_eq_true rfl)) dX11_readLine_61 ⟨Nat.le_of_ble_eq_true rfl, Nat.le_of_ble_eq_true rfl⟩) hS (fun q _ h => hFc q h) hFc (fun ur31 t H1 locs ht hvm w32 hB hz1 hk1 hS => ?_)
          obtain ⟨u33, u34, u35, u36, u37, u38⟩ := ur31
          obtain ⟨hP1, hD1⟩ := hB
          rw [ht] at hP1
          obtain ⟨hP, hD⟩ := va_join (wr := [(cu, .inl (G 0, 11, .inl fcu)), (lt, .inl (G 0, 54, .inl flt)), (rp, .inl (G 0, 49, .inl u29))]) (w1 := [(h0, .inr (11, [.ref st, .int (nI N), .int (nI B), .ref rp, .int (nI u24), .int (nI nrb), .int u25, .int u26, .int u27, .int u28, .ref tp, .int (nI T), .int vfa, .int u33, .int u34, .int (nI u35), .int (nI u36), .int u37, .int u38, .ref cu, .ref lt, .ref od, .ref th, .ref be, .ref ln, .int (nI S), .ref ma, .int (nI M), .ref ah, .ref bh, .ref ik, .ref la, .ref lg, .ref ce, .int vto])), (tp, .inl (G 0, 320, .inl ftp))]) hP hD [2, 3] [0, 1, 4] rfl rfl (by decide) (by decide) hk1 hFc hP1 hD1
          have w32 : 0 ≤ u33.toInt ∧ (u18.toInt = 0 ∨ u33.toInt = u18.toInt) ∧ u20 ≤ u35 ∧ u35 ≤ T ∧ u36 ≤ u35 ∧ (0 < u18.toInt ∨ u37.toInt = 0 ∨ u20 < u35) ∧ (u33, u34, u35, u36, u37, u38) = gOn ftp T u18 u19 u20 u21 u22 u23 := w32
          generalize H1 = H at hP hS ⊢
          have ew32 : gT ftp T (u18, u19, u20, u21, u22, u23) = (u33, u34, u35, u36, u37, u38) := w32.2.2.2.2.2.2.symm
          obtain ⟨hP9, hD9⟩ := va_sub2 (ws' := [(h0, .inr (11, [.ref st, .int (nI N), .int (nI B), .ref rp, .int (nI u24), .int (nI nrb), .int u25, .int u26, .int u27, .int u28, .ref tp, .int (nI T), .int vfa, .int u33, .int u34, .int (nI u35), .int (nI u36), .int u37, .int u38, .ref cu, .ref lt, .ref od, .ref th, .ref be, .ref ln, .int (nI S), .ref ma, .int (nI M), .ref ah, .ref bh, .ref ik, .ref la, .ref lg, .ref ce, .int vto])), (tp, .inl (G 0, 320, .inl ftp)), (cu, .inl (G 0, 11, .inl fcu)), (lt, .inl (G 0, 54, .inl flt)), (rp, .inl (G 0, 49, .inl u29))]) hP hD [3, 4, 0, 1, 2] (by decide) rfl
          refine W.widen (k := 0) (n := 0) (Nat.le_of_ble_eq_true rfl) (Nat.le_of_ble_eq_true rfl) ?_
          exact W.vret hx hb hr (fun t ht hW => ⟨⟨(u33, u34, u35, u36, u37, u38, u24, nrb, u25, u26, u27, u28, u29), rfl, ⟨⟨w17.1.1, (by have t_w22 := w22; have t_b13 := b13; have t_n15 := n15; have t_c30 := neI c30; have : (0 : Int32).toInt = 0 := qI_0; have tnb_ := nib10 tn1375_ tn1376_ tn1380_ tn1381_ tn1377_ tn1382_ tn1383_ tn1378_ tn1379_ tn1384_; have tqz_ := qz41_; omega)⟩, (by unfold rlS; (try rw [ew2]); (try (repeat (first | rw [if_pos (by with_reducible assumption)] | rw [if_neg (by with_reducible assumption)] | rw [if_pos (by (have t_w22 := w22; have t_b13 := b13; have t_n15 := n15; have t_c30 := neI c30; have : (0 : Int32).toInt = 0 := qI_0; have tnb_ := nib10 tn1375_ tn1376_ tn1380_ tn1381_ tn1377_ tn1382_ tn1383_ tn1378_ tn1379_ tn1384_; have tqz_ := qz41_; omega))] | rw [if_neg (by (have t_w22 := w22; have t_b13 := b13; have t_n15 := n15; have t_c30 := neI c30; have : (0 : Int32).toInt = 0 := qI_0; have tnb_ := nib10 tn1375_ tn1376_ tn1380_ tn1381_ tn1377_ tn1382_ tn1383_ tn1378_ tn1379_ tn1384_; have tqz_ := qz41_; omega))] | rw [if_pos (by decide)] | rw [if_neg (by decide)]))); (try unfold fiS); (try (repeat (first | rw [if_pos (by with_reducible assumption)] | rw [if_neg (by with_reducible assumption)] | rw [if_pos (by (have t_w22 := w22; have t_b13 := b13; have t_n15 := n15; have t_c30 := neI c30; have : (0 : Int32).toInt = 0 := qI_0; have tnb_ := nib10 tn1375_ tn1376_ tn1380_ tn1381_ tn1377_ tn1382_ tn1383_ tn1378_ tn1379_ tn1384_; have tqz_ := qz41_; omega))] | rw [if_neg (by (have t_w22 := w22; have t_b13 := b13; have t_n15 := n15; have t_c30 := neI c30; have : (0 : Int32).toInt = 0 := qI_0; have tnb_ := nib10 tn1375_ tn1376_ tn1380_ tn1381_ tn1377_ tn1382_ tn1383_ tn1378_ tn1379_ tn1384_; have tqz_ := qz41_; omega))] | rw [if_pos (by decide)] | rw [if_neg (by decide)]))); (try rw [ew17]); (try (repeat (first | rw [if_pos (by with_reducible assumption)] | rw [if_neg (by with_reducible assumption)] | rw [if_pos (by (have t_w22 := w22; have t_b13 := b13; have t_n15 := n15; have t_c30 := neI c30; have : (0 : Int32).toInt = 0 := qI_0; have tnb_ := nib10 tn1375_ tn1376_ tn1380_ tn1381_ tn1377_ tn1382_ tn1383_ tn1378_ tn1379_ tn1384_; have tqz_ := qz41_; omega))] | rw [if_neg (by (have t_w22 := w22; have t_b13 := b13; have t_n15 := n15; have t_c30 := neI c30; have : (0 : Int32).toInt = 0 := qI_0; have tnb_ := nib10 tn1375_ tn1376_ tn1380_ tn1381_ tn1377_ tn1382_ tn1383_ tn1378_ tn1379_ tn1384_; have tqz_ := qz41_; omega))] | rw [if_pos (by decide)] | rw [if_neg (by decide)]))); (try unfold fiS); (try (repeat (first | rw [if_pos (by with_reducible assumption)] | rw [if_neg (by with_reducible assumption)] | rw [if_pos (by (have t_w22 := w22; have t_b13 := b13; have t_n15 := n15; have t_c30 := neI c30; have : (0 : Int32).toInt = 0 := qI_0; have tnb_ := nib10 tn1375_ tn1376_ tn1380_ tn1381_ tn1377_ tn1382_ tn1383_ tn1378_ tn1379_ tn1384_; have tqz_ := qz41_; omega))] | rw [if_neg (by (have t_w22 := w22; have t_b13 := b13; have t_n15 := n15; have t_c30 := neI c30; have : (0 : Int32).toInt = 0 := qI_0; have tnb_ := nib10 tn1375_ tn1376_ tn1380_ tn1381_ tn1377_ tn1382_ tn1383_ tn1378_ tn1379_ tn1384_; have tqz_ := qz41_; omega))] | rw [if_pos (by decide)] | rw [if_neg (by decide)]))); (try rw [ew32]); (try (repeat (first | rw [if_pos (by with_reducible assumption)] | rw [if_neg (by with_reducible assumption)] | rw [if_pos (by (have t_w22 := w22; have t_b13 := b13; have t_n15 := n15; have t_c30 := neI c30; have : (0 : Int32).toInt = 0 := qI_0; have tnb_ := nib10 tn1375_ tn1376_ tn1380_ tn1381_ tn1377_ tn1382_ tn1383_ tn1378_ tn1379_ tn1384_; have tqz_ := qz41_; omega))] | rw [if_neg (by (have t_w22 := w22; have t_b13 := b13; have t_n15 := n15; have t_c30 := neI c30; have : (0 : Int32).toInt = 0 := qI_0; have tnb_ := nib10 tn1375_ tn1376_ tn1380_ tn1381_ tn1377_ tn1382_ tn1383_ tn1378_ tn1379_ tn1384_; have tqz_ := qz41_; omega))] | rw [if_pos (by decide)] | rw [if_neg (by decide)]))); (try unfold fiS); (try (repeat (first | rw [if_pos (by with_reducible assumption)] | rw [if_neg (by with_reducible assumption)] | rw [if_pos (by (have t_w22 := w22; have t_b13 := b13; have t_n15 := n15; have t_c30 := neI c30; have : (0 : Int32).toInt = 0 := qI_0; have tnb_ := nib10 tn1375_ tn1376_ tn1380_ tn1381_ tn1377_ tn1382_ tn1383_ tn1378_ tn1379_ tn1384_; have tqz_ := qz41_; omega))] | rw [if_neg (by (have t_w22 := w22; have t_b13 := b13; have t_n15 := n15; have t_c30 := neI c30; have : (0 : Int32).toInt = 0 := qI_0; have tnb_ := nib10 tn1375_ tn1376_ tn1380_ tn1381_ tn1377_ tn1382_ tn1383_ tn1378_ tn1379_ tn1384_; have tqz_ := qz41_; omega))] | rw [if_pos (by decide)] | rw [if_neg (by decide)]))); all_goals rfl)⟩, ⟨by rw [ht]; exact hP9, hD9⟩⟩, hS.F ht⟩) hS.2.2 dX11_readLine_64
        · skip
          refine lv_aload_n hx hb dX11_readLine_47 rfl (lv_at hl 1 rfl) ?_
          refine va_get (D := (dC, dI)) (ci := 11) (v := .int u22) (C := RX11) (T := TX11) (N := 35) hx hb hg inG11 hown hK.1 hP 2 rfl rfl 17 (Nat.le_of_ble_eq_true rfl) (hg _ wt_895) (fun _ h9 => h9) rfl dX11_readLine_48 ?_
          refine lv_iconst (v := 3) hx hb dX11_readLine_51 rfl ?_
          refine lv_icmp_eq (tgt := 60) hx hb dX11_readLine_52 rfl (fun c39 => ?_) (fun c39 => ?_)
          · skip
            refine lv_aload_n hx hb dX11_readLine_60 rfl (lv_at hl 1 rfl) ?_
            obtain ⟨hPc, hDc, hFc⟩ := va_sub3 (ws' := [(h0, .inr (11, [.ref st, .int (nI N), .int (nI B), .ref rp, .int (nI u24), .int (nI nrb), .int u25, .int u26, .int u27, .int u28, .ref tp, .int (nI T), .int vfa, .int u18, .int u19, .int (nI u20), .int (nI u21), .int u22, .int u23, .ref cu, .ref lt, .ref od, .ref th, .ref be, .ref ln, .int (nI S), .ref ma, .int (nI M), .ref ah, .ref bh, .ref ik, .ref la, .ref lg, .ref ce, .int vto])), (tp, .inl (G 0, 320, .inl ftp))]) hP hD hS hA [2, 3] (by decide) rfl
            refine va_callv (va_runV (As := []) (rest := []) ⟨hx, hb, hml, hown, hg⟩ (c_X11_goesOnE l dC dI G _ h0 st N B rp tp T u20 u21 cu lt od th be ln S ma M ah bh ik la lg ce (nI u24) (nI nrb) u25 u26 u27 u28 vfa u18 u19 u22 u23 vto ftp hN hB_ hT_ hS0 hM_ (by have t_w22 := w22; have t_b13 := b13; have t_n15 := n15; have t_c30 := eqI c30; have t_c39 := eqI c39; have tqz_ := qz23_; have tnb_ := nib10 tn1375_ tn1376_ tn1380_ tn1381_ tn1377_ tn1382_ tn1383_ tn1378_ tn1379_ tn1384_; have tqz_ := qz41_; omega) (by first | omega | (have t_w22 := w22; have t_b13 := b13; have t_n15 := n15; have t_c30 := eqI c30; have t_c39 := eqI c39; have tqz_ := qz23_; have tnb_ := nib10 tn1375_ tn1376_ tn1380_ tn1381_ tn1377_ tn1382_ tn1383_ tn1378_ tn1379_ tn1384_; have tqz_ := qz41_; omega)) (by have t_w22 := w22; have t_b13 := b13; have t_n15 := n15; have t_c30 := eqI c30; have t_c39 := eqI c39; have tqz_ := qz23_; have tnb_ := nib10 tn1375_ tn1376_ tn1380_ tn1381_ tn1377_ tn1382_ tn1383_ tn1378_ tn1379_ tn1384_; have tqz_ := qz41_; omega) htb) (kwV hg mfX11_goesOn wt_999 ⟨Nat.le_of_ble_eq_true rfl, Nat.le_of_ble_eq_true rfl⟩) (preVW hK hPc hDc (ci := 11) (r := (RX11, TX11, 35)) rfl rfl) rfl rfl hl.1 rfl (lv_room (Nat.le_of_ble_eq_true rfl)) dX11_readLine_61 ⟨Nat.le_of_ble_eq_true rfl, Nat.le_of_ble_eq_true rfl⟩) hS (fun q _ h => hFc q h) hFc (fun ur40 t H1 locs ht hvm w41 hB hz1 hk1 hS => ?_)
            obtain ⟨u42, u43, u44, u45, u46, u47⟩ := ur40
            obtain ⟨hP1, hD1⟩ := hB
            rw [ht] at hP1
            obtain ⟨hP, hD⟩ := va_join (wr := [(cu, .inl (G 0, 11, .inl fcu)), (lt, .inl (G 0, 54, .inl flt)), (rp, .inl (G 0, 49, .inl u29))]) (w1 := [(h0, .inr (11, [.ref st, .int (nI N), .int (nI B), .ref rp, .int (nI u24), .int (nI nrb), .int u25, .int u26, .int u27, .int u28, .ref tp, .int (nI T), .int vfa, .int u42, .int u43, .int (nI u44), .int (nI u45), .int u46, .int u47, .ref cu, .ref lt, .ref od, .ref th, .ref be, .ref ln, .int (nI S), .ref ma, .int (nI M), .ref ah, .ref bh, .ref ik, .ref la, .ref lg, .ref ce, .int vto])), (tp, .inl (G 0, 320, .inl ftp))]) hP hD [2, 3] [0, 1, 4] rfl rfl (by decide) (by decide) hk1 hFc hP1 hD1
            have w41 : 0 ≤ u42.toInt ∧ (u18.toInt = 0 ∨ u42.toInt = u18.toInt) ∧ u20 ≤ u44 ∧ u44 ≤ T ∧ u45 ≤ u44 ∧ (0 < u18.toInt ∨ u46.toInt = 0 ∨ u20 < u44) ∧ (u42, u43, u44, u45, u46, u47) = gOn ftp T u18 u19 u20 u21 u22 u23 := w41
            generalize H1 = H at hP hS ⊢
            have ew41 : gT ftp T (u18, u19, u20, u21, u22, u23) = (u42, u43, u44, u45, u46, u47) := w41.2.2.2.2.2.2.symm
            obtain ⟨hP9, hD9⟩ := va_sub2 (ws' := [(h0, .inr (11, [.ref st, .int (nI N), .int (nI B), .ref rp, .int (nI u24), .int (nI nrb), .int u25, .int u26, .int u27, .int u28, .ref tp, .int (nI T), .int vfa, .int u42, .int u43, .int (nI u44), .int (nI u45), .int u46, .int u47, .ref cu, .ref lt, .ref od, .ref th, .ref be, .ref ln, .int (nI S), .ref ma, .int (nI M), .ref ah, .ref bh, .ref ik, .ref la, .ref lg, .ref ce, .int vto])), (tp, .inl (G 0, 320, .inl ftp)), (cu, .inl (G 0, 11, .inl fcu)), (lt, .inl (G 0, 54, .inl flt)), (rp, .inl (G 0, 49, .inl u29))]) hP hD [3, 4, 0, 1, 2] (by decide) rfl
            refine W.widen (k := 0) (n := 0) (Nat.le_of_ble_eq_true rfl) (Nat.le_of_ble_eq_true rfl) ?_
            exact W.vret hx hb hr (fun t ht hW => ⟨⟨(u42, u43, u44, u45, u46, u47, u24, nrb, u25, u26, u27, u28, u29), rfl, ⟨⟨w17.1.1, (by have t_w22 := w22; have t_b13 := b13; have t_n15 := n15; have t_c30 := eqI c30; have t_c39 := eqI c39; have tqz_ := qz23_; have tnb_ := nib10 tn1375_ tn1376_ tn1380_ tn1381_ tn1377_ tn1382_ tn1383_ tn1378_ tn1379_ tn1384_; have tqz_ := qz41_; omega)⟩, (by unfold rlS; (try rw [ew2]); (try (repeat (first | rw [if_pos (by with_reducible assumption)] | rw [if_neg (by with_reducible assumption)] | rw [if_pos (by (have t_w22 := w22; have t_b13 := b13; have t_n15 := n15; have t_c30 := eqI c30; have t_c39 := eqI c39; have tqz_ := qz23_; have tnb_ := nib10 tn1375_ tn1376_ tn1380_ tn1381_ tn1377_ tn1382_ tn1383_ tn1378_ tn1379_ tn1384_; have tqz_ := qz41_; omega))] | rw [if_neg (by (have t_w22 := w22; have t_b13 := b13; have t_n15 := n15; have t_c30 := eqI c30; have t_c39 := eqI c39; have tqz_ := qz23_; have tnb_ := nib10 tn1375_ tn1376_ tn1380_ tn1381_ tn1377_ tn1382_ tn1383_ tn1378_ tn1379_ tn1384_; have tqz_ := qz41_; omega))] | rw [if_pos (by decide)] | rw [if_neg (by decide)]))); (try unfold fiS); (try (repeat (first | rw [if_pos (by with_reducible assumption)] | rw [if_neg (by with_reducible assumption)] | rw [if_pos (by (have t_w22 := w22; have t_b13 := b13; have t_n15 := n15; have t_c30 := eqI c30; have t_c39 := eqI c39; have tqz_ := qz23_; have tnb_ := nib10 tn1375_ tn1376_ tn1380_ tn1381_ tn1377_ tn1382_ tn1383_ tn1378_ tn1379_ tn1384_; have tqz_ := qz41_; omega))] | rw [if_neg (by (have t_w22 := w22; have t_b13 := b13; have t_n15 := n15; have t_c30 := eqI c30; have t_c39 := eqI c39; have tqz_ := qz23_; have tnb_ := nib10 tn1375_ tn1376_ tn1380_ tn1381_ tn1377_ tn1382_ tn1383_ tn1378_ tn1379_ tn1384_; have tqz_ := qz41_; omega))] | rw [if_pos (by decide)] | rw [if_neg (by decide)]))); (try rw [ew17]); (try (repeat (first | rw [if_pos (by with_reducible assumption)] | rw [if_neg (by with_reducible assumption)] | rw [if_pos (by (have t_w22 := w22; have t_b13 := b13; have t_n15 := n15; have t_c30 := eqI c30; have t_c39 := eqI c39; have tqz_ := qz23_; have tnb_ := nib10 tn1375_ tn1376_ tn1380_ tn1381_ tn1377_ tn1382_ tn1383_ tn1378_ tn1379_ tn1384_; have tqz_ := qz41_; omega))] | rw [if_neg (by (have t_w22 := w22; have t_b13 := b13; have t_n15 := n15; have t_c30 := eqI c30; have t_c39 := eqI c39; have tqz_ := qz23_; have tnb_ := nib10 tn1375_ tn1376_ tn1380_ tn1381_ tn1377_ tn1382_ tn1383_ tn1378_ tn1379_ tn1384_; have tqz_ := qz41_; omega))] | rw [if_pos (by decide)] | rw [if_neg (by decide)]))); (try unfold fiS); (try (repeat (first | rw [if_pos (by with_reducible assumption)] | rw [if_neg (by with_reducible assumption)] | rw [if_pos (by (have t_w22 := w22; have t_b13 := b13; have t_n15 := n15; have t_c30 := eqI c30; have t_c39 := eqI c39; have tqz_ := qz23_; have tnb_ := nib10 tn1375_ tn1376_ tn1380_ tn1381_ tn1377_ tn1382_ tn1383_ tn1378_ tn1379_ tn1384_; have tqz_ := qz41_; omega))] | rw [if_neg (by (have t_w22 := w22; have t_b13 := b13; have t_n15 := n15; have t_c30 := eqI c30; have t_c39 := eqI c39; have tqz_ := qz23_; have tnb_ := nib10 tn1375_ tn1376_ tn1380_ tn1381_ tn1377_ tn1382_ tn1383_ tn1378_ tn1379_ tn1384_; have tqz_ := qz41_; omega))] | rw [if_pos (by decide)] | rw [if_neg (by decide)]))); (try rw [ew41]); (try (repeat (first | rw [if_pos (by with_reducible assumption)] | rw [if_neg (by with_reducible assumption)] | rw [if_pos (by (have t_w22 := w22; have t_b13 := b13; have t_n15 := n15; have t_c30 := eqI c30; have t_c39 := eqI c39; have tqz_ := qz23_; have tnb_ := nib10 tn1375_ tn1376_ tn1380_ tn1381_ tn1377_ tn1382_ tn1383_ tn1378_ tn1379_ tn1384_; have tqz_ := qz41_; omega))] | rw [if_neg (by (have t_w22 := w22; have t_b13 := b13; have t_n15 := n15; have t_c30 := eqI c30; have t_c39 := eqI c39; have tqz_ := qz23_; have tnb_ := nib10 tn1375_ tn1376_ tn1380_ tn1381_ tn1377_ tn1382_ tn1383_ tn1378_ tn1379_ tn1384_; have tqz_ := qz41_; omega))] | rw [if_pos (by decide)] | rw [if_neg (by decide)]))); (try unfold fiS); (try (repeat (first | rw [if_pos (by with_reducible assumption)] | rw [if_neg (by with_reducible assumption)] | rw [if_pos (by (have t_w22 := w22; have t_b13 := b13; have t_n15 := n15; have t_c30 := eqI c30; have t_c39 := eqI c39; have tqz_ := qz23_; have tnb_ := nib10 tn1375_ tn1376_ tn1380_ tn1381_ tn1377_ tn1382_ tn1383_ tn1378_ tn1379_ tn1384_; have tqz_ := qz41_; omega))] | rw [if_neg (by (have t_w22 := w22; have t_b13 := b13; have t_n15 := n15; have t_c30 := eqI c30; have t_c39 := eqI c39; have tqz_ := qz23_; have tnb_ := nib10 tn1375_ tn1376_ tn1380_ tn1381_ tn1377_ tn1382_ tn1383_ tn1378_ tn1379_ tn1384_; have tqz_ := qz41_; omega))] | rw [if_pos (by decide)] | rw [if_neg (by decide)]))); all_goals rfl)⟩, ⟨by rw [ht]; exact hP9, hD9⟩⟩, hS.F ht⟩) hS.2.2 dX11_readLine_64
          · skip
            refine lv_aload_n hx hb dX11_readLine_55 rfl (lv_at hl 1 rfl) ?_
            refine lv_iconst (v := 2) hx hb dX11_readLine_56 rfl ?_
            obtain ⟨hPc, hDc, hFc⟩ := va_sub3 (ws' := [(h0, .inr (11, [.ref st, .int (nI N), .int (nI B), .ref rp, .int (nI u24), .int (nI nrb), .int u25, .int u26, .int u27, .int u28, .ref tp, .int (nI T), .int vfa, .int u18, .int u19, .int (nI u20), .int (nI u21), .int u22, .int u23, .ref cu, .ref lt, .ref od, .ref th, .ref be, .ref ln, .int (nI S), .ref ma, .int (nI M), .ref ah, .ref bh, .ref ik, .ref la, .ref lg, .ref ce, .int vto]))]) hP hD hS hA [2] (by decide) rfl
            refine va_callv (va_runV (As := [.int 2]) (rest := []) ⟨hx, hb, hml, hown, hg⟩ (c_X11_failsE l dC dI G _ h0 st N B rp tp T u21 cu lt od th be ln S ma M ah bh ik la lg ce 2 (nI u24) (nI nrb) u25 u26 u27 u28 vfa u18 u19 (nI u20) u22 u23 vto hN hB_ hT_ hS0 hM_ (by have t_w22 := w22; have t_b13 := b13; have t_n15 := n15; have t_c30 := eqI c30; have t_c39 := neI c39; have tqz_ := qz23_; have tnb_ := nib10 tn1375_ tn1376_ tn1380_ tn1381_ tn1377_ tn1382_ tn1383_ tn1378_ tn1379_ tn1384_; have tqz_ := qz45_; omega) (by have t_w22 := w22; have t_b13 := b13; have t_n15 := n15; have t_c30 := eqI c30; have t_c39 := neI c39; have tqz_ := qz23_; have tnb_ := nib10 tn1375_ tn1376_ tn1380_ tn1381_ tn1377_ tn1382_ tn1383_ tn1378_ tn1379_ tn1384_; have tqz_ := qz45_; omega) (by first | omega | (have t_w22 := w22; have t_b13 := b13; have t_n15 := n15; have t_c30 := eqI c30; have t_c39 := neI c39; have tqz_ := qz23_; have tnb_ := nib10 tn1375_ tn1376_ tn1380_ tn1381_ tn1377_ tn1382_ tn1383_ tn1378_ tn1379_ tn1384_; have tqz_ := qz45_; omega))) (kwV hg mfX11_fails wt_1011 ⟨Nat.le_of_ble_eq_true rfl, Nat.le_of_ble_eq_true rfl⟩) (preVW hK hPc hDc (ci := 11) (r := (RX11, TX11, 35)) rfl rfl) rfl rfl hl.1 rfl (lv_room (Nat.le_of_ble_eq_true rfl)) dX11_readLine_57 ⟨Nat.le_of_ble_eq_true rfl, Nat.le_of_ble_eq_true rfl⟩) hS (fun q _ h => hFc q h) hFc (fun ur48 t H1 locs ht hvm w49 hB hz1 hk1 hS => ?_)
            obtain ⟨u50, u51⟩ := ur48
            obtain ⟨hP1, hD1⟩ := hB
            rw [ht] at hP1
            obtain ⟨hP, hD⟩ := va_join (wr := [(cu, .inl (G 0, 11, .inl fcu)), (lt, .inl (G 0, 54, .inl flt)), (tp, .inl (G 0, 320, .inl ftp)), (rp, .inl (G 0, 49, .inl u29))]) (w1 := [(h0, .inr (11, [.ref st, .int (nI N), .int (nI B), .ref rp, .int (nI u24), .int (nI nrb), .int u25, .int u26, .int u27, .int u28, .ref tp, .int (nI T), .int vfa, .int u50, .int u51, .int (nI u20), .int (nI u21), .int u22, .int u23, .ref cu, .ref lt, .ref od, .ref th, .ref be, .ref ln, .int (nI S), .ref ma, .int (nI M), .ref ah, .ref bh, .ref ik, .ref la, .ref lg, .ref ce, .int vto]))]) hP hD [2] [0, 1, 3, 4] rfl rfl (by decide) (by decide) hk1 hFc hP1 hD1
            have w49 : 0 < u50.toInt ∧ u50 = flB (2 : Int32) u18 ∧ u51 = flA u18 u19 u21 := w49
            generalize H1 = H at hP hS ⊢
            have ew49 : fT 2 (u18, u19, u20, u21, u22, u23) = (u50, u51, u20, u21, u22, u23) := (by show (flB _ _, flA _ _ _, _, _, _, _) = _; rw [← w49.2.1, ← w49.2.2])
            refine lv_aload_n hx hb dX11_readLine_60 rfl (lv_at hl 1 rfl) ?_
            obtain ⟨hPc, hDc, hFc⟩ := va_sub3 (ws' := [(h0, .inr (11, [.ref st, .int (nI N), .int (nI B), .ref rp, .int (nI u24), .int (nI nrb), .int u25, .int u26, .int u27, .int u28, .ref tp, .int (nI T), .int vfa, .int u50, .int u51, .int (nI u20), .int (nI u21), .int u22, .int u23, .ref cu, .ref lt, .ref od, .ref th, .ref be, .ref ln, .int (nI S), .ref ma, .int (nI M), .ref ah, .ref bh, .ref ik, .ref la, .ref lg, .ref ce, .int vto])), (tp, .inl (G 0, 320, .inl ftp))]) hP hD hS hA [4, 2] (by decide) rfl
            refine va_callv (va_runV (As := []) (rest := []) ⟨hx, hb, hml, hown, hg⟩ (c_X11_goesOnE l dC dI G _ h0 st N B rp tp T u20 u21 cu lt od th be ln S ma M ah bh ik la lg ce (nI u24) (nI nrb) u25 u26 u27 u28 vfa u50 u51 u22 u23 vto ftp hN hB_ hT_ hS0 hM_ (by have t_w22 := w22; have t_b13 := b13; have t_n15 := n15; have t_c30 := eqI c30; have t_c39 := neI c39; have t_w49 := w49.1; have tqz_ := qz23_; have tnb_ := nib10 tn1375_ tn1376_ tn1380_ tn1381_ tn1377_ tn1382_ tn1383_ tn1378_ tn1379_ tn1384_; have tqz_ := qz41_; omega) (by first | omega | (have t_w22 := w22; have t_b13 := b13; have t_n15 := n15; have t_c30 := eqI c30; have t_c39 := neI c39; have t_w49 := w49.1; have tqz_ := qz23_; have tnb_ := nib10 tn1375_ tn1376_ tn1380_ tn1381_ tn1377_ tn1382_ tn1383_ tn1378_ tn1379_ tn1384_; have tqz_ := qz41_; omega)) (by have t_w22 := w22; have t_b13 := b13; have t_n15 := n15; have t_c30 := eqI c30; have t_c39 := neI c39; have t_w49 := w49.1; have tqz_ := qz23_; have tnb_ := nib10 tn1375_ tn1376_ tn1380_ tn1381_ tn1377_ tn1382_ tn1383_ tn1378_ tn1379_ tn1384_; have tqz_ := qz41_; omega) htb) (kwV hg mfX11_goesOn wt_999 ⟨Nat.le_of_ble_eq_true rfl, Nat.le_of_ble_eq_true rfl⟩) (preVW hK hPc hDc (ci := 11) (r := (RX11, TX11, 35)) rfl rfl) rfl rfl hl.1 rfl (lv_room (Nat.le_of_ble_eq_true rfl)) dX11_readLine_61 ⟨Nat.le_of_ble_eq_true rfl, Nat.le_of_ble_eq_true rfl⟩) hS (fun q _ h => hFc q h) hFc (fun ur52 t H1 locs ht hvm w53 hB hz1 hk1 hS => ?_)
            obtain ⟨u54, u55, u56, u57, u58, u59⟩ := ur52
            obtain ⟨hP1, hD1⟩ := hB
            rw [ht] at hP1
            obtain ⟨hP, hD⟩ := va_join (wr := [(cu, .inl (G 0, 11, .inl fcu)), (lt, .inl (G 0, 54, .inl flt)), (rp, .inl (G 0, 49, .inl u29))]) (w1 := [(h0, .inr (11, [.ref st, .int (nI N), .int (nI B), .ref rp, .int (nI u24), .int (nI nrb), .int u25, .int u26, .int u27, .int u28, .ref tp, .int (nI T), .int vfa, .int u54, .int u55, .int (nI u56), .int (nI u57), .int u58, .int u59, .ref cu, .ref lt, .ref od, .ref th, .ref be, .ref ln, .int (nI S), .ref ma, .int (nI M), .ref ah, .ref bh, .ref ik, .ref la, .ref lg, .ref ce, .int vto])), (tp, .inl (G 0, 320, .inl ftp))]) hP hD [4, 2] [0, 1, 3] rfl rfl (by decide) (by decide) hk1 hFc hP1 hD1
            have w53 : 0 ≤ u54.toInt ∧ (u50.toInt = 0 ∨ u54.toInt = u50.toInt) ∧ u20 ≤ u56 ∧ u56 ≤ T ∧ u57 ≤ u56 ∧ (0 < u50.toInt ∨ u58.toInt = 0 ∨ u20 < u56) ∧ (u54, u55, u56, u57, u58, u59) = gOn ftp T u50 u51 u20 u21 u22 u23 := w53
            generalize H1 = H at hP hS ⊢
            have ew53 : gT ftp T (u50, u51, u20, u21, u22, u23) = (u54, u55, u56, u57, u58, u59) := w53.2.2.2.2.2.2.symm
            obtain ⟨hP9, hD9⟩ := va_sub2 (ws' := [(h0, .inr (11, [.ref st, .int (nI N), .int (nI B), .ref rp, .int (nI u24), .int (nI nrb), .int u25, .int u26, .int u27, .int u28, .ref tp, .int (nI T), .int vfa, .int u54, .int u55, .int (nI u56), .int (nI u57), .int u58, .int u59, .ref cu, .ref lt, .ref od, .ref th, .ref be, .ref ln, .int (nI S), .ref ma, .int (nI M), .ref ah, .ref bh, .ref ik, .ref la, .ref lg, .ref ce, .int vto])), (tp, .inl (G 0, 320, .inl ftp)), (cu, .inl (G 0, 11, .inl fcu)), (lt, .inl (G 0, 54, .inl flt)), (rp, .inl (G 0, 49, .inl u29))]) hP hD [3, 4, 0, 1, 2] (by decide) rfl
            refine W.widen (k := 0) (n := 0) (Nat.le_of_ble_eq_true rfl) (Nat.le_of_ble_eq_true rfl) ?_
            exact W.vret hx hb hr (fun t ht hW => ⟨⟨(u54, u55, u56, u57, u58, u59, u24, nrb, u25, u26, u27, u28, u29), rfl, ⟨⟨w17.1.1, (by have t_w22 := w22; have t_b13 := b13; have t_n15 := n15; have t_c30 := eqI c30; have t_c39 := neI c39; have t_w49 := w49.1; have tqz_ := qz23_; have tnb_ := nib10 tn1375_ tn1376_ tn1380_ tn1381_ tn1377_ tn1382_ tn1383_ tn1378_ tn1379_ tn1384_; have tqz_ := qz41_; omega)⟩, (by unfold rlS; (try rw [ew2]); (try (repeat (first | rw [if_pos (by with_reducible assumption)] | rw [if_neg (by with_reducible assumption)] | rw [if_pos (by (have t_w22 := w22; have t_b13 := b13; have t_n15 := n15; have t_c30 := eqI c30; have t_c39 := neI c39; have t_w49 := w49.1; have tqz_ := qz23_; have tnb_ := nib10 tn1375_ tn1376_ tn1380_ tn1381_ tn1377_ tn1382_ tn1383_ tn1378_ tn1379_ tn1384_; have tqz_ := qz41_; omega))] | rw [if_neg (by (have t_w22 := w22; have t_b13 := b13; have t_n15 := n15; have t_c30 := eqI c30; have t_c39 := neI c39; have t_w49 := w49.1; have tqz_ := qz23_; have tnb_ := nib10 tn1375_ tn1376_ tn1380_ tn1381_ tn1377_ tn1382_ tn1383_ tn1378_ tn1379_ tn1384_; have tqz_ := qz41_; omega))] | rw [if_pos (by decide)] | rw [if_neg (by decide)]))); (try unfold fiS); (try (repeat (first | rw [if_pos (by with_reducible assumption)] | rw [if_neg (by with_reducible assumption)] | rw [if_pos (by (have t_w22 := w22; have t_b13 := b13; have t_n15 := n15; have t_c30 := eqI c30; have t_c39 := neI c39; have t_w49 := w49.1; have tqz_ := qz23_; have tnb_ := nib10 tn1375_ tn1376_ tn1380_ tn1381_ tn1377_ tn1382_ tn1383_ tn1378_ tn1379_ tn1384_; have tqz_ := qz41_; omega))] | rw [if_neg (by (have t_w22 := w22; have t_b13 := b13; have t_n15 := n15; have t_c30 := eqI c30; have t_c39 := neI c39; have t_w49 := w49.1; have tqz_ := qz23_; have tnb_ := nib10 tn1375_ tn1376_ tn1380_ tn1381_ tn1377_ tn1382_ tn1383_ tn1378_ tn1379_ tn1384_; have tqz_ := qz41_; omega))] | rw [if_pos (by decide)] | rw [if_neg (by decide)]))); (try rw [ew17]); (try (repeat (first | rw [if_pos (by with_reducible assumption)] | rw [if_neg (by with_reducible assumption)] | rw [if_pos (by (have t_w22 := w22; have t_b13 := b13; have t_n15 := n15; have t_c30 := eqI c30; have t_c39 := neI c39; have t_w49 := w49.1; have tqz_ := qz23_; have tnb_ := nib10 tn1375_ tn1376_ tn1380_ tn1381_ tn1377_ tn1382_ tn1383_ tn1378_ tn1379_ tn1384_; have tqz_ := qz41_; omega))] | rw [if_neg (by (have t_w22 := w22; have t_b13 := b13; have t_n15 := n15; have t_c30 := eqI c30; have t_c39 := neI c39; have t_w49 := w49.1; have tqz_ := qz23_; have tnb_ := nib10 tn1375_ tn1376_ tn1380_ tn1381_ tn1377_ tn1382_ tn1383_ tn1378_ tn1379_ tn1384_; have tqz_ := qz41_; omega))] | rw [if_pos (by decide)] | rw [if_neg (by decide)]))); (try unfold fiS); (try (repeat (first | rw [if_pos (by with_reducible assumption)] | rw [if_neg (by with_reducible assumption)] | rw [if_pos (by (have t_w22 := w22; have t_b13 := b13; have t_n15 := n15; have t_c30 := eqI c30; have t_c39 := neI c39; have t_w49 := w49.1; have tqz_ := qz23_; have tnb_ := nib10 tn1375_ tn1376_ tn1380_ tn1381_ tn1377_ tn1382_ tn1383_ tn1378_ tn1379_ tn1384_; have tqz_ := qz41_; omega))] | rw [if_neg (by (have t_w22 := w22; have t_b13 := b13; have t_n15 := n15; have t_c30 := eqI c30; have t_c39 := neI c39; have t_w49 := w49.1; have tqz_ := qz23_; have tnb_ := nib10 tn1375_ tn1376_ tn1380_ tn1381_ tn1377_ tn1382_ tn1383_ tn1378_ tn1379_ tn1384_; have tqz_ := qz41_; omega))] | rw [if_pos (by decide)] | rw [if_neg (by decide)]))); (try rw [ew49]); (try (repeat (first | rw [if_pos (by with_reducible assumption)] | rw [if_neg (by with_reducible assumption)] | rw [if_pos (by (have t_w22 := w22; have t_b13 := b13; have t_n15 := n15; have t_c30 := eqI c30; have t_c39 := neI c39; have t_w49 := w49.1; have tqz_ := qz23_; have tnb_ := nib10 tn1375_ tn1376_ tn1380_ tn1381_ tn1377_ tn1382_ tn1383_ tn1378_ tn1379_ tn1384_; have tqz_ := qz41_; omega))] | rw [if_neg (by (have t_w22 := w22; have t_b13 := b13; have t_n15 := n15; have t_c30 := eqI c30; have t_c39 := neI c39; have t_w49 := w49.1; have tqz_ := qz23_; have tnb_ := nib10 tn1375_ tn1376_ tn1380_ tn1381_ tn1377_ tn1382_ tn1383_ tn1378_ tn1379_ tn1384_; have tqz_ := qz41_; omega))] | rw [if_pos (by decide)] | rw [if_neg (by decide)]))); (try unfold fiS); (try (repeat (first | rw [if_pos (by with_reducible assumption)] | rw [if_neg (by with_reducible assumption)] | rw [if_pos (by (have t_w22 := w22; have t_b13 := b13; have t_n15 := n15; have t_c30 := eqI c30; have t_c39 := neI c39; have t_w49 := w49.1; have tqz_ := qz23_; have tnb_ := nib10 tn1375_ tn1376_ tn1380_ tn1381_ tn1377_ tn1382_ tn1383_ tn1378_ tn1379_ tn1384_; have tqz_ := qz41_; omega))] | rw [if_neg (by (have t_w22 := w22; have t_b13 := b13; have t_n15 := n15; have t_c30 := eqI c30; have t_c39 := neI c39; have t_w49 := w49.1; have tqz_ := qz23_; have tnb_ := nib10 tn1375_ tn1376_ tn1380_ tn1381_ tn1377_ tn1382_ tn1383_ tn1378_ tn1379_ tn1384_; have tqz_ := qz41_; omega))] | rw [if_pos (by decide)] | rw [if_neg (by decide)]))); (try rw [ew53]); (try (repeat (first | rw [if_pos (by with_reducible assumption)] | rw [if_neg (by with_reducible assumption)] | rw [if_pos (by (have t_w22 := w22; have t_b13 := b13; have t_n15 := n15; have t_c30 := eqI c30; have t_c39 := neI c39; have t_w49 := w49.1; have tqz_ := qz23_; have tnb_ := nib10 tn1375_ tn1376_ tn1380_ tn1381_ tn1377_ tn1382_ tn1383_ tn1378_ tn1379_ tn1384_; have tqz_ := qz41_; omega))] | rw [if_neg (by (have t_w22 := w22; have t_b13 := b13; have t_n15 := n15; have t_c30 := eqI c30; have t_c39 := neI c39; have t_w49 := w49.1; have tqz_ := qz23_; have tnb_ := nib10 tn1375_ tn1376_ tn1380_ tn1381_ tn1377_ tn1382_ tn1383_ tn1378_ tn1379_ tn1384_; have tqz_ := qz41_; omega))] | rw [if_pos (by decide)] | rw [if_neg (by decide)]))); (try unfold fiS); (try (repeat (first | rw [if_pos (by with_reducible assumption)] | rw [if_neg (by with_reducible assumption)] | rw [if_pos (by (have t_w22 := w22; have t_b13 := b13; have t_n15 := n15; have t_c30 := eqI c30; have t_c39 := neI c39; have t_w49 := w49.1; have tqz_ := qz23_; have tnb_ := nib10 tn1375_ tn1376_ tn1380_ tn1381_ tn1377_ tn1382_ tn1383_ tn1378_ tn1379_ tn1384_; have tqz_ := qz41_; omega))] | rw [if_neg (by (have t_w22 := w22; have t_b13 := b13; have t_n15 := n15; have t_c30 := eqI c30; have t_c39 := neI c39; have t_w49 := w49.1; have tqz_ := qz23_; have tnb_ := nib10 tn1375_ tn1376_ tn1380_ tn1381_ tn1377_ tn1382_ tn1383_ tn1378_ tn1379_ tn1384_; have tqz_ := qz41_; omega))] | rw [if_pos (by decide)] | rw [if_neg (by decide)]))); all_goals rfl)⟩, ⟨by rw [ht]; exact hP9, hD9⟩⟩, hS.F ht⟩) hS.2.2 dX11_readLine_64
      · skip
        have tn1385_ : nIT w20 := fun _ => nI_toInt (by first | omega | (have t := eqI c14; omega))
        have n60 : w20 = 2 := by have t := eqI c14; rw [show (nI (w20)).toInt = ((w20 : Nat) : Int) from tn1385_ ()] at t; have : (2 : Int32).toInt = 2 := qI_2; omega
        refine lv_aload_n hx hb dX11_readLine_28 rfl (lv_at hl 1 rfl) ?_
        obtain ⟨hPc, hDc, hFc⟩ := va_sub3 (ws' := [(h0, .inr (11, [.ref st, .int (nI N), .int (nI B), .ref rp, .int (nI nrs), .int (nI nrb), .int vhs, .int vca, .int vxs, .int vxb, .ref tp, .int (nI T), .int vfa, .int vbr, .int vba, .int (nI nsp), .int (nI nhe), .int vtk, .int vva, .ref cu, .ref lt, .ref od, .ref th, .ref be, .ref ln, .int (nI S), .ref ma, .int (nI M), .ref ah, .ref bh, .ref ik, .ref la, .ref lg, .ref ce, .int vto])), (tp, .inl (G 0, 320, .inl ftp)), (cu, .inl (G 0, 11, .inl fcu)), (lt, .inl (G 0, 54, .inl flt)), (rp, .inl (G 0, 49, .inl frp))]) hP hD hS hA [0, 1, 2, 3, 4] (by decide) rfl
        refine va_callv (va_runV (As := []) (rest := []) ⟨hx, hb, hml, hown, hg⟩ (c_X11_readBearerE l dC dI G _ h0 st N B rp nrb tp T nsp nhe cu lt od th be ln S ma M ah bh ik la lg ce (nI nrs) vhs vca vxs vxb vfa vbr vba vtk vva vto ftp fcu flt frp hN hB_ hT_ hS0 hM_ hbr hsp hhe hrb hc hrp hlt htb) (kwV hg mfX11_readBearer wt_1024 ⟨Nat.le_of_ble_eq_true rfl, Nat.le_of_ble_eq_true rfl⟩) (preVW hK hPc hDc (ci := 11) (r := (RX11, TX11, 35)) rfl rfl) rfl rfl hl.1 rfl (lv_room (Nat.le_of_ble_eq_true rfl)) dX11_readLine_29 ⟨Nat.le_of_ble_eq_true rfl, Nat.le_of_ble_eq_true rfl⟩) hS (fun q _ h => hFc q h) hFc (fun ur61 t H1 locs ht hvm w62 hB hz1 hk1 hS => ?_)
        obtain ⟨u63, u64, u65, u66, u67, u68, u69, u70⟩ := ur61
        obtain ⟨hP1, hD1⟩ := hB
        rw [ht] at hP1
        obtain ⟨hP, hD⟩ := va_join (wr := []) (w1 := [(h0, .inr (11, [.ref st, .int (nI N), .int (nI B), .ref rp, .int (nI nrs), .int (nI u69), .int vhs, .int vca, .int vxs, .int vxb, .ref tp, .int (nI T), .int vfa, .int u63, .int u64, .int (nI u65), .int (nI u66), .int u67, .int u68, .ref cu, .ref lt, .ref od, .ref th, .ref be, .ref ln, .int (nI S), .ref ma, .int (nI M), .ref ah, .ref bh, .ref ik, .ref la, .ref lg, .ref ce, .int vto])), (tp, .inl (G 0, 320, .inl ftp)), (cu, .inl (G 0, 11, .inl fcu)), (lt, .inl (G 0, 54, .inl flt)), (rp, .inl (G 0, 49, .inl u70))]) hP hD [0, 1, 2, 3, 4] [] rfl rfl (by decide) (by decide) hk1 hFc hP1 hD1
        have w62 : (OKP u70 ∧ ((0 ≤ u63.toInt ∧ (vbr.toInt = 0 ∨ 0 < u63.toInt) ∧ nsp ≤ u65 ∧ u65 ≤ T ∧ u66 ≤ u65 ∧ (0 < u63.toInt ∨ u67.toInt = 0 ∨ nsp < u65)) ∧ u69 ≤ 6)) ∧ ((u63, u64, u65, u66, u67, u68), u69, u70) = rbS ftp T (vbr, vba, nsp, nhe, vtk, vva) nrb frp := w62
        generalize H1 = H at hP hS ⊢
        have ew62 : rbS ftp T (vbr, vba, nsp, nhe, vtk, vva) nrb frp = _ := w62.2.symm
        refine lv_goto (tgt := 40) hx hb dX11_readLine_32 rfl ?_
        refine lv_aload_n hx hb dX11_readLine_40 rfl (lv_at hl 1 rfl) ?_
        refine va_get (D := (dC, dI)) (ci := 11) (v := .int u63) (C := RX11) (T := TX11) (N := 35) hx hb hg inG11 hown hK.1 hP 0 rfl rfl 13 (Nat.le_of_ble_eq_true rfl) (hg _ wt_891) (fun _ h9 => h9) rfl dX11_readLine_41 ?_
        refine lv_if_ne (tgt := 60) hx hb dX11_readLine_44 rfl (fun c71 => ?_) (fun c71 => ?_)
        · skip
          refine lv_aload_n hx hb dX11_readLine_60 rfl (lv_at hl 1 rfl) ?_
          obtain ⟨hPc, hDc, hFc⟩ := va_sub3 (ws' := [(h0, .inr (11, [.ref st, .int (nI N), .int (nI B), .ref rp, .int (nI nrs), .int (nI u69), .int vhs, .int vca, .int vxs, .int vxb, .ref tp, .int (nI T), .int vfa, .int u63, .int u64, .int (nI u65), .int (nI u66), .int u67, .int u68, .ref cu, .ref lt, .ref od, .ref th, .ref be, .ref ln, .int (nI S), .ref ma, .int (nI M), .ref ah, .ref bh, .ref ik, .ref la, .ref lg, .ref ce, .int vto])), (tp, .inl (G 0, 320, .inl ftp))]) hP hD hS hA [0, 1] (by decide) rfl
          refine va_callv (va_runV (As := []) (rest := []) ⟨hx, hb, hml, hown, hg⟩ (c_X11_goesOnE l dC dI G _ h0 st N B rp tp T u65 u66 cu lt od th be ln S ma M ah bh ik la lg ce (nI nrs) (nI u69) vhs vca vxs vxb vfa u63 u64 u67 u68 vto ftp hN hB_ hT_ hS0 hM_ (by have t_w22 := w22; have t_b13 := b13; have t_n60 := n60; have t_c71 := neI c71; have : (0 : Int32).toInt = 0 := qI_0; have tnb_ := nib10 tn1375_ tn1376_ tn1380_ tn1381_ tn1377_ tn1382_ tn1383_ tn1378_ tn1379_ tn1385_; have tqz_ := qz41_; omega) (by first | omega | (have t_w22 := w22; have t_b13 := b13; have t_n60 := n60; have t_c71 := neI c71; have : (0 : Int32).toInt = 0 := qI_0; have tnb_ := nib10 tn1375_ tn1376_ tn1380_ tn1381_ tn1377_ tn1382_ tn1383_ tn1378_ tn1379_ tn1385_; have tqz_ := qz41_; omega)) (by have t_w22 := w22; have t_b13 := b13; have t_n60 := n60; have t_c71 := neI c71; have : (0 : Int32).toInt = 0 := qI_0; have tnb_ := nib10 tn1375_ tn1376_ tn1380_ tn1381_ tn1377_ tn1382_ tn1383_ tn1378_ tn1379_ tn1385_; have tqz_ := qz41_; omega) htb) (kwV hg mfX11_goesOn wt_999 ⟨Nat.le_of_ble_eq_true rfl, Nat.le_of_ble_eq_true rfl⟩) (preVW hK hPc hDc (ci := 11) (r := (RX11, TX11, 35)) rfl rfl) rfl rfl hl.1 rfl (lv_room (Nat.le_of_ble_eq_true rfl)) dX11_readLine_61 ⟨Nat.le_of_ble_eq_true rfl, Nat.le_of_ble_eq_true rfl⟩) hS (fun q _ h => hFc q h) hFc (fun ur72 t H1 locs ht hvm w73 hB hz1 hk1 hS => ?_)
          obtain ⟨u74, u75, u76, u77, u78, u79⟩ := ur72
          obtain ⟨hP1, hD1⟩ := hB
          rw [ht] at hP1
          obtain ⟨hP, hD⟩ := va_join (wr := [(cu, .inl (G 0, 11, .inl fcu)), (lt, .inl (G 0, 54, .inl flt)), (rp, .inl (G 0, 49, .inl u70))]) (w1 := [(h0, .inr (11, [.ref st, .int (nI N), .int (nI B), .ref rp, .int (nI nrs), .int (nI u69), .int vhs, .int vca, .int vxs, .int vxb, .ref tp, .int (nI T), .int vfa, .int u74, .int u75, .int (nI u76), .int (nI u77), .int u78, .int u79, .ref cu, .ref lt, .ref od, .ref th, .ref be, .ref ln, .int (nI S), .ref ma, .int (nI M), .ref ah, .ref bh, .ref ik, .ref la, .ref lg, .ref ce, .int vto])), (tp, .inl (G 0, 320, .inl ftp))]) hP hD [0, 1] [2, 3, 4] rfl rfl (by decide) (by decide) hk1 hFc hP1 hD1
          have w73 : 0 ≤ u74.toInt ∧ (u63.toInt = 0 ∨ u74.toInt = u63.toInt) ∧ u65 ≤ u76 ∧ u76 ≤ T ∧ u77 ≤ u76 ∧ (0 < u63.toInt ∨ u78.toInt = 0 ∨ u65 < u76) ∧ (u74, u75, u76, u77, u78, u79) = gOn ftp T u63 u64 u65 u66 u67 u68 := w73
          generalize H1 = H at hP hS ⊢
          have ew73 : gT ftp T (u63, u64, u65, u66, u67, u68) = (u74, u75, u76, u77, u78, u79) := w73.2.2.2.2.2.2.symm
          obtain ⟨hP9, hD9⟩ := va_sub2 (ws' := [(h0, .inr (11, [.ref st, .int (nI N), .int (nI B), .ref rp, .int (nI nrs), .int (nI u69), .int vhs, .int vca, .int vxs, .int vxb, .ref tp, .int (nI T), .int vfa, .int u74, .int u75, .int (nI u76), .int (nI u77), .int u78, .int u79, .ref cu, .ref lt, .ref od, .ref th, .ref be, .ref ln, .int (nI S), .ref ma, .int (nI M), .ref ah, .ref bh, .ref ik, .ref la, .ref lg, .ref ce, .int vto])), (tp, .inl (G 0, 320, .inl ftp)), (cu, .inl (G 0, 11, .inl fcu)), (lt, .inl (G 0, 54, .inl flt)), (rp, .inl (G 0, 49, .inl u70))]) hP hD [3, 4, 0, 1, 2] (by decide) rfl
          refine W.widen (k := 0) (n := 0) (Nat.le_of_ble_eq_true rfl) (Nat.le_of_ble_eq_true rfl) ?_
          exact W.vret hx hb hr (fun t ht hW => ⟨⟨(u74, u75, u76, u77, u78, u79, nrs, u69, vhs, vca, vxs, vxb, u70), rfl, ⟨⟨w62.1.1, (by have t_w22 := w22; have t_b13 := b13; have t_n60 := n60; have t_c71 := neI c71; have : (0 : Int32).toInt = 0 := qI_0; have tnb_ := nib10 tn1375_ tn1376_ tn1380_ tn1381_ tn1377_ tn1382_ tn1383_ tn1378_ tn1379_ tn1385_; have tqz_ := qz41_; omega)⟩, (by unfold rlS; (try rw [ew2]); (try (repeat (first | rw [if_pos (by with_reducible assumption)] | rw [if_neg (by with_reducible assumption)] | rw [if_pos (by (have t_w22 := w22; have t_b13 := b13; have t_n60 := n60; have t_c71 := neI c71; have : (0 : Int32).toInt = 0 := qI_0; have tnb_ := nib10 tn1375_ tn1376_ tn1380_ tn1381_ tn1377_ tn1382_ tn1383_ tn1378_ tn1379_ tn1385_; have tqz_ := qz41_; omega))] | rw [if_neg (by (have t_w22 := w22; have t_b13 := b13; have t_n60 := n60; have t_c71 := neI c71; have : (0 : Int32).toInt = 0 := qI_0; have tnb_ := nib10 tn1375_ tn1376_ tn1380_ tn1381_ tn1377_ tn1382_ tn1383_ tn1378_ tn1379_ tn1385_; have tqz_ := qz41_; omega))] | rw [if_pos (by decide)] | rw [if_neg (by decide)]))); (try unfold fiS); (try (repeat (first | rw [if_pos (by with_reducible assumption)] | rw [if_neg (by with_reducible assumption)] | rw [if_pos (by (have t_w22 := w22; have t_b13 := b13; have t_n60 := n60; have t_c71 := neI c71; have : (0 : Int32).toInt = 0 := qI_0; have tnb_ := nib10 tn1375_ tn1376_ tn1380_ tn1381_ tn1377_ tn1382_ tn1383_ tn1378_ tn1379_ tn1385_; have tqz_ := qz41_; omega))] | rw [if_neg (by (have t_w22 := w22; have t_b13 := b13; have t_n60 := n60; have t_c71 := neI c71; have : (0 : Int32).toInt = 0 := qI_0; have tnb_ := nib10 tn1375_ tn1376_ tn1380_ tn1381_ tn1377_ tn1382_ tn1383_ tn1378_ tn1379_ tn1385_; have tqz_ := qz41_; omega))] | rw [if_pos (by decide)] | rw [if_neg (by decide)]))); (try rw [ew62]); (try (repeat (first | rw [if_pos (by with_reducible assumption)] | rw [if_neg (by with_reducible assumption)] | rw [if_pos (by (have t_w22 := w22; have t_b13 := b13; have t_n60 := n60; have t_c71 := neI c71; have : (0 : Int32).toInt = 0 := qI_0; have tnb_ := nib10 tn1375_ tn1376_ tn1380_ tn1381_ tn1377_ tn1382_ tn1383_ tn1378_ tn1379_ tn1385_; have tqz_ := qz41_; omega))] | rw [if_neg (by (have t_w22 := w22; have t_b13 := b13; have t_n60 := n60; have t_c71 := neI c71; have : (0 : Int32).toInt = 0 := qI_0; have tnb_ := nib10 tn1375_ tn1376_ tn1380_ tn1381_ tn1377_ tn1382_ tn1383_ tn1378_ tn1379_ tn1385_; have tqz_ := qz41_; omega))] | rw [if_pos (by decide)] | rw [if_neg (by decide)]))); (try unfold fiS); (try (repeat (first | rw [if_pos (by with_reducible assumption)] | rw [if_neg (by with_reducible assumption)] | rw [if_pos (by (have t_w22 := w22; have t_b13 := b13; have t_n60 := n60; have t_c71 := neI c71; have : (0 : Int32).toInt = 0 := qI_0; have tnb_ := nib10 tn1375_ tn1376_ tn1380_ tn1381_ tn1377_ tn1382_ tn1383_ tn1378_ tn1379_ tn1385_; have tqz_ := qz41_; omega))] | rw [if_neg (by (have t_w22 := w22; have t_b13 := b13; have t_n60 := n60; have t_c71 := neI c71; have : (0 : Int32).toInt = 0 := qI_0; have tnb_ := nib10 tn1375_ tn1376_ tn1380_ tn1381_ tn1377_ tn1382_ tn1383_ tn1378_ tn1379_ tn1385_; have tqz_ := qz41_; omega))] | rw [if_pos (by decide)] | rw [if_neg (by decide)]))); (try rw [ew73]); (try (repeat (first | rw [if_pos (by with_reducible assumption)] | rw [if_neg (by with_reducible assumption)] | rw [if_pos (by (have t_w22 := w22; have t_b13 := b13; have t_n60 := n60; have t_c71 := neI c71; have : (0 : Int32).toInt = 0 := qI_0; have tnb_ := nib10 tn1375_ tn1376_ tn1380_ tn1381_ tn1377_ tn1382_ tn1383_ tn1378_ tn1379_ tn1385_; have tqz_ := qz41_; omega))] | rw [if_neg (by (have t_w22 := w22; have t_b13 := b13; have t_n60 := n60; have t_c71 := neI c71; have : (0 : Int32).toInt = 0 := qI_0; have tnb_ := nib10 tn1375_ tn1376_ tn1380_ tn1381_ tn1377_ tn1382_ tn1383_ tn1378_ tn1379_ tn1385_; have tqz_ := qz41_; omega))] | rw [if_pos (by decide)] | rw [if_neg (by decide)]))); (try unfold fiS); (try (repeat (first | rw [if_pos (by with_reducible assumption)] | rw [if_neg (by with_reducible assumption)] | rw [if_pos (by (have t_w22 := w22; have t_b13 := b13; have t_n60 := n60; have t_c71 := neI c71; have : (0 : Int32).toInt = 0 := qI_0; have tnb_ := nib10 tn1375_ tn1376_ tn1380_ tn1381_ tn1377_ tn1382_ tn1383_ tn1378_ tn1379_ tn1385_; have tqz_ := qz41_; omega))] | rw [if_neg (by (have t_w22 := w22; have t_b13 := b13; have t_n60 := n60; have t_c71 := neI c71; have : (0 : Int32).toInt = 0 := qI_0; have tnb_ := nib10 tn1375_ tn1376_ tn1380_ tn1381_ tn1377_ tn1382_ tn1383_ tn1378_ tn1379_ tn1385_; have tqz_ := qz41_; omega))] | rw [if_pos (by decide)] | rw [if_neg (by decide)]))); all_goals rfl)⟩, ⟨by rw [ht]; exact hP9, hD9⟩⟩, hS.F ht⟩) hS.2.2 dX11_readLine_64
        · skip
          refine lv_aload_n hx hb dX11_readLine_47 rfl (lv_at hl 1 rfl) ?_
          refine va_get (D := (dC, dI)) (ci := 11) (v := .int u67) (C := RX11) (T := TX11) (N := 35) hx hb hg inG11 hown hK.1 hP 0 rfl rfl 17 (Nat.le_of_ble_eq_true rfl) (hg _ wt_895) (fun _ h9 => h9) rfl dX11_readLine_48 ?_
          refine lv_iconst (v := 3) hx hb dX11_readLine_51 rfl ?_
          refine lv_icmp_eq (tgt := 60) hx hb dX11_readLine_52 rfl (fun c80 => ?_) (fun c80 => ?_)
          · skip
            refine lv_aload_n hx hb dX11_readLine_60 rfl (lv_at hl 1 rfl) ?_
            obtain ⟨hPc, hDc, hFc⟩ := va_sub3 (ws' := [(h0, .inr (11, [.ref st, .int (nI N), .int (nI B), .ref rp, .int (nI nrs), .int (nI u69), .int vhs, .int vca, .int vxs, .int vxb, .ref tp, .int (nI T), .int vfa, .int u63, .int u64, .int (nI u65), .int (nI u66), .int u67, .int u68, .ref cu, .ref lt, .ref od, .ref th, .ref be, .ref ln, .int (nI S), .ref ma, .int (nI M), .ref ah, .ref bh, .ref ik, .ref la, .ref lg, .ref ce, .int vto])), (tp, .inl (G 0, 320, .inl ftp))]) hP hD hS hA [0, 1] (by decide) rfl
            refine va_callv (va_runV (As := []) (rest := []) ⟨hx, hb, hml, hown, hg⟩ (c_X11_goesOnE l dC dI G _ h0 st N B rp tp T u65 u66 cu lt od th be ln S ma M ah bh ik la lg ce (nI nrs) (nI u69) vhs vca vxs vxb vfa u63 u64 u67 u68 vto ftp hN hB_ hT_ hS0 hM_ (by have t_w22 := w22; have t_b13 := b13; have t_n60 := n60; have t_c71 := eqI c71; have t_c80 := eqI c80; have tqz_ := qz23_; have tnb_ := nib10 tn1375_ tn1376_ tn1380_ tn1381_ tn1377_ tn1382_ tn1383_ tn1378_ tn1379_ tn1385_; have tqz_ := qz41_; omega) (by first | omega | (have t_w22 := w22; have t_b13 := b13; have t_n60 := n60; have t_c71 := eqI c71; have t_c80 := eqI c80; have tqz_ := qz23_; have tnb_ := nib10 tn1375_ tn1376_ tn1380_ tn1381_ tn1377_ tn1382_ tn1383_ tn1378_ tn1379_ tn1385_; have tqz_ := qz41_; omega)) (by have t_w22 := w22; have t_b13 := b13; have t_n60 := n60; have t_c71 := eqI c71; have t_c80 := eqI c80; have tqz_ := qz23_; have tnb_ := nib10 tn1375_ tn1376_ tn1380_ tn1381_ tn1377_ tn1382_ tn1383_ tn1378_ tn1379_ tn1385_; have tqz_ := qz41_; omega) htb) (kwV hg mfX11_goesOn wt_999 ⟨Nat.le_of_ble_eq_true rfl, Nat.le_of_ble_eq_true rfl⟩) (preVW hK hPc hDc (ci := 11) (r := (RX11, TX11, 35)) rfl rfl) rfl rfl hl.1 rfl (lv_room (Nat.le_of_ble_eq_true rfl)) dX11_readLine_61 ⟨Nat.le_of_ble_eq_true rfl, Nat.le_of_ble_eq_true rfl⟩) hS (fun q _ h => hFc q h) hFc (fun ur81 t H1 locs ht hvm w82 hB hz1 hk1 hS => ?_)
            obtain ⟨u83, u84, u85, u86, u87, u88⟩ := ur81
            obtain ⟨hP1, hD1⟩ := hB
            rw [ht] at hP1
            obtain ⟨hP, hD⟩ := va_join (wr := [(cu, .inl (G 0, 11, .inl fcu)), (lt, .inl (G 0, 54, .inl flt)), (rp, .inl (G 0, 49, .inl u70))]) (w1 := [(h0, .inr (11, [.ref st, .int (nI N), .int (nI B), .ref rp, .int (nI nrs), .int (nI u69), .int vhs, .int vca, .int vxs, .int vxb, .ref tp, .int (nI T), .int vfa, .int u83, .int u84, .int (nI u85), .int (nI u86), .int u87, .int u88, .ref cu, .ref lt, .ref od, .ref th, .ref be, .ref ln, .int (nI S), .ref ma, .int (nI M), .ref ah, .ref bh, .ref ik, .ref la, .ref lg, .ref ce, .int vto])), (tp, .inl (G 0, 320, .inl ftp))]) hP hD [0, 1] [2, 3, 4] rfl rfl (by decide) (by decide) hk1 hFc hP1 hD1
            have w82 : 0 ≤ u83.toInt ∧ (u63.toInt = 0 ∨ u83.toInt = u63.toInt) ∧ u65 ≤ u85 ∧ u85 ≤ T ∧ u86 ≤ u85 ∧ (0 < u63.toInt ∨ u87.toInt = 0 ∨ u65 < u85) ∧ (u83, u84, u85, u86, u87, u88) = gOn ftp T u63 u64 u65 u66 u67 u68 := w82
            generalize H1 = H at hP hS ⊢
            have ew82 : gT ftp T (u63, u64, u65, u66, u67, u68) = (u83, u84, u85, u86, u87, u88) := w82.2.2.2.2.2.2.symm
            obtain ⟨hP9, hD9⟩ := va_sub2 (ws' := [(h0, .inr (11, [.ref st, .int (nI N), .int (nI B), .ref rp, .int (nI nrs), .int (nI u69), .int vhs, .int vca, .int vxs, .int vxb, .ref tp, .int (nI T), .int vfa, .int u83, .int u84, .int (nI u85), .int (nI u86), .int u87, .int u88, .ref cu, .ref lt, .ref od, .ref th, .ref be, .ref ln, .int (nI S), .ref ma, .int (nI M), .ref ah, .ref bh, .ref ik, .ref la, .ref lg, .ref ce, .int vto])), (tp, .inl (G 0, 320, .inl ftp)), (cu, .inl (G 0, 11, .inl fcu)), (lt, .inl (G 0, 54, .inl flt)), (rp, .inl (G 0, 49, .inl u70))]) hP hD [3, 4, 0, 1, 2] (by decide) rfl
            refine W.widen (k := 0) (n := 0) (Nat.le_of_ble_eq_true rfl) (Nat.le_of_ble_eq_true rfl) ?_
            exact W.vret hx hb hr (fun t ht hW => ⟨⟨(u83, u84, u85, u86, u87, u88, nrs, u69, vhs, vca, vxs, vxb, u70), rfl, ⟨⟨w62.1.1, (by have t_w22 := w22; have t_b13 := b13; have t_n60 := n60; have t_c71 := eqI c71; have t_c80 := eqI c80; have tqz_ := qz23_; have tnb_ := nib10 tn1375_ tn1376_ tn1380_ tn1381_ tn1377_ tn1382_ tn1383_ tn1378_ tn1379_ tn1385_; have tqz_ := qz41_; omega)⟩, (by unfold rlS; (try rw [ew2]); (try (repeat (first | rw [if_pos (by with_reducible assumption)] | rw [if_neg (by with_reducible assumption)] | rw [if_pos (by (have t_w22 := w22; have t_b13 := b13; have t_n60 := n60; have t_c71 := eqI c71; have t_c80 := eqI c80; have tqz_ := qz23_; have tnb_ := nib10 tn1375_ tn1376_ tn1380_ tn1381_ tn1377_ tn1382_ tn1383_ tn1378_ tn1379_ tn1385_; have tqz_ := qz41_; omega))] | rw [if_neg (by (have t_w22 := w22; have t_b13 := b13; have t_n60 := n60; have t_c71 := eqI c71; have t_c80 := eqI c80; have tqz_ := qz23_; have tnb_ := nib10 tn1375_ tn1376_ tn1380_ tn1381_ tn1377_ tn1382_ tn1383_ tn1378_ tn1379_ tn1385_; have tqz_ := qz41_; omega))] | rw [if_pos (by decide)] | rw [if_neg (by decide)]))); (try unfold fiS); (try (repeat (first | rw [if_pos (by with_reducible assumption)] | rw [if_neg (by with_reducible assumption)] | rw [if_pos (by (have t_w22 := w22; have t_b13 := b13; have t_n60 := n60; have t_c71 := eqI c71; have t_c80 := eqI c80; have tqz_ := qz23_; have tnb_ := nib10 tn1375_ tn1376_ tn1380_ tn1381_ tn1377_ tn1382_ tn1383_ tn1378_ tn1379_ tn1385_; have tqz_ := qz41_; omega))] | rw [if_neg (by (have t_w22 := w22; have t_b13 := b13; have t_n60 := n60; have t_c71 := eqI c71; have t_c80 := eqI c80; have tqz_ := qz23_; have tnb_ := nib10 tn1375_ tn1376_ tn1380_ tn1381_ tn1377_ tn1382_ tn1383_ tn1378_ tn1379_ tn1385_; have tqz_ := qz41_; omega))] | rw [if_pos (by decide)] | rw [if_neg (by decide)]))); (try rw [ew62]); (try (repeat (first | rw [if_pos (by with_reducible assumption)] | rw [if_neg (by with_reducible assumption)] | rw [if_pos (by (have t_w22 := w22; have t_b13 := b13; have t_n60 := n60; have t_c71 := eqI c71; have t_c80 := eqI c80; have tqz_ := qz23_; have tnb_ := nib10 tn1375_ tn1376_ tn1380_ tn1381_ tn1377_ tn1382_ tn1383_ tn1378_ tn1379_ tn1385_; have tqz_ := qz41_; omega))] | rw [if_neg (by (have t_w22 := w22; have t_b13 := b13; have t_n60 := n60; have t_c71 := eqI c71; have t_c80 := eqI c80; have tqz_ := qz23_; have tnb_ := nib10 tn1375_ tn1376_ tn1380_ tn1381_ tn1377_ tn1382_ tn1383_ tn1378_ tn1379_ tn1385_; have tqz_ := qz41_; omega))] | rw [if_pos (by decide)] | rw [if_neg (by decide)]))); (try unfold fiS); (try (repeat (first | rw [if_pos (by with_reducible assumption)] | rw [if_neg (by with_reducible assumption)] | rw [if_pos (by (have t_w22 := w22; have t_b13 := b13; have t_n60 := n60; have t_c71 := eqI c71; have t_c80 := eqI c80; have tqz_ := qz23_; have tnb_ := nib10 tn1375_ tn1376_ tn1380_ tn1381_ tn1377_ tn1382_ tn1383_ tn1378_ tn1379_ tn1385_; have tqz_ := qz41_; omega))] | rw [if_neg (by (have t_w22 := w22; have t_b13 := b13; have t_n60 := n60; have t_c71 := eqI c71; have t_c80 := eqI c80; have tqz_ := qz23_; have tnb_ := nib10 tn1375_ tn1376_ tn1380_ tn1381_ tn1377_ tn1382_ tn1383_ tn1378_ tn1379_ tn1385_; have tqz_ := qz41_; omega))] | rw [if_pos (by decide)] | rw [if_neg (by decide)]))); (try rw [ew82]); (try (repeat (first | rw [if_pos (by with_reducible assumption)] | rw [if_neg (by with_reducible assumption)] | rw [if_pos (by (have t_w22 := w22; have t_b13 := b13; have t_n60 := n60; have t_c71 := eqI c71; have t_c80 := eqI c80; have tqz_ := qz23_; have tnb_ := nib10 tn1375_ tn1376_ tn1380_ tn1381_ tn1377_ tn1382_ tn1383_ tn1378_ tn1379_ tn1385_; have tqz_ := qz41_; omega))] | rw [if_neg (by (have t_w22 := w22; have t_b13 := b13; have t_n60 := n60; have t_c71 := eqI c71; have t_c80 := eqI c80; have tqz_ := qz23_; have tnb_ := nib10 tn1375_ tn1376_ tn1380_ tn1381_ tn1377_ tn1382_ tn1383_ tn1378_ tn1379_ tn1385_; have tqz_ := qz41_; omega))] | rw [if_pos (by decide)] | rw [if_neg (by decide)]))); (try unfold fiS); (try (repeat (first | rw [if_pos (by with_reducible assumption)] | rw [if_neg (by with_reducible assumption)] | rw [if_pos (by (have t_w22 := w22; have t_b13 := b13; have t_n60 := n60; have t_c71 := eqI c71; have t_c80 := eqI c80; have tqz_ := qz23_; have tnb_ := nib10 tn1375_ tn1376_ tn1380_ tn1381_ tn1377_ tn1382_ tn1383_ tn1378_ tn1379_ tn1385_; have tqz_ := qz41_; omega))] | rw [if_neg (by (have t_w22 := w22; have t_b13 := b13; have t_n60 := n60; have t_c71 := eqI c71; have t_c80 := eqI c80; have tqz_ := qz23_; have tnb_ := nib10 tn1375_ tn1376_ tn1380_ tn1381_ tn1377_ tn1382_ tn1383_ tn1378_ tn1379_ tn1385_; have tqz_ := qz41_; omega))] | rw [if_pos (by decide)] | rw [if_neg (by decide)]))); all_goals rfl)⟩, ⟨by rw [ht]; exact hP9, hD9⟩⟩, hS.F ht⟩) hS.2.2 dX11_readLine_64
          · skip
            refine lv_aload_n hx hb dX11_readLine_55 rfl (lv_at hl 1 rfl) ?_
            refine lv_iconst (v := 2) hx hb dX11_readLine_56 rfl ?_
            obtain ⟨hPc, hDc, hFc⟩ := va_sub3 (ws' := [(h0, .inr (11, [.ref st, .int (nI N), .int (nI B), .ref rp, .int (nI nrs), .int (nI u69), .int vhs, .int vca, .int vxs, .int vxb, .ref tp, .int (nI T), .int vfa, .int u63, .int u64, .int (nI u65), .int (nI u66), .int u67, .int u68, .ref cu, .ref lt, .ref od, .ref th, .ref be, .ref ln, .int (nI S), .ref ma, .int (nI M), .ref ah, .ref bh, .ref ik, .ref la, .ref lg, .ref ce, .int vto]))]) hP hD hS hA [0] (by decide) rfl
            refine va_callv (va_runV (As := [.int 2]) (rest := []) ⟨hx, hb, hml, hown, hg⟩ (c_X11_failsE l dC dI G _ h0 st N B rp tp T u66 cu lt od th be ln S ma M ah bh ik la lg ce 2 (nI nrs) (nI u69) vhs vca vxs vxb vfa u63 u64 (nI u65) u67 u68 vto hN hB_ hT_ hS0 hM_ (by have t_w22 := w22; have t_b13 := b13; have t_n60 := n60; have t_c71 := eqI c71; have t_c80 := neI c80; have tqz_ := qz23_; have tnb_ := nib10 tn1375_ tn1376_ tn1380_ tn1381_ tn1377_ tn1382_ tn1383_ tn1378_ tn1379_ tn1385_; have tqz_ := qz45_; omega) (by have t_w22 := w22; have t_b13 := b13; have t_n60 := n60; have t_c71 := eqI c71; have t_c80 := neI c80; have tqz_ := qz23_; have tnb_ := nib10 tn1375_ tn1376_ tn1380_ tn1381_ tn1377_ tn1382_ tn1383_ tn1378_ tn1379_ tn1385_; have tqz_ := qz45_; omega) (by first | omega | (have t_w22 := w22; have t_b13 := b13; have t_n60 := n60; have t_c71 := eqI c71; have t_c80 := neI c80; have tqz_ := qz23_; have tnb_ := nib10 tn1375_ tn1376_ tn1380_ tn1381_ tn1377_ tn1382_ tn1383_ tn1378_ tn1379_ tn1385_; have tqz_ := qz45_; omega))) (kwV hg mfX11_fails wt_1011 ⟨Nat.le_of_ble_eq_true rfl, Nat.le_of_ble_eq_true rfl⟩) (preVW hK hPc hDc (ci := 11) (r := (RX11, TX11, 35)) rfl rfl) rfl rfl hl.1 rfl (lv_room (Nat.le_of_ble_eq_true rfl)) dX11_readLine_57 ⟨Nat.le_of_ble_eq_true rfl, Nat.le_of_ble_eq_true rfl⟩) hS (fun q _ h => hFc q h) hFc (fun ur89 t H1 locs ht hvm w90 hB hz1 hk1 hS => ?_)
            obtain ⟨u91, u92⟩ := ur89
            obtain ⟨hP1, hD1⟩ := hB
            rw [ht] at hP1
            obtain ⟨hP, hD⟩ := va_join (wr := [(tp, .inl (G 0, 320, .inl ftp)), (cu, .inl (G 0, 11, .inl fcu)), (lt, .inl (G 0, 54, .inl flt)), (rp, .inl (G 0, 49, .inl u70))]) (w1 := [(h0, .inr (11, [.ref st, .int (nI N), .int (nI B), .ref rp, .int (nI nrs), .int (nI u69), .int vhs, .int vca, .int vxs, .int vxb, .ref tp, .int (nI T), .int vfa, .int u91, .int u92, .int (nI u65), .int (nI u66), .int u67, .int u68, .ref cu, .ref lt, .ref od, .ref th, .ref be, .ref ln, .int (nI S), .ref ma, .int (nI M), .ref ah, .ref bh, .ref ik, .ref la, .ref lg, .ref ce, .int vto]))]) hP hD [0] [1, 2, 3, 4] rfl rfl (by decide) (by decide) hk1 hFc hP1 hD1
            have w90 : 0 < u91.toInt ∧ u91 = flB (2 : Int32) u63 ∧ u92 = flA u63 u64 u66 := w90
            generalize H1 = H at hP hS ⊢
            have ew90 : fT 2 (u63, u64, u65, u66, u67, u68) = (u91, u92, u65, u66, u67, u68) := (by show (flB _ _, flA _ _ _, _, _, _, _) = _; rw [← w90.2.1, ← w90.2.2])
            refine lv_aload_n hx hb dX11_readLine_60 rfl (lv_at hl 1 rfl) ?_
            obtain ⟨hPc, hDc, hFc⟩ := va_sub3 (ws' := [(h0, .inr (11, [.ref st, .int (nI N), .int (nI B), .ref rp, .int (nI nrs), .int (nI u69), .int vhs, .int vca, .int vxs, .int vxb, .ref tp, .int (nI T), .int vfa, .int u91, .int u92, .int (nI u65), .int (nI u66), .int u67, .int u68, .ref cu, .ref lt, .ref od, .ref th, .ref be, .ref ln, .int (nI S), .ref ma, .int (nI M), .ref ah, .ref bh, .ref ik, .ref la, .ref lg, .ref ce, .int vto])), (tp, .inl (G 0, 320, .inl ftp))]) hP hD hS hA [4, 0] (by decide) rfl
            refine va_callv (va_runV (As := []) (rest := []) ⟨hx, hb, hml, hown, hg⟩ (c_X11_goesOnE l dC dI G _ h0 st N B rp tp T u65 u66 cu lt od th be ln S ma M ah bh ik la lg ce (nI nrs) (nI u69) vhs vca vxs vxb vfa u91 u92 u67 u68 vto ftp hN hB_ hT_ hS0 hM_ (by have t_w22 := w22; have t_b13 := b13; have t_n60 := n60; have t_c71 := eqI c71; have t_c80 := neI c80; have t_w90 := w90.1; have tqz_ := qz23_; have tnb_ := nib10 tn1375_ tn1376_ tn1380_ tn1381_ tn1377_ tn1382_ tn1383_ tn1378_ tn1379_ tn1385_; have tqz_ := qz41_; omega) (by first | omega | (have t_w22 := w22; have t_b13 := b13; have t_n60 := n60; have t_c71 := eqI c71; have t_c80 := neI c80; have t_w90 := w90.1; have tqz_ := qz23_; have tnb_ := nib10 tn1375_ tn1376_ tn1380_ tn1381_ tn1377_ tn1382_ tn1383_ tn1378_ tn1379_ tn1385_; have tqz_ := qz41_; omega)) (by have t_w22 := w22; have t_b13 := b13; have t_n60 := n60; have t_c71 := eqI c71; have t_c80 := neI c80; have t_w90 := w90.1; have tqz_ := qz23_; have tnb_ := nib10 tn1375_ tn1376_ tn1380_ tn1381_ tn1377_ tn1382_ tn1383_ tn1378_ tn1379_ tn1385_; have tqz_ := qz41_; omega) htb) (kwV hg mfX11_goesOn wt_999 ⟨Nat.le_of_ble_eq_true rfl, Nat.le_of_ble_eq_true rfl⟩) (preVW hK hPc hDc (ci := 11) (r := (RX11, TX11, 35)) rfl rfl) rfl rfl hl.1 rfl (lv_room (Nat.le_of_ble_eq_true rfl)) dX11_readLine_61 ⟨Nat.le_of_ble_eq_true rfl, Nat.le_of_ble_eq_true rfl⟩) hS (fun q _ h => hFc q h) hFc (fun ur93 t H1 locs ht hvm w94 hB hz1 hk1 hS => ?_)
            obtain ⟨u95, u96, u97, u98, u99, u100⟩ := ur93
            obtain ⟨hP1, hD1⟩ := hB
            rw [ht] at hP1
            obtain ⟨hP, hD⟩ := va_join (wr := [(cu, .inl (G 0, 11, .inl fcu)), (lt, .inl (G 0, 54, .inl flt)), (rp, .inl (G 0, 49, .inl u70))]) (w1 := [(h0, .inr (11, [.ref st, .int (nI N), .int (nI B), .ref rp, .int (nI nrs), .int (nI u69), .int vhs, .int vca, .int vxs, .int vxb, .ref tp, .int (nI T), .int vfa, .int u95, .int u96, .int (nI u97), .int (nI u98), .int u99, .int u100, .ref cu, .ref lt, .ref od, .ref th, .ref be, .ref ln, .int (nI S), .ref ma, .int (nI M), .ref ah, .ref bh, .ref ik, .ref la, .ref lg, .ref ce, .int vto])), (tp, .inl (G 0, 320, .inl ftp))]) hP hD [4, 0] [1, 2, 3] rfl rfl (by decide) (by decide) hk1 hFc hP1 hD1
            have w94 : 0 ≤ u95.toInt ∧ (u91.toInt = 0 ∨ u95.toInt = u91.toInt) ∧ u65 ≤ u97 ∧ u97 ≤ T ∧ u98 ≤ u97 ∧ (0 < u91.toInt ∨ u99.toInt = 0 ∨ u65 < u97) ∧ (u95, u96, u97, u98, u99, u100) = gOn ftp T u91 u92 u65 u66 u67 u68 := w94
            generalize H1 = H at hP hS ⊢
            have ew94 : gT ftp T (u91, u92, u65, u66, u67, u68) = (u95, u96, u97, u98, u99, u100) := w94.2.2.2.2.2.2.symm
            obtain ⟨hP9, hD9⟩ := va_sub2 (ws' := [(h0, .inr (11, [.ref st, .int (nI N), .int (nI B), .ref rp, .int (nI nrs), .int (nI u69), .int vhs, .int vca, .int vxs, .int vxb, .ref tp, .int (nI T), .int vfa, .int u95, .int u96, .int (nI u97), .int (nI u98), .int u99, .int u100, .ref cu, .ref lt, .ref od, .ref th, .ref be, .ref ln, .int (nI S), .ref ma, .int (nI M), .ref ah, .ref bh, .ref ik, .ref la, .ref lg, .ref ce, .int vto])), (tp, .inl (G 0, 320, .inl ftp)), (cu, .inl (G 0, 11, .inl fcu)), (lt, .inl (G 0, 54, .inl flt)), (rp, .inl (G 0, 49, .inl u70))]) hP hD [3, 4, 0, 1, 2] (by decide) rfl
            refine W.widen (k := 0) (n := 0) (Nat.le_of_ble_eq_true rfl) (Nat.le_of_ble_eq_true rfl) ?_
            exact W.vret hx hb hr (fun t ht hW => ⟨⟨(u95, u96, u97, u98, u99, u100, nrs, u69, vhs, vca, vxs, vxb, u70), rfl, ⟨⟨w62.1.1, (by have t_w22 := w22; have t_b13 := b13; have t_n60 := n60; have t_c71 := eqI c71; have t_c80 := neI c80; have t_w90 := w90.1; have tqz_ := qz23_; have tnb_ := nib10 tn1375_ tn1376_ tn1380_ tn1381_ tn1377_ tn1382_ tn1383_ tn1378_ tn1379_ tn1385_; have tqz_ := qz41_; omega)⟩, (by unfold rlS; (try rw [ew2]); (try (repeat (first | rw [if_pos (by with_reducible assumption)] | rw [if_neg (by with_reducible assumption)] | rw [if_pos (by (have t_w22 := w22; have t_b13 := b13; have t_n60 := n60; have t_c71 := eqI c71; have t_c80 := neI c80; have t_w90 := w90.1; have tqz_ := qz23_; have tnb_ := nib10 tn1375_ tn1376_ tn1380_ tn1381_ tn1377_ tn1382_ tn1383_ tn1378_ tn1379_ tn1385_; have tqz_ := qz41_; omega))] | rw [if_neg (by (have t_w22 := w22; have t_b13 := b13; have t_n60 := n60; have t_c71 := eqI c71; have t_c80 := neI c80; have t_w90 := w90.1; have tqz_ := qz23_; have tnb_ := nib10 tn1375_ tn1376_ tn1380_ tn1381_ tn1377_ tn1382_ tn1383_ tn1378_ tn1379_ tn1385_; have tqz_ := qz41_; omega))] | rw [if_pos (by decide)] | rw [if_neg (by decide)]))); (try unfold fiS); (try (repeat (first | rw [if_pos (by with_reducible assumption)] | rw [if_neg (by with_reducible assumption)] | rw [if_pos (by (have t_w22 := w22; have t_b13 := b13; have t_n60 := n60; have t_c71 := eqI c71; have t_c80 := neI c80; have t_w90 := w90.1; have tqz_ := qz23_; have tnb_ := nib10 tn1375_ tn1376_ tn1380_ tn1381_ tn1377_ tn1382_ tn1383_ tn1378_ tn1379_ tn1385_; have tqz_ := qz41_; omega))] | rw [if_neg (by (have t_w22 := w22; have t_b13 := b13; have t_n60 := n60; have t_c71 := eqI c71; have t_c80 := neI c80; have t_w90 := w90.1; have tqz_ := qz23_; have tnb_ := nib10 tn1375_ tn1376_ tn1380_ tn1381_ tn1377_ tn1382_ tn1383_ tn1378_ tn1379_ tn1385_; have tqz_ := qz41_; omega))] | rw [if_pos (by decide)] | rw [if_neg (by decide)]))); (try rw [ew62]); (try (repeat (first | rw [if_pos (by with_reducible assumption)] | rw [if_neg (by with_reducible assumption)] | rw [if_pos (by (have t_w22 := w22; have t_b13 := b13; have t_n60 := n60; have t_c71 := eqI c71; have t_c80 := neI c80; have t_w90 := w90.1; have tqz_ := qz23_; have tnb_ := nib10 tn1375_ tn1376_ tn1380_ tn1381_ tn1377_ tn1382_ tn1383_ tn1378_ tn1379_ tn1385_; have tqz_ := qz41_; omega))] | rw [if_neg (by (have t_w22 := w22; have t_b13 := b13; have t_n60 := n60; have t_c71 := eqI c71; have t_c80 := neI c80; have t_w90 := w90.1; have tqz_ := qz23_; have tnb_ := nib10 tn1375_ tn1376_ tn1380_ tn1381_ tn1377_ tn1382_ tn1383_ tn1378_ tn1379_ tn1385_; have tqz_ := qz41_; omega))] | rw [if_pos (by decide)] | rw [if_neg (by decide)]))); (try unfold fiS); (try (repeat (first | rw [if_pos (by with_reducible assumption)] | rw [if_neg (by with_reducible assumption)] | rw [if_pos (by (have t_w22 := w22; have t_b13 := b13; have t_n60 := n60; have t_c71 := eqI c71; have t_c80 := neI c80; have t_w90 := w90.1; have tqz_ := qz23_; have tnb_ := nib10 tn1375_ tn1376_ tn1380_ tn1381_ tn1377_ tn1382_ tn1383_ tn1378_ tn1379_ tn1385_; have tqz_ := qz41_; omega))] | rw [if_neg (by (have t_w22 := w22; have t_b13 := b13; have t_n60 := n60; have t_c71 := eqI c71; have t_c80 := neI c80; have t_w90 := w90.1; have tqz_ := qz23_; have tnb_ := nib10 tn1375_ tn1376_ tn1380_ tn1381_ tn1377_ tn1382_ tn1383_ tn1378_ tn1379_ tn1385_; have tqz_ := qz41_; omega))] | rw [if_pos (by decide)] | rw [if_neg (by decide)]))); (try rw [ew90]); (try (repeat (first | rw [if_pos (by with_reducible assumption)] | rw [if_neg (by with_reducible assumption)] | rw [if_pos (by (have t_w22 := w22; have t_b13 := b13; have t_n60 := n60; have t_c71 := eqI c71; have t_c80 := neI c80; have t_w90 := w90.1; have tqz_ := qz23_; have tnb_ := nib10 tn1375_ tn1376_ tn1380_ tn1381_ tn1377_ tn1382_ tn1383_ tn1378_ tn1379_ tn1385_; have tqz_ := qz41_; omega))] | rw [if_neg (by (have t_w22 := w22; have t_b13 := b13; have t_n60 := n60; have t_c71 := eqI c71; have t_c80 := neI c80; have t_w90 := w90.1; have tqz_ := qz23_; have tnb_ := nib10 tn1375_ tn1376_ tn1380_ tn1381_ tn1377_ tn1382_ tn1383_ tn1378_ tn1379_ tn1385_; have tqz_ := qz41_; omega))] | rw [if_pos (by decide)] | rw [if_neg (by decide)]))); (try unfold fiS); (try (repeat (first | rw [if_pos (by with_reducible assumption)] | rw [if_neg (by with_reducible assumption)] | rw [if_pos (by (have t_w22 := w22; have t_b13 := b13; have t_n60 := n60; have t_c71 := eqI c71; have t_c80 := neI c80; have t_w90 := w90.1; have tqz_ := qz23_; have tnb_ := nib10 tn1375_ tn1376_ tn1380_ tn1381_ tn1377_ tn1382_ tn1383_ tn1378_ tn1379_ tn1385_; have tqz_ := qz41_; omega))] | rw [if_neg (by (have t_w22 := w22; have t_b13 := b13; have t_n60 := n60; have t_c71 := eqI c71; have t_c80 := neI c80; have t_w90 := w90.1; have tqz_ := qz23_; have tnb_ := nib10 tn1375_ tn1376_ tn1380_ tn1381_ tn1377_ tn1382_ tn1383_ tn1378_ tn1379_ tn1385_; have tqz_ := qz41_; omega))] | rw [if_pos (by decide)] | rw [if_neg (by decide)]))); (try rw [ew94]); (try (repeat (first | rw [if_pos (by with_reducible assumption)] | rw [if_neg (by with_reducible assumption)] | rw [if_pos (by (have t_w22 := w22; have t_b13 := b13; have t_n60 := n60; have t_c71 := eqI c71; have t_c80 := neI c80; have t_w90 := w90.1; have tqz_ := qz23_; have tnb_ := nib10 tn1375_ tn1376_ tn1380_ tn1381_ tn1377_ tn1382_ tn1383_ tn1378_ tn1379_ tn1385_; have tqz_ := qz41_; omega))] | rw [if_neg (by (have t_w22 := w22; have t_b13 := b13; have t_n60 := n60; have t_c71 := eqI c71; have t_c80 := neI c80; have t_w90 := w90.1; have tqz_ := qz23_; have tnb_ := nib10 tn1375_ tn1376_ tn1380_ tn1381_ tn1377_ tn1382_ tn1383_ tn1378_ tn1379_ tn1385_; have tqz_ := qz41_; omega))] | rw [if_pos (by decide)] | rw [if_neg (by decide)]))); (try unfold fiS); (try (repeat (first | rw [if_pos (by with_reducible assumption)] | rw [if_neg (by with_reducible assumption)] | rw [if_pos (by (have t_w22 := w22; have t_b13 := b13; have t_n60 := n60; have t_c71 := eqI c71; have t_c80 := neI c80; have t_w90 := w90.1; have tqz_ := qz23_; have tnb_ := nib10 tn1375_ tn1376_ tn1380_ tn1381_ tn1377_ tn1382_ tn1383_ tn1378_ tn1379_ tn1385_; have tqz_ := qz41_; omega))] | rw [if_neg (by (have t_w22 := w22; have t_b13 := b13; have t_n60 := n60; have t_c71 := eqI c71; have t_c80 := neI c80; have t_w90 := w90.1; have tqz_ := qz23_; have tnb_ := nib10 tn1375_ tn1376_ tn1380_ tn1381_ tn1377_ tn1382_ tn1383_ tn1378_ tn1379_ tn1385_; have tqz_ := qz41_; omega))] | rw [if_pos (by decide)] | rw [if_neg (by decide)]))); all_goals rfl)⟩, ⟨by rw [ht]; exact hP9, hD9⟩⟩, hS.F ht⟩) hS.2.2 dX11_readLine_64
    · skip
      have b101 := if10_n c12
      refine lv_aload_n hx hb dX11_readLine_17 rfl (lv_at hl 1 rfl) ?_
      refine lv_iconst (v := 2) hx hb dX11_readLine_18 rfl ?_
      obtain ⟨hPc, hDc, hFc⟩ := va_sub3 (ws' := [(h0, .inr (11, [.ref st, .int (nI N), .int (nI B), .ref rp, .int (nI nrs), .int (nI nrb), .int vhs, .int vca, .int vxs, .int vxb, .ref tp, .int (nI T), .int vfa, .int vbr, .int vba, .int (nI nsp), .int (nI nhe), .int vtk, .int vva, .ref cu, .ref lt, .ref od, .ref th, .ref be, .ref ln, .int (nI S), .ref ma, .int (nI M), .ref ah, .ref bh, .ref ik, .ref la, .ref lg, .ref ce, .int vto]))]) hP hD hS hA [0] (by decide) rfl
      have tn1386_ : nIT w20 := fun _ => nI_toInt (by first | omega | (have t_w22 := w22; have t_b101 := b101; omega))
      refine va_callv (va_runV (As := [.int 2]) (rest := []) ⟨hx, hb, hml, hown, hg⟩ (c_X11_failsE l dC dI G _ h0 st N B rp tp T nhe cu lt od th be ln S ma M ah bh ik la lg ce 2 (nI nrs) (nI nrb) vhs vca vxs vxb vfa vbr vba (nI nsp) vtk vva vto hN hB_ hT_ hS0 hM_ (by have t_w22 := w22; have t_b101 := b101; have tnb_ := nib10 tn1375_ tn1376_ tn1380_ tn1381_ tn1377_ tn1382_ tn1383_ tn1378_ tn1379_ tn1386_; have tqz_ := qz45_; omega) hbr (by first | omega | (have t_w22 := w22; have t_b101 := b101; have tnb_ := nib10 tn1375_ tn1376_ tn1380_ tn1381_ tn1377_ tn1382_ tn1383_ tn1378_ tn1379_ tn1386_; have tqz_ := qz45_; omega))) (kwV hg mfX11_fails wt_1011 ⟨Nat.le_of_ble_eq_true rfl, Nat.le_of_ble_eq_true rfl⟩) (preVW hK hPc hDc (ci := 11) (r := (RX11, TX11, 35)) rfl rfl) rfl rfl hl.1 rfl (lv_room (Nat.le_of_ble_eq_true rfl)) dX11_readLine_19 ⟨Nat.le_of_ble_eq_true rfl, Nat.le_of_ble_eq_true rfl⟩) hS (fun q _ h => hFc q h) hFc (fun ur102 t H1 locs ht hvm w103 hB hz1 hk1 hS => ?_)
      obtain ⟨u104, u105⟩ := ur102
      obtain ⟨hP1, hD1⟩ := hB
      rw [ht] at hP1
      obtain ⟨hP, hD⟩ := va_join (wr := [(tp, .inl (G 0, 320, .inl ftp)), (cu, .inl (G 0, 11, .inl fcu)), (lt, .inl (G 0, 54, .inl flt)), (rp, .inl (G 0, 49, .inl frp))]) (w1 := [(h0, .inr (11, [.ref st, .int (nI N), .int (nI B), .ref rp, .int (nI nrs), .int (nI nrb), .int vhs, .int vca, .int vxs, .int vxb, .ref tp, .int (nI T), .int vfa, .int u104, .int u105, .int (nI nsp), .int (nI nhe), .int vtk, .int vva, .ref cu, .ref lt, .ref od, .ref th, .ref be, .ref ln, .int (nI S), .ref ma, .int (nI M), .ref ah, .ref bh, .ref ik, .ref la, .ref lg, .ref ce, .int vto]))]) hP hD [0] [1, 2, 3, 4] rfl rfl (by decide) (by decide) hk1 hFc hP1 hD1
      have w103 : 0 < u104.toInt ∧ u104 = flB (2 : Int32) vbr ∧ u105 = flA vbr vba nhe := w103
      generalize H1 = H at hP hS ⊢
      have ew103 : fT 2 (vbr, vba, nsp, nhe, vtk, vva) = (u104, u105, nsp, nhe, vtk, vva) := (by show (flB _ _, flA _ _ _, _, _, _, _) = _; rw [← w103.2.1, ← w103.2.2])
      obtain ⟨hP9, hD9⟩ := va_sub2 (ws' := [(h0, .inr (11, [.ref st, .int (nI N), .int (nI B), .ref rp, .int (nI nrs), .int (nI nrb), .int vhs, .int vca, .int vxs, .int vxb, .ref tp, .int (nI T), .int vfa, .int u104, .int u105, .int (nI nsp), .int (nI nhe), .int vtk, .int vva, .ref cu, .ref lt, .ref od, .ref th, .ref be, .ref ln, .int (nI S), .ref ma, .int (nI M), .ref ah, .ref bh, .ref ik, .ref la, .ref lg, .ref ce, .int vto])), (tp, .inl (G 0, 320, .inl ftp)), (cu, .inl (G 0, 11, .inl fcu)), (lt, .inl (G 0, 54, .inl flt)), (rp, .inl (G 0, 49, .inl frp))]) hP hD [4, 0, 1, 2, 3] (by decide) rfl
      refine W.widen (k := 0) (n := 0) (Nat.le_of_ble_eq_true rfl) (Nat.le_of_ble_eq_true rfl) ?_
      exact W.vret hx hb hr (fun t ht hW => ⟨⟨(u104, u105, nsp, nhe, vtk, vva, nrs, nrb, vhs, vca, vxs, vxb, frp), rfl, ⟨⟨hrp, (by have t_w22 := w22; have t_b101 := b101; have t_w103 := w103.1; have tnb_ := nib10 tn1375_ tn1376_ tn1380_ tn1381_ tn1377_ tn1382_ tn1383_ tn1378_ tn1379_ tn1386_; have tqz_ := qz41_; omega)⟩, (by unfold rlS; (try rw [ew2]); (try (repeat (first | rw [if_pos (by with_reducible assumption)] | rw [if_neg (by with_reducible assumption)] | rw [if_pos (by (have t_w22 := w22; have t_b101 := b101; have t_w103 := w103.1; have tnb_ := nib10 tn1375_ tn1376_ tn1380_ tn1381_ tn1377_ tn1382_ tn1383_ tn1378_ tn1379_ tn1386_; have tqz_ := qz41_; omega))] | rw [if_neg (by (have t_w22 := w22; have t_b101 := b101; have t_w103 := w103.1; have tnb_ := nib10 tn1375_ tn1376_ tn1380_ tn1381_ tn1377_ tn1382_ tn1383_ tn1378_ tn1379_ tn1386_; have tqz_ := qz41_; omega))] | rw [if_pos (by decide)] | rw [if_neg (by decide)]))); (try unfold fiS); (try (repeat (first | rw [if_pos (by with_reducible assumption)] | rw [if_neg (by with_reducible assumption)] | rw [if_pos (by (have t_w22 := w22; have t_b101 := b101; have t_w103 := w103.1; have tnb_ := nib10 tn1375_ tn1376_ tn1380_ tn1381_ tn1377_ tn1382_ tn1383_ tn1378_ tn1379_ tn1386_; have tqz_ := qz41_; omega))] | rw [if_neg (by (have t_w22 := w22; have t_b101 := b101; have t_w103 := w103.1; have tnb_ := nib10 tn1375_ tn1376_ tn1380_ tn1381_ tn1377_ tn1382_ tn1383_ tn1378_ tn1379_ tn1386_; have tqz_ := qz41_; omega))] | rw [if_pos (by decide)] | rw [if_neg (by decide)]))); (try rw [ew103]); (try (repeat (first | rw [if_pos (by with_reducible assumption)] | rw [if_neg (by with_reducible assumption)] | rw [if_pos (by (have t_w22 := w22; have t_b101 := b101; have t_w103 := w103.1; have tnb_ := nib10 tn1375_ tn1376_ tn1380_ tn1381_ tn1377_ tn1382_ tn1383_ tn1378_ tn1379_ tn1386_; have tqz_ := qz41_; omega))] | rw [if_neg (by (have t_w22 := w22; have t_b101 := b101; have t_w103 := w103.1; have tnb_ := nib10 tn1375_ tn1376_ tn1380_ tn1381_ tn1377_ tn1382_ tn1383_ tn1378_ tn1379_ tn1386_; have tqz_ := qz41_; omega))] | rw [if_pos (by decide)] | rw [if_neg (by decide)]))); (try unfold fiS); (try (repeat (first | rw [if_pos (by with_reducible assumption)] | rw [if_neg (by with_reducible assumption)] | rw [if_pos (by (have t_w22 := w22; have t_b101 := b101; have t_w103 := w103.1; have tnb_ := nib10 tn1375_ tn1376_ tn1380_ tn1381_ tn1377_ tn1382_ tn1383_ tn1378_ tn1379_ tn1386_; have tqz_ := qz41_; omega))] | rw [if_neg (by (have t_w22 := w22; have t_b101 := b101; have t_w103 := w103.1; have tnb_ := nib10 tn1375_ tn1376_ tn1380_ tn1381_ tn1377_ tn1382_ tn1383_ tn1378_ tn1379_ tn1386_; have tqz_ := qz41_; omega))] | rw [if_pos (by decide)] | rw [if_neg (by decide)]))); all_goals rfl)⟩, ⟨by rw [ht]; exact hP9, hD9⟩⟩, hS.F ht⟩) hS.2.2 dX11_readLine_22

set_option maxHeartbeats 8000000 in
set_option maxRecDepth 100000 in
theorem c_X11_textE (l : Launch) (dC : Nat → ClassId) (dI : Nat → Nat → Nat) (G : Nat → ClassId) (sz : Nat) (h0 st N B rp tp T nhe cu lt od th be ln S ma M ah bh ik la lg ce : Nat) (vrs vrb vhs vca vxs vxb vfa vbr vba vsp vtk vva vto : Int32) (ftp : Nat → Int32) (fcu : Nat → Int32) (flt : Nat → Int32) (frp : Nat → Int32) (fst : Nat → Int32) (fik : Nat → Int32) (hN : N ≤ 10) (hB : B ≤ 6) (hT : T ≤ 320) (hS0 : S ≤ 8) (hM : M ≤ 6) (hst : OKS fst) (hc : ∀ q : Nat, q < 11 → fcu q = nI (cutL.getD q 0)) (hNB : N = 0 ∨ 0 < B) (hhe : nhe ≤ 320) (hlt : ∀ q : Nat, q < 54 → flt q = letL.getD q 0) (htb : ∀ q : Nat, q < 320 → 0 ≤ (ftp q).toInt) : Met l yX11_text (Cond.code yX11_text cX11_text 3 (some .int) :: GT) ({ frames := 5, cells := 0, slots := 0, locals := 114 } : Room) (PcW [.ref h0] dC dI G [(h0, .inr (11, [.ref st, .int (nI N), .int (nI B), .ref rp, .int vrs, .int vrb, .int vhs, .int vca, .int vxs, .int vxb, .ref tp, .int (nI T), .int vfa, .int vbr, .int vba, .int vsp, .int (nI nhe), .int vtk, .int vva, .ref cu, .ref lt, .ref od, .ref th, .ref be, .ref ln, .int (nI S), .ref ma, .int (nI M), .ref ah, .ref bh, .ref ik, .ref la, .ref lg, .ref ce, .int vto])), (tp, .inl (G 0, 320, .inl ftp)), (cu, .inl (G 0, 11, .inl fcu)), (lt, .inl (G 0, 54, .inl flt)), (rp, .inl (G 0, 49, .inl frp)), (st, .inl (G 0, 196, .inl fst)), (ik, .inl (G 2, 2, .inl fik))] sz) (va_Qi (fun (r : Int32) (u : Int32 × Int32 × Int32 × Nat × Int32 × Int32 × Int32 × Int32 × Int32 × Int32 × Int32 × Int32 × Int32 × Nat × Nat × Nat × Nat × Nat × (Nat → Int32) × (Nat → Int32) × (Nat → Int32)) => match u with | (obr, oba, osp, ohe, otk, ova, ors, orb, ohs, oca, oxs, oxb, ofa, oT, oN, oB, oS, oM, orp, ost, oik) => (r = (if 0 < (txE (txQ ftp T vba nhe vtk vva frp).1).1.toInt then (-10) - (txE (txQ ftp T vba nhe vtk vva frp).1).2.1 else nI (txQ ftp T vba nhe vtk vva frp).2)) ∧ (OKS ost ∧ (oN ≤ 10 ∧ oB ≤ 6 ∧ (oN = 0 ∨ 0 < oB) ∧ oT = 0 ∧ oS ≤ 8 ∧ oM ≤ 6 ∧ ohe ≤ 320)) ∧ ofa = (txE (txQ ftp T vba nhe vtk vva frp).1).1 ∧ oN = (if 0 < (txE (txQ ftp T vba nhe vtk vva frp).1).1.toInt then N else (txQ ftp T vba nhe vtk vva frp).1.2.1) ∧ oB = (if 0 < (txE (txQ ftp T vba nhe vtk vva frp).1).1.toInt then B else (txQ ftp T vba nhe vtk vva frp).1.2.2.1) ∧ oS = (if 0 < (txE (txQ ftp T vba nhe vtk vva frp).1).1.toInt then S else 0) ∧ oM = (if 0 < (txE (txQ ftp T vba nhe vtk vva frp).1).1.toInt then M else 0) ∧ ost = (if 0 < (txE (txQ ftp T vba nhe vtk vva frp).1).1.toInt then fst else cpF 49 (txQ ftp T vba nhe vtk vva frp).1.2.2.2.2.2.2.2 fst) ∧ oik = (if 0 < (txE (txQ ftp T vba nhe vtk vva frp).1).1.toInt then fik else upd (upd fik 0 0) 1 0)) (fun (u : Int32 × Int32 × Int32 × Nat × Int32 × Int32 × Int32 × Int32 × Int32 × Int32 × Int32 × Int32 × Int32 × Nat × Nat × Nat × Nat × Nat × (Nat → Int32) × (Nat → Int32) × (Nat → Int32)) (t : State) => match u with | (obr, oba, osp, ohe, otk, ova, ors, orb, ohs, oca, oxs, oxb, ofa, oT, oN, oB, oS, oM, orp, ost, oik) => va_P (dC, dI) vwCl [(h0, .inr (11, [.ref st, .int (nI oN), .int (nI oB), .ref rp, .int ors, .int orb, .int ohs, .int oca, .int oxs, .int oxb, .ref tp, .int (nI oT), .int ofa, .int obr, .int oba, .int osp, .int (nI ohe), .int otk, .int ova, .ref cu, .ref lt, .ref od, .ref th, .ref be, .ref ln, .int (nI oS), .ref ma, .int (nI oM), .ref ah, .ref bh, .ref ik, .ref la, .ref lg, .ref ce, .int vto])), (tp, .inl (G 0, 320, .inl ftp)), (cu, .inl (G 0, 11, .inl fcu)), (lt, .inl (G 0, 54, .inl flt)), (rp, .inl (G 0, 49, .inl orp)), (st, .inl (G 0, 196, .inl ost)), (ik, .inl (G 2, 2, .inl oik))] t.heap ∧ va_D (va_A [(h0, .inr (11, [.ref st, .int (nI N), .int (nI B), .ref rp, .int vrs, .int vrb, .int vhs, .int vca, .int vxs, .int vxb, .ref tp, .int (nI T), .int vfa, .int vbr, .int vba, .int vsp, .int (nI nhe), .int vtk, .int vva, .ref cu, .ref lt, .ref od, .ref th, .ref be, .ref ln, .int (nI S), .ref ma, .int (nI M), .ref ah, .ref bh, .ref ik, .ref la, .ref lg, .ref ce, .int vto])), (tp, .inl (G 0, 320, .inl ftp)), (cu, .inl (G 0, 11, .inl fcu)), (lt, .inl (G 0, 54, .inl flt)), (rp, .inl (G 0, 49, .inl frp)), (st, .inl (G 0, 196, .inl fst)), (ik, .inl (G 2, 2, .inl fik))] sz) [(h0, .inr (11, [.ref st, .int (nI oN), .int (nI oB), .ref rp, .int ors, .int orb, .int ohs, .int oca, .int oxs, .int oxb, .ref tp, .int (nI oT), .int ofa, .int obr, .int oba, .int osp, .int (nI ohe), .int otk, .int ova, .ref cu, .ref lt, .ref od, .ref th, .ref be, .ref ln, .int (nI oS), .ref ma, .int (nI oM), .ref ah, .ref bh, .ref ik, .ref la, .ref lg, .ref ce, .int vto])), (tp, .inl (G 0, 320, .inl ftp)), (cu, .inl (G 0, 11, .inl fcu)), (lt, .inl (G 0, 54, .inl flt)), (rp, .inl (G 0, 49, .inl orp)), (st, .inl (G 0, 196, .inl ost)), (ik, .inl (G 2, 2, .inl oik))]) (va_A [(h0, .inr (11, [.ref st, .int (nI N), .int (nI B), .ref rp, .int vrs, .int vrb, .int vhs, .int vca, .int vxs, .int vxb, .ref tp, .int (nI T), .int vfa, .int vbr, .int vba, .int vsp, .int (nI nhe), .int vtk, .int vva, .ref cu, .ref lt, .ref od, .ref th, .ref be, .ref ln, .int (nI S), .ref ma, .int (nI M), .ref ah, .ref bh, .ref ik, .ref la, .ref lg, .ref ce, .int vto])), (tp, .inl (G 0, 320, .inl ftp)), (cu, .inl (G 0, 11, .inl fcu)), (lt, .inl (G 0, 54, .inl flt)), (rp, .inl (G 0, 49, .inl frp)), (st, .inl (G 0, 196, .inl fst)), (ik, .inl (G 2, 2, .inl fik))] sz)) 0 0 (va_A [(h0, .inr (11, [.ref st, .int (nI N), .int (nI B), .ref rp, .int vrs, .int vrb, .int vhs, .int vca, .int vxs, .int vxb, .ref tp, .int (nI T), .int vfa, .int vbr, .int vba, .int vsp, .int (nI nhe), .int vtk, .int vva, .ref cu, .ref lt, .ref od, .ref th, .ref be, .ref ln, .int (nI S), .ref ma, .int (nI M), .ref ah, .ref bh, .ref ik, .ref la, .ref lg, .ref ce, .int vto])), (tp, .inl (G 0, 320, .inl ftp)), (cu, .inl (G 0, 11, .inl fcu)), (lt, .inl (G 0, 54, .inl flt)), (rp, .inl (G 0, 49, .inl frp)), (st, .inl (G 0, 196, .inl fst)), (ik, .inl (G 2, 2, .inl fik))] sz) := by
  have hB_ := hB
  have hM_ := hM
  have hT_ := hT
  have tn1387_ : nIT N := fun _ => nI_toInt (by omega)
  have tn1388_ : nIT B := fun _ => nI_toInt (by omega)
  have tn1389_ : nIT T := fun _ => nI_toInt (by omega)
  have tn1390_ : nIT S := fun _ => nI_toInt (by omega)
  have tn1391_ : nIT M := fun _ => nI_toInt (by omega)
  refine Met.ofW (cc := cX11_text) (maxL := 3) (ret := (some .int)) (by decide) rfl ?_
  intro p e s m args below meth c s₁ Bd hml hv
  obtain ⟨rfl, hsz, hP, hK, hD0⟩ := hv
  have hx := Bd.exec
  have hb := Bd.bytes
  have hr := Bd.returns
  have hg : ∀ w ∈ GT, w.before ([.ref h0] : List Value).toArray s = true := fun w h => atoms_spec (ws := Cond.code yX11_text cX11_text 3 (some .int) :: GT) Bd.pre w (List.mem_cons_of_mem _ h)
  have hown : s.vm.findClass RX11 = some m.cls := findClass_of_methodNamed Bd.named
  have hlocks := Bd.notSynchronized
  subst hsz
  have hD := hD0.self (sz := s.heap.size)
  generalize hAe : va_A [(h0, .inr (11, [.ref st, .int (nI N), .int (nI B), .ref rp, .int vrs, .int vrb, .int vhs, .int vca, .int vxs, .int vxb, .ref tp, .int (nI T), .int vfa, .int vbr, .int vba, .int vsp, .int (nI nhe), .int vtk, .int vva, .ref cu, .ref lt, .ref od, .ref th, .ref be, .ref ln, .int (nI S), .ref ma, .int (nI M), .ref ah, .ref bh, .ref ik, .ref la, .ref lg, .ref ce, .int vto])), (tp, .inl (G 0, 320, .inl ftp)), (cu, .inl (G 0, 11, .inl fcu)), (lt, .inl (G 0, 54, .inl flt)), (rp, .inl (G 0, 49, .inl frp)), (st, .inl (G 0, 196, .inl fst)), (ik, .inl (G 2, 2, .inl fik))] s.heap.size = A at hD ⊢
  have hA : ∀ q : Nat, s.heap.size ≤ q → A q := fun q h => by rw [← hAe]; exact Or.inr h
  have hS : va_S A s.heap s.heap [] := va_S.rf
  have hl := lv_entry ([.ref h0]) (n := 3) (Nat.le_of_ble_eq_true rfl)
  rw [lg_entry_eq]
  generalize (lg_sl ([.ref h0]) ++ List.replicate (3 - (lg_sl ([.ref h0])).length) Slot.unset).toArray = ls at hl ⊢
  have hl : lv_has ls 3 [(0, .ref h0)] := hl
  refine lv_aload_n hx hb dX11_text_0 rfl (lv_at hl 0 rfl) ?_
  refine lv_iconst (v := 0) hx hb dX11_text_1 rfl ?_
  refine va_put (D := (dC, dI)) (ci := 11) (v := .int 0) (ty := .int) (C := RX11) (T := TX11) (N := 35) hx hb hg inG11 tyX11 tyX11_ok nmX11 hown hK.1 hP hD hS 0 rfl rfl 13 (Nat.le_of_ble_eq_true rfl) (hg _ wt_891) (fun _ h9 => h9) rfl (by decide +kernel) rfl rfl (Nat.le_of_ble_eq_true rfl) dX11_text_2 (fun H locs hP hD hS => ?_)
  refine lv_aload_n hx hb dX11_text_5 rfl (lv_at hl 0 rfl) ?_
  refine lv_iconst (v := 0) hx hb dX11_text_6 rfl ?_
  refine va_put (D := (dC, dI)) (ci := 11) (v := .int 0) (ty := .int) (C := RX11) (T := TX11) (N := 35) hx hb hg inG11 tyX11 tyX11_ok nmX11 hown hK.1 hP hD hS 0 rfl rfl 15 (Nat.le_of_ble_eq_true rfl) (hg _ wt_893) (fun _ h9 => h9) rfl (by decide +kernel) rfl rfl (Nat.le_of_ble_eq_true rfl) dX11_text_7 (fun H locs hP hD hS => ?_)
  refine lv_aload_n hx hb dX11_text_10 rfl (lv_at hl 0 rfl) ?_
  refine lv_iconst (v := 0) hx hb dX11_text_11 rfl ?_
  refine va_put (D := (dC, dI)) (ci := 11) (v := .int 0) (ty := .int) (C := RX11) (T := TX11) (N := 35) hx hb hg inG11 tyX11 tyX11_ok nmX11 hown hK.1 hP hD hS 0 rfl rfl 4 (Nat.le_of_ble_eq_true rfl) (hg _ wt_882) (fun _ h9 => h9) rfl (by decide +kernel) rfl rfl (Nat.le_of_ble_eq_true rfl) dX11_text_12 (fun H locs hP hD hS => ?_)
  refine lv_aload_n hx hb dX11_text_15 rfl (lv_at hl 0 rfl) ?_
  refine lv_iconst (v := 0) hx hb dX11_text_16 rfl ?_
  refine va_put (D := (dC, dI)) (ci := 11) (v := .int 0) (ty := .int) (C := RX11) (T := TX11) (N := 35) hx hb hg inG11 tyX11 tyX11_ok nmX11 hown hK.1 hP hD hS 0 rfl rfl 5 (Nat.le_of_ble_eq_true rfl) (hg _ wt_883) (fun _ h9 => h9) rfl (by decide +kernel) rfl rfl (Nat.le_of_ble_eq_true rfl) dX11_text_17 (fun H locs hP hD hS => ?_)
  refine lv_aload_n hx hb dX11_text_20 rfl (lv_at hl 0 rfl) ?_
  refine lv_iconst (v := 0) hx hb dX11_text_21 rfl ?_
  refine va_put (D := (dC, dI)) (ci := 11) (v := .int 0) (ty := .boolean) (C := RX11) (T := TX11) (N := 35) hx hb hg inG11 tyX11 tyX11_ok nmX11 hown hK.1 hP hD hS 0 rfl rfl 6 (Nat.le_of_ble_eq_true rfl) (hg _ wt_884) (fun _ h9 => h9) rfl (by decide +kernel) rfl rfl (Nat.le_of_ble_eq_true rfl) dX11_text_22 (fun H locs hP hD hS => ?_)
  refine lv_aload_n hx hb dX11_text_25 rfl (lv_at hl 0 rfl) ?_
  refine lv_iconst (v := 0) hx hb dX11_text_26 rfl ?_
  refine va_put (D := (dC, dI)) (ci := 11) (v := .int 0) (ty := .int) (C := RX11) (T := TX11) (N := 35) hx hb hg inG11 tyX11 tyX11_ok nmX11 hown hK.1 hP hD hS 0 rfl rfl 7 (Nat.le_of_ble_eq_true rfl) (hg _ wt_885) (fun _ h9 => h9) rfl (by decide +kernel) rfl rfl (Nat.le_of_ble_eq_true rfl) dX11_text_27 (fun H locs hP hD hS => ?_)
  refine lv_aload_n hx hb dX11_text_30 rfl (lv_at hl 0 rfl) ?_
  refine lv_iconst (v := (-1)) hx hb dX11_text_31 rfl ?_
  refine va_put (D := (dC, dI)) (ci := 11) (v := .int (-1)) (ty := .int) (C := RX11) (T := TX11) (N := 35) hx hb hg inG11 tyX11 tyX11_ok nmX11 hown hK.1 hP hD hS 0 rfl rfl 8 (Nat.le_of_ble_eq_true rfl) (hg _ wt_886) (fun _ h9 => h9) rfl (by decide +kernel) rfl rfl (Nat.le_of_ble_eq_true rfl) dX11_text_32 (fun H locs hP hD hS => ?_)
  refine lv_aload_n hx hb dX11_text_35 rfl (lv_at hl 0 rfl) ?_
  refine lv_iconst (v := (-1)) hx hb dX11_text_36 rfl ?_
  refine va_put (D := (dC, dI)) (ci := 11) (v := .int (-1)) (ty := .int) (C := RX11) (T := TX11) (N := 35) hx hb hg inG11 tyX11 tyX11_ok nmX11 hown hK.1 hP hD hS 0 rfl rfl 9 (Nat.le_of_ble_eq_true rfl) (hg _ wt_887) (fun _ h9 => h9) rfl (by decide +kernel) rfl rfl (Nat.le_of_ble_eq_true rfl) dX11_text_37 (fun H locs hP hD hS => ?_)
  refine lv_iconst (v := 0) hx hb dX11_text_40 rfl ?_
  refine lv_istore_n (lv' := [(1, .int 0), (0, .ref h0)]) hx hb dX11_text_41 rfl hl (by decide) rfl (fun ls hl => ?_)
  refine lv_iconst (v := 0) hx hb dX11_text_42 rfl ?_
  refine lv_istore_n (lv' := [(2, .int 0), (1, .int 0), (0, .ref h0)]) hx hb dX11_text_43 rfl hl (by decide) rfl (fun ls hl => ?_)
  have loop44_3 : ∀ (nf j1 : Nat), 49 + 1 ≤ j1 + nf → j1 ≤ 49 → ∀ (g2 : Nat → Int32) (H : Heap) (locs : List Loc), g2 = zpF j1 frp → va_P (dC, dI) vwCl [(h0, .inr (11, [.ref st, .int (nI N), .int (nI B), .ref rp, .int 0, .int 0, .int 0, .int 0, .int (-1), .int (-1), .ref tp, .int (nI T), .int vfa, .int 0, .int vba, .int 0, .int (nI nhe), .int vtk, .int vva, .ref cu, .ref lt, .ref od, .ref th, .ref be, .ref ln, .int (nI S), .ref ma, .int (nI M), .ref ah, .ref bh, .ref ik, .ref la, .ref lg, .ref ce, .int vto])), (tp, .inl (G 0, 320, .inl ftp)), (cu, .inl (G 0, 11, .inl fcu)), (lt, .inl (G 0, 54, .inl flt)), (rp, .inl (G 0, 49, .inl g2)), (st, .inl (G 0, 196, .inl fst)), (ik, .inl (G 2, 2, .inl fik))] H → va_D A [(h0, .inr (11, [.ref st, .int (nI N), .int (nI B), .ref rp, .int 0, .int 0, .int 0, .int 0, .int (-1), .int (-1), .ref tp, .int (nI T), .int vfa, .int 0, .int vba, .int 0, .int (nI nhe), .int vtk, .int vva, .ref cu, .ref lt, .ref od, .ref th, .ref be, .ref ln, .int (nI S), .ref ma, .int (nI M), .ref ah, .ref bh, .ref ik, .ref la, .ref lg, .ref ce, .int vto])), (tp, .inl (G 0, 320, .inl ftp)), (cu, .inl (G 0, 11, .inl fcu)), (lt, .inl (G 0, 54, .inl flt)), (rp, .inl (G 0, 49, .inl g2)), (st, .inl (G 0, 196, .inl fst)), (ik, .inl (G 2, 2, .inl fik))] → va_S A s.heap H locs → ∀ (ls : Array Slot), lv_has ls 3 [(2, .int (nI j1)), (1, .int 0), (0, .ref h0)] → W p l e (headSpec (Cond.code yX11_text cX11_text 3 (some .int) :: GT) ({ frames := 5, cells := 0, slots := 0, locals := 114 } : Room)).room s m ([.ref h0] : List Value).toArray below meth c H locs 0 0 (MQ below (va_Qi (fun (r : Int32) (u : Int32 × Int32 × Int32 × Nat × Int32 × Int32 × Int32 × Int32 × Int32 × Int32 × Int32 × Int32 × Int32 × Nat × Nat × Nat × Nat × Nat × (Nat → Int32) × (Nat → Int32) × (Nat → Int32)) => match u with | (obr, oba, osp, ohe, otk, ova, ors, orb, ohs, oca, oxs, oxb, ofa, oT, oN, oB, oS, oM, orp, ost, oik) => (r = (if 0 < (txE (txQ ftp T vba nhe vtk vva frp).1).1.toInt then (-10) - (txE (txQ ftp T vba nhe vtk vva frp).1).2.1 else nI (txQ ftp T vba nhe vtk vva frp).2)) ∧ (OKS ost ∧ (oN ≤ 10 ∧ oB ≤ 6 ∧ (oN = 0 ∨ 0 < oB) ∧ oT = 0 ∧ oS ≤ 8 ∧ oM ≤ 6 ∧ ohe ≤ 320)) ∧ ofa = (txE (txQ ftp T vba nhe vtk vva frp).1).1 ∧ oN = (if 0 < (txE (txQ ftp T vba nhe vtk vva frp).1).1.toInt then N else (txQ ftp T vba nhe vtk vva frp).1.2.1) ∧ oB = (if 0 < (txE (txQ ftp T vba nhe vtk vva frp).1).1.toInt then B else (txQ ftp T vba nhe vtk vva frp).1.2.2.1) ∧ oS = (if 0 < (txE (txQ ftp T vba nhe vtk vva frp).1).1.toInt then S else 0) ∧ oM = (if 0 < (txE (txQ ftp T vba nhe vtk vva frp).1).1.toInt then M else 0) ∧ ost = (if 0 < (txE (txQ ftp T vba nhe vtk vva frp).1).1.toInt then fst else cpF 49 (txQ ftp T vba nhe vtk vva frp).1.2.2.2.2.2.2.2 fst) ∧ oik = (if 0 < (txE (txQ ftp T vba nhe vtk vva frp).1).1.toInt then fik else upd (upd fik 0 0) 1 0)) (fun (u : Int32 × Int32 × Int32 × Nat × Int32 × Int32 × Int32 × Int32 × Int32 × Int32 × Int32 × Int32 × Int32 × Nat × Nat × Nat × Nat × Nat × (Nat → Int32) × (Nat → Int32) × (Nat → Int32)) (t : State) => match u with | (obr, oba, osp, ohe, otk, ova, ors, orb, ohs, oca, oxs, oxb, ofa, oT, oN, oB, oS, oM, orp, ost, oik) => va_P (dC, dI) vwCl [(h0, .inr (11, [.ref st, .int (nI oN), .int (nI oB), .ref rp, .int ors, .int orb, .int ohs, .int oca, .int oxs, .int oxb, .ref tp, .int (nI oT), .int ofa, .int obr, .int oba, .int osp, .int (nI ohe), .int otk, .int ova, .ref cu, .ref lt, .ref od, .ref th, .ref be, .ref ln, .int (nI oS), .ref ma, .int (nI oM), .ref ah, .ref bh, .ref ik, .ref la, .ref lg, .ref ce, .int vto])), (tp, .inl (G 0, 320, .inl ftp)), (cu, .inl (G 0, 11, .inl fcu)), (lt, .inl (G 0, 54, .inl flt)), (rp, .inl (G 0, 49, .inl orp)), (st, .inl (G 0, 196, .inl ost)), (ik, .inl (G 2, 2, .inl oik))] t.heap ∧ va_D A [(h0, .inr (11, [.ref st, .int (nI oN), .int (nI oB), .ref rp, .int ors, .int orb, .int ohs, .int oca, .int oxs, .int oxb, .ref tp, .int (nI oT), .int ofa, .int obr, .int oba, .int osp, .int (nI ohe), .int otk, .int ova, .ref cu, .ref lt, .ref od, .ref th, .ref be, .ref ln, .int (nI oS), .ref ma, .int (nI oM), .ref ah, .ref bh, .ref ik, .ref la, .ref lg, .ref ce, .int vto])), (tp, .inl (G 0, 320, .inl ftp)), (cu, .inl (G 0, 11, .inl fcu)), (lt, .inl (G 0, 54, .inl flt)), (rp, .inl (G 0, 49, .inl orp)), (st, .inl (G 0, 196, .inl ost)), (ik, .inl (G 2, 2, .inl oik))]) A) ([.ref h0] : List Value).toArray s 0 0 A) (F0 m 44 ls []) := by
    intro nf
    induction nf with
    | zero => intro j1 h1 h2; exact absurd h1 (by omega)
    | succ nf ih44_3 =>
      intro j1 hn4 hj5 g2 H locs hinv hP hD hS ls hl
      refine lv_iload_n hx hb dX11_text_44 rfl (lv_at hl 0 rfl) ?_
      refine lv_bipush (v := 49) hx hb dX11_text_45 rfl ?_
      refine lv_icmp_ge (tgt := 63) hx hb dX11_text_47 rfl (fun c6 => ?_) (fun c6 => ?_)
      · skip
        have tn1392_ : nIT j1 := fun _ => nI_toInt (by first | omega | (have t := leI c6; omega))
        have n7 : 49 ≤ j1 := by have t := leI c6; rw [show (nI (j1)).toInt = ((j1 : Nat) : Int) from tn1392_ ()] at t; have : (49 : Int32).toInt = 49 := qI_49; omega
        have hrp : OKP g2 := OKP.zero (fun q9 h9 => by rw [hinv]; show (if q9 < j1 then (0 : Int32) else frp q9) = 0; rw [if_pos (by omega)])
        have hz9 : g2 = zpF 49 frp := (by rw [hinv, show j1 = 49 by omega])
        refine lv_aload_n hx hb dX11_text_63 rfl (lv_at hl 2 rfl) ?_
        obtain ⟨hPc, hDc, hFc⟩ := va_sub3 (ws' := [(h0, .inr (11, [.ref st, .int (nI N), .int (nI B), .ref rp, .int 0, .int 0, .int 0, .int 0, .int (-1), .int (-1), .ref tp, .int (nI T), .int vfa, .int 0, .int vba, .int 0, .int (nI nhe), .int vtk, .int vva, .ref cu, .ref lt, .ref od, .ref th, .ref be, .ref ln, .int (nI S), .ref ma, .int (nI M), .ref ah, .ref bh, .ref ik, .ref la, .ref lg, .ref ce, .int vto])), (tp, .inl (G 0, 320, .inl ftp))]) hP hD hS hA [0, 1] (by decide) rfl
        have tn1393_ : nIT nhe := fun _ => nI_toInt (by first | omega | (have t_hj5 := hj5; have t_n7 := n7; omega))
        refine va_callv (va_runV (As := []) (rest := []) ⟨hx, hb, hml, hown, hg⟩ (c_X11_goesOnE l dC dI G _ h0 st N B rp tp T 0 nhe cu lt od th be ln S ma M ah bh ik la lg ce 0 0 0 0 (-1) (-1) vfa 0 vba vtk vva vto ftp hN hB_ hT_ hS0 hM_ (by have t_hj5 := hj5; have t_n7 := n7; have tnb_ := nib7 tn1387_ tn1388_ tn1389_ tn1393_ tn1390_ tn1391_ tn1392_; have tqz_ := qz41_; omega) (by first | omega | (have t_hj5 := hj5; have t_n7 := n7; have tnb_ := nib7 tn1387_ tn1388_ tn1389_ tn1393_ tn1390_ tn1391_ tn1392_; have tqz_ := qz41_; omega)) (by have t_hj5 := hj5; have t_n7 := n7; have tnb_ := nib7 tn1387_ tn1388_ tn1389_ tn1393_ tn1390_ tn1391_ tn1392_; have tqz_ := qz41_; omega) htb) (kwV hg mfX11_goesOn wt_999 ⟨Nat.le_of_ble_eq_true rfl, Nat.le_of_ble_eq_true rfl⟩) (preVW hK hPc hDc (ci := 11) (r := (RX11, TX11, 35)) rfl rfl) rfl rfl hl.1 rfl (lv_room (Nat.le_of_ble_eq_true rfl)) dX11_text_64 ⟨Nat.le_of_ble_eq_true rfl, Nat.le_of_ble_eq_true rfl⟩) hS (fun q _ h => hFc q h) hFc (fun ur8 t H1 locs ht hvm w9 hB hz1 hk1 hS => ?_)
        obtain ⟨u10, u11, u12, u13, u14, u15⟩ := ur8
        obtain ⟨hP1, hD1⟩ := hB
        rw [ht] at hP1
        obtain ⟨hP, hD⟩ := va_join (wr := [(cu, .inl (G 0, 11, .inl fcu)), (lt, .inl (G 0, 54, .inl flt)), (rp, .inl (G 0, 49, .inl g2)), (st, .inl (G 0, 196, .inl fst)), (ik, .inl (G 2, 2, .inl fik))]) (w1 := [(h0, .inr (11, [.ref st, .int (nI N), .int (nI B), .ref rp, .int 0, .int 0, .int 0, .int 0, .int (-1), .int (-1), .ref tp, .int (nI T), .int vfa, .int u10, .int u11, .int (nI u12), .int (nI u13), .int u14, .int u15, .ref cu, .ref lt, .ref od, .ref th, .ref be, .ref ln, .int (nI S), .ref ma, .int (nI M), .ref ah, .ref bh, .ref ik, .ref la, .ref lg, .ref ce, .int vto])), (tp, .inl (G 0, 320, .inl ftp))]) hP hD [0, 1] [2, 3, 4, 5, 6] rfl rfl (by decide) (by decide) hk1 hFc hP1 hD1
        have w9 : 0 ≤ u10.toInt ∧ ((0 : Int32).toInt = 0 ∨ u10.toInt = (0 : Int32).toInt) ∧ 0 ≤ u12 ∧ u12 ≤ T ∧ u13 ≤ u12 ∧ (0 < (0 : Int32).toInt ∨ u14.toInt = 0 ∨ 0 < u12) ∧ (u10, u11, u12, u13, u14, u15) = gOn ftp T (0 : Int32) vba 0 nhe vtk vva := w9
        generalize H1 = H at hP hS ⊢
        have ew9 : gT ftp T (0, vba, 0, nhe, vtk, vva) = (u10, u11, u12, u13, u14, u15) := w9.2.2.2.2.2.2.symm
        have hq0 : (u10, u11, u12, u13, u14, u15) = gOn ftp T 0 vba 0 nhe vtk vva := w9.2.2.2.2.2.2
        have loop67_35 : ∀ (nf : Nat) (k17 : Nat) (k19 : Nat) (y20 : Int32) (y21 : Int32) (y22 : Int32) (y23 : Int32) (k25 : Nat) (k27 : Nat) (y28 : Int32) (y29 : Int32) (y30 : Int32) (y31 : Int32) (g32 : Nat → Int32) (k34 : Nat), (T - k17) < nf → (OKP g32 ∧ (0 ≤ y20.toInt ∧ k17 ≤ T ∧ k19 ≤ k17 ∧ (k25 ≤ 11 ∧ (0 < y20.toInt ∨ k25 ≤ 10)) ∧ k27 ≤ 6) ∧ (k34 ≤ 321 ∧ (0 < y20.toInt ∨ k34 ≤ k17)) ∧ lpS ftp T (400 - k34) ((y20, y21, k17, k19, y22, y23), k25, k27, y28, y29, y30, y31, g32) k34 = lpS ftp T 400 ((u10, u11, u12, u13, u14, u15), 0, 0, 0, 0, (-1), (-1), g2) 0) → ∀ (H : Heap) (locs : List Loc), va_P (dC, dI) vwCl [(cu, .inl (G 0, 11, .inl fcu)), (lt, .inl (G 0, 54, .inl flt)), (rp, .inl (G 0, 49, .inl g32)), (st, .inl (G 0, 196, .inl fst)), (ik, .inl (G 2, 2, .inl fik)), (h0, .inr (11, [.ref st, .int (nI N), .int (nI B), .ref rp, .int (nI k25), .int (nI k27), .int y28, .int y29, .int y30, .int y31, .ref tp, .int (nI T), .int vfa, .int y20, .int y21, .int (nI k17), .int (nI k19), .int y22, .int y23, .ref cu, .ref lt, .ref od, .ref th, .ref be, .ref ln, .int (nI S), .ref ma, .int (nI M), .ref ah, .ref bh, .ref ik, .ref la, .ref lg, .ref ce, .int vto])), (tp, .inl (G 0, 320, .inl ftp))] H → va_D A [(cu, .inl (G 0, 11, .inl fcu)), (lt, .inl (G 0, 54, .inl flt)), (rp, .inl (G 0, 49, .inl g32)), (st, .inl (G 0, 196, .inl fst)), (ik, .inl (G 2, 2, .inl fik)), (h0, .inr (11, [.ref st, .int (nI N), .int (nI B), .ref rp, .int (nI k25), .int (nI k27), .int y28, .int y29, .int y30, .int y31, .ref tp, .int (nI T), .int vfa, .int y20, .int y21, .int (nI k17), .int (nI k19), .int y22, .int y23, .ref cu, .ref lt, .ref od, .ref th, .ref be, .ref ln, .int (nI S), .ref ma, .int (nI M), .ref ah, .ref bh, .ref ik, .ref la, .ref lg, .ref ce, .int vto])), (tp, .inl (G 0, 320, .inl ftp))] → va_S A s.heap H locs → ∀ (ls : Array Slot), lv_has ls 3 [(2, .int (nI j1)), (1, .int (nI k34)), (0, .ref h0)] → W p l e (headSpec (Cond.code yX11_text cX11_text 3 (some .int) :: GT) ({ frames := 5, cells := 0, slots := 0, locals := 114 } : Room)).room s m ([.ref h0] : List Value).toArray below meth c H locs 0 0 (MQ below (va_Qi (fun (r : Int32) (u : Int32 × Int32 × Int32 × Nat × Int32 × Int32 × Int32 × Int32 × Int32 × Int32 × Int32 × Int32 × Int32 × Nat × Nat × Nat × Nat × Nat × (Nat → Int32) × (Nat → Int32) × (Nat → Int32)) => match u with | (obr, oba, osp, ohe, otk, ova, ors, orb, ohs, oca, oxs, oxb, ofa, oT, oN, oB, oS, oM, orp, ost, oik) => (r = (if 0 < (txE (txQ ftp T vba nhe vtk vva frp).1).1.toInt then (-10) - (txE (txQ ftp T vba nhe vtk vva frp).1).2.1 else nI (txQ ftp T vba nhe vtk vva frp).2)) ∧ (OKS ost ∧ (oN ≤ 10 ∧ oB ≤ 6 ∧ (oN = 0 ∨ 0 < oB) ∧ oT = 0 ∧ oS ≤ 8 ∧ oM ≤ 6 ∧ ohe ≤ 320)) ∧ ofa = (txE (txQ ftp T vba nhe vtk vva frp).1).1 ∧ oN = (if 0 < (txE (txQ ftp T vba nhe vtk vva frp).1).1.toInt then N else (txQ ftp T vba nhe vtk vva frp).1.2.1) ∧ oB = (if 0 < (txE (txQ ftp T vba nhe vtk vva frp).1).1.toInt then B else (txQ ftp T vba nhe vtk vva frp).1.2.2.1) ∧ oS = (if 0 < (txE (txQ ftp T vba nhe vtk vva frp).1).1.toInt then S else 0) ∧ oM = (if 0 < (txE (txQ ftp T vba nhe vtk vva frp).1).1.toInt then M else 0) ∧ ost = (if 0 < (txE (txQ ftp T vba nhe vtk vva frp).1).1.toInt then fst else cpF 49 (txQ ftp T vba nhe vtk vva frp).1.2.2.2.2.2.2.2 fst) ∧ oik = (if 0 < (txE (txQ ftp T vba nhe vtk vva frp).1).1.toInt then fik else upd (upd fik 0 0) 1 0)) (fun (u : Int32 × Int32 × Int32 × Nat × Int32 × Int32 × Int32 × Int32 × Int32 × Int32 × Int32 × Int32 × Int32 × Nat × Nat × Nat × Nat × Nat × (Nat → Int32) × (Nat → Int32) × (Nat → Int32)) (t : State) => match u with | (obr, oba, osp, ohe, otk, ova, ors, orb, ohs, oca, oxs, oxb, ofa, oT, oN, oB, oS, oM, orp, ost, oik) => va_P (dC, dI) vwCl [(h0, .inr (11, [.ref st, .int (nI oN), .int (nI oB), .ref rp, .int ors, .int orb, .int ohs, .int oca, .int oxs, .int oxb, .ref tp, .int (nI oT), .int ofa, .int obr, .int oba, .int osp, .int (nI ohe), .int otk, .int ova, .ref cu, .ref lt, .ref od, .ref th, .ref be, .ref ln, .int (nI oS), .ref ma, .int (nI oM), .ref ah, .ref bh, .ref ik, .ref la, .ref lg, .ref ce, .int vto])), (tp, .inl (G 0, 320, .inl ftp)), (cu, .inl (G 0, 11, .inl fcu)), (lt, .inl (G 0, 54, .inl flt)), (rp, .inl (G 0, 49, .inl orp)), (st, .inl (G 0, 196, .inl ost)), (ik, .inl (G 2, 2, .inl oik))] t.heap ∧ va_D A [(h0, .inr (11, [.ref st, .int (nI oN), .int (nI oB), .ref rp, .int ors, .int orb, .int ohs, .int oca, .int oxs, .int oxb, .ref tp, .int (nI oT), .int ofa, .int obr, .int oba, .int osp, .int (nI ohe), .int otk, .int ova, .ref cu, .ref lt, .ref od, .ref th, .ref be, .ref ln, .int (nI oS), .ref ma, .int (nI oM), .ref ah, .ref bh, .ref ik, .ref la, .ref lg, .ref ce, .int vto])), (tp, .inl (G 0, 320, .inl ftp)), (cu, .inl (G 0, 11, .inl fcu)), (lt, .inl (G 0, 54, .inl flt)), (rp, .inl (G 0, 49, .inl orp)), (st, .inl (G 0, 196, .inl ost)), (ik, .inl (G 2, 2, .inl oik))]) A) ([.ref h0] : List Value).toArray s 0 0 A) (F0 m 67 ls []) := by
          intro nf
          induction nf with
          | zero => intro k17 k19 y20 y21 y22 y23 k25 k27 y28 y29 y30 y31 g32 k34 h1; exact absurd h1 (Nat.not_lt_zero _)
          | succ nf ih67_35 =>
            intro k17 k19 y20 y21 y22 y23 k25 k27 y28 y29 y30 y31 g32 k34 hm36 hinw H locs hP hD hS ls hl
            refine lv_aload_n hx hb dX11_text_67 rfl (lv_at hl 2 rfl) ?_
            refine va_get (D := (dC, dI)) (ci := 11) (v := .int y20) (C := RX11) (T := TX11) (N := 35) hx hb hg inG11 hown hK.1 hP 5 rfl rfl 13 (Nat.le_of_ble_eq_true rfl) (hg _ wt_891) (fun _ h9 => h9) rfl dX11_text_68 ?_
            refine lv_if_ne (tgt := 91) hx hb dX11_text_71 rfl (fun c37 => ?_) (fun c37 => ?_)
            · skip
              have tn1394_ : nIT k17 := fun _ => nI_toInt (by first | omega | (have t_hj5 := hj5; have t_n7 := n7; have t_hinw := hinw; have t_c37 := neI c37; have : (0 : Int32).toInt = 0 := qI_0; omega))
              have tn1395_ : nIT k19 := fun _ => nI_toInt (by first | omega | (have t_hj5 := hj5; have t_n7 := n7; have t_hinw := hinw; have t_c37 := neI c37; have : (0 : Int32).toInt = 0 := qI_0; omega))
              have tn1396_ : nIT k25 := fun _ => nI_toInt (by first | omega | (have t_hj5 := hj5; have t_n7 := n7; have t_hinw := hinw; have t_c37 := neI c37; have : (0 : Int32).toInt = 0 := qI_0; omega))
              have tn1397_ : nIT k27 := fun _ => nI_toInt (by first | omega | (have t_hj5 := hj5; have t_n7 := n7; have t_hinw := hinw; have t_c37 := neI c37; have : (0 : Int32).toInt = 0 := qI_0; omega))
              have tn1398_ : nIT k34 := fun _ => nI_toInt (by first | omega | (have t_hj5 := hj5; have t_n7 := n7; have t_hinw := hinw; have t_c37 := neI c37; have : (0 : Int32).toInt = 0 := qI_0; omega))
              have hL : txQ ftp T vba nhe vtk vva frp = (((y20, y21, k17, k19, y22, y23), k25, k27, y28, y29, y30, y31, g32), k34) := (by unfold txQ; rw [← hq0, ← hz9]; refine Eq.trans hinw.2.2.2.symm ?_; first | exact lpS_e0 (by first | with_reducible assumption | assumption) | exact lpS_e1 (by first | with_reducible assumption | assumption) (by first | with_reducible assumption | assumption))
              refine lv_aload_n hx hb dX11_text_91 rfl (lv_at hl 2 rfl) ?_
              refine va_get (D := (dC, dI)) (ci := 11) (v := .int y20) (C := RX11) (T := TX11) (N := 35) hx hb hg inG11 hown hK.1 hP 5 rfl rfl 13 (Nat.le_of_ble_eq_true rfl) (hg _ wt_891) (fun _ h9 => h9) rfl dX11_text_92 ?_
              refine lv_if_ne (tgt := 126) hx hb dX11_text_95 rfl (fun c38 => ?_) (fun c38 => ?_)
              · skip
                refine lv_aload_n hx hb dX11_text_126 rfl (lv_at hl 2 rfl) ?_
                refine va_get (D := (dC, dI)) (ci := 11) (v := .int y20) (C := RX11) (T := TX11) (N := 35) hx hb hg inG11 hown hK.1 hP 5 rfl rfl 13 (Nat.le_of_ble_eq_true rfl) (hg _ wt_891) (fun _ h9 => h9) rfl dX11_text_127 ?_
                refine lv_if_ne (tgt := 153) hx hb dX11_text_130 rfl (fun c39 => ?_) (fun c39 => ?_)
                · skip
                  refine lv_aload_n hx hb dX11_text_153 rfl (lv_at hl 2 rfl) ?_
                  refine lv_iconst (v := 0) hx hb dX11_text_154 rfl ?_
                  refine va_put (D := (dC, dI)) (ci := 11) (v := .int 0) (ty := .int) (C := RX11) (T := TX11) (N := 35) hx hb hg inG11 tyX11 tyX11_ok nmX11 hown hK.1 hP hD hS 5 rfl rfl 11 (Nat.le_of_ble_eq_true rfl) (hg _ wt_889) (fun _ h9 => h9) rfl (by decide +kernel) rfl rfl (Nat.le_of_ble_eq_true rfl) dX11_text_155 (fun H locs hP hD hS => ?_)
                  refine lv_aload_n hx hb dX11_text_158 rfl (lv_at hl 2 rfl) ?_
                  refine lv_aload_n hx hb dX11_text_159 rfl (lv_at hl 2 rfl) ?_
                  refine va_get (D := (dC, dI)) (ci := 11) (v := .int y20) (C := RX11) (T := TX11) (N := 35) hx hb hg inG11 hown hK.1 hP 5 rfl rfl 13 (Nat.le_of_ble_eq_true rfl) (hg _ wt_891) (fun _ h9 => h9) rfl dX11_text_160 ?_
                  refine va_put (D := (dC, dI)) (ci := 11) (v := .int y20) (ty := .int) (C := RX11) (T := TX11) (N := 35) hx hb hg inG11 tyX11 tyX11_ok nmX11 hown hK.1 hP hD hS 5 rfl rfl 12 (Nat.le_of_ble_eq_true rfl) (hg _ wt_890) (fun _ h9 => h9) rfl (by decide +kernel) rfl rfl (Nat.le_of_ble_eq_true rfl) dX11_text_163 (fun H locs hP hD hS => ?_)
                  refine lv_aload_n hx hb dX11_text_166 rfl (lv_at hl 2 rfl) ?_
                  refine va_get (D := (dC, dI)) (ci := 11) (v := .int y20) (C := RX11) (T := TX11) (N := 35) hx hb hg inG11 hown hK.1 hP 5 rfl rfl 13 (Nat.le_of_ble_eq_true rfl) (hg _ wt_891) (fun _ h9 => h9) rfl dX11_text_167 ?_
                  refine lv_if_le (tgt := 181) hx hb dX11_text_170 rfl (fun c40 => ?_) (fun c40 => ?_)
                  · skip
                    have t_hj5 := hj5
                    have t_n7 := n7
                    have t_hinw := hinw
                    have t_c37 := neI c37
                    have t_c38 := neI c38
                    have t_c39 := neI c39
                    have t_c40 := leI c40
                    have : (0 : Int32).toInt = 0 := qI_0
                    have t_n0 : (nI N).toInt = (N : Int) := tn1387_ ()
                    have t_n1 : (nI B).toInt = (B : Int) := tn1388_ ()
                    have t_n2 : (nI T).toInt = (T : Int) := tn1389_ ()
                    have t_n3 : (nI nhe).toInt = (nhe : Int) := tn1393_ ()
                    have t_n4 : (nI S).toInt = (S : Int) := tn1390_ ()
                    have t_n5 : (nI M).toInt = (M : Int) := tn1391_ ()
                    have t_n6 : (nI j1).toInt = (j1 : Int) := tn1392_ ()
                    have t_n7 : (nI k17).toInt = (k17 : Int) := tn1394_ ()
                    have t_n8 : (nI k19).toInt = (k19 : Int) := tn1395_ ()
                    have t_n9 : (nI k25).toInt = (k25 : Int) := tn1396_ ()
                    have t_n10 : (nI k27).toInt = (k27 : Int) := tn1397_ ()
                    have t_n11 : (nI k34).toInt = (k34 : Int) := tn1398_ ()
                    exfalso; omega
                  · skip
                    refine lv_bipush (v := (-10)) hx hb dX11_text_173 rfl ?_
                    refine lv_aload_n hx hb dX11_text_175 rfl (lv_at hl 2 rfl) ?_
                    refine va_get (D := (dC, dI)) (ci := 11) (v := .int y21) (C := RX11) (T := TX11) (N := 35) hx hb hg inG11 hown hK.1 hP 5 rfl rfl 14 (Nat.le_of_ble_eq_true rfl) (hg _ wt_892) (fun _ h9 => h9) rfl dX11_text_176 ?_
                    refine lv_isub hx hb dX11_text_179 ?_
                    have hpost : ((-10) - y21 : Int32) = (if 0 < (txE (txQ ftp T vba nhe vtk vva frp).1).1.toInt then (-10) - (txE (txQ ftp T vba nhe vtk vva frp).1).2.1 else nI (txQ ftp T vba nhe vtk vva frp).2) := by
                      rw [hL]
                      dsimp only
                      have eE : txE ((y20, y21, k17, k19, y22, y23), k25, k27, y28, y29, y30, y31, g32) = (y20, y21, k17, k19, y22, y23) := (by show be7 (be6 (y20, y21, k17, k19, y22, y23) k25 k27 y30 y31) k25 k27 = _; unfold be6; (try (repeat (first | rw [if_pos (by with_reducible assumption)] | rw [if_neg (by with_reducible assumption)] | rw [if_pos (by (have t_hj5 := hj5; have t_n7 := n7; have t_hinw := hinw; have t_c37 := neI c37; have t_c38 := neI c38; have t_c39 := neI c39; have t_c40 := nleI c40; have : (0 : Int32).toInt = 0 := qI_0; have tnb_ := nib12 tn1387_ tn1388_ tn1389_ tn1393_ tn1390_ tn1391_ tn1392_ tn1394_ tn1395_ tn1396_ tn1397_ tn1398_; have tqz_ := qz41_; omega))] | rw [if_neg (by (have t_hj5 := hj5; have t_n7 := n7; have t_hinw := hinw; have t_c37 := neI c37; have t_c38 := neI c38; have t_c39 := neI c39; have t_c40 := nleI c40; have : (0 : Int32).toInt = 0 := qI_0; have tnb_ := nib12 tn1387_ tn1388_ tn1389_ tn1393_ tn1390_ tn1391_ tn1392_ tn1394_ tn1395_ tn1396_ tn1397_ tn1398_; have tqz_ := qz41_; omega))] | rw [if_pos (by decide)] | rw [if_neg (by decide)]))); unfold be7; (try (repeat (first | rw [if_pos (by with_reducible assumption)] | rw [if_neg (by with_reducible assumption)] | rw [if_pos (by (have t_hj5 := hj5; have t_n7 := n7; have t_hinw := hinw; have t_c37 := neI c37; have t_c38 := neI c38; have t_c39 := neI c39; have t_c40 := nleI c40; have : (0 : Int32).toInt = 0 := qI_0; have tnb_ := nib12 tn1387_ tn1388_ tn1389_ tn1393_ tn1390_ tn1391_ tn1392_ tn1394_ tn1395_ tn1396_ tn1397_ tn1398_; have tqz_ := qz41_; omega))] | rw [if_neg (by (have t_hj5 := hj5; have t_n7 := n7; have t_hinw := hinw; have t_c37 := neI c37; have t_c38 := neI c38; have t_c39 := neI c39; have t_c40 := nleI c40; have : (0 : Int32).toInt = 0 := qI_0; have tnb_ := nib12 tn1387_ tn1388_ tn1389_ tn1393_ tn1390_ tn1391_ tn1392_ tn1394_ tn1395_ tn1396_ tn1397_ tn1398_; have tqz_ := qz41_; omega))] | rw [if_pos (by decide)] | rw [if_neg (by decide)]))); all_goals rfl)
                      rw [eE]
                      dsimp only
                      first | rw [if_pos (by (have t_hj5 := hj5; have t_n7 := n7; have t_hinw := hinw; have t_c37 := neI c37; have t_c38 := neI c38; have t_c39 := neI c39; have t_c40 := nleI c40; have : (0 : Int32).toInt = 0 := qI_0; have tnb_ := nib12 tn1387_ tn1388_ tn1389_ tn1393_ tn1390_ tn1391_ tn1392_ tn1394_ tn1395_ tn1396_ tn1397_ tn1398_; have tqz_ := qz41_; omega))] | rw [if_neg (by (have t_hj5 := hj5; have t_n7 := n7; have t_hinw := hinw; have t_c37 := neI c37; have t_c38 := neI c38; have t_c39 := neI c39; have t_c40 := nleI c40; have : (0 : Int32).toInt = 0 := qI_0; have tnb_ := nib12 tn1387_ tn1388_ tn1389_ tn1393_ tn1390_ tn1391_ tn1392_ tn1394_ tn1395_ tn1396_ tn1397_ tn1398_; have tqz_ := qz41_; omega))]
                    obtain ⟨hP9, hD9⟩ := va_sub2 (ws' := [(h0, .inr (11, [.ref st, .int (nI N), .int (nI B), .ref rp, .int (nI k25), .int (nI k27), .int y28, .int y29, .int y30, .int y31, .ref tp, .int 0, .int y20, .int y20, .int y21, .int (nI k17), .int (nI k19), .int y22, .int y23, .ref cu, .ref lt, .ref od, .ref th, .ref be, .ref ln, .int (nI S), .ref ma, .int (nI M), .ref ah, .ref bh, .ref ik, .ref la, .ref lg, .ref ce, .int vto])), (tp, .inl (G 0, 320, .inl ftp)), (cu, .inl (G 0, 11, .inl fcu)), (lt, .inl (G 0, 54, .inl flt)), (rp, .inl (G 0, 49, .inl g32)), (st, .inl (G 0, 196, .inl fst)), (ik, .inl (G 2, 2, .inl fik))]) hP hD [5, 6, 0, 1, 2, 3, 4] (by decide) rfl
                    refine W.widen (k := 0) (n := 0) (Nat.le_of_ble_eq_true rfl) (Nat.le_of_ble_eq_true rfl) ?_
                    exact W.iret (v := (-10) - y21) hx hb hr (fun t ht hW => ⟨⟨(-10) - y21, (y20, y21, (nI k17), k19, y22, y23, (nI k25), (nI k27), y28, y29, y30, y31, y20, 0, N, B, S, M, g32, fst, fik), rfl, ⟨hpost, ⟨⟨hst, (by have t_hj5 := hj5; have t_n7 := n7; have t_hinw := hinw; have t_c37 := neI c37; have t_c38 := neI c38; have t_c39 := neI c39; have t_c40 := nleI c40; have : (0 : Int32).toInt = 0 := qI_0; have tnb_ := nib12 tn1387_ tn1388_ tn1389_ tn1393_ tn1390_ tn1391_ tn1392_ tn1394_ tn1395_ tn1396_ tn1397_ tn1398_; have tqz_ := qz41_; omega)⟩, (by clear hpost; have t_hj5 := hj5; have t_n7 := n7; have t_hinw := hinw; have t_c37 := neI c37; have t_c38 := neI c38; have t_c39 := neI c39; have t_c40 := nleI c40; have : (0 : Int32).toInt = 0 := qI_0; have tnb_ := nib12 tn1387_ tn1388_ tn1389_ tn1393_ tn1390_ tn1391_ tn1392_ tn1394_ tn1395_ tn1396_ tn1397_ tn1398_; have tqz_ := qz41_; rw [hL]; dsimp only; have eE : txE ((y20, y21, k17, k19, y22, y23), k25, k27, y28, y29, y30, y31, g32) = (y20, y21, k17, k19, y22, y23) := (by show be7 (be6 (y20, y21, k17, k19, y22, y23) k25 k27 y30 y31) k25 k27 = _; unfold be6; (try (repeat (first | rw [if_pos (by with_reducible assumption)] | rw [if_neg (by with_reducible assumption)] | rw [if_pos (by omega)] | rw [if_neg (by omega)] | rw [if_pos (by decide)] | rw [if_neg (by decide)]))); unfold be7; (try (repeat (first | rw [if_pos (by with_reducible assumption)] | rw [if_neg (by with_reducible assumption)] | rw [if_pos (by omega)] | rw [if_neg (by omega)] | rw [if_pos (by decide)] | rw [if_neg (by decide)]))); all_goals rfl); rw [eE]; dsimp only; refine ⟨rfl, ?_, ?_, ?_, ?_, ?_, ?_⟩ <;> first | (rw [if_pos (by omega)]; done) | (rw [if_neg (by omega)]; first | done | rfl | exact hcp9))⟩⟩, ⟨by rw [ht]; exact hP9, hD9⟩⟩, hS.F ht⟩) hS.2.2 dX11_text_180
                · skip
                  have t_hj5 := hj5
                  have t_n7 := n7
                  have t_hinw := hinw
                  have t_c37 := neI c37
                  have t_c38 := neI c38
                  have t_c39 := eqI c39
                  have : (0 : Int32).toInt = 0 := qI_0
                  have t_n0 : (nI N).toInt = (N : Int) := tn1387_ ()
                  have t_n1 : (nI B).toInt = (B : Int) := tn1388_ ()
                  have t_n2 : (nI T).toInt = (T : Int) := tn1389_ ()
                  have t_n3 : (nI nhe).toInt = (nhe : Int) := tn1393_ ()
                  have t_n4 : (nI S).toInt = (S : Int) := tn1390_ ()
                  have t_n5 : (nI M).toInt = (M : Int) := tn1391_ ()
                  have t_n6 : (nI j1).toInt = (j1 : Int) := tn1392_ ()
                  have t_n7 : (nI k17).toInt = (k17 : Int) := tn1394_ ()
                  have t_n8 : (nI k19).toInt = (k19 : Int) := tn1395_ ()
                  have t_n9 : (nI k25).toInt = (k25 : Int) := tn1396_ ()
                  have t_n10 : (nI k27).toInt = (k27 : Int) := tn1397_ ()
                  have t_n11 : (nI k34).toInt = (k34 : Int) := tn1398_ ()
                  exfalso; omega
              · skip
                have t_hj5 := hj5
                have t_n7 := n7
                have t_hinw := hinw
                have t_c37 := neI c37
                have t_c38 := eqI c38
                have : (0 : Int32).toInt = 0 := qI_0
                have t_n0 : (nI N).toInt = (N : Int) := tn1387_ ()
                have t_n1 : (nI B).toInt = (B : Int) := tn1388_ ()
                have t_n2 : (nI T).toInt = (T : Int) := tn1389_ ()
                have t_n3 : (nI nhe).toInt = (nhe : Int) := tn1393_ ()
                have t_n4 : (nI S).toInt = (S : Int) := tn1390_ ()
                have t_n5 : (nI M).toInt = (M : Int) := tn1391_ ()
                have t_n6 : (nI j1).toInt = (j1 : Int) := tn1392_ ()
                have t_n7 : (nI k17).toInt = (k17 : Int) := tn1394_ ()
                have t_n8 : (nI k19).toInt = (k19 : Int) := tn1395_ ()
                have t_n9 : (nI k25).toInt = (k25 : Int) := tn1396_ ()
                have t_n10 : (nI k27).toInt = (k27 : Int) := tn1397_ ()
                have t_n11 : (nI k34).toInt = (k34 : Int) := tn1398_ ()
                exfalso; omega
            · skip
              refine lv_aload_n hx hb dX11_text_74 rfl (lv_at hl 2 rfl) ?_
              refine va_get (D := (dC, dI)) (ci := 11) (v := .int y22) (C := RX11) (T := TX11) (N := 35) hx hb hg inG11 hown hK.1 hP 5 rfl rfl 17 (Nat.le_of_ble_eq_true rfl) (hg _ wt_895) (fun _ h9 => h9) rfl dX11_text_75 ?_
              refine lv_if_eq (tgt := 91) hx hb dX11_text_78 rfl (fun c41 => ?_) (fun c41 => ?_)
              · skip
                have tn1399_ : nIT k17 := fun _ => nI_toInt (by first | omega | (have t_hj5 := hj5; have t_n7 := n7; have t_hinw := hinw; have t_c37 := eqI c37; have t_c41 := eqI c41; have : (0 : Int32).toInt = 0 := qI_0; omega))
                have tn1400_ : nIT k19 := fun _ => nI_toInt (by first | omega | (have t_hj5 := hj5; have t_n7 := n7; have t_hinw := hinw; have t_c37 := eqI c37; have t_c41 := eqI c41; have : (0 : Int32).toInt = 0 := qI_0; omega))
                have tn1401_ : nIT k25 := fun _ => nI_toInt (by first | omega | (have t_hj5 := hj5; have t_n7 := n7; have t_hinw := hinw; have t_c37 := eqI c37; have t_c41 := eqI c41; have : (0 : Int32).toInt = 0 := qI_0; omega))
                have tn1402_ : nIT k27 := fun _ => nI_toInt (by first | omega | (have t_hj5 := hj5; have t_n7 := n7; have t_hinw := hinw; have t_c37 := eqI c37; have t_c41 := eqI c41; have : (0 : Int32).toInt = 0 := qI_0; omega))
                have tn1403_ : nIT k34 := fun _ => nI_toInt (by first | omega | (have t_hj5 := hj5; have t_n7 := n7; have t_hinw := hinw; have t_c37 := eqI c37; have t_c41 := eqI c41; have : (0 : Int32).toInt = 0 := qI_0; omega))
                have hL : txQ ftp T vba nhe vtk vva frp = (((y20, y21, k17, k19, y22, y23), k25, k27, y28, y29, y30, y31, g32), k34) := (by unfold txQ; rw [← hq0, ← hz9]; refine Eq.trans hinw.2.2.2.symm ?_; first | exact lpS_e0 (by first | with_reducible assumption | assumption) | exact lpS_e1 (by first | with_reducible assumption | assumption) (by first | with_reducible assumption | assumption))
                refine lv_aload_n hx hb dX11_text_91 rfl (lv_at hl 2 rfl) ?_
                refine va_get (D := (dC, dI)) (ci := 11) (v := .int y20) (C := RX11) (T := TX11) (N := 35) hx hb hg inG11 hown hK.1 hP 5 rfl rfl 13 (Nat.le_of_ble_eq_true rfl) (hg _ wt_891) (fun _ h9 => h9) rfl dX11_text_92 ?_
                refine lv_if_ne (tgt := 126) hx hb dX11_text_95 rfl (fun c42 => ?_) (fun c42 => ?_)
                · skip
                  have t_hj5 := hj5
                  have t_n7 := n7
                  have t_hinw := hinw
                  have t_c37 := eqI c37
                  have t_c41 := eqI c41
                  have t_c42 := neI c42
                  have : (0 : Int32).toInt = 0 := qI_0
                  have t_n0 : (nI N).toInt = (N : Int) := tn1387_ ()
                  have t_n1 : (nI B).toInt = (B : Int) := tn1388_ ()
                  have t_n2 : (nI T).toInt = (T : Int) := tn1389_ ()
                  have t_n3 : (nI nhe).toInt = (nhe : Int) := tn1393_ ()
                  have t_n4 : (nI S).toInt = (S : Int) := tn1390_ ()
                  have t_n5 : (nI M).toInt = (M : Int) := tn1391_ ()
                  have t_n6 : (nI j1).toInt = (j1 : Int) := tn1392_ ()
                  have t_n7 : (nI k17).toInt = (k17 : Int) := tn1399_ ()
                  have t_n8 : (nI k19).toInt = (k19 : Int) := tn1400_ ()
                  have t_n9 : (nI k25).toInt = (k25 : Int) := tn1401_ ()
                  have t_n10 : (nI k27).toInt = (k27 : Int) := tn1402_ ()
                  have t_n11 : (nI k34).toInt = (k34 : Int) := tn1403_ ()
                  exfalso; omega
                · skip
                  refine lv_aload_n hx hb dX11_text_98 rfl (lv_at hl 2 rfl) ?_
                  refine va_get (D := (dC, dI)) (ci := 11) (v := .int y30) (C := RX11) (T := TX11) (N := 35) hx hb hg inG11 hown hK.1 hP 5 rfl rfl 8 (Nat.le_of_ble_eq_true rfl) (hg _ wt_886) (fun _ h9 => h9) rfl dX11_text_99 ?_
                  refine lv_aload_n hx hb dX11_text_102 rfl (lv_at hl 2 rfl) ?_
                  refine va_get (D := (dC, dI)) (ci := 11) (v := .int (nI k25)) (C := RX11) (T := TX11) (N := 35) hx hb hg inG11 hown hK.1 hP 5 rfl rfl 4 (Nat.le_of_ble_eq_true rfl) (hg _ wt_882) (fun _ h9 => h9) rfl dX11_text_103 ?_
                  refine lv_icmp_ge (tgt := 120) hx hb dX11_text_106 rfl (fun c43 => ?_) (fun c43 => ?_)
                  · skip
                    refine lv_aload_n hx hb dX11_text_120 rfl (lv_at hl 2 rfl) ?_
                    refine lv_bipush (v := 6) hx hb dX11_text_121 rfl ?_
                    obtain ⟨hPc, hDc, hFc⟩ := va_sub3 (ws' := [(h0, .inr (11, [.ref st, .int (nI N), .int (nI B), .ref rp, .int (nI k25), .int (nI k27), .int y28, .int y29, .int y30, .int y31, .ref tp, .int (nI T), .int vfa, .int y20, .int y21, .int (nI k17), .int (nI k19), .int y22, .int y23, .ref cu, .ref lt, .ref od, .ref th, .ref be, .ref ln, .int (nI S), .ref ma, .int (nI M), .ref ah, .ref bh, .ref ik, .ref la, .ref lg, .ref ce, .int vto]))]) hP hD hS hA [5] (by decide) rfl
                    refine va_callv (va_runV (As := [.int 6]) (rest := []) ⟨hx, hb, hml, hown, hg⟩ (c_X11_failsE l dC dI G _ h0 st N B rp tp T k19 cu lt od th be ln S ma M ah bh ik la lg ce 6 (nI k25) (nI k27) y28 y29 y30 y31 vfa y20 y21 (nI k17) y22 y23 vto hN hB_ hT_ hS0 hM_ (by have t_hj5 := hj5; have t_n7 := n7; have t_hinw := hinw; have t_c37 := eqI c37; have t_c41 := eqI c41; have t_c42 := eqI c42; have t_c43 := leI c43; have : (0 : Int32).toInt = 0 := qI_0; have tnb_ := nib12 tn1387_ tn1388_ tn1389_ tn1393_ tn1390_ tn1391_ tn1392_ tn1399_ tn1400_ tn1401_ tn1402_ tn1403_; have tqz_ := qz45_; omega) (by have t_hj5 := hj5; have t_n7 := n7; have t_hinw := hinw; have t_c37 := eqI c37; have t_c41 := eqI c41; have t_c42 := eqI c42; have t_c43 := leI c43; have : (0 : Int32).toInt = 0 := qI_0; have tnb_ := nib12 tn1387_ tn1388_ tn1389_ tn1393_ tn1390_ tn1391_ tn1392_ tn1399_ tn1400_ tn1401_ tn1402_ tn1403_; have tqz_ := qz45_; omega) (by first | omega | (have t_hj5 := hj5; have t_n7 := n7; have t_hinw := hinw; have t_c37 := eqI c37; have t_c41 := eqI c41; have t_c42 := eqI c42; have t_c43 := leI c43; have : (0 : Int32).toInt = 0 := qI_0; have tnb_ := nib12 tn1387_ tn1388_ tn1389_ tn1393_ tn1390_ tn1391_ tn1392_ tn1399_ tn1400_ tn1401_ tn1402_ tn1403_; have tqz_ := qz45_; omega))) (kwV hg mfX11_fails wt_1011 ⟨Nat.le_of_ble_eq_true rfl, Nat.le_of_ble_eq_true rfl⟩) (preVW hK hPc hDc (ci := 11) (r := (RX11, TX11, 35)) rfl rfl) rfl rfl hl.1 rfl (lv_room (Nat.le_of_ble_eq_true rfl)) dX11_text_123 ⟨Nat.le_of_ble_eq_true rfl, Nat.le_of_ble_eq_true rfl⟩) hS (fun q _ h => hFc q h) hFc (fun ur44 t H1 locs ht hvm w45 hB hz1 hk1 hS => ?_)
                    obtain ⟨u46, u47⟩ := ur44
                    obtain ⟨hP1, hD1⟩ := hB
                    rw [ht] at hP1
                    obtain ⟨hP, hD⟩ := va_join (wr := [(cu, .inl (G 0, 11, .inl fcu)), (lt, .inl (G 0, 54, .inl flt)), (rp, .inl (G 0, 49, .inl g32)), (st, .inl (G 0, 196, .inl fst)), (ik, .inl (G 2, 2, .inl fik)), (tp, .inl (G 0, 320, .inl ftp))]) (w1 := [(h0, .inr (11, [.ref st, .int (nI N), .int (nI B), .ref rp, .int (nI k25), .int (nI k27), .int y28, .int y29, .int y30, .int y31, .ref tp, .int (nI T), .int vfa, .int u46, .int u47, .int (nI k17), .int (nI k19), .int y22, .int y23, .ref cu, .ref lt, .ref od, .ref th, .ref be, .ref ln, .int (nI S), .ref ma, .int (nI M), .ref ah, .ref bh, .ref ik, .ref la, .ref lg, .ref ce, .int vto]))]) hP hD [5] [0, 1, 2, 3, 4, 6] rfl rfl (by decide) (by decide) hk1 hFc hP1 hD1
                    have w45 : 0 < u46.toInt ∧ u46 = flB (6 : Int32) y20 ∧ u47 = flA y20 y21 k19 := w45
                    generalize H1 = H at hP hS ⊢
                    have ew45 : fT 6 (y20, y21, k17, k19, y22, y23) = (u46, u47, k17, k19, y22, y23) := (by show (flB _ _, flA _ _ _, _, _, _, _) = _; rw [← w45.2.1, ← w45.2.2])
                    refine lv_aload_n hx hb dX11_text_126 rfl (lv_at hl 2 rfl) ?_
                    refine va_get (D := (dC, dI)) (ci := 11) (v := .int u46) (C := RX11) (T := TX11) (N := 35) hx hb hg inG11 hown hK.1 hP 6 rfl rfl 13 (Nat.le_of_ble_eq_true rfl) (hg _ wt_891) (fun _ h9 => h9) rfl dX11_text_127 ?_
                    refine lv_if_ne (tgt := 153) hx hb dX11_text_130 rfl (fun c48 => ?_) (fun c48 => ?_)
                    · skip
                      refine lv_aload_n hx hb dX11_text_153 rfl (lv_at hl 2 rfl) ?_
                      refine lv_iconst (v := 0) hx hb dX11_text_154 rfl ?_
                      refine va_put (D := (dC, dI)) (ci := 11) (v := .int 0) (ty := .int) (C := RX11) (T := TX11) (N := 35) hx hb hg inG11 tyX11 tyX11_ok nmX11 hown hK.1 hP hD hS 6 rfl rfl 11 (Nat.le_of_ble_eq_true rfl) (hg _ wt_889) (fun _ h9 => h9) rfl (by decide +kernel) rfl rfl (Nat.le_of_ble_eq_true rfl) dX11_text_155 (fun H locs hP hD hS => ?_)
                      refine lv_aload_n hx hb dX11_text_158 rfl (lv_at hl 2 rfl) ?_
                      refine lv_aload_n hx hb dX11_text_159 rfl (lv_at hl 2 rfl) ?_
                      refine va_get (D := (dC, dI)) (ci := 11) (v := .int u46) (C := RX11) (T := TX11) (N := 35) hx hb hg inG11 hown hK.1 hP 6 rfl rfl 13 (Nat.le_of_ble_eq_true rfl) (hg _ wt_891) (fun _ h9 => h9) rfl dX11_text_160 ?_
                      refine va_put (D := (dC, dI)) (ci := 11) (v := .int u46) (ty := .int) (C := RX11) (T := TX11) (N := 35) hx hb hg inG11 tyX11 tyX11_ok nmX11 hown hK.1 hP hD hS 6 rfl rfl 12 (Nat.le_of_ble_eq_true rfl) (hg _ wt_890) (fun _ h9 => h9) rfl (by decide +kernel) rfl rfl (Nat.le_of_ble_eq_true rfl) dX11_text_163 (fun H locs hP hD hS => ?_)
                      refine lv_aload_n hx hb dX11_text_166 rfl (lv_at hl 2 rfl) ?_
                      refine va_get (D := (dC, dI)) (ci := 11) (v := .int u46) (C := RX11) (T := TX11) (N := 35) hx hb hg inG11 hown hK.1 hP 6 rfl rfl 13 (Nat.le_of_ble_eq_true rfl) (hg _ wt_891) (fun _ h9 => h9) rfl dX11_text_167 ?_
                      refine lv_if_le (tgt := 181) hx hb dX11_text_170 rfl (fun c49 => ?_) (fun c49 => ?_)
                      · skip
                        have t_hj5 := hj5
                        have t_n7 := n7
                        have t_hinw := hinw
                        have t_c37 := eqI c37
                        have t_c41 := eqI c41
                        have t_c42 := eqI c42
                        have t_c43 := leI c43
                        have t_w45 := w45.1
                        have t_c48 := neI c48
                        have t_c49 := leI c49
                        have : (0 : Int32).toInt = 0 := qI_0
                        have t_n0 : (nI N).toInt = (N : Int) := tn1387_ ()
                        have t_n1 : (nI B).toInt = (B : Int) := tn1388_ ()
                        have t_n2 : (nI T).toInt = (T : Int) := tn1389_ ()
                        have t_n3 : (nI nhe).toInt = (nhe : Int) := tn1393_ ()
                        have t_n4 : (nI S).toInt = (S : Int) := tn1390_ ()
                        have t_n5 : (nI M).toInt = (M : Int) := tn1391_ ()
                        have t_n6 : (nI j1).toInt = (j1 : Int) := tn1392_ ()
                        have t_n7 : (nI k17).toInt = (k17 : Int) := tn1399_ ()
                        have t_n8 : (nI k19).toInt = (k19 : Int) := tn1400_ ()
                        have t_n9 : (nI k25).toInt = (k25 : Int) := tn1401_ ()
                        have t_n10 : (nI k27).toInt = (k27 : Int) := tn1402_ ()
                        have t_n11 : (nI k34).toInt = (k34 : Int) := tn1403_ ()
                        exfalso; omega
                      · skip
                        refine lv_bipush (v := (-10)) hx hb dX11_text_173 rfl ?_
                        refine lv_aload_n hx hb dX11_text_175 rfl (lv_at hl 2 rfl) ?_
                        refine va_get (D := (dC, dI)) (ci := 11) (v := .int u47) (C := RX11) (T := TX11) (N := 35) hx hb hg inG11 hown hK.1 hP 6 rfl rfl 14 (Nat.le_of_ble_eq_true rfl) (hg _ wt_892) (fun _ h9 => h9) rfl dX11_text_176 ?_
                        refine lv_isub hx hb dX11_text_179 ?_
                        have hpost : ((-10) - u47 : Int32) = (if 0 < (txE (txQ ftp T vba nhe vtk vva frp).1).1.toInt then (-10) - (txE (txQ ftp T vba nhe vtk vva frp).1).2.1 else nI (txQ ftp T vba nhe vtk vva frp).2) := by
                          rw [hL]
                          dsimp only
                          have eE : txE ((y20, y21, k17, k19, y22, y23), k25, k27, y28, y29, y30, y31, g32) = (u46, u47, k17, k19, y22, y23) := (by show be7 (be6 (y20, y21, k17, k19, y22, y23) k25 k27 y30 y31) k25 k27 = _; unfold be6; (try (repeat (first | rw [if_pos (by with_reducible assumption)] | rw [if_neg (by with_reducible assumption)] | rw [if_pos (by (have t_hj5 := hj5; have t_n7 := n7; have t_hinw := hinw; have t_c37 := eqI c37; have t_c41 := eqI c41; have t_c42 := eqI c42; have t_c43 := leI c43; have t_w45 := w45.1; have t_c48 := neI c48; have t_c49 := nleI c49; have : (0 : Int32).toInt = 0 := qI_0; have tnb_ := nib12 tn1387_ tn1388_ tn1389_ tn1393_ tn1390_ tn1391_ tn1392_ tn1399_ tn1400_ tn1401_ tn1402_ tn1403_; have tqz_ := qz41_; omega))] | rw [if_neg (by (have t_hj5 := hj5; have t_n7 := n7; have t_hinw := hinw; have t_c37 := eqI c37; have t_c41 := eqI c41; have t_c42 := eqI c42; have t_c43 := leI c43; have t_w45 := w45.1; have t_c48 := neI c48; have t_c49 := nleI c49; have : (0 : Int32).toInt = 0 := qI_0; have tnb_ := nib12 tn1387_ tn1388_ tn1389_ tn1393_ tn1390_ tn1391_ tn1392_ tn1399_ tn1400_ tn1401_ tn1402_ tn1403_; have tqz_ := qz41_; omega))] | rw [if_pos (by decide)] | rw [if_neg (by decide)]))); (try rw [ew45]); unfold be7; (try (repeat (first | rw [if_pos (by with_reducible assumption)] | rw [if_neg (by with_reducible assumption)] | rw [if_pos (by (have t_hj5 := hj5; have t_n7 := n7; have t_hinw := hinw; have t_c37 := eqI c37; have t_c41 := eqI c41; have t_c42 := eqI c42; have t_c43 := leI c43; have t_w45 := w45.1; have t_c48 := neI c48; have t_c49 := nleI c49; have : (0 : Int32).toInt = 0 := qI_0; have tnb_ := nib12 tn1387_ tn1388_ tn1389_ tn1393_ tn1390_ tn1391_ tn1392_ tn1399_ tn1400_ tn1401_ tn1402_ tn1403_; have tqz_ := qz41_; omega))] | rw [if_neg (by (have t_hj5 := hj5; have t_n7 := n7; have t_hinw := hinw; have t_c37 := eqI c37; have t_c41 := eqI c41; have t_c42 := eqI c42; have t_c43 := leI c43; have t_w45 := w45.1; have t_c48 := neI c48; have t_c49 := nleI c49; have : (0 : Int32).toInt = 0 := qI_0; have tnb_ := nib12 tn1387_ tn1388_ tn1389_ tn1393_ tn1390_ tn1391_ tn1392_ tn1399_ tn1400_ tn1401_ tn1402_ tn1403_; have tqz_ := qz41_; omega))] | rw [if_pos (by decide)] | rw [if_neg (by decide)]))); all_goals rfl)
                          rw [eE]
                          dsimp only
                          first | rw [if_pos (by (have t_hj5 := hj5; have t_n7 := n7; have t_hinw := hinw; have t_c37 := eqI c37; have t_c41 := eqI c41; have t_c42 := eqI c42; have t_c43 := leI c43; have t_w45 := w45.1; have t_c48 := neI c48; have t_c49 := nleI c49; have : (0 : Int32).toInt = 0 := qI_0; have tnb_ := nib12 tn1387_ tn1388_ tn1389_ tn1393_ tn1390_ tn1391_ tn1392_ tn1399_ tn1400_ tn1401_ tn1402_ tn1403_; have tqz_ := qz41_; omega))] | rw [if_neg (by (have t_hj5 := hj5; have t_n7 := n7; have t_hinw := hinw; have t_c37 := eqI c37; have t_c41 := eqI c41; have t_c42 := eqI c42; have t_c43 := leI c43; have t_w45 := w45.1; have t_c48 := neI c48; have t_c49 := nleI c49; have : (0 : Int32).toInt = 0 := qI_0; have tnb_ := nib12 tn1387_ tn1388_ tn1389_ tn1393_ tn1390_ tn1391_ tn1392_ tn1399_ tn1400_ tn1401_ tn1402_ tn1403_; have tqz_ := qz41_; omega))]
                        obtain ⟨hP9, hD9⟩ := va_sub2 (ws' := [(h0, .inr (11, [.ref st, .int (nI N), .int (nI B), .ref rp, .int (nI k25), .int (nI k27), .int y28, .int y29, .int y30, .int y31, .ref tp, .int 0, .int u46, .int u46, .int u47, .int (nI k17), .int (nI k19), .int y22, .int y23, .ref cu, .ref lt, .ref od, .ref th, .ref be, .ref ln, .int (nI S), .ref ma, .int (nI M), .ref ah, .ref bh, .ref ik, .ref la, .ref lg, .ref ce, .int vto])), (tp, .inl (G 0, 320, .inl ftp)), (cu, .inl (G 0, 11, .inl fcu)), (lt, .inl (G 0, 54, .inl flt)), (rp, .inl (G 0, 49, .inl g32)), (st, .inl (G 0, 196, .inl fst)), (ik, .inl (G 2, 2, .inl fik))]) hP hD [6, 5, 0, 1, 2, 3, 4] (by decide) rfl
                        refine W.widen (k := 0) (n := 0) (Nat.le_of_ble_eq_true rfl) (Nat.le_of_ble_eq_true rfl) ?_
                        exact W.iret (v := (-10) - u47) hx hb hr (fun t ht hW => ⟨⟨(-10) - u47, (u46, u47, (nI k17), k19, y22, y23, (nI k25), (nI k27), y28, y29, y30, y31, u46, 0, N, B, S, M, g32, fst, fik), rfl, ⟨hpost, ⟨⟨hst, (by have t_hj5 := hj5; have t_n7 := n7; have t_hinw := hinw; have t_c37 := eqI c37; have t_c41 := eqI c41; have t_c42 := eqI c42; have t_c43 := leI c43; have t_w45 := w45.1; have t_c48 := neI c48; have t_c49 := nleI c49; have : (0 : Int32).toInt = 0 := qI_0; have tnb_ := nib12 tn1387_ tn1388_ tn1389_ tn1393_ tn1390_ tn1391_ tn1392_ tn1399_ tn1400_ tn1401_ tn1402_ tn1403_; have tqz_ := qz41_; omega)⟩, (by clear hpost; have t_hj5 := hj5; have t_n7 := n7; have t_hinw := hinw; have t_c37 := eqI c37; have t_c41 := eqI c41; have t_c42 := eqI c42; have t_c43 := leI c43; have t_w45 := w45.1; have t_c48 := neI c48; have t_c49 := nleI c49; have : (0 : Int32).toInt = 0 := qI_0; have tnb_ := nib12 tn1387_ tn1388_ tn1389_ tn1393_ tn1390_ tn1391_ tn1392_ tn1399_ tn1400_ tn1401_ tn1402_ tn1403_; have tqz_ := qz41_; rw [hL]; dsimp only; have eE : txE ((y20, y21, k17, k19, y22, y23), k25, k27, y28, y29, y30, y31, g32) = (u46, u47, k17, k19, y22, y23) := (by show be7 (be6 (y20, y21, k17, k19, y22, y23) k25 k27 y30 y31) k25 k27 = _; unfold be6; (try (repeat (first | rw [if_pos (by with_reducible assumption)] | rw [if_neg (by with_reducible assumption)] | rw [if_pos (by omega)] | rw [if_neg (by omega)] | rw [if_pos (by decide)] | rw [if_neg (by decide)]))); (try rw [ew45]); unfold be7; (try (repeat (first | rw [if_pos (by with_reducible assumption)] | rw [if_neg (by with_reducible assumption)] | rw [if_pos (by omega)] | rw [if_neg (by omega)] | rw [if_pos (by decide)] | rw [if_neg (by decide)]))); all_goals rfl); rw [eE]; dsimp only; refine ⟨rfl, ?_, ?_, ?_, ?_, ?_, ?_⟩ <;> first | (rw [if_pos (by omega)]; done) | (rw [if_neg (by omega)]; first | done | rfl | exact hcp9))⟩⟩, ⟨by rw [ht]; exact hP9, hD9⟩⟩, hS.F ht⟩) hS.2.2 dX11_text_180
                    · skip
                      have t_hj5 := hj5
                      have t_n7 := n7
                      have t_hinw := hinw
                      have t_c37 := eqI c37
                      have t_c41 := eqI c41
                      have t_c42 := eqI c42
                      have t_c43 := leI c43
                      have t_w45 := w45.1
                      have t_c48 := eqI c48
                      have : (0 : Int32).toInt = 0 := qI_0
                      have t_n0 : (nI N).toInt = (N : Int) := tn1387_ ()
                      have t_n1 : (nI B).toInt = (B : Int) := tn1388_ ()
                      have t_n2 : (nI T).toInt = (T : Int) := tn1389_ ()
                      have t_n3 : (nI nhe).toInt = (nhe : Int) := tn1393_ ()
                      have t_n4 : (nI S).toInt = (S : Int) := tn1390_ ()
                      have t_n5 : (nI M).toInt = (M : Int) := tn1391_ ()
                      have t_n6 : (nI j1).toInt = (j1 : Int) := tn1392_ ()
                      have t_n7 : (nI k17).toInt = (k17 : Int) := tn1399_ ()
                      have t_n8 : (nI k19).toInt = (k19 : Int) := tn1400_ ()
                      have t_n9 : (nI k25).toInt = (k25 : Int) := tn1401_ ()
                      have t_n10 : (nI k27).toInt = (k27 : Int) := tn1402_ ()
                      have t_n11 : (nI k34).toInt = (k34 : Int) := tn1403_ ()
                      exfalso; omega
                  · skip
                    refine lv_aload_n hx hb dX11_text_109 rfl (lv_at hl 2 rfl) ?_
                    refine va_get (D := (dC, dI)) (ci := 11) (v := .int y31) (C := RX11) (T := TX11) (N := 35) hx hb hg inG11 hown hK.1 hP 5 rfl rfl 9 (Nat.le_of_ble_eq_true rfl) (hg _ wt_887) (fun _ h9 => h9) rfl dX11_text_110 ?_
                    refine lv_aload_n hx hb dX11_text_113 rfl (lv_at hl 2 rfl) ?_
                    refine va_get (D := (dC, dI)) (ci := 11) (v := .int (nI k27)) (C := RX11) (T := TX11) (N := 35) hx hb hg inG11 hown hK.1 hP 5 rfl rfl 5 (Nat.le_of_ble_eq_true rfl) (hg _ wt_883) (fun _ h9 => h9) rfl dX11_text_114 ?_
                    refine lv_icmp_lt (tgt := 126) hx hb dX11_text_117 rfl (fun c50 => ?_) (fun c50 => ?_)
                    · skip
                      refine lv_aload_n hx hb dX11_text_126 rfl (lv_at hl 2 rfl) ?_
                      refine va_get (D := (dC, dI)) (ci := 11) (v := .int y20) (C := RX11) (T := TX11) (N := 35) hx hb hg inG11 hown hK.1 hP 5 rfl rfl 13 (Nat.le_of_ble_eq_true rfl) (hg _ wt_891) (fun _ h9 => h9) rfl dX11_text_127 ?_
                      refine lv_if_ne (tgt := 153) hx hb dX11_text_130 rfl (fun c51 => ?_) (fun c51 => ?_)
                      · skip
                        have t_hj5 := hj5
                        have t_n7 := n7
                        have t_hinw := hinw
                        have t_c37 := eqI c37
                        have t_c41 := eqI c41
                        have t_c42 := eqI c42
                        have t_c43 := nleI c43
                        have t_c50 := ltI c50
                        have t_c51 := neI c51
                        have : (0 : Int32).toInt = 0 := qI_0
                        have t_n0 : (nI N).toInt = (N : Int) := tn1387_ ()
                        have t_n1 : (nI B).toInt = (B : Int) := tn1388_ ()
                        have t_n2 : (nI T).toInt = (T : Int) := tn1389_ ()
                        have t_n3 : (nI nhe).toInt = (nhe : Int) := tn1393_ ()
                        have t_n4 : (nI S).toInt = (S : Int) := tn1390_ ()
                        have t_n5 : (nI M).toInt = (M : Int) := tn1391_ ()
                        have t_n6 : (nI j1).toInt = (j1 : Int) := tn1392_ ()
                        have t_n7 : (nI k17).toInt = (k17 : Int) := tn1399_ ()
                        have t_n8 : (nI k19).toInt = (k19 : Int) := tn1400_ ()
                        have t_n9 : (nI k25).toInt = (k25 : Int) := tn1401_ ()
                        have t_n10 : (nI k27).toInt = (k27 : Int) := tn1402_ ()
                        have t_n11 : (nI k34).toInt = (k34 : Int) := tn1403_ ()
                        exfalso; omega
                      · skip
                        refine lv_aload_n hx hb dX11_text_133 rfl (lv_at hl 2 rfl) ?_
                        refine va_get (D := (dC, dI)) (ci := 11) (v := .int (nI k25)) (C := RX11) (T := TX11) (N := 35) hx hb hg inG11 hown hK.1 hP 5 rfl rfl 4 (Nat.le_of_ble_eq_true rfl) (hg _ wt_882) (fun _ h9 => h9) rfl dX11_text_134 ?_
                        refine lv_if_le (tgt := 153) hx hb dX11_text_137 rfl (fun c52 => ?_) (fun c52 => ?_)
                        · skip
                          have n53 : k25 ≤ 0 := by have t := leI c52; rw [show (nI (k25)).toInt = ((k25 : Nat) : Int) from tn1401_ ()] at t; have : (0 : Int32).toInt = 0 := qI_0; omega
                          refine lv_aload_n hx hb dX11_text_153 rfl (lv_at hl 2 rfl) ?_
                          refine lv_iconst (v := 0) hx hb dX11_text_154 rfl ?_
                          refine va_put (D := (dC, dI)) (ci := 11) (v := .int 0) (ty := .int) (C := RX11) (T := TX11) (N := 35) hx hb hg inG11 tyX11 tyX11_ok nmX11 hown hK.1 hP hD hS 5 rfl rfl 11 (Nat.le_of_ble_eq_true rfl) (hg _ wt_889) (fun _ h9 => h9) rfl (by decide +kernel) rfl rfl (Nat.le_of_ble_eq_true rfl) dX11_text_155 (fun H locs hP hD hS => ?_)
                          refine lv_aload_n hx hb dX11_text_158 rfl (lv_at hl 2 rfl) ?_
                          refine lv_aload_n hx hb dX11_text_159 rfl (lv_at hl 2 rfl) ?_
                          refine va_get (D := (dC, dI)) (ci := 11) (v := .int y20) (C := RX11) (T := TX11) (N := 35) hx hb hg inG11 hown hK.1 hP 5 rfl rfl 13 (Nat.le_of_ble_eq_true rfl) (hg _ wt_891) (fun _ h9 => h9) rfl dX11_text_160 ?_
                          refine va_put (D := (dC, dI)) (ci := 11) (v := .int y20) (ty := .int) (C := RX11) (T := TX11) (N := 35) hx hb hg inG11 tyX11 tyX11_ok nmX11 hown hK.1 hP hD hS 5 rfl rfl 12 (Nat.le_of_ble_eq_true rfl) (hg _ wt_890) (fun _ h9 => h9) rfl (by decide +kernel) rfl rfl (Nat.le_of_ble_eq_true rfl) dX11_text_163 (fun H locs hP hD hS => ?_)
                          refine lv_aload_n hx hb dX11_text_166 rfl (lv_at hl 2 rfl) ?_
                          refine va_get (D := (dC, dI)) (ci := 11) (v := .int y20) (C := RX11) (T := TX11) (N := 35) hx hb hg inG11 hown hK.1 hP 5 rfl rfl 13 (Nat.le_of_ble_eq_true rfl) (hg _ wt_891) (fun _ h9 => h9) rfl dX11_text_167 ?_
                          refine lv_if_le (tgt := 181) hx hb dX11_text_170 rfl (fun c54 => ?_) (fun c54 => ?_)
                          · skip
                            refine lv_iconst (v := 0) hx hb dX11_text_181 rfl ?_
                            refine lv_istore_n (lv' := [(2, .int 0), (1, .int (nI k34)), (0, .ref h0)]) hx hb dX11_text_182 rfl hl (by decide) rfl (fun ls hl => ?_)
                            have loop183_57 : ∀ (nf j55 : Nat), 49 + 1 ≤ j55 + nf → j55 ≤ 49 → ∀ (g56 : Nat → Int32) (H : Heap) (locs : List Loc), g56 = cpF j55 g32 fst → va_P (dC, dI) vwCl [(cu, .inl (G 0, 11, .inl fcu)), (lt, .inl (G 0, 54, .inl flt)), (rp, .inl (G 0, 49, .inl g32)), (st, .inl (G 0, 196, .inl g56)), (ik, .inl (G 2, 2, .inl fik)), (h0, .inr (11, [.ref st, .int (nI N), .int (nI B), .ref rp, .int (nI k25), .int (nI k27), .int y28, .int y29, .int y30, .int y31, .ref tp, .int 0, .int y20, .int y20, .int y21, .int (nI k17), .int (nI k19), .int y22, .int y23, .ref cu, .ref lt, .ref od, .ref th, .ref be, .ref ln, .int (nI S), .ref ma, .int (nI M), .ref ah, .ref bh, .ref ik, .ref la, .ref lg, .ref ce, .int vto])), (tp, .inl (G 0, 320, .inl ftp))] H → va_D A [(cu, .inl (G 0, 11, .inl fcu)), (lt, .inl (G 0, 54, .inl flt)), (rp, .inl (G 0, 49, .inl g32)), (st, .inl (G 0, 196, .inl g56)), (ik, .inl (G 2, 2, .inl fik)), (h0, .inr (11, [.ref st, .int (nI N), .int (nI B), .ref rp, .int (nI k25), .int (nI k27), .int y28, .int y29, .int y30, .int y31, .ref tp, .int 0, .int y20, .int y20, .int y21, .int (nI k17), .int (nI k19), .int y22, .int y23, .ref cu, .ref lt, .ref od, .ref th, .ref be, .ref ln, .int (nI S), .ref ma, .int (nI M), .ref ah, .ref bh, .ref ik, .ref la, .ref lg, .ref ce, .int vto])), (tp, .inl (G 0, 320, .inl ftp))] → va_S A s.heap H locs → ∀ (ls : Array Slot), lv_has ls 3 [(2, .int (nI j55)), (1, .int (nI k34)), (0, .ref h0)] → W p l e (headSpec (Cond.code yX11_text cX11_text 3 (some .int) :: GT) ({ frames := 5, cells := 0, slots := 0, locals := 114 } : Room)).room s m ([.ref h0] : List Value).toArray below meth c H locs 0 0 (MQ below (va_Qi (fun (r : Int32) (u : Int32 × Int32 × Int32 × Nat × Int32 × Int32 × Int32 × Int32 × Int32 × Int32 × Int32 × Int32 × Int32 × Nat × Nat × Nat × Nat × Nat × (Nat → Int32) × (Nat → Int32) × (Nat → Int32)) => match u with | (obr, oba, osp, ohe, otk, ova, ors, orb, ohs, oca, oxs, oxb, ofa, oT, oN, oB, oS, oM, orp, ost, oik) => (r = (if 0 < (txE (txQ ftp T vba nhe vtk vva frp).1).1.toInt then (-10) - (txE (txQ ftp T vba nhe vtk vva frp).1).2.1 else nI (txQ ftp T vba nhe vtk vva frp).2)) ∧ (OKS ost ∧ (oN ≤ 10 ∧ oB ≤ 6 ∧ (oN = 0 ∨ 0 < oB) ∧ oT = 0 ∧ oS ≤ 8 ∧ oM ≤ 6 ∧ ohe ≤ 320)) ∧ ofa = (txE (txQ ftp T vba nhe vtk vva frp).1).1 ∧ oN = (if 0 < (txE (txQ ftp T vba nhe vtk vva frp).1).1.toInt then N else (txQ ftp T vba nhe vtk vva frp).1.2.1) ∧ oB = (if 0 < (txE (txQ ftp T vba nhe vtk vva frp).1).1.toInt then B else (txQ ftp T vba nhe vtk vva frp).1.2.2.1) ∧ oS = (if 0 < (txE (txQ ftp T vba nhe vtk vva frp).1).1.toInt then S else 0) ∧ oM = (if 0 < (txE (txQ ftp T vba nhe vtk vva frp).1).1.toInt then M else 0) ∧ ost = (if 0 < (txE (txQ ftp T vba nhe vtk vva frp).1).1.toInt then fst else cpF 49 (txQ ftp T vba nhe vtk vva frp).1.2.2.2.2.2.2.2 fst) ∧ oik = (if 0 < (txE (txQ ftp T vba nhe vtk vva frp).1).1.toInt then fik else upd (upd fik 0 0) 1 0)) (fun (u : Int32 × Int32 × Int32 × Nat × Int32 × Int32 × Int32 × Int32 × Int32 × Int32 × Int32 × Int32 × Int32 × Nat × Nat × Nat × Nat × Nat × (Nat → Int32) × (Nat → Int32) × (Nat → Int32)) (t : State) => match u with | (obr, oba, osp, ohe, otk, ova, ors, orb, ohs, oca, oxs, oxb, ofa, oT, oN, oB, oS, oM, orp, ost, oik) => va_P (dC, dI) vwCl [(h0, .inr (11, [.ref st, .int (nI oN), .int (nI oB), .ref rp, .int ors, .int orb, .int ohs, .int oca, .int oxs, .int oxb, .ref tp, .int (nI oT), .int ofa, .int obr, .int oba, .int osp, .int (nI ohe), .int otk, .int ova, .ref cu, .ref lt, .ref od, .ref th, .ref be, .ref ln, .int (nI oS), .ref ma, .int (nI oM), .ref ah, .ref bh, .ref ik, .ref la, .ref lg, .ref ce, .int vto])), (tp, .inl (G 0, 320, .inl ftp)), (cu, .inl (G 0, 11, .inl fcu)), (lt, .inl (G 0, 54, .inl flt)), (rp, .inl (G 0, 49, .inl orp)), (st, .inl (G 0, 196, .inl ost)), (ik, .inl (G 2, 2, .inl oik))] t.heap ∧ va_D A [(h0, .inr (11, [.ref st, .int (nI oN), .int (nI oB), .ref rp, .int ors, .int orb, .int ohs, .int oca, .int oxs, .int oxb, .ref tp, .int (nI oT), .int ofa, .int obr, .int oba, .int osp, .int (nI ohe), .int otk, .int ova, .ref cu, .ref lt, .ref od, .ref th, .ref be, .ref ln, .int (nI oS), .ref ma, .int (nI oM), .ref ah, .ref bh, .ref ik, .ref la, .ref lg, .ref ce, .int vto])), (tp, .inl (G 0, 320, .inl ftp)), (cu, .inl (G 0, 11, .inl fcu)), (lt, .inl (G 0, 54, .inl flt)), (rp, .inl (G 0, 49, .inl orp)), (st, .inl (G 0, 196, .inl ost)), (ik, .inl (G 2, 2, .inl oik))]) A) ([.ref h0] : List Value).toArray s 0 0 A) (F0 m 183 ls []) := by
                              intro nf
                              induction nf with
                              | zero => intro j55 h1 h2; exact absurd h1 (by omega)
                              | succ nf ih183_57 =>
                                intro j55 hn58 hj59 g56 H locs hinv hP hD hS ls hl
                                refine lv_iload_n hx hb dX11_text_183 rfl (lv_at hl 0 rfl) ?_
                                refine lv_bipush (v := 49) hx hb dX11_text_184 rfl ?_
                                refine lv_icmp_ge (tgt := 207) hx hb dX11_text_186 rfl (fun c60 => ?_) (fun c60 => ?_)
                                · skip
                                  have tn1404_ : nIT j55 := fun _ => nI_toInt (by first | omega | (have t := leI c60; omega))
                                  have n61 : 49 ≤ j55 := by have t := leI c60; rw [show (nI (j55)).toInt = ((j55 : Nat) : Int) from tn1404_ ()] at t; have : (49 : Int32).toInt = 49 := qI_49; omega
                                  have hcp9 : g56 = cpF 49 g32 fst := (by rw [hinv, show j55 = 49 by omega])
                                  have hpg9 : OKP g32 := hinw.1
                                  refine lv_aload_n hx hb dX11_text_207 rfl (lv_at hl 2 rfl) ?_
                                  refine lv_aload_n hx hb dX11_text_208 rfl (lv_at hl 2 rfl) ?_
                                  refine va_get (D := (dC, dI)) (ci := 11) (v := .int (nI k25)) (C := RX11) (T := TX11) (N := 35) hx hb hg inG11 hown hK.1 hP 5 rfl rfl 4 (Nat.le_of_ble_eq_true rfl) (hg _ wt_882) (fun _ h9 => h9) rfl dX11_text_209 ?_
                                  refine va_put (D := (dC, dI)) (ci := 11) (v := .int (nI k25)) (ty := .int) (C := RX11) (T := TX11) (N := 35) hx hb hg inG11 tyX11 tyX11_ok nmX11 hown hK.1 hP hD hS 5 rfl rfl 1 (Nat.le_of_ble_eq_true rfl) (hg _ wt_879) (fun _ h9 => h9) rfl (by decide +kernel) rfl rfl (Nat.le_of_ble_eq_true rfl) dX11_text_212 (fun H locs hP hD hS => ?_)
                                  refine lv_aload_n hx hb dX11_text_215 rfl (lv_at hl 2 rfl) ?_
                                  refine lv_aload_n hx hb dX11_text_216 rfl (lv_at hl 2 rfl) ?_
                                  refine va_get (D := (dC, dI)) (ci := 11) (v := .int (nI k27)) (C := RX11) (T := TX11) (N := 35) hx hb hg inG11 hown hK.1 hP 5 rfl rfl 5 (Nat.le_of_ble_eq_true rfl) (hg _ wt_883) (fun _ h9 => h9) rfl dX11_text_217 ?_
                                  refine va_put (D := (dC, dI)) (ci := 11) (v := .int (nI k27)) (ty := .int) (C := RX11) (T := TX11) (N := 35) hx hb hg inG11 tyX11 tyX11_ok nmX11 hown hK.1 hP hD hS 5 rfl rfl 2 (Nat.le_of_ble_eq_true rfl) (hg _ wt_880) (fun _ h9 => h9) rfl (by decide +kernel) rfl rfl (Nat.le_of_ble_eq_true rfl) dX11_text_220 (fun H locs hP hD hS => ?_)
                                  refine lv_aload_n hx hb dX11_text_223 rfl (lv_at hl 2 rfl) ?_
                                  refine lv_iconst (v := 0) hx hb dX11_text_224 rfl ?_
                                  refine va_put (D := (dC, dI)) (ci := 11) (v := .int 0) (ty := .int) (C := RX11) (T := TX11) (N := 35) hx hb hg inG11 tyX11 tyX11_ok nmX11 hown hK.1 hP hD hS 5 rfl rfl 25 (Nat.le_of_ble_eq_true rfl) (hg _ wt_903) (fun _ h9 => h9) rfl (by decide +kernel) rfl rfl (Nat.le_of_ble_eq_true rfl) dX11_text_225 (fun H locs hP hD hS => ?_)
                                  refine lv_aload_n hx hb dX11_text_228 rfl (lv_at hl 2 rfl) ?_
                                  refine lv_iconst (v := 0) hx hb dX11_text_229 rfl ?_
                                  refine va_put (D := (dC, dI)) (ci := 11) (v := .int 0) (ty := .int) (C := RX11) (T := TX11) (N := 35) hx hb hg inG11 tyX11 tyX11_ok nmX11 hown hK.1 hP hD hS 5 rfl rfl 27 (Nat.le_of_ble_eq_true rfl) (hg _ wt_905) (fun _ h9 => h9) rfl (by decide +kernel) rfl rfl (Nat.le_of_ble_eq_true rfl) dX11_text_230 (fun H locs hP hD hS => ?_)
                                  refine lv_aload_n hx hb dX11_text_233 rfl (lv_at hl 2 rfl) ?_
                                  refine va_get (D := (dC, dI)) (ci := 11) (v := .ref ik) (C := RX11) (T := TX11) (N := 35) hx hb hg inG11 hown hK.1 hP 5 rfl rfl 30 (Nat.le_of_ble_eq_true rfl) (hg _ wt_908) (fun _ h9 => h9) rfl dX11_text_234 ?_
                                  refine lv_iconst (v := 0) hx hb dX11_text_237 rfl ?_
                                  refine lv_iconst (v := 0) hx hb dX11_text_238 rfl ?_
                                  refine va_zast hx hb hK.1 hP hD hS 4 2 rfl rfl (vp_in_iff.mpr ⟨by decide, by decide⟩) dX11_text_239 (fun H locs hP hD hS => ?_)
                                  refine lv_aload_n hx hb dX11_text_240 rfl (lv_at hl 2 rfl) ?_
                                  refine va_get (D := (dC, dI)) (ci := 11) (v := .ref ik) (C := RX11) (T := TX11) (N := 35) hx hb hg inG11 hown hK.1 hP 5 rfl rfl 30 (Nat.le_of_ble_eq_true rfl) (hg _ wt_908) (fun _ h9 => h9) rfl dX11_text_241 ?_
                                  refine lv_iconst (v := 1) hx hb dX11_text_244 rfl ?_
                                  refine lv_iconst (v := 0) hx hb dX11_text_245 rfl ?_
                                  refine va_zast hx hb hK.1 hP hD hS 4 2 rfl rfl (vp_in_iff.mpr ⟨by decide, by decide⟩) dX11_text_246 (fun H locs hP hD hS => ?_)
                                  refine lv_iload_n hx hb dX11_text_247 rfl (lv_at hl 1 rfl) ?_
                                  have hpost : (nI k34 : Int32) = (if 0 < (txE (txQ ftp T vba nhe vtk vva frp).1).1.toInt then (-10) - (txE (txQ ftp T vba nhe vtk vva frp).1).2.1 else nI (txQ ftp T vba nhe vtk vva frp).2) := by
                                    rw [hL]
                                    dsimp only
                                    have eE : txE ((y20, y21, k17, k19, y22, y23), k25, k27, y28, y29, y30, y31, g32) = (y20, y21, k17, k19, y22, y23) := (by show be7 (be6 (y20, y21, k17, k19, y22, y23) k25 k27 y30 y31) k25 k27 = _; unfold be6; (try (repeat (first | rw [if_pos (by with_reducible assumption)] | rw [if_neg (by with_reducible assumption)] | rw [if_pos (by (have t_hj5 := hj5; have t_n7 := n7; have t_hinw := hinw; have t_c37 := eqI c37; have t_c41 := eqI c41; have t_c42 := eqI c42; have t_c43 := nleI c43; have t_c50 := ltI c50; have t_c51 := eqI c51; have t_n53 := n53; have t_c54 := leI c54; have t_hj59 := hj59; have t_n61 := n61; have : (0 : Int32).toInt = 0 := qI_0; have tnb_ := nib13 tn1387_ tn1388_ tn1389_ tn1393_ tn1390_ tn1391_ tn1392_ tn1399_ tn1400_ tn1401_ tn1402_ tn1403_ tn1404_; have tqz_ := qz41_; omega))] | rw [if_neg (by (have t_hj5 := hj5; have t_n7 := n7; have t_hinw := hinw; have t_c37 := eqI c37; have t_c41 := eqI c41; have t_c42 := eqI c42; have t_c43 := nleI c43; have t_c50 := ltI c50; have t_c51 := eqI c51; have t_n53 := n53; have t_c54 := leI c54; have t_hj59 := hj59; have t_n61 := n61; have : (0 : Int32).toInt = 0 := qI_0; have tnb_ := nib13 tn1387_ tn1388_ tn1389_ tn1393_ tn1390_ tn1391_ tn1392_ tn1399_ tn1400_ tn1401_ tn1402_ tn1403_ tn1404_; have tqz_ := qz41_; omega))] | rw [if_pos (by decide)] | rw [if_neg (by decide)]))); unfold be7; (try (repeat (first | rw [if_pos (by with_reducible assumption)] | rw [if_neg (by with_reducible assumption)] | rw [if_pos (by (have t_hj5 := hj5; have t_n7 := n7; have t_hinw := hinw; have t_c37 := eqI c37; have t_c41 := eqI c41; have t_c42 := eqI c42; have t_c43 := nleI c43; have t_c50 := ltI c50; have t_c51 := eqI c51; have t_n53 := n53; have t_c54 := leI c54; have t_hj59 := hj59; have t_n61 := n61; have : (0 : Int32).toInt = 0 := qI_0; have tnb_ := nib13 tn1387_ tn1388_ tn1389_ tn1393_ tn1390_ tn1391_ tn1392_ tn1399_ tn1400_ tn1401_ tn1402_ tn1403_ tn1404_; have tqz_ := qz41_; omega))] | rw [if_neg (by (have t_hj5 := hj5; have t_n7 := n7; have t_hinw := hinw; have t_c37 := eqI c37; have t_c41 := eqI c41; have t_c42 := eqI c42; have t_c43 := nleI c43; have t_c50 := ltI c50; have t_c51 := eqI c51; have t_n53 := n53; have t_c54 := leI c54; have t_hj59 := hj59; have t_n61 := n61; have : (0 : Int32).toInt = 0 := qI_0; have tnb_ := nib13 tn1387_ tn1388_ tn1389_ tn1393_ tn1390_ tn1391_ tn1392_ tn1399_ tn1400_ tn1401_ tn1402_ tn1403_ tn1404_; have tqz_ := qz41_; omega))] | rw [if_pos (by decide)] | rw [if_neg (by decide)]))); all_goals rfl)
                                    rw [eE]
                                    dsimp only
                                    first | rw [if_pos (by (have t_hj5 := hj5; have t_n7 := n7; have t_hinw := hinw; have t_c37 := eqI c37; have t_c41 := eqI c41; have t_c42 := eqI c42; have t_c43 := nleI c43; have t_c50 := ltI c50; have t_c51 := eqI c51; have t_n53 := n53; have t_c54 := leI c54; have t_hj59 := hj59; have t_n61 := n61; have : (0 : Int32).toInt = 0 := qI_0; have tnb_ := nib13 tn1387_ tn1388_ tn1389_ tn1393_ tn1390_ tn1391_ tn1392_ tn1399_ tn1400_ tn1401_ tn1402_ tn1403_ tn1404_; have tqz_ := qz41_; omega))] | rw [if_neg (by (have t_hj5 := hj5; have t_n7 := n7; have t_hinw := hinw; have t_c37 := eqI c37; have t_c41 := eqI c41; have t_c42 := eqI c42; have t_c43 := nleI c43; have t_c50 := ltI c50; have t_c51 := eqI c51; have t_n53 := n53; have t_c54 := leI c54; have t_hj59 := hj59; have t_n61 := n61; have : (0 : Int32).toInt = 0 := qI_0; have tnb_ := nib13 tn1387_ tn1388_ tn1389_ tn1393_ tn1390_ tn1391_ tn1392_ tn1399_ tn1400_ tn1401_ tn1402_ tn1403_ tn1404_; have tqz_ := qz41_; omega))]
                                  obtain ⟨hP9, hD9⟩ := va_sub2 (ws' := [(h0, .inr (11, [.ref st, .int (nI k25), .int (nI k27), .ref rp, .int (nI k25), .int (nI k27), .int y28, .int y29, .int y30, .int y31, .ref tp, .int 0, .int y20, .int y20, .int y21, .int (nI k17), .int (nI k19), .int y22, .int y23, .ref cu, .ref lt, .ref od, .ref th, .ref be, .ref ln, .int 0, .ref ma, .int 0, .ref ah, .ref bh, .ref ik, .ref la, .ref lg, .ref ce, .int vto])), (tp, .inl (G 0, 320, .inl ftp)), (cu, .inl (G 0, 11, .inl fcu)), (lt, .inl (G 0, 54, .inl flt)), (rp, .inl (G 0, 49, .inl g32)), (st, .inl (G 0, 196, .inl g56)), (ik, .inl (G 2, 2, .inl (upd (upd fik 0 (vp_nar .boolean 0)) 1 (vp_nar .boolean 0))))]) hP hD [5, 6, 0, 1, 2, 3, 4] (by decide) rfl
                                  refine W.widen (k := 0) (n := 0) (Nat.le_of_ble_eq_true rfl) (Nat.le_of_ble_eq_true rfl) ?_
                                  exact W.iret (v := nI k34) hx hb hr (fun t ht hW => ⟨⟨nI k34, (y20, y21, (nI k17), k19, y22, y23, (nI k25), (nI k27), y28, y29, y30, y31, y20, 0, k25, k27, 0, 0, g32, g56, (upd (upd fik 0 (vp_nar .boolean 0)) 1 (vp_nar .boolean 0))), rfl, ⟨hpost, ⟨⟨(by rw [hcp9]; exact OKS_cp hst hpg9), (by have t_hj5 := hj5; have t_n7 := n7; have t_hinw := hinw; have t_c37 := eqI c37; have t_c41 := eqI c41; have t_c42 := eqI c42; have t_c43 := nleI c43; have t_c50 := ltI c50; have t_c51 := eqI c51; have t_n53 := n53; have t_c54 := leI c54; have t_hj59 := hj59; have t_n61 := n61; have : (0 : Int32).toInt = 0 := qI_0; have tnb_ := nib13 tn1387_ tn1388_ tn1389_ tn1393_ tn1390_ tn1391_ tn1392_ tn1399_ tn1400_ tn1401_ tn1402_ tn1403_ tn1404_; have tqz_ := qz41_; omega)⟩, (by clear hpost; have t_hj5 := hj5; have t_n7 := n7; have t_hinw := hinw; have t_c37 := eqI c37; have t_c41 := eqI c41; have t_c42 := eqI c42; have t_c43 := nleI c43; have t_c50 := ltI c50; have t_c51 := eqI c51; have t_n53 := n53; have t_c54 := leI c54; have t_hj59 := hj59; have t_n61 := n61; have : (0 : Int32).toInt = 0 := qI_0; have tnb_ := nib13 tn1387_ tn1388_ tn1389_ tn1393_ tn1390_ tn1391_ tn1392_ tn1399_ tn1400_ tn1401_ tn1402_ tn1403_ tn1404_; have tqz_ := qz41_; rw [hL]; dsimp only; have eE : txE ((y20, y21, k17, k19, y22, y23), k25, k27, y28, y29, y30, y31, g32) = (y20, y21, k17, k19, y22, y23) := (by show be7 (be6 (y20, y21, k17, k19, y22, y23) k25 k27 y30 y31) k25 k27 = _; unfold be6; (try (repeat (first | rw [if_pos (by with_reducible assumption)] | rw [if_neg (by with_reducible assumption)] | rw [if_pos (by omega)] | rw [if_neg (by omega)] | rw [if_pos (by decide)] | rw [if_neg (by decide)]))); unfold be7; (try (repeat (first | rw [if_pos (by with_reducible assumption)] | rw [if_neg (by with_reducible assumption)] | rw [if_pos (by omega)] | rw [if_neg (by omega)] | rw [if_pos (by decide)] | rw [if_neg (by decide)]))); all_goals rfl); rw [eE]; dsimp only; refine ⟨rfl, ?_, ?_, ?_, ?_, ?_, ?_⟩ <;> first | (rw [if_pos (by omega)]; done) | (rw [if_neg (by omega)]; first | done | rfl | exact hcp9))⟩⟩, ⟨by rw [ht]; exact hP9, hD9⟩⟩, hS.F ht⟩) hS.2.2 dX11_text_248
                                · skip
                                  have tn1405_ : nIT j55 := fun _ => nI_toInt (by first | omega | (have t := nleI c60; omega))
                                  have n62 : j55 < 49 := by have t := nleI c60; rw [show (nI (j55)).toInt = ((j55 : Nat) : Int) from tn1405_ ()] at t; have : (49 : Int32).toInt = 49 := qI_49; omega
                                  refine lv_aload_n hx hb dX11_text_189 rfl (lv_at hl 2 rfl) ?_
                                  refine va_get (D := (dC, dI)) (ci := 11) (v := .ref st) (C := RX11) (T := TX11) (N := 35) hx hb hg inG11 hown hK.1 hP 5 rfl rfl 0 (Nat.le_of_ble_eq_true rfl) (hg _ wt_878) (fun _ h9 => h9) rfl dX11_text_190 ?_
                                  refine lv_iload_n hx hb dX11_text_193 rfl (lv_at hl 0 rfl) ?_
                                  refine lv_aload_n hx hb dX11_text_194 rfl (lv_at hl 2 rfl) ?_
                                  refine va_get (D := (dC, dI)) (ci := 11) (v := .ref rp) (C := RX11) (T := TX11) (N := 35) hx hb hg inG11 hown hK.1 hP 5 rfl rfl 3 (Nat.le_of_ble_eq_true rfl) (hg _ wt_881) (fun _ h9 => h9) rfl dX11_text_195 ?_
                                  refine lv_iload_n hx hb dX11_text_198 rfl (lv_at hl 0 rfl) ?_
                                  refine va_iald hx hb hK.1 hP 2 0 rfl rfl (vp_in_nI (by first | omega | (have t_hj5 := hj5; have t_n7 := n7; have t_hinw := hinw; have t_c37 := eqI c37; have t_c41 := eqI c41; have t_c42 := eqI c42; have t_c43 := nleI c43; have t_c50 := ltI c50; have t_c51 := eqI c51; have t_n53 := n53; have t_c54 := leI c54; have t_hj59 := hj59; have t_n62 := n62; have : (0 : Int32).toInt = 0 := qI_0; have tnb_ := nib13 tn1387_ tn1388_ tn1389_ tn1393_ tn1390_ tn1391_ tn1392_ tn1399_ tn1400_ tn1401_ tn1402_ tn1403_ tn1405_; omega)) (by decide)) dX11_text_199 ?_
                                  refine lv_cg (y := g32 j55) (by rw [nI_clamp (by omega)]) ?_
                                  refine va_iast hx hb hK.1 hP hD hS 3 0 rfl rfl (vp_in_nI (by first | omega | (have t_hj5 := hj5; have t_n7 := n7; have t_hinw := hinw; have t_c37 := eqI c37; have t_c41 := eqI c41; have t_c42 := eqI c42; have t_c43 := nleI c43; have t_c50 := ltI c50; have t_c51 := eqI c51; have t_n53 := n53; have t_c54 := leI c54; have t_hj59 := hj59; have t_n62 := n62; have : (0 : Int32).toInt = 0 := qI_0; have tnb_ := nib13 tn1387_ tn1388_ tn1389_ tn1393_ tn1390_ tn1391_ tn1392_ tn1399_ tn1400_ tn1401_ tn1402_ tn1403_ tn1405_; omega)) (by decide)) dX11_text_200 (fun H locs hP hD hS => ?_)
                                  rw [nI_clamp (by omega)] at hP hD
                                  refine lv_iinc (v := nI (j55 + 1)) (lv' := [(2, .int (nI (j55 + 1))), (1, .int (nI k34)), (0, .ref h0)]) hx hb dX11_text_201 hl (k := 0) rfl (by rw [show Int32.ofInt 1 = nI 1 from by decide]; exact nI_add _ _) (by decide) rfl (fun ls hl => ?_)
                                  refine lv_goto (tgt := 183) hx hb dX11_text_204 rfl ?_
                                  exact ih183_57 (j55 + 1) (by omega) (by omega) (upd g56 j55 (g32 j55)) _ _ (by rw [hinv]; exact cpF_s) hP hD hS ls (lv_sub hl [0, 1, 2] rfl)
                            exact loop183_57 (49 + 1) 0 (by omega) (by omega) fst _ _ cpF_0 hP hD hS ls (lv_sub hl [0, 1, 2] rfl)
                          · skip
                            have t_hj5 := hj5
                            have t_n7 := n7
                            have t_hinw := hinw
                            have t_c37 := eqI c37
                            have t_c41 := eqI c41
                            have t_c42 := eqI c42
                            have t_c43 := nleI c43
                            have t_c50 := ltI c50
                            have t_c51 := eqI c51
                            have t_n53 := n53
                            have t_c54 := nleI c54
                            have : (0 : Int32).toInt = 0 := qI_0
                            have t_n0 : (nI N).toInt = (N : Int) := tn1387_ ()
                            have t_n1 : (nI B).toInt = (B : Int) := tn1388_ ()
                            have t_n2 : (nI T).toInt = (T : Int) := tn1389_ ()
                            have t_n3 : (nI nhe).toInt = (nhe : Int) := tn1393_ ()
                            have t_n4 : (nI S).toInt = (S : Int) := tn1390_ ()
                            have t_n5 : (nI M).toInt = (M : Int) := tn1391_ ()
                            have t_n6 : (nI j1).toInt = (j1 : Int) := tn1392_ ()
                            have t_n7 : (nI k17).toInt = (k17 : Int) := tn1399_ ()
                            have t_n8 : (nI k19).toInt = (k19 : Int) := tn1400_ ()
                            have t_n9 : (nI k25).toInt = (k25 : Int) := tn1401_ ()
                            have t_n10 : (nI k27).toInt = (k27 : Int) := tn1402_ ()
                            have t_n11 : (nI k34).toInt = (k34 : Int) := tn1403_ ()
                            exfalso; omega
                        · skip
                          have n63 : 0 < k25 := by have t := nleI c52; rw [show (nI (k25)).toInt = ((k25 : Nat) : Int) from tn1401_ ()] at t; have : (0 : Int32).toInt = 0 := qI_0; omega
                          refine lv_aload_n hx hb dX11_text_140 rfl (lv_at hl 2 rfl) ?_
                          refine va_get (D := (dC, dI)) (ci := 11) (v := .int (nI k27)) (C := RX11) (T := TX11) (N := 35) hx hb hg inG11 hown hK.1 hP 5 rfl rfl 5 (Nat.le_of_ble_eq_true rfl) (hg _ wt_883) (fun _ h9 => h9) rfl dX11_text_141 ?_
                          refine lv_if_ne (tgt := 153) hx hb dX11_text_144 rfl (fun c64 => ?_) (fun c64 => ?_)
                          · skip
                            have n65 : k27 ≠ 0 := by have t := neI c64; rw [show (nI (k27)).toInt = ((k27 : Nat) : Int) from tn1402_ ()] at t; have : (0 : Int32).toInt = 0 := qI_0; omega
                            refine lv_aload_n hx hb dX11_text_153 rfl (lv_at hl 2 rfl) ?_
                            refine lv_iconst (v := 0) hx hb dX11_text_154 rfl ?_
                            refine va_put (D := (dC, dI)) (ci := 11) (v := .int 0) (ty := .int) (C := RX11) (T := TX11) (N := 35) hx hb hg inG11 tyX11 tyX11_ok nmX11 hown hK.1 hP hD hS 5 rfl rfl 11 (Nat.le_of_ble_eq_true rfl) (hg _ wt_889) (fun _ h9 => h9) rfl (by decide +kernel) rfl rfl (Nat.le_of_ble_eq_true rfl) dX11_text_155 (fun H locs hP hD hS => ?_)
                            refine lv_aload_n hx hb dX11_text_158 rfl (lv_at hl 2 rfl) ?_
                            refine lv_aload_n hx hb dX11_text_159 rfl (lv_at hl 2 rfl) ?_
                            refine va_get (D := (dC, dI)) (ci := 11) (v := .int y20) (C := RX11) (T := TX11) (N := 35) hx hb hg inG11 hown hK.1 hP 5 rfl rfl 13 (Nat.le_of_ble_eq_true rfl) (hg _ wt_891) (fun _ h9 => h9) rfl dX11_text_160 ?_
                            refine va_put (D := (dC, dI)) (ci := 11) (v := .int y20) (ty := .int) (C := RX11) (T := TX11) (N := 35) hx hb hg inG11 tyX11 tyX11_ok nmX11 hown hK.1 hP hD hS 5 rfl rfl 12 (Nat.le_of_ble_eq_true rfl) (hg _ wt_890) (fun _ h9 => h9) rfl (by decide +kernel) rfl rfl (Nat.le_of_ble_eq_true rfl) dX11_text_163 (fun H locs hP hD hS => ?_)
                            refine lv_aload_n hx hb dX11_text_166 rfl (lv_at hl 2 rfl) ?_
                            refine va_get (D := (dC, dI)) (ci := 11) (v := .int y20) (C := RX11) (T := TX11) (N := 35) hx hb hg inG11 hown hK.1 hP 5 rfl rfl 13 (Nat.le_of_ble_eq_true rfl) (hg _ wt_891) (fun _ h9 => h9) rfl dX11_text_167 ?_
                            refine lv_if_le (tgt := 181) hx hb dX11_text_170 rfl (fun c66 => ?_) (fun c66 => ?_)
                            · skip
                              refine lv_iconst (v := 0) hx hb dX11_text_181 rfl ?_
                              refine lv_istore_n (lv' := [(2, .int 0), (1, .int (nI k34)), (0, .ref h0)]) hx hb dX11_text_182 rfl hl (by decide) rfl (fun ls hl => ?_)
                              have loop183_69 : ∀ (nf j67 : Nat), 49 + 1 ≤ j67 + nf → j67 ≤ 49 → ∀ (g68 : Nat → Int32) (H : Heap) (locs : List Loc), g68 = cpF j67 g32 fst → va_P (dC, dI) vwCl [(cu, .inl (G 0, 11, .inl fcu)), (lt, .inl (G 0, 54, .inl flt)), (rp, .inl (G 0, 49, .inl g32)), (st, .inl (G 0, 196, .inl g68)), (ik, .inl (G 2, 2, .inl fik)), (h0, .inr (11, [.ref st, .int (nI N), .int (nI B), .ref rp, .int (nI k25), .int (nI k27), .int y28, .int y29, .int y30, .int y31, .ref tp, .int 0, .int y20, .int y20, .int y21, .int (nI k17), .int (nI k19), .int y22, .int y23, .ref cu, .ref lt, .ref od, .ref th, .ref be, .ref ln, .int (nI S), .ref ma, .int (nI M), .ref ah, .ref bh, .ref ik, .ref la, .ref lg, .ref ce, .int vto])), (tp, .inl (G 0, 320, .inl ftp))] H → va_D A [(cu, .inl (G 0, 11, .inl fcu)), (lt, .inl (G 0, 54, .inl flt)), (rp, .inl (G 0, 49, .inl g32)), (st, .inl (G 0, 196, .inl g68)), (ik, .inl (G 2, 2, .inl fik)), (h0, .inr (11, [.ref st, .int (nI N), .int (nI B), .ref rp, .int (nI k25), .int (nI k27), .int y28, .int y29, .int y30, .int y31, .ref tp, .int 0, .int y20, .int y20, .int y21, .int (nI k17), .int (nI k19), .int y22, .int y23, .ref cu, .ref lt, .ref od, .ref th, .ref be, .ref ln, .int (nI S), .ref ma, .int (nI M), .ref ah, .ref bh, .ref ik, .ref la, .ref lg, .ref ce, .int vto])), (tp, .inl (G 0, 320, .inl ftp))] → va_S A s.heap H locs → ∀ (ls : Array Slot), lv_has ls 3 [(2, .int (nI j67)), (1, .int (nI k34)), (0, .ref h0)] → W p l e (headSpec (Cond.code yX11_text cX11_text 3 (some .int) :: GT) ({ frames := 5, cells := 0, slots := 0, locals := 114 } : Room)).room s m ([.ref h0] : List Value).toArray below meth c H locs 0 0 (MQ below (va_Qi (fun (r : Int32) (u : Int32 × Int32 × Int32 × Nat × Int32 × Int32 × Int32 × Int32 × Int32 × Int32 × Int32 × Int32 × Int32 × Nat × Nat × Nat × Nat × Nat × (Nat → Int32) × (Nat → Int32) × (Nat → Int32)) => match u with | (obr, oba, osp, ohe, otk, ova, ors, orb, ohs, oca, oxs, oxb, ofa, oT, oN, oB, oS, oM, orp, ost, oik) => (r = (if 0 < (txE (txQ ftp T vba nhe vtk vva frp).1).1.toInt then (-10) - (txE (txQ ftp T vba nhe vtk vva frp).1).2.1 else nI (txQ ftp T vba nhe vtk vva frp).2)) ∧ (OKS ost ∧ (oN ≤ 10 ∧ oB ≤ 6 ∧ (oN = 0 ∨ 0 < oB) ∧ oT = 0 ∧ oS ≤ 8 ∧ oM ≤ 6 ∧ ohe ≤ 320)) ∧ ofa = (txE (txQ ftp T vba nhe vtk vva frp).1).1 ∧ oN = (if 0 < (txE (txQ ftp T vba nhe vtk vva frp).1).1.toInt then N else (txQ ftp T vba nhe vtk vva frp).1.2.1) ∧ oB = (if 0 < (txE (txQ ftp T vba nhe vtk vva frp).1).1.toInt then B else (txQ ftp T vba nhe vtk vva frp).1.2.2.1) ∧ oS = (if 0 < (txE (txQ ftp T vba nhe vtk vva frp).1).1.toInt then S else 0) ∧ oM = (if 0 < (txE (txQ ftp T vba nhe vtk vva frp).1).1.toInt then M else 0) ∧ ost = (if 0 < (txE (txQ ftp T vba nhe vtk vva frp).1).1.toInt then fst else cpF 49 (txQ ftp T vba nhe vtk vva frp).1.2.2.2.2.2.2.2 fst) ∧ oik = (if 0 < (txE (txQ ftp T vba nhe vtk vva frp).1).1.toInt then fik else upd (upd fik 0 0) 1 0)) (fun (u : Int32 × Int32 × Int32 × Nat × Int32 × Int32 × Int32 × Int32 × Int32 × Int32 × Int32 × Int32 × Int32 × Nat × Nat × Nat × Nat × Nat × (Nat → Int32) × (Nat → Int32) × (Nat → Int32)) (t : State) => match u with | (obr, oba, osp, ohe, otk, ova, ors, orb, ohs, oca, oxs, oxb, ofa, oT, oN, oB, oS, oM, orp, ost, oik) => va_P (dC, dI) vwCl [(h0, .inr (11, [.ref st, .int (nI oN), .int (nI oB), .ref rp, .int ors, .int orb, .int ohs, .int oca, .int oxs, .int oxb, .ref tp, .int (nI oT), .int ofa, .int obr, .int oba, .int osp, .int (nI ohe), .int otk, .int ova, .ref cu, .ref lt, .ref od, .ref th, .ref be, .ref ln, .int (nI oS), .ref ma, .int (nI oM), .ref ah, .ref bh, .ref ik, .ref la, .ref lg, .ref ce, .int vto])), (tp, .inl (G 0, 320, .inl ftp)), (cu, .inl (G 0, 11, .inl fcu)), (lt, .inl (G 0, 54, .inl flt)), (rp, .inl (G 0, 49, .inl orp)), (st, .inl (G 0, 196, .inl ost)), (ik, .inl (G 2, 2, .inl oik))] t.heap ∧ va_D A [(h0, .inr (11, [.ref st, .int (nI oN), .int (nI oB), .ref rp, .int ors, .int orb, .int ohs, .int oca, .int oxs, .int oxb, .ref tp, .int (nI oT), .int ofa, .int obr, .int oba, .int osp, .int (nI ohe), .int otk, .int ova, .ref cu, .ref lt, .ref od, .ref th, .ref be, .ref ln, .int (nI oS), .ref ma, .int (nI oM), .ref ah, .ref bh, .ref ik, .ref la, .ref lg, .ref ce, .int vto])), (tp, .inl (G 0, 320, .inl ftp)), (cu, .inl (G 0, 11, .inl fcu)), (lt, .inl (G 0, 54, .inl flt)), (rp, .inl (G 0, 49, .inl orp)), (st, .inl (G 0, 196, .inl ost)), (ik, .inl (G 2, 2, .inl oik))]) A) ([.ref h0] : List Value).toArray s 0 0 A) (F0 m 183 ls []) := by
                                intro nf
                                induction nf with
                                | zero => intro j67 h1 h2; exact absurd h1 (by omega)
                                | succ nf ih183_69 =>
                                  intro j67 hn70 hj71 g68 H locs hinv hP hD hS ls hl
                                  refine lv_iload_n hx hb dX11_text_183 rfl (lv_at hl 0 rfl) ?_
                                  refine lv_bipush (v := 49) hx hb dX11_text_184 rfl ?_
                                  refine lv_icmp_ge (tgt := 207) hx hb dX11_text_186 rfl (fun c72 => ?_) (fun c72 => ?_)
                                  · skip
                                    have tn1406_ : nIT j67 := fun _ => nI_toInt (by first | omega | (have t := leI c72; omega))
                                    have n73 : 49 ≤ j67 := by have t := leI c72; rw [show (nI (j67)).toInt = ((j67 : Nat) : Int) from tn1406_ ()] at t; have : (49 : Int32).toInt = 49 := qI_49; omega
                                    have hcp9 : g68 = cpF 49 g32 fst := (by rw [hinv, show j67 = 49 by omega])
                                    have hpg9 : OKP g32 := hinw.1
                                    refine lv_aload_n hx hb dX11_text_207 rfl (lv_at hl 2 rfl) ?_
                                    refine lv_aload_n hx hb dX11_text_208 rfl (lv_at hl 2 rfl) ?_
                                    refine va_get (D := (dC, dI)) (ci := 11) (v := .int (nI k25)) (C := RX11) (T := TX11) (N := 35) hx hb hg inG11 hown hK.1 hP 5 rfl rfl 4 (Nat.le_of_ble_eq_true rfl) (hg _ wt_882) (fun _ h9 => h9) rfl dX11_text_209 ?_
                                    refine va_put (D := (dC, dI)) (ci := 11) (v := .int (nI k25)) (ty := .int) (C := RX11) (T := TX11) (N := 35) hx hb hg inG11 tyX11 tyX11_ok nmX11 hown hK.1 hP hD hS 5 rfl rfl 1 (Nat.le_of_ble_eq_true rfl) (hg _ wt_879) (fun _ h9 => h9) rfl (by decide +kernel) rfl rfl (Nat.le_of_ble_eq_true rfl) dX11_text_212 (fun H locs hP hD hS => ?_)
                                    refine lv_aload_n hx hb dX11_text_215 rfl (lv_at hl 2 rfl) ?_
                                    refine lv_aload_n hx hb dX11_text_216 rfl (lv_at hl 2 rfl) ?_
                                    refine va_get (D := (dC, dI)) (ci := 11) (v := .int (nI k27)) (C := RX11) (T := TX11) (N := 35) hx hb hg inG11 hown hK.1 hP 5 rfl rfl 5 (Nat.le_of_ble_eq_true rfl) (hg _ wt_883) (fun _ h9 => h9) rfl dX11_text_217 ?_
                                    refine va_put (D := (dC, dI)) (ci := 11) (v := .int (nI k27)) (ty := .int) (C := RX11) (T := TX11) (N := 35) hx hb hg inG11 tyX11 tyX11_ok nmX11 hown hK.1 hP hD hS 5 rfl rfl 2 (Nat.le_of_ble_eq_true rfl) (hg _ wt_880) (fun _ h9 => h9) rfl (by decide +kernel) rfl rfl (Nat.le_of_ble_eq_true rfl) dX11_text_220 (fun H locs hP hD hS => ?_)
                                    refine lv_aload_n hx hb dX11_text_223 rfl (lv_at hl 2 rfl) ?_
                                    refine lv_iconst (v := 0) hx hb dX11_text_224 rfl ?_
                                    refine va_put (D := (dC, dI)) (ci := 11) (v := .int 0) (ty := .int) (C := RX11) (T := TX11) (N := 35) hx hb hg inG11 tyX11 tyX11_ok nmX11 hown hK.1 hP hD hS 5 rfl rfl 25 (Nat.le_of_ble_eq_true rfl) (hg _ wt_903) (fun _ h9 => h9) rfl (by decide +kernel) rfl rfl (Nat.le_of_ble_eq_true rfl) dX11_text_225 (fun H locs hP hD hS => ?_)
                                    refine lv_aload_n hx hb dX11_text_228 rfl (lv_at hl 2 rfl) ?_
                                    refine lv_iconst (v := 0) hx hb dX11_text_229 rfl ?_
                                    refine va_put (D := (dC, dI)) (ci := 11) (v := .int 0) (ty := .int) (C := RX11) (T := TX11) (N := 35) hx hb hg inG11 tyX11 tyX11_ok nmX11 hown hK.1 hP hD hS 5 rfl rfl 27 (Nat.le_of_ble_eq_true rfl) (hg _ wt_905) (fun _ h9 => h9) rfl (by decide +kernel) rfl rfl (Nat.le_of_ble_eq_true rfl) dX11_text_230 (fun H locs hP hD hS => ?_)
                                    refine lv_aload_n hx hb dX11_text_233 rfl (lv_at hl 2 rfl) ?_
                                    refine va_get (D := (dC, dI)) (ci := 11) (v := .ref ik) (C := RX11) (T := TX11) (N := 35) hx hb hg inG11 hown hK.1 hP 5 rfl rfl 30 (Nat.le_of_ble_eq_true rfl) (hg _ wt_908) (fun _ h9 => h9) rfl dX11_text_234 ?_
                                    refine lv_iconst (v := 0) hx hb dX11_text_237 rfl ?_
                                    refine lv_iconst (v := 0) hx hb dX11_text_238 rfl ?_
                                    refine va_zast hx hb hK.1 hP hD hS 4 2 rfl rfl (vp_in_iff.mpr ⟨by decide, by decide⟩) dX11_text_239 (fun H locs hP hD hS => ?_)
                                    refine lv_aload_n hx hb dX11_text_240 rfl (lv_at hl 2 rfl) ?_
                                    refine va_get (D := (dC, dI)) (ci := 11) (v := .ref ik) (C := RX11) (T := TX11) (N := 35) hx hb hg inG11 hown hK.1 hP 5 rfl rfl 30 (Nat.le_of_ble_eq_true rfl) (hg _ wt_908) (fun _ h9 => h9) rfl dX11_text_241 ?_
                                    refine lv_iconst (v := 1) hx hb dX11_text_244 rfl ?_
                                    refine lv_iconst (v := 0) hx hb dX11_text_245 rfl ?_
                                    refine va_zast hx hb hK.1 hP hD hS 4 2 rfl rfl (vp_in_iff.mpr ⟨by decide, by decide⟩) dX11_text_246 (fun H locs hP hD hS => ?_)
                                    refine lv_iload_n hx hb dX11_text_247 rfl (lv_at hl 1 rfl) ?_
                                    have hpost : (nI k34 : Int32) = (if 0 < (txE (txQ ftp T vba nhe vtk vva frp).1).1.toInt then (-10) - (txE (txQ ftp T vba nhe vtk vva frp).1).2.1 else nI (txQ ftp T vba nhe vtk vva frp).2) := by
                                      rw [hL]
                                      dsimp only
                                      have eE : txE ((y20, y21, k17, k19, y22, y23), k25, k27, y28, y29, y30, y31, g32) = (y20, y21, k17, k19, y22, y23) := (by show be7 (be6 (y20, y21, k17, k19, y22, y23) k25 k27 y30 y31) k25 k27 = _; unfold be6; (try (repeat (first | rw [if_pos (by with_reducible assumption)] | rw [if_neg (by with_reducible assumption)] | rw [if_pos (by (have t_hj5 := hj5; have t_n7 := n7; have t_hinw := hinw; have t_c37 := eqI c37; have t_c41 := eqI c41; have t_c42 := eqI c42; have t_c43 := nleI c43; have t_c50 := ltI c50; have t_c51 := eqI c51; have t_n63 := n63; have t_n65 := n65; have t_c66 := leI c66; have t_hj71 := hj71; have t_n73 := n73; have : (0 : Int32).toInt = 0 := qI_0; have tnb_ := nib13 tn1387_ tn1388_ tn1389_ tn1393_ tn1390_ tn1391_ tn1392_ tn1399_ tn1400_ tn1401_ tn1402_ tn1403_ tn1406_; have tqz_ := qz41_; omega))] | rw [if_neg (by (have t_hj5 := hj5; have t_n7 := n7; have t_hinw := hinw; have t_c37 := eqI c37; have t_c41 := eqI c41; have t_c42 := eqI c42; have t_c43 := nleI c43; have t_c50 := ltI c50; have t_c51 := eqI c51; have t_n63 := n63; have t_n65 := n65; have t_c66 := leI c66; have t_hj71 := hj71; have t_n73 := n73; have : (0 : Int32).toInt = 0 := qI_0; have tnb_ := nib13 tn1387_ tn1388_ tn1389_ tn1393_ tn1390_ tn1391_ tn1392_ tn1399_ tn1400_ tn1401_ tn1402_ tn1403_ tn1406_; have tqz_ := qz41_; omega))] | rw [if_pos (by decide)] | rw [if_neg (by decide)]))); unfold be7; (try (repeat (first | rw [if_pos (by with_reducible assumption)] | rw [if_neg (by with_reducible assumption)] | rw [if_pos (by (have t_hj5 := hj5; have t_n7 := n7; have t_hinw := hinw; have t_c37 := eqI c37; have t_c41 := eqI c41; have t_c42 := eqI c42; have t_c43 := nleI c43; have t_c50 := ltI c50; have t_c51 := eqI c51; have t_n63 := n63; have t_n65 := n65; have t_c66 := leI c66; have t_hj71 := hj71; have t_n73 := n73; have : (0 : Int32).toInt = 0 := qI_0; have tnb_ := nib13 tn1387_ tn1388_ tn1389_ tn1393_ tn1390_ tn1391_ tn1392_ tn1399_ tn1400_ tn1401_ tn1402_ tn1403_ tn1406_; have tqz_ := qz41_; omega))] | rw [if_neg (by (have t_hj5 := hj5; have t_n7 := n7; have t_hinw := hinw; have t_c37 := eqI c37; have t_c41 := eqI c41; have t_c42 := eqI c42; have t_c43 := nleI c43; have t_c50 := ltI c50; have t_c51 := eqI c51; have t_n63 := n63; have t_n65 := n65; have t_c66 := leI c66; have t_hj71 := hj71; have t_n73 := n73; have : (0 : Int32).toInt = 0 := qI_0; have tnb_ := nib13 tn1387_ tn1388_ tn1389_ tn1393_ tn1390_ tn1391_ tn1392_ tn1399_ tn1400_ tn1401_ tn1402_ tn1403_ tn1406_; have tqz_ := qz41_; omega))] | rw [if_pos (by decide)] | rw [if_neg (by decide)]))); all_goals rfl)
                                      rw [eE]
                                      dsimp only
                                      first | rw [if_pos (by (have t_hj5 := hj5; have t_n7 := n7; have t_hinw := hinw; have t_c37 := eqI c37; have t_c41 := eqI c41; have t_c42 := eqI c42; have t_c43 := nleI c43; have t_c50 := ltI c50; have t_c51 := eqI c51; have t_n63 := n63; have t_n65 := n65; have t_c66 := leI c66; have t_hj71 := hj71; have t_n73 := n73; have : (0 : Int32).toInt = 0 := qI_0; have tnb_ := nib13 tn1387_ tn1388_ tn1389_ tn1393_ tn1390_ tn1391_ tn1392_ tn1399_ tn1400_ tn1401_ tn1402_ tn1403_ tn1406_; have tqz_ := qz41_; omega))] | rw [if_neg (by (have t_hj5 := hj5; have t_n7 := n7; have t_hinw := hinw; have t_c37 := eqI c37; have t_c41 := eqI c41; have t_c42 := eqI c42; have t_c43 := nleI c43; have t_c50 := ltI c50; have t_c51 := eqI c51; have t_n63 := n63; have t_n65 := n65; have t_c66 := leI c66; have t_hj71 := hj71; have t_n73 := n73; have : (0 : Int32).toInt = 0 := qI_0; have tnb_ := nib13 tn1387_ tn1388_ tn1389_ tn1393_ tn1390_ tn1391_ tn1392_ tn1399_ tn1400_ tn1401_ tn1402_ tn1403_ tn1406_; have tqz_ := qz41_; omega))]
                                    obtain ⟨hP9, hD9⟩ := va_sub2 (ws' := [(h0, .inr (11, [.ref st, .int (nI k25), .int (nI k27), .ref rp, .int (nI k25), .int (nI k27), .int y28, .int y29, .int y30, .int y31, .ref tp, .int 0, .int y20, .int y20, .int y21, .int (nI k17), .int (nI k19), .int y22, .int y23, .ref cu, .ref lt, .ref od, .ref th, .ref be, .ref ln, .int 0, .ref ma, .int 0, .ref ah, .ref bh, .ref ik, .ref la, .ref lg, .ref ce, .int vto])), (tp, .inl (G 0, 320, .inl ftp)), (cu, .inl (G 0, 11, .inl fcu)), (lt, .inl (G 0, 54, .inl flt)), (rp, .inl (G 0, 49, .inl g32)), (st, .inl (G 0, 196, .inl g68)), (ik, .inl (G 2, 2, .inl (upd (upd fik 0 (vp_nar .boolean 0)) 1 (vp_nar .boolean 0))))]) hP hD [5, 6, 0, 1, 2, 3, 4] (by decide) rfl
                                    refine W.widen (k := 0) (n := 0) (Nat.le_of_ble_eq_true rfl) (Nat.le_of_ble_eq_true rfl) ?_
                                    exact W.iret (v := nI k34) hx hb hr (fun t ht hW => ⟨⟨nI k34, (y20, y21, (nI k17), k19, y22, y23, (nI k25), (nI k27), y28, y29, y30, y31, y20, 0, k25, k27, 0, 0, g32, g68, (upd (upd fik 0 (vp_nar .boolean 0)) 1 (vp_nar .boolean 0))), rfl, ⟨hpost, ⟨⟨(by rw [hcp9]; exact OKS_cp hst hpg9), (by have t_hj5 := hj5; have t_n7 := n7; have t_hinw := hinw; have t_c37 := eqI c37; have t_c41 := eqI c41; have t_c42 := eqI c42; have t_c43 := nleI c43; have t_c50 := ltI c50; have t_c51 := eqI c51; have t_n63 := n63; have t_n65 := n65; have t_c66 := leI c66; have t_hj71 := hj71; have t_n73 := n73; have : (0 : Int32).toInt = 0 := qI_0; have tnb_ := nib13 tn1387_ tn1388_ tn1389_ tn1393_ tn1390_ tn1391_ tn1392_ tn1399_ tn1400_ tn1401_ tn1402_ tn1403_ tn1406_; have tqz_ := qz41_; omega)⟩, (by clear hpost; have t_hj5 := hj5; have t_n7 := n7; have t_hinw := hinw; have t_c37 := eqI c37; have t_c41 := eqI c41; have t_c42 := eqI c42; have t_c43 := nleI c43; have t_c50 := ltI c50; have t_c51 := eqI c51; have t_n63 := n63; have t_n65 := n65; have t_c66 := leI c66; have t_hj71 := hj71; have t_n73 := n73; have : (0 : Int32).toInt = 0 := qI_0; have tnb_ := nib13 tn1387_ tn1388_ tn1389_ tn1393_ tn1390_ tn1391_ tn1392_ tn1399_ tn1400_ tn1401_ tn1402_ tn1403_ tn1406_; have tqz_ := qz41_; rw [hL]; dsimp only; have eE : txE ((y20, y21, k17, k19, y22, y23), k25, k27, y28, y29, y30, y31, g32) = (y20, y21, k17, k19, y22, y23) := (by show be7 (be6 (y20, y21, k17, k19, y22, y23) k25 k27 y30 y31) k25 k27 = _; unfold be6; (try (repeat (first | rw [if_pos (by with_reducible assumption)] | rw [if_neg (by with_reducible assumption)] | rw [if_pos (by omega)] | rw [if_neg (by omega)] | rw [if_pos (by decide)] | rw [if_neg (by decide)]))); unfold be7; (try (repeat (first | rw [if_pos (by with_reducible assumption)] | rw [if_neg (by with_reducible assumption)] | rw [if_pos (by omega)] | rw [if_neg (by omega)] | rw [if_pos (by decide)] | rw [if_neg (by decide)]))); all_goals rfl); rw [eE]; dsimp only; refine ⟨rfl, ?_, ?_, ?_, ?_, ?_, ?_⟩ <;> first | (rw [if_pos (by omega)]; done) | (rw [if_neg (by omega)]; first | done | rfl | exact hcp9))⟩⟩, ⟨by rw [ht]; exact hP9, hD9⟩⟩, hS.F ht⟩) hS.2.2 dX11_text_248
                                  · skip
                                    have tn1407_ : nIT j67 := fun _ => nI_toInt (by first | omega | (have t := nleI c72; omega))
                                    have n74 : j67 < 49 := by have t := nleI c72; rw [show (nI (j67)).toInt = ((j67 : Nat) : Int) from tn1407_ ()] at t; have : (49 : Int32).toInt = 49 := qI_49; omega
                                    refine lv_aload_n hx hb dX11_text_189 rfl (lv_at hl 2 rfl) ?_
                                    refine va_get (D := (dC, dI)) (ci := 11) (v := .ref st) (C := RX11) (T := TX11) (N := 35) hx hb hg inG11 hown hK.1 hP 5 rfl rfl 0 (Nat.le_of_ble_eq_true rfl) (hg _ wt_878) (fun _ h9 => h9) rfl dX11_text_190 ?_
                                    refine lv_iload_n hx hb dX11_text_193 rfl (lv_at hl 0 rfl) ?_
                                    refine lv_aload_n hx hb dX11_text_194 rfl (lv_at hl 2 rfl) ?_
                                    refine va_get (D := (dC, dI)) (ci := 11) (v := .ref rp) (C := RX11) (T := TX11) (N := 35) hx hb hg inG11 hown hK.1 hP 5 rfl rfl 3 (Nat.le_of_ble_eq_true rfl) (hg _ wt_881) (fun _ h9 => h9) rfl dX11_text_195 ?_
                                    refine lv_iload_n hx hb dX11_text_198 rfl (lv_at hl 0 rfl) ?_
                                    refine va_iald hx hb hK.1 hP 2 0 rfl rfl (vp_in_nI (by first | omega | (have t_hj5 := hj5; have t_n7 := n7; have t_hinw := hinw; have t_c37 := eqI c37; have t_c41 := eqI c41; have t_c42 := eqI c42; have t_c43 := nleI c43; have t_c50 := ltI c50; have t_c51 := eqI c51; have t_n63 := n63; have t_n65 := n65; have t_c66 := leI c66; have t_hj71 := hj71; have t_n74 := n74; have : (0 : Int32).toInt = 0 := qI_0; have tnb_ := nib13 tn1387_ tn1388_ tn1389_ tn1393_ tn1390_ tn1391_ tn1392_ tn1399_ tn1400_ tn1401_ tn1402_ tn1403_ tn1407_; omega)) (by decide)) dX11_text_199 ?_
                                    refine lv_cg (y := g32 j67) (by rw [nI_clamp (by omega)]) ?_
                                    refine va_iast hx hb hK.1 hP hD hS 3 0 rfl rfl (vp_in_nI (by first | omega | (have t_hj5 := hj5; have t_n7 := n7; have t_hinw := hinw; have t_c37 := eqI c37; have t_c41 := eqI c41; have t_c42 := eqI c42; have t_c43 := nleI c43; have t_c50 := ltI c50; have t_c51 := eqI c51; have t_n63 := n63; have t_n65 := n65; have t_c66 := leI c66; have t_hj71 := hj71; have t_n74 := n74; have : (0 : Int32).toInt = 0 := qI_0; have tnb_ := nib13 tn1387_ tn1388_ tn1389_ tn1393_ tn1390_ tn1391_ tn1392_ tn1399_ tn1400_ tn1401_ tn1402_ tn1403_ tn1407_; omega)) (by decide)) dX11_text_200 (fun H locs hP hD hS => ?_)
                                    rw [nI_clamp (by omega)] at hP hD
                                    refine lv_iinc (v := nI (j67 + 1)) (lv' := [(2, .int (nI (j67 + 1))), (1, .int (nI k34)), (0, .ref h0)]) hx hb dX11_text_201 hl (k := 0) rfl (by rw [show Int32.ofInt 1 = nI 1 from by decide]; exact nI_add _ _) (by decide) rfl (fun ls hl => ?_)
                                    refine lv_goto (tgt := 183) hx hb dX11_text_204 rfl ?_
                                    exact ih183_69 (j67 + 1) (by omega) (by omega) (upd g68 j67 (g32 j67)) _ _ (by rw [hinv]; exact cpF_s) hP hD hS ls (lv_sub hl [0, 1, 2] rfl)
                              exact loop183_69 (49 + 1) 0 (by omega) (by omega) fst _ _ cpF_0 hP hD hS ls (lv_sub hl [0, 1, 2] rfl)
                            · skip
                              have t_hj5 := hj5
                              have t_n7 := n7
                              have t_hinw := hinw
                              have t_c37 := eqI c37
                              have t_c41 := eqI c41
                              have t_c42 := eqI c42
                              have t_c43 := nleI c43
                              have t_c50 := ltI c50
                              have t_c51 := eqI c51
                              have t_n63 := n63
                              have t_n65 := n65
                              have t_c66 := nleI c66
                              have : (0 : Int32).toInt = 0 := qI_0
                              have t_n0 : (nI N).toInt = (N : Int) := tn1387_ ()
                              have t_n1 : (nI B).toInt = (B : Int) := tn1388_ ()
                              have t_n2 : (nI T).toInt = (T : Int) := tn1389_ ()
                              have t_n3 : (nI nhe).toInt = (nhe : Int) := tn1393_ ()
                              have t_n4 : (nI S).toInt = (S : Int) := tn1390_ ()
                              have t_n5 : (nI M).toInt = (M : Int) := tn1391_ ()
                              have t_n6 : (nI j1).toInt = (j1 : Int) := tn1392_ ()
                              have t_n7 : (nI k17).toInt = (k17 : Int) := tn1399_ ()
                              have t_n8 : (nI k19).toInt = (k19 : Int) := tn1400_ ()
                              have t_n9 : (nI k25).toInt = (k25 : Int) := tn1401_ ()
                              have t_n10 : (nI k27).toInt = (k27 : Int) := tn1402_ ()
                              have t_n11 : (nI k34).toInt = (k34 : Int) := tn1403_ ()
                              exfalso; omega
                          · skip
                            have n75 : k27 = 0 := by have t := eqI c64; rw [show (nI (k27)).toInt = ((k27 : Nat) : Int) from tn1402_ ()] at t; have : (0 : Int32).toInt = 0 := qI_0; omega
                            refine lv_aload_n hx hb dX11_text_147 rfl (lv_at hl 2 rfl) ?_
                            refine lv_bipush (v := 7) hx hb dX11_text_148 rfl ?_
                            obtain ⟨hPc, hDc, hFc⟩ := va_sub3 (ws' := [(h0, .inr (11, [.ref st, .int (nI N), .int (nI B), .ref rp, .int (nI k25), .int (nI k27), .int y28, .int y29, .int y30, .int y31, .ref tp, .int (nI T), .int vfa, .int y20, .int y21, .int (nI k17), .int (nI k19), .int y22, .int y23, .ref cu, .ref lt, .ref od, .ref th, .ref be, .ref ln, .int (nI S), .ref ma, .int (nI M), .ref ah, .ref bh, .ref ik, .ref la, .ref lg, .ref ce, .int vto]))]) hP hD hS hA [5] (by decide) rfl
                            refine va_callv (va_runV (As := [.int 7]) (rest := []) ⟨hx, hb, hml, hown, hg⟩ (c_X11_failsE l dC dI G _ h0 st N B rp tp T k19 cu lt od th be ln S ma M ah bh ik la lg ce 7 (nI k25) (nI k27) y28 y29 y30 y31 vfa y20 y21 (nI k17) y22 y23 vto hN hB_ hT_ hS0 hM_ (by have t_hj5 := hj5; have t_n7 := n7; have t_hinw := hinw; have t_c37 := eqI c37; have t_c41 := eqI c41; have t_c42 := eqI c42; have t_c43 := nleI c43; have t_c50 := ltI c50; have t_c51 := eqI c51; have t_n63 := n63; have t_n75 := n75; have : (0 : Int32).toInt = 0 := qI_0; have tnb_ := nib12 tn1387_ tn1388_ tn1389_ tn1393_ tn1390_ tn1391_ tn1392_ tn1399_ tn1400_ tn1401_ tn1402_ tn1403_; have tqz_ := qz45_; omega) (by have t_hj5 := hj5; have t_n7 := n7; have t_hinw := hinw; have t_c37 := eqI c37; have t_c41 := eqI c41; have t_c42 := eqI c42; have t_c43 := nleI c43; have t_c50 := ltI c50; have t_c51 := eqI c51; have t_n63 := n63; have t_n75 := n75; have : (0 : Int32).toInt = 0 := qI_0; have tnb_ := nib12 tn1387_ tn1388_ tn1389_ tn1393_ tn1390_ tn1391_ tn1392_ tn1399_ tn1400_ tn1401_ tn1402_ tn1403_; have tqz_ := qz45_; omega) (by first | omega | (have t_hj5 := hj5; have t_n7 := n7; have t_hinw := hinw; have t_c37 := eqI c37; have t_c41 := eqI c41; have t_c42 := eqI c42; have t_c43 := nleI c43; have t_c50 := ltI c50; have t_c51 := eqI c51; have t_n63 := n63; have t_n75 := n75; have : (0 : Int32).toInt = 0 := qI_0; have tnb_ := nib12 tn1387_ tn1388_ tn1389_ tn1393_ tn1390_ tn1391_ tn1392_ tn1399_ tn1400_ tn1401_ tn1402_ tn1403_; have tqz_ := qz45_; omega))) (kwV hg mfX11_fails wt_1011 ⟨Nat.le_of_ble_eq_true rfl, Nat.le_of_ble_eq_true rfl⟩) (preVW hK hPc hDc (ci := 11) (r := (RX11, TX11, 35)) rfl rfl) rfl rfl hl.1 rfl (lv_room (Nat.le_of_ble_eq_true rfl)) dX11_text_150 ⟨Nat.le_of_ble_eq_true rfl, Nat.le_of_ble_eq_true rfl⟩) hS (fun q _ h => hFc q h) hFc (fun ur76 t H1 locs ht hvm w77 hB hz1 hk1 hS => ?_)
                            obtain ⟨u78, u79⟩ := ur76
                            obtain ⟨hP1, hD1⟩ := hB
                            rw [ht] at hP1
                            obtain ⟨hP, hD⟩ := va_join (wr := [(cu, .inl (G 0, 11, .inl fcu)), (lt, .inl (G 0, 54, .inl flt)), (rp, .inl (G 0, 49, .inl g32)), (st, .inl (G 0, 196, .inl fst)), (ik, .inl (G 2, 2, .inl fik)), (tp, .inl (G 0, 320, .inl ftp))]) (w1 := [(h0, .inr (11, [.ref st, .int (nI N), .int (nI B), .ref rp, .int (nI k25), .int (nI k27), .int y28, .int y29, .int y30, .int y31, .ref tp, .int (nI T), .int vfa, .int u78, .int u79, .int (nI k17), .int (nI k19), .int y22, .int y23, .ref cu, .ref lt, .ref od, .ref th, .ref be, .ref ln, .int (nI S), .ref ma, .int (nI M), .ref ah, .ref bh, .ref ik, .ref la, .ref lg, .ref ce, .int vto]))]) hP hD [5] [0, 1, 2, 3, 4, 6] rfl rfl (by decide) (by decide) hk1 hFc hP1 hD1
                            have w77 : 0 < u78.toInt ∧ u78 = flB (7 : Int32) y20 ∧ u79 = flA y20 y21 k19 := w77
                            generalize H1 = H at hP hS ⊢
                            have ew77 : fT 7 (y20, y21, k17, k19, y22, y23) = (u78, u79, k17, k19, y22, y23) := (by show (flB _ _, flA _ _ _, _, _, _, _) = _; rw [← w77.2.1, ← w77.2.2])
                            refine lv_aload_n hx hb dX11_text_153 rfl (lv_at hl 2 rfl) ?_
                            refine lv_iconst (v := 0) hx hb dX11_text_154 rfl ?_
                            refine va_put (D := (dC, dI)) (ci := 11) (v := .int 0) (ty := .int) (C := RX11) (T := TX11) (N := 35) hx hb hg inG11 tyX11 tyX11_ok nmX11 hown hK.1 hP hD hS 6 rfl rfl 11 (Nat.le_of_ble_eq_true rfl) (hg _ wt_889) (fun _ h9 => h9) rfl (by decide +kernel) rfl rfl (Nat.le_of_ble_eq_true rfl) dX11_text_155 (fun H locs hP hD hS => ?_)
                            refine lv_aload_n hx hb dX11_text_158 rfl (lv_at hl 2 rfl) ?_
                            refine lv_aload_n hx hb dX11_text_159 rfl (lv_at hl 2 rfl) ?_
                            refine va_get (D := (dC, dI)) (ci := 11) (v := .int u78) (C := RX11) (T := TX11) (N := 35) hx hb hg inG11 hown hK.1 hP 6 rfl rfl 13 (Nat.le_of_ble_eq_true rfl) (hg _ wt_891) (fun _ h9 => h9) rfl dX11_text_160 ?_
                            refine va_put (D := (dC, dI)) (ci := 11) (v := .int u78) (ty := .int) (C := RX11) (T := TX11) (N := 35) hx hb hg inG11 tyX11 tyX11_ok nmX11 hown hK.1 hP hD hS 6 rfl rfl 12 (Nat.le_of_ble_eq_true rfl) (hg _ wt_890) (fun _ h9 => h9) rfl (by decide +kernel) rfl rfl (Nat.le_of_ble_eq_true rfl) dX11_text_163 (fun H locs hP hD hS => ?_)
                            refine lv_aload_n hx hb dX11_text_166 rfl (lv_at hl 2 rfl) ?_
                            refine va_get (D := (dC, dI)) (ci := 11) (v := .int u78) (C := RX11) (T := TX11) (N := 35) hx hb hg inG11 hown hK.1 hP 6 rfl rfl 13 (Nat.le_of_ble_eq_true rfl) (hg _ wt_891) (fun _ h9 => h9) rfl dX11_text_167 ?_
                            refine lv_if_le (tgt := 181) hx hb dX11_text_170 rfl (fun c80 => ?_) (fun c80 => ?_)
                            · skip
                              have t_hj5 := hj5
                              have t_n7 := n7
                              have t_hinw := hinw
                              have t_c37 := eqI c37
                              have t_c41 := eqI c41
                              have t_c42 := eqI c42
                              have t_c43 := nleI c43
                              have t_c50 := ltI c50
                              have t_c51 := eqI c51
                              have t_n63 := n63
                              have t_n75 := n75
                              have t_w77 := w77.1
                              have t_c80 := leI c80
                              have : (0 : Int32).toInt = 0 := qI_0
                              have t_n0 : (nI N).toInt = (N : Int) := tn1387_ ()
                              have t_n1 : (nI B).toInt = (B : Int) := tn1388_ ()
                              have t_n2 : (nI T).toInt = (T : Int) := tn1389_ ()
                              have t_n3 : (nI nhe).toInt = (nhe : Int) := tn1393_ ()
                              have t_n4 : (nI S).toInt = (S : Int) := tn1390_ ()
                              have t_n5 : (nI M).toInt = (M : Int) := tn1391_ ()
                              have t_n6 : (nI j1).toInt = (j1 : Int) := tn1392_ ()
                              have t_n7 : (nI k17).toInt = (k17 : Int) := tn1399_ ()
                              have t_n8 : (nI k19).toInt = (k19 : Int) := tn1400_ ()
                              have t_n9 : (nI k25).toInt = (k25 : Int) := tn1401_ ()
                              have t_n10 : (nI k27).toInt = (k27 : Int) := tn1402_ ()
                              have t_n11 : (nI k34).toInt = (k34 : Int) := tn1403_ ()
                              exfalso; omega
                            · skip
                              refine lv_bipush (v := (-10)) hx hb dX11_text_173 rfl ?_
                              refine lv_aload_n hx hb dX11_text_175 rfl (lv_at hl 2 rfl) ?_
                              refine va_get (D := (dC, dI)) (ci := 11) (v := .int u79) (C := RX11) (T := TX11) (N := 35) hx hb hg inG11 hown hK.1 hP 6 rfl rfl 14 (Nat.le_of_ble_eq_true rfl) (hg _ wt_892) (fun _ h9 => h9) rfl dX11_text_176 ?_
                              refine lv_isub hx hb dX11_text_179 ?_
                              have hpost : ((-10) - u79 : Int32) = (if 0 < (txE (txQ ftp T vba nhe vtk vva frp).1).1.toInt then (-10) - (txE (txQ ftp T vba nhe vtk vva frp).1).2.1 else nI (txQ ftp T vba nhe vtk vva frp).2) := by
                                rw [hL]
                                dsimp only
                                have eE : txE ((y20, y21, k17, k19, y22, y23), k25, k27, y28, y29, y30, y31, g32) = (u78, u79, k17, k19, y22, y23) := (by show be7 (be6 (y20, y21, k17, k19, y22, y23) k25 k27 y30 y31) k25 k27 = _; unfold be6; (try (repeat (first | rw [if_pos (by with_reducible assumption)] | rw [if_neg (by with_reducible assumption)] | rw [if_pos (by (have t_hj5 := hj5; have t_n7 := n7; have t_hinw := hinw; have t_c37 := eqI c37; have t_c41 := eqI c41; have t_c42 := eqI c42; have t_c43 := nleI c43; have t_c50 := ltI c50; have t_c51 := eqI c51; have t_n63 := n63; have t_n75 := n75; have t_w77 := w77.1; have t_c80 := nleI c80; have : (0 : Int32).toInt = 0 := qI_0; have tnb_ := nib12 tn1387_ tn1388_ tn1389_ tn1393_ tn1390_ tn1391_ tn1392_ tn1399_ tn1400_ tn1401_ tn1402_ tn1403_; have tqz_ := qz41_; omega))] | rw [if_neg (by (have t_hj5 := hj5; have t_n7 := n7; have t_hinw := hinw; have t_c37 := eqI c37; have t_c41 := eqI c41; have t_c42 := eqI c42; have t_c43 := nleI c43; have t_c50 := ltI c50; have t_c51 := eqI c51; have t_n63 := n63; have t_n75 := n75; have t_w77 := w77.1; have t_c80 := nleI c80; have : (0 : Int32).toInt = 0 := qI_0; have tnb_ := nib12 tn1387_ tn1388_ tn1389_ tn1393_ tn1390_ tn1391_ tn1392_ tn1399_ tn1400_ tn1401_ tn1402_ tn1403_; have tqz_ := qz41_; omega))] | rw [if_pos (by decide)] | rw [if_neg (by decide)]))); unfold be7; (try (repeat (first | rw [if_pos (by with_reducible assumption)] | rw [if_neg (by with_reducible assumption)] | rw [if_pos (by (have t_hj5 := hj5; have t_n7 := n7; have t_hinw := hinw; have t_c37 := eqI c37; have t_c41 := eqI c41; have t_c42 := eqI c42; have t_c43 := nleI c43; have t_c50 := ltI c50; have t_c51 := eqI c51; have t_n63 := n63; have t_n75 := n75; have t_w77 := w77.1; have t_c80 := nleI c80; have : (0 : Int32).toInt = 0 := qI_0; have tnb_ := nib12 tn1387_ tn1388_ tn1389_ tn1393_ tn1390_ tn1391_ tn1392_ tn1399_ tn1400_ tn1401_ tn1402_ tn1403_; have tqz_ := qz41_; omega))] | rw [if_neg (by (have t_hj5 := hj5; have t_n7 := n7; have t_hinw := hinw; have t_c37 := eqI c37; have t_c41 := eqI c41; have t_c42 := eqI c42; have t_c43 := nleI c43; have t_c50 := ltI c50; have t_c51 := eqI c51; have t_n63 := n63; have t_n75 := n75; have t_w77 := w77.1; have t_c80 := nleI c80; have : (0 : Int32).toInt = 0 := qI_0; have tnb_ := nib12 tn1387_ tn1388_ tn1389_ tn1393_ tn1390_ tn1391_ tn1392_ tn1399_ tn1400_ tn1401_ tn1402_ tn1403_; have tqz_ := qz41_; omega))] | rw [if_pos (by decide)] | rw [if_neg (by decide)]))); (try rw [ew77]); all_goals rfl)
                                rw [eE]
                                dsimp only
                                first | rw [if_pos (by (have t_hj5 := hj5; have t_n7 := n7; have t_hinw := hinw; have t_c37 := eqI c37; have t_c41 := eqI c41; have t_c42 := eqI c42; have t_c43 := nleI c43; have t_c50 := ltI c50; have t_c51 := eqI c51; have t_n63 := n63; have t_n75 := n75; have t_w77 := w77.1; have t_c80 := nleI c80; have : (0 : Int32).toInt = 0 := qI_0; have tnb_ := nib12 tn1387_ tn1388_ tn1389_ tn1393_ tn1390_ tn1391_ tn1392_ tn1399_ tn1400_ tn1401_ tn1402_ tn1403_; have tqz_ := qz41_; omega))] | rw [if_neg (by (have t_hj5 := hj5; have t_n7 := n7; have t_hinw := hinw; have t_c37 := eqI c37; have t_c41 := eqI c41; have t_c42 := eqI c42; have t_c43 := nleI c43; have t_c50 := ltI c50; have t_c51 := eqI c51; have t_n63 := n63; have t_n75 := n75; have t_w77 := w77.1; have t_c80 := nleI c80; have : (0 : Int32).toInt = 0 := qI_0; have tnb_ := nib12 tn1387_ tn1388_ tn1389_ tn1393_ tn1390_ tn1391_ tn1392_ tn1399_ tn1400_ tn1401_ tn1402_ tn1403_; have tqz_ := qz41_; omega))]
                              obtain ⟨hP9, hD9⟩ := va_sub2 (ws' := [(h0, .inr (11, [.ref st, .int (nI N), .int (nI B), .ref rp, .int (nI k25), .int (nI k27), .int y28, .int y29, .int y30, .int y31, .ref tp, .int 0, .int u78, .int u78, .int u79, .int (nI k17), .int (nI k19), .int y22, .int y23, .ref cu, .ref lt, .ref od, .ref th, .ref be, .ref ln, .int (nI S), .ref ma, .int (nI M), .ref ah, .ref bh, .ref ik, .ref la, .ref lg, .ref ce, .int vto])), (tp, .inl (G 0, 320, .inl ftp)), (cu, .inl (G 0, 11, .inl fcu)), (lt, .inl (G 0, 54, .inl flt)), (rp, .inl (G 0, 49, .inl g32)), (st, .inl (G 0, 196, .inl fst)), (ik, .inl (G 2, 2, .inl fik))]) hP hD [6, 5, 0, 1, 2, 3, 4] (by decide) rfl
                              refine W.widen (k := 0) (n := 0) (Nat.le_of_ble_eq_true rfl) (Nat.le_of_ble_eq_true rfl) ?_
                              exact W.iret (v := (-10) - u79) hx hb hr (fun t ht hW => ⟨⟨(-10) - u79, (u78, u79, (nI k17), k19, y22, y23, (nI k25), (nI k27), y28, y29, y30, y31, u78, 0, N, B, S, M, g32, fst, fik), rfl, ⟨hpost, ⟨⟨hst, (by have t_hj5 := hj5; have t_n7 := n7; have t_hinw := hinw; have t_c37 := eqI c37; have t_c41 := eqI c41; have t_c42 := eqI c42; have t_c43 := nleI c43; have t_c50 := ltI c50; have t_c51 := eqI c51; have t_n63 := n63; have t_n75 := n75; have t_w77 := w77.1; have t_c80 := nleI c80; have : (0 : Int32).toInt = 0 := qI_0; have tnb_ := nib12 tn1387_ tn1388_ tn1389_ tn1393_ tn1390_ tn1391_ tn1392_ tn1399_ tn1400_ tn1401_ tn1402_ tn1403_; have tqz_ := qz41_; omega)⟩, (by clear hpost; have t_hj5 := hj5; have t_n7 := n7; have t_hinw := hinw; have t_c37 := eqI c37; have t_c41 := eqI c41; have t_c42 := eqI c42; have t_c43 := nleI c43; have t_c50 := ltI c50; have t_c51 := eqI c51; have t_n63 := n63; have t_n75 := n75; have t_w77 := w77.1; have t_c80 := nleI c80; have : (0 : Int32).toInt = 0 := qI_0; have tnb_ := nib12 tn1387_ tn1388_ tn1389_ tn1393_ tn1390_ tn1391_ tn1392_ tn1399_ tn1400_ tn1401_ tn1402_ tn1403_; have tqz_ := qz41_; rw [hL]; dsimp only; have eE : txE ((y20, y21, k17, k19, y22, y23), k25, k27, y28, y29, y30, y31, g32) = (u78, u79, k17, k19, y22, y23) := (by show be7 (be6 (y20, y21, k17, k19, y22, y23) k25 k27 y30 y31) k25 k27 = _; unfold be6; (try (repeat (first | rw [if_pos (by with_reducible assumption)] | rw [if_neg (by with_reducible assumption)] | rw [if_pos (by omega)] | rw [if_neg (by omega)] | rw [if_pos (by decide)] | rw [if_neg (by decide)]))); unfold be7; (try (repeat (first | rw [if_pos (by with_reducible assumption)] | rw [if_neg (by with_reducible assumption)] | rw [if_pos (by omega)] | rw [if_neg (by omega)] | rw [if_pos (by decide)] | rw [if_neg (by decide)]))); (try rw [ew77]); all_goals rfl); rw [eE]; dsimp only; refine ⟨rfl, ?_, ?_, ?_, ?_, ?_, ?_⟩ <;> first | (rw [if_pos (by omega)]; done) | (rw [if_neg (by omega)]; first | done | rfl | exact hcp9))⟩⟩, ⟨by rw [ht]; exact hP9, hD9⟩⟩, hS.F ht⟩) hS.2.2 dX11_text_180
                    · skip
                      refine lv_aload_n hx hb dX11_text_120 rfl (lv_at hl 2 rfl) ?_
                      refine lv_bipush (v := 6) hx hb dX11_text_121 rfl ?_
                      obtain ⟨hPc, hDc, hFc⟩ := va_sub3 (ws' := [(h0, .inr (11, [.ref st, .int (nI N), .int (nI B), .ref rp, .int (nI k25), .int (nI k27), .int y28, .int y29, .int y30, .int y31, .ref tp, .int (nI T), .int vfa, .int y20, .int y21, .int (nI k17), .int (nI k19), .int y22, .int y23, .ref cu, .ref lt, .ref od, .ref th, .ref be, .ref ln, .int (nI S), .ref ma, .int (nI M), .ref ah, .ref bh, .ref ik, .ref la, .ref lg, .ref ce, .int vto]))]) hP hD hS hA [5] (by decide) rfl
                      refine va_callv (va_runV (As := [.int 6]) (rest := []) ⟨hx, hb, hml, hown, hg⟩ (c_X11_failsE l dC dI G _ h0 st N B rp tp T k19 cu lt od th be ln S ma M ah bh ik la lg ce 6 (nI k25) (nI k27) y28 y29 y30 y31 vfa y20 y21 (nI k17) y22 y23 vto hN hB_ hT_ hS0 hM_ (by have t_hj5 := hj5; have t_n7 := n7; have t_hinw := hinw; have t_c37 := eqI c37; have t_c41 := eqI c41; have t_c42 := eqI c42; have t_c43 := nleI c43; have t_c50 := nltI c50; have : (0 : Int32).toInt = 0 := qI_0; have tnb_ := nib12 tn1387_ tn1388_ tn1389_ tn1393_ tn1390_ tn1391_ tn1392_ tn1399_ tn1400_ tn1401_ tn1402_ tn1403_; have tqz_ := qz45_; omega) (by have t_hj5 := hj5; have t_n7 := n7; have t_hinw := hinw; have t_c37 := eqI c37; have t_c41 := eqI c41; have t_c42 := eqI c42; have t_c43 := nleI c43; have t_c50 := nltI c50; have : (0 : Int32).toInt = 0 := qI_0; have tnb_ := nib12 tn1387_ tn1388_ tn1389_ tn1393_ tn1390_ tn1391_ tn1392_ tn1399_ tn1400_ tn1401_ tn1402_ tn1403_; have tqz_ := qz45_; omega) (by first | omega | (have t_hj5 := hj5; have t_n7 := n7; have t_hinw := hinw; have t_c37 := eqI c37; have t_c41 := eqI c41; have t_c42 := eqI c42; have t_c43 := nleI c43; have t_c50 := nltI c50; have : (0 : Int32).toInt = 0 := qI_0; have tnb_ := nib12 tn1387_ tn1388_ tn1389_ tn1393_ tn1390_ tn1391_ tn1392_ tn1399_ tn1400_ tn1401_ tn1402_ tn1403_; have tqz_ := qz45_; omega))) (kwV hg mfX11_fails wt_1011 ⟨Nat.le_of_ble_eq_true rfl, Nat.le_of_ble_eq_true rfl⟩) (preVW hK hPc hDc (ci := 11) (r := (RX11, TX11, 35)) rfl rfl) rfl rfl hl.1 rfl (lv_room (Nat.le_of_ble_eq_true rfl)) dX11_text_123 ⟨Nat.le_of_ble_eq_true rfl, Nat.le_of_ble_eq_true rfl⟩) hS (fun q _ h => hFc q h) hFc (fun ur81 t H1 locs ht hvm w82 hB hz1 hk1 hS => ?_)
                      obtain ⟨u83, u84⟩ := ur81
                      obtain ⟨hP1, hD1⟩ := hB
                      rw [ht] at hP1
                      obtain ⟨hP, hD⟩ := va_join (wr := [(cu, .inl (G 0, 11, .inl fcu)), (lt, .inl (G 0, 54, .inl flt)), (rp, .inl (G 0, 49, .inl g32)), (st, .inl (G 0, 196, .inl fst)), (ik, .inl (G 2, 2, .inl fik)), (tp, .inl (G 0, 320, .inl ftp))]) (w1 := [(h0, .inr (11, [.ref st, .int (nI N), .int (nI B), .ref rp, .int (nI k25), .int (nI k27), .int y28, .int y29, .int y30, .int y31, .ref tp, .int (nI T), .int vfa, .int u83, .int u84, .int (nI k17), .int (nI k19), .int y22, .int y23, .ref cu, .ref lt, .ref od, .ref th, .ref be, .ref ln, .int (nI S), .ref ma, .int (nI M), .ref ah, .ref bh, .ref ik, .ref la, .ref lg, .ref ce, .int vto]))]) hP hD [5] [0, 1, 2, 3, 4, 6] rfl rfl (by decide) (by decide) hk1 hFc hP1 hD1
                      have w82 : 0 < u83.toInt ∧ u83 = flB (6 : Int32) y20 ∧ u84 = flA y20 y21 k19 := w82
                      generalize H1 = H at hP hS ⊢
                      have ew82 : fT 6 (y20, y21, k17, k19, y22, y23) = (u83, u84, k17, k19, y22, y23) := (by show (flB _ _, flA _ _ _, _, _, _, _) = _; rw [← w82.2.1, ← w82.2.2])
                      refine lv_aload_n hx hb dX11_text_126 rfl (lv_at hl 2 rfl) ?_
                      refine va_get (D := (dC, dI)) (ci := 11) (v := .int u83) (C := RX11) (T := TX11) (N := 35) hx hb hg inG11 hown hK.1 hP 6 rfl rfl 13 (Nat.le_of_ble_eq_true rfl) (hg _ wt_891) (fun _ h9 => h9) rfl dX11_text_127 ?_
                      refine lv_if_ne (tgt := 153) hx hb dX11_text_130 rfl (fun c85 => ?_) (fun c85 => ?_)
                      · skip
                        refine lv_aload_n hx hb dX11_text_153 rfl (lv_at hl 2 rfl) ?_
                        refine lv_iconst (v := 0) hx hb dX11_text_154 rfl ?_
                        refine va_put (D := (dC, dI)) (ci := 11) (v := .int 0) (ty := .int) (C := RX11) (T := TX11) (N := 35) hx hb hg inG11 tyX11 tyX11_ok nmX11 hown hK.1 hP hD hS 6 rfl rfl 11 (Nat.le_of_ble_eq_true rfl) (hg _ wt_889) (fun _ h9 => h9) rfl (by decide +kernel) rfl rfl (Nat.le_of_ble_eq_true rfl) dX11_text_155 (fun H locs hP hD hS => ?_)
                        refine lv_aload_n hx hb dX11_text_158 rfl (lv_at hl 2 rfl) ?_
                        refine lv_aload_n hx hb dX11_text_159 rfl (lv_at hl 2 rfl) ?_
                        refine va_get (D := (dC, dI)) (ci := 11) (v := .int u83) (C := RX11) (T := TX11) (N := 35) hx hb hg inG11 hown hK.1 hP 6 rfl rfl 13 (Nat.le_of_ble_eq_true rfl) (hg _ wt_891) (fun _ h9 => h9) rfl dX11_text_160 ?_
                        refine va_put (D := (dC, dI)) (ci := 11) (v := .int u83) (ty := .int) (C := RX11) (T := TX11) (N := 35) hx hb hg inG11 tyX11 tyX11_ok nmX11 hown hK.1 hP hD hS 6 rfl rfl 12 (Nat.le_of_ble_eq_true rfl) (hg _ wt_890) (fun _ h9 => h9) rfl (by decide +kernel) rfl rfl (Nat.le_of_ble_eq_true rfl) dX11_text_163 (fun H locs hP hD hS => ?_)
                        refine lv_aload_n hx hb dX11_text_166 rfl (lv_at hl 2 rfl) ?_
                        refine va_get (D := (dC, dI)) (ci := 11) (v := .int u83) (C := RX11) (T := TX11) (N := 35) hx hb hg inG11 hown hK.1 hP 6 rfl rfl 13 (Nat.le_of_ble_eq_true rfl) (hg _ wt_891) (fun _ h9 => h9) rfl dX11_text_167 ?_
                        refine lv_if_le (tgt := 181) hx hb dX11_text_170 rfl (fun c86 => ?_) (fun c86 => ?_)
                        · skip
                          have t_hj5 := hj5
                          have t_n7 := n7
                          have t_hinw := hinw
                          have t_c37 := eqI c37
                          have t_c41 := eqI c41
                          have t_c42 := eqI c42
                          have t_c43 := nleI c43
                          have t_c50 := nltI c50
                          have t_w82 := w82.1
                          have t_c85 := neI c85
                          have t_c86 := leI c86
                          have : (0 : Int32).toInt = 0 := qI_0
                          have t_n0 : (nI N).toInt = (N : Int) := tn1387_ ()
                          have t_n1 : (nI B).toInt = (B : Int) := tn1388_ ()
                          have t_n2 : (nI T).toInt = (T : Int) := tn1389_ ()
                          have t_n3 : (nI nhe).toInt = (nhe : Int) := tn1393_ ()
                          have t_n4 : (nI S).toInt = (S : Int) := tn1390_ ()
                          have t_n5 : (nI M).toInt = (M : Int) := tn1391_ ()
                          have t_n6 : (nI j1).toInt = (j1 : Int) := tn1392_ ()
                          have t_n7 : (nI k17).toInt = (k17 : Int) := tn1399_ ()
                          have t_n8 : (nI k19).toInt = (k19 : Int) := tn1400_ ()
                          have t_n9 : (nI k25).toInt = (k25 : Int) := tn1401_ ()
                          have t_n10 : (nI k27).toInt = (k27 : Int) := tn1402_ ()
                          have t_n11 : (nI k34).toInt = (k34 : Int) := tn1403_ ()
                          exfalso; omega
                        · skip
                          refine lv_bipush (v := (-10)) hx hb dX11_text_173 rfl ?_
                          refine lv_aload_n hx hb dX11_text_175 rfl (lv_at hl 2 rfl) ?_
                          refine va_get (D := (dC, dI)) (ci := 11) (v := .int u84) (C := RX11) (T := TX11) (N := 35) hx hb hg inG11 hown hK.1 hP 6 rfl rfl 14 (Nat.le_of_ble_eq_true rfl) (hg _ wt_892) (fun _ h9 => h9) rfl dX11_text_176 ?_
                          refine lv_isub hx hb dX11_text_179 ?_
                          have hpost : ((-10) - u84 : Int32) = (if 0 < (txE (txQ ftp T vba nhe vtk vva frp).1).1.toInt then (-10) - (txE (txQ ftp T vba nhe vtk vva frp).1).2.1 else nI (txQ ftp T vba nhe vtk vva frp).2) := by
                            rw [hL]
                            dsimp only
                            have eE : txE ((y20, y21, k17, k19, y22, y23), k25, k27, y28, y29, y30, y31, g32) = (u83, u84, k17, k19, y22, y23) := (by show be7 (be6 (y20, y21, k17, k19, y22, y23) k25 k27 y30 y31) k25 k27 = _; unfold be6; (try (repeat (first | rw [if_pos (by with_reducible assumption)] | rw [if_neg (by with_reducible assumption)] | rw [if_pos (by (have t_hj5 := hj5; have t_n7 := n7; have t_hinw := hinw; have t_c37 := eqI c37; have t_c41 := eqI c41; have t_c42 := eqI c42; have t_c43 := nleI c43; have t_c50 := nltI c50; have t_w82 := w82.1; have t_c85 := neI c85; have t_c86 := nleI c86; have : (0 : Int32).toInt = 0 := qI_0; have tnb_ := nib12 tn1387_ tn1388_ tn1389_ tn1393_ tn1390_ tn1391_ tn1392_ tn1399_ tn1400_ tn1401_ tn1402_ tn1403_; have tqz_ := qz41_; omega))] | rw [if_neg (by (have t_hj5 := hj5; have t_n7 := n7; have t_hinw := hinw; have t_c37 := eqI c37; have t_c41 := eqI c41; have t_c42 := eqI c42; have t_c43 := nleI c43; have t_c50 := nltI c50; have t_w82 := w82.1; have t_c85 := neI c85; have t_c86 := nleI c86; have : (0 : Int32).toInt = 0 := qI_0; have tnb_ := nib12 tn1387_ tn1388_ tn1389_ tn1393_ tn1390_ tn1391_ tn1392_ tn1399_ tn1400_ tn1401_ tn1402_ tn1403_; have tqz_ := qz41_; omega))] | rw [if_pos (by decide)] | rw [if_neg (by decide)]))); (try rw [ew82]); unfold be7; (try (repeat (first | rw [if_pos (by with_reducible assumption)] | rw [if_neg (by with_reducible assumption)] | rw [if_pos (by (have t_hj5 := hj5; have t_n7 := n7; have t_hinw := hinw; have t_c37 := eqI c37; have t_c41 := eqI c41; have t_c42 := eqI c42; have t_c43 := nleI c43; have t_c50 := nltI c50; have t_w82 := w82.1; have t_c85 := neI c85; have t_c86 := nleI c86; have : (0 : Int32).toInt = 0 := qI_0; have tnb_ := nib12 tn1387_ tn1388_ tn1389_ tn1393_ tn1390_ tn1391_ tn1392_ tn1399_ tn1400_ tn1401_ tn1402_ tn1403_; have tqz_ := qz41_; omega))] | rw [if_neg (by (have t_hj5 := hj5; have t_n7 := n7; have t_hinw := hinw; have t_c37 := eqI c37; have t_c41 := eqI c41; have t_c42 := eqI c42; have t_c43 := nleI c43; have t_c50 := nltI c50; have t_w82 := w82.1; have t_c85 := neI c85; have t_c86 := nleI c86; have : (0 : Int32).toInt = 0 := qI_0; have tnb_ := nib12 tn1387_ tn1388_ tn1389_ tn1393_ tn1390_ tn1391_ tn1392_ tn1399_ tn1400_ tn1401_ tn1402_ tn1403_; have tqz_ := qz41_; omega))] | rw [if_pos (by decide)] | rw [if_neg (by decide)]))); all_goals rfl)
                            rw [eE]
                            dsimp only
                            first | rw [if_pos (by (have t_hj5 := hj5; have t_n7 := n7; have t_hinw := hinw; have t_c37 := eqI c37; have t_c41 := eqI c41; have t_c42 := eqI c42; have t_c43 := nleI c43; have t_c50 := nltI c50; have t_w82 := w82.1; have t_c85 := neI c85; have t_c86 := nleI c86; have : (0 : Int32).toInt = 0 := qI_0; have tnb_ := nib12 tn1387_ tn1388_ tn1389_ tn1393_ tn1390_ tn1391_ tn1392_ tn1399_ tn1400_ tn1401_ tn1402_ tn1403_; have tqz_ := qz41_; omega))] | rw [if_neg (by (have t_hj5 := hj5; have t_n7 := n7; have t_hinw := hinw; have t_c37 := eqI c37; have t_c41 := eqI c41; have t_c42 := eqI c42; have t_c43 := nleI c43; have t_c50 := nltI c50; have t_w82 := w82.1; have t_c85 := neI c85; have t_c86 := nleI c86; have : (0 : Int32).toInt = 0 := qI_0; have tnb_ := nib12 tn1387_ tn1388_ tn1389_ tn1393_ tn1390_ tn1391_ tn1392_ tn1399_ tn1400_ tn1401_ tn1402_ tn1403_; have tqz_ := qz41_; omega))]
                          obtain ⟨hP9, hD9⟩ := va_sub2 (ws' := [(h0, .inr (11, [.ref st, .int (nI N), .int (nI B), .ref rp, .int (nI k25), .int (nI k27), .int y28, .int y29, .int y30, .int y31, .ref tp, .int 0, .int u83, .int u83, .int u84, .int (nI k17), .int (nI k19), .int y22, .int y23, .ref cu, .ref lt, .ref od, .ref th, .ref be, .ref ln, .int (nI S), .ref ma, .int (nI M), .ref ah, .ref bh, .ref ik, .ref la, .ref lg, .ref ce, .int vto])), (tp, .inl (G 0, 320, .inl ftp)), (cu, .inl (G 0, 11, .inl fcu)), (lt, .inl (G 0, 54, .inl flt)), (rp, .inl (G 0, 49, .inl g32)), (st, .inl (G 0, 196, .inl fst)), (ik, .inl (G 2, 2, .inl fik))]) hP hD [6, 5, 0, 1, 2, 3, 4] (by decide) rfl
                          refine W.widen (k := 0) (n := 0) (Nat.le_of_ble_eq_true rfl) (Nat.le_of_ble_eq_true rfl) ?_
                          exact W.iret (v := (-10) - u84) hx hb hr (fun t ht hW => ⟨⟨(-10) - u84, (u83, u84, (nI k17), k19, y22, y23, (nI k25), (nI k27), y28, y29, y30, y31, u83, 0, N, B, S, M, g32, fst, fik), rfl, ⟨hpost, ⟨⟨hst, (by have t_hj5 := hj5; have t_n7 := n7; have t_hinw := hinw; have t_c37 := eqI c37; have t_c41 := eqI c41; have t_c42 := eqI c42; have t_c43 := nleI c43; have t_c50 := nltI c50; have t_w82 := w82.1; have t_c85 := neI c85; have t_c86 := nleI c86; have : (0 : Int32).toInt = 0 := qI_0; have tnb_ := nib12 tn1387_ tn1388_ tn1389_ tn1393_ tn1390_ tn1391_ tn1392_ tn1399_ tn1400_ tn1401_ tn1402_ tn1403_; have tqz_ := qz41_; omega)⟩, (by clear hpost; have t_hj5 := hj5; have t_n7 := n7; have t_hinw := hinw; have t_c37 := eqI c37; have t_c41 := eqI c41; have t_c42 := eqI c42; have t_c43 := nleI c43; have t_c50 := nltI c50; have t_w82 := w82.1; have t_c85 := neI c85; have t_c86 := nleI c86; have : (0 : Int32).toInt = 0 := qI_0; have tnb_ := nib12 tn1387_ tn1388_ tn1389_ tn1393_ tn1390_ tn1391_ tn1392_ tn1399_ tn1400_ tn1401_ tn1402_ tn1403_; have tqz_ := qz41_; rw [hL]; dsimp only; have eE : txE ((y20, y21, k17, k19, y22, y23), k25, k27, y28, y29, y30, y31, g32) = (u83, u84, k17, k19, y22, y23) := (by show be7 (be6 (y20, y21, k17, k19, y22, y23) k25 k27 y30 y31) k25 k27 = _; unfold be6; (try (repeat (first | rw [if_pos (by with_reducible assumption)] | rw [if_neg (by with_reducible assumption)] | rw [if_pos (by omega)] | rw [if_neg (by omega)] | rw [if_pos (by decide)] | rw [if_neg (by decide)]))); (try rw [ew82]); unfold be7; (try (repeat (first | rw [if_pos (by with_reducible assumption)] | rw [if_neg (by with_reducible assumption)] | rw [if_pos (by omega)] | rw [if_neg (by omega)] | rw [if_pos (by decide)] | rw [if_neg (by decide)]))); all_goals rfl); rw [eE]; dsimp only; refine ⟨rfl, ?_, ?_, ?_, ?_, ?_, ?_⟩ <;> first | (rw [if_pos (by omega)]; done) | (rw [if_neg (by omega)]; first | done | rfl | exact hcp9))⟩⟩, ⟨by rw [ht]; exact hP9, hD9⟩⟩, hS.F ht⟩) hS.2.2 dX11_text_180
                      · skip
                        have t_hj5 := hj5
                        have t_n7 := n7
                        have t_hinw := hinw
                        have t_c37 := eqI c37
                        have t_c41 := eqI c41
                        have t_c42 := eqI c42
                        have t_c43 := nleI c43
                        have t_c50 := nltI c50
                        have t_w82 := w82.1
                        have t_c85 := eqI c85
                        have : (0 : Int32).toInt = 0 := qI_0
                        have t_n0 : (nI N).toInt = (N : Int) := tn1387_ ()
                        have t_n1 : (nI B).toInt = (B : Int) := tn1388_ ()
                        have t_n2 : (nI T).toInt = (T : Int) := tn1389_ ()
                        have t_n3 : (nI nhe).toInt = (nhe : Int) := tn1393_ ()
                        have t_n4 : (nI S).toInt = (S : Int) := tn1390_ ()
                        have t_n5 : (nI M).toInt = (M : Int) := tn1391_ ()
                        have t_n6 : (nI j1).toInt = (j1 : Int) := tn1392_ ()
                        have t_n7 : (nI k17).toInt = (k17 : Int) := tn1399_ ()
                        have t_n8 : (nI k19).toInt = (k19 : Int) := tn1400_ ()
                        have t_n9 : (nI k25).toInt = (k25 : Int) := tn1401_ ()
                        have t_n10 : (nI k27).toInt = (k27 : Int) := tn1402_ ()
                        have t_n11 : (nI k34).toInt = (k34 : Int) := tn1403_ ()
                        exfalso; omega
              · skip
                refine lv_aload_n hx hb dX11_text_81 rfl (lv_at hl 2 rfl) ?_
                obtain ⟨hPc, hDc, hFc⟩ := va_sub3 (ws' := [(h0, .inr (11, [.ref st, .int (nI N), .int (nI B), .ref rp, .int (nI k25), .int (nI k27), .int y28, .int y29, .int y30, .int y31, .ref tp, .int (nI T), .int vfa, .int y20, .int y21, .int (nI k17), .int (nI k19), .int y22, .int y23, .ref cu, .ref lt, .ref od, .ref th, .ref be, .ref ln, .int (nI S), .ref ma, .int (nI M), .ref ah, .ref bh, .ref ik, .ref la, .ref lg, .ref ce, .int vto])), (tp, .inl (G 0, 320, .inl ftp)), (cu, .inl (G 0, 11, .inl fcu)), (lt, .inl (G 0, 54, .inl flt)), (rp, .inl (G 0, 49, .inl g32))]) hP hD hS hA [5, 6, 0, 1, 2] (by decide) rfl
                have tn1408_ : nIT k17 := fun _ => nI_toInt (by first | omega | (have t_hj5 := hj5; have t_n7 := n7; have t_hinw := hinw; have t_c37 := eqI c37; have t_c41 := neI c41; have : (0 : Int32).toInt = 0 := qI_0; omega))
                have tn1409_ : nIT k19 := fun _ => nI_toInt (by first | omega | (have t_hj5 := hj5; have t_n7 := n7; have t_hinw := hinw; have t_c37 := eqI c37; have t_c41 := neI c41; have : (0 : Int32).toInt = 0 := qI_0; omega))
                have tn1410_ : nIT k25 := fun _ => nI_toInt (by first | omega | (have t_hj5 := hj5; have t_n7 := n7; have t_hinw := hinw; have t_c37 := eqI c37; have t_c41 := neI c41; have : (0 : Int32).toInt = 0 := qI_0; omega))
                have tn1411_ : nIT k27 := fun _ => nI_toInt (by first | omega | (have t_hj5 := hj5; have t_n7 := n7; have t_hinw := hinw; have t_c37 := eqI c37; have t_c41 := neI c41; have : (0 : Int32).toInt = 0 := qI_0; omega))
                have tn1412_ : nIT k34 := fun _ => nI_toInt (by first | omega | (have t_hj5 := hj5; have t_n7 := n7; have t_hinw := hinw; have t_c37 := eqI c37; have t_c41 := neI c41; have : (0 : Int32).toInt = 0 := qI_0; omega))
                refine va_callv (va_runV (As := []) (rest := []) ⟨hx, hb, hml, hown, hg⟩ (c_X11_readLineE l dC dI G _ h0 st N B rp k25 k27 tp T k17 k19 cu lt od th be ln S ma M ah bh ik la lg ce y28 y29 y30 y31 vfa y20 y21 y22 y23 vto ftp fcu flt g32 hN hB_ hT_ hS0 hM_ (by have t_hj5 := hj5; have t_n7 := n7; have t_hinw := hinw; have t_c37 := eqI c37; have t_c41 := neI c41; have : (0 : Int32).toInt = 0 := qI_0; have tnb_ := nib12 tn1387_ tn1388_ tn1389_ tn1393_ tn1390_ tn1391_ tn1392_ tn1408_ tn1409_ tn1410_ tn1411_ tn1412_; have tqz_ := qz41_; omega) (by first | omega | (have t_hj5 := hj5; have t_n7 := n7; have t_hinw := hinw; have t_c37 := eqI c37; have t_c41 := neI c41; have : (0 : Int32).toInt = 0 := qI_0; have tnb_ := nib12 tn1387_ tn1388_ tn1389_ tn1393_ tn1390_ tn1391_ tn1392_ tn1408_ tn1409_ tn1410_ tn1411_ tn1412_; have tqz_ := qz41_; omega)) (by first | omega | (have t_hj5 := hj5; have t_n7 := n7; have t_hinw := hinw; have t_c37 := eqI c37; have t_c41 := neI c41; have : (0 : Int32).toInt = 0 := qI_0; have tnb_ := nib12 tn1387_ tn1388_ tn1389_ tn1393_ tn1390_ tn1391_ tn1392_ tn1408_ tn1409_ tn1410_ tn1411_ tn1412_; have tqz_ := qz41_; omega)) (by first | omega | (have t_hj5 := hj5; have t_n7 := n7; have t_hinw := hinw; have t_c37 := eqI c37; have t_c41 := neI c41; have : (0 : Int32).toInt = 0 := qI_0; have tnb_ := nib12 tn1387_ tn1388_ tn1389_ tn1393_ tn1390_ tn1391_ tn1392_ tn1408_ tn1409_ tn1410_ tn1411_ tn1412_; have tqz_ := qz41_; omega)) (by first | omega | (have t_hj5 := hj5; have t_n7 := n7; have t_hinw := hinw; have t_c37 := eqI c37; have t_c41 := neI c41; have : (0 : Int32).toInt = 0 := qI_0; have tnb_ := nib12 tn1387_ tn1388_ tn1389_ tn1393_ tn1390_ tn1391_ tn1392_ tn1408_ tn1409_ tn1410_ tn1411_ tn1412_; have tqz_ := qz41_; omega)) hc hinw.1 hlt htb) (kwV hg mfX11_readLine wt_1015 ⟨Nat.le_of_ble_eq_true rfl, Nat.le_of_ble_eq_true rfl⟩) (preVW hK hPc hDc (ci := 11) (r := (RX11, TX11, 35)) rfl rfl) rfl rfl hl.1 rfl (lv_room (Nat.le_of_ble_eq_true rfl)) dX11_text_82 ⟨Nat.le_of_ble_eq_true rfl, Nat.le_of_ble_eq_true rfl⟩) hS (fun q _ h => hFc q h) hFc (fun ur87 t H1 locs ht hvm w88 hB hz1 hk1 hS => ?_)
                obtain ⟨u89, u90, u91, u92, u93, u94, u95, u96, u97, u98, u99, u100, u101⟩ := ur87
                obtain ⟨hP1, hD1⟩ := hB
                rw [ht] at hP1
                obtain ⟨hP, hD⟩ := va_join (wr := [(st, .inl (G 0, 196, .inl fst)), (ik, .inl (G 2, 2, .inl fik))]) (w1 := [(h0, .inr (11, [.ref st, .int (nI N), .int (nI B), .ref rp, .int (nI u95), .int (nI u96), .int u97, .int u98, .int u99, .int u100, .ref tp, .int (nI T), .int vfa, .int u89, .int u90, .int (nI u91), .int (nI u92), .int u93, .int u94, .ref cu, .ref lt, .ref od, .ref th, .ref be, .ref ln, .int (nI S), .ref ma, .int (nI M), .ref ah, .ref bh, .ref ik, .ref la, .ref lg, .ref ce, .int vto])), (tp, .inl (G 0, 320, .inl ftp)), (cu, .inl (G 0, 11, .inl fcu)), (lt, .inl (G 0, 54, .inl flt)), (rp, .inl (G 0, 49, .inl u101))]) hP hD [5, 6, 0, 1, 2] [3, 4] rfl rfl (by decide) (by decide) hk1 hFc hP1 hD1
                have w88 : (OKP u101 ∧ (0 ≤ u89.toInt ∧ u91 ≤ T ∧ u92 ≤ u91 ∧ (0 < u89.toInt ∨ k17 < u91) ∧ u95 ≤ 11 ∧ (0 < u89.toInt ∨ u95 ≤ 10) ∧ u96 ≤ 6)) ∧ ((u89, u90, u91, u92, u93, u94), u95, u96, u97, u98, u99, u100, u101) = rlS ftp T (y20, y21, k17, k19, y22, y23) k25 k27 y28 y29 y30 y31 g32 := w88
                generalize H1 = H at hP hS ⊢
                refine lv_iinc (v := nI (k34 + 1)) (lv' := [(1, .int (nI (k34 + 1))), (2, .int (nI j1)), (0, .ref h0)]) hx hb dX11_text_85 hl (k := 1) rfl (by rw [show Int32.ofInt 1 = nI 1 from by decide]; exact nI_add _ _) (by decide) rfl (fun ls hl => ?_)
                by_cases hbz102 : 0 < u89.toInt
                · skip
                  refine lv_goto (tgt := 67) hx hb dX11_text_88 rfl ?_
                  refine lv_aload_n hx hb dX11_text_67 rfl (lv_at hl 2 rfl) ?_
                  refine va_get (D := (dC, dI)) (ci := 11) (v := .int u89) (C := RX11) (T := TX11) (N := 35) hx hb hg inG11 hown hK.1 hP 2 rfl rfl 13 (Nat.le_of_ble_eq_true rfl) (hg _ wt_891) (fun _ h9 => h9) rfl dX11_text_68 ?_
                  refine lv_if_ne (tgt := 91) hx hb dX11_text_71 rfl (fun c103 => ?_) (fun c103 => ?_)
                  · skip
                    have hL : txQ ftp T vba nhe vtk vva frp = (((u89, u90, u91, u92, u93, u94), u95, u96, u97, u98, u99, u100, u101), (k34 + 1)) := (by have t_hj5 := hj5; have t_n7 := n7; have t_hinw := hinw; have t_c37 := eqI c37; have t_c41 := neI c41; have t_hbz102 := hbz102; have t_c103 := neI c103; have : (0 : Int32).toInt = 0 := qI_0; have tnb_ := nib12 tn1387_ tn1388_ tn1389_ tn1393_ tn1390_ tn1391_ tn1392_ tn1408_ tn1409_ tn1410_ tn1411_ tn1412_; have tqz_ := qz41_; unfold txQ; rw [← hq0, ← hz9]; refine Eq.trans hinw.2.2.2.symm ?_; rw [show 400 - k34 = (400 - (k34 + 1)) + 1 by omega, lpS_go (by first | with_reducible assumption | assumption) (by first | with_reducible assumption | assumption)]; refine Eq.trans (congrArg (fun z9 => lpS ftp T (400 - (k34 + 1)) z9 (k34 + 1)) w88.2).symm ?_; exact lpS_e0 (by first | with_reducible assumption | assumption))
                    refine lv_aload_n hx hb dX11_text_91 rfl (lv_at hl 2 rfl) ?_
                    refine va_get (D := (dC, dI)) (ci := 11) (v := .int u89) (C := RX11) (T := TX11) (N := 35) hx hb hg inG11 hown hK.1 hP 2 rfl rfl 13 (Nat.le_of_ble_eq_true rfl) (hg _ wt_891) (fun _ h9 => h9) rfl dX11_text_92 ?_
                    refine lv_if_ne (tgt := 126) hx hb dX11_text_95 rfl (fun c104 => ?_) (fun c104 => ?_)
                    · skip
                      refine lv_aload_n hx hb dX11_text_126 rfl (lv_at hl 2 rfl) ?_
                      refine va_get (D := (dC, dI)) (ci := 11) (v := .int u89) (C := RX11) (T := TX11) (N := 35) hx hb hg inG11 hown hK.1 hP 2 rfl rfl 13 (Nat.le_of_ble_eq_true rfl) (hg _ wt_891) (fun _ h9 => h9) rfl dX11_text_127 ?_
                      refine lv_if_ne (tgt := 153) hx hb dX11_text_130 rfl (fun c105 => ?_) (fun c105 => ?_)
                      · skip
                        refine lv_aload_n hx hb dX11_text_153 rfl (lv_at hl 2 rfl) ?_
                        refine lv_iconst (v := 0) hx hb dX11_text_154 rfl ?_
                        refine va_put (D := (dC, dI)) (ci := 11) (v := .int 0) (ty := .int) (C := RX11) (T := TX11) (N := 35) hx hb hg inG11 tyX11 tyX11_ok nmX11 hown hK.1 hP hD hS 2 rfl rfl 11 (Nat.le_of_ble_eq_true rfl) (hg _ wt_889) (fun _ h9 => h9) rfl (by decide +kernel) rfl rfl (Nat.le_of_ble_eq_true rfl) dX11_text_155 (fun H locs hP hD hS => ?_)
                        refine lv_aload_n hx hb dX11_text_158 rfl (lv_at hl 2 rfl) ?_
                        refine lv_aload_n hx hb dX11_text_159 rfl (lv_at hl 2 rfl) ?_
                        refine va_get (D := (dC, dI)) (ci := 11) (v := .int u89) (C := RX11) (T := TX11) (N := 35) hx hb hg inG11 hown hK.1 hP 2 rfl rfl 13 (Nat.le_of_ble_eq_true rfl) (hg _ wt_891) (fun _ h9 => h9) rfl dX11_text_160 ?_
                        refine va_put (D := (dC, dI)) (ci := 11) (v := .int u89) (ty := .int) (C := RX11) (T := TX11) (N := 35) hx hb hg inG11 tyX11 tyX11_ok nmX11 hown hK.1 hP hD hS 2 rfl rfl 12 (Nat.le_of_ble_eq_true rfl) (hg _ wt_890) (fun _ h9 => h9) rfl (by decide +kernel) rfl rfl (Nat.le_of_ble_eq_true rfl) dX11_text_163 (fun H locs hP hD hS => ?_)
                        refine lv_aload_n hx hb dX11_text_166 rfl (lv_at hl 2 rfl) ?_
                        refine va_get (D := (dC, dI)) (ci := 11) (v := .int u89) (C := RX11) (T := TX11) (N := 35) hx hb hg inG11 hown hK.1 hP 2 rfl rfl 13 (Nat.le_of_ble_eq_true rfl) (hg _ wt_891) (fun _ h9 => h9) rfl dX11_text_167 ?_
                        refine lv_if_le (tgt := 181) hx hb dX11_text_170 rfl (fun c106 => ?_) (fun c106 => ?_)
                        · skip
                          have t_hj5 := hj5
                          have t_n7 := n7
                          have t_hinw := hinw
                          have t_c37 := eqI c37
                          have t_c41 := neI c41
                          have t_hbz102 := hbz102
                          have t_c103 := neI c103
                          have t_c104 := neI c104
                          have t_c105 := neI c105
                          have t_c106 := leI c106
                          have : (0 : Int32).toInt = 0 := qI_0
                          have t_n0 : (nI N).toInt = (N : Int) := tn1387_ ()
                          have t_n1 : (nI B).toInt = (B : Int) := tn1388_ ()
                          have t_n2 : (nI T).toInt = (T : Int) := tn1389_ ()
                          have t_n3 : (nI nhe).toInt = (nhe : Int) := tn1393_ ()
                          have t_n4 : (nI S).toInt = (S : Int) := tn1390_ ()
                          have t_n5 : (nI M).toInt = (M : Int) := tn1391_ ()
                          have t_n6 : (nI j1).toInt = (j1 : Int) := tn1392_ ()
                          have t_n7 : (nI k17).toInt = (k17 : Int) := tn1408_ ()
                          have t_n8 : (nI k19).toInt = (k19 : Int) := tn1409_ ()
                          have t_n9 : (nI k25).toInt = (k25 : Int) := tn1410_ ()
                          have t_n10 : (nI k27).toInt = (k27 : Int) := tn1411_ ()
                          have t_n11 : (nI k34).toInt = (k34 : Int) := tn1412_ ()
                          exfalso; omega
                        · skip
                          refine lv_bipush (v := (-10)) hx hb dX11_text_173 rfl ?_
                          refine lv_aload_n hx hb dX11_text_175 rfl (lv_at hl 2 rfl) ?_
                          refine va_get (D := (dC, dI)) (ci := 11) (v := .int u90) (C := RX11) (T := TX11) (N := 35) hx hb hg inG11 hown hK.1 hP 2 rfl rfl 14 (Nat.le_of_ble_eq_true rfl) (hg _ wt_892) (fun _ h9 => h9) rfl dX11_text_176 ?_
                          refine lv_isub hx hb dX11_text_179 ?_
                          have hpost : ((-10) - u90 : Int32) = (if 0 < (txE (txQ ftp T vba nhe vtk vva frp).1).1.toInt then (-10) - (txE (txQ ftp T vba nhe vtk vva frp).1).2.1 else nI (txQ ftp T vba nhe vtk vva frp).2) := by
                            rw [hL]
                            dsimp only
                            have eE : txE ((u89, u90, u91, u92, u93, u94), u95, u96, u97, u98, u99, u100, u101) = (u89, u90, u91, u92, u93, u94) := (by show be7 (be6 (u89, u90, u91, u92, u93, u94) u95 u96 u99 u100) u95 u96 = _; unfold be6; (try (repeat (first | rw [if_pos (by with_reducible assumption)] | rw [if_neg (by with_reducible assumption)] | rw [if_pos (by (have t_hj5 := hj5; have t_n7 := n7; have t_hinw := hinw; have t_c37 := eqI c37; have t_c41 := neI c41; have t_hbz102 := hbz102; have t_c103 := neI c103; have t_c104 := neI c104; have t_c105 := neI c105; have t_c106 := nleI c106; have : (0 : Int32).toInt = 0 := qI_0; have tnb_ := nib12 tn1387_ tn1388_ tn1389_ tn1393_ tn1390_ tn1391_ tn1392_ tn1408_ tn1409_ tn1410_ tn1411_ tn1412_; have tqz_ := qz41_; omega))] | rw [if_neg (by (have t_hj5 := hj5; have t_n7 := n7; have t_hinw := hinw; have t_c37 := eqI c37; have t_c41 := neI c41; have t_hbz102 := hbz102; have t_c103 := neI c103; have t_c104 := neI c104; have t_c105 := neI c105; have t_c106 := nleI c106; have : (0 : Int32).toInt = 0 := qI_0; have tnb_ := nib12 tn1387_ tn1388_ tn1389_ tn1393_ tn1390_ tn1391_ tn1392_ tn1408_ tn1409_ tn1410_ tn1411_ tn1412_; have tqz_ := qz41_; omega))] | rw [if_pos (by decide)] | rw [if_neg (by decide)]))); unfold be7; (try (repeat (first | rw [if_pos (by with_reducible assumption)] | rw [if_neg (by with_reducible assumption)] | rw [if_pos (by (have t_hj5 := hj5; have t_n7 := n7; have t_hinw := hinw; have t_c37 := eqI c37; have t_c41 := neI c41; have t_hbz102 := hbz102; have t_c103 := neI c103; have t_c104 := neI c104; have t_c105 := neI c105; have t_c106 := nleI c106; have : (0 : Int32).toInt = 0 := qI_0; have tnb_ := nib12 tn1387_ tn1388_ tn1389_ tn1393_ tn1390_ tn1391_ tn1392_ tn1408_ tn1409_ tn1410_ tn1411_ tn1412_; have tqz_ := qz41_; omega))] | rw [if_neg (by (have t_hj5 := hj5; have t_n7 := n7; have t_hinw := hinw; have t_c37 := eqI c37; have t_c41 := neI c41; have t_hbz102 := hbz102; have t_c103 := neI c103; have t_c104 := neI c104; have t_c105 := neI c105; have t_c106 := nleI c106; have : (0 : Int32).toInt = 0 := qI_0; have tnb_ := nib12 tn1387_ tn1388_ tn1389_ tn1393_ tn1390_ tn1391_ tn1392_ tn1408_ tn1409_ tn1410_ tn1411_ tn1412_; have tqz_ := qz41_; omega))] | rw [if_pos (by decide)] | rw [if_neg (by decide)]))); all_goals rfl)
                            rw [eE]
                            dsimp only
                            first | rw [if_pos (by (have t_hj5 := hj5; have t_n7 := n7; have t_hinw := hinw; have t_c37 := eqI c37; have t_c41 := neI c41; have t_hbz102 := hbz102; have t_c103 := neI c103; have t_c104 := neI c104; have t_c105 := neI c105; have t_c106 := nleI c106; have : (0 : Int32).toInt = 0 := qI_0; have tnb_ := nib12 tn1387_ tn1388_ tn1389_ tn1393_ tn1390_ tn1391_ tn1392_ tn1408_ tn1409_ tn1410_ tn1411_ tn1412_; have tqz_ := qz41_; omega))] | rw [if_neg (by (have t_hj5 := hj5; have t_n7 := n7; have t_hinw := hinw; have t_c37 := eqI c37; have t_c41 := neI c41; have t_hbz102 := hbz102; have t_c103 := neI c103; have t_c104 := neI c104; have t_c105 := neI c105; have t_c106 := nleI c106; have : (0 : Int32).toInt = 0 := qI_0; have tnb_ := nib12 tn1387_ tn1388_ tn1389_ tn1393_ tn1390_ tn1391_ tn1392_ tn1408_ tn1409_ tn1410_ tn1411_ tn1412_; have tqz_ := qz41_; omega))]
                          obtain ⟨hP9, hD9⟩ := va_sub2 (ws' := [(h0, .inr (11, [.ref st, .int (nI N), .int (nI B), .ref rp, .int (nI u95), .int (nI u96), .int u97, .int u98, .int u99, .int u100, .ref tp, .int 0, .int u89, .int u89, .int u90, .int (nI u91), .int (nI u92), .int u93, .int u94, .ref cu, .ref lt, .ref od, .ref th, .ref be, .ref ln, .int (nI S), .ref ma, .int (nI M), .ref ah, .ref bh, .ref ik, .ref la, .ref lg, .ref ce, .int vto])), (tp, .inl (G 0, 320, .inl ftp)), (cu, .inl (G 0, 11, .inl fcu)), (lt, .inl (G 0, 54, .inl flt)), (rp, .inl (G 0, 49, .inl u101)), (st, .inl (G 0, 196, .inl fst)), (ik, .inl (G 2, 2, .inl fik))]) hP hD [2, 3, 4, 5, 6, 0, 1] (by decide) rfl
                          refine W.widen (k := 0) (n := 0) (Nat.le_of_ble_eq_true rfl) (Nat.le_of_ble_eq_true rfl) ?_
                          exact W.iret (v := (-10) - u90) hx hb hr (fun t ht hW => ⟨⟨(-10) - u90, (u89, u90, (nI u91), u92, u93, u94, (nI u95), (nI u96), u97, u98, u99, u100, u89, 0, N, B, S, M, u101, fst, fik), rfl, ⟨hpost, ⟨⟨hst, (by have t_hj5 := hj5; have t_n7 := n7; have t_hinw := hinw; have t_c37 := eqI c37; have t_c41 := neI c41; have t_hbz102 := hbz102; have t_c103 := neI c103; have t_c104 := neI c104; have t_c105 := neI c105; have t_c106 := nleI c106; have : (0 : Int32).toInt = 0 := qI_0; have tnb_ := nib12 tn1387_ tn1388_ tn1389_ tn1393_ tn1390_ tn1391_ tn1392_ tn1408_ tn1409_ tn1410_ tn1411_ tn1412_; have tqz_ := qz41_; omega)⟩, (by clear hpost; have t_hj5 := hj5; have t_n7 := n7; have t_hinw := hinw; have t_c37 := eqI c37; have t_c41 := neI c41; have t_hbz102 := hbz102; have t_c103 := neI c103; have t_c104 := neI c104; have t_c105 := neI c105; have t_c106 := nleI c106; have : (0 : Int32).toInt = 0 := qI_0; have tnb_ := nib12 tn1387_ tn1388_ tn1389_ tn1393_ tn1390_ tn1391_ tn1392_ tn1408_ tn1409_ tn1410_ tn1411_ tn1412_; have tqz_ := qz41_; rw [hL]; dsimp only; have eE : txE ((u89, u90, u91, u92, u93, u94), u95, u96, u97, u98, u99, u100, u101) = (u89, u90, u91, u92, u93, u94) := (by show be7 (be6 (u89, u90, u91, u92, u93, u94) u95 u96 u99 u100) u95 u96 = _; unfold be6; (try (repeat (first | rw [if_pos (by with_reducible assumption)] | rw [if_neg (by with_reducible assumption)] | rw [if_pos (by omega)] | rw [if_neg (by omega)] | rw [if_pos (by decide)] | rw [if_neg (by decide)]))); unfold be7; (try (repeat (first | rw [if_pos (by with_reducible assumption)] | rw [if_neg (by with_reducible assumption)] | rw [if_pos (by omega)] | rw [if_neg (by omega)] | rw [if_pos (by decide)] | rw [if_neg (by decide)]))); all_goals rfl); rw [eE]; dsimp only; refine ⟨rfl, ?_, ?_, ?_, ?_, ?_, ?_⟩ <;> first | (rw [if_pos (by omega)]; done) | (rw [if_neg (by omega)]; first | done | rfl | exact hcp9))⟩⟩, ⟨by rw [ht]; exact hP9, hD9⟩⟩, hS.F ht⟩) hS.2.2 dX11_text_180
                      · skip
                        have t_hj5 := hj5
                        have t_n7 := n7
                        have t_hinw := hinw
                        have t_c37 := eqI c37
                        have t_c41 := neI c41
                        have t_hbz102 := hbz102
                        have t_c103 := neI c103
                        have t_c104 := neI c104
                        have t_c105 := eqI c105
                        have : (0 : Int32).toInt = 0 := qI_0
                        have t_n0 : (nI N).toInt = (N : Int) := tn1387_ ()
                        have t_n1 : (nI B).toInt = (B : Int) := tn1388_ ()
                        have t_n2 : (nI T).toInt = (T : Int) := tn1389_ ()
                        have t_n3 : (nI nhe).toInt = (nhe : Int) := tn1393_ ()
                        have t_n4 : (nI S).toInt = (S : Int) := tn1390_ ()
                        have t_n5 : (nI M).toInt = (M : Int) := tn1391_ ()
                        have t_n6 : (nI j1).toInt = (j1 : Int) := tn1392_ ()
                        have t_n7 : (nI k17).toInt = (k17 : Int) := tn1408_ ()
                        have t_n8 : (nI k19).toInt = (k19 : Int) := tn1409_ ()
                        have t_n9 : (nI k25).toInt = (k25 : Int) := tn1410_ ()
                        have t_n10 : (nI k27).toInt = (k27 : Int) := tn1411_ ()
                        have t_n11 : (nI k34).toInt = (k34 : Int) := tn1412_ ()
                        exfalso; omega
                    · skip
                      have t_hj5 := hj5
                      have t_n7 := n7
                      have t_hinw := hinw
                      have t_c37 := eqI c37
                      have t_c41 := neI c41
                      have t_hbz102 := hbz102
                      have t_c103 := neI c103
                      have t_c104 := eqI c104
                      have : (0 : Int32).toInt = 0 := qI_0
                      have t_n0 : (nI N).toInt = (N : Int) := tn1387_ ()
                      have t_n1 : (nI B).toInt = (B : Int) := tn1388_ ()
                      have t_n2 : (nI T).toInt = (T : Int) := tn1389_ ()
                      have t_n3 : (nI nhe).toInt = (nhe : Int) := tn1393_ ()
                      have t_n4 : (nI S).toInt = (S : Int) := tn1390_ ()
                      have t_n5 : (nI M).toInt = (M : Int) := tn1391_ ()
                      have t_n6 : (nI j1).toInt = (j1 : Int) := tn1392_ ()
                      have t_n7 : (nI k17).toInt = (k17 : Int) := tn1408_ ()
                      have t_n8 : (nI k19).toInt = (k19 : Int) := tn1409_ ()
                      have t_n9 : (nI k25).toInt = (k25 : Int) := tn1410_ ()
                      have t_n10 : (nI k27).toInt = (k27 : Int) := tn1411_ ()
                      have t_n11 : (nI k34).toInt = (k34 : Int) := tn1412_ ()
                      exfalso; omega
                  · skip
                    have t_hj5 := hj5
                    have t_n7 := n7
                    have t_hinw := hinw
                    have t_c37 := eqI c37
                    have t_c41 := neI c41
                    have t_hbz102 := hbz102
                    have t_c103 := eqI c103
                    have : (0 : Int32).toInt = 0 := qI_0
                    have t_n0 : (nI N).toInt = (N : Int) := tn1387_ ()
                    have t_n1 : (nI B).toInt = (B : Int) := tn1388_ ()
                    have t_n2 : (nI T).toInt = (T : Int) := tn1389_ ()
                    have t_n3 : (nI nhe).toInt = (nhe : Int) := tn1393_ ()
                    have t_n4 : (nI S).toInt = (S : Int) := tn1390_ ()
                    have t_n5 : (nI M).toInt = (M : Int) := tn1391_ ()
                    have t_n6 : (nI j1).toInt = (j1 : Int) := tn1392_ ()
                    have t_n7 : (nI k17).toInt = (k17 : Int) := tn1408_ ()
                    have t_n8 : (nI k19).toInt = (k19 : Int) := tn1409_ ()
                    have t_n9 : (nI k25).toInt = (k25 : Int) := tn1410_ ()
                    have t_n10 : (nI k27).toInt = (k27 : Int) := tn1411_ ()
                    have t_n11 : (nI k34).toInt = (k34 : Int) := tn1412_ ()
                    exfalso; omega
                · skip
                  refine lv_goto (tgt := 67) hx hb dX11_text_88 rfl ?_
                  exact ih67_35 u91 u92 u89 u90 u93 u94 u95 u96 u97 u98 u99 u100 u101 (k34 + 1) (by have t_hj5 := hj5; have t_n7 := n7; have t_hinw := hinw; have t_c37 := eqI c37; have t_c41 := neI c41; have t_hbz102 := hbz102; have : (0 : Int32).toInt = 0 := qI_0; have tnb_ := nib12 tn1387_ tn1388_ tn1389_ tn1393_ tn1390_ tn1391_ tn1392_ tn1408_ tn1409_ tn1410_ tn1411_ tn1412_; have tqz_ := qz41_; omega) ⟨w88.1.1, (by have t_hj5 := hj5; have t_n7 := n7; have t_hinw := hinw; have t_c37 := eqI c37; have t_c41 := neI c41; have t_hbz102 := hbz102; have : (0 : Int32).toInt = 0 := qI_0; have tnb_ := nib12 tn1387_ tn1388_ tn1389_ tn1393_ tn1390_ tn1391_ tn1392_ tn1408_ tn1409_ tn1410_ tn1411_ tn1412_; have tqz_ := qz41_; omega), (by have t_hj5 := hj5; have t_n7 := n7; have t_hinw := hinw; have t_c37 := eqI c37; have t_c41 := neI c41; have t_hbz102 := hbz102; have : (0 : Int32).toInt = 0 := qI_0; have tnb_ := nib12 tn1387_ tn1388_ tn1389_ tn1393_ tn1390_ tn1391_ tn1392_ tn1408_ tn1409_ tn1410_ tn1411_ tn1412_; have tqz_ := qz41_; omega), (by have t_hj5 := hj5; have t_n7 := n7; have t_hinw := hinw; have t_c37 := eqI c37; have t_c41 := neI c41; have t_hbz102 := hbz102; have : (0 : Int32).toInt = 0 := qI_0; have tnb_ := nib12 tn1387_ tn1388_ tn1389_ tn1393_ tn1390_ tn1391_ tn1392_ tn1408_ tn1409_ tn1410_ tn1411_ tn1412_; have tqz_ := qz41_; refine Eq.trans ?_ hinw.2.2.2; rw [show 400 - k34 = (400 - (k34 + 1)) + 1 by omega, lpS_go (by first | with_reducible assumption | assumption) (by first | with_reducible assumption | assumption)]; exact congrArg (fun z9 => lpS ftp T (400 - (k34 + 1)) z9 (k34 + 1)) w88.2)⟩ _ _ (hP.sub [4, 5, 6, 0, 1, 2, 3] rfl) (hD.sub [4, 5, 6, 0, 1, 2, 3] (by decide) rfl) hS ls (lv_sub hl [1, 0, 2] rfl)
        exact loop67_35 ((T - u12) + 1) u12 u13 u10 u11 u14 u15 0 0 0 0 (-1) (-1) g2 0 (Nat.lt_succ_self _) ⟨hrp, (by have t_hj5 := hj5; have t_n7 := n7; have tnb_ := nib7 tn1387_ tn1388_ tn1389_ tn1393_ tn1390_ tn1391_ tn1392_; have tqz_ := qz41_; omega), (by have t_hj5 := hj5; have t_n7 := n7; have tnb_ := nib7 tn1387_ tn1388_ tn1389_ tn1393_ tn1390_ tn1391_ tn1392_; have tqz_ := qz41_; omega), rfl⟩ _ _ hP hD hS ls (lv_sub hl [0, 1, 2] rfl)
      · skip
        have tn1413_ : nIT j1 := fun _ => nI_toInt (by first | omega | (have t := nleI c6; omega))
        have n107 : j1 < 49 := by have t := nleI c6; rw [show (nI (j1)).toInt = ((j1 : Nat) : Int) from tn1413_ ()] at t; have : (49 : Int32).toInt = 49 := qI_49; omega
        refine lv_aload_n hx hb dX11_text_50 rfl (lv_at hl 2 rfl) ?_
        refine va_get (D := (dC, dI)) (ci := 11) (v := .ref rp) (C := RX11) (T := TX11) (N := 35) hx hb hg inG11 hown hK.1 hP 0 rfl rfl 3 (Nat.le_of_ble_eq_true rfl) (hg _ wt_881) (fun _ h9 => h9) rfl dX11_text_51 ?_
        refine lv_iload_n hx hb dX11_text_54 rfl (lv_at hl 0 rfl) ?_
        refine lv_iconst (v := 0) hx hb dX11_text_55 rfl ?_
        have tn1414_ : nIT nhe := fun _ => nI_toInt (by first | omega | (have t_hj5 := hj5; have t_n107 := n107; omega))
        refine va_iast hx hb hK.1 hP hD hS 4 0 rfl rfl (vp_in_nI (by first | omega | (have t_hj5 := hj5; have t_n107 := n107; have tnb_ := nib7 tn1387_ tn1388_ tn1389_ tn1414_ tn1390_ tn1391_ tn1413_; omega)) (by decide)) dX11_text_56 (fun H locs hP hD hS => ?_)
        rw [nI_clamp (by omega)] at hP hD
        refine lv_iinc (v := nI (j1 + 1)) (lv' := [(2, .int (nI (j1 + 1))), (1, .int 0), (0, .ref h0)]) hx hb dX11_text_57 hl (k := 0) rfl (by rw [show Int32.ofInt 1 = nI 1 from by decide]; exact nI_add _ _) (by decide) rfl (fun ls hl => ?_)
        refine lv_goto (tgt := 44) hx hb dX11_text_60 rfl ?_
        exact ih44_3 (j1 + 1) (by omega) (by omega) (upd g2 j1 0) _ _ (by rw [hinv]; exact zpF_s) hP hD hS ls (lv_sub hl [0, 1, 2] rfl)
  exact loop44_3 (49 + 1) 0 (by omega) (by omega) frp _ _ zpF_0 hP hD hS ls (lv_sub hl [0, 1, 2] rfl)
