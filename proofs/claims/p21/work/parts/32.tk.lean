set_option maxHeartbeats 8000000 in
set_option maxRecDepth 100000 in
theorem c_X11_textE (l : Launch) (dC : Nat → ClassId) (dI : Nat → Nat → Nat) (G : Nat → ClassId) (sz : Nat) (h0 st N B rp tp T nhe cu lt od th be ln S ma M ah bh ik la lg ce : Nat) (vrs vrb vhs vca vxs vxb vfa vbr vba vsp vtk vva vto : Int32) (ftp : Nat → Int32) (fcu : Nat → Int32) (flt : Nat → Int32) (frp : Nat → Int32) (fst : Nat → Int32) (fik : Nat → Int32) (hN : N ≤ 10) (hB : B ≤ 6) (hT : T ≤ 320) (hS0 : S ≤ 8) (hM : M ≤ 6) (hst : OKS fst) (hc : ∀ q : Nat, q < 11 → fcu q = nI (cutL.getD q 0)) (hNB : N = 0 ∨ 0 < B) (hhe : nhe ≤ 320) (hlt : ∀ q : Nat, q < 54 → flt q = letL.getD q 0) (htb : ∀ q : Nat, q < 320 → 0 ≤ (ftp q).toInt) : Met l yX11_text (Cond.code yX11_text cX11_text 3 (some .int) :: GT) ({ frames := 5, cells := 0, slots := 0, locals := 114 } : Room) (PcW [.ref h0] dC dI G [(h0, .inr (11, [.ref st, .int (nI N), .int (nI B), .ref rp, .int vrs, .int vrb, .int vhs, .int vca, .int vxs, .int vxb, .ref tp, .int (nI T), .int vfa, .int vbr, .int vba, .int vsp, .int (nI nhe), .int vtk, .int vva, .ref cu, .ref lt, .ref od, .ref th, .ref be, .ref ln, .int (nI S), .ref ma, .int (nI M), .ref ah, .ref bh, .ref ik, .ref la, .ref lg, .ref ce, .int vto])), (tp, .inl (G 0, 320, .inl ftp)), (cu, .inl (G 0, 11, .inl fcu)), (lt, .inl (G 0, 54, .inl flt)), (rp, .inl (G 0, 49, .inl frp)), (st, .inl (G 0, 196, .inl fst)), (ik, .inl (G 2, 2, .inl fik))] sz) (va_Qi (fun (r : Int32) (u : Int32 × Int32 × Int32 × Nat × Int32 × Int32 × Int32 × Int32 × Int32 × Int32 × Int32 × Int32 × Int32 × Nat × Nat × Nat × Nat × Nat × (Nat → Int32) × (Nat → Int32) × (Nat → Int32)) => match u with | (obr, oba, osp, ohe, otk, ova, ors, orb, ohs, oca, oxs, oxb, ofa, oT, oN, oB, oS, oM, orp, ost, oik) => (r = (if 0 < (txE (txQ ftp T vba nhe vtk vva frp).1).1.toInt then (-10) - (txE (txQ ftp T vba nhe vtk vva frp).1).2.1 else nI (txQ ftp T vba nhe vtk vva frp).2)) ∧ (OKS ost ∧ (oN ≤ 10 ∧ oB ≤ 6 ∧ (oN = 0 ∨ 0 < oB) ∧ oT = 0 ∧ oS ≤ 8 ∧ oM ≤ 6 ∧ ohe ≤ 320)) ∧ ofa = (txE (txQ ftp T vba nhe vtk vva frp).1).1 ∧ oN = (if 0 < (txE (txQ ftp T vba nhe vtk vva frp).1).1.toInt then N else (txQ ftp T vba nhe vtk vva frp).1.2.1) ∧ oB = (if 0 < (txE (txQ ftp T vba nhe vtk vva frp).1).1.toInt then B else (txQ ftp T vba nhe vtk vva frp).1.2.2.1) ∧ oS = (if 0 < (txE (txQ ftp T vba nhe vtk vva frp).1).1.toInt then S else 0) ∧ oM = (if 0 < (txE (txQ ftp T vba nhe vtk vva frp).1).1.toInt then M else 0) ∧ ost = (if 0 < (txE (txQ ftp T vba nhe vtk vva frp).1).1.toInt then fst else cpF 49 (txQ ftp T vba nhe vtk vva frp).1.2.2.2.2.2.2.2 fst) ∧ oik = (if 0 < (txE (txQ ftp T vba nhe vtk vva frp).1).1.toInt then fik else upd (upd fik 0 0) 1 0)) (fun (u : Int32 × Int32 × Int32 × Nat × Int32 × Int32 × Int32 × Int32 × Int32 × Int32 × Int32 × Int32 × Int32 × Nat × Nat × Nat × Nat × Nat × (Nat → Int32) × (Nat → Int32) × (Nat → Int32)) (t : State) => match u with | (obr, oba, osp, ohe, otk, ova, ors, orb, ohs, oca, oxs, oxb, ofa, oT, oN, oB, oS, oM, orp, ost, oik) => va_P (dC, dI) vwCl [(h0, .inr (11, [.ref st, .int (nI oN), .int (nI oB), .ref rp, .int ors, .int orb, .int ohs, .int oca, .int oxs, .int oxb, .ref tp, .int (nI oT), .int ofa, .int obr, .int oba, .int osp, .int (nI ohe), .int otk, .int ova, .ref cu, .ref lt, .ref od, .ref th, .ref be, .ref ln, .int (nI oS), .ref ma, .int (nI oM), .ref ah, .ref bh, .ref ik, .ref la, .ref lg, .ref ce, .int vto])), (tp, .inl (G 0, 320, .inl ftp)), (cu, .inl (G 0, 11, .inl fcu)), (lt, .inl (G 0, 54, .inl flt)), (rp, .inl (G 0, 49, .inl orp)), (st, .inl (G 0, 196, .inl ost)), (ik, .inl (G 2, 2, .inl oik))] t.heap ∧ va_D (va_A [(h0, .inr (11, [.ref st, .int (nI N), .int (nI B), .ref rp, .int vrs, .int vrb, .int vhs, .int vca, .int vxs, .int vxb, .ref tp, .int (nI T), .int vfa, .int vbr, .int vba, .int vsp, .int (nI nhe), .int vtk, .int vva, .ref cu, .ref lt, .ref od, .ref th, .ref be, .ref ln, .int (nI S), .ref ma, .int (nI M), .ref ah, .ref bh, .ref ik, .ref la, .ref lg, .ref ce, .int vto])), (tp, .inl (G 0, 320, .inl ftp)), (cu, .inl (G 0, 11, .inl fcu)), (lt, .inl (G 0, 54, .inl flt)), (rp, .inl (G 0, 49, .inl frp)), (st, .inl (G 0, 196, .inl fst)), (ik, .inl (G 2, 2, .inl fik))] sz) [(h0, .inr (11, [.ref st, .int (nI oN), .int (nI oB), .ref rp, .int ors, .int orb, .int ohs, .int oca, .int oxs, .int oxb, .ref tp, .int (nI oT), .int ofa, .int obr, .int oba, .int osp, .int (nI ohe), .int otk, .int ova, .ref cu, .ref lt, .ref od, .ref th, .ref be, .ref ln, .int (nI oS), .ref ma, .int (nI oM), .ref ah, .ref bh, .ref ik, .ref la, .ref lg, .ref ce, .int vto])), (tp, .inl (G 0, 320, .inl ftp)), (cu, .inl (G 0, 11, .inl fcu)), (lt, .inl (G 0, 54, .inl flt)), (rp, .inl (G 0, 49, .inl orp)), (st, .inl (G 0, 196, .inl ost)), (ik, .inl (G 2, 2, .inl oik))]) (va_A [(h0, .inr (11, [.ref st, .int (nI N), .int (nI B), .ref rp, .int vrs, .int vrb, .int vhs, .int vca, .int vxs, .int vxb, .ref tp, .int (nI T), .int vfa, .int vbr, .int vba, .int vsp, .int (nI nhe), .int vtk, .int vva, .ref cu, .ref lt, .ref od, .ref th, .ref be, .ref ln, .int (nI S), .ref ma, .int (nI M), .ref ah, .ref bh, .ref ik, .ref la, .ref lg, .ref ce, .int vto])), (tp, .inl (G 0, 320, .inl ftp)), (cu, .inl (G 0, 11, .inl fcu)), (lt, .inl (G 0, 54, .inl flt)), (rp, .inl (G 0, 49, .inl frp)), (st, .inl (G 0, 196, .inl fst)), (ik, .inl (G 2, 2, .inl fik))] sz)) 0 0 (va_A [(h0, .inr (11, [.ref st, .int (nI N), .int (nI B), .ref rp, .int vrs, .int vrb, .int vhs, .int vca, .int vxs, .int vxb, .ref tp, .int (nI T), .int vfa, .int vbr, .int vba, .int vsp, .int (nI nhe), .int vtk, .int vva, .ref cu, .ref lt, .ref od, .ref th, .ref be, .ref ln, .int (nI S), .ref ma, .int (nI M), .ref ah, .ref bh, .ref ik, .ref la, .ref lg, .ref ce, .int vto])), (tp, .inl (G 0, 320, .inl ftp)), (cu, .inl (G 0, 11, .inl fcu)), (lt, .inl (G 0, 54, .inl flt)), (rp, .inl (G 0, 49, .inl frp)), (st, .inl (G 0, 196, .inl fst)), (ik, .inl (G 2, 2, .inl fik))] sz) := by
  have hB_ := hB
  have hM_ := hM
  have hT_ := hT
  have tn1387_ : nIT N := fun _ => nI_toInt (by omega)
  have tn1388_ : nIT B := fun _ => nI_toInt (by omega)
  have tn1389_ : nIT T := fun _ => nI_toInt (by omega)
  have tn1390_ : nIT S := fun _ => nI_toInt (by omega)
  have tn1391_ : nIT M := fun _ => nI_toInt (by omega)
  refine Met.ofW (cc := cX11_text) (maxL := 3) (ret := (some .int)) (by decide) rfl ?_
  intro p e s m args below meth c s₁ Bd hml hv
  obtain ⟨rfl, hsz, hP, hK, hD0⟩ := hv
  have hx := Bd.exec
  have hb := Bd.bytes
  have hr := Bd.returns
  have hg : ∀ w ∈ GT, w.before ([.ref h0] : List Value).toArray s = true := fun w h => atoms_spec (ws := Cond.code yX11_text cX11_text 3 (some .int) :: GT) Bd.pre w (List.mem_cons_of_mem _ h)
  have hown : s.vm.findClass RX11 = some m.cls := findClass_of_methodNamed Bd.named
  have hlocks := Bd.notSynchronized
  subst hsz
  have hD := hD0.self (sz := s.heap.size)
  generalize hAe : va_A [(h0, .inr (11, [.ref st, .int (nI N), .int (nI B), .ref rp, .int vrs, .int vrb, .int vhs, .int vca, .int vxs, .int vxb, .ref tp, .int (nI T), .int vfa, .int vbr, .int vba, .int vsp, .int (nI nhe), .int vtk, .int vva, .ref cu, .ref lt, .ref od, .ref th, .ref be, .ref ln, .int (nI S), .ref ma, .int (nI M), .ref ah, .ref bh, .ref ik, .ref la, .ref lg, .ref ce, .int vto])), (tp, .inl (G 0, 320, .inl ftp)), (cu, .inl (G 0, 11, .inl fcu)), (lt, .inl (G 0, 54, .inl flt)), (rp, .inl (G 0, 49, .inl frp)), (st, .inl (G 0, 196, .inl fst)), (ik, .inl (G 2, 2, .inl fik))] s.heap.size = A at hD ⊢
  have hA : ∀ q : Nat, s.heap.size ≤ q → A q := fun q h => by rw [← hAe]; exact Or.inr h
  have hS : va_S A s.heap s.heap [] := va_S.rf
  have hl := lv_entry ([.ref h0]) (n := 3) (Nat.le_of_ble_eq_true rfl)
  rw [lg_entry_eq]
  generalize (lg_sl ([.ref h0]) ++ List.replicate (3 - (lg_sl ([.ref h0])).length) Slot.unset).toArray = ls at hl ⊢
  have hl : lv_has ls 3 [(0, .ref h0)] := hl
  refine lv_aload_n hx hb dX11_text_0 rfl (lv_at hl 0 rfl) ?_
  refine lv_iconst (v := 0) hx hb dX11_text_1 rfl ?_
  refine va_put (D := (dC, dI)) (ci := 11) (v := .int 0) (ty := .int) (C := RX11) (T := TX11) (N := 35) hx hb hg inG11 tyX11 tyX11_ok nmX11 hown hK.1 hP hD hS 0 rfl rfl 13 (Nat.le_of_ble_eq_true rfl) (hg _ wt_891) (fun _ h9 => h9) rfl (by decide +kernel) rfl rfl (Nat.le_of_ble_eq_true rfl) dX11_text_2 (fun H locs hP hD hS => ?_)
  refine lv_aload_n hx hb dX11_text_5 rfl (lv_at hl 0 rfl) ?_
  refine lv_iconst (v := 0) hx hb dX11_text_6 rfl ?_
  refine va_put (D := (dC, dI)) (ci := 11) (v := .int 0) (ty := .int) (C := RX11) (T := TX11) (N := 35) hx hb hg inG11 tyX11 tyX11_ok nmX11 hown hK.1 hP hD hS 0 rfl rfl 15 (Nat.le_of_ble_eq_true rfl) (hg _ wt_893) (fun _ h9 => h9) rfl (by decide +kernel) rfl rfl (Nat.le_of_ble_eq_true rfl) dX11_text_7 (fun H locs hP hD hS => ?_)
  refine lv_aload_n hx hb dX11_text_10 rfl (lv_at hl 0 rfl) ?_
  refine lv_iconst (v := 0) hx hb dX11_text_11 rfl ?_
  refine va_put (D := (dC, dI)) (ci := 11) (v := .int 0) (ty := .int) (C := RX11) (T := TX11) (N := 35) hx hb hg inG11 tyX11 tyX11_ok nmX11 hown hK.1 hP hD hS 0 rfl rfl 4 (Nat.le_of_ble_eq_true rfl) (hg _ wt_882) (fun _ h9 => h9) rfl (by decide +kernel) rfl rfl (Nat.le_of_ble_eq_true rfl) dX11_text_12 (fun H locs hP hD hS => ?_)
  refine lv_aload_n hx hb dX11_text_15 rfl (lv_at hl 0 rfl) ?_
  refine lv_iconst (v := 0) hx hb dX11_text_16 rfl ?_
  refine va_put (D := (dC, dI)) (ci := 11) (v := .int 0) (ty := .int) (C := RX11) (T := TX11) (N := 35) hx hb hg inG11 tyX11 tyX11_ok nmX11 hown hK.1 hP hD hS 0 rfl rfl 5 (Nat.le_of_ble_eq_true rfl) (hg _ wt_883) (fun _ h9 => h9) rfl (by decide +kernel) rfl rfl (Nat.le_of_ble_eq_true rfl) dX11_text_17 (fun H locs hP hD hS => ?_)
  refine lv_aload_n hx hb dX11_text_20 rfl (lv_at hl 0 rfl) ?_
  refine lv_iconst (v := 0) hx hb dX11_text_21 rfl ?_
  refine va_put (D := (dC, dI)) (ci := 11) (v := .int 0) (ty := .boolean) (C := RX11) (T := TX11) (N := 35) hx hb hg inG11 tyX11 tyX11_ok nmX11 hown hK.1 hP hD hS 0 rfl rfl 6 (Nat.le_of_ble_eq_true rfl) (hg _ wt_884) (fun _ h9 => h9) rfl (by decide +kernel) rfl rfl (Nat.le_of_ble_eq_true rfl) dX11_text_22 (fun H locs hP hD hS => ?_)
  refine lv_aload_n hx hb dX11_text_25 rfl (lv_at hl 0 rfl) ?_
  refine lv_iconst (v := 0) hx hb dX11_text_26 rfl ?_
  refine va_put (D := (dC, dI)) (ci := 11) (v := .int 0) (ty := .int) (C := RX11) (T := TX11) (N := 35) hx hb hg inG11 tyX11 tyX11_ok nmX11 hown hK.1 hP hD hS 0 rfl rfl 7 (Nat.le_of_ble_eq_true rfl) (hg _ wt_885) (fun _ h9 => h9) rfl (by decide +kernel) rfl rfl (Nat.le_of_ble_eq_true rfl) dX11_text_27 (fun H locs hP hD hS => ?_)
  refine lv_aload_n hx hb dX11_text_30 rfl (lv_at hl 0 rfl) ?_
  refine lv_iconst (v := (-1)) hx hb dX11_text_31 rfl ?_
  refine va_put (D := (dC, dI)) (ci := 11) (v := .int (-1)) (ty := .int) (C := RX11) (T := TX11) (N := 35) hx hb hg inG11 tyX11 tyX11_ok nmX11 hown hK.1 hP hD hS 0 rfl rfl 8 (Nat.le_of_ble_eq_true rfl) (hg _ wt_886) (fun _ h9 => h9) rfl (by decide +kernel) rfl rfl (Nat.le_of_ble_eq_true rfl) dX11_text_32 (fun H locs hP hD hS => ?_)
  refine lv_aload_n hx hb dX11_text_35 rfl (lv_at hl 0 rfl) ?_
  refine lv_iconst (v := (-1)) hx hb dX11_text_36 rfl ?_
  refine va_put (D := (dC, dI)) (ci := 11) (v := .int (-1)) (ty := .int) (C := RX11) (T := TX11) (N := 35) hx hb hg inG11 tyX11 tyX11_ok nmX11 hown hK.1 hP hD hS 0 rfl rfl 9 (Nat.le_of_ble_eq_true rfl) (hg _ wt_887) (fun _ h9 => h9) rfl (by decide +kernel) rfl rfl (Nat.le_of_ble_eq_true rfl) dX11_text_37 (fun H locs hP hD hS => ?_)
  refine lv_iconst (v := 0) hx hb dX11_text_40 rfl ?_
  refine lv_istore_n (lv' := [(1, .int 0), (0, .ref h0)]) hx hb dX11_text_41 rfl hl (by decide) rfl (fun ls hl => ?_)
  refine lv_iconst (v := 0) hx hb dX11_text_42 rfl ?_
  refine lv_istore_n (lv' := [(2, .int 0), (1, .int 0), (0, .ref h0)]) hx hb dX11_text_43 rfl hl (by decide) rfl (fun ls hl => ?_)
  have loop44_3 : ∀ (nf j1 : Nat), 49 + 1 ≤ j1 + nf → j1 ≤ 49 → ∀ (g2 : Nat → Int32) (H : Heap) (locs : List Loc), g2 = zpF j1 frp → va_P (dC, dI) vwCl [(h0, .inr (11, [.ref st, .int (nI N), .int (nI B), .ref rp, .int 0, .int 0, .int 0, .int 0, .int (-1), .int (-1), .ref tp, .int (nI T), .int vfa, .int 0, .int vba, .int 0, .int (nI nhe), .int vtk, .int vva, .ref cu, .ref lt, .ref od, .ref th, .ref be, .ref ln, .int (nI S), .ref ma, .int (nI M), .ref ah, .ref bh, .ref ik, .ref la, .ref lg, .ref ce, .int vto])), (tp, .inl (G 0, 320, .inl ftp)), (cu, .inl (G 0, 11, .inl fcu)), (lt, .inl (G 0, 54, .inl flt)), (rp, .inl (G 0, 49, .inl g2)), (st, .inl (G 0, 196, .inl fst)), (ik, .inl (G 2, 2, .inl fik))] H → va_D A [(h0, .inr (11, [.ref st, .int (nI N), .int (nI B), .ref rp, .int 0, .int 0, .int 0, .int 0, .int (-1), .int (-1), .ref tp, .int (nI T), .int vfa, .int 0, .int vba, .int 0, .int (nI nhe), .int vtk, .int vva, .ref cu, .ref lt, .ref od, .ref th, .ref be, .ref ln, .int (nI S), .ref ma, .int (nI M), .ref ah, .ref bh, .ref ik, .ref la, .ref lg, .ref ce, .int vto])), (tp, .inl (G 0, 320, .inl ftp)), (cu, .inl (G 0, 11, .inl fcu)), (lt, .inl (G 0, 54, .inl flt)), (rp, .inl (G 0, 49, .inl g2)), (st, .inl (G 0, 196, .inl fst)), (ik, .inl (G 2, 2, .inl fik))] → va_S A s.heap H locs → ∀ (ls : Array Slot), lv_has ls 3 [(2, .int (nI j1)), (1, .int 0), (0, .ref h0)] → W p l e (headSpec (Cond.code yX11_text cX11_text 3 (some .int) :: GT) ({ frames := 5, cells := 0, slots := 0, locals := 114 } : Room)).room s m ([.ref h0] : List Value).toArray below meth c H locs 0 0 (MQ below (va_Qi (fun (r : Int32) (u : Int32 × Int32 × Int32 × Nat × Int32 × Int32 × Int32 × Int32 × Int32 × Int32 × Int32 × Int32 × Int32 × Nat × Nat × Nat × Nat × Nat × (Nat → Int32) × (Nat → Int32) × (Nat → Int32)) => match u with | (obr, oba, osp, ohe, otk, ova, ors, orb, ohs, oca, oxs, oxb, ofa, oT, oN, oB, oS, oM, orp, ost, oik) => (r = (if 0 < (txE (txQ ftp T vba nhe vtk vva frp).1).1.toInt then (-10) - (txE (txQ ftp T vba nhe vtk vva frp).1).2.1 else nI (txQ ftp T vba nhe vtk vva frp).2)) ∧ (OKS ost ∧ (oN ≤ 10 ∧ oB ≤ 6 ∧ (oN = 0 ∨ 0 < oB) ∧ oT = 0 ∧ oS ≤ 8 ∧ oM ≤ 6 ∧ ohe ≤ 320)) ∧ ofa = (txE (txQ ftp T vba nhe vtk vva frp).1).1 ∧ oN = (if 0 < (txE (txQ ftp T vba nhe vtk vva frp).1).1.toInt then N else (txQ ftp T vba nhe vtk vva frp).1.2.1) ∧ oB = (if 0 < (txE (txQ ftp T vba nhe vtk vva frp).1).1.toInt then B else (txQ ftp T vba nhe vtk vva frp).1.2.2.1) ∧ oS = (if 0 < (txE (txQ ftp T vba nhe vtk vva frp).1).1.toInt then S else 0) ∧ oM = (if 0 < (txE (txQ ftp T vba nhe vtk vva frp).1).1.toInt then M else 0) ∧ ost = (if 0 < (txE (txQ ftp T vba nhe vtk vva frp).1).1.toInt then fst else cpF 49 (txQ ftp T vba nhe vtk vva frp).1.2.2.2.2.2.2.2 fst) ∧ oik = (if 0 < (txE (txQ ftp T vba nhe vtk vva frp).1).1.toInt then fik else upd (upd fik 0 0) 1 0)) (fun (u : Int32 × Int32 × Int32 × Nat × Int32 × Int32 × Int32 × Int32 × Int32 × Int32 × Int32 × Int32 × Int32 × Nat × Nat × Nat × Nat × Nat × (Nat → Int32) × (Nat → Int32) × (Nat → Int32)) (t : State) => match u with | (obr, oba, osp, ohe, otk, ova, ors, orb, ohs, oca, oxs, oxb, ofa, oT, oN, oB, oS, oM, orp, ost, oik) => va_P (dC, dI) vwCl [(h0, .inr (11, [.ref st, .int (nI oN), .int (nI oB), .ref rp, .int ors, .int orb, .int ohs, .int oca, .int oxs, .int oxb, .ref tp, .int (nI oT), .int ofa, .int obr, .int oba, .int osp, .int (nI ohe), .int otk, .int ova, .ref cu, .ref lt, .ref od, .ref th, .ref be, .ref ln, .int (nI oS), .ref ma, .int (nI oM), .ref ah, .ref bh, .ref ik, .ref la, .ref lg, .ref ce, .int vto])), (tp, .inl (G 0, 320, .inl ftp)), (cu, .inl (G 0, 11, .inl fcu)), (lt, .inl (G 0, 54, .inl flt)), (rp, .inl (G 0, 49, .inl orp)), (st, .inl (G 0, 196, .inl ost)), (ik, .inl (G 2, 2, .inl oik))] t.heap ∧ va_D A [(h0, .inr (11, [.ref st, .int (nI oN), .int (nI oB), .ref rp, .int ors, .int orb, .int ohs, .int oca, .int oxs, .int oxb, .ref tp, .int (nI oT), .int ofa, .int obr, .int oba, .int osp, .int (nI ohe), .int otk, .int ova, .ref cu, .ref lt, .ref od, .ref th, .ref be, .ref ln, .int (nI oS), .ref ma, .int (nI oM), .ref ah, .ref bh, .ref ik, .ref la, .ref lg, .ref ce, .int vto])), (tp, .inl (G 0, 320, .inl ftp)), (cu, .inl (G 0, 11, .inl fcu)), (lt, .inl (G 0, 54, .inl flt)), (rp, .inl (G 0, 49, .inl orp)), (st, .inl (G 0, 196, .inl ost)), (ik, .inl (G 2, 2, .inl oik))]) A) ([.ref h0] : List Value).toArray s 0 0 A) (F0 m 44 ls []) := by
    intro nf
    induction nf with
    | zero => intro j1 h1 h2; exact absurd h1 (by omega)
    | succ nf ih44_3 =>
      intro j1 hn4 hj5 g2 H locs hinv hP hD hS ls hl
      refine lv_iload_n hx hb dX11_text_44 rfl (lv_at hl 0 rfl) ?_
      refine lv_bipush (v := 49) hx hb dX11_text_45 rfl ?_
      refine lv_icmp_ge (tgt := 63) hx hb dX11_text_47 rfl (fun c6 => ?_) (fun c6 => ?_)
      · skip
        have tn1392_ : nIT j1 := fun _ => nI_toInt (by first | omega | (have t := leI c6; omega))
        have n7 : 49 ≤ j1 := by have t := leI c6; rw [show (nI (j1)).toInt = ((j1 : Nat) : Int) from tn1392_ ()] at t; have : (49 : Int32).toInt = 49 := qI_49; omega
        have hrp : OKP g2 := OKP.zero (fun q9 h9 => by rw [hinv]; show (if q9 < j1 then (0 : Int32) else frp q9) = 0; rw [if_pos (by omega)])
        have hz9 : g2 = zpF 49 frp := (by rw [hinv, show j1 = 49 by omega])
        refine lv_aload_n hx hb dX11_text_63 rfl (lv_at hl 2 rfl) ?_
        obtain ⟨hPc, hDc, hFc⟩ := va_sub3 (ws' := [(h0, .inr (11, [.ref st, .int (nI N), .int (nI B), .ref rp, .int 0, .int 0, .int 0, .int 0, .int (-1), .int (-1), .ref tp, .int (nI T), .int vfa, .int 0, .int vba, .int 0, .int (nI nhe), .int vtk, .int vva, .ref cu, .ref lt, .ref od, .ref th, .ref be, .ref ln, .int (nI S), .ref ma, .int (nI M), .ref ah, .ref bh, .ref ik, .ref la, .ref lg, .ref ce, .int vto])), (tp, .inl (G 0, 320, .inl ftp))]) hP hD hS hA [0, 1] (by decide +kernel) rfl
        have tn1393_ : nIT nhe := fun _ => nI_toInt (by first | omega | (have t_hj5 := hj5; have t_n7 := n7; omega))
        refine va_callv (va_runV (As := []) (rest := []) ⟨hx, hb, hml, hown, hg⟩ (c_X11_goesOnE l dC dI G _ h0 st N B rp tp T 0 nhe cu lt od th be ln S ma M ah bh ik la lg ce 0 0 0 0 (-1) (-1) vfa 0 vba vtk vva vto ftp hN hB_ hT_ hS0 hM_ (by have t_hj5 := hj5; have t_n7 := n7; have tnb_ := nib7 tn1387_ tn1388_ tn1389_ tn1393_ tn1390_ tn1391_ tn1392_; have tqz_ := qz41_; omega) (by first | omega | (have t_hj5 := hj5; have t_n7 := n7; have tnb_ := nib7 tn1387_ tn1388_ tn1389_ tn1393_ tn1390_ tn1391_ tn1392_; have tqz_ := qz41_; omega)) (by have t_hj5 := hj5; have t_n7 := n7; have tnb_ := nib7 tn1387_ tn1388_ tn1389_ tn1393_ tn1390_ tn1391_ tn1392_; have tqz_ := qz41_; omega) htb) (kwV hg mfX11_goesOn wt_999 ⟨Nat.le_of_ble_eq_true rfl, Nat.le_of_ble_eq_true rfl⟩) (preVW hK hPc hDc (ci := 11) (r := (RX11, TX11, 35)) rfl rfl) rfl rfl hl.1 rfl (lv_room (Nat.le_of_ble_eq_true rfl)) dX11_text_64 ⟨Nat.le_of_ble_eq_true rfl, Nat.le_of_ble_eq_true rfl⟩) hS (fun q _ h => hFc q h) hFc (fun ur8 t H1 locs ht hvm w9 hB hz1 hk1 hS => ?_)
        obtain ⟨u10, u11, u12, u13, u14, u15⟩ := ur8
        obtain ⟨hP1, hD1⟩ := hB
        rw [ht] at hP1
        obtain ⟨hP, hD⟩ := va_join (wr := [(cu, .inl (G 0, 11, .inl fcu)), (lt, .inl (G 0, 54, .inl flt)), (rp, .inl (G 0, 49, .inl g2)), (st, .inl (G 0, 196, .inl fst)), (ik, .inl (G 2, 2, .inl fik))]) (w1 := [(h0, .inr (11, [.ref st, .int (nI N), .int (nI B), .ref rp, .int 0, .int 0, .int 0, .int 0, .int (-1), .int (-1), .ref tp, .int (nI T), .int vfa, .int u10, .int u11, .int (nI u12), .int (nI u13), .int u14, .int u15, .ref cu, .ref lt, .ref od, .ref th, .ref be, .ref ln, .int (nI S), .ref ma, .int (nI M), .ref ah, .ref bh, .ref ik, .ref la, .ref lg, .ref ce, .int vto])), (tp, .inl (G 0, 320, .inl ftp))]) hP hD [0, 1] [2, 3, 4, 5, 6] rfl rfl (by decide +kernel) (by decide +kernel) hk1 hFc hP1 hD1
        have w9 : 0 ≤ u10.toInt ∧ ((0 : Int32).toInt = 0 ∨ u10.toInt = (0 : Int32).toInt) ∧ 0 ≤ u12 ∧ u12 ≤ T ∧ u13 ≤ u12 ∧ (0 < (0 : Int32).toInt ∨ u14.toInt = 0 ∨ 0 < u12) ∧ (u10, u11, u12, u13, u14, u15) = gOn ftp T (0 : Int32) vba 0 nhe vtk vva := w9
        generalize H1 = H at hP hS ⊢
        have ew9 : gT ftp T (0, vba, 0, nhe, vtk, vva) = (u10, u11, u12, u13, u14, u15) := w9.2.2.2.2.2.2.symm
        have hq0 : (u10, u11, u12, u13, u14, u15) = gOn ftp T 0 vba 0 nhe vtk vva := w9.2.2.2.2.2.2
        have loop67_35 : ∀ (nf : Nat) (k17 : Nat) (k19 : Nat) (y20 : Int32) (y21 : Int32) (y22 : Int32) (y23 : Int32) (k25 : Nat) (k27 : Nat) (y28 : Int32) (y29 : Int32) (y30 : Int32) (y31 : Int32) (g32 : Nat → Int32) (k34 : Nat), (T - k17) < nf → (OKP g32 ∧ (0 ≤ y20.toInt ∧ k17 ≤ T ∧ k19 ≤ k17 ∧ (k25 ≤ 11 ∧ (0 < y20.toInt ∨ k25 ≤ 10)) ∧ k27 ≤ 6) ∧ (k34 ≤ 321 ∧ (0 < y20.toInt ∨ k34 ≤ k17)) ∧ lpS ftp T (400 - k34) ((y20, y21, k17, k19, y22, y23), k25, k27, y28, y29, y30, y31, g32) k34 = lpS ftp T 400 ((u10, u11, u12, u13, u14, u15), 0, 0, 0, 0, (-1), (-1), g2) 0) → ∀ (H : Heap) (locs : List Loc), va_P (dC, dI) vwCl [(cu, .inl (G 0, 11, .inl fcu)), (lt, .inl (G 0, 54, .inl flt)), (rp, .inl (G 0, 49, .inl g32)), (st, .inl (G 0, 196, .inl fst)), (ik, .inl (G 2, 2, .inl fik)), (h0, .inr (11, [.ref st, .int (nI N), .int (nI B), .ref rp, .int (nI k25), .int (nI k27), .int y28, .int y29, .int y30, .int y31, .ref tp, .int (nI T), .int vfa, .int y20, .int y21, .int (nI k17), .int (nI k19), .int y22, .int y23, .ref cu, .ref lt, .ref od, .ref th, .ref be, .ref ln, .int (nI S), .ref ma, .int (nI M), .ref ah, .ref bh, .ref ik, .ref la, .ref lg, .ref ce, .int vto])), (tp, .inl (G 0, 320, .inl ftp))] H → va_D A [(cu, .inl (G 0, 11, .inl fcu)), (lt, .inl (G 0, 54, .inl flt)), (rp, .inl (G 0, 49, .inl g32)), (st, .inl (G 0, 196, .inl fst)), (ik, .inl (G 2, 2, .inl fik)), (h0, .inr (11, [.ref st, .int (nI N), .int (nI B), .ref rp, .int (nI k25), .int (nI k27), .int y28, .int y29, .int y30, .int y31, .ref tp, .int (nI T), .int vfa, .int y20, .int y21, .int (nI k17), .int (nI k19), .int y22, .int y23, .ref cu, .ref lt, .ref od, .ref th, .ref be, .ref ln, .int (nI S), .ref ma, .int (nI M), .ref ah, .ref bh, .ref ik, .ref la, .ref lg, .ref ce, .int vto])), (tp, .inl (G 0, 320, .inl ftp))] → va_S A s.heap H locs → ∀ (ls : Array Slot), lv_has ls 3 [(2, .int (nI j1)), (1, .int (nI k34)), (0, .ref h0)] → W p l e (headSpec (Cond.code yX11_text cX11_text 3 (some .int) :: GT) ({ frames := 5, cells := 0, slots := 0, locals := 114 } : Room)).room s m ([.ref h0] : List Value).toArray below meth c H locs 0 0 (MQ below (va_Qi (fun (r : Int32) (u : Int32 × Int32 × Int32 × Nat × Int32 × Int32 × Int32 × Int32 × Int32 × Int32 × Int32 × Int32 × Int32 × Nat × Nat × Nat × Nat × Nat × (Nat → Int32) × (Nat → Int32) × (Nat → Int32)) => match u with | (obr, oba, osp, ohe, otk, ova, ors, orb, ohs, oca, oxs, oxb, ofa, oT, oN, oB, oS, oM, orp, ost, oik) => (r = (if 0 < (txE (txQ ftp T vba nhe vtk vva frp).1).1.toInt then (-10) - (txE (txQ ftp T vba nhe vtk vva frp).1).2.1 else nI (txQ ftp T vba nhe vtk vva frp).2)) ∧ (OKS ost ∧ (oN ≤ 10 ∧ oB ≤ 6 ∧ (oN = 0 ∨ 0 < oB) ∧ oT = 0 ∧ oS ≤ 8 ∧ oM ≤ 6 ∧ ohe ≤ 320)) ∧ ofa = (txE (txQ ftp T vba nhe vtk vva frp).1).1 ∧ oN = (if 0 < (txE (txQ ftp T vba nhe vtk vva frp).1).1.toInt then N else (txQ ftp T vba nhe vtk vva frp).1.2.1) ∧ oB = (if 0 < (txE (txQ ftp T vba nhe vtk vva frp).1).1.toInt then B else (txQ ftp T vba nhe vtk vva frp).1.2.2.1) ∧ oS = (if 0 < (txE (txQ ftp T vba nhe vtk vva frp).1).1.toInt then S else 0) ∧ oM = (if 0 < (txE (txQ ftp T vba nhe vtk vva frp).1).1.toInt then M else 0) ∧ ost = (if 0 < (txE (txQ ftp T vba nhe vtk vva frp).1).1.toInt then fst else cpF 49 (txQ ftp T vba nhe vtk vva frp).1.2.2.2.2.2.2.2 fst) ∧ oik = (if 0 < (txE (txQ ftp T vba nhe vtk vva frp).1).1.toInt then fik else upd (upd fik 0 0) 1 0)) (fun (u : Int32 × Int32 × Int32 × Nat × Int32 × Int32 × Int32 × Int32 × Int32 × Int32 × Int32 × Int32 × Int32 × Nat × Nat × Nat × Nat × Nat × (Nat → Int32) × (Nat → Int32) × (Nat → Int32)) (t : State) => match u with | (obr, oba, osp, ohe, otk, ova, ors, orb, ohs, oca, oxs, oxb, ofa, oT, oN, oB, oS, oM, orp, ost, oik) => va_P (dC, dI) vwCl [(h0, .inr (11, [.ref st, .int (nI oN), .int (nI oB), .ref rp, .int ors, .int orb, .int ohs, .int oca, .int oxs, .int oxb, .ref tp, .int (nI oT), .int ofa, .int obr, .int oba, .int osp, .int (nI ohe), .int otk, .int ova, .ref cu, .ref lt, .ref od, .ref th, .ref be, .ref ln, .int (nI oS), .ref ma, .int (nI oM), .ref ah, .ref bh, .ref ik, .ref la, .ref lg, .ref ce, .int vto])), (tp, .inl (G 0, 320, .inl ftp)), (cu, .inl (G 0, 11, .inl fcu)), (lt, .inl (G 0, 54, .inl flt)), (rp, .inl (G 0, 49, .inl orp)), (st, .inl (G 0, 196, .inl ost)), (ik, .inl (G 2, 2, .inl oik))] t.heap ∧ va_D A [(h0, .inr (11, [.ref st, .int (nI oN), .int (nI oB), .ref rp, .int ors, .int orb, .int ohs, .int oca, .int oxs, .int oxb, .ref tp, .int (nI oT), .int ofa, .int obr, .int oba, .int osp, .int (nI ohe), .int otk, .int ova, .ref cu, .ref lt, .ref od, .ref th, .ref be, .ref ln, .int (nI oS), .ref ma, .int (nI oM), .ref ah, .ref bh, .ref ik, .ref la, .ref lg, .ref ce, .int vto])), (tp, .inl (G 0, 320, .inl ftp)), (cu, .inl (G 0, 11, .inl fcu)), (lt, .inl (G 0, 54, .inl flt)), (rp, .inl (G 0, 49, .inl orp)), (st, .inl (G 0, 196, .inl ost)), (ik, .inl (G 2, 2, .inl oik))]) A) ([.ref h0] : List Value).toArray s 0 0 A) (F0 m 67 ls []) := by
          intro nf
          induction nf with
          | zero => intro k17 k19 y20 y21 y22 y23 k25 k27 y28 y29 y30 y31 g32 k34 h1; exact absurd h1 (Nat.not_lt_zero _)
          | succ nf ih67_35 =>
            intro k17 k19 y20 y21 y22 y23 k25 k27 y28 y29 y30 y31 g32 k34 hm36 hinw H locs hP hD hS ls hl
            refine lv_aload_n hx hb dX11_text_67 rfl (lv_at hl 2 rfl) ?_
            refine va_get (D := (dC, dI)) (ci := 11) (v := .int y20) (C := RX11) (T := TX11) (N := 35) hx hb hg inG11 hown hK.1 hP 5 rfl rfl 13 (Nat.le_of_ble_eq_true rfl) (hg _ wt_891) (fun _ h9 => h9) rfl dX11_text_68 ?_
            refine lv_if_ne (tgt := 91) hx hb dX11_text_71 rfl (fun c37 => ?_) (fun c37 => ?_)
            · skip
              have tn1394_ : nIT k17 := fun _ => nI_toInt (by first | omega | (have t_hj5 := hj5; have t_n7 := n7; have t_hinw := hinw; have t_c37 := neI c37; have : (0 : Int32).toInt = 0 := qI_0; omega))
              have tn1395_ : nIT k19 := fun _ => nI_toInt (by first | omega | (have t_hj5 := hj5; have t_n7 := n7; have t_hinw := hinw; have t_c37 := neI c37; have : (0 : Int32).toInt = 0 := qI_0; omega))
              have tn1396_ : nIT k25 := fun _ => nI_toInt (by first | omega | (have t_hj5 := hj5; have t_n7 := n7; have t_hinw := hinw; have t_c37 := neI c37; have : (0 : Int32).toInt = 0 := qI_0; omega))
              have tn1397_ : nIT k27 := fun _ => nI_toInt (by first | omega | (have t_hj5 := hj5; have t_n7 := n7; have t_hinw := hinw; have t_c37 := neI c37; have : (0 : Int32).toInt = 0 := qI_0; omega))
              have tn1398_ : nIT k34 := fun _ => nI_toInt (by first | omega | (have t_hj5 := hj5; have t_n7 := n7; have t_hinw := hinw; have t_c37 := neI c37; have : (0 : Int32).toInt = 0 := qI_0; omega))
              have hL : txQ ftp T vba nhe vtk vva frp = (((y20, y21, k17, k19, y22, y23), k25, k27, y28, y29, y30, y31, g32), k34) := (by unfold txQ; rw [← hq0, ← hz9]; refine Eq.trans hinw.2.2.2.symm ?_; first | exact lpS_e0 (by first | with_reducible assumption | assumption) | exact lpS_e1 (by first | with_reducible assumption | assumption) (by first | with_reducible assumption | assumption))
              refine lv_aload_n hx hb dX11_text_91 rfl (lv_at hl 2 rfl) ?_
              refine va_get (D := (dC, dI)) (ci := 11) (v := .int y20) (C := RX11) (T := TX11) (N := 35) hx hb hg inG11 hown hK.1 hP 5 rfl rfl 13 (Nat.le_of_ble_eq_true rfl) (hg _ wt_891) (fun _ h9 => h9) rfl dX11_text_92 ?_
              refine lv_if_ne (tgt := 126) hx hb dX11_text_95 rfl (fun c38 => ?_) (fun c38 => ?_)
              · skip
                refine lv_aload_n hx hb dX11_text_126 rfl (lv_at hl 2 rfl) ?_
                refine va_get (D := (dC, dI)) (ci := 11) (v := .int y20) (C := RX11) (T := TX11) (N := 35) hx hb hg inG11 hown hK.1 hP 5 rfl rfl 13 (Nat.le_of_ble_eq_true rfl) (hg _ wt_891) (fun _ h9 => h9) rfl dX11_text_127 ?_
                refine lv_if_ne (tgt := 153) hx hb dX11_text_130 rfl (fun c39 => ?_) (fun c39 => ?_)
                · skip
                  refine lv_aload_n hx hb dX11_text_153 rfl (lv_at hl 2 rfl) ?_
                  refine lv_iconst (v := 0) hx hb dX11_text_154 rfl ?_
                  refine va_put (D := (dC, dI)) (ci := 11) (v := .int 0) (ty := .int) (C := RX11) (T := TX11) (N := 35) hx hb hg inG11 tyX11 tyX11_ok nmX11 hown hK.1 hP hD hS 5 rfl rfl 11 (Nat.le_of_ble_eq_true rfl) (hg _ wt_889) (fun _ h9 => h9) rfl (by decide +kernel) rfl rfl (Nat.le_of_ble_eq_true rfl) dX11_text_155 (fun H locs hP hD hS => ?_)
                  refine lv_aload_n hx hb dX11_text_158 rfl (lv_at hl 2 rfl) ?_
                  refine lv_aload_n hx hb dX11_text_159 rfl (lv_at hl 2 rfl) ?_
                  refine va_get (D := (dC, dI)) (ci := 11) (v := .int y20) (C := RX11) (T := TX11) (N := 35) hx hb hg inG11 hown hK.1 hP 5 rfl rfl 13 (Nat.le_of_ble_eq_true rfl) (hg _ wt_891) (fun _ h9 => h9) rfl dX11_text_160 ?_
                  refine va_put (D := (dC, dI)) (ci := 11) (v := .int y20) (ty := .int) (C := RX11) (T := TX11) (N := 35) hx hb hg inG11 tyX11 tyX11_ok nmX11 hown hK.1 hP hD hS 5 rfl rfl 12 (Nat.le_of_ble_eq_true rfl) (hg _ wt_890) (fun _ h9 => h9) rfl (by decide +kernel) rfl rfl (Nat.le_of_ble_eq_true rfl) dX11_text_163 (fun H locs hP hD hS => ?_)
                  refine lv_aload_n hx hb dX11_text_166 rfl (lv_at hl 2 rfl) ?_
                  refine va_get (D := (dC, dI)) (ci := 11) (v := .int y20) (C := RX11) (T := TX11) (N := 35) hx hb hg inG11 hown hK.1 hP 5 rfl rfl 13 (Nat.le_of_ble_eq_true rfl) (hg _ wt_891) (fun _ h9 => h9) rfl dX11_text_167 ?_
                  refine lv_if_le (tgt := 181) hx hb dX11_text_170 rfl (fun c40 => ?_) (fun c40 => ?_)
                  · skip
                    have t_hj5 := hj5
                    have t_n7 := n7
                    have t_hinw := hinw
                    have t_c37 := neI c37
                    have t_c38 := neI c38
                    have t_c39 := neI c39
                    have t_c40 := leI c40
                    have : (0 : Int32).toInt = 0 := qI_0
                    have t_n0 : (nI N).toInt = (N : Int) := tn1387_ ()
                    have t_n1 : (nI B).toInt = (B : Int) := tn1388_ ()
                    have t_n2 : (nI T).toInt = (T : Int) := tn1389_ ()
                    have t_n3 : (nI nhe).toInt = (nhe : Int) := tn1393_ ()
                    have t_n4 : (nI S).toInt = (S : Int) := tn1390_ ()
                    have t_n5 : (nI M).toInt = (M : Int) := tn1391_ ()
                    have t_n6 : (nI j1).toInt = (j1 : Int) := tn1392_ ()
                    have t_n7 : (nI k17).toInt = (k17 : Int) := tn1394_ ()
                    have t_n8 : (nI k19).toInt = (k19 : Int) := tn1395_ ()
                    have t_n9 : (nI k25).toInt = (k25 : Int) := tn1396_ ()
                    have t_n10 : (nI k27).toInt = (k27 : Int) := tn1397_ ()
                    have t_n11 : (nI k34).toInt = (k34 : Int) := tn1398_ ()
                    exfalso; omega
                  · skip
                    refine lv_bipush (v := (-10)) hx hb dX11_text_173 rfl ?_
                    refine lv_aload_n hx hb dX11_text_175 rfl (lv_at hl 2 rfl) ?_
                    refine va_get (D := (dC, dI)) (ci := 11) (v := .int y21) (C := RX11) (T := TX11) (N := 35) hx hb hg inG11 hown hK.1 hP 5 rfl rfl 14 (Nat.le_of_ble_eq_true rfl) (hg _ wt_892) (fun _ h9 => h9) rfl dX11_text_176 ?_
                    refine lv_isub hx hb dX11_text_179 ?_
                    have hpost : ((-10) - y21 : Int32) = (if 0 < (txE (txQ ftp T vba nhe vtk vva frp).1).1.toInt then (-10) - (txE (txQ ftp T vba nhe vtk vva frp).1).2.1 else nI (txQ ftp T vba nhe vtk vva frp).2) := by
                      rw [hL]
                      dsimp only
                      have eE : txE ((y20, y21, k17, k19, y22, y23), k25, k27, y28, y29, y30, y31, g32) = (y20, y21, k17, k19, y22, y23) := (by show be7 (be6 (y20, y21, k17, k19, y22, y23) k25 k27 y30 y31) k25 k27 = _; unfold be6; (try (repeat (first | rw [if_pos (by with_reducible assumption)] | rw [if_neg (by with_reducible assumption)] | rw [if_pos (by first | exact c37 | exact c38 | exact c39 | exact c40)] | rw [if_neg (by first | exact c37 | exact c38 | exact c39 | exact c40)] | rw [if_pos (by (have t_hj5 := hj5; have t_n7 := n7; have t_hinw := hinw; have t_c37 := neI c37; have t_c38 := neI c38; have t_c39 := neI c39; have t_c40 := nleI c40; have : (0 : Int32).toInt = 0 := qI_0; have tnb_ := nib12 tn1387_ tn1388_ tn1389_ tn1393_ tn1390_ tn1391_ tn1392_ tn1394_ tn1395_ tn1396_ tn1397_ tn1398_; have tqz_ := qz41_; omega))] | rw [if_neg (by (have t_hj5 := hj5; have t_n7 := n7; have t_hinw := hinw; have t_c37 := neI c37; have t_c38 := neI c38; have t_c39 := neI c39; have t_c40 := nleI c40; have : (0 : Int32).toInt = 0 := qI_0; have tnb_ := nib12 tn1387_ tn1388_ tn1389_ tn1393_ tn1390_ tn1391_ tn1392_ tn1394_ tn1395_ tn1396_ tn1397_ tn1398_; have tqz_ := qz41_; omega))] | rw [if_pos (by decide)] | rw [if_neg (by decide)] | rw [if_pos (by skip; assumption)] | rw [if_neg (by skip; assumption)]))); unfold be7; (try (repeat (first | rw [if_pos (by with_reducible assumption)] | rw [if_neg (by with_reducible assumption)] | rw [if_pos (by first | exact c37 | exact c38 | exact c39 | exact c40)] | rw [if_neg (by first | exact c37 | exact c38 | exact c39 | exact c40)] | rw [if_pos (by (have t_hj5 := hj5; have t_n7 := n7; have t_hinw := hinw; have t_c37 := neI c37; have t_c38 := neI c38; have t_c39 := neI c39; have t_c40 := nleI c40; have : (0 : Int32).toInt = 0 := qI_0; have tnb_ := nib12 tn1387_ tn1388_ tn1389_ tn1393_ tn1390_ tn1391_ tn1392_ tn1394_ tn1395_ tn1396_ tn1397_ tn1398_; have tqz_ := qz41_; omega))] | rw [if_neg (by (have t_hj5 := hj5; have t_n7 := n7; have t_hinw := hinw; have t_c37 := neI c37; have t_c38 := neI c38; have t_c39 := neI c39; have t_c40 := nleI c40; have : (0 : Int32).toInt = 0 := qI_0; have tnb_ := nib12 tn1387_ tn1388_ tn1389_ tn1393_ tn1390_ tn1391_ tn1392_ tn1394_ tn1395_ tn1396_ tn1397_ tn1398_; have tqz_ := qz41_; omega))] | rw [if_pos (by decide)] | rw [if_neg (by decide)] | rw [if_pos (by skip; assumption)] | rw [if_neg (by skip; assumption)]))); all_goals rfl)
                      rw [eE]
                      dsimp only
                      first | rw [if_pos (by (have t_hj5 := hj5; have t_n7 := n7; have t_hinw := hinw; have t_c37 := neI c37; have t_c38 := neI c38; have t_c39 := neI c39; have t_c40 := nleI c40; have : (0 : Int32).toInt = 0 := qI_0; have tnb_ := nib12 tn1387_ tn1388_ tn1389_ tn1393_ tn1390_ tn1391_ tn1392_ tn1394_ tn1395_ tn1396_ tn1397_ tn1398_; have tqz_ := qz41_; omega))] | rw [if_neg (by (have t_hj5 := hj5; have t_n7 := n7; have t_hinw := hinw; have t_c37 := neI c37; have t_c38 := neI c38; have t_c39 := neI c39; have t_c40 := nleI c40; have : (0 : Int32).toInt = 0 := qI_0; have tnb_ := nib12 tn1387_ tn1388_ tn1389_ tn1393_ tn1390_ tn1391_ tn1392_ tn1394_ tn1395_ tn1396_ tn1397_ tn1398_; have tqz_ := qz41_; omega))]
                    obtain ⟨hP9, hD9⟩ := va_sub2 (ws' := [(h0, .inr (11, [.ref st, .int (nI N), .int (nI B), .ref rp, .int (nI k25), .int (nI k27), .int y28, .int y29, .int y30, .int y31, .ref tp, .int 0, .int y20, .int y20, .int y21, .int (nI k17), .int (nI k19), .int y22, .int y23, .ref cu, .ref lt, .ref od, .ref th, .ref be, .ref ln, .int (nI S), .ref ma, .int (nI M), .ref ah, .ref bh, .ref ik, .ref la, .ref lg, .ref ce, .int vto])), (tp, .inl (G 0, 320, .inl ftp)), (cu, .inl (G 0, 11, .inl fcu)), (lt, .inl (G 0, 54, .inl flt)), (rp, .inl (G 0, 49, .inl g32)), (st, .inl (G 0, 196, .inl fst)), (ik, .inl (G 2, 2, .inl fik))]) hP hD [5, 6, 0, 1, 2, 3, 4] (by decide +kernel) rfl
                    refine W.widen (k := 0) (n := 0) (Nat.le_of_ble_eq_true rfl) (Nat.le_of_ble_eq_true rfl) ?_
                    exact W.iret (v := (-10) - y21) hx hb hr (fun t ht hW => ⟨⟨(-10) - y21, (y20, y21, (nI k17), k19, y22, y23, (nI k25), (nI k27), y28, y29, y30, y31, y20, 0, N, B, S, M, g32, fst, fik), rfl, ⟨hpost, ⟨⟨hst, (by have t_hj5 := hj5; have t_n7 := n7; have t_hinw := hinw; have t_c37 := neI c37; have t_c38 := neI c38; have t_c39 := neI c39; have t_c40 := nleI c40; have : (0 : Int32).toInt = 0 := qI_0; have tnb_ := nib12 tn1387_ tn1388_ tn1389_ tn1393_ tn1390_ tn1391_ tn1392_ tn1394_ tn1395_ tn1396_ tn1397_ tn1398_; have tqz_ := qz41_; omega)⟩, (by clear hpost; have t_hj5 := hj5; have t_n7 := n7; have t_hinw := hinw; have t_c37 := neI c37; have t_c38 := neI c38; have t_c39 := neI c39; have t_c40 := nleI c40; have : (0 : Int32).toInt = 0 := qI_0; have tnb_ := nib12 tn1387_ tn1388_ tn1389_ tn1393_ tn1390_ tn1391_ tn1392_ tn1394_ tn1395_ tn1396_ tn1397_ tn1398_; have tqz_ := qz41_; rw [hL]; dsimp only; have eE : txE ((y20, y21, k17, k19, y22, y23), k25, k27, y28, y29, y30, y31, g32) = (y20, y21, k17, k19, y22, y23) := (by show be7 (be6 (y20, y21, k17, k19, y22, y23) k25 k27 y30 y31) k25 k27 = _; unfold be6; (try (repeat (first | rw [if_pos (by with_reducible assumption)] | rw [if_neg (by with_reducible assumption)] | rw [if_pos (by omega)] | rw [if_neg (by omega)] | rw [if_pos (by decide)] | rw [if_neg (by decide)] | rw [if_pos (by skip; assumption)] | rw [if_neg (by skip; assumption)]))); unfold be7; (try (repeat (first | rw [if_pos (by with_reducible assumption)] | rw [if_neg (by with_reducible assumption)] | rw [if_pos (by omega)] | rw [if_neg (by omega)] | rw [if_pos (by decide)] | rw [if_neg (by decide)] | rw [if_pos (by skip; assumption)] | rw [if_neg (by skip; assumption)]))); all_goals rfl); rw [eE]; dsimp only; refine ⟨rfl, ?_, ?_, ?_, ?_, ?_, ?_⟩ <;> first | (rw [if_pos (by omega)]; done) | (rw [if_neg (by omega)]; first | done | rfl | exact hcp9))⟩⟩, ⟨by rw [ht]; exact hP9, hD9⟩⟩, hS.F ht⟩) hS.2.2 dX11_text_180
                · skip
                  have t_hj5 := hj5
                  have t_n7 := n7
                  have t_hinw := hinw
                  have t_c37 := neI c37
                  have t_c38 := neI c38
                  have t_c39 := eqI c39
                  have : (0 : Int32).toInt = 0 := qI_0
                  have t_n0 : (nI N).toInt = (N : Int) := tn1387_ ()
                  have t_n1 : (nI B).toInt = (B : Int) := tn1388_ ()
                  have t_n2 : (nI T).toInt = (T : Int) := tn1389_ ()
                  have t_n3 : (nI nhe).toInt = (nhe : Int) := tn1393_ ()
                  have t_n4 : (nI S).toInt = (S : Int) := tn1390_ ()
                  have t_n5 : (nI M).toInt = (M : Int) := tn1391_ ()
                  have t_n6 : (nI j1).toInt = (j1 : Int) := tn1392_ ()
                  have t_n7 : (nI k17).toInt = (k17 : Int) := tn1394_ ()
                  have t_n8 : (nI k19).toInt = (k19 : Int) := tn1395_ ()
                  have t_n9 : (nI k25).toInt = (k25 : Int) := tn1396_ ()
                  have t_n10 : (nI k27).toInt = (k27 : Int) := tn1397_ ()
                  have t_n11 : (nI k34).toInt = (k34 : Int) := tn1398_ ()
                  exfalso; omega
              · skip
                have t_hj5 := hj5
                have t_n7 := n7
                have t_hinw := hinw
                have t_c37 := neI c37
                have t_c38 := eqI c38
                have : (0 : Int32).toInt = 0 := qI_0
                have t_n0 : (nI N).toInt = (N : Int) := tn1387_ ()
                have t_n1 : (nI B).toInt = (B : Int) := tn1388_ ()
                have t_n2 : (nI T).toInt = (T : Int) := tn1389_ ()
                have t_n3 : (nI nhe).toInt = (nhe : Int) := tn1393_ ()
                have t_n4 : (nI S).toInt = (S : Int) := tn1390_ ()
                have t_n5 : (nI M).toInt = (M : Int) := tn1391_ ()
                have t_n6 : (nI j1).toInt = (j1 : Int) := tn1392_ ()
                have t_n7 : (nI k17).toInt = (k17 : Int) := tn1394_ ()
                have t_n8 : (nI k19).toInt = (k19 : Int) := tn1395_ ()
                have t_n9 : (nI k25).toInt = (k25 : Int) := tn1396_ ()
                have t_n10 : (nI k27).toInt = (k27 : Int) := tn1397_ ()
                have t_n11 : (nI k34).toInt = (k34 : Int) := tn1398_ ()
                exfalso; omega
            · skip
              refine lv_aload_n hx hb dX11_text_74 rfl (lv_at hl 2 rfl) ?_
              refine va_get (D := (dC, dI)) (ci := 11) (v := .int y22) (C := RX11) (T := TX11) (N := 35) hx hb hg inG11 hown hK.1 hP 5 rfl rfl 17 (Nat.le_of_ble_eq_true rfl) (hg _ wt_895) (fun _ h9 => h9) rfl dX11_text_75 ?_
              refine lv_if_eq (tgt := 91) hx hb dX11_text_78 rfl (fun c41 => ?_) (fun c41 => ?_)
              · skip
                have tn1399_ : nIT k17 := fun _ => nI_toInt (by first | omega | (have t_hj5 := hj5; have t_n7 := n7; have t_hinw := hinw; have t_c37 := eqI c37; have t_c41 := eqI c41; have : (0 : Int32).toInt = 0 := qI_0; omega))
                have tn1400_ : nIT k19 := fun _ => nI_toInt (by first | omega | (have t_hj5 := hj5; have t_n7 := n7; have t_hinw := hinw; have t_c37 := eqI c37; have t_c41 := eqI c41; have : (0 : Int32).toInt = 0 := qI_0; omega))
                have tn1401_ : nIT k25 := fun _ => nI_toInt (by first | omega | (have t_hj5 := hj5; have t_n7 := n7; have t_hinw := hinw; have t_c37 := eqI c37; have t_c41 := eqI c41; have : (0 : Int32).toInt = 0 := qI_0; omega))
                have tn1402_ : nIT k27 := fun _ => nI_toInt (by first | omega | (have t_hj5 := hj5; have t_n7 := n7; have t_hinw := hinw; have t_c37 := eqI c37; have t_c41 := eqI c41; have : (0 : Int32).toInt = 0 := qI_0; omega))
                have tn1403_ : nIT k34 := fun _ => nI_toInt (by first | omega | (have t_hj5 := hj5; have t_n7 := n7; have t_hinw := hinw; have t_c37 := eqI c37; have t_c41 := eqI c41; have : (0 : Int32).toInt = 0 := qI_0; omega))
                have hL : txQ ftp T vba nhe vtk vva frp = (((y20, y21, k17, k19, y22, y23), k25, k27, y28, y29, y30, y31, g32), k34) := (by unfold txQ; rw [← hq0, ← hz9]; refine Eq.trans hinw.2.2.2.symm ?_; first | exact lpS_e0 (by first | with_reducible assumption | assumption) | exact lpS_e1 (by first | with_reducible assumption | assumption) (by first | with_reducible assumption | assumption))
                refine lv_aload_n hx hb dX11_text_91 rfl (lv_at hl 2 rfl) ?_
                refine va_get (D := (dC, dI)) (ci := 11) (v := .int y20) (C := RX11) (T := TX11) (N := 35) hx hb hg inG11 hown hK.1 hP 5 rfl rfl 13 (Nat.le_of_ble_eq_true rfl) (hg _ wt_891) (fun _ h9 => h9) rfl dX11_text_92 ?_
                refine lv_if_ne (tgt := 126) hx hb dX11_text_95 rfl (fun c42 => ?_) (fun c42 => ?_)
                · skip
                  have t_hj5 := hj5
                  have t_n7 := n7
                  have t_hinw := hinw
                  have t_c37 := eqI c37
                  have t_c41 := eqI c41
                  have t_c42 := neI c42
                  have : (0 : Int32).toInt = 0 := qI_0
                  have t_n0 : (nI N).toInt = (N : Int) := tn1387_ ()
                  have t_n1 : (nI B).toInt = (B : Int) := tn1388_ ()
                  have t_n2 : (nI T).toInt = (T : Int) := tn1389_ ()
                  have t_n3 : (nI nhe).toInt = (nhe : Int) := tn1393_ ()
                  have t_n4 : (nI S).toInt = (S : Int) := tn1390_ ()
                  have t_n5 : (nI M).toInt = (M : Int) := tn1391_ ()
                  have t_n6 : (nI j1).toInt = (j1 : Int) := tn1392_ ()
                  have t_n7 : (nI k17).toInt = (k17 : Int) := tn1399_ ()
                  have t_n8 : (nI k19).toInt = (k19 : Int) := tn1400_ ()
                  have t_n9 : (nI k25).toInt = (k25 : Int) := tn1401_ ()
                  have t_n10 : (nI k27).toInt = (k27 : Int) := tn1402_ ()
                  have t_n11 : (nI k34).toInt = (k34 : Int) := tn1403_ ()
                  exfalso; omega
                · skip
                  refine lv_aload_n hx hb dX11_text_98 rfl (lv_at hl 2 rfl) ?_
                  refine va_get (D := (dC, dI)) (ci := 11) (v := .int y30) (C := RX11) (T := TX11) (N := 35) hx hb hg inG11 hown hK.1 hP 5 rfl rfl 8 (Nat.le_of_ble_eq_true rfl) (hg _ wt_886) (fun _ h9 => h9) rfl dX11_text_99 ?_
                  refine lv_aload_n hx hb dX11_text_102 rfl (lv_at hl 2 rfl) ?_
                  refine va_get (D := (dC, dI)) (ci := 11) (v := .int (nI k25)) (C := RX11) (T := TX11) (N := 35) hx hb hg inG11 hown hK.1 hP 5 rfl rfl 4 (Nat.le_of_ble_eq_true rfl) (hg _ wt_882) (fun _ h9 => h9) rfl dX11_text_103 ?_
                  refine lv_icmp_ge (tgt := 120) hx hb dX11_text_106 rfl (fun c43 => ?_) (fun c43 => ?_)
                  · skip
                    refine lv_aload_n hx hb dX11_text_120 rfl (lv_at hl 2 rfl) ?_
                    refine lv_bipush (v := 6) hx hb dX11_text_121 rfl ?_
                    obtain ⟨hPc, hDc, hFc⟩ := va_sub3 (ws' := [(h0, .inr (11, [.ref st, .int (nI N), .int (nI B), .ref rp, .int (nI k25), .int (nI k27), .int y28, .int y29, .int y30, .int y31, .ref tp, .int (nI T), .int vfa, .int y20, .int y21, .int (nI k17), .int (nI k19), .int y22, .int y23, .ref cu, .ref lt, .ref od, .ref th, .ref be, .ref ln, .int (nI S), .ref ma, .int (nI M), .ref ah, .ref bh, .ref ik, .ref la, .ref lg, .ref ce, .int vto]))]) hP hD hS hA [5] (by decide +kernel) rfl
                    refine va_callv (va_runV (As := [.int 6]) (rest := []) ⟨hx, hb, hml, hown, hg⟩ (c_X11_failsE l dC dI G _ h0 st N B rp tp T k19 cu lt od th be ln S ma M ah bh ik la lg ce 6 (nI k25) (nI k27) y28 y29 y30 y31 vfa y20 y21 (nI k17) y22 y23 vto hN hB_ hT_ hS0 hM_ (by have t_hj5 := hj5; have t_n7 := n7; have t_hinw := hinw; have t_c37 := eqI c37; have t_c41 := eqI c41; have t_c42 := eqI c42; have t_c43 := leI c43; have : (0 : Int32).toInt = 0 := qI_0; have tnb_ := nib12 tn1387_ tn1388_ tn1389_ tn1393_ tn1390_ tn1391_ tn1392_ tn1399_ tn1400_ tn1401_ tn1402_ tn1403_; have tqz_ := qz45_; omega) (by have t_hj5 := hj5; have t_n7 := n7; have t_hinw := hinw; have t_c37 := eqI c37; have t_c41 := eqI c41; have t_c42 := eqI c42; have t_c43 := leI c43; have : (0 : Int32).toInt = 0 := qI_0; have tnb_ := nib12 tn1387_ tn1388_ tn1389_ tn1393_ tn1390_ tn1391_ tn1392_ tn1399_ tn1400_ tn1401_ tn1402_ tn1403_; have tqz_ := qz45_; omega) (by first | omega | (have t_hj5 := hj5; have t_n7 := n7; have t_hinw := hinw; have t_c37 := eqI c37; have t_c41 := eqI c41; have t_c42 := eqI c42; have t_c43 := leI c43; have : (0 : Int32).toInt = 0 := qI_0; have tnb_ := nib12 tn1387_ tn1388_ tn1389_ tn1393_ tn1390_ tn1391_ tn1392_ tn1399_ tn1400_ tn1401_ tn1402_ tn1403_; have tqz_ := qz45_; omega))) (kwV hg mfX11_fails wt_1011 ⟨Nat.le_of_ble_eq_true rfl, Nat.le_of_ble_eq_true rfl⟩) (preVW hK hPc hDc (ci := 11) (r := (RX11, TX11, 35)) rfl rfl) rfl rfl hl.1 rfl (lv_room (Nat.le_of_ble_eq_true rfl)) dX11_text_123 ⟨Nat.le_of_ble_eq_true rfl, Nat.le_of_ble_eq_true rfl⟩) hS (fun q _ h => hFc q h) hFc (fun ur44 t H1 locs ht hvm w45 hB hz1 hk1 hS => ?_)
                    obtain ⟨u46, u47⟩ := ur44
                    obtain ⟨hP1, hD1⟩ := hB
                    rw [ht] at hP1
                    obtain ⟨hP, hD⟩ := va_join (wr := [(cu, .inl (G 0, 11, .inl fcu)), (lt, .inl (G 0, 54, .inl flt)), (rp, .inl (G 0, 49, .inl g32)), (st, .inl (G 0, 196, .inl fst)), (ik, .inl (G 2, 2, .inl fik)), (tp, .inl (G 0, 320, .inl ftp))]) (w1 := [(h0, .inr (11, [.ref st, .int (nI N), .int (nI B), .ref rp, .int (nI k25), .int (nI k27), .int y28, .int y29, .int y30, .int y31, .ref tp, .int (nI T), .int vfa, .int u46, .int u47, .int (nI k17), .int (nI k19), .int y22, .int y23, .ref cu, .ref lt, .ref od, .ref th, .ref be, .ref ln, .int (nI S), .ref ma, .int (nI M), .ref ah, .ref bh, .ref ik, .ref la, .ref lg, .ref ce, .int vto]))]) hP hD [5] [0, 1, 2, 3, 4, 6] rfl rfl (by decide +kernel) (by decide +kernel) hk1 hFc hP1 hD1
                    have w45 : 0 < u46.toInt ∧ u46 = flB (6 : Int32) y20 ∧ u47 = flA y20 y21 k19 := w45
                    generalize H1 = H at hP hS ⊢
                    have ew45 : fT 6 (y20, y21, k17, k19, y22, y23) = (u46, u47, k17, k19, y22, y23) := (by show (flB _ _, flA _ _ _, _, _, _, _) = _; rw [← w45.2.1, ← w45.2.2])
                    refine lv_aload_n hx hb dX11_text_126 rfl (lv_at hl 2 rfl) ?_
                    refine va_get (D := (dC, dI)) (ci := 11) (v := .int u46) (C := RX11) (T := TX11) (N := 35) hx hb hg inG11 hown hK.1 hP 6 rfl rfl 13 (Nat.le_of_ble_eq_true rfl) (hg _ wt_891) (fun _ h9 => h9) rfl dX11_text_127 ?_
                    refine lv_if_ne (tgt := 153) hx hb dX11_text_130 rfl (fun c48 => ?_) (fun c48 => ?_)
                    · skip
                      refine lv_aload_n hx hb dX11_text_153 rfl (lv_at hl 2 rfl) ?_
                      refine lv_iconst (v := 0) hx hb dX11_text_154 rfl ?_
                      refine va_put (D := (dC, dI)) (ci := 11) (v := .int 0) (ty := .int) (C := RX11) (T := TX11) (N := 35) hx hb hg inG11 tyX11 tyX11_ok nmX11 hown hK.1 hP hD hS 6 rfl rfl 11 (Nat.le_of_ble_eq_true rfl) (hg _ wt_889) (fun _ h9 => h9) rfl (by decide +kernel) rfl rfl (Nat.le_of_ble_eq_true rfl) dX11_text_155 (fun H locs hP hD hS => ?_)
                      refine lv_aload_n hx hb dX11_text_158 rfl (lv_at hl 2 rfl) ?_
                      refine lv_aload_n hx hb dX11_text_159 rfl (lv_at hl 2 rfl) ?_
                      refine va_get (D := (dC, dI)) (ci := 11) (v := .int u46) (C := RX11) (T := TX11) (N := 35) hx hb hg inG11 hown hK.1 hP 6 rfl rfl 13 (Nat.le_of_ble_eq_true rfl) (hg _ wt_891) (fun _ h9 => h9) rfl dX11_text_160 ?_
                      refine va_put (D := (dC, dI)) (ci := 11) (v := .int u46) (ty := .int) (C := RX11) (T := TX11) (N := 35) hx hb hg inG11 tyX11 tyX11_ok nmX11 hown hK.1 hP hD hS 6 rfl rfl 12 (Nat.le_of_ble_eq_true rfl) (hg _ wt_890) (fun _ h9 => h9) rfl (by decide +kernel) rfl rfl (Nat.le_of_ble_eq_true rfl) dX11_text_163 (fun H locs hP hD hS => ?_)
                      refine lv_aload_n hx hb dX11_text_166 rfl (lv_at hl 2 rfl) ?_
                      refine va_get (D := (dC, dI)) (ci := 11) (v := .int u46) (C := RX11) (T := TX11) (N := 35) hx hb hg inG11 hown hK.1 hP 6 rfl rfl 13 (Nat.le_of_ble_eq_true rfl) (hg _ wt_891) (fun _ h9 => h9) rfl dX11_text_167 ?_
                      refine lv_if_le (tgt := 181) hx hb dX11_text_170 rfl (fun c49 => ?_) (fun c49 => ?_)
                      · skip
                        have t_hj5 := hj5
                        have t_n7 := n7
                        have t_hinw := hinw
                        have t_c37 := eqI c37
                        have t_c41 := eqI c41
                        have t_c42 := eqI c42
                        have t_c43 := leI c43
                        have t_w45 := w45.1
                        have t_c48 := neI c48
                        have t_c49 := leI c49
                        have : (0 : Int32).toInt = 0 := qI_0
                        have t_n0 : (nI N).toInt = (N : Int) := tn1387_ ()
                        have t_n1 : (nI B).toInt = (B : Int) := tn1388_ ()
                        have t_n2 : (nI T).toInt = (T : Int) := tn1389_ ()
                        have t_n3 : (nI nhe).toInt = (nhe : Int) := tn1393_ ()
                        have t_n4 : (nI S).toInt = (S : Int) := tn1390_ ()
                        have t_n5 : (nI M).toInt = (M : Int) := tn1391_ ()
                        have t_n6 : (nI j1).toInt = (j1 : Int) := tn1392_ ()
                        have t_n7 : (nI k17).toInt = (k17 : Int) := tn1399_ ()
                        have t_n8 : (nI k19).toInt = (k19 : Int) := tn1400_ ()
                        have t_n9 : (nI k25).toInt = (k25 : Int) := tn1401_ ()
                        have t_n10 : (nI k27).toInt = (k27 : Int) := tn1402_ ()
                        have t_n11 : (nI k34).toInt = (k34 : Int) := tn1403_ ()
                        exfalso; omega
                      · skip
                        refine lv_bipush (v := (-10)) hx hb dX11_text_173 rfl ?_
                        refine lv_aload_n hx hb dX11_text_175 rfl (lv_at hl 2 rfl) ?_
                        refine va_get (D := (dC, dI)) (ci := 11) (v := .int u47) (C := RX11) (T := TX11) (N := 35) hx hb hg inG11 hown hK.1 hP 6 rfl rfl 14 (Nat.le_of_ble_eq_true rfl) (hg _ wt_892) (fun _ h9 => h9) rfl dX11_text_176 ?_
                        refine lv_isub hx hb dX11_text_179 ?_
                        have hpost : ((-10) - u47 : Int32) = (if 0 < (txE (txQ ftp T vba nhe vtk vva frp).1).1.toInt then (-10) - (txE (txQ ftp T vba nhe vtk vva frp).1).2.1 else nI (txQ ftp T vba nhe vtk vva frp).2) := by
                          rw [hL]
                          dsimp only
                          have eE : txE ((y20, y21, k17, k19, y22, y23), k25, k27, y28, y29, y30, y31, g32) = (u46, u47, k17, k19, y22, y23) := (by show be7 (be6 (y20, y21, k17, k19, y22, y23) k25 k27 y30 y31) k25 k27 = _; unfold be6; (try (repeat (first | rw [if_pos (by with_reducible assumption)] | rw [if_neg (by with_reducible assumption)] | rw [if_pos (by first | exact c37 | exact c41 | exact c42 | exact c43 | exact c48 | exact c49)] | rw [if_neg (by first | exact c37 | exact c41 | exact c42 | exact c43 | exact c48 | exact c49)] | rw [if_pos (by (have t_hj5 := hj5; have t_n7 := n7; have t_hinw := hinw; have t_c37 := eqI c37; have t_c41 := eqI c41; have t_c42 := eqI c42; have t_c43 := leI c43; have t_w45 := w45.1; have t_c48 := neI c48; have t_c49 := nleI c49; have : (0 : Int32).toInt = 0 := qI_0; have tnb_ := nib12 tn1387_ tn1388_ tn1389_ tn1393_ tn1390_ tn1391_ tn1392_ tn1399_ tn1400_ tn1401_ tn1402_ tn1403_; have tqz_ := qz41_; omega))] | rw [if_neg (by (have t_hj5 := hj5; have t_n7 := n7; have t_hinw := hinw; have t_c37 := eqI c37; have t_c41 := eqI c41; have t_c42 := eqI c42; have t_c43 := leI c43; have t_w45 := w45.1; have t_c48 := neI c48; have t_c49 := nleI c49; have : (0 : Int32).toInt = 0 := qI_0; have tnb_ := nib12 tn1387_ tn1388_ tn1389_ tn1393_ tn1390_ tn1391_ tn1392_ tn1399_ tn1400_ tn1401_ tn1402_ tn1403_; have tqz_ := qz41_; omega))] | rw [if_pos (by decide)] | rw [if_neg (by decide)] | rw [if_pos (by skip; assumption)] | rw [if_neg (by skip; assumption)]))); (try rw [ew45]); unfold be7; (try (repeat (first | rw [if_pos (by with_reducible assumption)] | rw [if_neg (by with_reducible assumption)] | rw [if_pos (by first | exact c37 | exact c41 | exact c42 | exact c43 | exact c48 | exact c49)] | rw [if_neg (by first | exact c37 | exact c41 | exact c42 | exact c43 | exact c48 | exact c49)] | rw [if_pos (by (have t_hj5 := hj5; have t_n7 := n7; have t_hinw := hinw; have t_c37 := eqI c37; have t_c41 := eqI c41; have t_c42 := eqI c42; have t_c43 := leI c43; have t_w45 := w45.1; have t_c48 := neI c48; have t_c49 := nleI c49; have : (0 : Int32).toInt = 0 := qI_0; have tnb_ := nib12 tn1387_ tn1388_ tn1389_ tn1393_ tn1390_ tn1391_ tn1392_ tn1399_ tn1400_ tn1401_ tn1402_ tn1403_; have tqz_ := qz41_; omega))] | rw [if_neg (by (have t_hj5 := hj5; have t_n7 := n7; have t_hinw := hinw; have t_c37 := eqI c37; have t_c41 := eqI c41; have t_c42 := eqI c42; have t_c43 := leI c43; have t_w45 := w45.1; have t_c48 := neI c48; have t_c49 := nleI c49; have : (0 : Int32).toInt = 0 := qI_0; have tnb_ := nib12 tn1387_ tn1388_ tn1389_ tn1393_ tn1390_ tn1391_ tn1392_ tn1399_ tn1400_ tn1401_ tn1402_ tn1403_; have tqz_ := qz41_; omega))] | rw [if_pos (by decide)] | rw [if_neg (by decide)] | rw [if_pos (by skip; assumption)] | rw [if_neg (by skip; assumption)]))); all_goals rfl)
                          rw [eE]
                          dsimp only
                          first | rw [if_pos (by (have t_hj5 := hj5; have t_n7 := n7; have t_hinw := hinw; have t_c37 := eqI c37; have t_c41 := eqI c41; have t_c42 := eqI c42; have t_c43 := leI c43; have t_w45 := w45.1; have t_c48 := neI c48; have t_c49 := nleI c49; have : (0 : Int32).toInt = 0 := qI_0; have tnb_ := nib12 tn1387_ tn1388_ tn1389_ tn1393_ tn1390_ tn1391_ tn1392_ tn1399_ tn1400_ tn1401_ tn1402_ tn1403_; have tqz_ := qz41_; omega))] | rw [if_neg (by (have t_hj5 := hj5; have t_n7 := n7; have t_hinw := hinw; have t_c37 := eqI c37; have t_c41 := eqI c41; have t_c42 := eqI c42; have t_c43 := leI c43; have t_w45 := w45.1; have t_c48 := neI c48; have t_c49 := nleI c49; have : (0 : Int32).toInt = 0 := qI_0; have tnb_ := nib12 tn1387_ tn1388_ tn1389_ tn1393_ tn1390_ tn1391_ tn1392_ tn1399_ tn1400_ tn1401_ tn1402_ tn1403_; have tqz_ := qz41_; omega))]
                        obtain ⟨hP9, hD9⟩ := va_sub2 (ws' := [(h0, .inr (11, [.ref st, .int (nI N), .int (nI B), .ref rp, .int (nI k25), .int (nI k27), .int y28, .int y29, .int y30, .int y31, .ref tp, .int 0, .int u46, .int u46, .int u47, .int (nI k17), .int (nI k19), .int y22, .int y23, .ref cu, .ref lt, .ref od, .ref th, .ref be, .ref ln, .int (nI S), .ref ma, .int (nI M), .ref ah, .ref bh, .ref ik, .ref la, .ref lg, .ref ce, .int vto])), (tp, .inl (G 0, 320, .inl ftp)), (cu, .inl (G 0, 11, .inl fcu)), (lt, .inl (G 0, 54, .inl flt)), (rp, .inl (G 0, 49, .inl g32)), (st, .inl (G 0, 196, .inl fst)), (ik, .inl (G 2, 2, .inl fik))]) hP hD [6, 5, 0, 1, 2, 3, 4] (by decide +kernel) rfl
                        refine W.widen (k := 0) (n := 0) (Nat.le_of_ble_eq_true rfl) (Nat.le_of_ble_eq_true rfl) ?_
                        exact W.iret (v := (-10) - u47) hx hb hr (fun t ht hW => ⟨⟨(-10) - u47, (u46, u47, (nI k17), k19, y22, y23, (nI k25), (nI k27), y28, y29, y30, y31, u46, 0, N, B, S, M, g32, fst, fik), rfl, ⟨hpost, ⟨⟨hst, (by have t_hj5 := hj5; have t_n7 := n7; have t_hinw := hinw; have t_c37 := eqI c37; have t_c41 := eqI c41; have t_c42 := eqI c42; have t_c43 := leI c43; have t_w45 := w45.1; have t_c48 := neI c48; have t_c49 := nleI c49; have : (0 : Int32).toInt = 0 := qI_0; have tnb_ := nib12 tn1387_ tn1388_ tn1389_ tn1393_ tn1390_ tn1391_ tn1392_ tn1399_ tn1400_ tn1401_ tn1402_ tn1403_; have tqz_ := qz41_; omega)⟩, (by clear hpost; have t_hj5 := hj5; have t_n7 := n7; have t_hinw := hinw; have t_c37 := eqI c37; have t_c41 := eqI c41; have t_c42 := eqI c42; have t_c43 := leI c43; have t_w45 := w45.1; have t_c48 := neI c48; have t_c49 := nleI c49; have : (0 : Int32).toInt = 0 := qI_0; have tnb_ := nib12 tn1387_ tn1388_ tn1389_ tn1393_ tn1390_ tn1391_ tn1392_ tn1399_ tn1400_ tn1401_ tn1402_ tn1403_; have tqz_ := qz41_; rw [hL]; dsimp only; have eE : txE ((y20, y21, k17, k19, y22, y23), k25, k27, y28, y29, y30, y31, g32) = (u46, u47, k17, k19, y22, y23) := (by show be7 (be6 (y20, y21, k17, k19, y22, y23) k25 k27 y30 y31) k25 k27 = _; unfold be6; (try (repeat (first | rw [if_pos (by with_reducible assumption)] | rw [if_neg (by with_reducible assumption)] | rw [if_pos (by omega)] | rw [if_neg (by omega)] | rw [if_pos (by decide)] | rw [if_neg (by decide)] | rw [if_pos (by skip; assumption)] | rw [if_neg (by skip; assumption)]))); (try rw [ew45]); unfold be7; (try (repeat (first | rw [if_pos (by with_reducible assumption)] | rw [if_neg (by with_reducible assumption)] | rw [if_pos (by omega)] | rw [if_neg (by omega)] | rw [if_pos (by decide)] | rw [if_neg (by decide)] | rw [if_pos (by skip; assumption)] | rw [if_neg (by skip; assumption)]))); all_goals rfl); rw [eE]; dsimp only; refine ⟨rfl, ?_, ?_, ?_, ?_, ?_, ?_⟩ <;> first | (rw [if_pos (by omega)]; done) | (rw [if_neg (by omega)]; first | done | rfl | exact hcp9))⟩⟩, ⟨by rw [ht]; exact hP9, hD9⟩⟩, hS.F ht⟩) hS.2.2 dX11_text_180
                    · skip
                      have t_hj5 := hj5
                      have t_n7 := n7
                      have t_hinw := hinw
                      have t_c37 := eqI c37
                      have t_c41 := eqI c41
                      have t_c42 := eqI c42
                      have t_c43 := leI c43
                      have t_w45 := w45.1
                      have t_c48 := eqI c48
                      have : (0 : Int32).toInt = 0 := qI_0
                      have t_n0 : (nI N).toInt = (N : Int) := tn1387_ ()
                      have t_n1 : (nI B).toInt = (B : Int) := tn1388_ ()
                      have t_n2 : (nI T).toInt = (T : Int) := tn1389_ ()
                      have t_n3 : (nI nhe).toInt = (nhe : Int) := tn1393_ ()
                      have t_n4 : (nI S).toInt = (S : Int) := tn1390_ ()
                      have t_n5 : (nI M).toInt = (M : Int) := tn1391_ ()
                      have t_n6 : (nI j1).toInt = (j1 : Int) := tn1392_ ()
                      have t_n7 : (nI k17).toInt = (k17 : Int) := tn1399_ ()
                      have t_n8 : (nI k19).toInt = (k19 : Int) := tn1400_ ()
                      have t_n9 : (nI k25).toInt = (k25 : Int) := tn1401_ ()
                      have t_n10 : (nI k27).toInt = (k27 : Int) := tn1402_ ()
                      have t_n11 : (nI k34).toInt = (k34 : Int) := tn1403_ ()
                      exfalso; omega
                  · skip
                    refine lv_aload_n hx hb dX11_text_109 rfl (lv_at hl 2 rfl) ?_
                    refine va_get (D := (dC, dI)) (ci := 11) (v := .int y31) (C := RX11) (T := TX11) (N := 35) hx hb hg inG11 hown hK.1 hP 5 rfl rfl 9 (Nat.le_of_ble_eq_true rfl) (hg _ wt_887) (fun _ h9 => h9) rfl dX11_text_110 ?_
                    refine lv_aload_n hx hb dX11_text_113 rfl (lv_at hl 2 rfl) ?_
                    refine va_get (D := (dC, dI)) (ci := 11) (v := .int (nI k27)) (C := RX11) (T := TX11) (N := 35) hx hb hg inG11 hown hK.1 hP 5 rfl rfl 5 (Nat.le_of_ble_eq_true rfl) (hg _ wt_883) (fun _ h9 => h9) rfl dX11_text_114 ?_
                    refine lv_icmp_lt (tgt := 126) hx hb dX11_text_117 rfl (fun c50 => ?_) (fun c50 => ?_)
                    · skip
                      refine lv_aload_n hx hb dX11_text_126 rfl (lv_at hl 2 rfl) ?_
                      refine va_get (D := (dC, dI)) (ci := 11) (v := .int y20) (C := RX11) (T := TX11) (N := 35) hx hb hg inG11 hown hK.1 hP 5 rfl rfl 13 (Nat.le_of_ble_eq_true rfl) (hg _ wt_891) (fun _ h9 => h9) rfl dX11_text_127 ?_
                      refine lv_if_ne (tgt := 153) hx hb dX11_text_130 rfl (fun c51 => ?_) (fun c51 => ?_)
                      · skip
                        have t_hj5 := hj5
                        have t_n7 := n7
                        have t_hinw := hinw
                        have t_c37 := eqI c37
                        have t_c41 := eqI c41
                        have t_c42 := eqI c42
                        have t_c43 := nleI c43
                        have t_c50 := ltI c50
                        have t_c51 := neI c51
                        have : (0 : Int32).toInt = 0 := qI_0
                        have t_n0 : (nI N).toInt = (N : Int) := tn1387_ ()
                        have t_n1 : (nI B).toInt = (B : Int) := tn1388_ ()
                        have t_n2 : (nI T).toInt = (T : Int) := tn1389_ ()
                        have t_n3 : (nI nhe).toInt = (nhe : Int) := tn1393_ ()
                        have t_n4 : (nI S).toInt = (S : Int) := tn1390_ ()
                        have t_n5 : (nI M).toInt = (M : Int) := tn1391_ ()
                        have t_n6 : (nI j1).toInt = (j1 : Int) := tn1392_ ()
                        have t_n7 : (nI k17).toInt = (k17 : Int) := tn1399_ ()
                        have t_n8 : (nI k19).toInt = (k19 : Int) := tn1400_ ()
                        have t_n9 : (nI k25).toInt = (k25 : Int) := tn1401_ ()
                        have t_n10 : (nI k27).toInt = (k27 : Int) := tn1402_ ()
                        have t_n11 : (nI k34).toInt = (k34 : Int) := tn1403_ ()
                        exfalso; omega
                      · skip
                        refine lv_aload_n hx hb dX11_text_133 rfl (lv_at hl 2 rfl) ?_
                        refine va_get (D := (dC, dI)) (ci := 11) (v := .int (nI k25)) (C := RX11) (T := TX11) (N := 35) hx hb hg inG11 hown hK.1 hP 5 rfl rfl 4 (Nat.le_of_ble_eq_true rfl) (hg _ wt_882) (fun _ h9 => h9) rfl dX11_text_134 ?_
                        refine lv_if_le (tgt := 153) hx hb dX11_text_137 rfl (fun c52 => ?_) (fun c52 => ?_)
                        · skip
                          have n53 : k25 ≤ 0 := by have t := leI c52; rw [show (nI (k25)).toInt = ((k25 : Nat) : Int) from tn1401_ ()] at t; have : (0 : Int32).toInt = 0 := qI_0; omega
                          refine lv_aload_n hx hb dX11_text_153 rfl (lv_at hl 2 rfl) ?_
                          refine lv_iconst (v := 0) hx hb dX11_text_154 rfl ?_
                          refine va_put (D := (dC, dI)) (ci := 11) (v := .int 0) (ty := .int) (C := RX11) (T := TX11) (N := 35) hx hb hg inG11 tyX11 tyX11_ok nmX11 hown hK.1 hP hD hS 5 rfl rfl 11 (Nat.le_of_ble_eq_true rfl) (hg _ wt_889) (fun _ h9 => h9) rfl (by decide +kernel) rfl rfl (Nat.le_of_ble_eq_true rfl) dX11_text_155 (fun H locs hP hD hS => ?_)
                          refine lv_aload_n hx hb dX11_text_158 rfl (lv_at hl 2 rfl) ?_
                          refine lv_aload_n hx hb dX11_text_159 rfl (lv_at hl 2 rfl) ?_
                          refine va_get (D := (dC, dI)) (ci := 11) (v := .int y20) (C := RX11) (T := TX11) (N := 35) hx hb hg inG11 hown hK.1 hP 5 rfl rfl 13 (Nat.le_of_ble_eq_true rfl) (hg _ wt_891) (fun _ h9 => h9) rfl dX11_text_160 ?_
                          refine va_put (D := (dC, dI)) (ci := 11) (v := .int y20) (ty := .int) (C := RX11) (T := TX11) (N := 35) hx hb hg inG11 tyX11 tyX11_ok nmX11 hown hK.1 hP hD hS 5 rfl rfl 12 (Nat.le_of_ble_eq_true rfl) (hg _ wt_890) (fun _ h9 => h9) rfl (by decide +kernel) rfl rfl (Nat.le_of_ble_eq_true rfl) dX11_text_163 (fun H locs hP hD hS => ?_)
                          refine lv_aload_n hx hb dX11_text_166 rfl (lv_at hl 2 rfl) ?_
                          refine va_get (D := (dC, dI)) (ci := 11) (v := .int y20) (C := RX11) (T := TX11) (N := 35) hx hb hg inG11 hown hK.1 hP 5 rfl rfl 13 (Nat.le_of_ble_eq_true rfl) (hg _ wt_891) (fun _ h9 => h9) rfl dX11_text_167 ?_
                          refine lv_if_le (tgt := 181) hx hb dX11_text_170 rfl (fun c54 => ?_) (fun c54 => ?_)
                          · skip
                            refine lv_iconst (v := 0) hx hb dX11_text_181 rfl ?_
                            refine lv_istore_n (lv' := [(2, .int 0), (1, .int (nI k34)), (0, .ref h0)]) hx hb dX11_text_182 rfl hl (by decide) rfl (fun ls hl => ?_)
                            have loop183_57 : ∀ (nf j55 : Nat), 49 + 1 ≤ j55 + nf → j55 ≤ 49 → ∀ (g56 : Nat → Int32) (H : Heap) (locs : List Loc), g56 = cpF j55 g32 fst → va_P (dC, dI) vwCl [(cu, .inl (G 0, 11, .inl fcu)), (lt, .inl (G 0, 54, .inl flt)), (rp, .inl (G 0, 49, .inl g32)), (st, .inl (G 0, 196, .inl g56)), (ik, .inl (G 2, 2, .inl fik)), (h0, .inr (11, [.ref st, .int (nI N), .int (nI B), .ref rp, .int (nI k25), .int (nI k27), .int y28, .int y29, .int y30, .int y31, .ref tp, .int 0, .int y20, .int y20, .int y21, .int (nI k17), .int (nI k19), .int y22, .int y23, .ref cu, .ref lt, .ref od, .ref th, .ref be, .ref ln, .int (nI S), .ref ma, .int (nI M), .ref ah, .ref bh, .ref ik, .ref la, .ref lg, .ref ce, .int vto])), (tp, .inl (G 0, 320, .inl ftp))] H → va_D A [(cu, .inl (G 0, 11, .inl fcu)), (lt, .inl (G 0, 54, .inl flt)), (rp, .inl (G 0, 49, .inl g32)), (st, .inl (G 0, 196, .inl g56)), (ik, .inl (G 2, 2, .inl fik)), (h0, .inr (11, [.ref st, .int (nI N), .int (nI B), .ref rp, .int (nI k25), .int (nI k27), .int y28, .int y29, .int y30, .int y31, .ref tp, .int 0, .int y20, .int y20, .int y21, .int (nI k17), .int (nI k19), .int y22, .int y23, .ref cu, .ref lt, .ref od, .ref th, .ref be, .ref ln, .int (nI S), .ref ma, .int (nI M), .ref ah, .ref bh, .ref ik, .ref la, .ref lg, .ref ce, .int vto])), (tp, .inl (G 0, 320, .inl ftp))] → va_S A s.heap H locs → ∀ (ls : Array Slot), lv_has ls 3 [(2, .int (nI j55)), (1, .int (nI k34)), (0, .ref h0)] → W p l e (headSpec (Cond.code yX11_text cX11_text 3 (some .int) :: GT) ({ frames := 5, cells := 0, slots := 0, locals := 114 } : Room)).room s m ([.ref h0] : List Value).toArray below meth c H locs 0 0 (MQ below (va_Qi (fun (r : Int32) (u : Int32 × Int32 × Int32 × Nat × Int32 × Int32 × Int32 × Int32 × Int32 × Int32 × Int32 × Int32 × Int32 × Nat × Nat × Nat × Nat × Nat × (Nat → Int32) × (Nat → Int32) × (Nat → Int32)) => match u with | (obr, oba, osp, ohe, otk, ova, ors, orb, ohs, oca, oxs, oxb, ofa, oT, oN, oB, oS, oM, orp, ost, oik) => (r = (if 0 < (txE (txQ ftp T vba nhe vtk vva frp).1).1.toInt then (-10) - (txE (txQ ftp T vba nhe vtk vva frp).1).2.1 else nI (txQ ftp T vba nhe vtk vva frp).2)) ∧ (OKS ost ∧ (oN ≤ 10 ∧ oB ≤ 6 ∧ (oN = 0 ∨ 0 < oB) ∧ oT = 0 ∧ oS ≤ 8 ∧ oM ≤ 6 ∧ ohe ≤ 320)) ∧ ofa = (txE (txQ ftp T vba nhe vtk vva frp).1).1 ∧ oN = (if 0 < (txE (txQ ftp T vba nhe vtk vva frp).1).1.toInt then N else (txQ ftp T vba nhe vtk vva frp).1.2.1) ∧ oB = (if 0 < (txE (txQ ftp T vba nhe vtk vva frp).1).1.toInt then B else (txQ ftp T vba nhe vtk vva frp).1.2.2.1) ∧ oS = (if 0 < (txE (txQ ftp T vba nhe vtk vva frp).1).1.toInt then S else 0) ∧ oM = (if 0 < (txE (txQ ftp T vba nhe vtk vva frp).1).1.toInt then M else 0) ∧ ost = (if 0 < (txE (txQ ftp T vba nhe vtk vva frp).1).1.toInt then fst else cpF 49 (txQ ftp T vba nhe vtk vva frp).1.2.2.2.2.2.2.2 fst) ∧ oik = (if 0 < (txE (txQ ftp T vba nhe vtk vva frp).1).1.toInt then fik else upd (upd fik 0 0) 1 0)) (fun (u : Int32 × Int32 × Int32 × Nat × Int32 × Int32 × Int32 × Int32 × Int32 × Int32 × Int32 × Int32 × Int32 × Nat × Nat × Nat × Nat × Nat × (Nat → Int32) × (Nat → Int32) × (Nat → Int32)) (t : State) => match u with | (obr, oba, osp, ohe, otk, ova, ors, orb, ohs, oca, oxs, oxb, ofa, oT, oN, oB, oS, oM, orp, ost, oik) => va_P (dC, dI) vwCl [(h0, .inr (11, [.ref st, .int (nI oN), .int (nI oB), .ref rp, .int ors, .int orb, .int ohs, .int oca, .int oxs, .int oxb, .ref tp, .int (nI oT), .int ofa, .int obr, .int oba, .int osp, .int (nI ohe), .int otk, .int ova, .ref cu, .ref lt, .ref od, .ref th, .ref be, .ref ln, .int (nI oS), .ref ma, .int (nI oM), .ref ah, .ref bh, .ref ik, .ref la, .ref lg, .ref ce, .int vto])), (tp, .inl (G 0, 320, .inl ftp)), (cu, .inl (G 0, 11, .inl fcu)), (lt, .inl (G 0, 54, .inl flt)), (rp, .inl (G 0, 49, .inl orp)), (st, .inl (G 0, 196, .inl ost)), (ik, .inl (G 2, 2, .inl oik))] t.heap ∧ va_D A [(h0, .inr (11, [.ref st, .int (nI oN), .int (nI oB), .ref rp, .int ors, .int orb, .int ohs, .int oca, .int oxs, .int oxb, .ref tp, .int (nI oT), .int ofa, .int obr, .int oba, .int osp, .int (nI ohe), .int otk, .int ova, .ref cu, .ref lt, .ref od, .ref th, .ref be, .ref ln, .int (nI oS), .ref ma, .int (nI oM), .ref ah, .ref bh, .ref ik, .ref la, .ref lg, .ref ce, .int vto])), (tp, .inl (G 0, 320, .inl ftp)), (cu, .inl (G 0, 11, .inl fcu)), (lt, .inl (G 0, 54, .inl flt)), (rp, .inl (G 0, 49, .inl orp)), (st, .inl (G 0, 196, .inl ost)), (ik, .inl (G 2, 2, .inl oik))]) A) ([.ref h0] : List Value).toArray s 0 0 A) (F0 m 183 ls []) := by
                              intro nf
                              induction nf with
                              | zero => intro j55 h1 h2; exact absurd h1 (by omega)
                              | succ nf ih183_57 =>
                                intro j55 hn58 hj59 g56 H locs hinv hP hD hS ls hl
                                refine lv_iload_n hx hb dX11_text_183 rfl (lv_at hl 0 rfl) ?_
                                refine lv_bipush (v := 49) hx hb dX11_text_184 rfl ?_
                                refine lv_icmp_ge (tgt := 207) hx hb dX11_text_186 rfl (fun c60 => ?_) (fun c60 => ?_)
                                · skip
                                  have tn1404_ : nIT j55 := fun _ => nI_toInt (by first | omega | (have t := leI c60; omega))
                                  have n61 : 49 ≤ j55 := by have t := leI c60; rw [show (nI (j55)).toInt = ((j55 : Nat) : Int) from tn1404_ ()] at t; have : (49 : Int32).toInt = 49 := qI_49; omega
                                  have hcp9 : g56 = cpF 49 g32 fst := (by rw [hinv, show j55 = 49 by omega])
                                  have hpg9 : OKP g32 := hinw.1
                                  refine lv_aload_n hx hb dX11_text_207 rfl (lv_at hl 2 rfl) ?_
                                  refine lv_aload_n hx hb dX11_text_208 rfl (lv_at hl 2 rfl) ?_
                                  refine va_get (D := (dC, dI)) (ci := 11) (v := .int (nI k25)) (C := RX11) (T := TX11) (N := 35) hx hb hg inG11 hown hK.1 hP 5 rfl rfl 4 (Nat.le_of_ble_eq_true rfl) (hg _ wt_882) (fun _ h9 => h9) rfl dX11_text_209 ?_
                                  refine va_put (D := (dC, dI)) (ci := 11) (v := .int (nI k25)) (ty := .int) (C := RX11) (T := TX11) (N := 35) hx hb hg inG11 tyX11 tyX11_ok nmX11 hown hK.1 hP hD hS 5 rfl rfl 1 (Nat.le_of_ble_eq_true rfl) (hg _ wt_879) (fun _ h9 => h9) rfl (by decide +kernel) rfl rfl (Nat.le_of_ble_eq_true rfl) dX11_text_212 (fun H locs hP hD hS => ?_)
                                  refine lv_aload_n hx hb dX11_text_215 rfl (lv_at hl 2 rfl) ?_
                                  refine lv_aload_n hx hb dX11_text_216 rfl (lv_at hl 2 rfl) ?_
                                  refine va_get (D := (dC, dI)) (ci := 11) (v := .int (nI k27)) (C := RX11) (T := TX11) (N := 35) hx hb hg inG11 hown hK.1 hP 5 rfl rfl 5 (Nat.le_of_ble_eq_true rfl) (hg _ wt_883) (fun _ h9 => h9) rfl dX11_text_217 ?_
                                  refine va_put (D := (dC, dI)) (ci := 11) (v := .int (nI k27)) (ty := .int) (C := RX11) (T := TX11) (N := 35) hx hb hg inG11 tyX11 tyX11_ok nmX11 hown hK.1 hP hD hS 5 rfl rfl 2 (Nat.le_of_ble_eq_true rfl) (hg _ wt_880) (fun _ h9 => h9) rfl (by decide +kernel) rfl rfl (Nat.le_of_ble_eq_true rfl) dX11_text_220 (fun H locs hP hD hS => ?_)
                                  refine lv_aload_n hx hb dX11_text_223 rfl (lv_at hl 2 rfl) ?_
                                  refine lv_iconst (v := 0) hx hb dX11_text_224 rfl ?_
                                  refine va_put (D := (dC, dI)) (ci := 11) (v := .int 0) (ty := .int) (C := RX11) (T := TX11) (N := 35) hx hb hg inG11 tyX11 tyX11_ok nmX11 hown hK.1 hP hD hS 5 rfl rfl 25 (Nat.le_of_ble_eq_true rfl) (hg _ wt_903) (fun _ h9 => h9) rfl (by decide +kernel) rfl rfl (Nat.le_of_ble_eq_true rfl) dX11_text_225 (fun H locs hP hD hS => ?_)
                                  refine lv_aload_n hx hb dX11_text_228 rfl (lv_at hl 2 rfl) ?_
                                  refine lv_iconst (v := 0) hx hb dX11_text_229 rfl ?_
                                  refine va_put (D := (dC, dI)) (ci := 11) (v := .int 0) (ty := .int) (C := RX11) (T := TX11) (N := 35) hx hb hg inG11 tyX11 tyX11_ok nmX11 hown hK.1 hP hD hS 5 rfl rfl 27 (Nat.le_of_ble_eq_true rfl) (hg _ wt_905) (fun _ h9 => h9) rfl (by decide +kernel) rfl rfl (Nat.le_of_ble_eq_true rfl) dX11_text_230 (fun H locs hP hD hS => ?_)
                                  refine lv_aload_n hx hb dX11_text_233 rfl (lv_at hl 2 rfl) ?_
                                  refine va_get (D := (dC, dI)) (ci := 11) (v := .ref ik) (C := RX11) (T := TX11) (N := 35) hx hb hg inG11 hown hK.1 hP 5 rfl rfl 30 (Nat.le_of_ble_eq_true rfl) (hg _ wt_908) (fun _ h9 => h9) rfl dX11_text_234 ?_
                                  refine lv_iconst (v := 0) hx hb dX11_text_237 rfl ?_
                                  refine lv_iconst (v := 0) hx hb dX11_text_238 rfl ?_
                                  refine va_zast hx hb hK.1 hP hD hS 4 2 rfl rfl (vp_in_iff.mpr ⟨by decide, by decide⟩) dX11_text_239 (fun H locs hP hD hS => ?_)
                                  refine lv_aload_n hx hb dX11_text_240 rfl (lv_at hl 2 rfl) ?_
                                  refine va_get (D := (dC, dI)) (ci := 11) (v := .ref ik) (C := RX11) (T := TX11) (N := 35) hx hb hg inG11 hown hK.1 hP 5 rfl rfl 30 (Nat.le_of_ble_eq_true rfl) (hg _ wt_908) (fun _ h9 => h9) rfl dX11_text_241 ?_
                                  refine lv_iconst (v := 1) hx hb dX11_text_244 rfl ?_
                                  refine lv_iconst (v := 0) hx hb dX11_text_245 rfl ?_
                                  refine va_zast hx hb hK.1 hP hD hS 4 2 rfl rfl (vp_in_iff.mpr ⟨by decide, by decide⟩) dX11_text_246 (fun H locs hP hD hS => ?_)
                                  refine lv_iload_n hx hb dX11_text_247 rfl (lv_at hl 1 rfl) ?_
                                  have hpost : (nI k34 : Int32) = (if 0 < (txE (txQ ftp T vba nhe vtk vva frp).1).1.toInt then (-10) - (txE (txQ ftp T vba nhe vtk vva frp).1).2.1 else nI (txQ ftp T vba nhe vtk vva frp).2) := by
                                    rw [hL]
                                    dsimp only
                                    have eE : txE ((y20, y21, k17, k19, y22, y23), k25, k27, y28, y29, y30, y31, g32) = (y20, y21, k17, k19, y22, y23) := (by show be7 (be6 (y20, y21, k17, k19, y22, y23) k25 k27 y30 y31) k25 k27 = _; unfold be6; (try (repeat (first | rw [if_pos (by with_reducible assumption)] | rw [if_neg (by with_reducible assumption)] | rw [if_pos (by first | exact c37 | exact c41 | exact c42 | exact c43 | exact c50 | exact c51 | exact c54)] | rw [if_neg (by first | exact c37 | exact c41 | exact c42 | exact c43 | exact c50 | exact c51 | exact c54)] | rw [if_pos (by (have t_hj5 := hj5; have t_n7 := n7; have t_hinw := hinw; have t_c37 := eqI c37; have t_c41 := eqI c41; have t_c42 := eqI c42; have t_c43 := nleI c43; have t_c50 := ltI c50; have t_c51 := eqI c51; have t_n53 := n53; have t_c54 := leI c54; have t_hj59 := hj59; have t_n61 := n61; have : (0 : Int32).toInt = 0 := qI_0; have tnb_ := nib13 tn1387_ tn1388_ tn1389_ tn1393_ tn1390_ tn1391_ tn1392_ tn1399_ tn1400_ tn1401_ tn1402_ tn1403_ tn1404_; have tqz_ := qz41_; omega))] | rw [if_neg (by (have t_hj5 := hj5; have t_n7 := n7; have t_hinw := hinw; have t_c37 := eqI c37; have t_c41 := eqI c41; have t_c42 := eqI c42; have t_c43 := nleI c43; have t_c50 := ltI c50; have t_c51 := eqI c51; have t_n53 := n53; have t_c54 := leI c54; have t_hj59 := hj59; have t_n61 := n61; have : (0 : Int32).toInt = 0 := qI_0; have tnb_ := nib13 tn1387_ tn1388_ tn1389_ tn1393_ tn1390_ tn1391_ tn1392_ tn1399_ tn1400_ tn1401_ tn1402_ tn1403_ tn1404_; have tqz_ := qz41_; omega))] | rw [if_pos (by decide)] | rw [if_neg (by decide)] | rw [if_pos (by skip; assumption)] | rw [if_neg (by skip; assumption)]))); unfold be7; (try (repeat (first | rw [if_pos (by with_reducible assumption)] | rw [if_neg (by with_reducible assumption)] | rw [if_pos (by first | exact c37 | exact c41 | exact c42 | exact c43 | exact c50 | exact c51 | exact c54)] | rw [if_neg (by first | exact c37 | exact c41 | exact c42 | exact c43 | exact c50 | exact c51 | exact c54)] | rw [if_pos (by (have t_hj5 := hj5; have t_n7 := n7; have t_hinw := hinw; have t_c37 := eqI c37; have t_c41 := eqI c41; have t_c42 := eqI c42; have t_c43 := nleI c43; have t_c50 := ltI c50; have t_c51 := eqI c51; have t_n53 := n53; have t_c54 := leI c54; have t_hj59 := hj59; have t_n61 := n61; have : (0 : Int32).toInt = 0 := qI_0; have tnb_ := nib13 tn1387_ tn1388_ tn1389_ tn1393_ tn1390_ tn1391_ tn1392_ tn1399_ tn1400_ tn1401_ tn1402_ tn1403_ tn1404_; have tqz_ := qz41_; omega))] | rw [if_neg (by (have t_hj5 := hj5; have t_n7 := n7; have t_hinw := hinw; have t_c37 := eqI c37; have t_c41 := eqI c41; have t_c42 := eqI c42; have t_c43 := nleI c43; have t_c50 := ltI c50; have t_c51 := eqI c51; have t_n53 := n53; have t_c54 := leI c54; have t_hj59 := hj59; have t_n61 := n61; have : (0 : Int32).toInt = 0 := qI_0; have tnb_ := nib13 tn1387_ tn1388_ tn1389_ tn1393_ tn1390_ tn1391_ tn1392_ tn1399_ tn1400_ tn1401_ tn1402_ tn1403_ tn1404_; have tqz_ := qz41_; omega))] | rw [if_pos (by decide)] | rw [if_neg (by decide)] | rw [if_pos (by skip; assumption)] | rw [if_neg (by skip; assumption)]))); all_goals rfl)
                                    rw [eE]
                                    dsimp only
                                    first | rw [if_pos (by (have t_hj5 := hj5; have t_n7 := n7; have t_hinw := hinw; have t_c37 := eqI c37; have t_c41 := eqI c41; have t_c42 := eqI c42; have t_c43 := nleI c43; have t_c50 := ltI c50; have t_c51 := eqI c51; have t_n53 := n53; have t_c54 := leI c54; have t_hj59 := hj59; have t_n61 := n61; have : (0 : Int32).toInt = 0 := qI_0; have tnb_ := nib13 tn1387_ tn1388_ tn1389_ tn1393_ tn1390_ tn1391_ tn1392_ tn1399_ tn1400_ tn1401_ tn1402_ tn1403_ tn1404_; have tqz_ := qz41_; omega))] | rw [if_neg (by (have t_hj5 := hj5; have t_n7 := n7; have t_hinw := hinw; have t_c37 := eqI c37; have t_c41 := eqI c41; have t_c42 := eqI c42; have t_c43 := nleI c43; have t_c50 := ltI c50; have t_c51 := eqI c51; have t_n53 := n53; have t_c54 := leI c54; have t_hj59 := hj59; have t_n61 := n61; have : (0 : Int32).toInt = 0 := qI_0; have tnb_ := nib13 tn1387_ tn1388_ tn1389_ tn1393_ tn1390_ tn1391_ tn1392_ tn1399_ tn1400_ tn1401_ tn1402_ tn1403_ tn1404_; have tqz_ := qz41_; omega))]
                                  obtain ⟨hP9, hD9⟩ := va_sub2 (ws' := [(h0, .inr (11, [.ref st, .int (nI k25), .int (nI k27), .ref rp, .int (nI k25), .int (nI k27), .int y28, .int y29, .int y30, .int y31, .ref tp, .int 0, .int y20, .int y20, .int y21, .int (nI k17), .int (nI k19), .int y22, .int y23, .ref cu, .ref lt, .ref od, .ref th, .ref be, .ref ln, .int 0, .ref ma, .int 0, .ref ah, .ref bh, .ref ik, .ref la, .ref lg, .ref ce, .int vto])), (tp, .inl (G 0, 320, .inl ftp)), (cu, .inl (G 0, 11, .inl fcu)), (lt, .inl (G 0, 54, .inl flt)), (rp, .inl (G 0, 49, .inl g32)), (st, .inl (G 0, 196, .inl g56)), (ik, .inl (G 2, 2, .inl (upd (upd fik 0 (vp_nar .boolean 0)) 1 (vp_nar .boolean 0))))]) hP hD [5, 6, 0, 1, 2, 3, 4] (by decide +kernel) rfl
                                  refine W.widen (k := 0) (n := 0) (Nat.le_of_ble_eq_true rfl) (Nat.le_of_ble_eq_true rfl) ?_
                                  exact W.iret (v := nI k34) hx hb hr (fun t ht hW => ⟨⟨nI k34, (y20, y21, (nI k17), k19, y22, y23, (nI k25), (nI k27), y28, y29, y30, y31, y20, 0, k25, k27, 0, 0, g32, g56, (upd (upd fik 0 (vp_nar .boolean 0)) 1 (vp_nar .boolean 0))), rfl, ⟨hpost, ⟨⟨(by rw [hcp9]; exact OKS_cp hst hpg9), (by have t_hj5 := hj5; have t_n7 := n7; have t_hinw := hinw; have t_c37 := eqI c37; have t_c41 := eqI c41; have t_c42 := eqI c42; have t_c43 := nleI c43; have t_c50 := ltI c50; have t_c51 := eqI c51; have t_n53 := n53; have t_c54 := leI c54; have t_hj59 := hj59; have t_n61 := n61; have : (0 : Int32).toInt = 0 := qI_0; have tnb_ := nib13 tn1387_ tn1388_ tn1389_ tn1393_ tn1390_ tn1391_ tn1392_ tn1399_ tn1400_ tn1401_ tn1402_ tn1403_ tn1404_; have tqz_ := qz41_; omega)⟩, (by clear hpost; have t_hj5 := hj5; have t_n7 := n7; have t_hinw := hinw; have t_c37 := eqI c37; have t_c41 := eqI c41; have t_c42 := eqI c42; have t_c43 := nleI c43; have t_c50 := ltI c50; have t_c51 := eqI c51; have t_n53 := n53; have t_c54 := leI c54; have t_hj59 := hj59; have t_n61 := n61; have : (0 : Int32).toInt = 0 := qI_0; have tnb_ := nib13 tn1387_ tn1388_ tn1389_ tn1393_ tn1390_ tn1391_ tn1392_ tn1399_ tn1400_ tn1401_ tn1402_ tn1403_ tn1404_; have tqz_ := qz41_; rw [hL]; dsimp only; have eE : txE ((y20, y21, k17, k19, y22, y23), k25, k27, y28, y29, y30, y31, g32) = (y20, y21, k17, k19, y22, y23) := (by show be7 (be6 (y20, y21, k17, k19, y22, y23) k25 k27 y30 y31) k25 k27 = _; unfold be6; (try (repeat (first | rw [if_pos (by with_reducible assumption)] | rw [if_neg (by with_reducible assumption)] | rw [if_pos (by omega)] | rw [if_neg (by omega)] | rw [if_pos (by decide)] | rw [if_neg (by decide)] | rw [if_pos (by skip; assumption)] | rw [if_neg (by skip; assumption)]))); unfold be7; (try (repeat (first | rw [if_pos (by with_reducible assumption)] | rw [if_neg (by with_reducible assumption)] | rw [if_pos (by omega)] | rw [if_neg (by omega)] | rw [if_pos (by decide)] | rw [if_neg (by decide)] | rw [if_pos (by skip; assumption)] | rw [if_neg (by skip; assumption)]))); all_goals rfl); rw [eE]; dsimp only; refine ⟨rfl, ?_, ?_, ?_, ?_, ?_, ?_⟩ <;> first | (rw [if_pos (by omega)]; done) | (rw [if_neg (by omega)]; first | done | rfl | exact hcp9))⟩⟩, ⟨by rw [ht]; exact hP9, hD9⟩⟩, hS.F ht⟩) hS.2.2 dX11_text_248
                                · skip
                                  have tn1405_ : nIT j55 := fun _ => nI_toInt (by first | omega | (have t := nleI c60; omega))
                                  have n62 : j55 < 49 := by have t := nleI c60; rw [show (nI (j55)).toInt = ((j55 : Nat) : Int) from tn1405_ ()] at t; have : (49 : Int32).toInt = 49 := qI_49; omega
                                  refine lv_aload_n hx hb dX11_text_189 rfl (lv_at hl 2 rfl) ?_
                                  refine va_get (D := (dC, dI)) (ci := 11) (v := .ref st) (C := RX11) (T := TX11) (N := 35) hx hb hg inG11 hown hK.1 hP 5 rfl rfl 0 (Nat.le_of_ble_eq_true rfl) (hg _ wt_878) (fun _ h9 => h9) rfl dX11_text_190 ?_
                                  refine lv_iload_n hx hb dX11_text_193 rfl (lv_at hl 0 rfl) ?_
                                  refine lv_aload_n hx hb dX11_text_194 rfl (lv_at hl 2 rfl) ?_
                                  refine va_get (D := (dC, dI)) (ci := 11) (v := .ref rp) (C := RX11) (T := TX11) (N := 35) hx hb hg inG11 hown hK.1 hP 5 rfl rfl 3 (Nat.le_of_ble_eq_true rfl) (hg _ wt_881) (fun _ h9 => h9) rfl dX11_text_195 ?_
                                  refine lv_iload_n hx hb dX11_text_198 rfl (lv_at hl 0 rfl) ?_
                                  refine va_iald hx hb hK.1 hP 2 0 rfl rfl (vp_in_nI (by first | omega | (have t_hj5 := hj5; have t_n7 := n7; have t_hinw := hinw; have t_c37 := eqI c37; have t_c41 := eqI c41; have t_c42 := eqI c42; have t_c43 := nleI c43; have t_c50 := ltI c50; have t_c51 := eqI c51; have t_n53 := n53; have t_c54 := leI c54; have t_hj59 := hj59; have t_n62 := n62; have : (0 : Int32).toInt = 0 := qI_0; have tnb_ := nib13 tn1387_ tn1388_ tn1389_ tn1393_ tn1390_ tn1391_ tn1392_ tn1399_ tn1400_ tn1401_ tn1402_ tn1403_ tn1405_; omega)) (by decide)) dX11_text_199 ?_
                                  refine lv_cg (y := g32 j55) (by rw [nI_clamp (by omega)]) ?_
                                  refine va_iast hx hb hK.1 hP hD hS 3 0 rfl rfl (vp_in_nI (by first | omega | (have t_hj5 := hj5; have t_n7 := n7; have t_hinw := hinw; have t_c37 := eqI c37; have t_c41 := eqI c41; have t_c42 := eqI c42; have t_c43 := nleI c43; have t_c50 := ltI c50; have t_c51 := eqI c51; have t_n53 := n53; have t_c54 := leI c54; have t_hj59 := hj59; have t_n62 := n62; have : (0 : Int32).toInt = 0 := qI_0; have tnb_ := nib13 tn1387_ tn1388_ tn1389_ tn1393_ tn1390_ tn1391_ tn1392_ tn1399_ tn1400_ tn1401_ tn1402_ tn1403_ tn1405_; omega)) (by decide)) dX11_text_200 (fun H locs hP hD hS => ?_)
                                  rw [nI_clamp (by omega)] at hP hD
                                  refine lv_iinc (v := nI (j55 + 1)) (lv' := [(2, .int (nI (j55 + 1))), (1, .int (nI k34)), (0, .ref h0)]) hx hb dX11_text_201 hl (k := 0) rfl (by rw [show Int32.ofInt 1 = nI 1 from by decide]; exact nI_add _ _) (by decide) rfl (fun ls hl => ?_)
                                  refine lv_goto (tgt := 183) hx hb dX11_text_204 rfl ?_
                                  exact ih183_57 (j55 + 1) (by omega) (by omega) (upd g56 j55 (g32 j55)) _ _ (by rw [hinv]; exact cpF_s) hP hD hS ls (lv_sub hl [0, 1, 2] rfl)
                            exact loop183_57 (49 + 1) 0 (by omega) (by omega) fst _ _ cpF_0 hP hD hS ls (lv_sub hl [0, 1, 2] rfl)
                          · skip
                            have t_hj5 := hj5
                            have t_n7 := n7
                            have t_hinw := hinw
                            have t_c37 := eqI c37
                            have t_c41 := eqI c41
                            have t_c42 := eqI c42
                            have t_c43 := nleI c43
                            have t_c50 := ltI c50
                            have t_c51 := eqI c51
                            have t_n53 := n53
                            have t_c54 := nleI c54
                            have : (0 : Int32).toInt = 0 := qI_0
                            have t_n0 : (nI N).toInt = (N : Int) := tn1387_ ()
                            have t_n1 : (nI B).toInt = (B : Int) := tn1388_ ()
                            have t_n2 : (nI T).toInt = (T : Int) := tn1389_ ()
                            have t_n3 : (nI nhe).toInt = (nhe : Int) := tn1393_ ()
                            have t_n4 : (nI S).toInt = (S : Int) := tn1390_ ()
                            have t_n5 : (nI M).toInt = (M : Int) := tn1391_ ()
                            have t_n6 : (nI j1).toInt = (j1 : Int) := tn1392_ ()
                            have t_n7 : (nI k17).toInt = (k17 : Int) := tn1399_ ()
                            have t_n8 : (nI k19).toInt = (k19 : Int) := tn1400_ ()
                            have t_n9 : (nI k25).toInt = (k25 : Int) := tn1401_ ()
                            have t_n10 : (nI k27).toInt = (k27 : Int) := tn1402_ ()
                            have t_n11 : (nI k34).toInt = (k34 : Int) := tn1403_ ()
                            exfalso; omega
                        · skip
                          have n63 : 0 < k25 := by have t := nleI c52; rw [show (nI (k25)).toInt = ((k25 : Nat) : Int) from tn1401_ ()] at t; have : (0 : Int32).toInt = 0 := qI_0; omega
                          refine lv_aload_n hx hb dX11_text_140 rfl (lv_at hl 2 rfl) ?_
                          refine va_get (D := (dC, dI)) (ci := 11) (v := .int (nI k27)) (C := RX11) (T := TX11) (N := 35) hx hb hg inG11 hown hK.1 hP 5 rfl rfl 5 (Nat.le_of_ble_eq_true rfl) (hg _ wt_883) (fun _ h9 => h9) rfl dX11_text_141 ?_
                          refine lv_if_ne (tgt := 153) hx hb dX11_text_144 rfl (fun c64 => ?_) (fun c64 => ?_)
                          · skip
                            have n65 : k27 ≠ 0 := by have t := neI c64; rw [show (nI (k27)).toInt = ((k27 : Nat) : Int) from tn1402_ ()] at t; have : (0 : Int32).toInt = 0 := qI_0; omega
                            refine lv_aload_n hx hb dX11_text_153 rfl (lv_at hl 2 rfl) ?_
                            refine lv_iconst (v := 0) hx hb dX11_text_154 rfl ?_
                            refine va_put (D := (dC, dI)) (ci := 11) (v := .int 0) (ty := .int) (C := RX11) (T := TX11) (N := 35) hx hb hg inG11 tyX11 tyX11_ok nmX11 hown hK.1 hP hD hS 5 rfl rfl 11 (Nat.le_of_ble_eq_true rfl) (hg _ wt_889) (fun _ h9 => h9) rfl (by decide +kernel) rfl rfl (Nat.le_of_ble_eq_true rfl) dX11_text_155 (fun H locs hP hD hS => ?_)
                            refine lv_aload_n hx hb dX11_text_158 rfl (lv_at hl 2 rfl) ?_
                            refine lv_aload_n hx hb dX11_text_159 rfl (lv_at hl 2 rfl) ?_
                            refine va_get (D := (dC, dI)) (ci := 11) (v := .int y20) (C := RX11) (T := TX11) (N := 35) hx hb hg inG11 hown hK.1 hP 5 rfl rfl 13 (Nat.le_of_ble_eq_true rfl) (hg _ wt_891) (fun _ h9 => h9) rfl dX11_text_160 ?_
                            refine va_put (D := (dC, dI)) (ci := 11) (v := .int y20) (ty := .int) (C := RX11) (T := TX11) (N := 35) hx hb hg inG11 tyX11 tyX11_ok nmX11 hown hK.1 hP hD hS 5 rfl rfl 12 (Nat.le_of_ble_eq_true rfl) (hg _ wt_890) (fun _ h9 => h9) rfl (by decide +kernel) rfl rfl (Nat.le_of_ble_eq_true rfl) dX11_text_163 (fun H locs hP hD hS => ?_)
                            refine lv_aload_n hx hb dX11_text_166 rfl (lv_at hl 2 rfl) ?_
                            refine va_get (D := (dC, dI)) (ci := 11) (v := .int y20) (C := RX11) (T := TX11) (N := 35) hx hb hg inG11 hown hK.1 hP 5 rfl rfl 13 (Nat.le_of_ble_eq_true rfl) (hg _ wt_891) (fun _ h9 => h9) rfl dX11_text_167 ?_
                            refine lv_if_le (tgt := 181) hx hb dX11_text_170 rfl (fun c66 => ?_) (fun c66 => ?_)
                            · skip
                              refine lv_iconst (v := 0) hx hb dX11_text_181 rfl ?_
                              refine lv_istore_n (lv' := [(2, .int 0), (1, .int (nI k34)), (0, .ref h0)]) hx hb dX11_text_182 rfl hl (by decide) rfl (fun ls hl => ?_)
                              have loop183_69 : ∀ (nf j67 : Nat), 49 + 1 ≤ j67 + nf → j67 ≤ 49 → ∀ (g68 : Nat → Int32) (H : Heap) (locs : List Loc), g68 = cpF j67 g32 fst → va_P (dC, dI) vwCl [(cu, .inl (G 0, 11, .inl fcu)), (lt, .inl (G 0, 54, .inl flt)), (rp, .inl (G 0, 49, .inl g32)), (st, .inl (G 0, 196, .inl g68)), (ik, .inl (G 2, 2, .inl fik)), (h0, .inr (11, [.ref st, .int (nI N), .int (nI B), .ref rp, .int (nI k25), .int (nI k27), .int y28, .int y29, .int y30, .int y31, .ref tp, .int 0, .int y20, .int y20, .int y21, .int (nI k17), .int (nI k19), .int y22, .int y23, .ref cu, .ref lt, .ref od, .ref th, .ref be, .ref ln, .int (nI S), .ref ma, .int (nI M), .ref ah, .ref bh, .ref ik, .ref la, .ref lg, .ref ce, .int vto])), (tp, .inl (G 0, 320, .inl ftp))] H → va_D A [(cu, .inl (G 0, 11, .inl fcu)), (lt, .inl (G 0, 54, .inl flt)), (rp, .inl (G 0, 49, .inl g32)), (st, .inl (G 0, 196, .inl g68)), (ik, .inl (G 2, 2, .inl fik)), (h0, .inr (11, [.ref st, .int (nI N), .int (nI B), .ref rp, .int (nI k25), .int (nI k27), .int y28, .int y29, .int y30, .int y31, .ref tp, .int 0, .int y20, .int y20, .int y21, .int (nI k17), .int (nI k19), .int y22, .int y23, .ref cu, .ref lt, .ref od, .ref th, .ref be, .ref ln, .int (nI S), .ref ma, .int (nI M), .ref ah, .ref bh, .ref ik, .ref la, .ref lg, .ref ce, .int vto])), (tp, .inl (G 0, 320, .inl ftp))] → va_S A s.heap H locs → ∀ (ls : Array Slot), lv_has ls 3 [(2, .int (nI j67)), (1, .int (nI k34)), (0, .ref h0)] → W p l e (headSpec (Cond.code yX11_text cX11_text 3 (some .int) :: GT) ({ frames := 5, cells := 0, slots := 0, locals := 114 } : Room)).room s m ([.ref h0] : List Value).toArray below meth c H locs 0 0 (MQ below (va_Qi (fun (r : Int32) (u : Int32 × Int32 × Int32 × Nat × Int32 × Int32 × Int32 × Int32 × Int32 × Int32 × Int32 × Int32 × Int32 × Nat × Nat × Nat × Nat × Nat × (Nat → Int32) × (Nat → Int32) × (Nat → Int32)) => match u with | (obr, oba, osp, ohe, otk, ova, ors, orb, ohs, oca, oxs, oxb, ofa, oT, oN, oB, oS, oM, orp, ost, oik) => (r = (if 0 < (txE (txQ ftp T vba nhe vtk vva frp).1).1.toInt then (-10) - (txE (txQ ftp T vba nhe vtk vva frp).1).2.1 else nI (txQ ftp T vba nhe vtk vva frp).2)) ∧ (OKS ost ∧ (oN ≤ 10 ∧ oB ≤ 6 ∧ (oN = 0 ∨ 0 < oB) ∧ oT = 0 ∧ oS ≤ 8 ∧ oM ≤ 6 ∧ ohe ≤ 320)) ∧ ofa = (txE (txQ ftp T vba nhe vtk vva frp).1).1 ∧ oN = (if 0 < (txE (txQ ftp T vba nhe vtk vva frp).1).1.toInt then N else (txQ ftp T vba nhe vtk vva frp).1.2.1) ∧ oB = (if 0 < (txE (txQ ftp T vba nhe vtk vva frp).1).1.toInt then B else (txQ ftp T vba nhe vtk vva frp).1.2.2.1) ∧ oS = (if 0 < (txE (txQ ftp T vba nhe vtk vva frp).1).1.toInt then S else 0) ∧ oM = (if 0 < (txE (txQ ftp T vba nhe vtk vva frp).1).1.toInt then M else 0) ∧ ost = (if 0 < (txE (txQ ftp T vba nhe vtk vva frp).1).1.toInt then fst else cpF 49 (txQ ftp T vba nhe vtk vva frp).1.2.2.2.2.2.2.2 fst) ∧ oik = (if 0 < (txE (txQ ftp T vba nhe vtk vva frp).1).1.toInt then fik else upd (upd fik 0 0) 1 0)) (fun (u : Int32 × Int32 × Int32 × Nat × Int32 × Int32 × Int32 × Int32 × Int32 × Int32 × Int32 × Int32 × Int32 × Nat × Nat × Nat × Nat × Nat × (Nat → Int32) × (Nat → Int32) × (Nat → Int32)) (t : State) => match u with | (obr, oba, osp, ohe, otk, ova, ors, orb, ohs, oca, oxs, oxb, ofa, oT, oN, oB, oS, oM, orp, ost, oik) => va_P (dC, dI) vwCl [(h0, .inr (11, [.ref st, .int (nI oN), .int (nI oB), .ref rp, .int ors, .int orb, .int ohs, .int oca, .int oxs, .int oxb, .ref tp, .int (nI oT), .int ofa, .int obr, .int oba, .int osp, .int (nI ohe), .int otk, .int ova, .ref cu, .ref lt, .ref od, .ref th, .ref be, .ref ln, .int (nI oS), .ref ma, .int (nI oM), .ref ah, .ref bh, .ref ik, .ref la, .ref lg, .ref ce, .int vto])), (tp, .inl (G 0, 320, .inl ftp)), (cu, .inl (G 0, 11, .inl fcu)), (lt, .inl (G 0, 54, .inl flt)), (rp, .inl (G 0, 49, .inl orp)), (st, .inl (G 0, 196, .inl ost)), (ik, .inl (G 2, 2, .inl oik))] t.heap ∧ va_D A [(h0, .inr (11, [.ref st, .int (nI oN), .int (nI oB), .ref rp, .int ors, .int orb, .int ohs, .int oca, .int oxs, .int oxb, .ref tp, .int (nI oT), .int ofa, .int obr, .int oba, .int osp, .int (nI ohe), .int otk, .int ova, .ref cu, .ref lt, .ref od, .ref th, .ref be, .ref ln, .int (nI oS), .ref ma, .int (nI oM), .ref ah, .ref bh, .ref ik, .ref la, .ref lg, .ref ce, .int vto])), (tp, .inl (G 0, 320, .inl ftp)), (cu, .inl (G 0, 11, .inl fcu)), (lt, .inl (G 0, 54, .inl flt)), (rp, .inl (G 0, 49, .inl orp)), (st, .inl (G 0, 196, .inl ost)), (ik, .inl (G 2, 2, .inl oik))]) A) ([.ref h0] : List Value).toArray s 0 0 A) (F0 m 183 ls []) := by
                                intro nf
                                induction nf with
                                | zero => intro j67 h1 h2; exact absurd h1 (by omega)
                                | succ nf ih183_69 =>
                                  intro j67 hn70 hj71 g68 H locs hinv hP hD hS ls hl
                                  refine lv_iload_n hx hb dX11_text_183 rfl (lv_at hl 0 rfl) ?_
                                  refine lv_bipush (v := 49) hx hb dX11_text_184 rfl ?_
                                  refine lv_icmp_ge (tgt := 207) hx hb dX11_text_186 rfl (fun c72 => ?_) (fun c72 => ?_)
                                  · skip
                                    have tn1406_ : nIT j67 := fun _ => nI_toInt (by first | omega | (have t := leI c72; omega))
                                    have n73 : 49 ≤ j67 := by have t := leI c72; rw [show (nI (j67)).toInt = ((j67 : Nat) : Int) from tn1406_ ()] at t; have : (49 : Int32).toInt = 49 := qI_49; omega
                                    have hcp9 : g68 = cpF 49 g32 fst := (by rw [hinv, show j67 = 49 by omega])
                                    have hpg9 : OKP g32 := hinw.1
                                    refine lv_aload_n hx hb dX11_text_207 rfl (lv_at hl 2 rfl) ?_
                                    refine lv_aload_n hx hb dX11_text_208 rfl (lv_at hl 2 rfl) ?_
                                    refine va_get (D := (dC, dI)) (ci := 11) (v := .int (nI k25)) (C := RX11) (T := TX11) (N := 35) hx hb hg inG11 hown hK.1 hP 5 rfl rfl 4 (Nat.le_of_ble_eq_true rfl) (hg _ wt_882) (fun _ h9 => h9) rfl dX11_text_209 ?_
                                    refine va_put (D := (dC, dI)) (ci := 11) (v := .int (nI k25)) (ty := .int) (C := RX11) (T := TX11) (N := 35) hx hb hg inG11 tyX11 tyX11_ok nmX11 hown hK.1 hP hD hS 5 rfl rfl 1 (Nat.le_of_ble_eq_true rfl) (hg _ wt_879) (fun _ h9 => h9) rfl (by decide +kernel) rfl rfl (Nat.le_of_ble_eq_true rfl) dX11_text_212 (fun H locs hP hD hS => ?_)
                                    refine lv_aload_n hx hb dX11_text_215 rfl (lv_at hl 2 rfl) ?_
                                    refine lv_aload_n hx hb dX11_text_216 rfl (lv_at hl 2 rfl) ?_
                                    refine va_get (D := (dC, dI)) (ci := 11) (v := .int (nI k27)) (C := RX11) (T := TX11) (N := 35) hx hb hg inG11 hown hK.1 hP 5 rfl rfl 5 (Nat.le_of_ble_eq_true rfl) (hg _ wt_883) (fun _ h9 => h9) rfl dX11_text_217 ?_
                                    refine va_put (D := (dC, dI)) (ci := 11) (v := .int (nI k27)) (ty := .int) (C := RX11) (T := TX11) (N := 35) hx hb hg inG11 tyX11 tyX11_ok nmX11 hown hK.1 hP hD hS 5 rfl rfl 2 (Nat.le_of_ble_eq_true rfl) (hg _ wt_880) (fun _ h9 => h9) rfl (by decide +kernel) rfl rfl (Nat.le_of_ble_eq_true rfl) dX11_text_220 (fun H locs hP hD hS => ?_)
                                    refine lv_aload_n hx hb dX11_text_223 rfl (lv_at hl 2 rfl) ?_
                                    refine lv_iconst (v := 0) hx hb dX11_text_224 rfl ?_
                                    refine va_put (D := (dC, dI)) (ci := 11) (v := .int 0) (ty := .int) (C := RX11) (T := TX11) (N := 35) hx hb hg inG11 tyX11 tyX11_ok nmX11 hown hK.1 hP hD hS 5 rfl rfl 25 (Nat.le_of_ble_eq_true rfl) (hg _ wt_903) (fun _ h9 => h9) rfl (by decide +kernel) rfl rfl (Nat.le_of_ble_eq_true rfl) dX11_text_225 (fun H locs hP hD hS => ?_)
                                    refine lv_aload_n hx hb dX11_text_228 rfl (lv_at hl 2 rfl) ?_
                                    refine lv_iconst (v := 0) hx hb dX11_text_229 rfl ?_
                                    refine va_put (D := (dC, dI)) (ci := 11) (v := .int 0) (ty := .int) (C := RX11) (T := TX11) (N := 35) hx hb hg inG11 tyX11 tyX11_ok nmX11 hown hK.1 hP hD hS 5 rfl rfl 27 (Nat.le_of_ble_eq_true rfl) (hg _ wt_905) (fun _ h9 => h9) rfl (by decide +kernel) rfl rfl (Nat.le_of_ble_eq_true rfl) dX11_text_230 (fun H locs hP hD hS => ?_)
                                    refine lv_aload_n hx hb dX11_text_233 rfl (lv_at hl 2 rfl) ?_
                                    refine va_get (D := (dC, dI)) (ci := 11) (v := .ref ik) (C := RX11) (T := TX11) (N := 35) hx hb hg inG11 hown hK.1 hP 5 rfl rfl 30 (Nat.le_of_ble_eq_true rfl) (hg _ wt_908) (fun _ h9 => h9) rfl dX11_text_234 ?_
                                    refine lv_iconst (v := 0) hx hb dX11_text_237 rfl ?_
                                    refine lv_iconst (v := 0) hx hb dX11_text_238 rfl ?_
                                    refine va_zast hx hb hK.1 hP hD hS 4 2 rfl rfl (vp_in_iff.mpr ⟨by decide, by decide⟩) dX11_text_239 (fun H locs hP hD hS => ?_)
                                    refine lv_aload_n hx hb dX11_text_240 rfl (lv_at hl 2 rfl) ?_
                                    refine va_get (D := (dC, dI)) (ci := 11) (v := .ref ik) (C := RX11) (T := TX11) (N := 35) hx hb hg inG11 hown hK.1 hP 5 rfl rfl 30 (Nat.le_of_ble_eq_true rfl) (hg _ wt_908) (fun _ h9 => h9) rfl dX11_text_241 ?_
                                    refine lv_iconst (v := 1) hx hb dX11_text_244 rfl ?_
                                    refine lv_iconst (v := 0) hx hb dX11_text_245 rfl ?_
                                    refine va_zast hx hb hK.1 hP hD hS 4 2 rfl rfl (vp_in_iff.mpr ⟨by decide, by decide⟩) dX11_text_246 (fun H locs hP hD hS => ?_)
                                    refine lv_iload_n hx hb dX11_text_247 rfl (lv_at hl 1 rfl) ?_
                                    have hpost : (nI k34 : Int32) = (if 0 < (txE (txQ ftp T vba nhe vtk vva frp).1).1.toInt then (-10) - (txE (txQ ftp T vba nhe vtk vva frp).1).2.1 else nI (txQ ftp T vba nhe vtk vva frp).2) := by
                                      rw [hL]
                                      dsimp only
                                      have eE : txE ((y20, y21, k17, k19, y22, y23), k25, k27, y28, y29, y30, y31, g32) = (y20, y21, k17, k19, y22, y23) := (by show be7 (be6 (y20, y21, k17, k19, y22, y23) k25 k27 y30 y31) k25 k27 = _; unfold be6; (try (repeat (first | rw [if_pos (by with_reducible assumption)] | rw [if_neg (by with_reducible assumption)] | rw [if_pos (by first | exact c37 | exact c41 | exact c42 | exact c43 | exact c50 | exact c51 | exact c66)] | rw [if_neg (by first | exact c37 | exact c41 | exact c42 | exact c43 | exact c50 | exact c51 | exact c66)] | rw [if_pos (by (have t_hj5 := hj5; have t_n7 := n7; have t_hinw := hinw; have t_c37 := eqI c37; have t_c41 := eqI c41; have t_c42 := eqI c42; have t_c43 := nleI c43; have t_c50 := ltI c50; have t_c51 := eqI c51; have t_n63 := n63; have t_n65 := n65; have t_c66 := leI c66; have t_hj71 := hj71; have t_n73 := n73; have : (0 : Int32).toInt = 0 := qI_0; have tnb_ := nib13 tn1387_ tn1388_ tn1389_ tn1393_ tn1390_ tn1391_ tn1392_ tn1399_ tn1400_ tn1401_ tn1402_ tn1403_ tn1406_; have tqz_ := qz41_; omega))] | rw [if_neg (by (have t_hj5 := hj5; have t_n7 := n7; have t_hinw := hinw; have t_c37 := eqI c37; have t_c41 := eqI c41; have t_c42 := eqI c42; have t_c43 := nleI c43; have t_c50 := ltI c50; have t_c51 := eqI c51; have t_n63 := n63; have t_n65 := n65; have t_c66 := leI c66; have t_hj71 := hj71; have t_n73 := n73; have : (0 : Int32).toInt = 0 := qI_0; have tnb_ := nib13 tn1387_ tn1388_ tn1389_ tn1393_ tn1390_ tn1391_ tn1392_ tn1399_ tn1400_ tn1401_ tn1402_ tn1403_ tn1406_; have tqz_ := qz41_; omega))] | rw [if_pos (by decide)] | rw [if_neg (by decide)] | rw [if_pos (by skip; assumption)] | rw [if_neg (by skip; assumption)]))); unfold be7; (try (repeat (first | rw [if_pos (by with_reducible assumption)] | rw [if_neg (by with_reducible assumption)] | rw [if_pos (by first | exact c37 | exact c41 | exact c42 | exact c43 | exact c50 | exact c51 | exact c66)] | rw [if_neg (by first | exact c37 | exact c41 | exact c42 | exact c43 | exact c50 | exact c51 | exact c66)] | rw [if_pos (by (have t_hj5 := hj5; have t_n7 := n7; have t_hinw := hinw; have t_c37 := eqI c37; have t_c41 := eqI c41; have t_c42 := eqI c42; have t_c43 := nleI c43; have t_c50 := ltI c50; have t_c51 := eqI c51; have t_n63 := n63; have t_n65 := n65; have t_c66 := leI c66; have t_hj71 := hj71; have t_n73 := n73; have : (0 : Int32).toInt = 0 := qI_0; have tnb_ := nib13 tn1387_ tn1388_ tn1389_ tn1393_ tn1390_ tn1391_ tn1392_ tn1399_ tn1400_ tn1401_ tn1402_ tn1403_ tn1406_; have tqz_ := qz41_; omega))] | rw [if_neg (by (have t_hj5 := hj5; have t_n7 := n7; have t_hinw := hinw; have t_c37 := eqI c37; have t_c41 := eqI c41; have t_c42 := eqI c42; have t_c43 := nleI c43; have t_c50 := ltI c50; have t_c51 := eqI c51; have t_n63 := n63; have t_n65 := n65; have t_c66 := leI c66; have t_hj71 := hj71; have t_n73 := n73; have : (0 : Int32).toInt = 0 := qI_0; have tnb_ := nib13 tn1387_ tn1388_ tn1389_ tn1393_ tn1390_ tn1391_ tn1392_ tn1399_ tn1400_ tn1401_ tn1402_ tn1403_ tn1406_; have tqz_ := qz41_; omega))] | rw [if_pos (by decide)] | rw [if_neg (by decide)] | rw [if_pos (by skip; assumption)] | rw [if_neg (by skip; assumption)]))); all_goals rfl)
                                      rw [eE]
                                      dsimp only
                                      first | rw [if_pos (by (have t_hj5 := hj5; have t_n7 := n7; have t_hinw := hinw; have t_c37 := eqI c37; have t_c41 := eqI c41; have t_c42 := eqI c42; have t_c43 := nleI c43; have t_c50 := ltI c50; have t_c51 := eqI c51; have t_n63 := n63; have t_n65 := n65; have t_c66 := leI c66; have t_hj71 := hj71; have t_n73 := n73; have : (0 : Int32).toInt = 0 := qI_0; have tnb_ := nib13 tn1387_ tn1388_ tn1389_ tn1393_ tn1390_ tn1391_ tn1392_ tn1399_ tn1400_ tn1401_ tn1402_ tn1403_ tn1406_; have tqz_ := qz41_; omega))] | rw [if_neg (by (have t_hj5 := hj5; have t_n7 := n7; have t_hinw := hinw; have t_c37 := eqI c37; have t_c41 := eqI c41; have t_c42 := eqI c42; have t_c43 := nleI c43; have t_c50 := ltI c50; have t_c51 := eqI c51; have t_n63 := n63; have t_n65 := n65; have t_c66 := leI c66; have t_hj71 := hj71; have t_n73 := n73; have : (0 : Int32).toInt = 0 := qI_0; have tnb_ := nib13 tn1387_ tn1388_ tn1389_ tn1393_ tn1390_ tn1391_ tn1392_ tn1399_ tn1400_ tn1401_ tn1402_ tn1403_ tn1406_; have tqz_ := qz41_; omega))]
                                    obtain ⟨hP9, hD9⟩ := va_sub2 (ws' := [(h0, .inr (11, [.ref st, .int (nI k25), .int (nI k27), .ref rp, .int (nI k25), .int (nI k27), .int y28, .int y29, .int y30, .int y31, .ref tp, .int 0, .int y20, .int y20, .int y21, .int (nI k17), .int (nI k19), .int y22, .int y23, .ref cu, .ref lt, .ref od, .ref th, .ref be, .ref ln, .int 0, .ref ma, .int 0, .ref ah, .ref bh, .ref ik, .ref la, .ref lg, .ref ce, .int vto])), (tp, .inl (G 0, 320, .inl ftp)), (cu, .inl (G 0, 11, .inl fcu)), (lt, .inl (G 0, 54, .inl flt)), (rp, .inl (G 0, 49, .inl g32)), (st, .inl (G 0, 196, .inl g68)), (ik, .inl (G 2, 2, .inl (upd (upd fik 0 (vp_nar .boolean 0)) 1 (vp_nar .boolean 0))))]) hP hD [5, 6, 0, 1, 2, 3, 4] (by decide +kernel) rfl
                                    refine W.widen (k := 0) (n := 0) (Nat.le_of_ble_eq_true rfl) (Nat.le_of_ble_eq_true rfl) ?_
                                    exact W.iret (v := nI k34) hx hb hr (fun t ht hW => ⟨⟨nI k34, (y20, y21, (nI k17), k19, y22, y23, (nI k25), (nI k27), y28, y29, y30, y31, y20, 0, k25, k27, 0, 0, g32, g68, (upd (upd fik 0 (vp_nar .boolean 0)) 1 (vp_nar .boolean 0))), rfl, ⟨hpost, ⟨⟨(by rw [hcp9]; exact OKS_cp hst hpg9), (by have t_hj5 := hj5; have t_n7 := n7; have t_hinw := hinw; have t_c37 := eqI c37; have t_c41 := eqI c41; have t_c42 := eqI c42; have t_c43 := nleI c43; have t_c50 := ltI c50; have t_c51 := eqI c51; have t_n63 := n63; have t_n65 := n65; have t_c66 := leI c66; have t_hj71 := hj71; have t_n73 := n73; have : (0 : Int32).toInt = 0 := qI_0; have tnb_ := nib13 tn1387_ tn1388_ tn1389_ tn1393_ tn1390_ tn1391_ tn1392_ tn1399_ tn1400_ tn1401_ tn1402_ tn1403_ tn1406_; have tqz_ := qz41_; omega)⟩, (by clear hpost; have t_hj5 := hj5; have t_n7 := n7; have t_hinw := hinw; have t_c37 := eqI c37; have t_c41 := eqI c41; have t_c42 := eqI c42; have t_c43 := nleI c43; have t_c50 := ltI c50; have t_c51 := eqI c51; have t_n63 := n63; have t_n65 := n65; have t_c66 := leI c66; have t_hj71 := hj71; have t_n73 := n73; have : (0 : Int32).toInt = 0 := qI_0; have tnb_ := nib13 tn1387_ tn1388_ tn1389_ tn1393_ tn1390_ tn1391_ tn1392_ tn1399_ tn1400_ tn1401_ tn1402_ tn1403_ tn1406_; have tqz_ := qz41_; rw [hL]; dsimp only; have eE : txE ((y20, y21, k17, k19, y22, y23), k25, k27, y28, y29, y30, y31, g32) = (y20, y21, k17, k19, y22, y23) := (by show be7 (be6 (y20, y21, k17, k19, y22, y23) k25 k27 y30 y31) k25 k27 = _; unfold be6; (try (repeat (first | rw [if_pos (by with_reducible assumption)] | rw [if_neg (by with_reducible assumption)] | rw [if_pos (by omega)] | rw [if_neg (by omega)] | rw [if_pos (by decide)] | rw [if_neg (by decide)] | rw [if_pos (by skip; assumption)] | rw [if_neg (by skip; assumption)]))); unfold be7; (try (repeat (first | rw [if_pos (by with_reducible assumption)] | rw [if_neg (by with_reducible assumption)] | rw [if_pos (by omega)] | rw [if_neg (by omega)] | rw [if_pos (by decide)] | rw [if_neg (by decide)] | rw [if_pos (by skip; assumption)] | rw [if_neg (by skip; assumption)]))); all_goals rfl); rw [eE]; dsimp only; refine ⟨rfl, ?_, ?_, ?_, ?_, ?_, ?_⟩ <;> first | (rw [if_pos (by omega)]; done) | (rw [if_neg (by omega)]; first | done | rfl | exact hcp9))⟩⟩, ⟨by rw [ht]; exact hP9, hD9⟩⟩, hS.F ht⟩) hS.2.2 dX11_text_248
                                  · skip
                                    have tn1407_ : nIT j67 := fun _ => nI_toInt (by first | omega | (have t := nleI c72; omega))
                                    have n74 : j67 < 49 := by have t := nleI c72; rw [show (nI (j67)).toInt = ((j67 : Nat) : Int) from tn1407_ ()] at t; have : (49 : Int32).toInt = 49 := qI_49; omega
                                    refine lv_aload_n hx hb dX11_text_189 rfl (lv_at hl 2 rfl) ?_
                                    refine va_get (D := (dC, dI)) (ci := 11) (v := .ref st) (C := RX11) (T := TX11) (N := 35) hx hb hg inG11 hown hK.1 hP 5 rfl rfl 0 (Nat.le_of_ble_eq_true rfl) (hg _ wt_878) (fun _ h9 => h9) rfl dX11_text_190 ?_
                                    refine lv_iload_n hx hb dX11_text_193 rfl (lv_at hl 0 rfl) ?_
                                    refine lv_aload_n hx hb dX11_text_194 rfl (lv_at hl 2 rfl) ?_
                                    refine va_get (D := (dC, dI)) (ci := 11) (v := .ref rp) (C := RX11) (T := TX11) (N := 35) hx hb hg inG11 hown hK.1 hP 5 rfl rfl 3 (Nat.le_of_ble_eq_true rfl) (hg _ wt_881) (fun _ h9 => h9) rfl dX11_text_195 ?_
                                    refine lv_iload_n hx hb dX11_text_198 rfl (lv_at hl 0 rfl) ?_
                                    refine va_iald hx hb hK.1 hP 2 0 rfl rfl (vp_in_nI (by first | omega | (have t_hj5 := hj5; have t_n7 := n7; have t_hinw := hinw; have t_c37 := eqI c37; have t_c41 := eqI c41; have t_c42 := eqI c42; have t_c43 := nleI c43; have t_c50 := ltI c50; have t_c51 := eqI c51; have t_n63 := n63; have t_n65 := n65; have t_c66 := leI c66; have t_hj71 := hj71; have t_n74 := n74; have : (0 : Int32).toInt = 0 := qI_0; have tnb_ := nib13 tn1387_ tn1388_ tn1389_ tn1393_ tn1390_ tn1391_ tn1392_ tn1399_ tn1400_ tn1401_ tn1402_ tn1403_ tn1407_; omega)) (by decide)) dX11_text_199 ?_
                                    refine lv_cg (y := g32 j67) (by rw [nI_clamp (by omega)]) ?_
                                    refine va_iast hx hb hK.1 hP hD hS 3 0 rfl rfl (vp_in_nI (by first | omega | (have t_hj5 := hj5; have t_n7 := n7; have t_hinw := hinw; have t_c37 := eqI c37; have t_c41 := eqI c41; have t_c42 := eqI c42; have t_c43 := nleI c43; have t_c50 := ltI c50; have t_c51 := eqI c51; have t_n63 := n63; have t_n65 := n65; have t_c66 := leI c66; have t_hj71 := hj71; have t_n74 := n74; have : (0 : Int32).toInt = 0 := qI_0; have tnb_ := nib13 tn1387_ tn1388_ tn1389_ tn1393_ tn1390_ tn1391_ tn1392_ tn1399_ tn1400_ tn1401_ tn1402_ tn1403_ tn1407_; omega)) (by decide)) dX11_text_200 (fun H locs hP hD hS => ?_)
                                    rw [nI_clamp (by omega)] at hP hD
                                    refine lv_iinc (v := nI (j67 + 1)) (lv' := [(2, .int (nI (j67 + 1))), (1, .int (nI k34)), (0, .ref h0)]) hx hb dX11_text_201 hl (k := 0) rfl (by rw [show Int32.ofInt 1 = nI 1 from by decide]; exact nI_add _ _) (by decide) rfl (fun ls hl => ?_)
                                    refine lv_goto (tgt := 183) hx hb dX11_text_204 rfl ?_
                                    exact ih183_69 (j67 + 1) (by omega) (by omega) (upd g68 j67 (g32 j67)) _ _ (by rw [hinv]; exact cpF_s) hP hD hS ls (lv_sub hl [0, 1, 2] rfl)
                              exact loop183_69 (49 + 1) 0 (by omega) (by omega) fst _ _ cpF_0 hP hD hS ls (lv_sub hl [0, 1, 2] rfl)
                            · skip
                              have t_hj5 := hj5
                              have t_n7 := n7
                              have t_hinw := hinw
                              have t_c37 := eqI c37
                              have t_c41 := eqI c41
                              have t_c42 := eqI c42
                              have t_c43 := nleI c43
                              have t_c50 := ltI c50
                              have t_c51 := eqI c51
                              have t_n63 := n63
                              have t_n65 := n65
                              have t_c66 := nleI c66
                              have : (0 : Int32).toInt = 0 := qI_0
                              have t_n0 : (nI N).toInt = (N : Int) := tn1387_ ()
                              have t_n1 : (nI B).toInt = (B : Int) := tn1388_ ()
                              have t_n2 : (nI T).toInt = (T : Int) := tn1389_ ()
                              have t_n3 : (nI nhe).toInt = (nhe : Int) := tn1393_ ()
                              have t_n4 : (nI S).toInt = (S : Int) := tn1390_ ()
                              have t_n5 : (nI M).toInt = (M : Int) := tn1391_ ()
                              have t_n6 : (nI j1).toInt = (j1 : Int) := tn1392_ ()
                              have t_n7 : (nI k17).toInt = (k17 : Int) := tn1399_ ()
                              have t_n8 : (nI k19).toInt = (k19 : Int) := tn1400_ ()
                              have t_n9 : (nI k25).toInt = (k25 : Int) := tn1401_ ()
                              have t_n10 : (nI k27).toInt = (k27 : Int) := tn1402_ ()
                              have t_n11 : (nI k34).toInt = (k34 : Int) := tn1403_ ()
                              exfalso; omega
                          · skip
                            have n75 : k27 = 0 := by have t := eqI c64; rw [show (nI (k27)).toInt = ((k27 : Nat) : Int) from tn1402_ ()] at t; have : (0 : Int32).toInt = 0 := qI_0; omega
                            refine lv_aload_n hx hb dX11_text_147 rfl (lv_at hl 2 rfl) ?_
                            refine lv_bipush (v := 7) hx hb dX11_text_148 rfl ?_
                            obtain ⟨hPc, hDc, hFc⟩ := va_sub3 (ws' := [(h0, .inr (11, [.ref st, .int (nI N), .int (nI B), .ref rp, .int (nI k25), .int (nI k27), .int y28, .int y29, .int y30, .int y31, .ref tp, .int (nI T), .int vfa, .int y20, .int y21, .int (nI k17), .int (nI k19), .int y22, .int y23, .ref cu, .ref lt, .ref od, .ref th, .ref be, .ref ln, .int (nI S), .ref ma, .int (nI M), .ref ah, .ref bh, .ref ik, .ref la, .ref lg, .ref ce, .int vto]))]) hP hD hS hA [5] (by decide +kernel) rfl
                            refine va_callv (va_runV (As := [.int 7]) (rest := []) ⟨hx, hb, hml, hown, hg⟩ (c_X11_failsE l dC dI G _ h0 st N B rp tp T k19 cu lt od th be ln S ma M ah bh ik la lg ce 7 (nI k25) (nI k27) y28 y29 y30 y31 vfa y20 y21 (nI k17) y22 y23 vto hN hB_ hT_ hS0 hM_ (by have t_hj5 := hj5; have t_n7 := n7; have t_hinw := hinw; have t_c37 := eqI c37; have t_c41 := eqI c41; have t_c42 := eqI c42; have t_c43 := nleI c43; have t_c50 := ltI c50; have t_c51 := eqI c51; have t_n63 := n63; have t_n75 := n75; have : (0 : Int32).toInt = 0 := qI_0; have tnb_ := nib12 tn1387_ tn1388_ tn1389_ tn1393_ tn1390_ tn1391_ tn1392_ tn1399_ tn1400_ tn1401_ tn1402_ tn1403_; have tqz_ := qz45_; omega) (by have t_hj5 := hj5; have t_n7 := n7; have t_hinw := hinw; have t_c37 := eqI c37; have t_c41 := eqI c41; have t_c42 := eqI c42; have t_c43 := nleI c43; have t_c50 := ltI c50; have t_c51 := eqI c51; have t_n63 := n63; have t_n75 := n75; have : (0 : Int32).toInt = 0 := qI_0; have tnb_ := nib12 tn1387_ tn1388_ tn1389_ tn1393_ tn1390_ tn1391_ tn1392_ tn1399_ tn1400_ tn1401_ tn1402_ tn1403_; have tqz_ := qz45_; omega) (by first | omega | (have t_hj5 := hj5; have t_n7 := n7; have t_hinw := hinw; have t_c37 := eqI c37; have t_c41 := eqI c41; have t_c42 := eqI c42; have t_c43 := nleI c43; have t_c50 := ltI c50; have t_c51 := eqI c51; have t_n63 := n63; have t_n75 := n75; have : (0 : Int32).toInt = 0 := qI_0; have tnb_ := nib12 tn1387_ tn1388_ tn1389_ tn1393_ tn1390_ tn1391_ tn1392_ tn1399_ tn1400_ tn1401_ tn1402_ tn1403_; have tqz_ := qz45_; omega))) (kwV hg mfX11_fails wt_1011 ⟨Nat.le_of_ble_eq_true rfl, Nat.le_of_ble_eq_true rfl⟩) (preVW hK hPc hDc (ci := 11) (r := (RX11, TX11, 35)) rfl rfl) rfl rfl hl.1 rfl (lv_room (Nat.le_of_ble_eq_true rfl)) dX11_text_150 ⟨Nat.le_of_ble_eq_true rfl, Nat.le_of_ble_eq_true rfl⟩) hS (fun q _ h => hFc q h) hFc (fun ur76 t H1 locs ht hvm w77 hB hz1 hk1 hS => ?_)
                            obtain ⟨u78, u79⟩ := ur76
                            obtain ⟨hP1, hD1⟩ := hB
                            rw [ht] at hP1
                            obtain ⟨hP, hD⟩ := va_join (wr := [(cu, .inl (G 0, 11, .inl fcu)), (lt, .inl (G 0, 54, .inl flt)), (rp, .inl (G 0, 49, .inl g32)), (st, .inl (G 0, 196, .inl fst)), (ik, .inl (G 2, 2, .inl fik)), (tp, .inl (G 0, 320, .inl ftp))]) (w1 := [(h0, .inr (11, [.ref st, .int (nI N), .int (nI B), .ref rp, .int (nI k25), .int (nI k27), .int y28, .int y29, .int y30, .int y31, .ref tp, .int (nI T), .int vfa, .int u78, .int u79, .int (nI k17), .int (nI k19), .int y22, .int y23, .ref cu, .ref lt, .ref od, .ref th, .ref be, .ref ln, .int (nI S), .ref ma, .int (nI M), .ref ah, .ref bh, .ref ik, .ref la, .ref lg, .ref ce, .int vto]))]) hP hD [5] [0, 1, 2, 3, 4, 6] rfl rfl (by decide +kernel) (by decide +kernel) hk1 hFc hP1 hD1
                            have w77 : 0 < u78.toInt ∧ u78 = flB (7 : Int32) y20 ∧ u79 = flA y20 y21 k19 := w77
                            generalize H1 = H at hP hS ⊢
                            have ew77 : fT 7 (y20, y21, k17, k19, y22, y23) = (u78, u79, k17, k19, y22, y23) := (by show (flB _ _, flA _ _ _, _, _, _, _) = _; rw [← w77.2.1, ← w77.2.2])
                            refine lv_aload_n hx hb dX11_text_153 rfl (lv_at hl 2 rfl) ?_
                            refine lv_iconst (v := 0) hx hb dX11_text_154 rfl ?_
                            refine va_put (D := (dC, dI)) (ci := 11) (v := .int 0) (ty := .int) (C := RX11) (T := TX11) (N := 35) hx hb hg inG11 tyX11 tyX11_ok nmX11 hown hK.1 hP hD hS 6 rfl rfl 11 (Nat.le_of_ble_eq_true rfl) (hg _ wt_889) (fun _ h9 => h9) rfl (by decide +kernel) rfl rfl (Nat.le_of_ble_eq_true rfl) dX11_text_155 (fun H locs hP hD hS => ?_)
                            refine lv_aload_n hx hb dX11_text_158 rfl (lv_at hl 2 rfl) ?_
                            refine lv_aload_n hx hb dX11_text_159 rfl (lv_at hl 2 rfl) ?_
                            refine va_get (D := (dC, dI)) (ci := 11) (v := .int u78) (C := RX11) (T := TX11) (N := 35) hx hb hg inG11 hown hK.1 hP 6 rfl rfl 13 (Nat.le_of_ble_eq_true rfl) (hg _ wt_891) (fun _ h9 => h9) rfl dX11_text_160 ?_
                            refine va_put (D := (dC, dI)) (ci := 11) (v := .int u78) (ty := .int) (C := RX11) (T := TX11) (N := 35) hx hb hg inG11 tyX11 tyX11_ok nmX11 hown hK.1 hP hD hS 6 rfl rfl 12 (Nat.le_of_ble_eq_true rfl) (hg _ wt_890) (fun _ h9 => h9) rfl (by decide +kernel) rfl rfl (Nat.le_of_ble_eq_true rfl) dX11_text_163 (fun H locs hP hD hS => ?_)
                            refine lv_aload_n hx hb dX11_text_166 rfl (lv_at hl 2 rfl) ?_
                            refine va_get (D := (dC, dI)) (ci := 11) (v := .int u78) (C := RX11) (T := TX11) (N := 35) hx hb hg inG11 hown hK.1 hP 6 rfl rfl 13 (Nat.le_of_ble_eq_true rfl) (hg _ wt_891) (fun _ h9 => h9) rfl dX11_text_167 ?_
                            refine lv_if_le (tgt := 181) hx hb dX11_text_170 rfl (fun c80 => ?_) (fun c80 => ?_)
                            · skip
                              have t_hj5 := hj5
                              have t_n7 := n7
                              have t_hinw := hinw
                              have t_c37 := eqI c37
                              have t_c41 := eqI c41
                              have t_c42 := eqI c42
                              have t_c43 := nleI c43
                              have t_c50 := ltI c50
                              have t_c51 := eqI c51
                              have t_n63 := n63
                              have t_n75 := n75
                              have t_w77 := w77.1
                              have t_c80 := leI c80
                              have : (0 : Int32).toInt = 0 := qI_0
                              have t_n0 : (nI N).toInt = (N : Int) := tn1387_ ()
                              have t_n1 : (nI B).toInt = (B : Int) := tn1388_ ()
                              have t_n2 : (nI T).toInt = (T : Int) := tn1389_ ()
                              have t_n3 : (nI nhe).toInt = (nhe : Int) := tn1393_ ()
                              have t_n4 : (nI S).toInt = (S : Int) := tn1390_ ()
                              have t_n5 : (nI M).toInt = (M : Int) := tn1391_ ()
                              have t_n6 : (nI j1).toInt = (j1 : Int) := tn1392_ ()
                              have t_n7 : (nI k17).toInt = (k17 : Int) := tn1399_ ()
                              have t_n8 : (nI k19).toInt = (k19 : Int) := tn1400_ ()
                              have t_n9 : (nI k25).toInt = (k25 : Int) := tn1401_ ()
                              have t_n10 : (nI k27).toInt = (k27 : Int) := tn1402_ ()
                              have t_n11 : (nI k34).toInt = (k34 : Int) := tn1403_ ()
                              exfalso; omega
                            · skip
                              refine lv_bipush (v := (-10)) hx hb dX11_text_173 rfl ?_
                              refine lv_aload_n hx hb dX11_text_175 rfl (lv_at hl 2 rfl) ?_
                              refine va_get (D := (dC, dI)) (ci := 11) (v := .int u79) (C := RX11) (T := TX11) (N := 35) hx hb hg inG11 hown hK.1 hP 6 rfl rfl 14 (Nat.le_of_ble_eq_true rfl) (hg _ wt_892) (fun _ h9 => h9) rfl dX11_text_176 ?_
                              refine lv_isub hx hb dX11_text_179 ?_
                              have hpost : ((-10) - u79 : Int32) = (if 0 < (txE (txQ ftp T vba nhe vtk vva frp).1).1.toInt then (-10) - (txE (txQ ftp T vba nhe vtk vva frp).1).2.1 else nI (txQ ftp T vba nhe vtk vva frp).2) := by
                                rw [hL]
                                dsimp only
                                have eE : txE ((y20, y21, k17, k19, y22, y23), k25, k27, y28, y29, y30, y31, g32) = (u78, u79, k17, k19, y22, y23) := (by show be7 (be6 (y20, y21, k17, k19, y22, y23) k25 k27 y30 y31) k25 k27 = _; unfold be6; (try (repeat (first | rw [if_pos (by with_reducible assumption)] | rw [if_neg (by with_reducible assumption)] | rw [if_pos (by first | exact c37 | exact c41 | exact c42 | exact c43 | exact c50 | exact c51 | exact c80)] | rw [if_neg (by first | exact c37 | exact c41 | exact c42 | exact c43 | exact c50 | exact c51 | exact c80)] | rw [if_pos (by (have t_hj5 := hj5; have t_n7 := n7; have t_hinw := hinw; have t_c37 := eqI c37; have t_c41 := eqI c41; have t_c42 := eqI c42; have t_c43 := nleI c43; have t_c50 := ltI c50; have t_c51 := eqI c51; have t_n63 := n63; have t_n75 := n75; have t_w77 := w77.1; have t_c80 := nleI c80; have : (0 : Int32).toInt = 0 := qI_0; have tnb_ := nib12 tn1387_ tn1388_ tn1389_ tn1393_ tn1390_ tn1391_ tn1392_ tn1399_ tn1400_ tn1401_ tn1402_ tn1403_; have tqz_ := qz41_; omega))] | rw [if_neg (by (have t_hj5 := hj5; have t_n7 := n7; have t_hinw := hinw; have t_c37 := eqI c37; have t_c41 := eqI c41; have t_c42 := eqI c42; have t_c43 := nleI c43; have t_c50 := ltI c50; have t_c51 := eqI c51; have t_n63 := n63; have t_n75 := n75; have t_w77 := w77.1; have t_c80 := nleI c80; have : (0 : Int32).toInt = 0 := qI_0; have tnb_ := nib12 tn1387_ tn1388_ tn1389_ tn1393_ tn1390_ tn1391_ tn1392_ tn1399_ tn1400_ tn1401_ tn1402_ tn1403_; have tqz_ := qz41_; omega))] | rw [if_pos (by decide)] | rw [if_neg (by decide)] | rw [if_pos (by skip; assumption)] | rw [if_neg (by skip; assumption)]))); unfold be7; (try (repeat (first | rw [if_pos (by with_reducible assumption)] | rw [if_neg (by with_reducible assumption)] | rw [if_pos (by first | exact c37 | exact c41 | exact c42 | exact c43 | exact c50 | exact c51 | exact c80)] | rw [if_neg (by first | exact c37 | exact c41 | exact c42 | exact c43 | exact c50 | exact c51 | exact c80)] | rw [if_pos (by (have t_hj5 := hj5; have t_n7 := n7; have t_hinw := hinw; have t_c37 := eqI c37; have t_c41 := eqI c41; have t_c42 := eqI c42; have t_c43 := nleI c43; have t_c50 := ltI c50; have t_c51 := eqI c51; have t_n63 := n63; have t_n75 := n75; have t_w77 := w77.1; have t_c80 := nleI c80; have : (0 : Int32).toInt = 0 := qI_0; have tnb_ := nib12 tn1387_ tn1388_ tn1389_ tn1393_ tn1390_ tn1391_ tn1392_ tn1399_ tn1400_ tn1401_ tn1402_ tn1403_; have tqz_ := qz41_; omega))] | rw [if_neg (by (have t_hj5 := hj5; have t_n7 := n7; have t_hinw := hinw; have t_c37 := eqI c37; have t_c41 := eqI c41; have t_c42 := eqI c42; have t_c43 := nleI c43; have t_c50 := ltI c50; have t_c51 := eqI c51; have t_n63 := n63; have t_n75 := n75; have t_w77 := w77.1; have t_c80 := nleI c80; have : (0 : Int32).toInt = 0 := qI_0; have tnb_ := nib12 tn1387_ tn1388_ tn1389_ tn1393_ tn1390_ tn1391_ tn1392_ tn1399_ tn1400_ tn1401_ tn1402_ tn1403_; have tqz_ := qz41_; omega))] | rw [if_pos (by decide)] | rw [if_neg (by decide)] | rw [if_pos (by skip; assumption)] | rw [if_neg (by skip; assumption)]))); (try rw [ew77]); all_goals rfl)
                                rw [eE]
                                dsimp only
                                first | rw [if_pos (by (have t_hj5 := hj5; have t_n7 := n7; have t_hinw := hinw; have t_c37 := eqI c37; have t_c41 := eqI c41; have t_c42 := eqI c42; have t_c43 := nleI c43; have t_c50 := ltI c50; have t_c51 := eqI c51; have t_n63 := n63; have t_n75 := n75; have t_w77 := w77.1; have t_c80 := nleI c80; have : (0 : Int32).toInt = 0 := qI_0; have tnb_ := nib12 tn1387_ tn1388_ tn1389_ tn1393_ tn1390_ tn1391_ tn1392_ tn1399_ tn1400_ tn1401_ tn1402_ tn1403_; have tqz_ := qz41_; omega))] | rw [if_neg (by (have t_hj5 := hj5; have t_n7 := n7; have t_hinw := hinw; have t_c37 := eqI c37; have t_c41 := eqI c41; have t_c42 := eqI c42; have t_c43 := nleI c43; have t_c50 := ltI c50; have t_c51 := eqI c51; have t_n63 := n63; have t_n75 := n75; have t_w77 := w77.1; have t_c80 := nleI c80; have : (0 : Int32).toInt = 0 := qI_0; have tnb_ := nib12 tn1387_ tn1388_ tn1389_ tn1393_ tn1390_ tn1391_ tn1392_ tn1399_ tn1400_ tn1401_ tn1402_ tn1403_; have tqz_ := qz41_; omega))]
                              obtain ⟨hP9, hD9⟩ := va_sub2 (ws' := [(h0, .inr (11, [.ref st, .int (nI N), .int (nI B), .ref rp, .int (nI k25), .int (nI k27), .int y28, .int y29, .int y30, .int y31, .ref tp, .int 0, .int u78, .int u78, .int u79, .int (nI k17), .int (nI k19), .int y22, .int y23, .ref cu, .ref lt, .ref od, .ref th, .ref be, .ref ln, .int (nI S), .ref ma, .int (nI M), .ref ah, .ref bh, .ref ik, .ref la, .ref lg, .ref ce, .int vto])), (tp, .inl (G 0, 320, .inl ftp)), (cu, .inl (G 0, 11, .inl fcu)), (lt, .inl (G 0, 54, .inl flt)), (rp, .inl (G 0, 49, .inl g32)), (st, .inl (G 0, 196, .inl fst)), (ik, .inl (G 2, 2, .inl fik))]) hP hD [6, 5, 0, 1, 2, 3, 4] (by decide +kernel) rfl
                              refine W.widen (k := 0) (n := 0) (Nat.le_of_ble_eq_true rfl) (Nat.le_of_ble_eq_true rfl) ?_
                              exact W.iret (v := (-10) - u79) hx hb hr (fun t ht hW => ⟨⟨(-10) - u79, (u78, u79, (nI k17), k19, y22, y23, (nI k25), (nI k27), y28, y29, y30, y31, u78, 0, N, B, S, M, g32, fst, fik), rfl, ⟨hpost, ⟨⟨hst, (by have t_hj5 := hj5; have t_n7 := n7; have t_hinw := hinw; have t_c37 := eqI c37; have t_c41 := eqI c41; have t_c42 := eqI c42; have t_c43 := nleI c43; have t_c50 := ltI c50; have t_c51 := eqI c51; have t_n63 := n63; have t_n75 := n75; have t_w77 := w77.1; have t_c80 := nleI c80; have : (0 : Int32).toInt = 0 := qI_0; have tnb_ := nib12 tn1387_ tn1388_ tn1389_ tn1393_ tn1390_ tn1391_ tn1392_ tn1399_ tn1400_ tn1401_ tn1402_ tn1403_; have tqz_ := qz41_; omega)⟩, (by clear hpost; have t_hj5 := hj5; have t_n7 := n7; have t_hinw := hinw; have t_c37 := eqI c37; have t_c41 := eqI c41; have t_c42 := eqI c42; have t_c43 := nleI c43; have t_c50 := ltI c50; have t_c51 := eqI c51; have t_n63 := n63; have t_n75 := n75; have t_w77 := w77.1; have t_c80 := nleI c80; have : (0 : Int32).toInt = 0 := qI_0; have tnb_ := nib12 tn1387_ tn1388_ tn1389_ tn1393_ tn1390_ tn1391_ tn1392_ tn1399_ tn1400_ tn1401_ tn1402_ tn1403_; have tqz_ := qz41_; rw [hL]; dsimp only; have eE : txE ((y20, y21, k17, k19, y22, y23), k25, k27, y28, y29, y30, y31, g32) = (u78, u79, k17, k19, y22, y23) := (by show be7 (be6 (y20, y21, k17, k19, y22, y23) k25 k27 y30 y31) k25 k27 = _; unfold be6; (try (repeat (first | rw [if_pos (by with_reducible assumption)] | rw [if_neg (by with_reducible assumption)] | rw [if_pos (by omega)] | rw [if_neg (by omega)] | rw [if_pos (by decide)] | rw [if_neg (by decide)] | rw [if_pos (by skip; assumption)] | rw [if_neg (by skip; assumption)]))); unfold be7; (try (repeat (first | rw [if_pos (by with_reducible assumption)] | rw [if_neg (by with_reducible assumption)] | rw [if_pos (by omega)] | rw [if_neg (by omega)] | rw [if_pos (by decide)] | rw [if_neg (by decide)] | rw [if_pos (by skip; assumption)] | rw [if_neg (by skip; assumption)]))); (try rw [ew77]); all_goals rfl); rw [eE]; dsimp only; refine ⟨rfl, ?_, ?_, ?_, ?_, ?_, ?_⟩ <;> first | (rw [if_pos (by omega)]; done) | (rw [if_neg (by omega)]; first | done | rfl | exact hcp9))⟩⟩, ⟨by rw [ht]; exact hP9, hD9⟩⟩, hS.F ht⟩) hS.2.2 dX11_text_180
                    · skip
                      refine lv_aload_n hx hb dX11_text_120 rfl (lv_at hl 2 rfl) ?_
                      refine lv_bipush (v := 6) hx hb dX11_text_121 rfl ?_
                      obtain ⟨hPc, hDc, hFc⟩ := va_sub3 (ws' := [(h0, .inr (11, [.ref st, .int (nI N), .int (nI B), .ref rp, .int (nI k25), .int (nI k27), .int y28, .int y29, .int y30, .int y31, .ref tp, .int (nI T), .int vfa, .int y20, .int y21, .int (nI k17), .int (nI k19), .int y22, .int y23, .ref cu, .ref lt, .ref od, .ref th, .ref be, .ref ln, .int (nI S), .ref ma, .int (nI M), .ref ah, .ref bh, .ref ik, .ref la, .ref lg, .ref ce, .int vto]))]) hP hD hS hA [5] (by decide +kernel) rfl
                      refine va_callv (va_runV (As := [.int 6]) (rest := []) ⟨hx, hb, hml, hown, hg⟩ (c_X11_failsE l dC dI G _ h0 st N B rp tp T k19 cu lt od th be ln S ma M ah bh ik la lg ce 6 (nI k25) (nI k27) y28 y29 y30 y31 vfa y20 y21 (nI k17) y22 y23 vto hN hB_ hT_ hS0 hM_ (by have t_hj5 := hj5; have t_n7 := n7; have t_hinw := hinw; have t_c37 := eqI c37; have t_c41 := eqI c41; have t_c42 := eqI c42; have t_c43 := nleI c43; have t_c50 := nltI c50; have : (0 : Int32).toInt = 0 := qI_0; have tnb_ := nib12 tn1387_ tn1388_ tn1389_ tn1393_ tn1390_ tn1391_ tn1392_ tn1399_ tn1400_ tn1401_ tn1402_ tn1403_; have tqz_ := qz45_; omega) (by have t_hj5 := hj5; have t_n7 := n7; have t_hinw := hinw; have t_c37 := eqI c37; have t_c41 := eqI c41; have t_c42 := eqI c42; have t_c43 := nleI c43; have t_c50 := nltI c50; have : (0 : Int32).toInt = 0 := qI_0; have tnb_ := nib12 tn1387_ tn1388_ tn1389_ tn1393_ tn1390_ tn1391_ tn1392_ tn1399_ tn1400_ tn1401_ tn1402_ tn1403_; have tqz_ := qz45_; omega) (by first | omega | (have t_hj5 := hj5; have t_n7 := n7; have t_hinw := hinw; have t_c37 := eqI c37; have t_c41 := eqI c41; have t_c42 := eqI c42; have t_c43 := nleI c43; have t_c50 := nltI c50; have : (0 : Int32).toInt = 0 := qI_0; have tnb_ := nib12 tn1387_ tn1388_ tn1389_ tn1393_ tn1390_ tn1391_ tn1392_ tn1399_ tn1400_ tn1401_ tn1402_ tn1403_; have tqz_ := qz45_; omega))) (kwV hg mfX11_fails wt_1011 ⟨Nat.le_of_ble_eq_true rfl, Nat.le_of_ble_eq_true rfl⟩) (preVW hK hPc hDc (ci := 11) (r := (RX11, TX11, 35)) rfl rfl) rfl rfl hl.1 rfl (lv_room (Nat.le_of_ble_eq_true rfl)) dX11_text_123 ⟨Nat.le_of_ble_eq_true rfl, Nat.le_of_ble_eq_true rfl⟩) hS (fun q _ h => hFc q h) hFc (fun ur81 t H1 locs ht hvm w82 hB hz1 hk1 hS => ?_)
                      obtain ⟨u83, u84⟩ := ur81
                      obtain ⟨hP1, hD1⟩ := hB
                      rw [ht] at hP1
                      obtain ⟨hP, hD⟩ := va_join (wr := [(cu, .inl (G 0, 11, .inl fcu)), (lt, .inl (G 0, 54, .inl flt)), (rp, .inl (G 0, 49, .inl g32)), (st, .inl (G 0, 196, .inl fst)), (ik, .inl (G 2, 2, .inl fik)), (tp, .inl (G 0, 320, .inl ftp))]) (w1 := [(h0, .inr (11, [.ref st, .int (nI N), .int (nI B), .ref rp, .int (nI k25), .int (nI k27), .int y28, .int y29, .int y30, .int y31, .ref tp, .int (nI T), .int vfa, .int u83, .int u84, .int (nI k17), .int (nI k19), .int y22, .int y23, .ref cu, .ref lt, .ref od, .ref th, .ref be, .ref ln, .int (nI S), .ref ma, .int (nI M), .ref ah, .ref bh, .ref ik, .ref la, .ref lg, .ref ce, .int vto]))]) hP hD [5] [0, 1, 2, 3, 4, 6] rfl rfl (by decide +kernel) (by decide +kernel) hk1 hFc hP1 hD1
                      have w82 : 0 < u83.toInt ∧ u83 = flB (6 : Int32) y20 ∧ u84 = flA y20 y21 k19 := w82
                      generalize H1 = H at hP hS ⊢
                      have ew82 : fT 6 (y20, y21, k17, k19, y22, y23) = (u83, u84, k17, k19, y22, y23) := (by show (flB _ _, flA _ _ _, _, _, _, _) = _; rw [← w82.2.1, ← w82.2.2])
                      refine lv_aload_n hx hb dX11_text_126 rfl (lv_at hl 2 rfl) ?_
                      refine va_get (D := (dC, dI)) (ci := 11) (v := .int u83) (C := RX11) (T := TX11) (N := 35) hx hb hg inG11 hown hK.1 hP 6 rfl rfl 13 (Nat.le_of_ble_eq_true rfl) (hg _ wt_891) (fun _ h9 => h9) rfl dX11_text_127 ?_
                      refine lv_if_ne (tgt := 153) hx hb dX11_text_130 rfl (fun c85 => ?_) (fun c85 => ?_)
                      · skip
                        refine lv_aload_n hx hb dX11_text_153 rfl (lv_at hl 2 rfl) ?_
                        refine lv_iconst (v := 0) hx hb dX11_text_154 rfl ?_
                        refine va_put (D := (dC, dI)) (ci := 11) (v := .int 0) (ty := .int) (C := RX11) (T := TX11) (N := 35) hx hb hg inG11 tyX11 tyX11_ok nmX11 hown hK.1 hP hD hS 6 rfl rfl 11 (Nat.le_of_ble_eq_true rfl) (hg _ wt_889) (fun _ h9 => h9) rfl (by decide +kernel) rfl rfl (Nat.le_of_ble_eq_true rfl) dX11_text_155 (fun H locs hP hD hS => ?_)
                        refine lv_aload_n hx hb dX11_text_158 rfl (lv_at hl 2 rfl) ?_
                        refine lv_aload_n hx hb dX11_text_159 rfl (lv_at hl 2 rfl) ?_
                        refine va_get (D := (dC, dI)) (ci := 11) (v := .int u83) (C := RX11) (T := TX11) (N := 35) hx hb hg inG11 hown hK.1 hP 6 rfl rfl 13 (Nat.le_of_ble_eq_true rfl) (hg _ wt_891) (fun _ h9 => h9) rfl dX11_text_160 ?_
                        refine va_put (D := (dC, dI)) (ci := 11) (v := .int u83) (ty := .int) (C := RX11) (T := TX11) (N := 35) hx hb hg inG11 tyX11 tyX11_ok nmX11 hown hK.1 hP hD hS 6 rfl rfl 12 (Nat.le_of_ble_eq_true rfl) (hg _ wt_890) (fun _ h9 => h9) rfl (by decide +kernel) rfl rfl (Nat.le_of_ble_eq_true rfl) dX11_text_163 (fun H locs hP hD hS => ?_)
                        refine lv_aload_n hx hb dX11_text_166 rfl (lv_at hl 2 rfl) ?_
                        refine va_get (D := (dC, dI)) (ci := 11) (v := .int u83) (C := RX11) (T := TX11) (N := 35) hx hb hg inG11 hown hK.1 hP 6 rfl rfl 13 (Nat.le_of_ble_eq_true rfl) (hg _ wt_891) (fun _ h9 => h9) rfl dX11_text_167 ?_
                        refine lv_if_le (tgt := 181) hx hb dX11_text_170 rfl (fun c86 => ?_) (fun c86 => ?_)
                        · skip
                          have t_hj5 := hj5
                          have t_n7 := n7
                          have t_hinw := hinw
                          have t_c37 := eqI c37
                          have t_c41 := eqI c41
                          have t_c42 := eqI c42
                          have t_c43 := nleI c43
                          have t_c50 := nltI c50
                          have t_w82 := w82.1
                          have t_c85 := neI c85
                          have t_c86 := leI c86
                          have : (0 : Int32).toInt = 0 := qI_0
                          have t_n0 : (nI N).toInt = (N : Int) := tn1387_ ()
                          have t_n1 : (nI B).toInt = (B : Int) := tn1388_ ()
                          have t_n2 : (nI T).toInt = (T : Int) := tn1389_ ()
                          have t_n3 : (nI nhe).toInt = (nhe : Int) := tn1393_ ()
                          have t_n4 : (nI S).toInt = (S : Int) := tn1390_ ()
                          have t_n5 : (nI M).toInt = (M : Int) := tn1391_ ()
                          have t_n6 : (nI j1).toInt = (j1 : Int) := tn1392_ ()
                          have t_n7 : (nI k17).toInt = (k17 : Int) := tn1399_ ()
                          have t_n8 : (nI k19).toInt = (k19 : Int) := tn1400_ ()
                          have t_n9 : (nI k25).toInt = (k25 : Int) := tn1401_ ()
                          have t_n10 : (nI k27).toInt = (k27 : Int) := tn1402_ ()
                          have t_n11 : (nI k34).toInt = (k34 : Int) := tn1403_ ()
                          exfalso; omega
                        · skip
                          refine lv_bipush (v := (-10)) hx hb dX11_text_173 rfl ?_
                          refine lv_aload_n hx hb dX11_text_175 rfl (lv_at hl 2 rfl) ?_
                          refine va_get (D := (dC, dI)) (ci := 11) (v := .int u84) (C := RX11) (T := TX11) (N := 35) hx hb hg inG11 hown hK.1 hP 6 rfl rfl 14 (Nat.le_of_ble_eq_true rfl) (hg _ wt_892) (fun _ h9 => h9) rfl dX11_text_176 ?_
                          refine lv_isub hx hb dX11_text_179 ?_
                          have hpost : ((-10) - u84 : Int32) = (if 0 < (txE (txQ ftp T vba nhe vtk vva frp).1).1.toInt then (-10) - (txE (txQ ftp T vba nhe vtk vva frp).1).2.1 else nI (txQ ftp T vba nhe vtk vva frp).2) := by
                            rw [hL]
                            dsimp only
                            have eE : txE ((y20, y21, k17, k19, y22, y23), k25, k27, y28, y29, y30, y31, g32) = (u83, u84, k17, k19, y22, y23) := (by show be7 (be6 (y20, y21, k17, k19, y22, y23) k25 k27 y30 y31) k25 k27 = _; unfold be6; (try (repeat (first | rw [if_pos (by with_reducible assumption)] | rw [if_neg (by with_reducible assumption)] | rw [if_pos (by first | exact c37 | exact c41 | exact c42 | exact c43 | exact c50 | exact c85 | exact c86)] | rw [if_neg (by first | exact c37 | exact c41 | exact c42 | exact c43 | exact c50 | exact c85 | exact c86)] | rw [if_pos (by (have t_hj5 := hj5; have t_n7 := n7; have t_hinw := hinw; have t_c37 := eqI c37; have t_c41 := eqI c41; have t_c42 := eqI c42; have t_c43 := nleI c43; have t_c50 := nltI c50; have t_w82 := w82.1; have t_c85 := neI c85; have t_c86 := nleI c86; have : (0 : Int32).toInt = 0 := qI_0; have tnb_ := nib12 tn1387_ tn1388_ tn1389_ tn1393_ tn1390_ tn1391_ tn1392_ tn1399_ tn1400_ tn1401_ tn1402_ tn1403_; have tqz_ := qz41_; omega))] | rw [if_neg (by (have t_hj5 := hj5; have t_n7 := n7; have t_hinw := hinw; have t_c37 := eqI c37; have t_c41 := eqI c41; have t_c42 := eqI c42; have t_c43 := nleI c43; have t_c50 := nltI c50; have t_w82 := w82.1; have t_c85 := neI c85; have t_c86 := nleI c86; have : (0 : Int32).toInt = 0 := qI_0; have tnb_ := nib12 tn1387_ tn1388_ tn1389_ tn1393_ tn1390_ tn1391_ tn1392_ tn1399_ tn1400_ tn1401_ tn1402_ tn1403_; have tqz_ := qz41_; omega))] | rw [if_pos (by decide)] | rw [if_neg (by decide)] | rw [if_pos (by skip; assumption)] | rw [if_neg (by skip; assumption)]))); (try rw [ew82]); unfold be7; (try (repeat (first | rw [if_pos (by with_reducible assumption)] | rw [if_neg (by with_reducible assumption)] | rw [if_pos (by first | exact c37 | exact c41 | exact c42 | exact c43 | exact c50 | exact c85 | exact c86)] | rw [if_neg (by first | exact c37 | exact c41 | exact c42 | exact c43 | exact c50 | exact c85 | exact c86)] | rw [if_pos (by (have t_hj5 := hj5; have t_n7 := n7; have t_hinw := hinw; have t_c37 := eqI c37; have t_c41 := eqI c41; have t_c42 := eqI c42; have t_c43 := nleI c43; have t_c50 := nltI c50; have t_w82 := w82.1; have t_c85 := neI c85; have t_c86 := nleI c86; have : (0 : Int32).toInt = 0 := qI_0; have tnb_ := nib12 tn1387_ tn1388_ tn1389_ tn1393_ tn1390_ tn1391_ tn1392_ tn1399_ tn1400_ tn1401_ tn1402_ tn1403_; have tqz_ := qz41_; omega))] | rw [if_neg (by (have t_hj5 := hj5; have t_n7 := n7; have t_hinw := hinw; have t_c37 := eqI c37; have t_c41 := eqI c41; have t_c42 := eqI c42; have t_c43 := nleI c43; have t_c50 := nltI c50; have t_w82 := w82.1; have t_c85 := neI c85; have t_c86 := nleI c86; have : (0 : Int32).toInt = 0 := qI_0; have tnb_ := nib12 tn1387_ tn1388_ tn1389_ tn1393_ tn1390_ tn1391_ tn1392_ tn1399_ tn1400_ tn1401_ tn1402_ tn1403_; have tqz_ := qz41_; omega))] | rw [if_pos (by decide)] | rw [if_neg (by decide)] | rw [if_pos (by skip; assumption)] | rw [if_neg (by skip; assumption)]))); all_goals rfl)
                            rw [eE]
                            dsimp only
                            first | rw [if_pos (by (have t_hj5 := hj5; have t_n7 := n7; have t_hinw := hinw; have t_c37 := eqI c37; have t_c41 := eqI c41; have t_c42 := eqI c42; have t_c43 := nleI c43; have t_c50 := nltI c50; have t_w82 := w82.1; have t_c85 := neI c85; have t_c86 := nleI c86; have : (0 : Int32).toInt = 0 := qI_0; have tnb_ := nib12 tn1387_ tn1388_ tn1389_ tn1393_ tn1390_ tn1391_ tn1392_ tn1399_ tn1400_ tn1401_ tn1402_ tn1403_; have tqz_ := qz41_; omega))] | rw [if_neg (by (have t_hj5 := hj5; have t_n7 := n7; have t_hinw := hinw; have t_c37 := eqI c37; have t_c41 := eqI c41; have t_c42 := eqI c42; have t_c43 := nleI c43; have t_c50 := nltI c50; have t_w82 := w82.1; have t_c85 := neI c85; have t_c86 := nleI c86; have : (0 : Int32).toInt = 0 := qI_0; have tnb_ := nib12 tn1387_ tn1388_ tn1389_ tn1393_ tn1390_ tn1391_ tn1392_ tn1399_ tn1400_ tn1401_ tn1402_ tn1403_; have tqz_ := qz41_; omega))]
                          obtain ⟨hP9, hD9⟩ := va_sub2 (ws' := [(h0, .inr (11, [.ref st, .int (nI N), .int (nI B), .ref rp, .int (nI k25), .int (nI k27), .int y28, .int y29, .int y30, .int y31, .ref tp, .int 0, .int u83, .int u83, .int u84, .int (nI k17), .int (nI k19), .int y22, .int y23, .ref cu, .ref lt, .ref od, .ref th, .ref be, .ref ln, .int (nI S), .ref ma, .int (nI M), .ref ah, .ref bh, .ref ik, .ref la, .ref lg, .ref ce, .int vto])), (tp, .inl (G 0, 320, .inl ftp)), (cu, .inl (G 0, 11, .inl fcu)), (lt, .inl (G 0, 54, .inl flt)), (rp, .inl (G 0, 49, .inl g32)), (st, .inl (G 0, 196, .inl fst)), (ik, .inl (G 2, 2, .inl fik))]) hP hD [6, 5, 0, 1, 2, 3, 4] (by decide +kernel) rfl
                          refine W.widen (k := 0) (n := 0) (Nat.le_of_ble_eq_true rfl) (Nat.le_of_ble_eq_true rfl) ?_
                          exact W.iret (v := (-10) - u84) hx hb hr (fun t ht hW => ⟨⟨(-10) - u84, (u83, u84, (nI k17), k19, y22, y23, (nI k25), (nI k27), y28, y29, y30, y31, u83, 0, N, B, S, M, g32, fst, fik), rfl, ⟨hpost, ⟨⟨hst, (by have t_hj5 := hj5; have t_n7 := n7; have t_hinw := hinw; have t_c37 := eqI c37; have t_c41 := eqI c41; have t_c42 := eqI c42; have t_c43 := nleI c43; have t_c50 := nltI c50; have t_w82 := w82.1; have t_c85 := neI c85; have t_c86 := nleI c86; have : (0 : Int32).toInt = 0 := qI_0; have tnb_ := nib12 tn1387_ tn1388_ tn1389_ tn1393_ tn1390_ tn1391_ tn1392_ tn1399_ tn1400_ tn1401_ tn1402_ tn1403_; have tqz_ := qz41_; omega)⟩, (by clear hpost; have t_hj5 := hj5; have t_n7 := n7; have t_hinw := hinw; have t_c37 := eqI c37; have t_c41 := eqI c41; have t_c42 := eqI c42; have t_c43 := nleI c43; have t_c50 := nltI c50; have t_w82 := w82.1; have t_c85 := neI c85; have t_c86 := nleI c86; have : (0 : Int32).toInt = 0 := qI_0; have tnb_ := nib12 tn1387_ tn1388_ tn1389_ tn1393_ tn1390_ tn1391_ tn1392_ tn1399_ tn1400_ tn1401_ tn1402_ tn1403_; have tqz_ := qz41_; rw [hL]; dsimp only; have eE : txE ((y20, y21, k17, k19, y22, y23), k25, k27, y28, y29, y30, y31, g32) = (u83, u84, k17, k19, y22, y23) := (by show be7 (be6 (y20, y21, k17, k19, y22, y23) k25 k27 y30 y31) k25 k27 = _; unfold be6; (try (repeat (first | rw [if_pos (by with_reducible assumption)] | rw [if_neg (by with_reducible assumption)] | rw [if_pos (by omega)] | rw [if_neg (by omega)] | rw [if_pos (by decide)] | rw [if_neg (by decide)] | rw [if_pos (by skip; assumption)] | rw [if_neg (by skip; assumption)]))); (try rw [ew82]); unfold be7; (try (repeat (first | rw [if_pos (by with_reducible assumption)] | rw [if_neg (by with_reducible assumption)] | rw [if_pos (by omega)] | rw [if_neg (by omega)] | rw [if_pos (by decide)] | rw [if_neg (by decide)] | rw [if_pos (by skip; assumption)] | rw [if_neg (by skip; assumption)]))); all_goals rfl); rw [eE]; dsimp only; refine ⟨rfl, ?_, ?_, ?_, ?_, ?_, ?_⟩ <;> first | (rw [if_pos (by omega)]; done) | (rw [if_neg (by omega)]; first | done | rfl | exact hcp9))⟩⟩, ⟨by rw [ht]; exact hP9, hD9⟩⟩, hS.F ht⟩) hS.2.2 dX11_text_180
                      · skip
                        have t_hj5 := hj5
                        have t_n7 := n7
                        have t_hinw := hinw
                        have t_c37 := eqI c37
                        have t_c41 := eqI c41
                        have t_c42 := eqI c42
                        have t_c43 := nleI c43
                        have t_c50 := nltI c50
                        have t_w82 := w82.1
                        have t_c85 := eqI c85
                        have : (0 : Int32).toInt = 0 := qI_0
                        have t_n0 : (nI N).toInt = (N : Int) := tn1387_ ()
                        have t_n1 : (nI B).toInt = (B : Int) := tn1388_ ()
                        have t_n2 : (nI T).toInt = (T : Int) := tn1389_ ()
                        have t_n3 : (nI nhe).toInt = (nhe : Int) := tn1393_ ()
                        have t_n4 : (nI S).toInt = (S : Int) := tn1390_ ()
                        have t_n5 : (nI M).toInt = (M : Int) := tn1391_ ()
                        have t_n6 : (nI j1).toInt = (j1 : Int) := tn1392_ ()
                        have t_n7 : (nI k17).toInt = (k17 : Int) := tn1399_ ()
                        have t_n8 : (nI k19).toInt = (k19 : Int) := tn1400_ ()
                        have t_n9 : (nI k25).toInt = (k25 : Int) := tn1401_ ()
                        have t_n10 : (nI k27).toInt = (k27 : Int) := tn1402_ ()
                        have t_n11 : (nI k34).toInt = (k34 : Int) := tn1403_ ()
                        exfalso; omega
              · skip
                refine lv_aload_n hx hb dX11_text_81 rfl (lv_at hl 2 rfl) ?_
                obtain ⟨hPc, hDc, hFc⟩ := va_sub3 (ws' := [(h0, .inr (11, [.ref st, .int (nI N), .int (nI B), .ref rp, .int (nI k25), .int (nI k27), .int y28, .int y29, .int y30, .int y31, .ref tp, .int (nI T), .int vfa, .int y20, .int y21, .int (nI k17), .int (nI k19), .int y22, .int y23, .ref cu, .ref lt, .ref od, .ref th, .ref be, .ref ln, .int (nI S), .ref ma, .int (nI M), .ref ah, .ref bh, .ref ik, .ref la, .ref lg, .ref ce, .int vto])), (tp, .inl (G 0, 320, .inl ftp)), (cu, .inl (G 0, 11, .inl fcu)), (lt, .inl (G 0, 54, .inl flt)), (rp, .inl (G 0, 49, .inl g32))]) hP hD hS hA [5, 6, 0, 1, 2] (by decide +kernel) rfl
                have tn1408_ : nIT k17 := fun _ => nI_toInt (by first | omega | (have t_hj5 := hj5; have t_n7 := n7; have t_hinw := hinw; have t_c37 := eqI c37; have t_c41 := neI c41; have : (0 : Int32).toInt = 0 := qI_0; omega))
                have tn1409_ : nIT k19 := fun _ => nI_toInt (by first | omega | (have t_hj5 := hj5; have t_n7 := n7; have t_hinw := hinw; have t_c37 := eqI c37; have t_c41 := neI c41; have : (0 : Int32).toInt = 0 := qI_0; omega))
                have tn1410_ : nIT k25 := fun _ => nI_toInt (by first | omega | (have t_hj5 := hj5; have t_n7 := n7; have t_hinw := hinw; have t_c37 := eqI c37; have t_c41 := neI c41; have : (0 : Int32).toInt = 0 := qI_0; omega))
                have tn1411_ : nIT k27 := fun _ => nI_toInt (by first | omega | (have t_hj5 := hj5; have t_n7 := n7; have t_hinw := hinw; have t_c37 := eqI c37; have t_c41 := neI c41; have : (0 : Int32).toInt = 0 := qI_0; omega))
                have tn1412_ : nIT k34 := fun _ => nI_toInt (by first | omega | (have t_hj5 := hj5; have t_n7 := n7; have t_hinw := hinw; have t_c37 := eqI c37; have t_c41 := neI c41; have : (0 : Int32).toInt = 0 := qI_0; omega))
                refine va_callv (va_runV (As := []) (rest := []) ⟨hx, hb, hml, hown, hg⟩ (c_X11_readLineE l dC dI G _ h0 st N B rp k25 k27 tp T k17 k19 cu lt od th be ln S ma M ah bh ik la lg ce y28 y29 y30 y31 vfa y20 y21 y22 y23 vto ftp fcu flt g32 hN hB_ hT_ hS0 hM_ (by have t_hj5 := hj5; have t_n7 := n7; have t_hinw := hinw; have t_c37 := eqI c37; have t_c41 := neI c41; have : (0 : Int32).toInt = 0 := qI_0; have tnb_ := nib12 tn1387_ tn1388_ tn1389_ tn1393_ tn1390_ tn1391_ tn1392_ tn1408_ tn1409_ tn1410_ tn1411_ tn1412_; have tqz_ := qz41_; omega) (by first | omega | (have t_hj5 := hj5; have t_n7 := n7; have t_hinw := hinw; have t_c37 := eqI c37; have t_c41 := neI c41; have : (0 : Int32).toInt = 0 := qI_0; have tnb_ := nib12 tn1387_ tn1388_ tn1389_ tn1393_ tn1390_ tn1391_ tn1392_ tn1408_ tn1409_ tn1410_ tn1411_ tn1412_; have tqz_ := qz41_; omega)) (by first | omega | (have t_hj5 := hj5; have t_n7 := n7; have t_hinw := hinw; have t_c37 := eqI c37; have t_c41 := neI c41; have : (0 : Int32).toInt = 0 := qI_0; have tnb_ := nib12 tn1387_ tn1388_ tn1389_ tn1393_ tn1390_ tn1391_ tn1392_ tn1408_ tn1409_ tn1410_ tn1411_ tn1412_; have tqz_ := qz41_; omega)) (by first | omega | (have t_hj5 := hj5; have t_n7 := n7; have t_hinw := hinw; have t_c37 := eqI c37; have t_c41 := neI c41; have : (0 : Int32).toInt = 0 := qI_0; have tnb_ := nib12 tn1387_ tn1388_ tn1389_ tn1393_ tn1390_ tn1391_ tn1392_ tn1408_ tn1409_ tn1410_ tn1411_ tn1412_; have tqz_ := qz41_; omega)) (by first | omega | (have t_hj5 := hj5; have t_n7 := n7; have t_hinw := hinw; have t_c37 := eqI c37; have t_c41 := neI c41; have : (0 : Int32).toInt = 0 := qI_0; have tnb_ := nib12 tn1387_ tn1388_ tn1389_ tn1393_ tn1390_ tn1391_ tn1392_ tn1408_ tn1409_ tn1410_ tn1411_ tn1412_; have tqz_ := qz41_; omega)) hc hinw.1 hlt htb) (kwV hg mfX11_readLine wt_1015 ⟨Nat.le_of_ble_eq_true rfl, Nat.le_of_ble_eq_true rfl⟩) (preVW hK hPc hDc (ci := 11) (r := (RX11, TX11, 35)) rfl rfl) rfl rfl hl.1 rfl (lv_room (Nat.le_of_ble_eq_true rfl)) dX11_text_82 ⟨Nat.le_of_ble_eq_true rfl, Nat.le_of_ble_eq_true rfl⟩) hS (fun q _ h => hFc q h) hFc (fun ur87 t H1 locs ht hvm w88 hB hz1 hk1 hS => ?_)
                obtain ⟨u89, u90, u91, u92, u93, u94, u95, u96, u97, u98, u99, u100, u101⟩ := ur87
                obtain ⟨hP1, hD1⟩ := hB
                rw [ht] at hP1
                obtain ⟨hP, hD⟩ := va_join (wr := [(st, .inl (G 0, 196, .inl fst)), (ik, .inl (G 2, 2, .inl fik))]) (w1 := [(h0, .inr (11, [.ref st, .int (nI N), .int (nI B), .ref rp, .int (nI u95), .int (nI u96), .int u97, .int u98, .int u99, .int u100, .ref tp, .int (nI T), .int vfa, .int u89, .int u90, .int (nI u91), .int (nI u92), .int u93, .int u94, .ref cu, .ref lt, .ref od, .ref th, .ref be, .ref ln, .int (nI S), .ref ma, .int (nI M), .ref ah, .ref bh, .ref ik, .ref la, .ref lg, .ref ce, .int vto])), (tp, .inl (G 0, 320, .inl ftp)), (cu, .inl (G 0, 11, .inl fcu)), (lt, .inl (G 0, 54, .inl flt)), (rp, .inl (G 0, 49, .inl u101))]) hP hD [5, 6, 0, 1, 2] [3, 4] rfl rfl (by decide +kernel) (by decide +kernel) hk1 hFc hP1 hD1
                have w88 : (OKP u101 ∧ (0 ≤ u89.toInt ∧ u91 ≤ T ∧ u92 ≤ u91 ∧ (0 < u89.toInt ∨ k17 < u91) ∧ u95 ≤ 11 ∧ (0 < u89.toInt ∨ u95 ≤ 10) ∧ u96 ≤ 6)) ∧ ((u89, u90, u91, u92, u93, u94), u95, u96, u97, u98, u99, u100, u101) = rlS ftp T (y20, y21, k17, k19, y22, y23) k25 k27 y28 y29 y30 y31 g32 := w88
                generalize H1 = H at hP hS ⊢
                refine lv_iinc (v := nI (k34 + 1)) (lv' := [(1, .int (nI (k34 + 1))), (2, .int (nI j1)), (0, .ref h0)]) hx hb dX11_text_85 hl (k := 1) rfl (by rw [show Int32.ofInt 1 = nI 1 from by decide]; exact nI_add _ _) (by decide) rfl (fun ls hl => ?_)
                by_cases hbz102 : 0 < u89.toInt
                · skip
                  refine lv_goto (tgt := 67) hx hb dX11_text_88 rfl ?_
                  refine lv_aload_n hx hb dX11_text_67 rfl (lv_at hl 2 rfl) ?_
                  refine va_get (D := (dC, dI)) (ci := 11) (v := .int u89) (C := RX11) (T := TX11) (N := 35) hx hb hg inG11 hown hK.1 hP 2 rfl rfl 13 (Nat.le_of_ble_eq_true rfl) (hg _ wt_891) (fun _ h9 => h9) rfl dX11_text_68 ?_
                  refine lv_if_ne (tgt := 91) hx hb dX11_text_71 rfl (fun c103 => ?_) (fun c103 => ?_)
                  · skip
                    have hL : txQ ftp T vba nhe vtk vva frp = (((u89, u90, u91, u92, u93, u94), u95, u96, u97, u98, u99, u100, u101), (k34 + 1)) := (by have t_hj5 := hj5; have t_n7 := n7; have t_hinw := hinw; have t_c37 := eqI c37; have t_c41 := neI c41; have t_hbz102 := hbz102; have t_c103 := neI c103; have : (0 : Int32).toInt = 0 := qI_0; have tnb_ := nib12 tn1387_ tn1388_ tn1389_ tn1393_ tn1390_ tn1391_ tn1392_ tn1408_ tn1409_ tn1410_ tn1411_ tn1412_; have tqz_ := qz41_; unfold txQ; rw [← hq0, ← hz9]; refine Eq.trans hinw.2.2.2.symm ?_; rw [show 400 - k34 = (400 - (k34 + 1)) + 1 by omega, lpS_go (by first | with_reducible assumption | assumption) (by first | with_reducible assumption | assumption)]; refine Eq.trans (congrArg (fun z9 => lpS ftp T (400 - (k34 + 1)) z9 (k34 + 1)) w88.2).symm ?_; exact lpS_e0 (by first | with_reducible assumption | assumption))
                    refine lv_aload_n hx hb dX11_text_91 rfl (lv_at hl 2 rfl) ?_
                    refine va_get (D := (dC, dI)) (ci := 11) (v := .int u89) (C := RX11) (T := TX11) (N := 35) hx hb hg inG11 hown hK.1 hP 2 rfl rfl 13 (Nat.le_of_ble_eq_true rfl) (hg _ wt_891) (fun _ h9 => h9) rfl dX11_text_92 ?_
                    refine lv_if_ne (tgt := 126) hx hb dX11_text_95 rfl (fun c104 => ?_) (fun c104 => ?_)
                    · skip
                      refine lv_aload_n hx hb dX11_text_126 rfl (lv_at hl 2 rfl) ?_
                      refine va_get (D := (dC, dI)) (ci := 11) (v := .int u89) (C := RX11) (T := TX11) (N := 35) hx hb hg inG11 hown hK.1 hP 2 rfl rfl 13 (Nat.le_of_ble_eq_true rfl) (hg _ wt_891) (fun _ h9 => h9) rfl dX11_text_127 ?_
                      refine lv_if_ne (tgt := 153) hx hb dX11_text_130 rfl (fun c105 => ?_) (fun c105 => ?_)
                      · skip
                        refine lv_aload_n hx hb dX11_text_153 rfl (lv_at hl 2 rfl) ?_
                        refine lv_iconst (v := 0) hx hb dX11_text_154 rfl ?_
                        refine va_put (D := (dC, dI)) (ci := 11) (v := .int 0) (ty := .int) (C := RX11) (T := TX11) (N := 35) hx hb hg inG11 tyX11 tyX11_ok nmX11 hown hK.1 hP hD hS 2 rfl rfl 11 (Nat.le_of_ble_eq_true rfl) (hg _ wt_889) (fun _ h9 => h9) rfl (by decide +kernel) rfl rfl (Nat.le_of_ble_eq_true rfl) dX11_text_155 (fun H locs hP hD hS => ?_)
                        refine lv_aload_n hx hb dX11_text_158 rfl (lv_at hl 2 rfl) ?_
                        refine lv_aload_n hx hb dX11_text_159 rfl (lv_at hl 2 rfl) ?_
                        refine va_get (D := (dC, dI)) (ci := 11) (v := .int u89) (C := RX11) (T := TX11) (N := 35) hx hb hg inG11 hown hK.1 hP 2 rfl rfl 13 (Nat.le_of_ble_eq_true rfl) (hg _ wt_891) (fun _ h9 => h9) rfl dX11_text_160 ?_
                        refine va_put (D := (dC, dI)) (ci := 11) (v := .int u89) (ty := .int) (C := RX11) (T := TX11) (N := 35) hx hb hg inG11 tyX11 tyX11_ok nmX11 hown hK.1 hP hD hS 2 rfl rfl 12 (Nat.le_of_ble_eq_true rfl) (hg _ wt_890) (fun _ h9 => h9) rfl (by decide +kernel) rfl rfl (Nat.le_of_ble_eq_true rfl) dX11_text_163 (fun H locs hP hD hS => ?_)
                        refine lv_aload_n hx hb dX11_text_166 rfl (lv_at hl 2 rfl) ?_
                        refine va_get (D := (dC, dI)) (ci := 11) (v := .int u89) (C := RX11) (T := TX11) (N := 35) hx hb hg inG11 hown hK.1 hP 2 rfl rfl 13 (Nat.le_of_ble_eq_true rfl) (hg _ wt_891) (fun _ h9 => h9) rfl dX11_text_167 ?_
                        refine lv_if_le (tgt := 181) hx hb dX11_text_170 rfl (fun c106 => ?_) (fun c106 => ?_)
                        · skip
                          have t_hj5 := hj5
                          have t_n7 := n7
                          have t_hinw := hinw
                          have t_c37 := eqI c37
                          have t_c41 := neI c41
                          have t_hbz102 := hbz102
                          have t_c103 := neI c103
                          have t_c104 := neI c104
                          have t_c105 := neI c105
                          have t_c106 := leI c106
                          have : (0 : Int32).toInt = 0 := qI_0
                          have t_n0 : (nI N).toInt = (N : Int) := tn1387_ ()
                          have t_n1 : (nI B).toInt = (B : Int) := tn1388_ ()
                          have t_n2 : (nI T).toInt = (T : Int) := tn1389_ ()
                          have t_n3 : (nI nhe).toInt = (nhe : Int) := tn1393_ ()
                          have t_n4 : (nI S).toInt = (S : Int) := tn1390_ ()
                          have t_n5 : (nI M).toInt = (M : Int) := tn1391_ ()
                          have t_n6 : (nI j1).toInt = (j1 : Int) := tn1392_ ()
                          have t_n7 : (nI k17).toInt = (k17 : Int) := tn1408_ ()
                          have t_n8 : (nI k19).toInt = (k19 : Int) := tn1409_ ()
                          have t_n9 : (nI k25).toInt = (k25 : Int) := tn1410_ ()
                          have t_n10 : (nI k27).toInt = (k27 : Int) := tn1411_ ()
                          have t_n11 : (nI k34).toInt = (k34 : Int) := tn1412_ ()
                          exfalso; omega
                        · skip
                          refine lv_bipush (v := (-10)) hx hb dX11_text_173 rfl ?_
                          refine lv_aload_n hx hb dX11_text_175 rfl (lv_at hl 2 rfl) ?_
                          refine va_get (D := (dC, dI)) (ci := 11) (v := .int u90) (C := RX11) (T := TX11) (N := 35) hx hb hg inG11 hown hK.1 hP 2 rfl rfl 14 (Nat.le_of_ble_eq_true rfl) (hg _ wt_892) (fun _ h9 => h9) rfl dX11_text_176 ?_
                          refine lv_isub hx hb dX11_text_179 ?_
                          have hpost : ((-10) - u90 : Int32) = (if 0 < (txE (txQ ftp T vba nhe vtk vva frp).1).1.toInt then (-10) - (txE (txQ ftp T vba nhe vtk vva frp).1).2.1 else nI (txQ ftp T vba nhe vtk vva frp).2) := by
                            rw [hL]
                            dsimp only
                            have eE : txE ((u89, u90, u91, u92, u93, u94), u95, u96, u97, u98, u99, u100, u101) = (u89, u90, u91, u92, u93, u94) := (by show be7 (be6 (u89, u90, u91, u92, u93, u94) u95 u96 u99 u100) u95 u96 = _; unfold be6; (try (repeat (first | rw [if_pos (by with_reducible assumption)] | rw [if_neg (by with_reducible assumption)] | rw [if_pos (by first | exact c37 | exact c41 | exact c103 | exact c104 | exact c105 | exact c106)] | rw [if_neg (by first | exact c37 | exact c41 | exact c103 | exact c104 | exact c105 | exact c106)] | rw [if_pos (by (have t_hj5 := hj5; have t_n7 := n7; have t_hinw := hinw; have t_c37 := eqI c37; have t_c41 := neI c41; have t_hbz102 := hbz102; have t_c103 := neI c103; have t_c104 := neI c104; have t_c105 := neI c105; have t_c106 := nleI c106; have : (0 : Int32).toInt = 0 := qI_0; have tnb_ := nib12 tn1387_ tn1388_ tn1389_ tn1393_ tn1390_ tn1391_ tn1392_ tn1408_ tn1409_ tn1410_ tn1411_ tn1412_; have tqz_ := qz41_; omega))] | rw [if_neg (by (have t_hj5 := hj5; have t_n7 := n7; have t_hinw := hinw; have t_c37 := eqI c37; have t_c41 := neI c41; have t_hbz102 := hbz102; have t_c103 := neI c103; have t_c104 := neI c104; have t_c105 := neI c105; have t_c106 := nleI c106; have : (0 : Int32).toInt = 0 := qI_0; have tnb_ := nib12 tn1387_ tn1388_ tn1389_ tn1393_ tn1390_ tn1391_ tn1392_ tn1408_ tn1409_ tn1410_ tn1411_ tn1412_; have tqz_ := qz41_; omega))] | rw [if_pos (by decide)] | rw [if_neg (by decide)] | rw [if_pos (by skip; assumption)] | rw [if_neg (by skip; assumption)]))); unfold be7; (try (repeat (first | rw [if_pos (by with_reducible assumption)] | rw [if_neg (by with_reducible assumption)] | rw [if_pos (by first | exact c37 | exact c41 | exact c103 | exact c104 | exact c105 | exact c106)] | rw [if_neg (by first | exact c37 | exact c41 | exact c103 | exact c104 | exact c105 | exact c106)] | rw [if_pos (by (have t_hj5 := hj5; have t_n7 := n7; have t_hinw := hinw; have t_c37 := eqI c37; have t_c41 := neI c41; have t_hbz102 := hbz102; have t_c103 := neI c103; have t_c104 := neI c104; have t_c105 := neI c105; have t_c106 := nleI c106; have : (0 : Int32).toInt = 0 := qI_0; have tnb_ := nib12 tn1387_ tn1388_ tn1389_ tn1393_ tn1390_ tn1391_ tn1392_ tn1408_ tn1409_ tn1410_ tn1411_ tn1412_; have tqz_ := qz41_; omega))] | rw [if_neg (by (have t_hj5 := hj5; have t_n7 := n7; have t_hinw := hinw; have t_c37 := eqI c37; have t_c41 := neI c41; have t_hbz102 := hbz102; have t_c103 := neI c103; have t_c104 := neI c104; have t_c105 := neI c105; have t_c106 := nleI c106; have : (0 : Int32).toInt = 0 := qI_0; have tnb_ := nib12 tn1387_ tn1388_ tn1389_ tn1393_ tn1390_ tn1391_ tn1392_ tn1408_ tn1409_ tn1410_ tn1411_ tn1412_; have tqz_ := qz41_; omega))] | rw [if_pos (by decide)] | rw [if_neg (by decide)] | rw [if_pos (by skip; assumption)] | rw [if_neg (by skip; assumption)]))); all_goals rfl)
                            rw [eE]
                            dsimp only
                            first | rw [if_pos (by (have t_hj5 := hj5; have t_n7 := n7; have t_hinw := hinw; have t_c37 := eqI c37; have t_c41 := neI c41; have t_hbz102 := hbz102; have t_c103 := neI c103; have t_c104 := neI c104; have t_c105 := neI c105; have t_c106 := nleI c106; have : (0 : Int32).toInt = 0 := qI_0; have tnb_ := nib12 tn1387_ tn1388_ tn1389_ tn1393_ tn1390_ tn1391_ tn1392_ tn1408_ tn1409_ tn1410_ tn1411_ tn1412_; have tqz_ := qz41_; omega))] | rw [if_neg (by (have t_hj5 := hj5; have t_n7 := n7; have t_hinw := hinw; have t_c37 := eqI c37; have t_c41 := neI c41; have t_hbz102 := hbz102; have t_c103 := neI c103; have t_c104 := neI c104; have t_c105 := neI c105; have t_c106 := nleI c106; have : (0 : Int32).toInt = 0 := qI_0; have tnb_ := nib12 tn1387_ tn1388_ tn1389_ tn1393_ tn1390_ tn1391_ tn1392_ tn1408_ tn1409_ tn1410_ tn1411_ tn1412_; have tqz_ := qz41_; omega))]
                          obtain ⟨hP9, hD9⟩ := va_sub2 (ws' := [(h0, .inr (11, [.ref st, .int (nI N), .int (nI B), .ref rp, .int (nI u95), .int (nI u96), .int u97, .int u98, .int u99, .int u100, .ref tp, .int 0, .int u89, .int u89, .int u90, .int (nI u91), .int (nI u92), .int u93, .int u94, .ref cu, .ref lt, .ref od, .ref th, .ref be, .ref ln, .int (nI S), .ref ma, .int (nI M), .ref ah, .ref bh, .ref ik, .ref la, .ref lg, .ref ce, .int vto])), (tp, .inl (G 0, 320, .inl ftp)), (cu, .inl (G 0, 11, .inl fcu)), (lt, .inl (G 0, 54, .inl flt)), (rp, .inl (G 0, 49, .inl u101)), (st, .inl (G 0, 196, .inl fst)), (ik, .inl (G 2, 2, .inl fik))]) hP hD [2, 3, 4, 5, 6, 0, 1] (by decide +kernel) rfl
                          refine W.widen (k := 0) (n := 0) (Nat.le_of_ble_eq_true rfl) (Nat.le_of_ble_eq_true rfl) ?_
                          exact W.iret (v := (-10) - u90) hx hb hr (fun t ht hW => ⟨⟨(-10) - u90, (u89, u90, (nI u91), u92, u93, u94, (nI u95), (nI u96), u97, u98, u99, u100, u89, 0, N, B, S, M, u101, fst, fik), rfl, ⟨hpost, ⟨⟨hst, (by have t_hj5 := hj5; have t_n7 := n7; have t_hinw := hinw; have t_c37 := eqI c37; have t_c41 := neI c41; have t_hbz102 := hbz102; have t_c103 := neI c103; have t_c104 := neI c104; have t_c105 := neI c105; have t_c106 := nleI c106; have : (0 : Int32).toInt = 0 := qI_0; have tnb_ := nib12 tn1387_ tn1388_ tn1389_ tn1393_ tn1390_ tn1391_ tn1392_ tn1408_ tn1409_ tn1410_ tn1411_ tn1412_; have tqz_ := qz41_; omega)⟩, (by clear hpost; have t_hj5 := hj5; have t_n7 := n7; have t_hinw := hinw; have t_c37 := eqI c37; have t_c41 := neI c41; have t_hbz102 := hbz102; have t_c103 := neI c103; have t_c104 := neI c104; have t_c105 := neI c105; have t_c106 := nleI c106; have : (0 : Int32).toInt = 0 := qI_0; have tnb_ := nib12 tn1387_ tn1388_ tn1389_ tn1393_ tn1390_ tn1391_ tn1392_ tn1408_ tn1409_ tn1410_ tn1411_ tn1412_; have tqz_ := qz41_; rw [hL]; dsimp only; have eE : txE ((u89, u90, u91, u92, u93, u94), u95, u96, u97, u98, u99, u100, u101) = (u89, u90, u91, u92, u93, u94) := (by show be7 (be6 (u89, u90, u91, u92, u93, u94) u95 u96 u99 u100) u95 u96 = _; unfold be6; (try (repeat (first | rw [if_pos (by with_reducible assumption)] | rw [if_neg (by with_reducible assumption)] | rw [if_pos (by omega)] | rw [if_neg (by omega)] | rw [if_pos (by decide)] | rw [if_neg (by decide)] | rw [if_pos (by skip; assumption)] | rw [if_neg (by skip; assumption)]))); unfold be7; (try (repeat (first | rw [if_pos (by with_reducible assumption)] | rw [if_neg (by with_reducible assumption)] | rw [if_pos (by omega)] | rw [if_neg (by omega)] | rw [if_pos (by decide)] | rw [if_neg (by decide)] | rw [if_pos (by skip; assumption)] | rw [if_neg (by skip; assumption)]))); all_goals rfl); rw [eE]; dsimp only; refine ⟨rfl, ?_, ?_, ?_, ?_, ?_, ?_⟩ <;> first | (rw [if_pos (by omega)]; done) | (rw [if_neg (by omega)]; first | done | rfl | exact hcp9))⟩⟩, ⟨by rw [ht]; exact hP9, hD9⟩⟩, hS.F ht⟩) hS.2.2 dX11_text_180
                      · skip
                        have t_hj5 := hj5
                        have t_n7 := n7
                        have t_hinw := hinw
                        have t_c37 := eqI c37
                        have t_c41 := neI c41
                        have t_hbz102 := hbz102
                        have t_c103 := neI c103
                        have t_c104 := neI c104
                        have t_c105 := eqI c105
                        have : (0 : Int32).toInt = 0 := qI_0
                        have t_n0 : (nI N).toInt = (N : Int) := tn1387_ ()
                        have t_n1 : (nI B).toInt = (B : Int) := tn1388_ ()
                        have t_n2 : (nI T).toInt = (T : Int) := tn1389_ ()
                        have t_n3 : (nI nhe).toInt = (nhe : Int) := tn1393_ ()
                        have t_n4 : (nI S).toInt = (S : Int) := tn1390_ ()
                        have t_n5 : (nI M).toInt = (M : Int) := tn1391_ ()
                        have t_n6 : (nI j1).toInt = (j1 : Int) := tn1392_ ()
                        have t_n7 : (nI k17).toInt = (k17 : Int) := tn1408_ ()
                        have t_n8 : (nI k19).toInt = (k19 : Int) := tn1409_ ()
                        have t_n9 : (nI k25).toInt = (k25 : Int) := tn1410_ ()
                        have t_n10 : (nI k27).toInt = (k27 : Int) := tn1411_ ()
                        have t_n11 : (nI k34).toInt = (k34 : Int) := tn1412_ ()
                        exfalso; omega
                    · skip
                      have t_hj5 := hj5
                      have t_n7 := n7
                      have t_hinw := hinw
                      have t_c37 := eqI c37
                      have t_c41 := neI c41
                      have t_hbz102 := hbz102
                      have t_c103 := neI c103
                      have t_c104 := eqI c104
                      have : (0 : Int32).toInt = 0 := qI_0
                      have t_n0 : (nI N).toInt = (N : Int) := tn1387_ ()
                      have t_n1 : (nI B).toInt = (B : Int) := tn1388_ ()
                      have t_n2 : (nI T).toInt = (T : Int) := tn1389_ ()
                      have t_n3 : (nI nhe).toInt = (nhe : Int) := tn1393_ ()
                      have t_n4 : (nI S).toInt = (S : Int) := tn1390_ ()
                      have t_n5 : (nI M).toInt = (M : Int) := tn1391_ ()
                      have t_n6 : (nI j1).toInt = (j1 : Int) := tn1392_ ()
                      have t_n7 : (nI k17).toInt = (k17 : Int) := tn1408_ ()
                      have t_n8 : (nI k19).toInt = (k19 : Int) := tn1409_ ()
                      have t_n9 : (nI k25).toInt = (k25 : Int) := tn1410_ ()
                      have t_n10 : (nI k27).toInt = (k27 : Int) := tn1411_ ()
                      have t_n11 : (nI k34).toInt = (k34 : Int) := tn1412_ ()
                      exfalso; omega
                  · skip
                    have t_hj5 := hj5
                    have t_n7 := n7
                    have t_hinw := hinw
                    have t_c37 := eqI c37
                    have t_c41 := neI c41
                    have t_hbz102 := hbz102
                    have t_c103 := eqI c103
                    have : (0 : Int32).toInt = 0 := qI_0
                    have t_n0 : (nI N).toInt = (N : Int) := tn1387_ ()
                    have t_n1 : (nI B).toInt = (B : Int) := tn1388_ ()
                    have t_n2 : (nI T).toInt = (T : Int) := tn1389_ ()
                    have t_n3 : (nI nhe).toInt = (nhe : Int) := tn1393_ ()
                    have t_n4 : (nI S).toInt = (S : Int) := tn1390_ ()
                    have t_n5 : (nI M).toInt = (M : Int) := tn1391_ ()
                    have t_n6 : (nI j1).toInt = (j1 : Int) := tn1392_ ()
                    have t_n7 : (nI k17).toInt = (k17 : Int) := tn1408_ ()
                    have t_n8 : (nI k19).toInt = (k19 : Int) := tn1409_ ()
                    have t_n9 : (nI k25).toInt = (k25 : Int) := tn1410_ ()
                    have t_n10 : (nI k27).toInt = (k27 : Int) := tn1411_ ()
                    have t_n11 : (nI k34).toInt = (k34 : Int) := tn1412_ ()
                    exfalso; omega
                · skip
                  refine lv_goto (tgt := 67) hx hb dX11_text_88 rfl ?_
                  exact ih67_35 u91 u92 u89 u90 u93 u94 u95 u96 u97 u98 u99 u100 u101 (k34 + 1) (by have t_hj5 := hj5; have t_n7 := n7; have t_hinw := hinw; have t_c37 := eqI c37; have t_c41 := neI c41; have t_hbz102 := hbz102; have : (0 : Int32).toInt = 0 := qI_0; have tnb_ := nib12 tn1387_ tn1388_ tn1389_ tn1393_ tn1390_ tn1391_ tn1392_ tn1408_ tn1409_ tn1410_ tn1411_ tn1412_; have tqz_ := qz41_; omega) ⟨w88.1.1, (by have t_hj5 := hj5; have t_n7 := n7; have t_hinw := hinw; have t_c37 := eqI c37; have t_c41 := neI c41; have t_hbz102 := hbz102; have : (0 : Int32).toInt = 0 := qI_0; have tnb_ := nib12 tn1387_ tn1388_ tn1389_ tn1393_ tn1390_ tn1391_ tn1392_ tn1408_ tn1409_ tn1410_ tn1411_ tn1412_; have tqz_ := qz41_; omega), (by have t_hj5 := hj5; have t_n7 := n7; have t_hinw := hinw; have t_c37 := eqI c37; have t_c41 := neI c41; have t_hbz102 := hbz102; have : (0 : Int32).toInt = 0 := qI_0; have tnb_ := nib12 tn1387_ tn1388_ tn1389_ tn1393_ tn1390_ tn1391_ tn1392_ tn1408_ tn1409_ tn1410_ tn1411_ tn1412_; have tqz_ := qz41_; omega), (by have t_hj5 := hj5; have t_n7 := n7; have t_hinw := hinw; have t_c37 := eqI c37; have t_c41 := neI c41; have t_hbz102 := hbz102; have : (0 : Int32).toInt = 0 := qI_0; have tnb_ := nib12 tn1387_ tn1388_ tn1389_ tn1393_ tn1390_ tn1391_ tn1392_ tn1408_ tn1409_ tn1410_ tn1411_ tn1412_; have tqz_ := qz41_; refine Eq.trans ?_ hinw.2.2.2; rw [show 400 - k34 = (400 - (k34 + 1)) + 1 by omega, lpS_go (by first | with_reducible assumption | assumption) (by first | with_reducible assumption | assumption)]; exact congrArg (fun z9 => lpS ftp T (400 - (k34 + 1)) z9 (k34 + 1)) w88.2)⟩ _ _ (hP.sub [4, 5, 6, 0, 1, 2, 3] rfl) (hD.sub [4, 5, 6, 0, 1, 2, 3] (by decide) rfl) hS ls (lv_sub hl [1, 0, 2] rfl)
        exact loop67_35 ((T - u12) + 1) u12 u13 u10 u11 u14 u15 0 0 0 0 (-1) (-1) g2 0 (Nat.lt_succ_self _) ⟨hrp, (by have t_hj5 := hj5; have t_n7 := n7; have tnb_ := nib7 tn1387_ tn1388_ tn1389_ tn1393_ tn1390_ tn1391_ tn1392_; have tqz_ := qz41_; omega), (by have t_hj5 := hj5; have t_n7 := n7; have tnb_ := nib7 tn1387_ tn1388_ tn1389_ tn1393_ tn1390_ tn1391_ tn1392_; have tqz_ := qz41_; omega), rfl⟩ _ _ hP hD hS ls (lv_sub hl [0, 1, 2] rfl)
      · skip
        have tn1413_ : nIT j1 := fun _ => nI_toInt (by first | omega | (have t := nleI c6; omega))
        have n107 : j1 < 49 := by have t := nleI c6; rw [show (nI (j1)).toInt = ((j1 : Nat) : Int) from tn1413_ ()] at t; have : (49 : Int32).toInt = 49 := qI_49; omega
        refine lv_aload_n hx hb dX11_text_50 rfl (lv_at hl 2 rfl) ?_
        refine va_get (D := (dC, dI)) (ci := 11) (v := .ref rp) (C := RX11) (T := TX11) (N := 35) hx hb hg inG11 hown hK.1 hP 0 rfl rfl 3 (Nat.le_of_ble_eq_true rfl) (hg _ wt_881) (fun _ h9 => h9) rfl dX11_text_51 ?_
        refine lv_iload_n hx hb dX11_text_54 rfl (lv_at hl 0 rfl) ?_
        refine lv_iconst (v := 0) hx hb dX11_text_55 rfl ?_
        have tn1414_ : nIT nhe := fun _ => nI_toInt (by first | omega | (have t_hj5 := hj5; have t_n107 := n107; omega))
        refine va_iast hx hb hK.1 hP hD hS 4 0 rfl rfl (vp_in_nI (by first | omega | (have t_hj5 := hj5; have t_n107 := n107; have tnb_ := nib7 tn1387_ tn1388_ tn1389_ tn1414_ tn1390_ tn1391_ tn1413_; omega)) (by decide)) dX11_text_56 (fun H locs hP hD hS => ?_)
        rw [nI_clamp (by omega)] at hP hD
        refine lv_iinc (v := nI (j1 + 1)) (lv' := [(2, .int (nI (j1 + 1))), (1, .int 0), (0, .ref h0)]) hx hb dX11_text_57 hl (k := 0) rfl (by rw [show Int32.ofInt 1 = nI 1 from by decide]; exact nI_add _ _) (by decide) rfl (fun ls hl => ?_)
        refine lv_goto (tgt := 44) hx hb dX11_text_60 rfl ?_
        exact ih44_3 (j1 + 1) (by omega) (by omega) (upd g2 j1 0) _ _ (by rw [hinv]; exact zpF_s) hP hD hS ls (lv_sub hl [0, 1, 2] rfl)
  exact loop44_3 (49 + 1) 0 (by omega) (by omega) frp _ _ zpF_0 hP hD hS ls (lv_sub hl [0, 1, 2] rfl)

set_option maxHeartbeats 1000000 in
set_option maxRecDepth 100000 in
theorem c_X7_pastAllE (l : Launch) (dC : Nat → ClassId) (dI : Nat → Nat → Nat) (G : Nat → ClassId) (sz : Nat) (h0 ta T F : Nat) (x1 x2 : Int32) (f : Nat → Int32) (hT : T ≤ 320) (hF : F ≤ T) : Met l yX7_pastAll (Cond.code yX7_pastAll cX7_pastAll 5 (some .int) :: GT) ({ frames := 0, cells := 0, slots := 0, locals := 0 } : Room) (PcR [.ref h0, .int (nI F), .int x1, .int x2] dC dI G [(h0, .inr (7, [.int (nI T), .ref ta])), (ta, .inl (G 0, 320, .inl f))] sz) (va_Qi (fun (r : Int32) (u : Unit) => match u with | _ => (r = nI (pst f T x1.toInt x2.toInt F)) ∧ True) (fun _ _ => True) (fun q : Nat => sz ≤ q)) 0 0 (fun q : Nat => sz ≤ q) := by
  have tn1415_ : nIT T := fun _ => nI_toInt (by omega)
  refine Met.ofW (cc := cX7_pastAll) (maxL := 5) (ret := (some .int)) (by decide) rfl ?_
  intro p e s m args below meth c s₁ Bd hml hv
  obtain ⟨rfl, hsz, hP, hK⟩ := hv
  have hx := Bd.exec
  have hb := Bd.bytes
  have hr := Bd.returns
  have hg : ∀ w ∈ GT, w.before ([.ref h0, .int (nI F), .int x1, .int x2] : List Value).toArray s = true := fun w h => atoms_spec (ws := Cond.code yX7_pastAll cX7_pastAll 5 (some .int) :: GT) Bd.pre w (List.mem_cons_of_mem _ h)
  have hown : s.vm.findClass RX7 = some m.cls := findClass_of_methodNamed Bd.named
  have hlocks := Bd.notSynchronized
  subst hsz
  have hA : ∀ q : Nat, s.heap.size ≤ q → (fun q : Nat => s.heap.size ≤ q) q := fun _ h => h
  have hS : va_S (fun q : Nat => s.heap.size ≤ q) s.heap s.heap [] := va_S.rf
  have hl := lv_entry ([.ref h0, .int (nI F), .int x1, .int x2]) (n := 5) (Nat.le_of_ble_eq_true rfl)
  rw [lg_entry_eq]
  generalize (lg_sl ([.ref h0, .int (nI F), .int x1, .int x2]) ++ List.replicate (5 - (lg_sl ([.ref h0, .int (nI F), .int x1, .int x2])).length) Slot.unset).toArray = ls at hl ⊢
  have hl : lv_has ls 5 [(0, .ref h0), (1, .int (nI F)), (2, .int x1), (3, .int x2)] := hl
  refine lv_iload_n hx hb dX7_pastAll_0 rfl (lv_at hl 1 rfl) ?_
  refine lv_istore (lv' := [(4, .int (nI F)), (0, .ref h0), (1, .int (nI F)), (2, .int x1), (3, .int x2)]) hx hb dX7_pastAll_1 hl (by decide) rfl (fun ls hl => ?_)
  have loop3_2 : ∀ (nf j1 : Nat), T + 1 ≤ j1 + nf → j1 ≤ T → F ≤ j1 → ∀ (H : Heap) (locs : List Loc), pst f T x1.toInt x2.toInt j1 = pst f T x1.toInt x2.toInt F → va_P (dC, dI) vwCl [(h0, .inr (7, [.int (nI T), .ref ta])), (ta, .inl (G 0, 320, .inl f))] H → va_S (fun q : Nat => s.heap.size ≤ q) s.heap H locs → ∀ (ls : Array Slot), lv_has ls 5 [(4, .int (nI j1)), (0, .ref h0), (1, .int (nI F)), (2, .int x1), (3, .int x2)] → W p l e (headSpec (Cond.code yX7_pastAll cX7_pastAll 5 (some .int) :: GT) ({ frames := 0, cells := 0, slots := 0, locals := 0 } : Room)).room s m ([.ref h0, .int (nI F), .int x1, .int x2] : List Value).toArray below meth c H locs 0 0 (MQ below (va_Qi (fun (r : Int32) (u : Unit) => match u with | _ => (r = nI (pst f T x1.toInt x2.toInt F)) ∧ True) (fun _ _ => True) (fun q : Nat => s.heap.size ≤ q)) ([.ref h0, .int (nI F), .int x1, .int x2] : List Value).toArray s 0 0 (fun q : Nat => s.heap.size ≤ q)) (F0 m 3 ls []) := by
    intro nf
    induction nf with
    | zero => intro j1 h1 h2; exact absurd h1 (by omega)
    | succ nf ih3_2 =>
      intro j1 hn3 hj4 hlo_j1  H locs hinv hP hS ls hl
      refine lv_iload hx hb dX7_pastAll_3 (lv_at hl 0 rfl) ?_
      refine lv_if_lt (tgt := 45) hx hb dX7_pastAll_5 rfl (fun c5 => ?_) (fun c5 => ?_)
      · skip
        have t_hj4 := hj4
        have t_hlo_j1 := hlo_j1
        have t_c5 := ltI c5
        have : (0 : Int32).toInt = 0 := qI_0
        have tn1416_ : nIT F := fun _ => nI_toInt (by omega)
        have t_n0 : (nI F).toInt = (F : Int) := tn1416_ ()
        have t_n1 : (nI T).toInt = (T : Int) := tn1415_ ()
        have tn1417_ : nIT j1 := fun _ => nI_toInt (by omega)
        have t_n2 : (nI j1).toInt = (j1 : Int) := tn1417_ ()
        exfalso; omega
      · skip
        have tn1418_ : nIT j1 := fun _ => nI_toInt (by first | omega | (have t := nltI c5; omega))
        have n6 : 0 ≤ j1 := by have t := nltI c5; rw [show (nI (j1)).toInt = ((j1 : Nat) : Int) from tn1418_ ()] at t; have : (0 : Int32).toInt = 0 := qI_0; omega
        refine lv_iload hx hb dX7_pastAll_8 (lv_at hl 0 rfl) ?_
        refine lv_aload_n hx hb dX7_pastAll_10 rfl (lv_at hl 1 rfl) ?_
        refine va_get (D := (dC, dI)) (ci := 7) (v := .int (nI T)) (C := RX7) (T := TX7) (N := 2) hx hb hg inG7 hown hK.1 hP 0 rfl rfl 0 (Nat.le_of_ble_eq_true rfl) (hg _ wt_40) (fun _ h9 => h9) rfl dX7_pastAll_11 ?_
        refine lv_icmp_ge (tgt := 45) hx hb dX7_pastAll_14 rfl (fun c7 => ?_) (fun c7 => ?_)
        · skip
          have n8 : T ≤ j1 := by have t := leI c7; rw [show (nI (j1)).toInt = ((j1 : Nat) : Int) from tn1418_ ()] at t; rw [show (nI (T)).toInt = ((T : Nat) : Int) from tn1415_ ()] at t; omega
          refine lv_iload hx hb dX7_pastAll_45 (lv_at hl 0 rfl) ?_
          have hpost : (nI j1 : Int32) = nI (pst f T x1.toInt x2.toInt F) := by
            have t_hj4 := hj4
            have t_hlo_j1 := hlo_j1
            have t_n6 := n6
            have t_n8 := n8
            have tn1419_ : nIT F := fun _ => nI_toInt (by omega)
            have t_n0 : (nI F).toInt = (F : Int) := tn1419_ ()
            have t_n1 : (nI T).toInt = (T : Int) := tn1415_ ()
            have t_n2 : (nI j1).toInt = (j1 : Int) := tn1418_ ()
            rw [hinv.symm.trans (pst_out (by omega))]
          refine W.widen (k := 0) (n := 0) (Nat.le_of_ble_eq_true rfl) (Nat.le_of_ble_eq_true rfl) ?_
          exact W.iret (v := nI j1) hx hb hr (fun t ht hW => ⟨⟨nI j1, (), rfl, ⟨hpost, trivial⟩, trivial⟩, hS.F ht⟩) hS.2.2 dX7_pastAll_47
        · skip
          have n9 : j1 < T := by have t := nleI c7; rw [show (nI (j1)).toInt = ((j1 : Nat) : Int) from tn1418_ ()] at t; rw [show (nI (T)).toInt = ((T : Nat) : Int) from tn1415_ ()] at t; omega
          refine lv_aload_n hx hb dX7_pastAll_17 rfl (lv_at hl 1 rfl) ?_
          refine va_get (D := (dC, dI)) (ci := 7) (v := .ref ta) (C := RX7) (T := TX7) (N := 2) hx hb hg inG7 hown hK.1 hP 0 rfl rfl 1 (Nat.le_of_ble_eq_true rfl) (hg _ wt_43) (fun _ h9 => h9) rfl dX7_pastAll_18 ?_
          refine lv_iload hx hb dX7_pastAll_21 (lv_at hl 0 rfl) ?_
          have tn1420_ : nIT F := fun _ => nI_toInt (by first | omega | (have t_hj4 := hj4; have t_hlo_j1 := hlo_j1; have t_n6 := n6; have t_n9 := n9; omega))
          refine va_iald hx hb hK.1 hP 1 0 rfl rfl (vp_in_nI (by first | omega | (have t_hj4 := hj4; have t_hlo_j1 := hlo_j1; have t_n6 := n6; have t_n9 := n9; have tnb_ := nib3 tn1420_ tn1415_ tn1418_; omega)) (by decide)) dX7_pastAll_23 ?_
          refine lv_cg (y := f j1) (by rw [nI_clamp (by omega)]) ?_
          refine lv_iload_n hx hb dX7_pastAll_24 rfl (lv_at hl 3 rfl) ?_
          refine lv_icmp_lt (tgt := 45) hx hb dX7_pastAll_25 rfl (fun c10 => ?_) (fun c10 => ?_)
          · skip
            refine lv_iload hx hb dX7_pastAll_45 (lv_at hl 0 rfl) ?_
            have hpost : (nI j1 : Int32) = nI (pst f T x1.toInt x2.toInt F) := by
              have t_hj4 := hj4
              have t_hlo_j1 := hlo_j1
              have t_n6 := n6
              have t_n9 := n9
              have t_c10 := ltI c10
              have t_n0 : (nI F).toInt = (F : Int) := tn1420_ ()
              have t_n1 : (nI T).toInt = (T : Int) := tn1415_ ()
              have t_n2 : (nI j1).toInt = (j1 : Int) := tn1418_ ()
              rw [hinv.symm.trans (pst_out (by omega))]
            refine W.widen (k := 0) (n := 0) (Nat.le_of_ble_eq_true rfl) (Nat.le_of_ble_eq_true rfl) ?_
            exact W.iret (v := nI j1) hx hb hr (fun t ht hW => ⟨⟨nI j1, (), rfl, ⟨hpost, trivial⟩, trivial⟩, hS.F ht⟩) hS.2.2 dX7_pastAll_47
          · skip
            refine lv_aload_n hx hb dX7_pastAll_28 rfl (lv_at hl 1 rfl) ?_
            refine va_get (D := (dC, dI)) (ci := 7) (v := .ref ta) (C := RX7) (T := TX7) (N := 2) hx hb hg inG7 hown hK.1 hP 0 rfl rfl 1 (Nat.le_of_ble_eq_true rfl) (hg _ wt_43) (fun _ h9 => h9) rfl dX7_pastAll_29 ?_
            refine lv_iload hx hb dX7_pastAll_32 (lv_at hl 0 rfl) ?_
            refine va_iald hx hb hK.1 hP 1 0 rfl rfl (vp_in_nI (by first | omega | (have t_hj4 := hj4; have t_hlo_j1 := hlo_j1; have t_n6 := n6; have t_n9 := n9; have t_c10 := nltI c10; have tnb_ := nib3 tn1420_ tn1415_ tn1418_; omega)) (by decide)) dX7_pastAll_34 ?_
            refine lv_cg (y := f j1) (by rw [nI_clamp (by omega)]) ?_
            refine lv_iload_n hx hb dX7_pastAll_35 rfl (lv_at hl 4 rfl) ?_
            refine lv_icmp_gt (tgt := 45) hx hb dX7_pastAll_36 rfl (fun c11 => ?_) (fun c11 => ?_)
            · skip
              refine lv_iload hx hb dX7_pastAll_45 (lv_at hl 0 rfl) ?_
              have hpost : (nI j1 : Int32) = nI (pst f T x1.toInt x2.toInt F) := by
                have t_hj4 := hj4
                have t_hlo_j1 := hlo_j1
                have t_n6 := n6
                have t_n9 := n9
                have t_c10 := nltI c10
                have t_c11 := ltI c11
                have t_n0 : (nI F).toInt = (F : Int) := tn1420_ ()
                have t_n1 : (nI T).toInt = (T : Int) := tn1415_ ()
                have t_n2 : (nI j1).toInt = (j1 : Int) := tn1418_ ()
                rw [hinv.symm.trans (pst_out (by omega))]
              refine W.widen (k := 0) (n := 0) (Nat.le_of_ble_eq_true rfl) (Nat.le_of_ble_eq_true rfl) ?_
              exact W.iret (v := nI j1) hx hb hr (fun t ht hW => ⟨⟨nI j1, (), rfl, ⟨hpost, trivial⟩, trivial⟩, hS.F ht⟩) hS.2.2 dX7_pastAll_47
            · skip
              refine lv_iinc (v := nI (j1 + 1)) (lv' := [(4, .int (nI (j1 + 1))), (0, .ref h0), (1, .int (nI F)), (2, .int x1), (3, .int x2)]) hx hb dX7_pastAll_39 hl (k := 0) rfl (by rw [show Int32.ofInt 1 = nI 1 from by decide]; exact nI_add _ _) (by decide) rfl (fun ls hl => ?_)
              refine lv_goto (tgt := 3) hx hb dX7_pastAll_42 rfl ?_
              exact ih3_2 (j1 + 1) (by omega) (by omega) (by omega)  _ _ ((pst_in (p := j1) (by have t_hj4 := hj4; have t_hlo_j1 := hlo_j1; have t_n6 := n6; have t_n9 := n9; have t_c10 := nltI c10; have t_c11 := nltI c11; have tnb_ := nib3 tn1420_ tn1415_ tn1418_; omega) (by have t_hj4 := hj4; have t_hlo_j1 := hlo_j1; have t_n6 := n6; have t_n9 := n9; have t_c10 := nltI c10; have t_c11 := nltI c11; have tnb_ := nib3 tn1420_ tn1415_ tn1418_; omega) (by have t_hj4 := hj4; have t_hlo_j1 := hlo_j1; have t_n6 := n6; have t_n9 := n9; have t_c10 := nltI c10; have t_c11 := nltI c11; have tnb_ := nib3 tn1420_ tn1415_ tn1418_; omega)).symm.trans hinv) hP hS ls (lv_sub hl [0, 1, 2, 3, 4] rfl)
  exact loop3_2 (T + 1) F (by omega) (by omega) (by omega)  _ _ rfl hP hS ls (lv_sub hl [0, 1, 2, 3, 4] rfl)

set_option maxHeartbeats 1000000 in
set_option maxRecDepth 100000 in
theorem c_X5_refuseE (l : Launch) (dC : Nat → ClassId) (dI : Nat → Nat → Nat) (G : Nat → ClassId) (sz : Nat) (h0 tp td : Nat) (x0 x1 x2 x3 x4 x5 x6 x7 x8 x9 xlo xhi : Int32)  : Met l yX5_refuse (Cond.code yX5_refuse cX5_refuse 3 (some .boolean) :: GT) ({ frames := 0, cells := 0, slots := 0, locals := 0 } : Room) (PcW [.ref h0, .int xlo, .int xhi] dC dI G [(h0, .inr (5, [.ref tp, .ref td, .int x0, .int x1, .int x2, .int x3, .int x4, .int x5, .int x6, .int x7, .int x8, .int x9]))] sz) (va_Qi (fun (r : Int32) (u : Int32 × Int32) => match u with | (u0, u1) => (r = 0) ∧ u0 = flB xlo x0 ∧ u1 = flP x0 xhi x1) (fun (u : Int32 × Int32) (t : State) => match u with | (u0, u1) => va_P (dC, dI) vwCl [(h0, .inr (5, [.ref tp, .ref td, .int u0, .int u1, .int x2, .int x3, .int x4, .int x5, .int x6, .int x7, .int x8, .int x9]))] t.heap ∧ va_D (va_A [(h0, .inr (5, [.ref tp, .ref td, .int x0, .int x1, .int x2, .int x3, .int x4, .int x5, .int x6, .int x7, .int x8, .int x9]))] sz) [(h0, .inr (5, [.ref tp, .ref td, .int u0, .int u1, .int x2, .int x3, .int x4, .int x5, .int x6, .int x7, .int x8, .int x9]))]) (va_A [(h0, .inr (5, [.ref tp, .ref td, .int x0, .int x1, .int x2, .int x3, .int x4, .int x5, .int x6, .int x7, .int x8, .int x9]))] sz)) 0 0 (va_A [(h0, .inr (5, [.ref tp, .ref td, .int x0, .int x1, .int x2, .int x3, .int x4, .int x5, .int x6, .int x7, .int x8, .int x9]))] sz) := by
  refine Met.ofW (cc := cX5_refuse) (maxL := 3) (ret := (some .boolean)) (by decide) rfl ?_
  intro p e s m args below meth c s₁ Bd hml hv
  obtain ⟨rfl, hsz, hP, hK, hD0⟩ := hv
  have hx := Bd.exec
  have hb := Bd.bytes
  have hr := Bd.returns
  have hg : ∀ w ∈ GT, w.before ([.ref h0, .int xlo, .int xhi] : List Value).toArray s = true := fun w h => atoms_spec (ws := Cond.code yX5_refuse cX5_refuse 3 (some .boolean) :: GT) Bd.pre w (List.mem_cons_of_mem _ h)
  have hown : s.vm.findClass RX5 = some m.cls := findClass_of_methodNamed Bd.named
  have hlocks := Bd.notSynchronized
  subst hsz
  have hD := hD0.self (sz := s.heap.size)
  generalize hAe : va_A [(h0, .inr (5, [.ref tp, .ref td, .int x0, .int x1, .int x2, .int x3, .int x4, .int x5, .int x6, .int x7, .int x8, .int x9]))] s.heap.size = A at hD ⊢
  have hA : ∀ q : Nat, s.heap.size ≤ q → A q := fun q h => by rw [← hAe]; exact Or.inr h
  have hS : va_S A s.heap s.heap [] := va_S.rf
  have hl := lv_entry ([.ref h0, .int xlo, .int xhi]) (n := 3) (Nat.le_of_ble_eq_true rfl)
  rw [lg_entry_eq]
  generalize (lg_sl ([.ref h0, .int xlo, .int xhi]) ++ List.replicate (3 - (lg_sl ([.ref h0, .int xlo, .int xhi])).length) Slot.unset).toArray = ls at hl ⊢
  have hl : lv_has ls 3 [(0, .ref h0), (1, .int xlo), (2, .int xhi)] := hl
  refine lv_aload_n hx hb dX5_refuse_0 rfl (lv_at hl 0 rfl) ?_
  refine va_get (D := (dC, dI)) (ci := 5) (v := .int x0) (C := RX5) (T := TX5) (N := 12) hx hb hg inG5 hown hK.1 hP 0 rfl rfl 2 (Nat.le_of_ble_eq_true rfl) (hg _ wt_109) (fun _ h9 => h9) rfl dX5_refuse_1 ?_
  refine lv_if_ne (tgt := 17) hx hb dX5_refuse_4 rfl (fun c1 => ?_) (fun c1 => ?_)
  · skip
    refine lv_iconst (v := 0) hx hb dX5_refuse_17 rfl ?_
    have hpost : (0 : Int32) = 0 := by
      have t_c1 := neI c1
      have : (0 : Int32).toInt = 0 := qI_0
      first | rfl | ((repeat' split) <;> first | rfl | omega)
    obtain ⟨hP9, hD9⟩ := va_sub2 (ws' := [(h0, .inr (5, [.ref tp, .ref td, .int x0, .int x1, .int x2, .int x3, .int x4, .int x5, .int x6, .int x7, .int x8, .int x9]))]) hP hD [0] (by decide +kernel) rfl
    refine W.widen (k := 0) (n := 0) (Nat.le_of_ble_eq_true rfl) (Nat.le_of_ble_eq_true rfl) ?_
    exact W.zret (v := 0) hx hb hr (by first | rfl | decide | exact rfl) (fun t ht hW => ⟨⟨0, (x0, x1), rfl, ⟨hpost, (by refine ⟨?_, ?_⟩ <;> first | (unfold flB; first | rw [if_pos (by first | with_reducible assumption | assumption)] | rw [if_neg (by first | with_reducible assumption | assumption)]) | (unfold flP; first | rw [if_pos (by first | with_reducible assumption | assumption)] | rw [if_neg (by first | with_reducible assumption | assumption)]))⟩, ⟨by rw [ht]; exact hP9, hD9⟩⟩, hS.F ht⟩) hS.2.2 dX5_refuse_18
  · skip
    refine lv_aload_n hx hb dX5_refuse_7 rfl (lv_at hl 0 rfl) ?_
    refine lv_iload_n hx hb dX5_refuse_8 rfl (lv_at hl 1 rfl) ?_
    refine va_put (D := (dC, dI)) (ci := 5) (v := .int xlo) (ty := .int) (C := RX5) (T := TX5) (N := 12) hx hb hg inG5 tyX5 tyX5_ok nmX5 hown hK.1 hP hD hS 0 rfl rfl 2 (Nat.le_of_ble_eq_true rfl) (hg _ wt_109) (fun _ h9 => h9) rfl (by decide +kernel) rfl rfl (Nat.le_of_ble_eq_true rfl) dX5_refuse_9 (fun H locs hP hD hS => ?_)
    refine lv_aload_n hx hb dX5_refuse_12 rfl (lv_at hl 0 rfl) ?_
    refine lv_iload_n hx hb dX5_refuse_13 rfl (lv_at hl 2 rfl) ?_
    refine va_put (D := (dC, dI)) (ci := 5) (v := .int xhi) (ty := .int) (C := RX5) (T := TX5) (N := 12) hx hb hg inG5 tyX5 tyX5_ok nmX5 hown hK.1 hP hD hS 0 rfl rfl 3 (Nat.le_of_ble_eq_true rfl) (hg _ wt_111) (fun _ h9 => h9) rfl (by decide +kernel) rfl rfl (Nat.le_of_ble_eq_true rfl) dX5_refuse_14 (fun H locs hP hD hS => ?_)
    refine lv_iconst (v := 0) hx hb dX5_refuse_17 rfl ?_
    have hpost : (0 : Int32) = 0 := by
      have t_c1 := eqI c1
      have : (0 : Int32).toInt = 0 := qI_0
      first | rfl | ((repeat' split) <;> first | rfl | omega)
    obtain ⟨hP9, hD9⟩ := va_sub2 (ws' := [(h0, .inr (5, [.ref tp, .ref td, .int xlo, .int xhi, .int x2, .int x3, .int x4, .int x5, .int x6, .int x7, .int x8, .int x9]))]) hP hD [0] (by decide +kernel) rfl
    refine W.widen (k := 0) (n := 0) (Nat.le_of_ble_eq_true rfl) (Nat.le_of_ble_eq_true rfl) ?_
    exact W.zret (v := 0) hx hb hr (by first | rfl | decide | exact rfl) (fun t ht hW => ⟨⟨0, (xlo, xhi), rfl, ⟨hpost, (by refine ⟨?_, ?_⟩ <;> first | (unfold flB; first | rw [if_pos (by first | with_reducible assumption | assumption)] | rw [if_neg (by first | with_reducible assumption | assumption)]) | (unfold flP; first | rw [if_pos (by first | with_reducible assumption | assumption)] | rw [if_neg (by first | with_reducible assumption | assumption)]))⟩, ⟨by rw [ht]; exact hP9, hD9⟩⟩, hS.F ht⟩) hS.2.2 dX5_refuse_18

set_option maxHeartbeats 1000000 in
set_option maxRecDepth 100000 in
theorem c_X5_nextTokenE (l : Launch) (dC : Nat → ClassId) (dI : Nat → Nat → Nat) (G : Nat → ClassId) (sz : Nat) (h0 tp td ta T P : Nat) (x0 x1 x2 x3 x6 x7 x8 x9 x4 : Int32) (f : Nat → Int32) (hT : T ≤ 320) (hP0 : P ≤ T) : Met l yX5_nextToken (Cond.code yX5_nextToken cX5_nextToken 2 (some .boolean) :: GT) ({ frames := 1, cells := 0, slots := 0, locals := 24 } : Room) (PcW [.ref h0] dC dI G [(h0, .inr (5, [.ref tp, .ref td, .int x0, .int x1, .int x2, .int x3, .int x4, .int (nI P), .int x6, .int x7, .int x8, .int x9])), (tp, .inr (7, [.int (nI T), .ref ta])), (ta, .inl (G 0, 320, .inl f))] sz) (va_Qi (fun (r : Int32) (u : Int32 × Int32 × Int32 × Nat × Nat) => match u with | (u0, u1, u3, u4, u5) => (r = ntG f T (pst f T 32 32 P)) ∧ u4 ≤ u5 ∧ u5 ≤ T ∧ (u0, u1, u3, u4, u5) = ntS1 f T (pst f T 32 32 P) x0 x1 x3) (fun (u : Int32 × Int32 × Int32 × Nat × Nat) (t : State) => match u with | (u0, u1, u3, u4, u5) => va_P (dC, dI) vwCl [(h0, .inr (5, [.ref tp, .ref td, .int u0, .int u1, .int x2, .int u3, .int (nI u4), .int (nI u5), .int x6, .int x7, .int x8, .int x9])), (tp, .inr (7, [.int (nI T), .ref ta])), (ta, .inl (G 0, 320, .inl f))] t.heap ∧ va_D (va_A [(h0, .inr (5, [.ref tp, .ref td, .int x0, .int x1, .int x2, .int x3, .int x4, .int (nI P), .int x6, .int x7, .int x8, .int x9])), (tp, .inr (7, [.int (nI T), .ref ta])), (ta, .inl (G 0, 320, .inl f))] sz) [(h0, .inr (5, [.ref tp, .ref td, .int u0, .int u1, .int x2, .int u3, .int (nI u4), .int (nI u5), .int x6, .int x7, .int x8, .int x9])), (tp, .inr (7, [.int (nI T), .ref ta])), (ta, .inl (G 0, 320, .inl f))]) (va_A [(h0, .inr (5, [.ref tp, .ref td, .int x0, .int x1, .int x2, .int x3, .int x4, .int (nI P), .int x6, .int x7, .int x8, .int x9])), (tp, .inr (7, [.int (nI T), .ref ta])), (ta, .inl (G 0, 320, .inl f))] sz)) 0 0 (va_A [(h0, .inr (5, [.ref tp, .ref td, .int x0, .int x1, .int x2, .int x3, .int x4, .int (nI P), .int x6, .int x7, .int x8, .int x9])), (tp, .inr (7, [.int (nI T), .ref ta])), (ta, .inl (G 0, 320, .inl f))] sz) := by
  have hT_ := hT
  have tn1421_ : nIT T := fun _ => nI_toInt (by omega)
  refine Met.ofW (cc := cX5_nextToken) (maxL := 2) (ret := (some .boolean)) (by decide) rfl ?_
  intro p e s m args below meth c s₁ Bd hml hv
  obtain ⟨rfl, hsz, hP, hK, hD0⟩ := hv
  have hx := Bd.exec
  have hb := Bd.bytes
  have hr := Bd.returns
  have hg : ∀ w ∈ GT, w.before ([.ref h0] : List Value).toArray s = true := fun w h => atoms_spec (ws := Cond.code yX5_nextToken cX5_nextToken 2 (some .boolean) :: GT) Bd.pre w (List.mem_cons_of_mem _ h)
  have hown : s.vm.findClass RX5 = some m.cls := findClass_of_methodNamed Bd.named
  have hlocks := Bd.notSynchronized
  subst hsz
  have hD := hD0.self (sz := s.heap.size)
  generalize hAe : va_A [(h0, .inr (5, [.ref tp, .ref td, .int x0, .int x1, .int x2, .int x3, .int x4, .int (nI P), .int x6, .int x7, .int x8, .int x9])), (tp, .inr (7, [.int (nI T), .ref ta])), (ta, .inl (G 0, 320, .inl f))] s.heap.size = A at hD ⊢
  have hA : ∀ q : Nat, s.heap.size ≤ q → A q := fun q h => by rw [← hAe]; exact Or.inr h
  have hS : va_S A s.heap s.heap [] := va_S.rf
  have hl := lv_entry ([.ref h0]) (n := 2) (Nat.le_of_ble_eq_true rfl)
  rw [lg_entry_eq]
  generalize (lg_sl ([.ref h0]) ++ List.replicate (2 - (lg_sl ([.ref h0])).length) Slot.unset).toArray = ls at hl ⊢
  have hl : lv_has ls 2 [(0, .ref h0)] := hl
  refine lv_aload_n hx hb dX5_nextToken_0 rfl (lv_at hl 0 rfl) ?_
  refine lv_aload_n hx hb dX5_nextToken_1 rfl (lv_at hl 0 rfl) ?_
  refine va_get (D := (dC, dI)) (ci := 5) (v := .ref tp) (C := RX5) (T := TX5) (N := 12) hx hb hg inG5 hown hK.1 hP 0 rfl rfl 0 (Nat.le_of_ble_eq_true rfl) (hg _ wt_105) (fun _ h9 => h9) rfl dX5_nextToken_2 ?_
  refine lv_aload_n hx hb dX5_nextToken_5 rfl (lv_at hl 0 rfl) ?_
  refine va_get (D := (dC, dI)) (ci := 5) (v := .int (nI P)) (C := RX5) (T := TX5) (N := 12) hx hb hg inG5 hown hK.1 hP 0 rfl rfl 7 (Nat.le_of_ble_eq_true rfl) (hg _ wt_117) (fun _ h9 => h9) rfl dX5_nextToken_6 ?_
  refine lv_bipush (v := 32) hx hb dX5_nextToken_9 rfl ?_
  refine lv_bipush (v := 32) hx hb dX5_nextToken_11 rfl ?_
  have hPc := hP.sub (ws' := [(tp, .inr (7, [.int (nI T), .ref ta])), (ta, .inl (G 0, 320, .inl f))]) [1, 2] rfl
  have tn1422_ : nIT P := fun _ => nI_toInt (by omega)
  refine va_calli (va_runVN (As := [.int (nI P), .int 32, .int 32]) (rest := [.ref h0]) ⟨hx, hb, hml, hown, hg⟩ (c_X7_pastAllE l dC dI G _ tp ta T P 32 32 f hT_ hP0) (kwVN hg hK mfX7_pastAll wn_378 ⟨Nat.le_of_ble_eq_true rfl, Nat.le_of_ble_eq_true rfl⟩) (preVR hK hPc (ci := 7) (r := (RX7, TX7, 2)) rfl rfl) rfl rfl hl.1 rfl (lv_room (Nat.le_of_ble_eq_true rfl)) dX5_nextToken_13 ⟨Nat.le_of_ble_eq_true rfl, Nat.le_of_ble_eq_true rfl⟩) hS (fun q h1 h2 => absurd h2 (Nat.not_le.mpr h1)) (fun q h => hA q (Nat.le_trans hS.1 h)) (fun r1 ur1 t H1 locs ht hvm w2 hB hz1 hk1 hS => ?_)
  have hP := keepR hP hk1
  obtain ⟨w2, w2x⟩ := w2
  try rw [show (32 : Int32).toInt = 32 from (by decide)] at w2
  try rw [show (32 : Int32).toInt = 32 from (by decide)] at w2
  have hp3 : P ≤ (pst f T 32 32 P) ∧ (pst f T 32 32 P) ≤ T := (pst_b (by have tnb_ := nib2 tn1422_ tn1421_; omega))
  subst w2
  refine va_put (D := (dC, dI)) (ci := 5) (v := .int (nI (pst f T 32 32 P))) (ty := .int) (C := RX5) (T := TX5) (N := 12) hx hb hg inG5 tyX5 tyX5_ok nmX5 hown hK.1 hP hD hS 0 rfl rfl 6 (Nat.le_of_ble_eq_true rfl) (hg _ wt_116) (fun _ h9 => h9) rfl (by decide +kernel) rfl rfl (Nat.le_of_ble_eq_true rfl) dX5_nextToken_16 (fun H locs hP hD hS => ?_)
  refine lv_aload_n hx hb dX5_nextToken_19 rfl (lv_at hl 0 rfl) ?_
  refine lv_aload_n hx hb dX5_nextToken_20 rfl (lv_at hl 0 rfl) ?_
  refine va_get (D := (dC, dI)) (ci := 5) (v := .int (nI (pst f T 32 32 P))) (C := RX5) (T := TX5) (N := 12) hx hb hg inG5 hown hK.1 hP 0 rfl rfl 6 (Nat.le_of_ble_eq_true rfl) (hg _ wt_116) (fun _ h9 => h9) rfl dX5_nextToken_21 ?_
  refine va_put (D := (dC, dI)) (ci := 5) (v := .int (nI (pst f T 32 32 P))) (ty := .int) (C := RX5) (T := TX5) (N := 12) hx hb hg inG5 tyX5 tyX5_ok nmX5 hown hK.1 hP hD hS 0 rfl rfl 7 (Nat.le_of_ble_eq_true rfl) (hg _ wt_117) (fun _ h9 => h9) rfl (by decide +kernel) rfl rfl (Nat.le_of_ble_eq_true rfl) dX5_nextToken_24 (fun H locs hP hD hS => ?_)
  refine lv_aload_n hx hb dX5_nextToken_27 rfl (lv_at hl 0 rfl) ?_
  refine va_get (D := (dC, dI)) (ci := 5) (v := .ref tp) (C := RX5) (T := TX5) (N := 12) hx hb hg inG5 hown hK.1 hP 0 rfl rfl 0 (Nat.le_of_ble_eq_true rfl) (hg _ wt_105) (fun _ h9 => h9) rfl dX5_nextToken_28 ?_
  refine lv_aload_n hx hb dX5_nextToken_31 rfl (lv_at hl 0 rfl) ?_
  refine va_get (D := (dC, dI)) (ci := 5) (v := .int (nI (pst f T 32 32 P))) (C := RX5) (T := TX5) (N := 12) hx hb hg inG5 hown hK.1 hP 0 rfl rfl 6 (Nat.le_of_ble_eq_true rfl) (hg _ wt_116) (fun _ h9 => h9) rfl dX5_nextToken_32 ?_
  have hPc := hP.sub (ws' := [(tp, .inr (7, [.int (nI T), .ref ta])), (ta, .inl (G 0, 320, .inl f))]) [1, 2] rfl
  refine va_calli (va_runVN (As := [.int (nI (pst f T 32 32 P))]) (rest := []) ⟨hx, hb, hml, hown, hg⟩ (c_X7_byteAt l dC dI G _ tp ta T (nI (pst f T 32 32 P)) f hT_) (kwVN hg hK mfX7_byteAt wn_382 ⟨Nat.le_of_ble_eq_true rfl, Nat.le_of_ble_eq_true rfl⟩) (preVR hK hPc (ci := 7) (r := (RX7, TX7, 2)) rfl rfl) rfl rfl hl.1 rfl (lv_room (Nat.le_of_ble_eq_true rfl)) dX5_nextToken_35 ⟨Nat.le_of_ble_eq_true rfl, Nat.le_of_ble_eq_true rfl⟩) hS (fun q h1 h2 => absurd h2 (Nat.not_le.mpr h1)) (fun q h => hA q (Nat.le_trans hS.1 h)) (fun r4 ur4 t H1 locs ht hvm w5 hB hz1 hk1 hS => ?_)
  have hP := keepR hP hk1
  obtain ⟨w5, w5x⟩ := w5
  refine lv_istore_n (lv' := [(1, .int r4), (0, .ref h0)]) hx hb dX5_nextToken_38 rfl hl (by decide) rfl (fun ls hl => ?_)
  refine lv_aload_n hx hb dX5_nextToken_39 rfl (lv_at hl 1 rfl) ?_
  refine va_get (D := (dC, dI)) (ci := 5) (v := .int (nI (pst f T 32 32 P))) (C := RX5) (T := TX5) (N := 12) hx hb hg inG5 hown hK.1 hP 0 rfl rfl 6 (Nat.le_of_ble_eq_true rfl) (hg _ wt_116) (fun _ h9 => h9) rfl dX5_nextToken_40 ?_
  refine lv_aload_n hx hb dX5_nextToken_43 rfl (lv_at hl 1 rfl) ?_
  refine va_get (D := (dC, dI)) (ci := 5) (v := .ref tp) (C := RX5) (T := TX5) (N := 12) hx hb hg inG5 hown hK.1 hP 0 rfl rfl 0 (Nat.le_of_ble_eq_true rfl) (hg _ wt_105) (fun _ h9 => h9) rfl dX5_nextToken_44 ?_
  refine va_getN (D := (dC, dI)) (ci := 7) (v := .int (nI T)) (C := RX7) (T := TX7) (N := 2) hx hb hg inG7 hown hK.1 hP 1 rfl rfl 0 (Nat.le_of_ble_eq_true rfl) (hK.nest wn_41) (fun _ h9 => h9) rfl dX5_nextToken_47 ?_
  refine lv_icmp_lt (tgt := 61) hx hb dX5_nextToken_50 rfl (fun c6 => ?_) (fun c6 => ?_)
  · skip
    have tn1423_ : nIT (pst f T 32 32 P) := fun _ => nI_toInt (by first | omega | (have t := ltI c6; omega))
    have n7 : (pst f T 32 32 P) < T := by have t := ltI c6; rw [show (nI (pst f T 32 32 P)).toInt = ((pst f T 32 32 P : Nat) : Int) from tn1423_ ()] at t; rw [show (nI (T)).toInt = ((T : Nat) : Int) from tn1421_ ()] at t; omega
    refine lv_iload_n hx hb dX5_nextToken_61 rfl (lv_at hl 0 rfl) ?_
    refine lv_bipush (v := 97) hx hb dX5_nextToken_62 rfl ?_
    refine lv_icmp_lt (tgt := 100) hx hb dX5_nextToken_64 rfl (fun c8 => ?_) (fun c8 => ?_)
    · skip
      refine lv_iload_n hx hb dX5_nextToken_100 rfl (lv_at hl 0 rfl) ?_
      refine lv_bipush (v := 48) hx hb dX5_nextToken_101 rfl ?_
      refine lv_icmp_lt (tgt := 167) hx hb dX5_nextToken_103 rfl (fun c9 => ?_) (fun c9 => ?_)
      · skip
        refine lv_iload_n hx hb dX5_nextToken_167 rfl (lv_at hl 0 rfl) ?_
        refine lv_bipush (v := 59) hx hb dX5_nextToken_168 rfl ?_
        refine lv_icmp_ne (tgt := 191) hx hb dX5_nextToken_170 rfl (fun c10 => ?_) (fun c10 => ?_)
        · skip
          refine lv_aload_n hx hb dX5_nextToken_191 rfl (lv_at hl 1 rfl) ?_
          refine lv_iconst (v := 1) hx hb dX5_nextToken_192 rfl ?_
          refine lv_aload_n hx hb dX5_nextToken_193 rfl (lv_at hl 1 rfl) ?_
          refine va_get (D := (dC, dI)) (ci := 5) (v := .int (nI (pst f T 32 32 P))) (C := RX5) (T := TX5) (N := 12) hx hb hg inG5 hown hK.1 hP 0 rfl rfl 6 (Nat.le_of_ble_eq_true rfl) (hg _ wt_116) (fun _ h9 => h9) rfl dX5_nextToken_194 ?_
          obtain ⟨hPc, hDc, hFc⟩ := va_sub3 (ws' := [(h0, .inr (5, [.ref tp, .ref td, .int x0, .int x1, .int x2, .int x3, .int (nI (pst f T 32 32 P)), .int (nI (pst f T 32 32 P)), .int x6, .int x7, .int x8, .int x9]))]) hP hD hS hA [0] (by decide +kernel) rfl
          refine va_calli (va_runV (As := [.int 1, .int (nI (pst f T 32 32 P))]) (rest := []) ⟨hx, hb, hml, hown, hg⟩ (c_X5_refuseE l dC dI G _ h0 tp td x0 x1 x2 x3 (nI (pst f T 32 32 P)) (nI (pst f T 32 32 P)) x6 x7 x8 x9 1 (nI (pst f T 32 32 P))) (kwV hg mfX5_refuse wt_386 ⟨Nat.le_of_ble_eq_true rfl, Nat.le_of_ble_eq_true rfl⟩) (preVW hK hPc hDc (ci := 5) (r := (RX5, TX5, 12)) rfl rfl) rfl rfl hl.1 rfl (lv_room (Nat.le_of_ble_eq_true rfl)) dX5_nextToken_197 ⟨Nat.le_of_ble_eq_true rfl, Nat.le_of_ble_eq_true rfl⟩) hS (fun q _ h => hFc q h) hFc (fun r11 ur11 t H1 locs ht hvm w12 hB hz1 hk1 hS => ?_)
          obtain ⟨u13, u14⟩ := ur11
          obtain ⟨hP1, hD1⟩ := hB
          rw [ht] at hP1
          obtain ⟨hP, hD⟩ := va_join (wr := [(tp, .inr (7, [.int (nI T), .ref ta])), (ta, .inl (G 0, 320, .inl f))]) (w1 := [(h0, .inr (5, [.ref tp, .ref td, .int u13, .int u14, .int x2, .int x3, .int (nI (pst f T 32 32 P)), .int (nI (pst f T 32 32 P)), .int x6, .int x7, .int x8, .int x9]))]) hP hD [0] [1, 2] rfl rfl (by decide +kernel) (by decide +kernel) hk1 hFc hP1 hD1
          generalize H1 = H at hP hS ⊢
          obtain ⟨w12, w12x⟩ := w12
          subst w12
          have hpost : (0 : Int32) = ntG f T (pst f T 32 32 P) := by
            have t_n2 : (nI (pst f T 32 32 P)).toInt = (((pst f T 32 32 P) : Nat) : Int) := nI_toInt (by (have t_hp3 := hp3; have t_n7 := n7; have t_c8 := ltI c8; have t_c9 := ltI c9; have t_c10 := neI c10; have tqz_ := qz15_; have tnb_ := nib2 tn1422_ tn1421_; omega))
            have z0 : (0 : Int32).toInt = 0 := qI_0
            have z1 : (1 : Int32).toInt = 1 := qI_1
            have z2 : (2 : Int32).toInt = 2 := qI_2
            have z3 : (3 : Int32).toInt = 3 := qI_3
            have z5 : (5 : Int32).toInt = 5 := qI_5
            have z9 : (9 : Int32).toInt = 9 := qI_9
            unfold ntG
            first | rw [if_pos (by (have t_hp3 := hp3; have t_n7 := n7; have t_c8 := ltI c8; have t_c9 := ltI c9; have t_c10 := neI c10; have tqz_ := qz15_; have tnb_ := nib2 tn1422_ tn1421_; omega))] | (have er : r4 = f (pst f T 32 32 P) := (by rw [w5, if_pos (by (have t_hp3 := hp3; have t_n7 := n7; have t_c8 := ltI c8; have t_c9 := ltI c9; have t_c10 := neI c10; have tqz_ := qz15_; have tnb_ := nib2 tn1422_ tn1421_; omega)), nI_clamp (by (have t_hp3 := hp3; have t_n7 := n7; have t_c8 := ltI c8; have t_c9 := ltI c9; have t_c10 := neI c10; have tqz_ := qz15_; have tnb_ := nib2 tn1422_ tn1421_; omega))]); rw [if_neg (by (have t_hp3 := hp3; have t_n7 := n7; have t_c8 := ltI c8; have t_c9 := ltI c9; have t_c10 := neI c10; have tqz_ := qz15_; have tnb_ := nib2 tn1422_ tn1421_; omega)), ← er]; (try (repeat (first | rw [if_pos (by with_reducible assumption)] | rw [if_neg (by with_reducible assumption)] | rw [if_pos (by first | exact c8 | exact c9 | exact c10)] | rw [if_neg (by first | exact c8 | exact c9 | exact c10)] | rw [if_pos (by (have t_hp3 := hp3; have t_n7 := n7; have t_c8 := ltI c8; have t_c9 := ltI c9; have t_c10 := neI c10; have tqz_ := qz15_; have tnb_ := nib2 tn1422_ tn1421_; omega))] | rw [if_neg (by (have t_hp3 := hp3; have t_n7 := n7; have t_c8 := ltI c8; have t_c9 := ltI c9; have t_c10 := neI c10; have tqz_ := qz15_; have tnb_ := nib2 tn1422_ tn1421_; omega))] | rw [if_pos (by decide)] | rw [if_neg (by decide)] | rw [if_pos (by skip; assumption)] | rw [if_neg (by skip; assumption)]))); all_goals rfl)
          obtain ⟨hP9, hD9⟩ := va_sub2 (ws' := [(h0, .inr (5, [.ref tp, .ref td, .int u13, .int u14, .int x2, .int x3, .int (nI (pst f T 32 32 P)), .int (nI (pst f T 32 32 P)), .int x6, .int x7, .int x8, .int x9])), (tp, .inr (7, [.int (nI T), .ref ta])), (ta, .inl (G 0, 320, .inl f))]) hP hD [2, 0, 1] (by decide +kernel) rfl
          refine W.widen (k := 0) (n := 0) (Nat.le_of_ble_eq_true rfl) (Nat.le_of_ble_eq_true rfl) ?_
          exact W.zret (v := 0) hx hb hr (by first | rfl | decide | exact rfl) (fun t ht hW => ⟨⟨0, (u13, u14, x3, (pst f T 32 32 P), (pst f T 32 32 P)), rfl, ⟨hpost, (by have t_n2 : (nI (pst f T 32 32 P)).toInt = (((pst f T 32 32 P) : Nat) : Int) := nI_toInt (by (have t_hp3 := hp3; have t_n7 := n7; have t_c8 := ltI c8; have t_c9 := ltI c9; have t_c10 := neI c10; have tqz_ := qz15_; have tnb_ := nib2 tn1422_ tn1421_; omega)); have tqz_ := qz41_; refine ⟨by (have t_hp3 := hp3; have t_n7 := n7; have t_c8 := ltI c8; have t_c9 := ltI c9; have t_c10 := neI c10; have tqz_ := qz15_; have tnb_ := nib2 tn1422_ tn1421_; omega), by (have t_hp3 := hp3; have t_n7 := n7; have t_c8 := ltI c8; have t_c9 := ltI c9; have t_c10 := neI c10; have tqz_ := qz15_; have tnb_ := nib2 tn1422_ tn1421_; omega), ?_⟩; unfold ntS1; rw [w12x.1, w12x.2]; first | (rw [if_pos (by (have t_hp3 := hp3; have t_n7 := n7; have t_c8 := ltI c8; have t_c9 := ltI c9; have t_c10 := neI c10; have tqz_ := qz15_; have tnb_ := nib2 tn1422_ tn1421_; omega))]; done) | (have er : r4 = f (pst f T 32 32 P) := (by rw [w5, if_pos (by (have t_hp3 := hp3; have t_n7 := n7; have t_c8 := ltI c8; have t_c9 := ltI c9; have t_c10 := neI c10; have tqz_ := qz15_; have tnb_ := nib2 tn1422_ tn1421_; omega)), nI_clamp (by (have t_hp3 := hp3; have t_n7 := n7; have t_c8 := ltI c8; have t_c9 := ltI c9; have t_c10 := neI c10; have tqz_ := qz15_; have tnb_ := nib2 tn1422_ tn1421_; omega))]); rw [if_neg (by (have t_hp3 := hp3; have t_n7 := n7; have t_c8 := ltI c8; have t_c9 := ltI c9; have t_c10 := neI c10; have tqz_ := qz15_; have tnb_ := nib2 tn1422_ tn1421_; omega)), ← er]; (try (repeat (first | rw [if_pos (by with_reducible assumption)] | rw [if_neg (by with_reducible assumption)] | rw [if_pos (by first | exact c8 | exact c9 | exact c10)] | rw [if_neg (by first | exact c8 | exact c9 | exact c10)] | rw [if_pos (by (have t_hp3 := hp3; have t_n7 := n7; have t_c8 := ltI c8; have t_c9 := ltI c9; have t_c10 := neI c10; have tqz_ := qz15_; have tnb_ := nib2 tn1422_ tn1421_; omega))] | rw [if_neg (by (have t_hp3 := hp3; have t_n7 := n7; have t_c8 := ltI c8; have t_c9 := ltI c9; have t_c10 := neI c10; have tqz_ := qz15_; have tnb_ := nib2 tn1422_ tn1421_; omega))] | rw [if_pos (by decide)] | rw [if_neg (by decide)] | rw [if_pos (by skip; assumption)] | rw [if_neg (by skip; assumption)]))); all_goals rfl))⟩, ⟨by rw [ht]; exact hP9, hD9⟩⟩, hS.F ht⟩) hS.2.2 dX5_nextToken_200
        · skip
          have t_hp3 := hp3
          have t_n7 := n7
          have t_c8 := ltI c8
          have t_c9 := ltI c9
          have t_c10 := eqI c10
          have : (48 : Int32).toInt = 48 := qI_48
          have : (59 : Int32).toInt = 59 := qI_59
          have : (97 : Int32).toInt = 97 := qI_97
          have t_n0 : (nI P).toInt = (P : Int) := tn1422_ ()
          have t_n1 : (nI T).toInt = (T : Int) := tn1421_ ()
          have t_n2 : (nI (pst f T 32 32 P)).toInt = (((pst f T 32 32 P) : Nat) : Int) := nI_toInt (by omega)
          exfalso; omega
      · skip
        refine lv_iload_n hx hb dX5_nextToken_106 rfl (lv_at hl 0 rfl) ?_
        refine lv_bipush (v := 57) hx hb dX5_nextToken_107 rfl ?_
        refine lv_icmp_gt (tgt := 167) hx hb dX5_nextToken_109 rfl (fun c15 => ?_) (fun c15 => ?_)
        · skip
          refine lv_iload_n hx hb dX5_nextToken_167 rfl (lv_at hl 0 rfl) ?_
          refine lv_bipush (v := 59) hx hb dX5_nextToken_168 rfl ?_
          refine lv_icmp_ne (tgt := 191) hx hb dX5_nextToken_170 rfl (fun c16 => ?_) (fun c16 => ?_)
          · skip
            refine lv_aload_n hx hb dX5_nextToken_191 rfl (lv_at hl 1 rfl) ?_
            refine lv_iconst (v := 1) hx hb dX5_nextToken_192 rfl ?_
            refine lv_aload_n hx hb dX5_nextToken_193 rfl (lv_at hl 1 rfl) ?_
            refine va_get (D := (dC, dI)) (ci := 5) (v := .int (nI (pst f T 32 32 P))) (C := RX5) (T := TX5) (N := 12) hx hb hg inG5 hown hK.1 hP 0 rfl rfl 6 (Nat.le_of_ble_eq_true rfl) (hg _ wt_116) (fun _ h9 => h9) rfl dX5_nextToken_194 ?_
            obtain ⟨hPc, hDc, hFc⟩ := va_sub3 (ws' := [(h0, .inr (5, [.ref tp, .ref td, .int x0, .int x1, .int x2, .int x3, .int (nI (pst f T 32 32 P)), .int (nI (pst f T 32 32 P)), .int x6, .int x7, .int x8, .int x9]))]) hP hD hS hA [0] (by decide +kernel) rfl
            refine va_calli (va_runV (As := [.int 1, .int (nI (pst f T 32 32 P))]) (rest := []) ⟨hx, hb, hml, hown, hg⟩ (c_X5_refuseE l dC dI G _ h0 tp td x0 x1 x2 x3 (nI (pst f T 32 32 P)) (nI (pst f T 32 32 P)) x6 x7 x8 x9 1 (nI (pst f T 32 32 P))) (kwV hg mfX5_refuse wt_386 ⟨Nat.le_of_ble_eq_true rfl, Nat.le_of_ble_eq_true rfl⟩) (preVW hK hPc hDc (ci := 5) (r := (RX5, TX5, 12)) rfl rfl) rfl rfl hl.1 rfl (lv_room (Nat.le_of_ble_eq_true rfl)) dX5_nextToken_197 ⟨Nat.le_of_ble_eq_true rfl, Nat.le_of_ble_eq_true rfl⟩) hS (fun q _ h => hFc q h) hFc (fun r17 ur17 t H1 locs ht hvm w18 hB hz1 hk1 hS => ?_)
            obtain ⟨u19, u20⟩ := ur17
            obtain ⟨hP1, hD1⟩ := hB
            rw [ht] at hP1
            obtain ⟨hP, hD⟩ := va_join (wr := [(tp, .inr (7, [.int (nI T), .ref ta])), (ta, .inl (G 0, 320, .inl f))]) (w1 := [(h0, .inr (5, [.ref tp, .ref td, .int u19, .int u20, .int x2, .int x3, .int (nI (pst f T 32 32 P)), .int (nI (pst f T 32 32 P)), .int x6, .int x7, .int x8, .int x9]))]) hP hD [0] [1, 2] rfl rfl (by decide +kernel) (by decide +kernel) hk1 hFc hP1 hD1
            generalize H1 = H at hP hS ⊢
            obtain ⟨w18, w18x⟩ := w18
            subst w18
            have hpost : (0 : Int32) = ntG f T (pst f T 32 32 P) := by
              have t_n2 : (nI (pst f T 32 32 P)).toInt = (((pst f T 32 32 P) : Nat) : Int) := nI_toInt (by (have t_hp3 := hp3; have t_n7 := n7; have t_c8 := ltI c8; have t_c9 := nltI c9; have t_c15 := ltI c15; have t_c16 := neI c16; have tqz_ := qz16_; have tnb_ := nib2 tn1422_ tn1421_; omega))
              have z0 : (0 : Int32).toInt = 0 := qI_0
              have z1 : (1 : Int32).toInt = 1 := qI_1
              have z2 : (2 : Int32).toInt = 2 := qI_2
              have z3 : (3 : Int32).toInt = 3 := qI_3
              have z5 : (5 : Int32).toInt = 5 := qI_5
              have z9 : (9 : Int32).toInt = 9 := qI_9
              unfold ntG
              first | rw [if_pos (by (have t_hp3 := hp3; have t_n7 := n7; have t_c8 := ltI c8; have t_c9 := nltI c9; have t_c15 := ltI c15; have t_c16 := neI c16; have tqz_ := qz16_; have tnb_ := nib2 tn1422_ tn1421_; omega))] | (have er : r4 = f (pst f T 32 32 P) := (by rw [w5, if_pos (by (have t_hp3 := hp3; have t_n7 := n7; have t_c8 := ltI c8; have t_c9 := nltI c9; have t_c15 := ltI c15; have t_c16 := neI c16; have tqz_ := qz16_; have tnb_ := nib2 tn1422_ tn1421_; omega)), nI_clamp (by (have t_hp3 := hp3; have t_n7 := n7; have t_c8 := ltI c8; have t_c9 := nltI c9; have t_c15 := ltI c15; have t_c16 := neI c16; have tqz_ := qz16_; have tnb_ := nib2 tn1422_ tn1421_; omega))]); rw [if_neg (by (have t_hp3 := hp3; have t_n7 := n7; have t_c8 := ltI c8; have t_c9 := nltI c9; have t_c15 := ltI c15; have t_c16 := neI c16; have tqz_ := qz16_; have tnb_ := nib2 tn1422_ tn1421_; omega)), ← er]; (try (repeat (first | rw [if_pos (by with_reducible assumption)] | rw [if_neg (by with_reducible assumption)] | rw [if_pos (by first | exact c8 | exact c9 | exact c15 | exact c16)] | rw [if_neg (by first | exact c8 | exact c9 | exact c15 | exact c16)] | rw [if_pos (by (have t_hp3 := hp3; have t_n7 := n7; have t_c8 := ltI c8; have t_c9 := nltI c9; have t_c15 := ltI c15; have t_c16 := neI c16; have tqz_ := qz16_; have tnb_ := nib2 tn1422_ tn1421_; omega))] | rw [if_neg (by (have t_hp3 := hp3; have t_n7 := n7; have t_c8 := ltI c8; have t_c9 := nltI c9; have t_c15 := ltI c15; have t_c16 := neI c16; have tqz_ := qz16_; have tnb_ := nib2 tn1422_ tn1421_; omega))] | rw [if_pos (by decide)] | rw [if_neg (by decide)] | rw [if_pos (by skip; assumption)] | rw [if_neg (by skip; assumption)]))); all_goals rfl)
            obtain ⟨hP9, hD9⟩ := va_sub2 (ws' := [(h0, .inr (5, [.ref tp, .ref td, .int u19, .int u20, .int x2, .int x3, .int (nI (pst f T 32 32 P)), .int (nI (pst f T 32 32 P)), .int x6, .int x7, .int x8, .int x9])), (tp, .inr (7, [.int (nI T), .ref ta])), (ta, .inl (G 0, 320, .inl f))]) hP hD [2, 0, 1] (by decide +kernel) rfl
            refine W.widen (k := 0) (n := 0) (Nat.le_of_ble_eq_true rfl) (Nat.le_of_ble_eq_true rfl) ?_
            exact W.zret (v := 0) hx hb hr (by first | rfl | decide | exact rfl) (fun t ht hW => ⟨⟨0, (u19, u20, x3, (pst f T 32 32 P), (pst f T 32 32 P)), rfl, ⟨hpost, (by have t_n2 : (nI (pst f T 32 32 P)).toInt = (((pst f T 32 32 P) : Nat) : Int) := nI_toInt (by (have t_hp3 := hp3; have t_n7 := n7; have t_c8 := ltI c8; have t_c9 := nltI c9; have t_c15 := ltI c15; have t_c16 := neI c16; have tqz_ := qz16_; have tnb_ := nib2 tn1422_ tn1421_; omega)); have tqz_ := qz41_; refine ⟨by (have t_hp3 := hp3; have t_n7 := n7; have t_c8 := ltI c8; have t_c9 := nltI c9; have t_c15 := ltI c15; have t_c16 := neI c16; have tqz_ := qz16_; have tnb_ := nib2 tn1422_ tn1421_; omega), by (have t_hp3 := hp3; have t_n7 := n7; have t_c8 := ltI c8; have t_c9 := nltI c9; have t_c15 := ltI c15; have t_c16 := neI c16; have tqz_ := qz16_; have tnb_ := nib2 tn1422_ tn1421_; omega), ?_⟩; unfold ntS1; rw [w18x.1, w18x.2]; first | (rw [if_pos (by (have t_hp3 := hp3; have t_n7 := n7; have t_c8 := ltI c8; have t_c9 := nltI c9; have t_c15 := ltI c15; have t_c16 := neI c16; have tqz_ := qz16_; have tnb_ := nib2 tn1422_ tn1421_; omega))]; done) | (have er : r4 = f (pst f T 32 32 P) := (by rw [w5, if_pos (by (have t_hp3 := hp3; have t_n7 := n7; have t_c8 := ltI c8; have t_c9 := nltI c9; have t_c15 := ltI c15; have t_c16 := neI c16; have tqz_ := qz16_; have tnb_ := nib2 tn1422_ tn1421_; omega)), nI_clamp (by (have t_hp3 := hp3; have t_n7 := n7; have t_c8 := ltI c8; have t_c9 := nltI c9; have t_c15 := ltI c15; have t_c16 := neI c16; have tqz_ := qz16_; have tnb_ := nib2 tn1422_ tn1421_; omega))]); rw [if_neg (by (have t_hp3 := hp3; have t_n7 := n7; have t_c8 := ltI c8; have t_c9 := nltI c9; have t_c15 := ltI c15; have t_c16 := neI c16; have tqz_ := qz16_; have tnb_ := nib2 tn1422_ tn1421_; omega)), ← er]; (try (repeat (first | rw [if_pos (by with_reducible assumption)] | rw [if_neg (by with_reducible assumption)] | rw [if_pos (by first | exact c8 | exact c9 | exact c15 | exact c16)] | rw [if_neg (by first | exact c8 | exact c9 | exact c15 | exact c16)] | rw [if_pos (by (have t_hp3 := hp3; have t_n7 := n7; have t_c8 := ltI c8; have t_c9 := nltI c9; have t_c15 := ltI c15; have t_c16 := neI c16; have tqz_ := qz16_; have tnb_ := nib2 tn1422_ tn1421_; omega))] | rw [if_neg (by (have t_hp3 := hp3; have t_n7 := n7; have t_c8 := ltI c8; have t_c9 := nltI c9; have t_c15 := ltI c15; have t_c16 := neI c16; have tqz_ := qz16_; have tnb_ := nib2 tn1422_ tn1421_; omega))] | rw [if_pos (by decide)] | rw [if_neg (by decide)] | rw [if_pos (by skip; assumption)] | rw [if_neg (by skip; assumption)]))); all_goals rfl))⟩, ⟨by rw [ht]; exact hP9, hD9⟩⟩, hS.F ht⟩) hS.2.2 dX5_nextToken_200
          · skip
            refine lv_aload_n hx hb dX5_nextToken_173 rfl (lv_at hl 1 rfl) ?_
            refine lv_iconst (v := 3) hx hb dX5_nextToken_174 rfl ?_
            refine va_put (D := (dC, dI)) (ci := 5) (v := .int 3) (ty := .int) (C := RX5) (T := TX5) (N := 12) hx hb hg inG5 tyX5 tyX5_ok nmX5 hown hK.1 hP hD hS 0 rfl rfl 5 (Nat.le_of_ble_eq_true rfl) (hg _ wt_115) (fun _ h9 => h9) rfl (by decide +kernel) rfl rfl (Nat.le_of_ble_eq_true rfl) dX5_nextToken_175 (fun H locs hP hD hS => ?_)
            refine lv_aload_n hx hb dX5_nextToken_178 rfl (lv_at hl 1 rfl) ?_
            refine lv_aload_n hx hb dX5_nextToken_179 rfl (lv_at hl 1 rfl) ?_
            refine va_get (D := (dC, dI)) (ci := 5) (v := .int (nI (pst f T 32 32 P))) (C := RX5) (T := TX5) (N := 12) hx hb hg inG5 hown hK.1 hP 0 rfl rfl 6 (Nat.le_of_ble_eq_true rfl) (hg _ wt_116) (fun _ h9 => h9) rfl dX5_nextToken_180 ?_
            refine lv_iconst (v := 1) hx hb dX5_nextToken_183 rfl ?_
            refine lv_iadd hx hb dX5_nextToken_184 ?_
            refine lv_cg (y := nI ((pst f T 32 32 P) + 1)) (by rw [show (1 : Int32) = nI 1 from rfl]; exact nI_add _ _) ?_
            refine va_put (D := (dC, dI)) (ci := 5) (v := .int (nI ((pst f T 32 32 P) + 1))) (ty := .int) (C := RX5) (T := TX5) (N := 12) hx hb hg inG5 tyX5 tyX5_ok nmX5 hown hK.1 hP hD hS 0 rfl rfl 7 (Nat.le_of_ble_eq_true rfl) (hg _ wt_117) (fun _ h9 => h9) rfl (by decide +kernel) rfl rfl (Nat.le_of_ble_eq_true rfl) dX5_nextToken_185 (fun H locs hP hD hS => ?_)
            refine lv_goto (tgt := 201) hx hb dX5_nextToken_188 rfl ?_
            refine lv_iconst (v := 1) hx hb dX5_nextToken_201 rfl ?_
            have hpost : (1 : Int32) = ntG f T (pst f T 32 32 P) := by
              have t_n2 : (nI (pst f T 32 32 P)).toInt = (((pst f T 32 32 P) : Nat) : Int) := nI_toInt (by (have t_hp3 := hp3; have t_n7 := n7; have t_c8 := ltI c8; have t_c9 := nltI c9; have t_c15 := ltI c15; have t_c16 := eqI c16; have tqz_ := qz16_; have tnb_ := nib2 tn1422_ tn1421_; omega))
              have z0 : (0 : Int32).toInt = 0 := qI_0
              have z1 : (1 : Int32).toInt = 1 := qI_1
              have z2 : (2 : Int32).toInt = 2 := qI_2
              have z3 : (3 : Int32).toInt = 3 := qI_3
              have z5 : (5 : Int32).toInt = 5 := qI_5
              have z9 : (9 : Int32).toInt = 9 := qI_9
              unfold ntG
              first | rw [if_pos (by (have t_hp3 := hp3; have t_n7 := n7; have t_c8 := ltI c8; have t_c9 := nltI c9; have t_c15 := ltI c15; have t_c16 := eqI c16; have tqz_ := qz16_; have tnb_ := nib2 tn1422_ tn1421_; omega))] | (have er : r4 = f (pst f T 32 32 P) := (by rw [w5, if_pos (by (have t_hp3 := hp3; have t_n7 := n7; have t_c8 := ltI c8; have t_c9 := nltI c9; have t_c15 := ltI c15; have t_c16 := eqI c16; have tqz_ := qz16_; have tnb_ := nib2 tn1422_ tn1421_; omega)), nI_clamp (by (have t_hp3 := hp3; have t_n7 := n7; have t_c8 := ltI c8; have t_c9 := nltI c9; have t_c15 := ltI c15; have t_c16 := eqI c16; have tqz_ := qz16_; have tnb_ := nib2 tn1422_ tn1421_; omega))]); rw [if_neg (by (have t_hp3 := hp3; have t_n7 := n7; have t_c8 := ltI c8; have t_c9 := nltI c9; have t_c15 := ltI c15; have t_c16 := eqI c16; have tqz_ := qz16_; have tnb_ := nib2 tn1422_ tn1421_; omega)), ← er]; (try (repeat (first | rw [if_pos (by with_reducible assumption)] | rw [if_neg (by with_reducible assumption)] | rw [if_pos (by first | exact c8 | exact c9 | exact c15 | exact c16)] | rw [if_neg (by first | exact c8 | exact c9 | exact c15 | exact c16)] | rw [if_pos (by (have t_hp3 := hp3; have t_n7 := n7; have t_c8 := ltI c8; have t_c9 := nltI c9; have t_c15 := ltI c15; have t_c16 := eqI c16; have tqz_ := qz16_; have tnb_ := nib2 tn1422_ tn1421_; omega))] | rw [if_neg (by (have t_hp3 := hp3; have t_n7 := n7; have t_c8 := ltI c8; have t_c9 := nltI c9; have t_c15 := ltI c15; have t_c16 := eqI c16; have tqz_ := qz16_; have tnb_ := nib2 tn1422_ tn1421_; omega))] | rw [if_pos (by decide)] | rw [if_neg (by decide)] | rw [if_pos (by skip; assumption)] | rw [if_neg (by skip; assumption)]))); all_goals rfl)
            obtain ⟨hP9, hD9⟩ := va_sub2 (ws' := [(h0, .inr (5, [.ref tp, .ref td, .int x0, .int x1, .int x2, .int 3, .int (nI (pst f T 32 32 P)), .int (nI ((pst f T 32 32 P) + 1)), .int x6, .int x7, .int x8, .int x9])), (tp, .inr (7, [.int (nI T), .ref ta])), (ta, .inl (G 0, 320, .inl f))]) hP hD [0, 1, 2] (by decide +kernel) rfl
            refine W.widen (k := 0) (n := 0) (Nat.le_of_ble_eq_true rfl) (Nat.le_of_ble_eq_true rfl) ?_
            exact W.zret (v := 1) hx hb hr (by first | rfl | decide | exact rfl) (fun t ht hW => ⟨⟨1, (x0, x1, 3, (pst f T 32 32 P), ((pst f T 32 32 P) + 1)), rfl, ⟨hpost, (by have t_n2 : (nI (pst f T 32 32 P)).toInt = (((pst f T 32 32 P) : Nat) : Int) := nI_toInt (by (have t_hp3 := hp3; have t_n7 := n7; have t_c8 := ltI c8; have t_c9 := nltI c9; have t_c15 := ltI c15; have t_c16 := eqI c16; have tqz_ := qz16_; have tnb_ := nib2 tn1422_ tn1421_; omega)); have tqz_ := qz41_; refine ⟨by (have t_hp3 := hp3; have t_n7 := n7; have t_c8 := ltI c8; have t_c9 := nltI c9; have t_c15 := ltI c15; have t_c16 := eqI c16; have tqz_ := qz16_; have tnb_ := nib2 tn1422_ tn1421_; omega), by (have t_hp3 := hp3; have t_n7 := n7; have t_c8 := ltI c8; have t_c9 := nltI c9; have t_c15 := ltI c15; have t_c16 := eqI c16; have tqz_ := qz16_; have tnb_ := nib2 tn1422_ tn1421_; omega), ?_⟩; unfold ntS1; first | (rw [if_pos (by (have t_hp3 := hp3; have t_n7 := n7; have t_c8 := ltI c8; have t_c9 := nltI c9; have t_c15 := ltI c15; have t_c16 := eqI c16; have tqz_ := qz16_; have tnb_ := nib2 tn1422_ tn1421_; omega))]; done) | (have er : r4 = f (pst f T 32 32 P) := (by rw [w5, if_pos (by (have t_hp3 := hp3; have t_n7 := n7; have t_c8 := ltI c8; have t_c9 := nltI c9; have t_c15 := ltI c15; have t_c16 := eqI c16; have tqz_ := qz16_; have tnb_ := nib2 tn1422_ tn1421_; omega)), nI_clamp (by (have t_hp3 := hp3; have t_n7 := n7; have t_c8 := ltI c8; have t_c9 := nltI c9; have t_c15 := ltI c15; have t_c16 := eqI c16; have tqz_ := qz16_; have tnb_ := nib2 tn1422_ tn1421_; omega))]); rw [if_neg (by (have t_hp3 := hp3; have t_n7 := n7; have t_c8 := ltI c8; have t_c9 := nltI c9; have t_c15 := ltI c15; have t_c16 := eqI c16; have tqz_ := qz16_; have tnb_ := nib2 tn1422_ tn1421_; omega)), ← er]; (try (repeat (first | rw [if_pos (by with_reducible assumption)] | rw [if_neg (by with_reducible assumption)] | rw [if_pos (by first | exact c8 | exact c9 | exact c15 | exact c16)] | rw [if_neg (by first | exact c8 | exact c9 | exact c15 | exact c16)] | rw [if_pos (by (have t_hp3 := hp3; have t_n7 := n7; have t_c8 := ltI c8; have t_c9 := nltI c9; have t_c15 := ltI c15; have t_c16 := eqI c16; have tqz_ := qz16_; have tnb_ := nib2 tn1422_ tn1421_; omega))] | rw [if_neg (by (have t_hp3 := hp3; have t_n7 := n7; have t_c8 := ltI c8; have t_c9 := nltI c9; have t_c15 := ltI c15; have t_c16 := eqI c16; have tqz_ := qz16_; have tnb_ := nib2 tn1422_ tn1421_; omega))] | rw [if_pos (by decide)] | rw [if_neg (by decide)] | rw [if_pos (by skip; assumption)] | rw [if_neg (by skip; assumption)]))); all_goals rfl))⟩, ⟨by rw [ht]; exact hP9, hD9⟩⟩, hS.F ht⟩) hS.2.2 dX5_nextToken_202
        · skip
          refine lv_aload_n hx hb dX5_nextToken_112 rfl (lv_at hl 1 rfl) ?_
          refine lv_iconst (v := 2) hx hb dX5_nextToken_113 rfl ?_
          refine va_put (D := (dC, dI)) (ci := 5) (v := .int 2) (ty := .int) (C := RX5) (T := TX5) (N := 12) hx hb hg inG5 tyX5 tyX5_ok nmX5 hown hK.1 hP hD hS 0 rfl rfl 5 (Nat.le_of_ble_eq_true rfl) (hg _ wt_115) (fun _ h9 => h9) rfl (by decide +kernel) rfl rfl (Nat.le_of_ble_eq_true rfl) dX5_nextToken_114 (fun H locs hP hD hS => ?_)
          refine lv_aload_n hx hb dX5_nextToken_117 rfl (lv_at hl 1 rfl) ?_
          refine lv_aload_n hx hb dX5_nextToken_118 rfl (lv_at hl 1 rfl) ?_
          refine va_get (D := (dC, dI)) (ci := 5) (v := .ref tp) (C := RX5) (T := TX5) (N := 12) hx hb hg inG5 hown hK.1 hP 0 rfl rfl 0 (Nat.le_of_ble_eq_true rfl) (hg _ wt_105) (fun _ h9 => h9) rfl dX5_nextToken_119 ?_
          refine lv_aload_n hx hb dX5_nextToken_122 rfl (lv_at hl 1 rfl) ?_
          refine va_get (D := (dC, dI)) (ci := 5) (v := .int (nI (pst f T 32 32 P))) (C := RX5) (T := TX5) (N := 12) hx hb hg inG5 hown hK.1 hP 0 rfl rfl 6 (Nat.le_of_ble_eq_true rfl) (hg _ wt_116) (fun _ h9 => h9) rfl dX5_nextToken_123 ?_
          refine lv_bipush (v := 48) hx hb dX5_nextToken_126 rfl ?_
          refine lv_bipush (v := 57) hx hb dX5_nextToken_128 rfl ?_
          have hPc := hP.sub (ws' := [(tp, .inr (7, [.int (nI T), .ref ta])), (ta, .inl (G 0, 320, .inl f))]) [1, 2] rfl
          refine va_calli (va_runVN (As := [.int (nI (pst f T 32 32 P)), .int 48, .int 57]) (rest := [.ref h0]) ⟨hx, hb, hml, hown, hg⟩ (c_X7_pastAllE l dC dI G _ tp ta T (pst f T 32 32 P) 48 57 f hT_ (by first | omega | (have t_hp3 := hp3; have t_n7 := n7; have t_c8 := ltI c8; have t_c9 := nltI c9; have t_c15 := nltI c15; have tqz_ := qz17_; have tnb_ := nib2 tn1422_ tn1421_; have t_n2 : (nI (pst f T 32 32 P)).toInt = (((pst f T 32 32 P) : Nat) : Int) := nI_toInt (by omega); have tqz_ := qz18_; omega))) (kwVN hg hK mfX7_pastAll wn_378 ⟨Nat.le_of_ble_eq_true rfl, Nat.le_of_ble_eq_true rfl⟩) (preVR hK hPc (ci := 7) (r := (RX7, TX7, 2)) rfl rfl) rfl rfl hl.1 rfl (lv_room (Nat.le_of_ble_eq_true rfl)) dX5_nextToken_130 ⟨Nat.le_of_ble_eq_true rfl, Nat.le_of_ble_eq_true rfl⟩) hS (fun q h1 h2 => absurd h2 (Nat.not_le.mpr h1)) (fun q h => hA q (Nat.le_trans hS.1 h)) (fun r21 ur21 t H1 locs ht hvm w22 hB hz1 hk1 hS => ?_)
          have hP := keepR hP hk1
          obtain ⟨w22, w22x⟩ := w22
          try rw [show (48 : Int32).toInt = 48 from (by decide)] at w22
          try rw [show (57 : Int32).toInt = 57 from (by decide)] at w22
          have hp23 : (pst f T 32 32 P) ≤ (pst f T 48 57 (pst f T 32 32 P)) ∧ (pst f T 48 57 (pst f T 32 32 P)) ≤ T := (pst_b (by have t_hp3 := hp3; have t_n7 := n7; have t_c8 := ltI c8; have t_c9 := nltI c9; have t_c15 := nltI c15; have tqz_ := qz17_; have tnb_ := nib2 tn1422_ tn1421_; have t_n2 : (nI (pst f T 32 32 P)).toInt = (((pst f T 32 32 P) : Nat) : Int) := nI_toInt (by omega); omega))
          subst w22
          refine va_put (D := (dC, dI)) (ci := 5) (v := .int (nI (pst f T 48 57 (pst f T 32 32 P)))) (ty := .int) (C := RX5) (T := TX5) (N := 12) hx hb hg inG5 tyX5 tyX5_ok nmX5 hown hK.1 hP hD hS 0 rfl rfl 7 (Nat.le_of_ble_eq_true rfl) (hg _ wt_117) (fun _ h9 => h9) rfl (by decide +kernel) rfl rfl (Nat.le_of_ble_eq_true rfl) dX5_nextToken_133 (fun H locs hP hD hS => ?_)
          refine lv_aload_n hx hb dX5_nextToken_136 rfl (lv_at hl 1 rfl) ?_
          refine va_get (D := (dC, dI)) (ci := 5) (v := .int (nI (pst f T 48 57 (pst f T 32 32 P)))) (C := RX5) (T := TX5) (N := 12) hx hb hg inG5 hown hK.1 hP 0 rfl rfl 7 (Nat.le_of_ble_eq_true rfl) (hg _ wt_117) (fun _ h9 => h9) rfl dX5_nextToken_137 ?_
          refine lv_aload_n hx hb dX5_nextToken_140 rfl (lv_at hl 1 rfl) ?_
          refine va_get (D := (dC, dI)) (ci := 5) (v := .int (nI (pst f T 32 32 P))) (C := RX5) (T := TX5) (N := 12) hx hb hg inG5 hown hK.1 hP 0 rfl rfl 6 (Nat.le_of_ble_eq_true rfl) (hg _ wt_116) (fun _ h9 => h9) rfl dX5_nextToken_141 ?_
          refine lv_isub hx hb dX5_nextToken_144 ?_
          refine lv_cg (y := nI ((pst f T 48 57 (pst f T 32 32 P)) - (pst f T 32 32 P))) (by exact pk_sub (by have t_hp3 := hp3; have t_n7 := n7; have t_c8 := ltI c8; have t_c9 := nltI c9; have t_c15 := nltI c15; have t_hp23 := hp23; have tqz_ := qz17_; have tnb_ := nib2 tn1422_ tn1421_; have t_n2 : (nI (pst f T 32 32 P)).toInt = (((pst f T 32 32 P) : Nat) : Int) := nI_toInt (by omega); have t_n3 : (nI (pst f T 48 57 (pst f T 32 32 P))).toInt = (((pst f T 48 57 (pst f T 32 32 P)) : Nat) : Int) := nI_toInt (by omega); omega)) ?_
          refine lv_iconst (v := 2) hx hb dX5_nextToken_145 rfl ?_
          refine lv_icmp_le (tgt := 161) hx hb dX5_nextToken_146 rfl (fun c24 => ?_) (fun c24 => ?_)
          · skip
            have tn1424_ : nIT ((pst f T 48 57 (pst f T 32 32 P)) - (pst f T 32 32 P)) := fun _ => nI_toInt (by first | omega | (have t := leI c24; omega))
            have n25 : ((pst f T 48 57 (pst f T 32 32 P)) - (pst f T 32 32 P)) ≤ 2 := by have t := leI c24; rw [show (nI ((pst f T 48 57 (pst f T 32 32 P)) - (pst f T 32 32 P))).toInt = (((pst f T 48 57 (pst f T 32 32 P)) - (pst f T 32 32 P) : Nat) : Int) from tn1424_ ()] at t; have : (2 : Int32).toInt = 2 := qI_2; omega
            refine lv_iconst (v := 1) hx hb dX5_nextToken_161 rfl ?_
            refine lv_goto (tgt := 166) hx hb dX5_nextToken_162 rfl ?_
            have hpost : (1 : Int32) = ntG f T (pst f T 32 32 P) := by
              have t_n2 : (nI (pst f T 32 32 P)).toInt = (((pst f T 32 32 P) : Nat) : Int) := nI_toInt (by (have t_hp3 := hp3; have t_n7 := n7; have t_c8 := ltI c8; have t_c9 := nltI c9; have t_c15 := nltI c15; have t_hp23 := hp23; have t_n25 := n25; have tqz_ := qz17_; have tnb_ := nib2 tn1422_ tn1421_; omega))
              have t_n3 : (nI (pst f T 48 57 (pst f T 32 32 P))).toInt = (((pst f T 48 57 (pst f T 32 32 P)) : Nat) : Int) := nI_toInt (by (have t_hp3 := hp3; have t_n7 := n7; have t_c8 := ltI c8; have t_c9 := nltI c9; have t_c15 := nltI c15; have t_hp23 := hp23; have t_n25 := n25; have tqz_ := qz17_; have tnb_ := nib2 tn1422_ tn1421_; omega))
              have z0 : (0 : Int32).toInt = 0 := qI_0
              have z1 : (1 : Int32).toInt = 1 := qI_1
              have z2 : (2 : Int32).toInt = 2 := qI_2
              have z3 : (3 : Int32).toInt = 3 := qI_3
              have z5 : (5 : Int32).toInt = 5 := qI_5
              have z9 : (9 : Int32).toInt = 9 := qI_9
              unfold ntG
              first | rw [if_pos (by (have t_hp3 := hp3; have t_n7 := n7; have t_c8 := ltI c8; have t_c9 := nltI c9; have t_c15 := nltI c15; have t_hp23 := hp23; have t_n25 := n25; have tqz_ := qz17_; have tnb_ := nib2 tn1422_ tn1421_; omega))] | (have er : r4 = f (pst f T 32 32 P) := (by rw [w5, if_pos (by (have t_hp3 := hp3; have t_n7 := n7; have t_c8 := ltI c8; have t_c9 := nltI c9; have t_c15 := nltI c15; have t_hp23 := hp23; have t_n25 := n25; have tqz_ := qz17_; have tnb_ := nib2 tn1422_ tn1421_; omega)), nI_clamp (by (have t_hp3 := hp3; have t_n7 := n7; have t_c8 := ltI c8; have t_c9 := nltI c9; have t_c15 := nltI c15; have t_hp23 := hp23; have t_n25 := n25; have tqz_ := qz17_; have tnb_ := nib2 tn1422_ tn1421_; omega))]); rw [if_neg (by (have t_hp3 := hp3; have t_n7 := n7; have t_c8 := ltI c8; have t_c9 := nltI c9; have t_c15 := nltI c15; have t_hp23 := hp23; have t_n25 := n25; have tqz_ := qz17_; have tnb_ := nib2 tn1422_ tn1421_; omega)), ← er]; (try (repeat (first | rw [if_pos (by with_reducible assumption)] | rw [if_neg (by with_reducible assumption)] | rw [if_pos (by first | exact c8 | exact c9 | exact c15)] | rw [if_neg (by first | exact c8 | exact c9 | exact c15)] | rw [if_pos (by (have t_hp3 := hp3; have t_n7 := n7; have t_c8 := ltI c8; have t_c9 := nltI c9; have t_c15 := nltI c15; have t_hp23 := hp23; have t_n25 := n25; have tqz_ := qz17_; have tnb_ := nib2 tn1422_ tn1421_; omega))] | rw [if_neg (by (have t_hp3 := hp3; have t_n7 := n7; have t_c8 := ltI c8; have t_c9 := nltI c9; have t_c15 := nltI c15; have t_hp23 := hp23; have t_n25 := n25; have tqz_ := qz17_; have tnb_ := nib2 tn1422_ tn1421_; omega))] | rw [if_pos (by decide)] | rw [if_neg (by decide)] | rw [if_pos (by skip; assumption)] | rw [if_neg (by skip; assumption)]))); all_goals rfl)
            obtain ⟨hP9, hD9⟩ := va_sub2 (ws' := [(h0, .inr (5, [.ref tp, .ref td, .int x0, .int x1, .int x2, .int 2, .int (nI (pst f T 32 32 P)), .int (nI (pst f T 48 57 (pst f T 32 32 P))), .int x6, .int x7, .int x8, .int x9])), (tp, .inr (7, [.int (nI T), .ref ta])), (ta, .inl (G 0, 320, .inl f))]) hP hD [0, 1, 2] (by decide +kernel) rfl
            refine W.widen (k := 0) (n := 0) (Nat.le_of_ble_eq_true rfl) (Nat.le_of_ble_eq_true rfl) ?_
            exact W.zret (v := 1) hx hb hr (by first | rfl | decide | exact rfl) (fun t ht hW => ⟨⟨1, (x0, x1, 2, (pst f T 32 32 P), (pst f T 48 57 (pst f T 32 32 P))), rfl, ⟨hpost, (by have t_n2 : (nI (pst f T 32 32 P)).toInt = (((pst f T 32 32 P) : Nat) : Int) := nI_toInt (by (have t_hp3 := hp3; have t_n7 := n7; have t_c8 := ltI c8; have t_c9 := nltI c9; have t_c15 := nltI c15; have t_hp23 := hp23; have t_n25 := n25; have tqz_ := qz17_; have tnb_ := nib2 tn1422_ tn1421_; omega)); have t_n3 : (nI (pst f T 48 57 (pst f T 32 32 P))).toInt = (((pst f T 48 57 (pst f T 32 32 P)) : Nat) : Int) := nI_toInt (by (have t_hp3 := hp3; have t_n7 := n7; have t_c8 := ltI c8; have t_c9 := nltI c9; have t_c15 := nltI c15; have t_hp23 := hp23; have t_n25 := n25; have tqz_ := qz17_; have tnb_ := nib2 tn1422_ tn1421_; omega)); have tqz_ := qz41_; refine ⟨by (have t_hp3 := hp3; have t_n7 := n7; have t_c8 := ltI c8; have t_c9 := nltI c9; have t_c15 := nltI c15; have t_hp23 := hp23; have t_n25 := n25; have tqz_ := qz17_; have tnb_ := nib2 tn1422_ tn1421_; omega), by (have t_hp3 := hp3; have t_n7 := n7; have t_c8 := ltI c8; have t_c9 := nltI c9; have t_c15 := nltI c15; have t_hp23 := hp23; have t_n25 := n25; have tqz_ := qz17_; have tnb_ := nib2 tn1422_ tn1421_; omega), ?_⟩; unfold ntS1; first | (rw [if_pos (by (have t_hp3 := hp3; have t_n7 := n7; have t_c8 := ltI c8; have t_c9 := nltI c9; have t_c15 := nltI c15; have t_hp23 := hp23; have t_n25 := n25; have tqz_ := qz17_; have tnb_ := nib2 tn1422_ tn1421_; omega))]; done) | (have er : r4 = f (pst f T 32 32 P) := (by rw [w5, if_pos (by (have t_hp3 := hp3; have t_n7 := n7; have t_c8 := ltI c8; have t_c9 := nltI c9; have t_c15 := nltI c15; have t_hp23 := hp23; have t_n25 := n25; have tqz_ := qz17_; have tnb_ := nib2 tn1422_ tn1421_; omega)), nI_clamp (by (have t_hp3 := hp3; have t_n7 := n7; have t_c8 := ltI c8; have t_c9 := nltI c9; have t_c15 := nltI c15; have t_hp23 := hp23; have t_n25 := n25; have tqz_ := qz17_; have tnb_ := nib2 tn1422_ tn1421_; omega))]); rw [if_neg (by (have t_hp3 := hp3; have t_n7 := n7; have t_c8 := ltI c8; have t_c9 := nltI c9; have t_c15 := nltI c15; have t_hp23 := hp23; have t_n25 := n25; have tqz_ := qz17_; have tnb_ := nib2 tn1422_ tn1421_; omega)), ← er]; (try (repeat (first | rw [if_pos (by with_reducible assumption)] | rw [if_neg (by with_reducible assumption)] | rw [if_pos (by first | exact c8 | exact c9 | exact c15)] | rw [if_neg (by first | exact c8 | exact c9 | exact c15)] | rw [if_pos (by (have t_hp3 := hp3; have t_n7 := n7; have t_c8 := ltI c8; have t_c9 := nltI c9; have t_c15 := nltI c15; have t_hp23 := hp23; have t_n25 := n25; have tqz_ := qz17_; have tnb_ := nib2 tn1422_ tn1421_; omega))] | rw [if_neg (by (have t_hp3 := hp3; have t_n7 := n7; have t_c8 := ltI c8; have t_c9 := nltI c9; have t_c15 := nltI c15; have t_hp23 := hp23; have t_n25 := n25; have tqz_ := qz17_; have tnb_ := nib2 tn1422_ tn1421_; omega))] | rw [if_pos (by decide)] | rw [if_neg (by decide)] | rw [if_pos (by skip; assumption)] | rw [if_neg (by skip; assumption)]))); all_goals rfl))⟩, ⟨by rw [ht]; exact hP9, hD9⟩⟩, hS.F ht⟩) hS.2.2 dX5_nextToken_166
          · skip
            have tn1425_ : nIT ((pst f T 48 57 (pst f T 32 32 P)) - (pst f T 32 32 P)) := fun _ => nI_toInt (by first | omega | (have t := nleI c24; omega))
            have n26 : 2 < ((pst f T 48 57 (pst f T 32 32 P)) - (pst f T 32 32 P)) := by have t := nleI c24; rw [show (nI ((pst f T 48 57 (pst f T 32 32 P)) - (pst f T 32 32 P))).toInt = (((pst f T 48 57 (pst f T 32 32 P)) - (pst f T 32 32 P) : Nat) : Int) from tn1425_ ()] at t; have : (2 : Int32).toInt = 2 := qI_2; omega
            refine lv_aload_n hx hb dX5_nextToken_149 rfl (lv_at hl 1 rfl) ?_
            refine lv_iconst (v := 1) hx hb dX5_nextToken_150 rfl ?_
            refine lv_aload_n hx hb dX5_nextToken_151 rfl (lv_at hl 1 rfl) ?_
            refine va_get (D := (dC, dI)) (ci := 5) (v := .int (nI (pst f T 32 32 P))) (C := RX5) (T := TX5) (N := 12) hx hb hg inG5 hown hK.1 hP 0 rfl rfl 6 (Nat.le_of_ble_eq_true rfl) (hg _ wt_116) (fun _ h9 => h9) rfl dX5_nextToken_152 ?_
            obtain ⟨hPc, hDc, hFc⟩ := va_sub3 (ws' := [(h0, .inr (5, [.ref tp, .ref td, .int x0, .int x1, .int x2, .int 2, .int (nI (pst f T 32 32 P)), .int (nI (pst f T 48 57 (pst f T 32 32 P))), .int x6, .int x7, .int x8, .int x9]))]) hP hD hS hA [0] (by decide +kernel) rfl
            refine va_calli (va_runV (As := [.int 1, .int (nI (pst f T 32 32 P))]) (rest := []) ⟨hx, hb, hml, hown, hg⟩ (c_X5_refuseE l dC dI G _ h0 tp td x0 x1 x2 2 (nI (pst f T 32 32 P)) (nI (pst f T 48 57 (pst f T 32 32 P))) x6 x7 x8 x9 1 (nI (pst f T 32 32 P))) (kwV hg mfX5_refuse wt_386 ⟨Nat.le_of_ble_eq_true rfl, Nat.le_of_ble_eq_true rfl⟩) (preVW hK hPc hDc (ci := 5) (r := (RX5, TX5, 12)) rfl rfl) rfl rfl hl.1 rfl (lv_room (Nat.le_of_ble_eq_true rfl)) dX5_nextToken_155 ⟨Nat.le_of_ble_eq_true rfl, Nat.le_of_ble_eq_true rfl⟩) hS (fun q _ h => hFc q h) hFc (fun r27 ur27 t H1 locs ht hvm w28 hB hz1 hk1 hS => ?_)
            obtain ⟨u29, u30⟩ := ur27
            obtain ⟨hP1, hD1⟩ := hB
            rw [ht] at hP1
            obtain ⟨hP, hD⟩ := va_join (wr := [(tp, .inr (7, [.int (nI T), .ref ta])), (ta, .inl (G 0, 320, .inl f))]) (w1 := [(h0, .inr (5, [.ref tp, .ref td, .int u29, .int u30, .int x2, .int 2, .int (nI (pst f T 32 32 P)), .int (nI (pst f T 48 57 (pst f T 32 32 P))), .int x6, .int x7, .int x8, .int x9]))]) hP hD [0] [1, 2] rfl rfl (by decide +kernel) (by decide +kernel) hk1 hFc hP1 hD1
            generalize H1 = H at hP hS ⊢
            obtain ⟨w28, w28x⟩ := w28
            subst w28
            refine lv_if_eq (tgt := 165) hx hb dX5_nextToken_158 rfl (fun c31 => ?_) (fun c31 => ?_)
            · skip
              refine lv_iconst (v := 0) hx hb dX5_nextToken_165 rfl ?_
              have hpost : (0 : Int32) = ntG f T (pst f T 32 32 P) := by
                have t_n2 : (nI (pst f T 32 32 P)).toInt = (((pst f T 32 32 P) : Nat) : Int) := nI_toInt (by (have t_hp3 := hp3; have t_n7 := n7; have t_c8 := ltI c8; have t_c9 := nltI c9; have t_c15 := nltI c15; have t_hp23 := hp23; have t_n26 := n26; have t_c31 := eqI c31; have tqz_ := qz19_; have tnb_ := nib2 tn1422_ tn1421_; omega))
                have t_n3 : (nI (pst f T 48 57 (pst f T 32 32 P))).toInt = (((pst f T 48 57 (pst f T 32 32 P)) : Nat) : Int) := nI_toInt (by (have t_hp3 := hp3; have t_n7 := n7; have t_c8 := ltI c8; have t_c9 := nltI c9; have t_c15 := nltI c15; have t_hp23 := hp23; have t_n26 := n26; have t_c31 := eqI c31; have tqz_ := qz19_; have tnb_ := nib2 tn1422_ tn1421_; omega))
                have z0 : (0 : Int32).toInt = 0 := qI_0
                have z1 : (1 : Int32).toInt = 1 := qI_1
                have z2 : (2 : Int32).toInt = 2 := qI_2
                have z3 : (3 : Int32).toInt = 3 := qI_3
                have z5 : (5 : Int32).toInt = 5 := qI_5
                have z9 : (9 : Int32).toInt = 9 := qI_9
                unfold ntG
                first | rw [if_pos (by (have t_hp3 := hp3; have t_n7 := n7; have t_c8 := ltI c8; have t_c9 := nltI c9; have t_c15 := nltI c15; have t_hp23 := hp23; have t_n26 := n26; have t_c31 := eqI c31; have tqz_ := qz19_; have tnb_ := nib2 tn1422_ tn1421_; omega))] | (have er : r4 = f (pst f T 32 32 P) := (by rw [w5, if_pos (by (have t_hp3 := hp3; have t_n7 := n7; have t_c8 := ltI c8; have t_c9 := nltI c9; have t_c15 := nltI c15; have t_hp23 := hp23; have t_n26 := n26; have t_c31 := eqI c31; have tqz_ := qz19_; have tnb_ := nib2 tn1422_ tn1421_; omega)), nI_clamp (by (have t_hp3 := hp3; have t_n7 := n7; have t_c8 := ltI c8; have t_c9 := nltI c9; have t_c15 := nltI c15; have t_hp23 := hp23; have t_n26 := n26; have t_c31 := eqI c31; have tqz_ := qz19_; have tnb_ := nib2 tn1422_ tn1421_; omega))]); rw [if_neg (by (have t_hp3 := hp3; have t_n7 := n7; have t_c8 := ltI c8; have t_c9 := nltI c9; have t_c15 := nltI c15; have t_hp23 := hp23; have t_n26 := n26; have t_c31 := eqI c31; have tqz_ := qz19_; have tnb_ := nib2 tn1422_ tn1421_; omega)), ← er]; (try (repeat (first | rw [if_pos (by with_reducible assumption)] | rw [if_neg (by with_reducible assumption)] | rw [if_pos (by first | exact c8 | exact c9 | exact c15 | exact c31)] | rw [if_neg (by first | exact c8 | exact c9 | exact c15 | exact c31)] | rw [if_pos (by (have t_hp3 := hp3; have t_n7 := n7; have t_c8 := ltI c8; have t_c9 := nltI c9; have t_c15 := nltI c15; have t_hp23 := hp23; have t_n26 := n26; have t_c31 := eqI c31; have tqz_ := qz19_; have tnb_ := nib2 tn1422_ tn1421_; omega))] | rw [if_neg (by (have t_hp3 := hp3; have t_n7 := n7; have t_c8 := ltI c8; have t_c9 := nltI c9; have t_c15 := nltI c15; have t_hp23 := hp23; have t_n26 := n26; have t_c31 := eqI c31; have tqz_ := qz19_; have tnb_ := nib2 tn1422_ tn1421_; omega))] | rw [if_pos (by decide)] | rw [if_neg (by decide)] | rw [if_pos (by skip; assumption)] | rw [if_neg (by skip; assumption)]))); all_goals rfl)
              obtain ⟨hP9, hD9⟩ := va_sub2 (ws' := [(h0, .inr (5, [.ref tp, .ref td, .int u29, .int u30, .int x2, .int 2, .int (nI (pst f T 32 32 P)), .int (nI (pst f T 48 57 (pst f T 32 32 P))), .int x6, .int x7, .int x8, .int x9])), (tp, .inr (7, [.int (nI T), .ref ta])), (ta, .inl (G 0, 320, .inl f))]) hP hD [2, 0, 1] (by decide +kernel) rfl
              refine W.widen (k := 0) (n := 0) (Nat.le_of_ble_eq_true rfl) (Nat.le_of_ble_eq_true rfl) ?_
              exact W.zret (v := 0) hx hb hr (by first | rfl | decide | exact rfl) (fun t ht hW => ⟨⟨0, (u29, u30, 2, (pst f T 32 32 P), (pst f T 48 57 (pst f T 32 32 P))), rfl, ⟨hpost, (by have t_n2 : (nI (pst f T 32 32 P)).toInt = (((pst f T 32 32 P) : Nat) : Int) := nI_toInt (by (have t_hp3 := hp3; have t_n7 := n7; have t_c8 := ltI c8; have t_c9 := nltI c9; have t_c15 := nltI c15; have t_hp23 := hp23; have t_n26 := n26; have t_c31 := eqI c31; have tqz_ := qz19_; have tnb_ := nib2 tn1422_ tn1421_; omega)); have t_n3 : (nI (pst f T 48 57 (pst f T 32 32 P))).toInt = (((pst f T 48 57 (pst f T 32 32 P)) : Nat) : Int) := nI_toInt (by (have t_hp3 := hp3; have t_n7 := n7; have t_c8 := ltI c8; have t_c9 := nltI c9; have t_c15 := nltI c15; have t_hp23 := hp23; have t_n26 := n26; have t_c31 := eqI c31; have tqz_ := qz19_; have tnb_ := nib2 tn1422_ tn1421_; omega)); have tqz_ := qz41_; refine ⟨by (have t_hp3 := hp3; have t_n7 := n7; have t_c8 := ltI c8; have t_c9 := nltI c9; have t_c15 := nltI c15; have t_hp23 := hp23; have t_n26 := n26; have t_c31 := eqI c31; have tqz_ := qz19_; have tnb_ := nib2 tn1422_ tn1421_; omega), by (have t_hp3 := hp3; have t_n7 := n7; have t_c8 := ltI c8; have t_c9 := nltI c9; have t_c15 := nltI c15; have t_hp23 := hp23; have t_n26 := n26; have t_c31 := eqI c31; have tqz_ := qz19_; have tnb_ := nib2 tn1422_ tn1421_; omega), ?_⟩; unfold ntS1; rw [w28x.1, w28x.2]; first | (rw [if_pos (by (have t_hp3 := hp3; have t_n7 := n7; have t_c8 := ltI c8; have t_c9 := nltI c9; have t_c15 := nltI c15; have t_hp23 := hp23; have t_n26 := n26; have t_c31 := eqI c31; have tqz_ := qz19_; have tnb_ := nib2 tn1422_ tn1421_; omega))]; done) | (have er : r4 = f (pst f T 32 32 P) := (by rw [w5, if_pos (by (have t_hp3 := hp3; have t_n7 := n7; have t_c8 := ltI c8; have t_c9 := nltI c9; have t_c15 := nltI c15; have t_hp23 := hp23; have t_n26 := n26; have t_c31 := eqI c31; have tqz_ := qz19_; have tnb_ := nib2 tn1422_ tn1421_; omega)), nI_clamp (by (have t_hp3 := hp3; have t_n7 := n7; have t_c8 := ltI c8; have t_c9 := nltI c9; have t_c15 := nltI c15; have t_hp23 := hp23; have t_n26 := n26; have t_c31 := eqI c31; have tqz_ := qz19_; have tnb_ := nib2 tn1422_ tn1421_; omega))]); rw [if_neg (by (have t_hp3 := hp3; have t_n7 := n7; have t_c8 := ltI c8; have t_c9 := nltI c9; have t_c15 := nltI c15; have t_hp23 := hp23; have t_n26 := n26; have t_c31 := eqI c31; have tqz_ := qz19_; have tnb_ := nib2 tn1422_ tn1421_; omega)), ← er]; (try (repeat (first | rw [if_pos (by with_reducible assumption)] | rw [if_neg (by with_reducible assumption)] | rw [if_pos (by first | exact c8 | exact c9 | exact c15 | exact c31)] | rw [if_neg (by first | exact c8 | exact c9 | exact c15 | exact c31)] | rw [if_pos (by (have t_hp3 := hp3; have t_n7 := n7; have t_c8 := ltI c8; have t_c9 := nltI c9; have t_c15 := nltI c15; have t_hp23 := hp23; have t_n26 := n26; have t_c31 := eqI c31; have tqz_ := qz19_; have tnb_ := nib2 tn1422_ tn1421_; omega))] | rw [if_neg (by (have t_hp3 := hp3; have t_n7 := n7; have t_c8 := ltI c8; have t_c9 := nltI c9; have t_c15 := nltI c15; have t_hp23 := hp23; have t_n26 := n26; have t_c31 := eqI c31; have tqz_ := qz19_; have tnb_ := nib2 tn1422_ tn1421_; omega))] | rw [if_pos (by decide)] | rw [if_neg (by decide)] | rw [if_pos (by skip; assumption)] | rw [if_neg (by skip; assumption)]))); all_goals rfl))⟩, ⟨by rw [ht]; exact hP9, hD9⟩⟩, hS.F ht⟩) hS.2.2 dX5_nextToken_166
            · skip
              exact absurd c31 (by decide)
    · skip
      refine lv_iload_n hx hb dX5_nextToken_67 rfl (lv_at hl 0 rfl) ?_
      refine lv_bipush (v := 122) hx hb dX5_nextToken_68 rfl ?_
      refine lv_icmp_gt (tgt := 100) hx hb dX5_nextToken_70 rfl (fun c32 => ?_) (fun c32 => ?_)
      · skip
        refine lv_iload_n hx hb dX5_nextToken_100 rfl (lv_at hl 0 rfl) ?_
        refine lv_bipush (v := 48) hx hb dX5_nextToken_101 rfl ?_
        refine lv_icmp_lt (tgt := 167) hx hb dX5_nextToken_103 rfl (fun c33 => ?_) (fun c33 => ?_)
        · skip
          have t_hp3 := hp3
          have t_n7 := n7
          have t_c8 := nltI c8
          have t_c32 := ltI c32
          have t_c33 := ltI c33
          have : (48 : Int32).toInt = 48 := qI_48
          have : (97 : Int32).toInt = 97 := qI_97
          have : (122 : Int32).toInt = 122 := qI_122
          have t_n0 : (nI P).toInt = (P : Int) := tn1422_ ()
          have t_n1 : (nI T).toInt = (T : Int) := tn1421_ ()
          have t_n2 : (nI (pst f T 32 32 P)).toInt = (((pst f T 32 32 P) : Nat) : Int) := nI_toInt (by omega)
          exfalso; omega
        · skip
          refine lv_iload_n hx hb dX5_nextToken_106 rfl (lv_at hl 0 rfl) ?_
          refine lv_bipush (v := 57) hx hb dX5_nextToken_107 rfl ?_
          refine lv_icmp_gt (tgt := 167) hx hb dX5_nextToken_109 rfl (fun c34 => ?_) (fun c34 => ?_)
          · skip
            refine lv_iload_n hx hb dX5_nextToken_167 rfl (lv_at hl 0 rfl) ?_
            refine lv_bipush (v := 59) hx hb dX5_nextToken_168 rfl ?_
            refine lv_icmp_ne (tgt := 191) hx hb dX5_nextToken_170 rfl (fun c35 => ?_) (fun c35 => ?_)
            · skip
              refine lv_aload_n hx hb dX5_nextToken_191 rfl (lv_at hl 1 rfl) ?_
              refine lv_iconst (v := 1) hx hb dX5_nextToken_192 rfl ?_
              refine lv_aload_n hx hb dX5_nextToken_193 rfl (lv_at hl 1 rfl) ?_
              refine va_get (D := (dC, dI)) (ci := 5) (v := .int (nI (pst f T 32 32 P))) (C := RX5) (T := TX5) (N := 12) hx hb hg inG5 hown hK.1 hP 0 rfl rfl 6 (Nat.le_of_ble_eq_true rfl) (hg _ wt_116) (fun _ h9 => h9) rfl dX5_nextToken_194 ?_
              obtain ⟨hPc, hDc, hFc⟩ := va_sub3 (ws' := [(h0, .inr (5, [.ref tp, .ref td, .int x0, .int x1, .int x2, .int x3, .int (nI (pst f T 32 32 P)), .int (nI (pst f T 32 32 P)), .int x6, .int x7, .int x8, .int x9]))]) hP hD hS hA [0] (by decide +kernel) rfl
              refine va_calli (va_runV (As := [.int 1, .int (nI (pst f T 32 32 P))]) (rest := []) ⟨hx, hb, hml, hown, hg⟩ (c_X5_refuseE l dC dI G _ h0 tp td x0 x1 x2 x3 (nI (pst f T 32 32 P)) (nI (pst f T 32 32 P)) x6 x7 x8 x9 1 (nI (pst f T 32 32 P))) (kwV hg mfX5_refuse wt_386 ⟨Nat.le_of_ble_eq_true rfl, Nat.le_of_ble_eq_true rfl⟩) (preVW hK hPc hDc (ci := 5) (r := (RX5, TX5, 12)) rfl rfl) rfl rfl hl.1 rfl (lv_room (Nat.le_of_ble_eq_true rfl)) dX5_nextToken_197 ⟨Nat.le_of_ble_eq_true rfl, Nat.le_of_ble_eq_true rfl⟩) hS (fun q _ h => hFc q h) hFc (fun r36 ur36 t H1 locs ht hvm w37 hB hz1 hk1 hS => ?_)
              obtain ⟨u38, u39⟩ := ur36
              obtain ⟨hP1, hD1⟩ := hB
              rw [ht] at hP1
              obtain ⟨hP, hD⟩ := va_join (wr := [(tp, .inr (7, [.int (nI T), .ref ta])), (ta, .inl (G 0, 320, .inl f))]) (w1 := [(h0, .inr (5, [.ref tp, .ref td, .int u38, .int u39, .int x2, .int x3, .int (nI (pst f T 32 32 P)), .int (nI (pst f T 32 32 P)), .int x6, .int x7, .int x8, .int x9]))]) hP hD [0] [1, 2] rfl rfl (by decide +kernel) (by decide +kernel) hk1 hFc hP1 hD1
              generalize H1 = H at hP hS ⊢
              obtain ⟨w37, w37x⟩ := w37
              subst w37
              have hpost : (0 : Int32) = ntG f T (pst f T 32 32 P) := by
                have t_n2 : (nI (pst f T 32 32 P)).toInt = (((pst f T 32 32 P) : Nat) : Int) := nI_toInt (by (have t_hp3 := hp3; have t_n7 := n7; have t_c8 := nltI c8; have t_c32 := ltI c32; have t_c33 := nltI c33; have t_c34 := ltI c34; have t_c35 := neI c35; have tqz_ := qz20_; have tnb_ := nib2 tn1422_ tn1421_; omega))
                have z0 : (0 : Int32).toInt = 0 := qI_0
                have z1 : (1 : Int32).toInt = 1 := qI_1
                have z2 : (2 : Int32).toInt = 2 := qI_2
                have z3 : (3 : Int32).toInt = 3 := qI_3
                have z5 : (5 : Int32).toInt = 5 := qI_5
                have z9 : (9 : Int32).toInt = 9 := qI_9
                unfold ntG
                first | rw [if_pos (by (have t_hp3 := hp3; have t_n7 := n7; have t_c8 := nltI c8; have t_c32 := ltI c32; have t_c33 := nltI c33; have t_c34 := ltI c34; have t_c35 := neI c35; have tqz_ := qz20_; have tnb_ := nib2 tn1422_ tn1421_; omega))] | (have er : r4 = f (pst f T 32 32 P) := (by rw [w5, if_pos (by (have t_hp3 := hp3; have t_n7 := n7; have t_c8 := nltI c8; have t_c32 := ltI c32; have t_c33 := nltI c33; have t_c34 := ltI c34; have t_c35 := neI c35; have tqz_ := qz20_; have tnb_ := nib2 tn1422_ tn1421_; omega)), nI_clamp (by (have t_hp3 := hp3; have t_n7 := n7; have t_c8 := nltI c8; have t_c32 := ltI c32; have t_c33 := nltI c33; have t_c34 := ltI c34; have t_c35 := neI c35; have tqz_ := qz20_; have tnb_ := nib2 tn1422_ tn1421_; omega))]); rw [if_neg (by (have t_hp3 := hp3; have t_n7 := n7; have t_c8 := nltI c8; have t_c32 := ltI c32; have t_c33 := nltI c33; have t_c34 := ltI c34; have t_c35 := neI c35; have tqz_ := qz20_; have tnb_ := nib2 tn1422_ tn1421_; omega)), ← er]; (try (repeat (first | rw [if_pos (by with_reducible assumption)] | rw [if_neg (by with_reducible assumption)] | rw [if_pos (by first | exact c8 | exact c32 | exact c33 | exact c34 | exact c35)] | rw [if_neg (by first | exact c8 | exact c32 | exact c33 | exact c34 | exact c35)] | rw [if_pos (by (have t_hp3 := hp3; have t_n7 := n7; have t_c8 := nltI c8; have t_c32 := ltI c32; have t_c33 := nltI c33; have t_c34 := ltI c34; have t_c35 := neI c35; have tqz_ := qz20_; have tnb_ := nib2 tn1422_ tn1421_; omega))] | rw [if_neg (by (have t_hp3 := hp3; have t_n7 := n7; have t_c8 := nltI c8; have t_c32 := ltI c32; have t_c33 := nltI c33; have t_c34 := ltI c34; have t_c35 := neI c35; have tqz_ := qz20_; have tnb_ := nib2 tn1422_ tn1421_; omega))] | rw [if_pos (by decide)] | rw [if_neg (by decide)] | rw [if_pos (by skip; assumption)] | rw [if_neg (by skip; assumption)]))); all_goals rfl)
              obtain ⟨hP9, hD9⟩ := va_sub2 (ws' := [(h0, .inr (5, [.ref tp, .ref td, .int u38, .int u39, .int x2, .int x3, .int (nI (pst f T 32 32 P)), .int (nI (pst f T 32 32 P)), .int x6, .int x7, .int x8, .int x9])), (tp, .inr (7, [.int (nI T), .ref ta])), (ta, .inl (G 0, 320, .inl f))]) hP hD [2, 0, 1] (by decide +kernel) rfl
              refine W.widen (k := 0) (n := 0) (Nat.le_of_ble_eq_true rfl) (Nat.le_of_ble_eq_true rfl) ?_
              exact W.zret (v := 0) hx hb hr (by first | rfl | decide | exact rfl) (fun t ht hW => ⟨⟨0, (u38, u39, x3, (pst f T 32 32 P), (pst f T 32 32 P)), rfl, ⟨hpost, (by have t_n2 : (nI (pst f T 32 32 P)).toInt = (((pst f T 32 32 P) : Nat) : Int) := nI_toInt (by (have t_hp3 := hp3; have t_n7 := n7; have t_c8 := nltI c8; have t_c32 := ltI c32; have t_c33 := nltI c33; have t_c34 := ltI c34; have t_c35 := neI c35; have tqz_ := qz20_; have tnb_ := nib2 tn1422_ tn1421_; omega)); have tqz_ := qz41_; refine ⟨by (have t_hp3 := hp3; have t_n7 := n7; have t_c8 := nltI c8; have t_c32 := ltI c32; have t_c33 := nltI c33; have t_c34 := ltI c34; have t_c35 := neI c35; have tqz_ := qz20_; have tnb_ := nib2 tn1422_ tn1421_; omega), by (have t_hp3 := hp3; have t_n7 := n7; have t_c8 := nltI c8; have t_c32 := ltI c32; have t_c33 := nltI c33; have t_c34 := ltI c34; have t_c35 := neI c35; have tqz_ := qz20_; have tnb_ := nib2 tn1422_ tn1421_; omega), ?_⟩; unfold ntS1; rw [w37x.1, w37x.2]; first | (rw [if_pos (by (have t_hp3 := hp3; have t_n7 := n7; have t_c8 := nltI c8; have t_c32 := ltI c32; have t_c33 := nltI c33; have t_c34 := ltI c34; have t_c35 := neI c35; have tqz_ := qz20_; have tnb_ := nib2 tn1422_ tn1421_; omega))]; done) | (have er : r4 = f (pst f T 32 32 P) := (by rw [w5, if_pos (by (have t_hp3 := hp3; have t_n7 := n7; have t_c8 := nltI c8; have t_c32 := ltI c32; have t_c33 := nltI c33; have t_c34 := ltI c34; have t_c35 := neI c35; have tqz_ := qz20_; have tnb_ := nib2 tn1422_ tn1421_; omega)), nI_clamp (by (have t_hp3 := hp3; have t_n7 := n7; have t_c8 := nltI c8; have t_c32 := ltI c32; have t_c33 := nltI c33; have t_c34 := ltI c34; have t_c35 := neI c35; have tqz_ := qz20_; have tnb_ := nib2 tn1422_ tn1421_; omega))]); rw [if_neg (by (have t_hp3 := hp3; have t_n7 := n7; have t_c8 := nltI c8; have t_c32 := ltI c32; have t_c33 := nltI c33; have t_c34 := ltI c34; have t_c35 := neI c35; have tqz_ := qz20_; have tnb_ := nib2 tn1422_ tn1421_; omega)), ← er]; (try (repeat (first | rw [if_pos (by with_reducible assumption)] | rw [if_neg (by with_reducible assumption)] | rw [if_pos (by first | exact c8 | exact c32 | exact c33 | exact c34 | exact c35)] | rw [if_neg (by first | exact c8 | exact c32 | exact c33 | exact c34 | exact c35)] | rw [if_pos (by (have t_hp3 := hp3; have t_n7 := n7; have t_c8 := nltI c8; have t_c32 := ltI c32; have t_c33 := nltI c33; have t_c34 := ltI c34; have t_c35 := neI c35; have tqz_ := qz20_; have tnb_ := nib2 tn1422_ tn1421_; omega))] | rw [if_neg (by (have t_hp3 := hp3; have t_n7 := n7; have t_c8 := nltI c8; have t_c32 := ltI c32; have t_c33 := nltI c33; have t_c34 := ltI c34; have t_c35 := neI c35; have tqz_ := qz20_; have tnb_ := nib2 tn1422_ tn1421_; omega))] | rw [if_pos (by decide)] | rw [if_neg (by decide)] | rw [if_pos (by skip; assumption)] | rw [if_neg (by skip; assumption)]))); all_goals rfl))⟩, ⟨by rw [ht]; exact hP9, hD9⟩⟩, hS.F ht⟩) hS.2.2 dX5_nextToken_200
            · skip
              have t_hp3 := hp3
              have t_n7 := n7
              have t_c8 := nltI c8
              have t_c32 := ltI c32
              have t_c33 := nltI c33
              have t_c34 := ltI c34
              have t_c35 := eqI c35
              have : (48 : Int32).toInt = 48 := qI_48
              have : (57 : Int32).toInt = 57 := qI_57
              have : (59 : Int32).toInt = 59 := qI_59
              have : (97 : Int32).toInt = 97 := qI_97
              have : (122 : Int32).toInt = 122 := qI_122
              have t_n0 : (nI P).toInt = (P : Int) := tn1422_ ()
              have t_n1 : (nI T).toInt = (T : Int) := tn1421_ ()
              have t_n2 : (nI (pst f T 32 32 P)).toInt = (((pst f T 32 32 P) : Nat) : Int) := nI_toInt (by omega)
              exfalso; omega
          · skip
            have t_hp3 := hp3
            have t_n7 := n7
            have t_c8 := nltI c8
            have t_c32 := ltI c32
            have t_c33 := nltI c33
            have t_c34 := nltI c34
            have : (48 : Int32).toInt = 48 := qI_48
            have : (57 : Int32).toInt = 57 := qI_57
            have : (97 : Int32).toInt = 97 := qI_97
            have : (122 : Int32).toInt = 122 := qI_122
            have t_n0 : (nI P).toInt = (P : Int) := tn1422_ ()
            have t_n1 : (nI T).toInt = (T : Int) := tn1421_ ()
            have t_n2 : (nI (pst f T 32 32 P)).toInt = (((pst f T 32 32 P) : Nat) : Int) := nI_toInt (by omega)
            exfalso; omega
      · skip
        refine lv_aload_n hx hb dX5_nextToken_73 rfl (lv_at hl 1 rfl) ?_
        refine lv_iconst (v := 1) hx hb dX5_nextToken_74 rfl ?_
        refine va_put (D := (dC, dI)) (ci := 5) (v := .int 1) (ty := .int) (C := RX5) (T := TX5) (N := 12) hx hb hg inG5 tyX5 tyX5_ok nmX5 hown hK.1 hP hD hS 0 rfl rfl 5 (Nat.le_of_ble_eq_true rfl) (hg _ wt_115) (fun _ h9 => h9) rfl (by decide +kernel) rfl rfl (Nat.le_of_ble_eq_true rfl) dX5_nextToken_75 (fun H locs hP hD hS => ?_)
        refine lv_aload_n hx hb dX5_nextToken_78 rfl (lv_at hl 1 rfl) ?_
        refine lv_aload_n hx hb dX5_nextToken_79 rfl (lv_at hl 1 rfl) ?_
        refine va_get (D := (dC, dI)) (ci := 5) (v := .ref tp) (C := RX5) (T := TX5) (N := 12) hx hb hg inG5 hown hK.1 hP 0 rfl rfl 0 (Nat.le_of_ble_eq_true rfl) (hg _ wt_105) (fun _ h9 => h9) rfl dX5_nextToken_80 ?_
        refine lv_aload_n hx hb dX5_nextToken_83 rfl (lv_at hl 1 rfl) ?_
        refine va_get (D := (dC, dI)) (ci := 5) (v := .int (nI (pst f T 32 32 P))) (C := RX5) (T := TX5) (N := 12) hx hb hg inG5 hown hK.1 hP 0 rfl rfl 6 (Nat.le_of_ble_eq_true rfl) (hg _ wt_116) (fun _ h9 => h9) rfl dX5_nextToken_84 ?_
        refine lv_bipush (v := 97) hx hb dX5_nextToken_87 rfl ?_
        refine lv_bipush (v := 122) hx hb dX5_nextToken_89 rfl ?_
        have hPc := hP.sub (ws' := [(tp, .inr (7, [.int (nI T), .ref ta])), (ta, .inl (G 0, 320, .inl f))]) [1, 2] rfl
        refine va_calli (va_runVN (As := [.int (nI (pst f T 32 32 P)), .int 97, .int 122]) (rest := [.ref h0]) ⟨hx, hb, hml, hown, hg⟩ (c_X7_pastAllE l dC dI G _ tp ta T (pst f T 32 32 P) 97 122 f hT_ (by first | omega | (have t_hp3 := hp3; have t_n7 := n7; have t_c8 := nltI c8; have t_c32 := nltI c32; have tqz_ := qz21_; have tnb_ := nib2 tn1422_ tn1421_; have t_n2 : (nI (pst f T 32 32 P)).toInt = (((pst f T 32 32 P) : Nat) : Int) := nI_toInt (by omega); have tqz_ := qz21_; omega))) (kwVN hg hK mfX7_pastAll wn_378 ⟨Nat.le_of_ble_eq_true rfl, Nat.le_of_ble_eq_true rfl⟩) (preVR hK hPc (ci := 7) (r := (RX7, TX7, 2)) rfl rfl) rfl rfl hl.1 rfl (lv_room (Nat.le_of_ble_eq_true rfl)) dX5_nextToken_91 ⟨Nat.le_of_ble_eq_true rfl, Nat.le_of_ble_eq_true rfl⟩) hS (fun q h1 h2 => absurd h2 (Nat.not_le.mpr h1)) (fun q h => hA q (Nat.le_trans hS.1 h)) (fun r40 ur40 t H1 locs ht hvm w41 hB hz1 hk1 hS => ?_)
        have hP := keepR hP hk1
        obtain ⟨w41, w41x⟩ := w41
        try rw [show (97 : Int32).toInt = 97 from (by decide)] at w41
        try rw [show (122 : Int32).toInt = 122 from (by decide)] at w41
        have hp42 : (pst f T 32 32 P) ≤ (pst f T 97 122 (pst f T 32 32 P)) ∧ (pst f T 97 122 (pst f T 32 32 P)) ≤ T := (pst_b (by have t_hp3 := hp3; have t_n7 := n7; have t_c8 := nltI c8; have t_c32 := nltI c32; have tqz_ := qz21_; have tnb_ := nib2 tn1422_ tn1421_; have t_n2 : (nI (pst f T 32 32 P)).toInt = (((pst f T 32 32 P) : Nat) : Int) := nI_toInt (by omega); omega))
        subst w41
        refine va_put (D := (dC, dI)) (ci := 5) (v := .int (nI (pst f T 97 122 (pst f T 32 32 P)))) (ty := .int) (C := RX5) (T := TX5) (N := 12) hx hb hg inG5 tyX5 tyX5_ok nmX5 hown hK.1 hP hD hS 0 rfl rfl 7 (Nat.le_of_ble_eq_true rfl) (hg _ wt_117) (fun _ h9 => h9) rfl (by decide +kernel) rfl rfl (Nat.le_of_ble_eq_true rfl) dX5_nextToken_94 (fun H locs hP hD hS => ?_)
        refine lv_goto (tgt := 201) hx hb dX5_nextToken_97 rfl ?_
        refine lv_iconst (v := 1) hx hb dX5_nextToken_201 rfl ?_
        have hpost : (1 : Int32) = ntG f T (pst f T 32 32 P) := by
          have t_n2 : (nI (pst f T 32 32 P)).toInt = (((pst f T 32 32 P) : Nat) : Int) := nI_toInt (by (have t_hp3 := hp3; have t_n7 := n7; have t_c8 := nltI c8; have t_c32 := nltI c32; have t_hp42 := hp42; have tqz_ := qz21_; have tnb_ := nib2 tn1422_ tn1421_; omega))
          have t_n3 : (nI (pst f T 97 122 (pst f T 32 32 P))).toInt = (((pst f T 97 122 (pst f T 32 32 P)) : Nat) : Int) := nI_toInt (by (have t_hp3 := hp3; have t_n7 := n7; have t_c8 := nltI c8; have t_c32 := nltI c32; have t_hp42 := hp42; have tqz_ := qz21_; have tnb_ := nib2 tn1422_ tn1421_; omega))
          have z0 : (0 : Int32).toInt = 0 := qI_0
          have z1 : (1 : Int32).toInt = 1 := qI_1
          have z2 : (2 : Int32).toInt = 2 := qI_2
          have z3 : (3 : Int32).toInt = 3 := qI_3
          have z5 : (5 : Int32).toInt = 5 := qI_5
          have z9 : (9 : Int32).toInt = 9 := qI_9
          unfold ntG
          first | rw [if_pos (by (have t_hp3 := hp3; have t_n7 := n7; have t_c8 := nltI c8; have t_c32 := nltI c32; have t_hp42 := hp42; have tqz_ := qz21_; have tnb_ := nib2 tn1422_ tn1421_; omega))] | (have er : r4 = f (pst f T 32 32 P) := (by rw [w5, if_pos (by (have t_hp3 := hp3; have t_n7 := n7; have t_c8 := nltI c8; have t_c32 := nltI c32; have t_hp42 := hp42; have tqz_ := qz21_; have tnb_ := nib2 tn1422_ tn1421_; omega)), nI_clamp (by (have t_hp3 := hp3; have t_n7 := n7; have t_c8 := nltI c8; have t_c32 := nltI c32; have t_hp42 := hp42; have tqz_ := qz21_; have tnb_ := nib2 tn1422_ tn1421_; omega))]); rw [if_neg (by (have t_hp3 := hp3; have t_n7 := n7; have t_c8 := nltI c8; have t_c32 := nltI c32; have t_hp42 := hp42; have tqz_ := qz21_; have tnb_ := nib2 tn1422_ tn1421_; omega)), ← er]; (try (repeat (first | rw [if_pos (by with_reducible assumption)] | rw [if_neg (by with_reducible assumption)] | rw [if_pos (by first | exact c8 | exact c32)] | rw [if_neg (by first | exact c8 | exact c32)] | rw [if_pos (by (have t_hp3 := hp3; have t_n7 := n7; have t_c8 := nltI c8; have t_c32 := nltI c32; have t_hp42 := hp42; have tqz_ := qz21_; have tnb_ := nib2 tn1422_ tn1421_; omega))] | rw [if_neg (by (have t_hp3 := hp3; have t_n7 := n7; have t_c8 := nltI c8; have t_c32 := nltI c32; have t_hp42 := hp42; have tqz_ := qz21_; have tnb_ := nib2 tn1422_ tn1421_; omega))] | rw [if_pos (by decide)] | rw [if_neg (by decide)] | rw [if_pos (by skip; assumption)] | rw [if_neg (by skip; assumption)]))); all_goals rfl)
        obtain ⟨hP9, hD9⟩ := va_sub2 (ws' := [(h0, .inr (5, [.ref tp, .ref td, .int x0, .int x1, .int x2, .int 1, .int (nI (pst f T 32 32 P)), .int (nI (pst f T 97 122 (pst f T 32 32 P))), .int x6, .int x7, .int x8, .int x9])), (tp, .inr (7, [.int (nI T), .ref ta])), (ta, .inl (G 0, 320, .inl f))]) hP hD [0, 1, 2] (by decide +kernel) rfl
        refine W.widen (k := 0) (n := 0) (Nat.le_of_ble_eq_true rfl) (Nat.le_of_ble_eq_true rfl) ?_
        exact W.zret (v := 1) hx hb hr (by first | rfl | decide | exact rfl) (fun t ht hW => ⟨⟨1, (x0, x1, 1, (pst f T 32 32 P), (pst f T 97 122 (pst f T 32 32 P))), rfl, ⟨hpost, (by have t_n2 : (nI (pst f T 32 32 P)).toInt = (((pst f T 32 32 P) : Nat) : Int) := nI_toInt (by (have t_hp3 := hp3; have t_n7 := n7; have t_c8 := nltI c8; have t_c32 := nltI c32; have t_hp42 := hp42; have tqz_ := qz21_; have tnb_ := nib2 tn1422_ tn1421_; omega)); have t_n3 : (nI (pst f T 97 122 (pst f T 32 32 P))).toInt = (((pst f T 97 122 (pst f T 32 32 P)) : Nat) : Int) := nI_toInt (by (have t_hp3 := hp3; have t_n7 := n7; have t_c8 := nltI c8; have t_c32 := nltI c32; have t_hp42 := hp42; have tqz_ := qz21_; have tnb_ := nib2 tn1422_ tn1421_; omega)); have tqz_ := qz41_; refine ⟨by (have t_hp3 := hp3; have t_n7 := n7; have t_c8 := nltI c8; have t_c32 := nltI c32; have t_hp42 := hp42; have tqz_ := qz21_; have tnb_ := nib2 tn1422_ tn1421_; omega), by (have t_hp3 := hp3; have t_n7 := n7; have t_c8 := nltI c8; have t_c32 := nltI c32; have t_hp42 := hp42; have tqz_ := qz21_; have tnb_ := nib2 tn1422_ tn1421_; omega), ?_⟩; unfold ntS1; first | (rw [if_pos (by (have t_hp3 := hp3; have t_n7 := n7; have t_c8 := nltI c8; have t_c32 := nltI c32; have t_hp42 := hp42; have tqz_ := qz21_; have tnb_ := nib2 tn1422_ tn1421_; omega))]; done) | (have er : r4 = f (pst f T 32 32 P) := (by rw [w5, if_pos (by (have t_hp3 := hp3; have t_n7 := n7; have t_c8 := nltI c8; have t_c32 := nltI c32; have t_hp42 := hp42; have tqz_ := qz21_; have tnb_ := nib2 tn1422_ tn1421_; omega)), nI_clamp (by (have t_hp3 := hp3; have t_n7 := n7; have t_c8 := nltI c8; have t_c32 := nltI c32; have t_hp42 := hp42; have tqz_ := qz21_; have tnb_ := nib2 tn1422_ tn1421_; omega))]); rw [if_neg (by (have t_hp3 := hp3; have t_n7 := n7; have t_c8 := nltI c8; have t_c32 := nltI c32; have t_hp42 := hp42; have tqz_ := qz21_; have tnb_ := nib2 tn1422_ tn1421_; omega)), ← er]; (try (repeat (first | rw [if_pos (by with_reducible assumption)] | rw [if_neg (by with_reducible assumption)] | rw [if_pos (by first | exact c8 | exact c32)] | rw [if_neg (by first | exact c8 | exact c32)] | rw [if_pos (by (have t_hp3 := hp3; have t_n7 := n7; have t_c8 := nltI c8; have t_c32 := nltI c32; have t_hp42 := hp42; have tqz_ := qz21_; have tnb_ := nib2 tn1422_ tn1421_; omega))] | rw [if_neg (by (have t_hp3 := hp3; have t_n7 := n7; have t_c8 := nltI c8; have t_c32 := nltI c32; have t_hp42 := hp42; have tqz_ := qz21_; have tnb_ := nib2 tn1422_ tn1421_; omega))] | rw [if_pos (by decide)] | rw [if_neg (by decide)] | rw [if_pos (by skip; assumption)] | rw [if_neg (by skip; assumption)]))); all_goals rfl))⟩, ⟨by rw [ht]; exact hP9, hD9⟩⟩, hS.F ht⟩) hS.2.2 dX5_nextToken_202
  · skip
    have tn1426_ : nIT (pst f T 32 32 P) := fun _ => nI_toInt (by first | omega | (have t := nltI c6; omega))
    have n43 : T ≤ (pst f T 32 32 P) := by have t := nltI c6; rw [show (nI (pst f T 32 32 P)).toInt = ((pst f T 32 32 P : Nat) : Int) from tn1426_ ()] at t; rw [show (nI (T)).toInt = ((T : Nat) : Int) from tn1421_ ()] at t; omega
    refine lv_aload_n hx hb dX5_nextToken_53 rfl (lv_at hl 1 rfl) ?_
    refine lv_iconst (v := 0) hx hb dX5_nextToken_54 rfl ?_
    refine va_put (D := (dC, dI)) (ci := 5) (v := .int 0) (ty := .int) (C := RX5) (T := TX5) (N := 12) hx hb hg inG5 tyX5 tyX5_ok nmX5 hown hK.1 hP hD hS 0 rfl rfl 5 (Nat.le_of_ble_eq_true rfl) (hg _ wt_115) (fun _ h9 => h9) rfl (by decide +kernel) rfl rfl (Nat.le_of_ble_eq_true rfl) dX5_nextToken_55 (fun H locs hP hD hS => ?_)
    refine lv_goto (tgt := 201) hx hb dX5_nextToken_58 rfl ?_
    refine lv_iconst (v := 1) hx hb dX5_nextToken_201 rfl ?_
    have hpost : (1 : Int32) = ntG f T (pst f T 32 32 P) := by
      have t_n2 : (nI (pst f T 32 32 P)).toInt = (((pst f T 32 32 P) : Nat) : Int) := nI_toInt (by (have t_hp3 := hp3; have t_n43 := n43; have tnb_ := nib2 tn1422_ tn1421_; omega))
      have z0 : (0 : Int32).toInt = 0 := qI_0
      have z1 : (1 : Int32).toInt = 1 := qI_1
      have z2 : (2 : Int32).toInt = 2 := qI_2
      have z3 : (3 : Int32).toInt = 3 := qI_3
      have z5 : (5 : Int32).toInt = 5 := qI_5
      have z9 : (9 : Int32).toInt = 9 := qI_9
      unfold ntG
      first | rw [if_pos (by (have t_hp3 := hp3; have t_n43 := n43; have tnb_ := nib2 tn1422_ tn1421_; omega))] | (have er : r4 = f (pst f T 32 32 P) := (by rw [w5, if_pos (by (have t_hp3 := hp3; have t_n43 := n43; have tnb_ := nib2 tn1422_ tn1421_; omega)), nI_clamp (by (have t_hp3 := hp3; have t_n43 := n43; have tnb_ := nib2 tn1422_ tn1421_; omega))]); rw [if_neg (by (have t_hp3 := hp3; have t_n43 := n43; have tnb_ := nib2 tn1422_ tn1421_; omega)), ← er]; (try (repeat (first | rw [if_pos (by with_reducible assumption)] | rw [if_neg (by with_reducible assumption)] | rw [if_pos (by (have t_hp3 := hp3; have t_n43 := n43; have tnb_ := nib2 tn1422_ tn1421_; omega))] | rw [if_neg (by (have t_hp3 := hp3; have t_n43 := n43; have tnb_ := nib2 tn1422_ tn1421_; omega))] | rw [if_pos (by decide)] | rw [if_neg (by decide)] | rw [if_pos (by skip; assumption)] | rw [if_neg (by skip; assumption)]))); all_goals rfl)
    obtain ⟨hP9, hD9⟩ := va_sub2 (ws' := [(h0, .inr (5, [.ref tp, .ref td, .int x0, .int x1, .int x2, .int 0, .int (nI (pst f T 32 32 P)), .int (nI (pst f T 32 32 P)), .int x6, .int x7, .int x8, .int x9])), (tp, .inr (7, [.int (nI T), .ref ta])), (ta, .inl (G 0, 320, .inl f))]) hP hD [0, 1, 2] (by decide +kernel) rfl
    refine W.widen (k := 0) (n := 0) (Nat.le_of_ble_eq_true rfl) (Nat.le_of_ble_eq_true rfl) ?_
    exact W.zret (v := 1) hx hb hr (by first | rfl | decide | exact rfl) (fun t ht hW => ⟨⟨1, (x0, x1, 0, (pst f T 32 32 P), (pst f T 32 32 P)), rfl, ⟨hpost, (by have t_n2 : (nI (pst f T 32 32 P)).toInt = (((pst f T 32 32 P) : Nat) : Int) := nI_toInt (by (have t_hp3 := hp3; have t_n43 := n43; have tnb_ := nib2 tn1422_ tn1421_; omega)); have tqz_ := qz41_; refine ⟨by (have t_hp3 := hp3; have t_n43 := n43; have tnb_ := nib2 tn1422_ tn1421_; omega), by (have t_hp3 := hp3; have t_n43 := n43; have tnb_ := nib2 tn1422_ tn1421_; omega), ?_⟩; unfold ntS1; first | (rw [if_pos (by (have t_hp3 := hp3; have t_n43 := n43; have tnb_ := nib2 tn1422_ tn1421_; omega))]; done) | (have er : r4 = f (pst f T 32 32 P) := (by rw [w5, if_pos (by (have t_hp3 := hp3; have t_n43 := n43; have tnb_ := nib2 tn1422_ tn1421_; omega)), nI_clamp (by (have t_hp3 := hp3; have t_n43 := n43; have tnb_ := nib2 tn1422_ tn1421_; omega))]); rw [if_neg (by (have t_hp3 := hp3; have t_n43 := n43; have tnb_ := nib2 tn1422_ tn1421_; omega)), ← er]; (try (repeat (first | rw [if_pos (by with_reducible assumption)] | rw [if_neg (by with_reducible assumption)] | rw [if_pos (by (have t_hp3 := hp3; have t_n43 := n43; have tnb_ := nib2 tn1422_ tn1421_; omega))] | rw [if_neg (by (have t_hp3 := hp3; have t_n43 := n43; have tnb_ := nib2 tn1422_ tn1421_; omega))] | rw [if_pos (by decide)] | rw [if_neg (by decide)] | rw [if_pos (by skip; assumption)] | rw [if_neg (by skip; assumption)]))); all_goals rfl))⟩, ⟨by rw [ht]; exact hP9, hD9⟩⟩, hS.F ht⟩) hS.2.2 dX5_nextToken_202

set_option maxHeartbeats 1000000 in
set_option maxRecDepth 100000 in
theorem c_J1_charAtE (l : Launch) (dC : Nat → ClassId) (dI : Nat → Nat → Nat) (G : Nat → ClassId) (sz : Nat) (i k : Nat) (adK adV : Nat → Nat) (hi : i < 10) (hk0 : k < strLen.getD i 0) : Met l yJ1_charAt_3b067 (Cond.code yJ1_charAt_3b067 cJ1_charAt_3b067 2 (some .char) :: GT) ({ frames := 2, cells := 0, slots := 0, locals := 43 } : Room) (PcRS [.ref (adV i), .int (nI k)] dC dI G [] adK adV sz) (va_Qi (fun (r : Int32) (u : Unit) => match u with | _ => (r = (strByt.getD i []).getD k 0 &&& 255) ∧ True) (fun _ _ => True) (fun q : Nat => sz ≤ q)) 0 0 (fun q : Nat => sz ≤ q) := by
  refine va_MetF (cc := cJ1_charAt_3b067) (maxL := 2) (ret := (some .char)) (by decide +kernel) rfl ?_
  intro p e s m args below meth c s₁ Bd hml hv
  obtain ⟨rfl, hsz, hP, hK, hSS⟩ := hv
  have hx := Bd.exec
  have hb := Bd.bytes
  have hr := Bd.returns
  have hg : ∀ w ∈ GT, w.before ([.ref (adV i), .int (nI k)] : List Value).toArray s = true := fun w h => atoms_spec (ws := Cond.code yJ1_charAt_3b067 cJ1_charAt_3b067 2 (some .char) :: GT) Bd.pre w (List.mem_cons_of_mem _ h)
  have hown : s.vm.findClass RJ1 = some m.cls := findClass_of_methodNamed Bd.named
  have hlocks := Bd.notSynchronized
  subst hsz
  have hA : ∀ q : Nat, s.heap.size ≤ q → (fun q : Nat => s.heap.size ≤ q) q := fun _ h => h
  have hS : va_S (fun q : Nat => s.heap.size ≤ q) s.heap s.heap [] := va_S.rf
  have hl := lv_entry ([.ref (adV i), .int (nI k)]) (n := 2) (Nat.le_of_ble_eq_true rfl)
  rw [lg_entry_eq]
  generalize (lg_sl ([.ref (adV i), .int (nI k)]) ++ List.replicate (2 - (lg_sl ([.ref (adV i), .int (nI k)])).length) Slot.unset).toArray = ls at hl ⊢
  have hl : lv_has ls 2 [(0, .ref (adV i)), (1, .int (nI k))] := hl
  have hL := strLen_le i
  refine lv_iload_n hx hb dJ1_charAt_3b067_0 rfl (lv_at hl 1 rfl) ?_
  refine lv_aload_n hx hb dJ1_charAt_3b067_1 rfl (lv_at hl 0 rfl) ?_
  refine va_tlen (v := nI (strLen.getD i 0)) hx hb (hSS.1.1 i (by omega)).2.2.2 hS rfl dJ1_charAt_3b067_2 ?_
  have hPc := hP.sub (ws' := []) [] rfl
  have tn1427_ : nIT k := fun _ => nI_toInt (by omega)
  refine va_callv (va_runS (As := [.int (nI k), .int (nI (strLen.getD i 0))]) (rest := []) ⟨hx, hb, hml, hown, hg⟩ (c_J0_checkIndex_df160 l dC dI G _ k (strLen.getD i 0) adK adV hk0 (by first | omega | (have t_n0 : (nI k).toInt = (k : Int) := tn1427_ (); omega))) (kwS hg mfJ0_checkIndex_df160 wt_424 ⟨Nat.le_of_ble_eq_true rfl, Nat.le_of_ble_eq_true rfl⟩) (preSRS hK hPc hSS hS (fun q h => hA q (Nat.le_trans hS.1 h))) rfl rfl hl.1 rfl (lv_room (Nat.le_of_ble_eq_true rfl)) dJ1_charAt_3b067_3 ⟨Nat.le_of_ble_eq_true rfl, Nat.le_of_ble_eq_true rfl⟩) hS (fun q h1 h2 => absurd h2 (Nat.not_le.mpr h1)) (fun q h => hA q (Nat.le_trans hS.1 h)) (fun ur1 t H1 locs ht hvm w2 hB hz1 hk1 hS => ?_)
  have hP := keepR hP hk1
  refine lv_aload_n hx hb dJ1_charAt_3b067_6 rfl (lv_at hl 0 rfl) ?_
  refine lv_iload_n hx hb dJ1_charAt_3b067_7 rfl (lv_at hl 1 rfl) ?_
  refine va_tb hx hb (hSS.1.1 i (by omega)).2.2.2 hS (vp_in_nI (by omega) (by omega)) rfl dJ1_charAt_3b067_8 ?_
  refine lv_topi (fun v3 ev3 => ?_)
  refine lv_sipush (v := 255) hx hb dJ1_charAt_3b067_9 rfl ?_
  refine lv_iand hx hb dJ1_charAt_3b067_12 ?_
  refine lv_i2c (v := v3 &&& 255) hx hb dJ1_charAt_3b067_13 (sc_c2 _) ?_
  have hpost : (v3 &&& 255 : Int32) = (strByt.getD i []).getD k 0 &&& 255 := by
    rw [ev3, nI_clamp (by omega)]
  refine W.widen (k := 0) (n := 0) (Nat.le_of_ble_eq_true rfl) (Nat.le_of_ble_eq_true rfl) ?_
  exact W.zret (v := v3 &&& 255) hx hb hr (by first | rfl | decide | exact sc_nar _) (fun t ht hW => ⟨⟨v3 &&& 255, (), rfl, ⟨hpost, trivial⟩, trivial⟩, hS.F ht⟩) hS.2.2 dJ1_charAt_3b067_14

set_option maxHeartbeats 1000000 in
set_option maxRecDepth 100000 in
theorem c_J0_charAtE (l : Launch) (dC : Nat → ClassId) (dI : Nat → Nat → Nat) (G : Nat → ClassId) (sz : Nat) (i k : Nat) (adK adV : Nat → Nat) (hi : i < 10) (hk0 : k < strLen.getD i 0) : Met l yJ0_charAt_5068e (Cond.code yJ0_charAt_5068e cJ0_charAt_5068e 2 (some .char) :: GT) ({ frames := 3, cells := 0, slots := 0, locals := 64 } : Room) (PcRS [.ref (adK i), .int (nI k)] dC dI G [] adK adV sz) (va_Qi (fun (r : Int32) (u : Unit) => match u with | _ => (r = (strByt.getD i []).getD k 0 &&& 255) ∧ True) (fun _ _ => True) (fun q : Nat => sz ≤ q)) 0 0 (fun q : Nat => sz ≤ q) := by
  refine va_MetF (cc := cJ0_charAt_5068e) (maxL := 2) (ret := (some .char)) (by decide +kernel) rfl ?_
  intro p e s m args below meth c s₁ Bd hml hv
  obtain ⟨rfl, hsz, hP, hK, hSS⟩ := hv
  have hx := Bd.exec
  have hb := Bd.bytes
  have hr := Bd.returns
  have hg : ∀ w ∈ GT, w.before ([.ref (adK i), .int (nI k)] : List Value).toArray s = true := fun w h => atoms_spec (ws := Cond.code yJ0_charAt_5068e cJ0_charAt_5068e 2 (some .char) :: GT) Bd.pre w (List.mem_cons_of_mem _ h)
  have hown : s.vm.findClass RJ0 = some m.cls := findClass_of_methodNamed Bd.named
  have hlocks := Bd.notSynchronized
  subst hsz
  have hA : ∀ q : Nat, s.heap.size ≤ q → (fun q : Nat => s.heap.size ≤ q) q := fun _ h => h
  have hS : va_S (fun q : Nat => s.heap.size ≤ q) s.heap s.heap [] := va_S.rf
  have hl := lv_entry ([.ref (adK i), .int (nI k)]) (n := 2) (Nat.le_of_ble_eq_true rfl)
  rw [lg_entry_eq]
  generalize (lg_sl ([.ref (adK i), .int (nI k)]) ++ List.replicate (2 - (lg_sl ([.ref (adK i), .int (nI k)])).length) Slot.unset).toArray = ls at hl ⊢
  have hl : lv_has ls 2 [(0, .ref (adK i)), (1, .int (nI k))] := hl
  have hL := strLen_le i
  refine lv_aload_n hx hb dJ0_charAt_5068e_0 rfl (lv_at hl 0 rfl) ?_
  have hPc := hP.sub (ws' := []) [] rfl
  have tn1428_ : nIT k := fun _ => nI_toInt (by omega)
  refine va_calli (va_runV (As := []) (rest := []) ⟨hx, hb, hml, hown, hg⟩ (c_J0_isLatin1_aae02 l dC dI G _ i adK adV hi) (kwV hg mfJ0_isLatin1_aae02 wt_417 ⟨Nat.le_of_ble_eq_true rfl, Nat.le_of_ble_eq_true rfl⟩) (preVX hK hPc (i := i) (by omega) hSS hS (fun q h => hA q (Nat.le_trans hS.1 h))) rfl rfl hl.1 rfl (lv_room (Nat.le_of_ble_eq_true rfl)) dJ0_charAt_5068e_1 ⟨Nat.le_of_ble_eq_true rfl, Nat.le_of_ble_eq_true rfl⟩) hS (fun q h1 h2 => absurd h2 (Nat.not_le.mpr h1)) (fun q h => hA q (Nat.le_trans hS.1 h)) (fun r1 ur1 t H1 locs ht hvm w2 hB hz1 hk1 hS => ?_)
  have hP := keepR hP hk1
  obtain ⟨w2, w2x⟩ := w2
  subst w2
  refine lv_if_eq (tgt := 16) hx hb dJ0_charAt_5068e_4 rfl (fun c3 => ?_) (fun c3 => ?_)
  · skip
    exact absurd c3 (by decide)
  · skip
    refine lv_aload_n hx hb dJ0_charAt_5068e_7 rfl (lv_at hl 0 rfl) ?_
    refine va_getS hx hb (hSS.1.1 i (by omega)).2.2.1 hS hown (hg _ wt_1277) (fun _ h9 => h9) dJ0_charAt_5068e_8 ?_
    refine lv_iload_n hx hb dJ0_charAt_5068e_11 rfl (lv_at hl 1 rfl) ?_
    have hPc := hP.sub (ws' := []) [] rfl
    refine va_calli (va_runS (As := [.ref (adV i), .int (nI k)]) (rest := []) ⟨hx, hb, hml, hown, hg⟩ (c_J1_charAtE l dC dI G _ i k adK adV hi hk0) (kwS hg mfJ1_charAt_3b067 wt_421 ⟨Nat.le_of_ble_eq_true rfl, Nat.le_of_ble_eq_true rfl⟩) (preSRS hK hPc hSS hS (fun q h => hA q (Nat.le_trans hS.1 h))) rfl rfl hl.1 rfl (lv_room (Nat.le_of_ble_eq_true rfl)) dJ0_charAt_5068e_12 ⟨Nat.le_of_ble_eq_true rfl, Nat.le_of_ble_eq_true rfl⟩) hS (fun q h1 h2 => absurd h2 (Nat.not_le.mpr h1)) (fun q h => hA q (Nat.le_trans hS.1 h)) (fun r4 ur4 t H1 locs ht hvm w5 hB hz1 hk1 hS => ?_)
    have hP := keepR hP hk1
    obtain ⟨w5, w5x⟩ := w5
    subst w5
    have hpost : ((strByt.getD i []).getD k 0 &&& 255 : Int32) = (strByt.getD i []).getD k 0 &&& 255 := by
      rfl
    refine W.widen (k := 0) (n := 0) (Nat.le_of_ble_eq_true rfl) (Nat.le_of_ble_eq_true rfl) ?_
    exact W.zret (v := (strByt.getD i []).getD k 0 &&& 255) hx hb hr (by first | rfl | decide | exact sc_nar _) (fun t ht hW => ⟨⟨(strByt.getD i []).getD k 0 &&& 255, (), rfl, ⟨hpost, trivial⟩, trivial⟩, hS.F ht⟩) hS.2.2 dJ0_charAt_5068e_15

set_option maxHeartbeats 1000000 in
set_option maxRecDepth 100000 in
theorem c_X7_saysE (l : Launch) (dC : Nat → ClassId) (dI : Nat → Nat → Nat) (G : Nat → ClassId) (sz : Nat) (h0 ta T F P i : Nat) (f : Nat → Int32) (adK adV : Nat → Nat) (hT : T ≤ 320) (hF : F ≤ P) (hP0 : P ≤ T) (hi : i < 10) : Met l yX7_says (Cond.code yX7_says cX7_says 5 (some .boolean) :: GT) ({ frames := 4, cells := 0, slots := 0, locals := 85 } : Room) (PcRS [.ref h0, .int (nI F), .int (nI P), .ref (adK i)] dC dI G [(h0, .inr (7, [.int (nI T), .ref ta])), (ta, .inl (G 0, 320, .inl f))] adK adV sz) (va_Qi (fun (r : Int32) (u : Unit) => match u with | _ => (r = if sYs f F P i then 1 else 0) ∧ True) (fun _ _ => True) (fun q : Nat => sz ≤ q)) 0 0 (fun q : Nat => sz ≤ q) := by
  have tn1429_ : nIT T := fun _ => nI_toInt (by omega)
  refine Met.ofW (cc := cX7_says) (maxL := 5) (ret := (some .boolean)) (by decide) rfl ?_
  intro p e s m args below meth c s₁ Bd hml hv
  obtain ⟨rfl, hsz, hP, hK, hSS⟩ := hv
  have hx := Bd.exec
  have hb := Bd.bytes
  have hr := Bd.returns
  have hg : ∀ w ∈ GT, w.before ([.ref h0, .int (nI F), .int (nI P), .ref (adK i)] : List Value).toArray s = true := fun w h => atoms_spec (ws := Cond.code yX7_says cX7_says 5 (some .boolean) :: GT) Bd.pre w (List.mem_cons_of_mem _ h)
  have hown : s.vm.findClass RX7 = some m.cls := findClass_of_methodNamed Bd.named
  have hlocks := Bd.notSynchronized
  subst hsz
  have hA : ∀ q : Nat, s.heap.size ≤ q → (fun q : Nat => s.heap.size ≤ q) q := fun _ h => h
  have hS : va_S (fun q : Nat => s.heap.size ≤ q) s.heap s.heap [] := va_S.rf
  have hl := lv_entry ([.ref h0, .int (nI F), .int (nI P), .ref (adK i)]) (n := 5) (Nat.le_of_ble_eq_true rfl)
  rw [lg_entry_eq]
  generalize (lg_sl ([.ref h0, .int (nI F), .int (nI P), .ref (adK i)]) ++ List.replicate (5 - (lg_sl ([.ref h0, .int (nI F), .int (nI P), .ref (adK i)])).length) Slot.unset).toArray = ls at hl ⊢
  have hl : lv_has ls 5 [(0, .ref h0), (1, .int (nI F)), (2, .int (nI P)), (3, .ref (adK i))] := hl
  have hL := strLen_le i
  refine lv_iload_n hx hb dX7_says_0 rfl (lv_at hl 1 rfl) ?_
  refine lv_if_lt (tgt := 22) hx hb dX7_says_1 rfl (fun c1 => ?_) (fun c1 => ?_)
  · skip
    have t_c1 := ltI c1
    have : (0 : Int32).toInt = 0 := qI_0
    have tn1430_ : nIT F := fun _ => nI_toInt (by omega)
    have t_n0 : (nI F).toInt = (F : Int) := tn1430_ ()
    have tn1431_ : nIT P := fun _ => nI_toInt (by omega)
    have t_n1 : (nI P).toInt = (P : Int) := tn1431_ ()
    have t_n2 : (nI T).toInt = (T : Int) := tn1429_ ()
    exfalso; omega
  · skip
    have tn1432_ : nIT F := fun _ => nI_toInt (by first | omega | (have t := nltI c1; omega))
    have n2 : 0 ≤ F := by have t := nltI c1; rw [show (nI (F)).toInt = ((F : Nat) : Int) from tn1432_ ()] at t; have : (0 : Int32).toInt = 0 := qI_0; omega
    refine lv_iload_n hx hb dX7_says_4 rfl (lv_at hl 2 rfl) ?_
    refine lv_aload_n hx hb dX7_says_5 rfl (lv_at hl 0 rfl) ?_
    refine va_get (D := (dC, dI)) (ci := 7) (v := .int (nI T)) (C := RX7) (T := TX7) (N := 2) hx hb hg inG7 hown hK.1 hP 0 rfl rfl 0 (Nat.le_of_ble_eq_true rfl) (hg _ wt_40) (fun _ h9 => h9) rfl dX7_says_6 ?_
    refine lv_icmp_gt (tgt := 22) hx hb dX7_says_9 rfl (fun c3 => ?_) (fun c3 => ?_)
    · skip
      have t_n2 := n2
      have t_c3 := ltI c3
      have t_n0 : (nI F).toInt = (F : Int) := tn1432_ ()
      have tn1433_ : nIT P := fun _ => nI_toInt (by omega)
      have t_n1 : (nI P).toInt = (P : Int) := tn1433_ ()
      have t_n2 : (nI T).toInt = (T : Int) := tn1429_ ()
      exfalso; omega
    · skip
      have tn1434_ : nIT P := fun _ => nI_toInt (by first | omega | (have t := nltI c3; omega))
      have n4 : P ≤ T := by have t := nltI c3; rw [show (nI (P)).toInt = ((P : Nat) : Int) from tn1434_ ()] at t; rw [show (nI (T)).toInt = ((T : Nat) : Int) from tn1429_ ()] at t; omega
      refine lv_iload_n hx hb dX7_says_12 rfl (lv_at hl 2 rfl) ?_
      refine lv_iload_n hx hb dX7_says_13 rfl (lv_at hl 1 rfl) ?_
      refine lv_isub hx hb dX7_says_14 ?_
      refine lv_cg (y := nI (P - F)) (by exact pk_sub (by have t_n2 := n2; have t_n4 := n4; have tnb_ := nib3 tn1432_ tn1434_ tn1429_; omega)) ?_
      refine lv_aload_n hx hb dX7_says_15 rfl (lv_at hl 3 rfl) ?_
      have hPc := hP.sub (ws' := []) [] rfl
      refine va_calli (va_runV (As := []) (rest := [.int (nI (P - F))]) ⟨hx, hb, hml, hown, hg⟩ (c_J0_length_8abf5 l dC dI G _ i adK adV hi) (kwV hg mfJ0_length_8abf5 wt_403 ⟨Nat.le_of_ble_eq_true rfl, Nat.le_of_ble_eq_true rfl⟩) (preVX hK hPc (i := i) (by omega) hSS hS (fun q h => hA q (Nat.le_trans hS.1 h))) rfl rfl hl.1 rfl (lv_room (Nat.le_of_ble_eq_true rfl)) dX7_says_16 ⟨Nat.le_of_ble_eq_true rfl, Nat.le_of_ble_eq_true rfl⟩) hS (fun q h1 h2 => absurd h2 (Nat.not_le.mpr h1)) (fun q h => hA q (Nat.le_trans hS.1 h)) (fun r5 ur5 t H1 locs ht hvm w6 hB hz1 hk1 hS => ?_)
      have hP := keepR hP hk1
      obtain ⟨w6, w6x⟩ := w6
      subst w6
      refine lv_icmp_eq (tgt := 24) hx hb dX7_says_19 rfl (fun c7 => ?_) (fun c7 => ?_)
      · skip
        have tn1435_ : nIT (P - F) := fun _ => nI_toInt (by first | omega | (have t := eqI c7; omega))
        have tn1436_ : nIT (strLen.getD i 0) := fun _ => nI_toInt (by omega)
        have n8 : (P - F) = (strLen.getD i 0) := by have t := eqI c7; rw [show (nI (P - F)).toInt = ((P - F : Nat) : Int) from tn1435_ ()] at t; rw [show (nI (strLen.getD i 0)).toInt = ((strLen.getD i 0 : Nat) : Int) from tn1436_ ()] at t; omega
        refine lv_iconst (v := 0) hx hb dX7_says_24 rfl ?_
        refine lv_istore (lv' := [(4, .int 0), (0, .ref h0), (1, .int (nI F)), (2, .int (nI P)), (3, .ref (adK i))]) hx hb dX7_says_25 hl (by decide) rfl (fun ls hl => ?_)
        have loop27_10 : ∀ (nf j9 : Nat), (strLen.getD i 0) + 1 ≤ j9 + nf → j9 ≤ (strLen.getD i 0) → ∀ (H : Heap) (locs : List Loc), (∀ q9 : Nat, q9 < j9 → f (F + q9) = (strByt.getD i []).getD q9 0 &&& 255) → va_P (dC, dI) vwCl [(h0, .inr (7, [.int (nI T), .ref ta])), (ta, .inl (G 0, 320, .inl f))] H → va_S (fun q : Nat => s.heap.size ≤ q) s.heap H locs → ∀ (ls : Array Slot), lv_has ls 5 [(4, .int (nI j9)), (0, .ref h0), (1, .int (nI F)), (2, .int (nI P)), (3, .ref (adK i))] → W p l e (headSpec (Cond.code yX7_says cX7_says 5 (some .boolean) :: GT) ({ frames := 4, cells := 0, slots := 0, locals := 85 } : Room)).room s m ([.ref h0, .int (nI F), .int (nI P), .ref (adK i)] : List Value).toArray below meth c H locs 0 0 (MQ below (va_Qi (fun (r : Int32) (u : Unit) => match u with | _ => (r = if sYs f F P i then 1 else 0) ∧ True) (fun _ _ => True) (fun q : Nat => s.heap.size ≤ q)) ([.ref h0, .int (nI F), .int (nI P), .ref (adK i)] : List Value).toArray s 0 0 (fun q : Nat => s.heap.size ≤ q)) (F0 m 27 ls []) := by
          intro nf
          induction nf with
          | zero => intro j9 h1 h2; exact absurd h1 (by omega)
          | succ nf ih27_10 =>
            intro j9 hn11 hj12  H locs hinv hP hS ls hl
            refine lv_iload hx hb dX7_says_27 (lv_at hl 0 rfl) ?_
            refine lv_aload_n hx hb dX7_says_29 rfl (lv_at hl 4 rfl) ?_
            have hPc := hP.sub (ws' := []) [] rfl
            have tn1437_ : nIT j9 := fun _ => nI_toInt (by first | omega | (have t_n2 := n2; have t_n4 := n4; have t_n8 := n8; have t_hj12 := hj12; omega))
            refine va_calli (va_runV (As := []) (rest := [.int (nI j9)]) ⟨hx, hb, hml, hown, hg⟩ (c_J0_length_8abf5 l dC dI G _ i adK adV hi) (kwV hg mfJ0_length_8abf5 wt_403 ⟨Nat.le_of_ble_eq_true rfl, Nat.le_of_ble_eq_true rfl⟩) (preVX hK hPc (i := i) (by omega) hSS hS (fun q h => hA q (Nat.le_trans hS.1 h))) rfl rfl hl.1 rfl (lv_room (Nat.le_of_ble_eq_true rfl)) dX7_says_30 ⟨Nat.le_of_ble_eq_true rfl, Nat.le_of_ble_eq_true rfl⟩) hS (fun q h1 h2 => absurd h2 (Nat.not_le.mpr h1)) (fun q h => hA q (Nat.le_trans hS.1 h)) (fun r13 ur13 t H1 locs ht hvm w14 hB hz1 hk1 hS => ?_)
            have hP := keepR hP hk1
            obtain ⟨w14, w14x⟩ := w14
            subst w14
            refine lv_icmp_ge (tgt := 62) hx hb dX7_says_33 rfl (fun c15 => ?_) (fun c15 => ?_)
            · skip
              have n16 : (strLen.getD i 0) ≤ j9 := by have t := leI c15; rw [show (nI (j9)).toInt = ((j9 : Nat) : Int) from tn1437_ ()] at t; rw [show (nI (strLen.getD i 0)).toInt = ((strLen.getD i 0 : Nat) : Int) from tn1436_ ()] at t; omega
              refine lv_iconst (v := 1) hx hb dX7_says_62 rfl ?_
              have hpost : (1 : Int32) = if sYs f F P i then 1 else 0 := by
                have t_n2 := n2
                have t_n4 := n4
                have t_n8 := n8
                have t_hj12 := hj12
                have t_n16 := n16
                have t_n0 : (nI F).toInt = (F : Int) := tn1432_ ()
                have t_n1 : (nI P).toInt = (P : Int) := tn1434_ ()
                have t_n2 : (nI T).toInt = (T : Int) := tn1429_ ()
                have t_n3 : (nI j9).toInt = (j9 : Int) := tn1437_ ()
                rw [if_pos ⟨by omega, fun q9 h9 => hinv q9 (by omega)⟩]
              refine W.widen (k := 0) (n := 0) (Nat.le_of_ble_eq_true rfl) (Nat.le_of_ble_eq_true rfl) ?_
              exact W.zret (v := 1) hx hb hr (by first | rfl | decide | exact zn01 (by split <;> simp)) (fun t ht hW => ⟨⟨1, (), rfl, ⟨hpost, trivial⟩, trivial⟩, hS.F ht⟩) hS.2.2 dX7_says_63
            · skip
              have n17 : j9 < (strLen.getD i 0) := by have t := nleI c15; rw [show (nI (j9)).toInt = ((j9 : Nat) : Int) from tn1437_ ()] at t; rw [show (nI (strLen.getD i 0)).toInt = ((strLen.getD i 0 : Nat) : Int) from tn1436_ ()] at t; omega
              refine lv_aload_n hx hb dX7_says_36 rfl (lv_at hl 1 rfl) ?_
              refine va_get (D := (dC, dI)) (ci := 7) (v := .ref ta) (C := RX7) (T := TX7) (N := 2) hx hb hg inG7 hown hK.1 hP 0 rfl rfl 1 (Nat.le_of_ble_eq_true rfl) (hg _ wt_43) (fun _ h9 => h9) rfl dX7_says_37 ?_
              refine lv_iload_n hx hb dX7_says_40 rfl (lv_at hl 2 rfl) ?_
              refine lv_iload hx hb dX7_says_41 (lv_at hl 0 rfl) ?_
              refine lv_iadd hx hb dX7_says_43 ?_
              refine lv_cg (y := nI (F + j9)) (by exact nI_add _ _) ?_
              refine va_iald hx hb hK.1 hP 1 0 rfl rfl (vp_in_nI (by first | omega | (have t_n2 := n2; have t_n4 := n4; have t_n8 := n8; have t_hj12 := hj12; have t_n17 := n17; have tnb_ := nib4 tn1432_ tn1434_ tn1429_ tn1437_; omega)) (by decide)) dX7_says_44 ?_
              refine lv_cg (y := f (F + j9)) (by rw [nI_clamp (by omega)]) ?_
              refine lv_aload_n hx hb dX7_says_45 rfl (lv_at hl 4 rfl) ?_
              refine lv_iload hx hb dX7_says_46 (lv_at hl 0 rfl) ?_
              have hPc := hP.sub (ws' := []) [] rfl
              refine va_calli (va_runV (As := [.int (nI j9)]) (rest := [.int (f (F + j9))]) ⟨hx, hb, hml, hown, hg⟩ (c_J0_charAtE l dC dI G _ i j9 adK adV hi (by first | omega | (have t_n2 := n2; have t_n4 := n4; have t_n8 := n8; have t_hj12 := hj12; have t_n17 := n17; have tnb_ := nib4 tn1432_ tn1434_ tn1429_ tn1437_; omega))) (kwV hg mfJ0_charAt_5068e wt_413 ⟨Nat.le_of_ble_eq_true rfl, Nat.le_of_ble_eq_true rfl⟩) (preVX hK hPc (i := i) (by omega) hSS hS (fun q h => hA q (Nat.le_trans hS.1 h))) rfl rfl hl.1 rfl (lv_room (Nat.le_of_ble_eq_true rfl)) dX7_says_48 ⟨Nat.le_of_ble_eq_true rfl, Nat.le_of_ble_eq_true rfl⟩) hS (fun q h1 h2 => absurd h2 (Nat.not_le.mpr h1)) (fun q h => hA q (Nat.le_trans hS.1 h)) (fun r18 ur18 t H1 locs ht hvm w19 hB hz1 hk1 hS => ?_)
              have hP := keepR hP hk1
              obtain ⟨w19, w19x⟩ := w19
              subst w19
              refine lv_icmp_eq (tgt := 56) hx hb dX7_says_51 rfl (fun c20 => ?_) (fun c20 => ?_)
              · skip
                refine lv_iinc (v := nI (j9 + 1)) (lv' := [(4, .int (nI (j9 + 1))), (0, .ref h0), (1, .int (nI F)), (2, .int (nI P)), (3, .ref (adK i))]) hx hb dX7_says_56 hl (k := 0) rfl (by rw [show Int32.ofInt 1 = nI 1 from by decide]; exact nI_add _ _) (by decide) rfl (fun ls hl => ?_)
                refine lv_goto (tgt := 27) hx hb dX7_says_59 rfl ?_
                exact ih27_10 (j9 + 1) (by omega) (by omega)  _ _ (fun q9 h9 => by by_cases e9 : q9 = j9; (subst e9; assumption); exact hinv q9 (by omega)) hP hS ls (lv_sub hl [0, 1, 2, 3, 4] rfl)
              · skip
                refine lv_iconst (v := 0) hx hb dX7_says_54 rfl ?_
                have hpost : (0 : Int32) = if sYs f F P i then 1 else 0 := by
                  first | rw [if_neg (fun h9 => absurd h9.1 (by (have t_n2 := n2; have t_n4 := n4; have t_n8 := n8; have t_hj12 := hj12; have t_n17 := n17; have t_c20 := neI c20; have tnb_ := nib4 tn1432_ tn1434_ tn1429_ tn1437_; omega)))] | rw [if_neg (fun h9 => absurd (h9.2 j9 (by (have t_n2 := n2; have t_n4 := n4; have t_n8 := n8; have t_hj12 := hj12; have t_n17 := n17; have t_c20 := neI c20; have tnb_ := nib4 tn1432_ tn1434_ tn1429_ tn1437_; omega))) (by first | with_reducible assumption | assumption))]
                refine W.widen (k := 0) (n := 0) (Nat.le_of_ble_eq_true rfl) (Nat.le_of_ble_eq_true rfl) ?_
                exact W.zret (v := 0) hx hb hr (by first | rfl | decide | exact zn01 (by split <;> simp)) (fun t ht hW => ⟨⟨0, (), rfl, ⟨hpost, trivial⟩, trivial⟩, hS.F ht⟩) hS.2.2 dX7_says_55
        exact loop27_10 ((strLen.getD i 0) + 1) 0 (by omega) (by omega)  _ _ (fun q9 h9 => absurd h9 (Nat.not_lt_zero _)) hP hS ls (lv_sub hl [0, 1, 2, 3, 4] rfl)
      · skip
        have tn1438_ : nIT (P - F) := fun _ => nI_toInt (by first | omega | (have t := neI c7; omega))
        have tn1439_ : nIT (strLen.getD i 0) := fun _ => nI_toInt (by omega)
        have n21 : (P - F) ≠ (strLen.getD i 0) := by have t := neI c7; rw [show (nI (P - F)).toInt = ((P - F : Nat) : Int) from tn1438_ ()] at t; rw [show (nI (strLen.getD i 0)).toInt = ((strLen.getD i 0 : Nat) : Int) from tn1439_ ()] at t; omega
        refine lv_iconst (v := 0) hx hb dX7_says_22 rfl ?_
        have hpost : (0 : Int32) = if sYs f F P i then 1 else 0 := by
          have t_n2 := n2
          have t_n4 := n4
          have t_n21 := n21
          have t_n0 : (nI F).toInt = (F : Int) := tn1432_ ()
          have t_n1 : (nI P).toInt = (P : Int) := tn1434_ ()
          have t_n2 : (nI T).toInt = (T : Int) := tn1429_ ()
          rw [if_neg (fun h9 => absurd h9.1 (by omega))]
        refine W.widen (k := 0) (n := 0) (Nat.le_of_ble_eq_true rfl) (Nat.le_of_ble_eq_true rfl) ?_
        exact W.zret (v := 0) hx hb hr (by first | rfl | decide | exact zn01 (by split <;> simp)) (fun t ht hW => ⟨⟨0, (), rfl, ⟨hpost, trivial⟩, trivial⟩, hS.F ht⟩) hS.2.2 dX7_says_23

set_option maxHeartbeats 1000000 in
set_option maxRecDepth 100000 in
theorem c_X5_isNameE (l : Launch) (dC : Nat → ClassId) (dI : Nat → Nat → Nat) (G : Nat → ClassId) (sz : Nat) (h0 tp td ta T F P i : Nat) (x0 x1 x2 x3 x6 x7 x8 x9 : Int32) (f : Nat → Int32) (adK adV : Nat → Nat) (hT : T ≤ 320) (hF : F ≤ P) (hP0 : P ≤ T) (hi : i < 10) : Met l yX5_isName (Cond.code yX5_isName cX5_isName 2 (some .boolean) :: GT) ({ frames := 5, cells := 0, slots := 0, locals := 109 } : Room) (PcRS [.ref h0, .ref (adK i)] dC dI G [(h0, .inr (5, [.ref tp, .ref td, .int x0, .int x1, .int x2, .int x3, .int (nI F), .int (nI P), .int x6, .int x7, .int x8, .int x9])), (tp, .inr (7, [.int (nI T), .ref ta])), (ta, .inl (G 0, 320, .inl f))] adK adV sz) (va_Qi (fun (r : Int32) (u : Unit) => match u with | _ => (r = isN f F P x3 i) ∧ True) (fun _ _ => True) (fun q : Nat => sz ≤ q)) 0 0 (fun q : Nat => sz ≤ q) := by
  have hT_ := hT
  have tn1440_ : nIT T := fun _ => nI_toInt (by omega)
  refine Met.ofW (cc := cX5_isName) (maxL := 2) (ret := (some .boolean)) (by decide) rfl ?_
  intro p e s m args below meth c s₁ Bd hml hv
  obtain ⟨rfl, hsz, hP, hK, hSS⟩ := hv
  have hx := Bd.exec
  have hb := Bd.bytes
  have hr := Bd.returns
  have hg : ∀ w ∈ GT, w.before ([.ref h0, .ref (adK i)] : List Value).toArray s = true := fun w h => atoms_spec (ws := Cond.code yX5_isName cX5_isName 2 (some .boolean) :: GT) Bd.pre w (List.mem_cons_of_mem _ h)
  have hown : s.vm.findClass RX5 = some m.cls := findClass_of_methodNamed Bd.named
  have hlocks := Bd.notSynchronized
  subst hsz
  have hA : ∀ q : Nat, s.heap.size ≤ q → (fun q : Nat => s.heap.size ≤ q) q := fun _ h => h
  have hS : va_S (fun q : Nat => s.heap.size ≤ q) s.heap s.heap [] := va_S.rf
  have hl := lv_entry ([.ref h0, .ref (adK i)]) (n := 2) (Nat.le_of_ble_eq_true rfl)
  rw [lg_entry_eq]
  generalize (lg_sl ([.ref h0, .ref (adK i)]) ++ List.replicate (2 - (lg_sl ([.ref h0, .ref (adK i)])).length) Slot.unset).toArray = ls at hl ⊢
  have hl : lv_has ls 2 [(0, .ref h0), (1, .ref (adK i))] := hl
  refine lv_aload_n hx hb dX5_isName_0 rfl (lv_at hl 0 rfl) ?_
  refine va_get (D := (dC, dI)) (ci := 5) (v := .int x3) (C := RX5) (T := TX5) (N := 12) hx hb hg inG5 hown hK.1 hP 0 rfl rfl 5 (Nat.le_of_ble_eq_true rfl) (hg _ wt_115) (fun _ h9 => h9) rfl dX5_isName_1 ?_
  refine lv_iconst (v := 1) hx hb dX5_isName_4 rfl ?_
  refine lv_icmp_ne (tgt := 31) hx hb dX5_isName_5 rfl (fun c1 => ?_) (fun c1 => ?_)
  · skip
    refine lv_iconst (v := 0) hx hb dX5_isName_31 rfl ?_
    have hpost : (0 : Int32) = isN f F P x3 i := by
      have tn1441_ : nIT F := fun _ => nI_toInt (by omega)
      have tn1442_ : nIT P := fun _ => nI_toInt (by omega)
      unfold isN
      first | rw [if_neg (by first | with_reducible assumption | assumption)] | (rw [if_pos (by first | with_reducible assumption | assumption)]; first | (rw [if_pos (by first | with_reducible assumption | assumption)]) | (rw [if_neg (by first | with_reducible assumption | assumption)]) | (split <;> first | rfl | (simp_all; done)))
    refine W.widen (k := 0) (n := 0) (Nat.le_of_ble_eq_true rfl) (Nat.le_of_ble_eq_true rfl) ?_
    exact W.zret (v := 0) hx hb hr (by first | rfl | decide | exact zn01 (by rw [hpost]; unfold isN; split <;> (try split) <;> simp)) (fun t ht hW => ⟨⟨0, (), rfl, ⟨hpost, trivial⟩, trivial⟩, hS.F ht⟩) hS.2.2 dX5_isName_32
  · skip
    refine lv_aload_n hx hb dX5_isName_8 rfl (lv_at hl 0 rfl) ?_
    refine va_get (D := (dC, dI)) (ci := 5) (v := .ref tp) (C := RX5) (T := TX5) (N := 12) hx hb hg inG5 hown hK.1 hP 0 rfl rfl 0 (Nat.le_of_ble_eq_true rfl) (hg _ wt_105) (fun _ h9 => h9) rfl dX5_isName_9 ?_
    refine lv_aload_n hx hb dX5_isName_12 rfl (lv_at hl 0 rfl) ?_
    refine va_get (D := (dC, dI)) (ci := 5) (v := .int (nI F)) (C := RX5) (T := TX5) (N := 12) hx hb hg inG5 hown hK.1 hP 0 rfl rfl 6 (Nat.le_of_ble_eq_true rfl) (hg _ wt_116) (fun _ h9 => h9) rfl dX5_isName_13 ?_
    refine lv_aload_n hx hb dX5_isName_16 rfl (lv_at hl 0 rfl) ?_
    refine va_get (D := (dC, dI)) (ci := 5) (v := .int (nI P)) (C := RX5) (T := TX5) (N := 12) hx hb hg inG5 hown hK.1 hP 0 rfl rfl 7 (Nat.le_of_ble_eq_true rfl) (hg _ wt_117) (fun _ h9 => h9) rfl dX5_isName_17 ?_
    refine lv_aload_n hx hb dX5_isName_20 rfl (lv_at hl 1 rfl) ?_
    have hPc := hP.sub (ws' := [(tp, .inr (7, [.int (nI T), .ref ta])), (ta, .inl (G 0, 320, .inl f))]) [1, 2] rfl
    have tn1443_ : nIT F := fun _ => nI_toInt (by first | omega | (have t_c1 := eqI c1; have : (1 : Int32).toInt = 1 := qI_1; omega))
    have tn1444_ : nIT P := fun _ => nI_toInt (by first | omega | (have t_c1 := eqI c1; have : (1 : Int32).toInt = 1 := qI_1; omega))
    refine va_calli (va_runVN (As := [.int (nI F), .int (nI P), .ref (adK i)]) (rest := []) ⟨hx, hb, hml, hown, hg⟩ (c_X7_saysE l dC dI G _ tp ta T F P i f adK adV hT_ hF hP0 hi) (kwVN hg hK mfX7_says wn_399 ⟨Nat.le_of_ble_eq_true rfl, Nat.le_of_ble_eq_true rfl⟩) (preVRS hK hPc hSS hS (fun q h => hA q (Nat.le_trans hS.1 h)) (ci := 7) (r := (RX7, TX7, 2)) rfl rfl) rfl rfl hl.1 rfl (lv_room (Nat.le_of_ble_eq_true rfl)) dX5_isName_21 ⟨Nat.le_of_ble_eq_true rfl, Nat.le_of_ble_eq_true rfl⟩) hS (fun q h1 h2 => absurd h2 (Nat.not_le.mpr h1)) (fun q h => hA q (Nat.le_trans hS.1 h)) (fun r2 ur2 t H1 locs ht hvm w3 hB hz1 hk1 hS => ?_)
    have hP := keepR hP hk1
    obtain ⟨w3, w3x⟩ := w3
    subst w3
    refine lv_if_eq (tgt := 31) hx hb dX5_isName_24 rfl (fun c4 => ?_) (fun c4 => ?_)
    · skip
      refine lv_iconst (v := 0) hx hb dX5_isName_31 rfl ?_
      have hpost : (0 : Int32) = isN f F P x3 i := by
        unfold isN
        first | rw [if_neg (by first | with_reducible assumption | assumption)] | (rw [if_pos (by first | with_reducible assumption | assumption)]; first | (rw [if_pos (by first | with_reducible assumption | assumption)]) | (rw [if_neg (by first | with_reducible assumption | assumption)]) | (split <;> first | rfl | (simp_all; done)))
      refine W.widen (k := 0) (n := 0) (Nat.le_of_ble_eq_true rfl) (Nat.le_of_ble_eq_true rfl) ?_
      exact W.zret (v := 0) hx hb hr (by first | rfl | decide | exact zn01 (by rw [hpost]; unfold isN; split <;> (try split) <;> simp)) (fun t ht hW => ⟨⟨0, (), rfl, ⟨hpost, trivial⟩, trivial⟩, hS.F ht⟩) hS.2.2 dX5_isName_32
    · skip
      refine lv_iconst (v := 1) hx hb dX5_isName_27 rfl ?_
      refine lv_goto (tgt := 32) hx hb dX5_isName_28 rfl ?_
      have hpost : (1 : Int32) = isN f F P x3 i := by
        unfold isN
        first | rw [if_neg (by first | with_reducible assumption | assumption)] | (rw [if_pos (by first | with_reducible assumption | assumption)]; first | (rw [if_pos (by first | with_reducible assumption | assumption)]) | (rw [if_neg (by first | with_reducible assumption | assumption)]) | (split <;> first | rfl | (simp_all; done)))
      refine W.widen (k := 0) (n := 0) (Nat.le_of_ble_eq_true rfl) (Nat.le_of_ble_eq_true rfl) ?_
      exact W.zret (v := 1) hx hb hr (by first | rfl | decide | exact zn01 (by rw [hpost]; unfold isN; split <;> (try split) <;> simp)) (fun t ht hW => ⟨⟨1, (), rfl, ⟨hpost, trivial⟩, trivial⟩, hS.F ht⟩) hS.2.2 dX5_isName_32

set_option maxHeartbeats 1000000 in
set_option maxRecDepth 100000 in
theorem c_X5_kindE (l : Launch) (dC : Nat → ClassId) (dI : Nat → Nat → Nat) (G : Nat → ClassId) (sz : Nat) (h0 tp td ta T F P : Nat) (x0 x1 x2 x3 x6 x7 x8 x9 : Int32) (f : Nat → Int32) (adK adV : Nat → Nat) (hT : T ≤ 320) (hF : F ≤ P) (hP0 : P ≤ T) : Met l yX5_kind (Cond.code yX5_kind cX5_kind 1 (some .int) :: GT) ({ frames := 6, cells := 0, slots := 0, locals := 130 } : Room) (PcRS [.ref h0] dC dI G [(h0, .inr (5, [.ref tp, .ref td, .int x0, .int x1, .int x2, .int x3, .int (nI F), .int (nI P), .int x6, .int x7, .int x8, .int x9])), (tp, .inr (7, [.int (nI T), .ref ta])), (ta, .inl (G 0, 320, .inl f))] adK adV sz) (va_Qi (fun (r : Int32) (u : Unit) => match u with | _ => (r = kdF f F P x3) ∧ True) (fun _ _ => True) (fun q : Nat => sz ≤ q)) 0 0 (fun q : Nat => sz ≤ q) := by
  have hT_ := hT
  have tn1445_ : nIT T := fun _ => nI_toInt (by omega)
  refine Met.ofW (cc := cX5_kind) (maxL := 1) (ret := (some .int)) (by decide) rfl ?_
  intro p e s m args below meth c s₁ Bd hml hv
  obtain ⟨rfl, hsz, hP, hK, hSS⟩ := hv
  have hx := Bd.exec
  have hb := Bd.bytes
  have hr := Bd.returns
  have hg : ∀ w ∈ GT, w.before ([.ref h0] : List Value).toArray s = true := fun w h => atoms_spec (ws := Cond.code yX5_kind cX5_kind 1 (some .int) :: GT) Bd.pre w (List.mem_cons_of_mem _ h)
  have hown : s.vm.findClass RX5 = some m.cls := findClass_of_methodNamed Bd.named
  have hlocks := Bd.notSynchronized
  subst hsz
  have hA : ∀ q : Nat, s.heap.size ≤ q → (fun q : Nat => s.heap.size ≤ q) q := fun _ h => h
  have hS : va_S (fun q : Nat => s.heap.size ≤ q) s.heap s.heap [] := va_S.rf
  have hl := lv_entry ([.ref h0]) (n := 1) (Nat.le_of_ble_eq_true rfl)
  rw [lg_entry_eq]
  generalize (lg_sl ([.ref h0]) ++ List.replicate (1 - (lg_sl ([.ref h0])).length) Slot.unset).toArray = ls at hl ⊢
  have hl : lv_has ls 1 [(0, .ref h0)] := hl
  refine lv_aload_n hx hb dX5_kind_0 rfl (lv_at hl 0 rfl) ?_
  refine va_ldcS hx hb hown (hSS.2.1 3 _ rfl) dX5_kind_1 ?_
  have hPc := hP.sub (ws' := [(h0, .inr (5, [.ref tp, .ref td, .int x0, .int x1, .int x2, .int x3, .int (nI F), .int (nI P), .int x6, .int x7, .int x8, .int x9])), (tp, .inr (7, [.int (nI T), .ref ta])), (ta, .inl (G 0, 320, .inl f))]) [0, 1, 2] rfl
  have tn1446_ : nIT F := fun _ => nI_toInt (by omega)
  have tn1447_ : nIT P := fun _ => nI_toInt (by omega)
  refine va_calli (va_runV (As := [.ref (adK 3)]) (rest := []) ⟨hx, hb, hml, hown, hg⟩ (c_X5_isNameE l dC dI G _ h0 tp td ta T F P 3 x0 x1 x2 x3 x6 x7 x8 x9 f adK adV hT_ hF hP0 (by first | omega | (have tnb_ := nib3 tn1446_ tn1447_ tn1445_; omega))) (kwV hg mfX5_isName wt_395 ⟨Nat.le_of_ble_eq_true rfl, Nat.le_of_ble_eq_true rfl⟩) (preVRS hK hPc hSS hS (fun q h => hA q (Nat.le_trans hS.1 h)) (ci := 5) (r := (RX5, TX5, 12)) rfl rfl) rfl rfl hl.1 rfl (lv_room (Nat.le_of_ble_eq_true rfl)) dX5_kind_3 ⟨Nat.le_of_ble_eq_true rfl, Nat.le_of_ble_eq_true rfl⟩) hS (fun q h1 h2 => absurd h2 (Nat.not_le.mpr h1)) (fun q h => hA q (Nat.le_trans hS.1 h)) (fun r1 ur1 t H1 locs ht hvm w2 hB hz1 hk1 hS => ?_)
  have hP := keepR hP hk1
  obtain ⟨w2, w2x⟩ := w2
  subst w2
  refine lv_if_eq (tgt := 11) hx hb dX5_kind_6 rfl (fun c3 => ?_) (fun c3 => ?_)
  · skip
    refine lv_aload_n hx hb dX5_kind_11 rfl (lv_at hl 0 rfl) ?_
    refine va_ldcS hx hb hown (hSS.2.1 4 _ rfl) dX5_kind_12 ?_
    have hPc := hP.sub (ws' := [(h0, .inr (5, [.ref tp, .ref td, .int x0, .int x1, .int x2, .int x3, .int (nI F), .int (nI P), .int x6, .int x7, .int x8, .int x9])), (tp, .inr (7, [.int (nI T), .ref ta])), (ta, .inl (G 0, 320, .inl f))]) [0, 1, 2] rfl
    refine va_calli (va_runV (As := [.ref (adK 4)]) (rest := []) ⟨hx, hb, hml, hown, hg⟩ (c_X5_isNameE l dC dI G _ h0 tp td ta T F P 4 x0 x1 x2 x3 x6 x7 x8 x9 f adK adV hT_ hF hP0 (by first | omega | (have t_c3 := eqI c3; have : (0 : Int32).toInt = 0 := qI_0; have tnb_ := nib3 tn1446_ tn1447_ tn1445_; omega))) (kwV hg mfX5_isName wt_395 ⟨Nat.le_of_ble_eq_true rfl, Nat.le_of_ble_eq_true rfl⟩) (preVRS hK hPc hSS hS (fun q h => hA q (Nat.le_trans hS.1 h)) (ci := 5) (r := (RX5, TX5, 12)) rfl rfl) rfl rfl hl.1 rfl (lv_room (Nat.le_of_ble_eq_true rfl)) dX5_kind_14 ⟨Nat.le_of_ble_eq_true rfl, Nat.le_of_ble_eq_true rfl⟩) hS (fun q h1 h2 => absurd h2 (Nat.not_le.mpr h1)) (fun q h => hA q (Nat.le_trans hS.1 h)) (fun r4 ur4 t H1 locs ht hvm w5 hB hz1 hk1 hS => ?_)
    have hP := keepR hP hk1
    obtain ⟨w5, w5x⟩ := w5
    subst w5
    refine lv_if_eq (tgt := 22) hx hb dX5_kind_17 rfl (fun c6 => ?_) (fun c6 => ?_)
    · skip
      refine lv_aload_n hx hb dX5_kind_22 rfl (lv_at hl 0 rfl) ?_
      refine va_ldcS hx hb hown (hSS.2.1 5 _ rfl) dX5_kind_23 ?_
      have hPc := hP.sub (ws' := [(h0, .inr (5, [.ref tp, .ref td, .int x0, .int x1, .int x2, .int x3, .int (nI F), .int (nI P), .int x6, .int x7, .int x8, .int x9])), (tp, .inr (7, [.int (nI T), .ref ta])), (ta, .inl (G 0, 320, .inl f))]) [0, 1, 2] rfl
      refine va_calli (va_runV (As := [.ref (adK 5)]) (rest := []) ⟨hx, hb, hml, hown, hg⟩ (c_X5_isNameE l dC dI G _ h0 tp td ta T F P 5 x0 x1 x2 x3 x6 x7 x8 x9 f adK adV hT_ hF hP0 (by first | omega | (have t_c3 := eqI c3; have t_c6 := eqI c6; have : (0 : Int32).toInt = 0 := qI_0; have tnb_ := nib3 tn1446_ tn1447_ tn1445_; omega))) (kwV hg mfX5_isName wt_395 ⟨Nat.le_of_ble_eq_true rfl, Nat.le_of_ble_eq_true rfl⟩) (preVRS hK hPc hSS hS (fun q h => hA q (Nat.le_trans hS.1 h)) (ci := 5) (r := (RX5, TX5, 12)) rfl rfl) rfl rfl hl.1 rfl (lv_room (Nat.le_of_ble_eq_true rfl)) dX5_kind_25 ⟨Nat.le_of_ble_eq_true rfl, Nat.le_of_ble_eq_true rfl⟩) hS (fun q h1 h2 => absurd h2 (Nat.not_le.mpr h1)) (fun q h => hA q (Nat.le_trans hS.1 h)) (fun r7 ur7 t H1 locs ht hvm w8 hB hz1 hk1 hS => ?_)
      have hP := keepR hP hk1
      obtain ⟨w8, w8x⟩ := w8
      subst w8
      refine lv_if_eq (tgt := 33) hx hb dX5_kind_28 rfl (fun c9 => ?_) (fun c9 => ?_)
      · skip
        refine lv_aload_n hx hb dX5_kind_33 rfl (lv_at hl 0 rfl) ?_
        refine va_ldcS hx hb hown (hSS.2.1 6 _ rfl) dX5_kind_34 ?_
        have hPc := hP.sub (ws' := [(h0, .inr (5, [.ref tp, .ref td, .int x0, .int x1, .int x2, .int x3, .int (nI F), .int (nI P), .int x6, .int x7, .int x8, .int x9])), (tp, .inr (7, [.int (nI T), .ref ta])), (ta, .inl (G 0, 320, .inl f))]) [0, 1, 2] rfl
        refine va_calli (va_runV (As := [.ref (adK 6)]) (rest := []) ⟨hx, hb, hml, hown, hg⟩ (c_X5_isNameE l dC dI G _ h0 tp td ta T F P 6 x0 x1 x2 x3 x6 x7 x8 x9 f adK adV hT_ hF hP0 (by first | omega | (have t_c3 := eqI c3; have t_c6 := eqI c6; have t_c9 := eqI c9; have : (0 : Int32).toInt = 0 := qI_0; have tnb_ := nib3 tn1446_ tn1447_ tn1445_; omega))) (kwV hg mfX5_isName wt_395 ⟨Nat.le_of_ble_eq_true rfl, Nat.le_of_ble_eq_true rfl⟩) (preVRS hK hPc hSS hS (fun q h => hA q (Nat.le_trans hS.1 h)) (ci := 5) (r := (RX5, TX5, 12)) rfl rfl) rfl rfl hl.1 rfl (lv_room (Nat.le_of_ble_eq_true rfl)) dX5_kind_36 ⟨Nat.le_of_ble_eq_true rfl, Nat.le_of_ble_eq_true rfl⟩) hS (fun q h1 h2 => absurd h2 (Nat.not_le.mpr h1)) (fun q h => hA q (Nat.le_trans hS.1 h)) (fun r10 ur10 t H1 locs ht hvm w11 hB hz1 hk1 hS => ?_)
        have hP := keepR hP hk1
        obtain ⟨w11, w11x⟩ := w11
        subst w11
        refine lv_if_eq (tgt := 44) hx hb dX5_kind_39 rfl (fun c12 => ?_) (fun c12 => ?_)
        · skip
          refine lv_aload_n hx hb dX5_kind_44 rfl (lv_at hl 0 rfl) ?_
          refine va_ldcS hx hb hown (hSS.2.1 7 _ rfl) dX5_kind_45 ?_
          have hPc := hP.sub (ws' := [(h0, .inr (5, [.ref tp, .ref td, .int x0, .int x1, .int x2, .int x3, .int (nI F), .int (nI P), .int x6, .int x7, .int x8, .int x9])), (tp, .inr (7, [.int (nI T), .ref ta])), (ta, .inl (G 0, 320, .inl f))]) [0, 1, 2] rfl
          refine va_calli (va_runV (As := [.ref (adK 7)]) (rest := []) ⟨hx, hb, hml, hown, hg⟩ (c_X5_isNameE l dC dI G _ h0 tp td ta T F P 7 x0 x1 x2 x3 x6 x7 x8 x9 f adK adV hT_ hF hP0 (by first | omega | (have t_c3 := eqI c3; have t_c6 := eqI c6; have t_c9 := eqI c9; have t_c12 := eqI c12; have : (0 : Int32).toInt = 0 := qI_0; have tnb_ := nib3 tn1446_ tn1447_ tn1445_; omega))) (kwV hg mfX5_isName wt_395 ⟨Nat.le_of_ble_eq_true rfl, Nat.le_of_ble_eq_true rfl⟩) (preVRS hK hPc hSS hS (fun q h => hA q (Nat.le_trans hS.1 h)) (ci := 5) (r := (RX5, TX5, 12)) rfl rfl) rfl rfl hl.1 rfl (lv_room (Nat.le_of_ble_eq_true rfl)) dX5_kind_47 ⟨Nat.le_of_ble_eq_true rfl, Nat.le_of_ble_eq_true rfl⟩) hS (fun q h1 h2 => absurd h2 (Nat.not_le.mpr h1)) (fun q h => hA q (Nat.le_trans hS.1 h)) (fun r13 ur13 t H1 locs ht hvm w14 hB hz1 hk1 hS => ?_)
          have hP := keepR hP hk1
          obtain ⟨w14, w14x⟩ := w14
          subst w14
          refine lv_if_eq (tgt := 55) hx hb dX5_kind_50 rfl (fun c15 => ?_) (fun c15 => ?_)
          · skip
            refine lv_aload_n hx hb dX5_kind_55 rfl (lv_at hl 0 rfl) ?_
            refine va_ldcS hx hb hown (hSS.2.1 8 _ rfl) dX5_kind_56 ?_
            have hPc := hP.sub (ws' := [(h0, .inr (5, [.ref tp, .ref td, .int x0, .int x1, .int x2, .int x3, .int (nI F), .int (nI P), .int x6, .int x7, .int x8, .int x9])), (tp, .inr (7, [.int (nI T), .ref ta])), (ta, .inl (G 0, 320, .inl f))]) [0, 1, 2] rfl
            refine va_calli (va_runV (As := [.ref (adK 8)]) (rest := []) ⟨hx, hb, hml, hown, hg⟩ (c_X5_isNameE l dC dI G _ h0 tp td ta T F P 8 x0 x1 x2 x3 x6 x7 x8 x9 f adK adV hT_ hF hP0 (by first | omega | (have t_c3 := eqI c3; have t_c6 := eqI c6; have t_c9 := eqI c9; have t_c12 := eqI c12; have t_c15 := eqI c15; have : (0 : Int32).toInt = 0 := qI_0; have tnb_ := nib3 tn1446_ tn1447_ tn1445_; omega))) (kwV hg mfX5_isName wt_395 ⟨Nat.le_of_ble_eq_true rfl, Nat.le_of_ble_eq_true rfl⟩) (preVRS hK hPc hSS hS (fun q h => hA q (Nat.le_trans hS.1 h)) (ci := 5) (r := (RX5, TX5, 12)) rfl rfl) rfl rfl hl.1 rfl (lv_room (Nat.le_of_ble_eq_true rfl)) dX5_kind_58 ⟨Nat.le_of_ble_eq_true rfl, Nat.le_of_ble_eq_true rfl⟩) hS (fun q h1 h2 => absurd h2 (Nat.not_le.mpr h1)) (fun q h => hA q (Nat.le_trans hS.1 h)) (fun r16 ur16 t H1 locs ht hvm w17 hB hz1 hk1 hS => ?_)
            have hP := keepR hP hk1
            obtain ⟨w17, w17x⟩ := w17
            subst w17
            refine lv_if_eq (tgt := 68) hx hb dX5_kind_61 rfl (fun c18 => ?_) (fun c18 => ?_)
            · skip
              refine lv_bipush (v := (-4)) hx hb dX5_kind_68 rfl ?_
              have hpost : ((-4) : Int32) = kdF f F P x3 := by
                unfold kdF
                (try (repeat (first | rw [if_pos (by with_reducible assumption)] | rw [if_neg (by with_reducible assumption)] | rw [if_pos (by first | exact c3 | exact c6 | exact c9 | exact c12 | exact c15 | exact c18)] | rw [if_neg (by first | exact c3 | exact c6 | exact c9 | exact c12 | exact c15 | exact c18)] | rw [if_pos (by (have t_c3 := eqI c3; have t_c6 := eqI c6; have t_c9 := eqI c9; have t_c12 := eqI c12; have t_c15 := eqI c15; have t_c18 := eqI c18; have : (0 : Int32).toInt = 0 := qI_0; have tnb_ := nib3 tn1446_ tn1447_ tn1445_; omega))] | rw [if_neg (by (have t_c3 := eqI c3; have t_c6 := eqI c6; have t_c9 := eqI c9; have t_c12 := eqI c12; have t_c15 := eqI c15; have t_c18 := eqI c18; have : (0 : Int32).toInt = 0 := qI_0; have tnb_ := nib3 tn1446_ tn1447_ tn1445_; omega))] | rw [if_pos (by decide)] | rw [if_neg (by decide)] | rw [if_pos (by skip; assumption)] | rw [if_neg (by skip; assumption)])))
                all_goals rfl
              refine W.widen (k := 0) (n := 0) (Nat.le_of_ble_eq_true rfl) (Nat.le_of_ble_eq_true rfl) ?_
              exact W.iret (v := (-4)) hx hb hr (fun t ht hW => ⟨⟨(-4), (), rfl, ⟨hpost, trivial⟩, trivial⟩, hS.F ht⟩) hS.2.2 dX5_kind_70
            · skip
              refine lv_iconst (v := 5) hx hb dX5_kind_64 rfl ?_
              refine lv_goto (tgt := 70) hx hb dX5_kind_65 rfl ?_
              have hpost : (5 : Int32) = kdF f F P x3 := by
                unfold kdF
                (try (repeat (first | rw [if_pos (by with_reducible assumption)] | rw [if_neg (by with_reducible assumption)] | rw [if_pos (by first | exact c3 | exact c6 | exact c9 | exact c12 | exact c15 | exact c18)] | rw [if_neg (by first | exact c3 | exact c6 | exact c9 | exact c12 | exact c15 | exact c18)] | rw [if_pos (by (have t_c3 := eqI c3; have t_c6 := eqI c6; have t_c9 := eqI c9; have t_c12 := eqI c12; have t_c15 := eqI c15; have t_c18 := neI c18; have : (0 : Int32).toInt = 0 := qI_0; have tnb_ := nib3 tn1446_ tn1447_ tn1445_; omega))] | rw [if_neg (by (have t_c3 := eqI c3; have t_c6 := eqI c6; have t_c9 := eqI c9; have t_c12 := eqI c12; have t_c15 := eqI c15; have t_c18 := neI c18; have : (0 : Int32).toInt = 0 := qI_0; have tnb_ := nib3 tn1446_ tn1447_ tn1445_; omega))] | rw [if_pos (by decide)] | rw [if_neg (by decide)] | rw [if_pos (by skip; assumption)] | rw [if_neg (by skip; assumption)])))
                all_goals rfl
              refine W.widen (k := 0) (n := 0) (Nat.le_of_ble_eq_true rfl) (Nat.le_of_ble_eq_true rfl) ?_
              exact W.iret (v := 5) hx hb hr (fun t ht hW => ⟨⟨5, (), rfl, ⟨hpost, trivial⟩, trivial⟩, hS.F ht⟩) hS.2.2 dX5_kind_70
          · skip
            refine lv_iconst (v := 4) hx hb dX5_kind_53 rfl ?_
            have hpost : (4 : Int32) = kdF f F P x3 := by
              unfold kdF
              (try (repeat (first | rw [if_pos (by with_reducible assumption)] | rw [if_neg (by with_reducible assumption)] | rw [if_pos (by first | exact c3 | exact c6 | exact c9 | exact c12 | exact c15)] | rw [if_neg (by first | exact c3 | exact c6 | exact c9 | exact c12 | exact c15)] | rw [if_pos (by (have t_c3 := eqI c3; have t_c6 := eqI c6; have t_c9 := eqI c9; have t_c12 := eqI c12; have t_c15 := neI c15; have : (0 : Int32).toInt = 0 := qI_0; have tnb_ := nib3 tn1446_ tn1447_ tn1445_; omega))] | rw [if_neg (by (have t_c3 := eqI c3; have t_c6 := eqI c6; have t_c9 := eqI c9; have t_c12 := eqI c12; have t_c15 := neI c15; have : (0 : Int32).toInt = 0 := qI_0; have tnb_ := nib3 tn1446_ tn1447_ tn1445_; omega))] | rw [if_pos (by decide)] | rw [if_neg (by decide)] | rw [if_pos (by skip; assumption)] | rw [if_neg (by skip; assumption)])))
              all_goals rfl
            refine W.widen (k := 0) (n := 0) (Nat.le_of_ble_eq_true rfl) (Nat.le_of_ble_eq_true rfl) ?_
            exact W.iret (v := 4) hx hb hr (fun t ht hW => ⟨⟨4, (), rfl, ⟨hpost, trivial⟩, trivial⟩, hS.F ht⟩) hS.2.2 dX5_kind_54
        · skip
          refine lv_iconst (v := 3) hx hb dX5_kind_42 rfl ?_
          have hpost : (3 : Int32) = kdF f F P x3 := by
            unfold kdF
            (try (repeat (first | rw [if_pos (by with_reducible assumption)] | rw [if_neg (by with_reducible assumption)] | rw [if_pos (by first | exact c3 | exact c6 | exact c9 | exact c12)] | rw [if_neg (by first | exact c3 | exact c6 | exact c9 | exact c12)] | rw [if_pos (by (have t_c3 := eqI c3; have t_c6 := eqI c6; have t_c9 := eqI c9; have t_c12 := neI c12; have : (0 : Int32).toInt = 0 := qI_0; have tnb_ := nib3 tn1446_ tn1447_ tn1445_; omega))] | rw [if_neg (by (have t_c3 := eqI c3; have t_c6 := eqI c6; have t_c9 := eqI c9; have t_c12 := neI c12; have : (0 : Int32).toInt = 0 := qI_0; have tnb_ := nib3 tn1446_ tn1447_ tn1445_; omega))] | rw [if_pos (by decide)] | rw [if_neg (by decide)] | rw [if_pos (by skip; assumption)] | rw [if_neg (by skip; assumption)])))
            all_goals rfl
          refine W.widen (k := 0) (n := 0) (Nat.le_of_ble_eq_true rfl) (Nat.le_of_ble_eq_true rfl) ?_
          exact W.iret (v := 3) hx hb hr (fun t ht hW => ⟨⟨3, (), rfl, ⟨hpost, trivial⟩, trivial⟩, hS.F ht⟩) hS.2.2 dX5_kind_43
      · skip
        refine lv_iconst (v := 2) hx hb dX5_kind_31 rfl ?_
        have hpost : (2 : Int32) = kdF f F P x3 := by
          unfold kdF
          (try (repeat (first | rw [if_pos (by with_reducible assumption)] | rw [if_neg (by with_reducible assumption)] | rw [if_pos (by first | exact c3 | exact c6 | exact c9)] | rw [if_neg (by first | exact c3 | exact c6 | exact c9)] | rw [if_pos (by (have t_c3 := eqI c3; have t_c6 := eqI c6; have t_c9 := neI c9; have : (0 : Int32).toInt = 0 := qI_0; have tnb_ := nib3 tn1446_ tn1447_ tn1445_; omega))] | rw [if_neg (by (have t_c3 := eqI c3; have t_c6 := eqI c6; have t_c9 := neI c9; have : (0 : Int32).toInt = 0 := qI_0; have tnb_ := nib3 tn1446_ tn1447_ tn1445_; omega))] | rw [if_pos (by decide)] | rw [if_neg (by decide)] | rw [if_pos (by skip; assumption)] | rw [if_neg (by skip; assumption)])))
          all_goals rfl
        refine W.widen (k := 0) (n := 0) (Nat.le_of_ble_eq_true rfl) (Nat.le_of_ble_eq_true rfl) ?_
        exact W.iret (v := 2) hx hb hr (fun t ht hW => ⟨⟨2, (), rfl, ⟨hpost, trivial⟩, trivial⟩, hS.F ht⟩) hS.2.2 dX5_kind_32
    · skip
      refine lv_iconst (v := 1) hx hb dX5_kind_20 rfl ?_
      have hpost : (1 : Int32) = kdF f F P x3 := by
        unfold kdF
        (try (repeat (first | rw [if_pos (by with_reducible assumption)] | rw [if_neg (by with_reducible assumption)] | rw [if_pos (by first | exact c3 | exact c6)] | rw [if_neg (by first | exact c3 | exact c6)] | rw [if_pos (by (have t_c3 := eqI c3; have t_c6 := neI c6; have : (0 : Int32).toInt = 0 := qI_0; have tnb_ := nib3 tn1446_ tn1447_ tn1445_; omega))] | rw [if_neg (by (have t_c3 := eqI c3; have t_c6 := neI c6; have : (0 : Int32).toInt = 0 := qI_0; have tnb_ := nib3 tn1446_ tn1447_ tn1445_; omega))] | rw [if_pos (by decide)] | rw [if_neg (by decide)] | rw [if_pos (by skip; assumption)] | rw [if_neg (by skip; assumption)])))
        all_goals rfl
      refine W.widen (k := 0) (n := 0) (Nat.le_of_ble_eq_true rfl) (Nat.le_of_ble_eq_true rfl) ?_
      exact W.iret (v := 1) hx hb hr (fun t ht hW => ⟨⟨1, (), rfl, ⟨hpost, trivial⟩, trivial⟩, hS.F ht⟩) hS.2.2 dX5_kind_21
  · skip
    refine lv_iconst (v := 0) hx hb dX5_kind_9 rfl ?_
    have hpost : (0 : Int32) = kdF f F P x3 := by
      unfold kdF
      (try (repeat (first | rw [if_pos (by with_reducible assumption)] | rw [if_neg (by with_reducible assumption)] | rw [if_pos (by first | exact c3)] | rw [if_neg (by first | exact c3)] | rw [if_pos (by (have t_c3 := neI c3; have : (0 : Int32).toInt = 0 := qI_0; have tnb_ := nib3 tn1446_ tn1447_ tn1445_; omega))] | rw [if_neg (by (have t_c3 := neI c3; have : (0 : Int32).toInt = 0 := qI_0; have tnb_ := nib3 tn1446_ tn1447_ tn1445_; omega))] | rw [if_pos (by decide)] | rw [if_neg (by decide)] | rw [if_pos (by skip; assumption)] | rw [if_neg (by skip; assumption)])))
      all_goals rfl
    refine W.widen (k := 0) (n := 0) (Nat.le_of_ble_eq_true rfl) (Nat.le_of_ble_eq_true rfl) ?_
    exact W.iret (v := 0) hx hb hr (fun t ht hW => ⟨⟨0, (), rfl, ⟨hpost, trivial⟩, trivial⟩, hS.F ht⟩) hS.2.2 dX5_kind_10

set_option maxHeartbeats 1000000 in
set_option maxRecDepth 100000 in
theorem c_X5_nextNumberE (l : Launch) (dC : Nat → ClassId) (dI : Nat → Nat → Nat) (G : Nat → ClassId) (sz : Nat) (h0 tp td ta T P : Nat) (x0 x1 x2 x3 x6 x7 x8 x9 x4 xlo xhi : Int32) (f : Nat → Int32) (hT : T ≤ 320) (hP0 : P ≤ T) : Met l yX5_nextNumber (Cond.code yX5_nextNumber cX5_nextNumber 4 (some .boolean) :: GT) ({ frames := 2, cells := 0, slots := 0, locals := 45 } : Room) (PcW [.ref h0, .int xlo, .int xhi] dC dI G [(h0, .inr (5, [.ref tp, .ref td, .int x0, .int x1, .int x2, .int x3, .int x4, .int (nI P), .int x6, .int x7, .int x8, .int x9])), (tp, .inr (7, [.int (nI T), .ref ta])), (ta, .inl (G 0, 320, .inl f))] sz) (va_Qi (fun (r : Int32) (u : Int32 × Int32 × Int32 × Nat × Nat) => match u with | (u0, u1, u3, u4, u5) => ((r = 0 ∨ (r = 1 ∧ xlo.toInt ≤ (valN f T u4 (u5 - u4)).toInt ∧ (valN f T u4 (u5 - u4)).toInt ≤ xhi.toInt)) ∧ r = (cNN f T xlo xhi x0 x1 x3 P).1) ∧ u4 ≤ u5 ∧ u5 ≤ T ∧ (u0, u1, u3, u4, u5) = (cNN f T xlo xhi x0 x1 x3 P).2) (fun (u : Int32 × Int32 × Int32 × Nat × Nat) (t : State) => match u with | (u0, u1, u3, u4, u5) => va_P (dC, dI) vwCl [(h0, .inr (5, [.ref tp, .ref td, .int u0, .int u1, .int x2, .int u3, .int (nI u4), .int (nI u5), .int x6, .int x7, .int x8, .int x9])), (tp, .inr (7, [.int (nI T), .ref ta])), (ta, .inl (G 0, 320, .inl f))] t.heap ∧ va_D (va_A [(h0, .inr (5, [.ref tp, .ref td, .int x0, .int x1, .int x2, .int x3, .int x4, .int (nI P), .int x6, .int x7, .int x8, .int x9])), (tp, .inr (7, [.int (nI T), .ref ta])), (ta, .inl (G 0, 320, .inl f))] sz) [(h0, .inr (5, [.ref tp, .ref td, .int u0, .int u1, .int x2, .int u3, .int (nI u4), .int (nI u5), .int x6, .int x7, .int x8, .int x9])), (tp, .inr (7, [.int (nI T), .ref ta])), (ta, .inl (G 0, 320, .inl f))]) (va_A [(h0, .inr (5, [.ref tp, .ref td, .int x0, .int x1, .int x2, .int x3, .int x4, .int (nI P), .int x6, .int x7, .int x8, .int x9])), (tp, .inr (7, [.int (nI T), .ref ta])), (ta, .inl (G 0, 320, .inl f))] sz)) 0 0 (va_A [(h0, .inr (5, [.ref tp, .ref td, .int x0, .int x1, .int x2, .int x3, .int x4, .int (nI P), .int x6, .int x7, .int x8, .int x9])), (tp, .inr (7, [.int (nI T), .ref ta])), (ta, .inl (G 0, 320, .inl f))] sz) := by
  have hT_ := hT
  have tn1448_ : nIT T := fun _ => nI_toInt (by omega)
  refine Met.ofW (cc := cX5_nextNumber) (maxL := 4) (ret := (some .boolean)) (by decide) rfl ?_
  intro p e s m args below meth c s₁ Bd hml hv
  obtain ⟨rfl, hsz, hP, hK, hD0⟩ := hv
  have hx := Bd.exec
  have hb := Bd.bytes
  have hr := Bd.returns
  have hg : ∀ w ∈ GT, w.before ([.ref h0, .int xlo, .int xhi] : List Value).toArray s = true := fun w h => atoms_spec (ws := Cond.code yX5_nextNumber cX5_nextNumber 4 (some .boolean) :: GT) Bd.pre w (List.mem_cons_of_mem _ h)
  have hown : s.vm.findClass RX5 = some m.cls := findClass_of_methodNamed Bd.named
  have hlocks := Bd.notSynchronized
  subst hsz
  have hD := hD0.self (sz := s.heap.size)
  generalize hAe : va_A [(h0, .inr (5, [.ref tp, .ref td, .int x0, .int x1, .int x2, .int x3, .int x4, .int (nI P), .int x6, .int x7, .int x8, .int x9])), (tp, .inr (7, [.int (nI T), .ref ta])), (ta, .inl (G 0, 320, .inl f))] s.heap.size = A at hD ⊢
  have hA : ∀ q : Nat, s.heap.size ≤ q → A q := fun q h => by rw [← hAe]; exact Or.inr h
  have hS : va_S A s.heap s.heap [] := va_S.rf
  have hl := lv_entry ([.ref h0, .int xlo, .int xhi]) (n := 4) (Nat.le_of_ble_eq_true rfl)
  rw [lg_entry_eq]
  generalize (lg_sl ([.ref h0, .int xlo, .int xhi]) ++ List.replicate (4 - (lg_sl ([.ref h0, .int xlo, .int xhi])).length) Slot.unset).toArray = ls at hl ⊢
  have hl : lv_has ls 4 [(0, .ref h0), (1, .int xlo), (2, .int xhi)] := hl
  refine lv_aload_n hx hb dX5_nextNumber_0 rfl (lv_at hl 0 rfl) ?_
  obtain ⟨hPc, hDc, hFc⟩ := va_sub3 (ws' := [(h0, .inr (5, [.ref tp, .ref td, .int x0, .int x1, .int x2, .int x3, .int x4, .int (nI P), .int x6, .int x7, .int x8, .int x9])), (tp, .inr (7, [.int (nI T), .ref ta])), (ta, .inl (G 0, 320, .inl f))]) hP hD hS hA [0, 1, 2] (by decide +kernel) rfl
  have tn1449_ : nIT P := fun _ => nI_toInt (by omega)
  refine va_calli (va_runV (As := []) (rest := []) ⟨hx, hb, hml, hown, hg⟩ (c_X5_nextTokenE l dC dI G _ h0 tp td ta T P x0 x1 x2 x3 x6 x7 x8 x9 x4 f hT_ hP0) (kwV hg mfX5_nextToken wt_374 ⟨Nat.le_of_ble_eq_true rfl, Nat.le_of_ble_eq_true rfl⟩) (preVW hK hPc hDc (ci := 5) (r := (RX5, TX5, 12)) rfl rfl) rfl rfl hl.1 rfl (lv_room (Nat.le_of_ble_eq_true rfl)) dX5_nextNumber_1 ⟨Nat.le_of_ble_eq_true rfl, Nat.le_of_ble_eq_true rfl⟩) hS (fun q _ h => hFc q h) hFc (fun r1 ur1 t H1 locs ht hvm w2 hB hz1 hk1 hS => ?_)
  obtain ⟨u3, u4, u5, u6, u7⟩ := ur1
  obtain ⟨hP1, hD1⟩ := hB
  rw [ht] at hP1
  obtain ⟨hP, hD⟩ := va_join (wr := []) (w1 := [(h0, .inr (5, [.ref tp, .ref td, .int u3, .int u4, .int x2, .int u5, .int (nI u6), .int (nI u7), .int x6, .int x7, .int x8, .int x9])), (tp, .inr (7, [.int (nI T), .ref ta])), (ta, .inl (G 0, 320, .inl f))]) hP hD [0, 1, 2] [] rfl rfl (by decide +kernel) (by decide +kernel) hk1 hFc hP1 hD1
  generalize H1 = H at hP hS ⊢
  obtain ⟨w2, w2x⟩ := w2
  have vw2 : ntG f T (pst f T 32 32 P) = r1 := w2.symm
  have ew2 : ntS1 f T (pst f T 32 32 P) x0 x1 x3 = (u3, u4, u5, u6, u7) := w2x.2.2.symm
  refine lv_if_ne (tgt := 9) hx hb dX5_nextNumber_4 rfl (fun c8 => ?_) (fun c8 => ?_)
  · skip
    refine lv_aload_n hx hb dX5_nextNumber_9 rfl (lv_at hl 0 rfl) ?_
    refine va_get (D := (dC, dI)) (ci := 5) (v := .int u5) (C := RX5) (T := TX5) (N := 12) hx hb hg inG5 hown hK.1 hP 0 rfl rfl 5 (Nat.le_of_ble_eq_true rfl) (hg _ wt_115) (fun _ h9 => h9) rfl dX5_nextNumber_10 ?_
    refine lv_iconst (v := 2) hx hb dX5_nextNumber_13 rfl ?_
    refine lv_icmp_eq (tgt := 27) hx hb dX5_nextNumber_14 rfl (fun c9 => ?_) (fun c9 => ?_)
    · skip
      refine lv_aload_n hx hb dX5_nextNumber_27 rfl (lv_at hl 0 rfl) ?_
      have hPc := hP.sub (ws' := [(h0, .inr (5, [.ref tp, .ref td, .int u3, .int u4, .int x2, .int u5, .int (nI u6), .int (nI u7), .int x6, .int x7, .int x8, .int x9])), (tp, .inr (7, [.int (nI T), .ref ta])), (ta, .inl (G 0, 320, .inl f))]) [0, 1, 2] rfl
      refine va_calli (va_runV (As := []) (rest := []) ⟨hx, hb, hml, hown, hg⟩ (c_X5_value l dC dI G _ h0 tp td ta T u6 u7 u3 u4 x2 u5 x6 x7 x8 x9 f hT_ (by first | omega | (have t_c8 := neI c8; have t_c9 := eqI c9; have tqz_ := qz22_; have tnb_ := nib2 tn1449_ tn1448_; omega)) (by first | omega | (have t_c8 := neI c8; have t_c9 := eqI c9; have tqz_ := qz22_; have tnb_ := nib2 tn1449_ tn1448_; omega))) (kwV hg mfX5_value wt_459 ⟨Nat.le_of_ble_eq_true rfl, Nat.le_of_ble_eq_true rfl⟩) (preVR hK hPc (ci := 5) (r := (RX5, TX5, 12)) rfl rfl) rfl rfl hl.1 rfl (lv_room (Nat.le_of_ble_eq_true rfl)) dX5_nextNumber_28 ⟨Nat.le_of_ble_eq_true rfl, Nat.le_of_ble_eq_true rfl⟩) hS (fun q h1 h2 => absurd h2 (Nat.not_le.mpr h1)) (fun q h => hA q (Nat.le_trans hS.1 h)) (fun r10 ur10 t H1 locs ht hvm w11 hB hz1 hk1 hS => ?_)
      have hP := keepR hP hk1
      obtain ⟨w11, w11x⟩ := w11
      subst w11
      refine lv_istore_n (lv' := [(3, .int (valN f T u6 (u7 - u6))), (0, .ref h0), (1, .int xlo), (2, .int xhi)]) hx hb dX5_nextNumber_31 rfl hl (by decide) rfl (fun ls hl => ?_)
      refine lv_iload_n hx hb dX5_nextNumber_32 rfl (lv_at hl 0 rfl) ?_
      refine lv_iload_n hx hb dX5_nextNumber_33 rfl (lv_at hl 2 rfl) ?_
      refine lv_icmp_lt (tgt := 42) hx hb dX5_nextNumber_34 rfl (fun c12 => ?_) (fun c12 => ?_)
      · skip
        refine lv_aload_n hx hb dX5_nextNumber_42 rfl (lv_at hl 1 rfl) ?_
        refine lv_iconst (v := 3) hx hb dX5_nextNumber_43 rfl ?_
        refine lv_aload_n hx hb dX5_nextNumber_44 rfl (lv_at hl 1 rfl) ?_
        refine va_get (D := (dC, dI)) (ci := 5) (v := .int (nI u6)) (C := RX5) (T := TX5) (N := 12) hx hb hg inG5 hown hK.1 hP 0 rfl rfl 6 (Nat.le_of_ble_eq_true rfl) (hg _ wt_116) (fun _ h9 => h9) rfl dX5_nextNumber_45 ?_
        obtain ⟨hPc, hDc, hFc⟩ := va_sub3 (ws' := [(h0, .inr (5, [.ref tp, .ref td, .int u3, .int u4, .int x2, .int u5, .int (nI u6), .int (nI u7), .int x6, .int x7, .int x8, .int x9]))]) hP hD hS hA [0] (by decide +kernel) rfl
        refine va_calli (va_runV (As := [.int 3, .int (nI u6)]) (rest := []) ⟨hx, hb, hml, hown, hg⟩ (c_X5_refuseE l dC dI G _ h0 tp td u3 u4 x2 u5 (nI u6) (nI u7) x6 x7 x8 x9 3 (nI u6)) (kwV hg mfX5_refuse wt_386 ⟨Nat.le_of_ble_eq_true rfl, Nat.le_of_ble_eq_true rfl⟩) (preVW hK hPc hDc (ci := 5) (r := (RX5, TX5, 12)) rfl rfl) rfl rfl hl.1 rfl (lv_room (Nat.le_of_ble_eq_true rfl)) dX5_nextNumber_48 ⟨Nat.le_of_ble_eq_true rfl, Nat.le_of_ble_eq_true rfl⟩) hS (fun q _ h => hFc q h) hFc (fun r13 ur13 t H1 locs ht hvm w14 hB hz1 hk1 hS => ?_)
        obtain ⟨u15, u16⟩ := ur13
        obtain ⟨hP1, hD1⟩ := hB
        rw [ht] at hP1
        obtain ⟨hP, hD⟩ := va_join (wr := [(tp, .inr (7, [.int (nI T), .ref ta])), (ta, .inl (G 0, 320, .inl f))]) (w1 := [(h0, .inr (5, [.ref tp, .ref td, .int u15, .int u16, .int x2, .int u5, .int (nI u6), .int (nI u7), .int x6, .int x7, .int x8, .int x9]))]) hP hD [0] [1, 2] rfl rfl (by decide +kernel) (by decide +kernel) hk1 hFc hP1 hD1
        generalize H1 = H at hP hS ⊢
        obtain ⟨w14, w14x⟩ := w14
        subst w14
        have ew14 : cRF 3 (u3, u4, u5, u6, u7) = (u15, u16, u5, u6, u7) := (by show (flB _ _, flP _ _ _, _, _, _) = _; rw [← w14x.1, ← w14x.2])
        refine lv_if_eq (tgt := 58) hx hb dX5_nextNumber_51 rfl (fun c17 => ?_) (fun c17 => ?_)
        · skip
          refine lv_iconst (v := 0) hx hb dX5_nextNumber_58 rfl ?_
          have hpost : ((0 : Int32) = 0 ∨ ((0 : Int32) = 1 ∧ xlo.toInt ≤ (valN f T u6 (u7 - u6)).toInt ∧ (valN f T u6 (u7 - u6)).toInt ≤ xhi.toInt)) ∧ (0 : Int32) = (cNN f T xlo xhi x0 x1 x3 P).1 := by
            refine ⟨Or.inl rfl, ?_⟩
            unfold cNN
            (try rw [vw2])
            (try rw [ew2])
            (try rw [ew14])
            (try (repeat (first | rw [if_pos (by with_reducible assumption)] | rw [if_neg (by with_reducible assumption)] | rw [if_pos (by first | exact c8 | exact c9 | exact c12 | exact c17)] | rw [if_neg (by first | exact c8 | exact c9 | exact c12 | exact c17)] | rw [if_pos (by (have t_c8 := neI c8; have t_c9 := eqI c9; have t_c12 := ltI c12; have t_c17 := eqI c17; have tqz_ := qz22_; have tnb_ := nib2 tn1449_ tn1448_; have tqz_ := qz41_; omega))] | rw [if_neg (by (have t_c8 := neI c8; have t_c9 := eqI c9; have t_c12 := ltI c12; have t_c17 := eqI c17; have tqz_ := qz22_; have tnb_ := nib2 tn1449_ tn1448_; have tqz_ := qz41_; omega))] | rw [if_pos (by decide)] | rw [if_neg (by decide)] | rw [if_pos (by skip; assumption)] | rw [if_neg (by skip; assumption)])))
            all_goals rfl
          obtain ⟨hP9, hD9⟩ := va_sub2 (ws' := [(h0, .inr (5, [.ref tp, .ref td, .int u15, .int u16, .int x2, .int u5, .int (nI u6), .int (nI u7), .int x6, .int x7, .int x8, .int x9])), (tp, .inr (7, [.int (nI T), .ref ta])), (ta, .inl (G 0, 320, .inl f))]) hP hD [2, 0, 1] (by decide +kernel) rfl
          refine W.widen (k := 0) (n := 0) (Nat.le_of_ble_eq_true rfl) (Nat.le_of_ble_eq_true rfl) ?_
          exact W.zret (v := 0) hx hb hr (by first | rfl | decide | exact rfl) (fun t ht hW => ⟨⟨0, (u15, u16, u5, u6, u7), rfl, ⟨hpost, (by refine ⟨by (have t_c8 := neI c8; have t_c9 := eqI c9; have t_c12 := ltI c12; have t_c17 := eqI c17; have tqz_ := qz22_; have tnb_ := nib2 tn1449_ tn1448_; have tqz_ := qz41_; omega), by (have t_c8 := neI c8; have t_c9 := eqI c9; have t_c12 := ltI c12; have t_c17 := eqI c17; have tqz_ := qz22_; have tnb_ := nib2 tn1449_ tn1448_; have tqz_ := qz41_; omega), ?_⟩; unfold cNN; (try rw [vw2]); (try rw [ew2]); (try rw [ew14]); (try (repeat (first | rw [if_pos (by with_reducible assumption)] | rw [if_neg (by with_reducible assumption)] | rw [if_pos (by first | exact c8 | exact c9 | exact c12 | exact c17)] | rw [if_neg (by first | exact c8 | exact c9 | exact c12 | exact c17)] | rw [if_pos (by (have t_c8 := neI c8; have t_c9 := eqI c9; have t_c12 := ltI c12; have t_c17 := eqI c17; have tqz_ := qz22_; have tnb_ := nib2 tn1449_ tn1448_; have tqz_ := qz41_; omega))] | rw [if_neg (by (have t_c8 := neI c8; have t_c9 := eqI c9; have t_c12 := ltI c12; have t_c17 := eqI c17; have tqz_ := qz22_; have tnb_ := nib2 tn1449_ tn1448_; have tqz_ := qz41_; omega))] | rw [if_pos (by decide)] | rw [if_neg (by decide)] | rw [if_pos (by skip; assumption)] | rw [if_neg (by skip; assumption)]))); all_goals rfl)⟩, ⟨by rw [ht]; exact hP9, hD9⟩⟩, hS.F ht⟩) hS.2.2 dX5_nextNumber_59
        · skip
          exact absurd c17 (by decide)
      · skip
        refine lv_iload_n hx hb dX5_nextNumber_37 rfl (lv_at hl 0 rfl) ?_
        refine lv_iload_n hx hb dX5_nextNumber_38 rfl (lv_at hl 3 rfl) ?_
        refine lv_icmp_le (tgt := 54) hx hb dX5_nextNumber_39 rfl (fun c18 => ?_) (fun c18 => ?_)
        · skip
          refine lv_iconst (v := 1) hx hb dX5_nextNumber_54 rfl ?_
          refine lv_goto (tgt := 59) hx hb dX5_nextNumber_55 rfl ?_
          have hpost : ((1 : Int32) = 0 ∨ ((1 : Int32) = 1 ∧ xlo.toInt ≤ (valN f T u6 (u7 - u6)).toInt ∧ (valN f T u6 (u7 - u6)).toInt ≤ xhi.toInt)) ∧ (1 : Int32) = (cNN f T xlo xhi x0 x1 x3 P).1 := by
            refine ⟨Or.inr ⟨rfl, by (have t_c8 := neI c8; have t_c9 := eqI c9; have t_c12 := nltI c12; have t_c18 := leI c18; have tqz_ := qz22_; have tnb_ := nib2 tn1449_ tn1448_; have tqz_ := qz41_; omega), by (have t_c8 := neI c8; have t_c9 := eqI c9; have t_c12 := nltI c12; have t_c18 := leI c18; have tqz_ := qz22_; have tnb_ := nib2 tn1449_ tn1448_; have tqz_ := qz41_; omega)⟩, ?_⟩
            unfold cNN
            (try rw [vw2])
            (try rw [ew2])
            (try (repeat (first | rw [if_pos (by with_reducible assumption)] | rw [if_neg (by with_reducible assumption)] | rw [if_pos (by first | exact c8 | exact c9 | exact c12 | exact c18)] | rw [if_neg (by first | exact c8 | exact c9 | exact c12 | exact c18)] | rw [if_pos (by (have t_c8 := neI c8; have t_c9 := eqI c9; have t_c12 := nltI c12; have t_c18 := leI c18; have tqz_ := qz22_; have tnb_ := nib2 tn1449_ tn1448_; have tqz_ := qz41_; omega))] | rw [if_neg (by (have t_c8 := neI c8; have t_c9 := eqI c9; have t_c12 := nltI c12; have t_c18 := leI c18; have tqz_ := qz22_; have tnb_ := nib2 tn1449_ tn1448_; have tqz_ := qz41_; omega))] | rw [if_pos (by decide)] | rw [if_neg (by decide)] | rw [if_pos (by skip; assumption)] | rw [if_neg (by skip; assumption)])))
            all_goals rfl
          obtain ⟨hP9, hD9⟩ := va_sub2 (ws' := [(h0, .inr (5, [.ref tp, .ref td, .int u3, .int u4, .int x2, .int u5, .int (nI u6), .int (nI u7), .int x6, .int x7, .int x8, .int x9])), (tp, .inr (7, [.int (nI T), .ref ta])), (ta, .inl (G 0, 320, .inl f))]) hP hD [0, 1, 2] (by decide +kernel) rfl
          refine W.widen (k := 0) (n := 0) (Nat.le_of_ble_eq_true rfl) (Nat.le_of_ble_eq_true rfl) ?_
          exact W.zret (v := 1) hx hb hr (by first | rfl | decide | exact rfl) (fun t ht hW => ⟨⟨1, (u3, u4, u5, u6, u7), rfl, ⟨hpost, (by refine ⟨by (have t_c8 := neI c8; have t_c9 := eqI c9; have t_c12 := nltI c12; have t_c18 := leI c18; have tqz_ := qz22_; have tnb_ := nib2 tn1449_ tn1448_; have tqz_ := qz41_; omega), by (have t_c8 := neI c8; have t_c9 := eqI c9; have t_c12 := nltI c12; have t_c18 := leI c18; have tqz_ := qz22_; have tnb_ := nib2 tn1449_ tn1448_; have tqz_ := qz41_; omega), ?_⟩; unfold cNN; (try rw [vw2]); (try rw [ew2]); (try (repeat (first | rw [if_pos (by with_reducible assumption)] | rw [if_neg (by with_reducible assumption)] | rw [if_pos (by first | exact c8 | exact c9 | exact c12 | exact c18)] | rw [if_neg (by first | exact c8 | exact c9 | exact c12 | exact c18)] | rw [if_pos (by (have t_c8 := neI c8; have t_c9 := eqI c9; have t_c12 := nltI c12; have t_c18 := leI c18; have tqz_ := qz22_; have tnb_ := nib2 tn1449_ tn1448_; have tqz_ := qz41_; omega))] | rw [if_neg (by (have t_c8 := neI c8; have t_c9 := eqI c9; have t_c12 := nltI c12; have t_c18 := leI c18; have tqz_ := qz22_; have tnb_ := nib2 tn1449_ tn1448_; have tqz_ := qz41_; omega))] | rw [if_pos (by decide)] | rw [if_neg (by decide)] | rw [if_pos (by skip; assumption)] | rw [if_neg (by skip; assumption)]))); all_goals rfl)⟩, ⟨by rw [ht]; exact hP9, hD9⟩⟩, hS.F ht⟩) hS.2.2 dX5_nextNumber_59
        · skip
          refine lv_aload_n hx hb dX5_nextNumber_42 rfl (lv_at hl 1 rfl) ?_
          refine lv_iconst (v := 3) hx hb dX5_nextNumber_43 rfl ?_
          refine lv_aload_n hx hb dX5_nextNumber_44 rfl (lv_at hl 1 rfl) ?_
          refine va_get (D := (dC, dI)) (ci := 5) (v := .int (nI u6)) (C := RX5) (T := TX5) (N := 12) hx hb hg inG5 hown hK.1 hP 0 rfl rfl 6 (Nat.le_of_ble_eq_true rfl) (hg _ wt_116) (fun _ h9 => h9) rfl dX5_nextNumber_45 ?_
          obtain ⟨hPc, hDc, hFc⟩ := va_sub3 (ws' := [(h0, .inr (5, [.ref tp, .ref td, .int u3, .int u4, .int x2, .int u5, .int (nI u6), .int (nI u7), .int x6, .int x7, .int x8, .int x9]))]) hP hD hS hA [0] (by decide +kernel) rfl
          refine va_calli (va_runV (As := [.int 3, .int (nI u6)]) (rest := []) ⟨hx, hb, hml, hown, hg⟩ (c_X5_refuseE l dC dI G _ h0 tp td u3 u4 x2 u5 (nI u6) (nI u7) x6 x7 x8 x9 3 (nI u6)) (kwV hg mfX5_refuse wt_386 ⟨Nat.le_of_ble_eq_true rfl, Nat.le_of_ble_eq_true rfl⟩) (preVW hK hPc hDc (ci := 5) (r := (RX5, TX5, 12)) rfl rfl) rfl rfl hl.1 rfl (lv_room (Nat.le_of_ble_eq_true rfl)) dX5_nextNumber_48 ⟨Nat.le_of_ble_eq_true rfl, Nat.le_of_ble_eq_true rfl⟩) hS (fun q _ h => hFc q h) hFc (fun r19 ur19 t H1 locs ht hvm w20 hB hz1 hk1 hS => ?_)
          obtain ⟨u21, u22⟩ := ur19
          obtain ⟨hP1, hD1⟩ := hB
          rw [ht] at hP1
          obtain ⟨hP, hD⟩ := va_join (wr := [(tp, .inr (7, [.int (nI T), .ref ta])), (ta, .inl (G 0, 320, .inl f))]) (w1 := [(h0, .inr (5, [.ref tp, .ref td, .int u21, .int u22, .int x2, .int u5, .int (nI u6), .int (nI u7), .int x6, .int x7, .int x8, .int x9]))]) hP hD [0] [1, 2] rfl rfl (by decide +kernel) (by decide +kernel) hk1 hFc hP1 hD1
          generalize H1 = H at hP hS ⊢
          obtain ⟨w20, w20x⟩ := w20
          subst w20
          have ew20 : cRF 3 (u3, u4, u5, u6, u7) = (u21, u22, u5, u6, u7) := (by show (flB _ _, flP _ _ _, _, _, _) = _; rw [← w20x.1, ← w20x.2])
          refine lv_if_eq (tgt := 58) hx hb dX5_nextNumber_51 rfl (fun c23 => ?_) (fun c23 => ?_)
          · skip
            refine lv_iconst (v := 0) hx hb dX5_nextNumber_58 rfl ?_
            have hpost : ((0 : Int32) = 0 ∨ ((0 : Int32) = 1 ∧ xlo.toInt ≤ (valN f T u6 (u7 - u6)).toInt ∧ (valN f T u6 (u7 - u6)).toInt ≤ xhi.toInt)) ∧ (0 : Int32) = (cNN f T xlo xhi x0 x1 x3 P).1 := by
              refine ⟨Or.inl rfl, ?_⟩
              unfold cNN
              (try rw [vw2])
              (try rw [ew2])
              (try rw [ew20])
              (try (repeat (first | rw [if_pos (by with_reducible assumption)] | rw [if_neg (by with_reducible assumption)] | rw [if_pos (by first | exact c8 | exact c9 | exact c12 | exact c18 | exact c23)] | rw [if_neg (by first | exact c8 | exact c9 | exact c12 | exact c18 | exact c23)] | rw [if_pos (by (have t_c8 := neI c8; have t_c9 := eqI c9; have t_c12 := nltI c12; have t_c18 := nleI c18; have t_c23 := eqI c23; have tqz_ := qz22_; have tnb_ := nib2 tn1449_ tn1448_; have tqz_ := qz41_; omega))] | rw [if_neg (by (have t_c8 := neI c8; have t_c9 := eqI c9; have t_c12 := nltI c12; have t_c18 := nleI c18; have t_c23 := eqI c23; have tqz_ := qz22_; have tnb_ := nib2 tn1449_ tn1448_; have tqz_ := qz41_; omega))] | rw [if_pos (by decide)] | rw [if_neg (by decide)] | rw [if_pos (by skip; assumption)] | rw [if_neg (by skip; assumption)])))
              all_goals rfl
            obtain ⟨hP9, hD9⟩ := va_sub2 (ws' := [(h0, .inr (5, [.ref tp, .ref td, .int u21, .int u22, .int x2, .int u5, .int (nI u6), .int (nI u7), .int x6, .int x7, .int x8, .int x9])), (tp, .inr (7, [.int (nI T), .ref ta])), (ta, .inl (G 0, 320, .inl f))]) hP hD [2, 0, 1] (by decide +kernel) rfl
            refine W.widen (k := 0) (n := 0) (Nat.le_of_ble_eq_true rfl) (Nat.le_of_ble_eq_true rfl) ?_
            exact W.zret (v := 0) hx hb hr (by first | rfl | decide | exact rfl) (fun t ht hW => ⟨⟨0, (u21, u22, u5, u6, u7), rfl, ⟨hpost, (by refine ⟨by (have t_c8 := neI c8; have t_c9 := eqI c9; have t_c12 := nltI c12; have t_c18 := nleI c18; have t_c23 := eqI c23; have tqz_ := qz22_; have tnb_ := nib2 tn1449_ tn1448_; have tqz_ := qz41_; omega), by (have t_c8 := neI c8; have t_c9 := eqI c9; have t_c12 := nltI c12; have t_c18 := nleI c18; have t_c23 := eqI c23; have tqz_ := qz22_; have tnb_ := nib2 tn1449_ tn1448_; have tqz_ := qz41_; omega), ?_⟩; unfold cNN; (try rw [vw2]); (try rw [ew2]); (try rw [ew20]); (try (repeat (first | rw [if_pos (by with_reducible assumption)] | rw [if_neg (by with_reducible assumption)] | rw [if_pos (by first | exact c8 | exact c9 | exact c12 | exact c18 | exact c23)] | rw [if_neg (by first | exact c8 | exact c9 | exact c12 | exact c18 | exact c23)] | rw [if_pos (by (have t_c8 := neI c8; have t_c9 := eqI c9; have t_c12 := nltI c12; have t_c18 := nleI c18; have t_c23 := eqI c23; have tqz_ := qz22_; have tnb_ := nib2 tn1449_ tn1448_; have tqz_ := qz41_; omega))] | rw [if_neg (by (have t_c8 := neI c8; have t_c9 := eqI c9; have t_c12 := nltI c12; have t_c18 := nleI c18; have t_c23 := eqI c23; have tqz_ := qz22_; have tnb_ := nib2 tn1449_ tn1448_; have tqz_ := qz41_; omega))] | rw [if_pos (by decide)] | rw [if_neg (by decide)] | rw [if_pos (by skip; assumption)] | rw [if_neg (by skip; assumption)]))); all_goals rfl)⟩, ⟨by rw [ht]; exact hP9, hD9⟩⟩, hS.F ht⟩) hS.2.2 dX5_nextNumber_59
          · skip
            exact absurd c23 (by decide)
    · skip
      refine lv_aload_n hx hb dX5_nextNumber_17 rfl (lv_at hl 0 rfl) ?_
      refine lv_iconst (v := 2) hx hb dX5_nextNumber_18 rfl ?_
      refine lv_aload_n hx hb dX5_nextNumber_19 rfl (lv_at hl 0 rfl) ?_
      refine va_get (D := (dC, dI)) (ci := 5) (v := .int (nI u6)) (C := RX5) (T := TX5) (N := 12) hx hb hg inG5 hown hK.1 hP 0 rfl rfl 6 (Nat.le_of_ble_eq_true rfl) (hg _ wt_116) (fun _ h9 => h9) rfl dX5_nextNumber_20 ?_
      obtain ⟨hPc, hDc, hFc⟩ := va_sub3 (ws' := [(h0, .inr (5, [.ref tp, .ref td, .int u3, .int u4, .int x2, .int u5, .int (nI u6), .int (nI u7), .int x6, .int x7, .int x8, .int x9]))]) hP hD hS hA [0] (by decide +kernel) rfl
      refine va_calli (va_runV (As := [.int 2, .int (nI u6)]) (rest := []) ⟨hx, hb, hml, hown, hg⟩ (c_X5_refuseE l dC dI G _ h0 tp td u3 u4 x2 u5 (nI u6) (nI u7) x6 x7 x8 x9 2 (nI u6)) (kwV hg mfX5_refuse wt_386 ⟨Nat.le_of_ble_eq_true rfl, Nat.le_of_ble_eq_true rfl⟩) (preVW hK hPc hDc (ci := 5) (r := (RX5, TX5, 12)) rfl rfl) rfl rfl hl.1 rfl (lv_room (Nat.le_of_ble_eq_true rfl)) dX5_nextNumber_23 ⟨Nat.le_of_ble_eq_true rfl, Nat.le_of_ble_eq_true rfl⟩) hS (fun q _ h => hFc q h) hFc (fun r24 ur24 t H1 locs ht hvm w25 hB hz1 hk1 hS => ?_)
      obtain ⟨u26, u27⟩ := ur24
      obtain ⟨hP1, hD1⟩ := hB
      rw [ht] at hP1
      obtain ⟨hP, hD⟩ := va_join (wr := [(tp, .inr (7, [.int (nI T), .ref ta])), (ta, .inl (G 0, 320, .inl f))]) (w1 := [(h0, .inr (5, [.ref tp, .ref td, .int u26, .int u27, .int x2, .int u5, .int (nI u6), .int (nI u7), .int x6, .int x7, .int x8, .int x9]))]) hP hD [0] [1, 2] rfl rfl (by decide +kernel) (by decide +kernel) hk1 hFc hP1 hD1
      generalize H1 = H at hP hS ⊢
      obtain ⟨w25, w25x⟩ := w25
      subst w25
      have ew25 : cRF 2 (u3, u4, u5, u6, u7) = (u26, u27, u5, u6, u7) := (by show (flB _ _, flP _ _ _, _, _, _) = _; rw [← w25x.1, ← w25x.2])
      have hpost : ((0 : Int32) = 0 ∨ ((0 : Int32) = 1 ∧ xlo.toInt ≤ (valN f T u6 (u7 - u6)).toInt ∧ (valN f T u6 (u7 - u6)).toInt ≤ xhi.toInt)) ∧ (0 : Int32) = (cNN f T xlo xhi x0 x1 x3 P).1 := by
        refine ⟨Or.inl rfl, ?_⟩
        unfold cNN
        (try rw [vw2])
        (try rw [ew2])
        (try rw [ew25])
        (try (repeat (first | rw [if_pos (by with_reducible assumption)] | rw [if_neg (by with_reducible assumption)] | rw [if_pos (by first | exact c8 | exact c9)] | rw [if_neg (by first | exact c8 | exact c9)] | rw [if_pos (by (have t_c8 := neI c8; have t_c9 := neI c9; have tqz_ := qz22_; have tnb_ := nib2 tn1449_ tn1448_; have tqz_ := qz41_; omega))] | rw [if_neg (by (have t_c8 := neI c8; have t_c9 := neI c9; have tqz_ := qz22_; have tnb_ := nib2 tn1449_ tn1448_; have tqz_ := qz41_; omega))] | rw [if_pos (by decide)] | rw [if_neg (by decide)] | rw [if_pos (by skip; assumption)] | rw [if_neg (by skip; assumption)])))
        all_goals rfl
      obtain ⟨hP9, hD9⟩ := va_sub2 (ws' := [(h0, .inr (5, [.ref tp, .ref td, .int u26, .int u27, .int x2, .int u5, .int (nI u6), .int (nI u7), .int x6, .int x7, .int x8, .int x9])), (tp, .inr (7, [.int (nI T), .ref ta])), (ta, .inl (G 0, 320, .inl f))]) hP hD [2, 0, 1] (by decide +kernel) rfl
      refine W.widen (k := 0) (n := 0) (Nat.le_of_ble_eq_true rfl) (Nat.le_of_ble_eq_true rfl) ?_
      exact W.zret (v := 0) hx hb hr (by first | rfl | decide | exact rfl) (fun t ht hW => ⟨⟨0, (u26, u27, u5, u6, u7), rfl, ⟨hpost, (by refine ⟨by (have t_c8 := neI c8; have t_c9 := neI c9; have tqz_ := qz22_; have tnb_ := nib2 tn1449_ tn1448_; have tqz_ := qz41_; omega), by (have t_c8 := neI c8; have t_c9 := neI c9; have tqz_ := qz22_; have tnb_ := nib2 tn1449_ tn1448_; have tqz_ := qz41_; omega), ?_⟩; unfold cNN; (try rw [vw2]); (try rw [ew2]); (try rw [ew25]); (try (repeat (first | rw [if_pos (by with_reducible assumption)] | rw [if_neg (by with_reducible assumption)] | rw [if_pos (by first | exact c8 | exact c9)] | rw [if_neg (by first | exact c8 | exact c9)] | rw [if_pos (by (have t_c8 := neI c8; have t_c9 := neI c9; have tqz_ := qz22_; have tnb_ := nib2 tn1449_ tn1448_; have tqz_ := qz41_; omega))] | rw [if_neg (by (have t_c8 := neI c8; have t_c9 := neI c9; have tqz_ := qz22_; have tnb_ := nib2 tn1449_ tn1448_; have tqz_ := qz41_; omega))] | rw [if_pos (by decide)] | rw [if_neg (by decide)] | rw [if_pos (by skip; assumption)] | rw [if_neg (by skip; assumption)]))); all_goals rfl)⟩, ⟨by rw [ht]; exact hP9, hD9⟩⟩, hS.F ht⟩) hS.2.2 dX5_nextNumber_26
  · skip
    refine lv_iconst (v := 0) hx hb dX5_nextNumber_7 rfl ?_
    have hpost : ((0 : Int32) = 0 ∨ ((0 : Int32) = 1 ∧ xlo.toInt ≤ (valN f T u6 (u7 - u6)).toInt ∧ (valN f T u6 (u7 - u6)).toInt ≤ xhi.toInt)) ∧ (0 : Int32) = (cNN f T xlo xhi x0 x1 x3 P).1 := by
      refine ⟨Or.inl rfl, ?_⟩
      unfold cNN
      (try rw [vw2])
      (try rw [ew2])
      (try (repeat (first | rw [if_pos (by with_reducible assumption)] | rw [if_neg (by with_reducible assumption)] | rw [if_pos (by first | exact c8)] | rw [if_neg (by first | exact c8)] | rw [if_pos (by (have t_c8 := eqI c8; have : (0 : Int32).toInt = 0 := qI_0; have tnb_ := nib2 tn1449_ tn1448_; have tqz_ := qz41_; omega))] | rw [if_neg (by (have t_c8 := eqI c8; have : (0 : Int32).toInt = 0 := qI_0; have tnb_ := nib2 tn1449_ tn1448_; have tqz_ := qz41_; omega))] | rw [if_pos (by decide)] | rw [if_neg (by decide)] | rw [if_pos (by skip; assumption)] | rw [if_neg (by skip; assumption)])))
      all_goals rfl
    obtain ⟨hP9, hD9⟩ := va_sub2 (ws' := [(h0, .inr (5, [.ref tp, .ref td, .int u3, .int u4, .int x2, .int u5, .int (nI u6), .int (nI u7), .int x6, .int x7, .int x8, .int x9])), (tp, .inr (7, [.int (nI T), .ref ta])), (ta, .inl (G 0, 320, .inl f))]) hP hD [0, 1, 2] (by decide +kernel) rfl
    refine W.widen (k := 0) (n := 0) (Nat.le_of_ble_eq_true rfl) (Nat.le_of_ble_eq_true rfl) ?_
    exact W.zret (v := 0) hx hb hr (by first | rfl | decide | exact rfl) (fun t ht hW => ⟨⟨0, (u3, u4, u5, u6, u7), rfl, ⟨hpost, (by refine ⟨by (have t_c8 := eqI c8; have : (0 : Int32).toInt = 0 := qI_0; have tnb_ := nib2 tn1449_ tn1448_; have tqz_ := qz41_; omega), by (have t_c8 := eqI c8; have : (0 : Int32).toInt = 0 := qI_0; have tnb_ := nib2 tn1449_ tn1448_; have tqz_ := qz41_; omega), ?_⟩; unfold cNN; (try rw [vw2]); (try rw [ew2]); (try (repeat (first | rw [if_pos (by with_reducible assumption)] | rw [if_neg (by with_reducible assumption)] | rw [if_pos (by first | exact c8)] | rw [if_neg (by first | exact c8)] | rw [if_pos (by (have t_c8 := eqI c8; have : (0 : Int32).toInt = 0 := qI_0; have tnb_ := nib2 tn1449_ tn1448_; have tqz_ := qz41_; omega))] | rw [if_neg (by (have t_c8 := eqI c8; have : (0 : Int32).toInt = 0 := qI_0; have tnb_ := nib2 tn1449_ tn1448_; have tqz_ := qz41_; omega))] | rw [if_pos (by decide)] | rw [if_neg (by decide)] | rw [if_pos (by skip; assumption)] | rw [if_neg (by skip; assumption)]))); all_goals rfl)⟩, ⟨by rw [ht]; exact hP9, hD9⟩⟩, hS.F ht⟩) hS.2.2 dX5_nextNumber_8

set_option maxHeartbeats 1000000 in
set_option maxRecDepth 100000 in
theorem c_X5_nextStopE (l : Launch) (dC : Nat → ClassId) (dI : Nat → Nat → Nat) (G : Nat → ClassId) (sz : Nat) (h0 tp td ta T P : Nat) (x0 x1 x2 x3 x6 x7 x8 x9 x4 : Int32) (f : Nat → Int32) (hT : T ≤ 320) (hP0 : P ≤ T) : Met l yX5_nextStop (Cond.code yX5_nextStop cX5_nextStop 1 (some .boolean) :: GT) ({ frames := 2, cells := 0, slots := 0, locals := 45 } : Room) (PcW [.ref h0] dC dI G [(h0, .inr (5, [.ref tp, .ref td, .int x0, .int x1, .int x2, .int x3, .int x4, .int (nI P), .int x6, .int x7, .int x8, .int x9])), (tp, .inr (7, [.int (nI T), .ref ta])), (ta, .inl (G 0, 320, .inl f))] sz) (va_Qi (fun (r : Int32) (u : Int32 × Int32 × Int32 × Nat × Nat) => match u with | (u0, u1, u3, u4, u5) => ((r = 0 ∨ r = 1) ∧ r = (cNS f T x0 x1 x3 P).1) ∧ u4 ≤ u5 ∧ u5 ≤ T ∧ (u0, u1, u3, u4, u5) = (cNS f T x0 x1 x3 P).2) (fun (u : Int32 × Int32 × Int32 × Nat × Nat) (t : State) => match u with | (u0, u1, u3, u4, u5) => va_P (dC, dI) vwCl [(h0, .inr (5, [.ref tp, .ref td, .int u0, .int u1, .int x2, .int u3, .int (nI u4), .int (nI u5), .int x6, .int x7, .int x8, .int x9])), (tp, .inr (7, [.int (nI T), .ref ta])), (ta, .inl (G 0, 320, .inl f))] t.heap ∧ va_D (va_A [(h0, .inr (5, [.ref tp, .ref td, .int x0, .int x1, .int x2, .int x3, .int x4, .int (nI P), .int x6, .int x7, .int x8, .int x9])), (tp, .inr (7, [.int (nI T), .ref ta])), (ta, .inl (G 0, 320, .inl f))] sz) [(h0, .inr (5, [.ref tp, .ref td, .int u0, .int u1, .int x2, .int u3, .int (nI u4), .int (nI u5), .int x6, .int x7, .int x8, .int x9])), (tp, .inr (7, [.int (nI T), .ref ta])), (ta, .inl (G 0, 320, .inl f))]) (va_A [(h0, .inr (5, [.ref tp, .ref td, .int x0, .int x1, .int x2, .int x3, .int x4, .int (nI P), .int x6, .int x7, .int x8, .int x9])), (tp, .inr (7, [.int (nI T), .ref ta])), (ta, .inl (G 0, 320, .inl f))] sz)) 0 0 (va_A [(h0, .inr (5, [.ref tp, .ref td, .int x0, .int x1, .int x2, .int x3, .int x4, .int (nI P), .int x6, .int x7, .int x8, .int x9])), (tp, .inr (7, [.int (nI T), .ref ta])), (ta, .inl (G 0, 320, .inl f))] sz) := by
  have hT_ := hT
  have tn1450_ : nIT T := fun _ => nI_toInt (by omega)
  refine Met.ofW (cc := cX5_nextStop) (maxL := 1) (ret := (some .boolean)) (by decide) rfl ?_
  intro p e s m args below meth c s₁ Bd hml hv
  obtain ⟨rfl, hsz, hP, hK, hD0⟩ := hv
  have hx := Bd.exec
  have hb := Bd.bytes
  have hr := Bd.returns
  have hg : ∀ w ∈ GT, w.before ([.ref h0] : List Value).toArray s = true := fun w h => atoms_spec (ws := Cond.code yX5_nextStop cX5_nextStop 1 (some .boolean) :: GT) Bd.pre w (List.mem_cons_of_mem _ h)
  have hown : s.vm.findClass RX5 = some m.cls := findClass_of_methodNamed Bd.named
  have hlocks := Bd.notSynchronized
  subst hsz
  have hD := hD0.self (sz := s.heap.size)
  generalize hAe : va_A [(h0, .inr (5, [.ref tp, .ref td, .int x0, .int x1, .int x2, .int x3, .int x4, .int (nI P), .int x6, .int x7, .int x8, .int x9])), (tp, .inr (7, [.int (nI T), .ref ta])), (ta, .inl (G 0, 320, .inl f))] s.heap.size = A at hD ⊢
  have hA : ∀ q : Nat, s.heap.size ≤ q → A q := fun q h => by rw [← hAe]; exact Or.inr h
  have hS : va_S A s.heap s.heap [] := va_S.rf
  have hl := lv_entry ([.ref h0]) (n := 1) (Nat.le_of_ble_eq_true rfl)
  rw [lg_entry_eq]
  generalize (lg_sl ([.ref h0]) ++ List.replicate (1 - (lg_sl ([.ref h0])).length) Slot.unset).toArray = ls at hl ⊢
  have hl : lv_has ls 1 [(0, .ref h0)] := hl
  refine lv_aload_n hx hb dX5_nextStop_0 rfl (lv_at hl 0 rfl) ?_
  obtain ⟨hPc, hDc, hFc⟩ := va_sub3 (ws' := [(h0, .inr (5, [.ref tp, .ref td, .int x0, .int x1, .int x2, .int x3, .int x4, .int (nI P), .int x6, .int x7, .int x8, .int x9])), (tp, .inr (7, [.int (nI T), .ref ta])), (ta, .inl (G 0, 320, .inl f))]) hP hD hS hA [0, 1, 2] (by decide +kernel) rfl
  have tn1451_ : nIT P := fun _ => nI_toInt (by omega)
  refine va_calli (va_runV (As := []) (rest := []) ⟨hx, hb, hml, hown, hg⟩ (c_X5_nextTokenE l dC dI G _ h0 tp td ta T P x0 x1 x2 x3 x6 x7 x8 x9 x4 f hT_ hP0) (kwV hg mfX5_nextToken wt_374 ⟨Nat.le_of_ble_eq_true rfl, Nat.le_of_ble_eq_true rfl⟩) (preVW hK hPc hDc (ci := 5) (r := (RX5, TX5, 12)) rfl rfl) rfl rfl hl.1 rfl (lv_room (Nat.le_of_ble_eq_true rfl)) dX5_nextStop_1 ⟨Nat.le_of_ble_eq_true rfl, Nat.le_of_ble_eq_true rfl⟩) hS (fun q _ h => hFc q h) hFc (fun r1 ur1 t H1 locs ht hvm w2 hB hz1 hk1 hS => ?_)
  obtain ⟨u3, u4, u5, u6, u7⟩ := ur1
  obtain ⟨hP1, hD1⟩ := hB
  rw [ht] at hP1
  obtain ⟨hP, hD⟩ := va_join (wr := []) (w1 := [(h0, .inr (5, [.ref tp, .ref td, .int u3, .int u4, .int x2, .int u5, .int (nI u6), .int (nI u7), .int x6, .int x7, .int x8, .int x9])), (tp, .inr (7, [.int (nI T), .ref ta])), (ta, .inl (G 0, 320, .inl f))]) hP hD [0, 1, 2] [] rfl rfl (by decide +kernel) (by decide +kernel) hk1 hFc hP1 hD1
  generalize H1 = H at hP hS ⊢
  obtain ⟨w2, w2x⟩ := w2
  have vw2 : ntG f T (pst f T 32 32 P) = r1 := w2.symm
  have ew2 : ntS1 f T (pst f T 32 32 P) x0 x1 x3 = (u3, u4, u5, u6, u7) := w2x.2.2.symm
  refine lv_if_eq (tgt := 31) hx hb dX5_nextStop_4 rfl (fun c8 => ?_) (fun c8 => ?_)
  · skip
    refine lv_iconst (v := 0) hx hb dX5_nextStop_31 rfl ?_
    have hpost : ((0 : Int32) = 0 ∨ (0 : Int32) = 1) ∧ (0 : Int32) = (cNS f T x0 x1 x3 P).1 := by
      refine ⟨Or.inl rfl, ?_⟩
      unfold cNS
      (try rw [vw2])
      (try rw [ew2])
      (try (repeat (first | rw [if_pos (by with_reducible assumption)] | rw [if_neg (by with_reducible assumption)] | rw [if_pos (by first | exact c8)] | rw [if_neg (by first | exact c8)] | rw [if_pos (by (have t_c8 := eqI c8; have : (0 : Int32).toInt = 0 := qI_0; have tnb_ := nib2 tn1451_ tn1450_; have tqz_ := qz41_; omega))] | rw [if_neg (by (have t_c8 := eqI c8; have : (0 : Int32).toInt = 0 := qI_0; have tnb_ := nib2 tn1451_ tn1450_; have tqz_ := qz41_; omega))] | rw [if_pos (by decide)] | rw [if_neg (by decide)] | rw [if_pos (by skip; assumption)] | rw [if_neg (by skip; assumption)])))
      all_goals rfl
    obtain ⟨hP9, hD9⟩ := va_sub2 (ws' := [(h0, .inr (5, [.ref tp, .ref td, .int u3, .int u4, .int x2, .int u5, .int (nI u6), .int (nI u7), .int x6, .int x7, .int x8, .int x9])), (tp, .inr (7, [.int (nI T), .ref ta])), (ta, .inl (G 0, 320, .inl f))]) hP hD [0, 1, 2] (by decide +kernel) rfl
    refine W.widen (k := 0) (n := 0) (Nat.le_of_ble_eq_true rfl) (Nat.le_of_ble_eq_true rfl) ?_
    exact W.zret (v := 0) hx hb hr (by first | rfl | decide | exact rfl) (fun t ht hW => ⟨⟨0, (u3, u4, u5, u6, u7), rfl, ⟨hpost, (by refine ⟨by (have t_c8 := eqI c8; have : (0 : Int32).toInt = 0 := qI_0; have tnb_ := nib2 tn1451_ tn1450_; have tqz_ := qz41_; omega), by (have t_c8 := eqI c8; have : (0 : Int32).toInt = 0 := qI_0; have tnb_ := nib2 tn1451_ tn1450_; have tqz_ := qz41_; omega), ?_⟩; unfold cNS; (try rw [vw2]); (try rw [ew2]); (try (repeat (first | rw [if_pos (by with_reducible assumption)] | rw [if_neg (by with_reducible assumption)] | rw [if_pos (by first | exact c8)] | rw [if_neg (by first | exact c8)] | rw [if_pos (by (have t_c8 := eqI c8; have : (0 : Int32).toInt = 0 := qI_0; have tnb_ := nib2 tn1451_ tn1450_; have tqz_ := qz41_; omega))] | rw [if_neg (by (have t_c8 := eqI c8; have : (0 : Int32).toInt = 0 := qI_0; have tnb_ := nib2 tn1451_ tn1450_; have tqz_ := qz41_; omega))] | rw [if_pos (by decide)] | rw [if_neg (by decide)] | rw [if_pos (by skip; assumption)] | rw [if_neg (by skip; assumption)]))); all_goals rfl)⟩, ⟨by rw [ht]; exact hP9, hD9⟩⟩, hS.F ht⟩) hS.2.2 dX5_nextStop_32
  · skip
    refine lv_aload_n hx hb dX5_nextStop_7 rfl (lv_at hl 0 rfl) ?_
    refine va_get (D := (dC, dI)) (ci := 5) (v := .int u5) (C := RX5) (T := TX5) (N := 12) hx hb hg inG5 hown hK.1 hP 0 rfl rfl 5 (Nat.le_of_ble_eq_true rfl) (hg _ wt_115) (fun _ h9 => h9) rfl dX5_nextStop_8 ?_
    refine lv_iconst (v := 3) hx hb dX5_nextStop_11 rfl ?_
    refine lv_icmp_eq (tgt := 27) hx hb dX5_nextStop_12 rfl (fun c9 => ?_) (fun c9 => ?_)
    · skip
      refine lv_iconst (v := 1) hx hb dX5_nextStop_27 rfl ?_
      refine lv_goto (tgt := 32) hx hb dX5_nextStop_28 rfl ?_
      have hpost : ((1 : Int32) = 0 ∨ (1 : Int32) = 1) ∧ (1 : Int32) = (cNS f T x0 x1 x3 P).1 := by
        refine ⟨Or.inr rfl, ?_⟩
        unfold cNS
        (try rw [vw2])
        (try rw [ew2])
        (try (repeat (first | rw [if_pos (by with_reducible assumption)] | rw [if_neg (by with_reducible assumption)] | rw [if_pos (by first | exact c8 | exact c9)] | rw [if_neg (by first | exact c8 | exact c9)] | rw [if_pos (by (have t_c8 := neI c8; have t_c9 := eqI c9; have tqz_ := qz23_; have tnb_ := nib2 tn1451_ tn1450_; have tqz_ := qz41_; omega))] | rw [if_neg (by (have t_c8 := neI c8; have t_c9 := eqI c9; have tqz_ := qz23_; have tnb_ := nib2 tn1451_ tn1450_; have tqz_ := qz41_; omega))] | rw [if_pos (by decide)] | rw [if_neg (by decide)] | rw [if_pos (by skip; assumption)] | rw [if_neg (by skip; assumption)])))
        all_goals rfl
      obtain ⟨hP9, hD9⟩ := va_sub2 (ws' := [(h0, .inr (5, [.ref tp, .ref td, .int u3, .int u4, .int x2, .int u5, .int (nI u6), .int (nI u7), .int x6, .int x7, .int x8, .int x9])), (tp, .inr (7, [.int (nI T), .ref ta])), (ta, .inl (G 0, 320, .inl f))]) hP hD [0, 1, 2] (by decide +kernel) rfl
      refine W.widen (k := 0) (n := 0) (Nat.le_of_ble_eq_true rfl) (Nat.le_of_ble_eq_true rfl) ?_
      exact W.zret (v := 1) hx hb hr (by first | rfl | decide | exact rfl) (fun t ht hW => ⟨⟨1, (u3, u4, u5, u6, u7), rfl, ⟨hpost, (by refine ⟨by (have t_c8 := neI c8; have t_c9 := eqI c9; have tqz_ := qz23_; have tnb_ := nib2 tn1451_ tn1450_; have tqz_ := qz41_; omega), by (have t_c8 := neI c8; have t_c9 := eqI c9; have tqz_ := qz23_; have tnb_ := nib2 tn1451_ tn1450_; have tqz_ := qz41_; omega), ?_⟩; unfold cNS; (try rw [vw2]); (try rw [ew2]); (try (repeat (first | rw [if_pos (by with_reducible assumption)] | rw [if_neg (by with_reducible assumption)] | rw [if_pos (by first | exact c8 | exact c9)] | rw [if_neg (by first | exact c8 | exact c9)] | rw [if_pos (by (have t_c8 := neI c8; have t_c9 := eqI c9; have tqz_ := qz23_; have tnb_ := nib2 tn1451_ tn1450_; have tqz_ := qz41_; omega))] | rw [if_neg (by (have t_c8 := neI c8; have t_c9 := eqI c9; have tqz_ := qz23_; have tnb_ := nib2 tn1451_ tn1450_; have tqz_ := qz41_; omega))] | rw [if_pos (by decide)] | rw [if_neg (by decide)] | rw [if_pos (by skip; assumption)] | rw [if_neg (by skip; assumption)]))); all_goals rfl)⟩, ⟨by rw [ht]; exact hP9, hD9⟩⟩, hS.F ht⟩) hS.2.2 dX5_nextStop_32
    · skip
      refine lv_aload_n hx hb dX5_nextStop_15 rfl (lv_at hl 0 rfl) ?_
      refine lv_iconst (v := 2) hx hb dX5_nextStop_16 rfl ?_
      refine lv_aload_n hx hb dX5_nextStop_17 rfl (lv_at hl 0 rfl) ?_
      refine va_get (D := (dC, dI)) (ci := 5) (v := .int (nI u6)) (C := RX5) (T := TX5) (N := 12) hx hb hg inG5 hown hK.1 hP 0 rfl rfl 6 (Nat.le_of_ble_eq_true rfl) (hg _ wt_116) (fun _ h9 => h9) rfl dX5_nextStop_18 ?_
      obtain ⟨hPc, hDc, hFc⟩ := va_sub3 (ws' := [(h0, .inr (5, [.ref tp, .ref td, .int u3, .int u4, .int x2, .int u5, .int (nI u6), .int (nI u7), .int x6, .int x7, .int x8, .int x9]))]) hP hD hS hA [0] (by decide +kernel) rfl
      refine va_calli (va_runV (As := [.int 2, .int (nI u6)]) (rest := []) ⟨hx, hb, hml, hown, hg⟩ (c_X5_refuseE l dC dI G _ h0 tp td u3 u4 x2 u5 (nI u6) (nI u7) x6 x7 x8 x9 2 (nI u6)) (kwV hg mfX5_refuse wt_386 ⟨Nat.le_of_ble_eq_true rfl, Nat.le_of_ble_eq_true rfl⟩) (preVW hK hPc hDc (ci := 5) (r := (RX5, TX5, 12)) rfl rfl) rfl rfl hl.1 rfl (lv_room (Nat.le_of_ble_eq_true rfl)) dX5_nextStop_21 ⟨Nat.le_of_ble_eq_true rfl, Nat.le_of_ble_eq_true rfl⟩) hS (fun q _ h => hFc q h) hFc (fun r10 ur10 t H1 locs ht hvm w11 hB hz1 hk1 hS => ?_)
      obtain ⟨u12, u13⟩ := ur10
      obtain ⟨hP1, hD1⟩ := hB
      rw [ht] at hP1
      obtain ⟨hP, hD⟩ := va_join (wr := [(tp, .inr (7, [.int (nI T), .ref ta])), (ta, .inl (G 0, 320, .inl f))]) (w1 := [(h0, .inr (5, [.ref tp, .ref td, .int u12, .int u13, .int x2, .int u5, .int (nI u6), .int (nI u7), .int x6, .int x7, .int x8, .int x9]))]) hP hD [0] [1, 2] rfl rfl (by decide +kernel) (by decide +kernel) hk1 hFc hP1 hD1
      generalize H1 = H at hP hS ⊢
      obtain ⟨w11, w11x⟩ := w11
      subst w11
      have ew11 : cRF 2 (u3, u4, u5, u6, u7) = (u12, u13, u5, u6, u7) := (by show (flB _ _, flP _ _ _, _, _, _) = _; rw [← w11x.1, ← w11x.2])
      refine lv_if_eq (tgt := 31) hx hb dX5_nextStop_24 rfl (fun c14 => ?_) (fun c14 => ?_)
      · skip
        refine lv_iconst (v := 0) hx hb dX5_nextStop_31 rfl ?_
        have hpost : ((0 : Int32) = 0 ∨ (0 : Int32) = 1) ∧ (0 : Int32) = (cNS f T x0 x1 x3 P).1 := by
          refine ⟨Or.inl rfl, ?_⟩
          unfold cNS
          (try rw [vw2])
          (try rw [ew2])
          (try rw [ew11])
          (try (repeat (first | rw [if_pos (by with_reducible assumption)] | rw [if_neg (by with_reducible assumption)] | rw [if_pos (by first | exact c8 | exact c9 | exact c14)] | rw [if_neg (by first | exact c8 | exact c9 | exact c14)] | rw [if_pos (by (have t_c8 := neI c8; have t_c9 := neI c9; have t_c14 := eqI c14; have tqz_ := qz23_; have tnb_ := nib2 tn1451_ tn1450_; have tqz_ := qz41_; omega))] | rw [if_neg (by (have t_c8 := neI c8; have t_c9 := neI c9; have t_c14 := eqI c14; have tqz_ := qz23_; have tnb_ := nib2 tn1451_ tn1450_; have tqz_ := qz41_; omega))] | rw [if_pos (by decide)] | rw [if_neg (by decide)] | rw [if_pos (by skip; assumption)] | rw [if_neg (by skip; assumption)])))
          all_goals rfl
        obtain ⟨hP9, hD9⟩ := va_sub2 (ws' := [(h0, .inr (5, [.ref tp, .ref td, .int u12, .int u13, .int x2, .int u5, .int (nI u6), .int (nI u7), .int x6, .int x7, .int x8, .int x9])), (tp, .inr (7, [.int (nI T), .ref ta])), (ta, .inl (G 0, 320, .inl f))]) hP hD [2, 0, 1] (by decide +kernel) rfl
        refine W.widen (k := 0) (n := 0) (Nat.le_of_ble_eq_true rfl) (Nat.le_of_ble_eq_true rfl) ?_
        exact W.zret (v := 0) hx hb hr (by first | rfl | decide | exact rfl) (fun t ht hW => ⟨⟨0, (u12, u13, u5, u6, u7), rfl, ⟨hpost, (by refine ⟨by (have t_c8 := neI c8; have t_c9 := neI c9; have t_c14 := eqI c14; have tqz_ := qz23_; have tnb_ := nib2 tn1451_ tn1450_; have tqz_ := qz41_; omega), by (have t_c8 := neI c8; have t_c9 := neI c9; have t_c14 := eqI c14; have tqz_ := qz23_; have tnb_ := nib2 tn1451_ tn1450_; have tqz_ := qz41_; omega), ?_⟩; unfold cNS; (try rw [vw2]); (try rw [ew2]); (try rw [ew11]); (try (repeat (first | rw [if_pos (by with_reducible assumption)] | rw [if_neg (by with_reducible assumption)] | rw [if_pos (by first | exact c8 | exact c9 | exact c14)] | rw [if_neg (by first | exact c8 | exact c9 | exact c14)] | rw [if_pos (by (have t_c8 := neI c8; have t_c9 := neI c9; have t_c14 := eqI c14; have tqz_ := qz23_; have tnb_ := nib2 tn1451_ tn1450_; have tqz_ := qz41_; omega))] | rw [if_neg (by (have t_c8 := neI c8; have t_c9 := neI c9; have t_c14 := eqI c14; have tqz_ := qz23_; have tnb_ := nib2 tn1451_ tn1450_; have tqz_ := qz41_; omega))] | rw [if_pos (by decide)] | rw [if_neg (by decide)] | rw [if_pos (by skip; assumption)] | rw [if_neg (by skip; assumption)]))); all_goals rfl)⟩, ⟨by rw [ht]; exact hP9, hD9⟩⟩, hS.F ht⟩) hS.2.2 dX5_nextStop_32
      · skip
        exact absurd c14 (by decide)

set_option maxHeartbeats 1000000 in
set_option maxRecDepth 100000 in
theorem c_X9_addStretchE (l : Launch) (dC : Nat → ClassId) (dI : Nat → Nat → Nat) (G : Nat → ClassId) (sz : Nat) (h0 a1 a2 a3 a4 a5 a6 N B D : Nat) (x1 x2 : Int32) (f1 f2 : Nat → Int32) (hN_N : N ≤ 10) (hB_B : B ≤ 6) (hD_D : 1 ≤ D ∧ D ≤ 9) : Met l yX9_addStretch (Cond.code yX9_addStretch cX9_addStretch 3 none :: GT) ({ frames := 0, cells := 0, slots := 0, locals := 0 } : Room) (PcW [.ref h0, .int x1, .int x2] dC dI G [(h0, .inr (9, [.int (nI N), .int (nI B), .int (nI D), .ref a1, .ref a2, .ref a3, .ref a4, .ref a5, .ref a6])), (a1, .inl (G 0, 10, .inl f1)), (a2, .inl (G 0, 10, .inl f2))] sz) (va_Qv (fun (u : Nat × (Nat → Int32) × (Nat → Int32)) => match u with | (u0, u1, u2) => u0 = (if N < 10 then N + 1 else N) ∧ u1 = (if N < 10 then upd f1 N x1 else f1) ∧ u2 = (if N < 10 then upd f2 N x2 else f2)) (fun (u : Nat × (Nat → Int32) × (Nat → Int32)) (t : State) => match u with | (u0, u1, u2) => va_P (dC, dI) vwCl [(h0, .inr (9, [.int (nI u0), .int (nI B), .int (nI D), .ref a1, .ref a2, .ref a3, .ref a4, .ref a5, .ref a6])), (a1, .inl (G 0, 10, .inl u1)), (a2, .inl (G 0, 10, .inl u2))] t.heap ∧ va_D (va_A [(h0, .inr (9, [.int (nI N), .int (nI B), .int (nI D), .ref a1, .ref a2, .ref a3, .ref a4, .ref a5, .ref a6])), (a1, .inl (G 0, 10, .inl f1)), (a2, .inl (G 0, 10, .inl f2))] sz) [(h0, .inr (9, [.int (nI u0), .int (nI B), .int (nI D), .ref a1, .ref a2, .ref a3, .ref a4, .ref a5, .ref a6])), (a1, .inl (G 0, 10, .inl u1)), (a2, .inl (G 0, 10, .inl u2))]) (va_A [(h0, .inr (9, [.int (nI N), .int (nI B), .int (nI D), .ref a1, .ref a2, .ref a3, .ref a4, .ref a5, .ref a6])), (a1, .inl (G 0, 10, .inl f1)), (a2, .inl (G 0, 10, .inl f2))] sz)) 0 0 (va_A [(h0, .inr (9, [.int (nI N), .int (nI B), .int (nI D), .ref a1, .ref a2, .ref a3, .ref a4, .ref a5, .ref a6])), (a1, .inl (G 0, 10, .inl f1)), (a2, .inl (G 0, 10, .inl f2))] sz) := by
  have tn1452_ : nIT N := fun _ => nI_toInt (by omega)
  have tn1453_ : nIT B := fun _ => nI_toInt (by omega)
  have tn1454_ : nIT D := fun _ => nI_toInt (by omega)
  refine Met.ofW (cc := cX9_addStretch) (maxL := 3) (ret := none) (by decide) rfl ?_
  intro p e s m args below meth c s₁ Bd hml hv
  obtain ⟨rfl, hsz, hP, hK, hD0⟩ := hv
  have hx := Bd.exec
  have hb := Bd.bytes
  have hr := Bd.returns
  have hg : ∀ w ∈ GT, w.before ([.ref h0, .int x1, .int x2] : List Value).toArray s = true := fun w h => atoms_spec (ws := Cond.code yX9_addStretch cX9_addStretch 3 none :: GT) Bd.pre w (List.mem_cons_of_mem _ h)
  have hown : s.vm.findClass RX9 = some m.cls := findClass_of_methodNamed Bd.named
  have hlocks := Bd.notSynchronized
  subst hsz
  have hD := hD0.self (sz := s.heap.size)
  generalize hAe : va_A [(h0, .inr (9, [.int (nI N), .int (nI B), .int (nI D), .ref a1, .ref a2, .ref a3, .ref a4, .ref a5, .ref a6])), (a1, .inl (G 0, 10, .inl f1)), (a2, .inl (G 0, 10, .inl f2))] s.heap.size = A at hD ⊢
  have hA : ∀ q : Nat, s.heap.size ≤ q → A q := fun q h => by rw [← hAe]; exact Or.inr h
  have hS : va_S A s.heap s.heap [] := va_S.rf
  have hl := lv_entry ([.ref h0, .int x1, .int x2]) (n := 3) (Nat.le_of_ble_eq_true rfl)
  rw [lg_entry_eq]
  generalize (lg_sl ([.ref h0, .int x1, .int x2]) ++ List.replicate (3 - (lg_sl ([.ref h0, .int x1, .int x2])).length) Slot.unset).toArray = ls at hl ⊢
  have hl : lv_has ls 3 [(0, .ref h0), (1, .int x1), (2, .int x2)] := hl
  refine lv_aload_n hx hb dX9_addStretch_0 rfl (lv_at hl 0 rfl) ?_
  refine va_get (D := (dC, dI)) (ci := 9) (v := .int (nI N)) (C := RX9) (T := TX9) (N := 9) hx hb hg inG9 hown hK.1 hP 0 rfl rfl 0 (Nat.le_of_ble_eq_true rfl) (hg _ wt_56) (fun _ h9 => h9) rfl dX9_addStretch_1 ?_
  refine lv_bipush (v := 10) hx hb dX9_addStretch_4 rfl ?_
  refine lv_icmp_ge (tgt := 39) hx hb dX9_addStretch_6 rfl (fun c1 => ?_) (fun c1 => ?_)
  · skip
    have n2 : 10 ≤ N := by have t := leI c1; rw [show (nI (N)).toInt = ((N : Nat) : Int) from tn1452_ ()] at t; have : (10 : Int32).toInt = 10 := qI_10; omega
    obtain ⟨hP9, hD9⟩ := va_sub2 (ws' := [(h0, .inr (9, [.int (nI N), .int (nI B), .int (nI D), .ref a1, .ref a2, .ref a3, .ref a4, .ref a5, .ref a6])), (a1, .inl (G 0, 10, .inl f1)), (a2, .inl (G 0, 10, .inl f2))]) hP hD [0, 1, 2] (by decide +kernel) rfl
    refine W.widen (k := 0) (n := 0) (Nat.le_of_ble_eq_true rfl) (Nat.le_of_ble_eq_true rfl) ?_
    exact W.vret hx hb hr (fun t ht hW => ⟨⟨(N, f1, f2), rfl, (by have t_n2 := n2; have tnb_ := nib3 tn1452_ tn1453_ tn1454_; refine ⟨?_, ?_, ?_⟩ <;> first | (rw [if_pos (by omega)]; done) | (rw [if_neg (by omega)]; done)), ⟨by rw [ht]; exact hP9, hD9⟩⟩, hS.F ht⟩) hS.2.2 dX9_addStretch_39
  · skip
    have n3 : N < 10 := by have t := nleI c1; rw [show (nI (N)).toInt = ((N : Nat) : Int) from tn1452_ ()] at t; have : (10 : Int32).toInt = 10 := qI_10; omega
    refine lv_aload_n hx hb dX9_addStretch_9 rfl (lv_at hl 0 rfl) ?_
    refine va_get (D := (dC, dI)) (ci := 9) (v := .ref a1) (C := RX9) (T := TX9) (N := 9) hx hb hg inG9 hown hK.1 hP 0 rfl rfl 3 (Nat.le_of_ble_eq_true rfl) (hg _ wt_73) (fun _ h9 => h9) rfl dX9_addStretch_10 ?_
    refine lv_aload_n hx hb dX9_addStretch_13 rfl (lv_at hl 0 rfl) ?_
    refine va_get (D := (dC, dI)) (ci := 9) (v := .int (nI N)) (C := RX9) (T := TX9) (N := 9) hx hb hg inG9 hown hK.1 hP 0 rfl rfl 0 (Nat.le_of_ble_eq_true rfl) (hg _ wt_56) (fun _ h9 => h9) rfl dX9_addStretch_14 ?_
    refine lv_iload_n hx hb dX9_addStretch_17 rfl (lv_at hl 1 rfl) ?_
    refine va_iast hx hb hK.1 hP hD hS 1 0 rfl rfl (vp_in_nI (by first | omega | (have t_n3 := n3; have tnb_ := nib3 tn1452_ tn1453_ tn1454_; omega)) (by decide)) dX9_addStretch_18 (fun H locs hP hD hS => ?_)
    rw [nI_clamp (by omega)] at hP hD
    refine lv_aload_n hx hb dX9_addStretch_19 rfl (lv_at hl 0 rfl) ?_
    refine va_get (D := (dC, dI)) (ci := 9) (v := .ref a2) (C := RX9) (T := TX9) (N := 9) hx hb hg inG9 hown hK.1 hP 0 rfl rfl 4 (Nat.le_of_ble_eq_true rfl) (hg _ wt_75) (fun _ h9 => h9) rfl dX9_addStretch_20 ?_
    refine lv_aload_n hx hb dX9_addStretch_23 rfl (lv_at hl 0 rfl) ?_
    refine va_get (D := (dC, dI)) (ci := 9) (v := .int (nI N)) (C := RX9) (T := TX9) (N := 9) hx hb hg inG9 hown hK.1 hP 0 rfl rfl 0 (Nat.le_of_ble_eq_true rfl) (hg _ wt_56) (fun _ h9 => h9) rfl dX9_addStretch_24 ?_
    refine lv_iload_n hx hb dX9_addStretch_27 rfl (lv_at hl 2 rfl) ?_
    refine va_iast hx hb hK.1 hP hD hS 2 0 rfl rfl (vp_in_nI (by first | omega | (have t_n3 := n3; have tnb_ := nib3 tn1452_ tn1453_ tn1454_; omega)) (by decide)) dX9_addStretch_28 (fun H locs hP hD hS => ?_)
    rw [nI_clamp (by omega)] at hP hD
    refine lv_aload_n hx hb dX9_addStretch_29 rfl (lv_at hl 0 rfl) ?_
    refine lv_dup hx hb dX9_addStretch_30 rfl ?_
    refine va_get (D := (dC, dI)) (ci := 9) (v := .int (nI N)) (C := RX9) (T := TX9) (N := 9) hx hb hg inG9 hown hK.1 hP 0 rfl rfl 0 (Nat.le_of_ble_eq_true rfl) (hg _ wt_56) (fun _ h9 => h9) rfl dX9_addStretch_31 ?_
    refine lv_iconst (v := 1) hx hb dX9_addStretch_34 rfl ?_
    refine lv_iadd hx hb dX9_addStretch_35 ?_
    refine lv_cg (y := nI (N + 1)) (by rw [show (1 : Int32) = nI 1 from rfl]; exact nI_add _ _) ?_
    refine va_put (D := (dC, dI)) (ci := 9) (v := .int (nI (N + 1))) (ty := .int) (C := RX9) (T := TX9) (N := 9) hx hb hg inG9 tyX9 tyX9_ok nmX9 hown hK.1 hP hD hS 0 rfl rfl 0 (Nat.le_of_ble_eq_true rfl) (hg _ wt_56) (fun _ h9 => h9) rfl (by decide +kernel) rfl rfl (Nat.le_of_ble_eq_true rfl) dX9_addStretch_36 (fun H locs hP hD hS => ?_)
    obtain ⟨hP9, hD9⟩ := va_sub2 (ws' := [(h0, .inr (9, [.int (nI (N + 1)), .int (nI B), .int (nI D), .ref a1, .ref a2, .ref a3, .ref a4, .ref a5, .ref a6])), (a1, .inl (G 0, 10, .inl (upd f1 N x1))), (a2, .inl (G 0, 10, .inl (upd f2 N x2)))]) hP hD [0, 1, 2] (by decide +kernel) rfl
    refine W.widen (k := 0) (n := 0) (Nat.le_of_ble_eq_true rfl) (Nat.le_of_ble_eq_true rfl) ?_
    exact W.vret hx hb hr (fun t ht hW => ⟨⟨((N + 1), (upd f1 N x1), (upd f2 N x2)), rfl, (by have t_n3 := n3; have tnb_ := nib3 tn1452_ tn1453_ tn1454_; refine ⟨?_, ?_, ?_⟩ <;> first | (rw [if_pos (by omega)]; done) | (rw [if_neg (by omega)]; done)), ⟨by rw [ht]; exact hP9, hD9⟩⟩, hS.F ht⟩) hS.2.2 dX9_addStretch_39

set_option maxHeartbeats 1000000 in
set_option maxRecDepth 100000 in
theorem c_X9_addBearerE (l : Launch) (dC : Nat → ClassId) (dI : Nat → Nat → Nat) (G : Nat → ClassId) (sz : Nat) (h0 a1 a2 a3 a4 a5 a6 N B D : Nat) (x1 x2 x3 : Int32) (f4 f5 f6 : Nat → Int32) (hN_N : N ≤ 10) (hB_B : B ≤ 6) (hD_D : 1 ≤ D ∧ D ≤ 9) : Met l yX9_addBearer (Cond.code yX9_addBearer cX9_addBearer 4 none :: GT) ({ frames := 0, cells := 0, slots := 0, locals := 0 } : Room) (PcW [.ref h0, .int x1, .int x2, .int x3] dC dI G [(h0, .inr (9, [.int (nI N), .int (nI B), .int (nI D), .ref a1, .ref a2, .ref a3, .ref a4, .ref a5, .ref a6])), (a4, .inl (G 0, 6, .inl f4)), (a5, .inl (G 0, 6, .inl f5)), (a6, .inl (G 0, 6, .inl f6))] sz) (va_Qv (fun (u : Nat × (Nat → Int32) × (Nat → Int32) × (Nat → Int32)) => match u with | (u0, u1, u2, u3) => u0 = (if B < 6 then B + 1 else B) ∧ u1 = (if B < 6 then upd f4 B x1 else f4) ∧ u2 = (if B < 6 then upd f5 B x2 else f5) ∧ u3 = (if B < 6 then upd f6 B x3 else f6)) (fun (u : Nat × (Nat → Int32) × (Nat → Int32) × (Nat → Int32)) (t : State) => match u with | (u0, u1, u2, u3) => va_P (dC, dI) vwCl [(h0, .inr (9, [.int (nI N), .int (nI u0), .int (nI D), .ref a1, .ref a2, .ref a3, .ref a4, .ref a5, .ref a6])), (a4, .inl (G 0, 6, .inl u1)), (a5, .inl (G 0, 6, .inl u2)), (a6, .inl (G 0, 6, .inl u3))] t.heap ∧ va_D (va_A [(h0, .inr (9, [.int (nI N), .int (nI B), .int (nI D), .ref a1, .ref a2, .ref a3, .ref a4, .ref a5, .ref a6])), (a4, .inl (G 0, 6, .inl f4)), (a5, .inl (G 0, 6, .inl f5)), (a6, .inl (G 0, 6, .inl f6))] sz) [(h0, .inr (9, [.int (nI N), .int (nI u0), .int (nI D), .ref a1, .ref a2, .ref a3, .ref a4, .ref a5, .ref a6])), (a4, .inl (G 0, 6, .inl u1)), (a5, .inl (G 0, 6, .inl u2)), (a6, .inl (G 0, 6, .inl u3))]) (va_A [(h0, .inr (9, [.int (nI N), .int (nI B), .int (nI D), .ref a1, .ref a2, .ref a3, .ref a4, .ref a5, .ref a6])), (a4, .inl (G 0, 6, .inl f4)), (a5, .inl (G 0, 6, .inl f5)), (a6, .inl (G 0, 6, .inl f6))] sz)) 0 0 (va_A [(h0, .inr (9, [.int (nI N), .int (nI B), .int (nI D), .ref a1, .ref a2, .ref a3, .ref a4, .ref a5, .ref a6])), (a4, .inl (G 0, 6, .inl f4)), (a5, .inl (G 0, 6, .inl f5)), (a6, .inl (G 0, 6, .inl f6))] sz) := by
  have tn1455_ : nIT N := fun _ => nI_toInt (by omega)
  have tn1456_ : nIT B := fun _ => nI_toInt (by omega)
  have tn1457_ : nIT D := fun _ => nI_toInt (by omega)
  refine Met.ofW (cc := cX9_addBearer) (maxL := 4) (ret := none) (by decide) rfl ?_
  intro p e s m args below meth c s₁ Bd hml hv
  obtain ⟨rfl, hsz, hP, hK, hD0⟩ := hv
  have hx := Bd.exec
  have hb := Bd.bytes
  have hr := Bd.returns
  have hg : ∀ w ∈ GT, w.before ([.ref h0, .int x1, .int x2, .int x3] : List Value).toArray s = true := fun w h => atoms_spec (ws := Cond.code yX9_addBearer cX9_addBearer 4 none :: GT) Bd.pre w (List.mem_cons_of_mem _ h)
  have hown : s.vm.findClass RX9 = some m.cls := findClass_of_methodNamed Bd.named
  have hlocks := Bd.notSynchronized
  subst hsz
  have hD := hD0.self (sz := s.heap.size)
  generalize hAe : va_A [(h0, .inr (9, [.int (nI N), .int (nI B), .int (nI D), .ref a1, .ref a2, .ref a3, .ref a4, .ref a5, .ref a6])), (a4, .inl (G 0, 6, .inl f4)), (a5, .inl (G 0, 6, .inl f5)), (a6, .inl (G 0, 6, .inl f6))] s.heap.size = A at hD ⊢
  have hA : ∀ q : Nat, s.heap.size ≤ q → A q := fun q h => by rw [← hAe]; exact Or.inr h
  have hS : va_S A s.heap s.heap [] := va_S.rf
  have hl := lv_entry ([.ref h0, .int x1, .int x2, .int x3]) (n := 4) (Nat.le_of_ble_eq_true rfl)
  rw [lg_entry_eq]
  generalize (lg_sl ([.ref h0, .int x1, .int x2, .int x3]) ++ List.replicate (4 - (lg_sl ([.ref h0, .int x1, .int x2, .int x3])).length) Slot.unset).toArray = ls at hl ⊢
  have hl : lv_has ls 4 [(0, .ref h0), (1, .int x1), (2, .int x2), (3, .int x3)] := hl
  refine lv_aload_n hx hb dX9_addBearer_0 rfl (lv_at hl 0 rfl) ?_
  refine va_get (D := (dC, dI)) (ci := 9) (v := .int (nI B)) (C := RX9) (T := TX9) (N := 9) hx hb hg inG9 hown hK.1 hP 0 rfl rfl 1 (Nat.le_of_ble_eq_true rfl) (hg _ wt_62) (fun _ h9 => h9) rfl dX9_addBearer_1 ?_
  refine lv_bipush (v := 6) hx hb dX9_addBearer_4 rfl ?_
  refine lv_icmp_ge (tgt := 49) hx hb dX9_addBearer_6 rfl (fun c1 => ?_) (fun c1 => ?_)
  · skip
    have n2 : 6 ≤ B := by have t := leI c1; rw [show (nI (B)).toInt = ((B : Nat) : Int) from tn1456_ ()] at t; have : (6 : Int32).toInt = 6 := qI_6; omega
    obtain ⟨hP9, hD9⟩ := va_sub2 (ws' := [(h0, .inr (9, [.int (nI N), .int (nI B), .int (nI D), .ref a1, .ref a2, .ref a3, .ref a4, .ref a5, .ref a6])), (a4, .inl (G 0, 6, .inl f4)), (a5, .inl (G 0, 6, .inl f5)), (a6, .inl (G 0, 6, .inl f6))]) hP hD [0, 1, 2, 3] (by decide +kernel) rfl
    refine W.widen (k := 0) (n := 0) (Nat.le_of_ble_eq_true rfl) (Nat.le_of_ble_eq_true rfl) ?_
    exact W.vret hx hb hr (fun t ht hW => ⟨⟨(B, f4, f5, f6), rfl, (by have t_n2 := n2; have tnb_ := nib3 tn1455_ tn1456_ tn1457_; refine ⟨?_, ?_, ?_, ?_⟩ <;> first | (rw [if_pos (by omega)]; done) | (rw [if_neg (by omega)]; done)), ⟨by rw [ht]; exact hP9, hD9⟩⟩, hS.F ht⟩) hS.2.2 dX9_addBearer_49
  · skip
    have n3 : B < 6 := by have t := nleI c1; rw [show (nI (B)).toInt = ((B : Nat) : Int) from tn1456_ ()] at t; have : (6 : Int32).toInt = 6 := qI_6; omega
    refine lv_aload_n hx hb dX9_addBearer_9 rfl (lv_at hl 0 rfl) ?_
    refine va_get (D := (dC, dI)) (ci := 9) (v := .ref a4) (C := RX9) (T := TX9) (N := 9) hx hb hg inG9 hown hK.1 hP 0 rfl rfl 6 (Nat.le_of_ble_eq_true rfl) (hg _ wt_80) (fun _ h9 => h9) rfl dX9_addBearer_10 ?_
    refine lv_aload_n hx hb dX9_addBearer_13 rfl (lv_at hl 0 rfl) ?_
    refine va_get (D := (dC, dI)) (ci := 9) (v := .int (nI B)) (C := RX9) (T := TX9) (N := 9) hx hb hg inG9 hown hK.1 hP 0 rfl rfl 1 (Nat.le_of_ble_eq_true rfl) (hg _ wt_62) (fun _ h9 => h9) rfl dX9_addBearer_14 ?_
    refine lv_iload_n hx hb dX9_addBearer_17 rfl (lv_at hl 1 rfl) ?_
    refine va_iast hx hb hK.1 hP hD hS 1 0 rfl rfl (vp_in_nI (by first | omega | (have t_n3 := n3; have tnb_ := nib3 tn1455_ tn1456_ tn1457_; omega)) (by decide)) dX9_addBearer_18 (fun H locs hP hD hS => ?_)
    rw [nI_clamp (by omega)] at hP hD
    refine lv_aload_n hx hb dX9_addBearer_19 rfl (lv_at hl 0 rfl) ?_
    refine va_get (D := (dC, dI)) (ci := 9) (v := .ref a5) (C := RX9) (T := TX9) (N := 9) hx hb hg inG9 hown hK.1 hP 0 rfl rfl 7 (Nat.le_of_ble_eq_true rfl) (hg _ wt_82) (fun _ h9 => h9) rfl dX9_addBearer_20 ?_
    refine lv_aload_n hx hb dX9_addBearer_23 rfl (lv_at hl 0 rfl) ?_
    refine va_get (D := (dC, dI)) (ci := 9) (v := .int (nI B)) (C := RX9) (T := TX9) (N := 9) hx hb hg inG9 hown hK.1 hP 0 rfl rfl 1 (Nat.le_of_ble_eq_true rfl) (hg _ wt_62) (fun _ h9 => h9) rfl dX9_addBearer_24 ?_
    refine lv_iload_n hx hb dX9_addBearer_27 rfl (lv_at hl 2 rfl) ?_
    refine va_iast hx hb hK.1 hP hD hS 2 0 rfl rfl (vp_in_nI (by first | omega | (have t_n3 := n3; have tnb_ := nib3 tn1455_ tn1456_ tn1457_; omega)) (by decide)) dX9_addBearer_28 (fun H locs hP hD hS => ?_)
    rw [nI_clamp (by omega)] at hP hD
    refine lv_aload_n hx hb dX9_addBearer_29 rfl (lv_at hl 0 rfl) ?_
    refine va_get (D := (dC, dI)) (ci := 9) (v := .ref a6) (C := RX9) (T := TX9) (N := 9) hx hb hg inG9 hown hK.1 hP 0 rfl rfl 8 (Nat.le_of_ble_eq_true rfl) (hg _ wt_84) (fun _ h9 => h9) rfl dX9_addBearer_30 ?_
    refine lv_aload_n hx hb dX9_addBearer_33 rfl (lv_at hl 0 rfl) ?_
    refine va_get (D := (dC, dI)) (ci := 9) (v := .int (nI B)) (C := RX9) (T := TX9) (N := 9) hx hb hg inG9 hown hK.1 hP 0 rfl rfl 1 (Nat.le_of_ble_eq_true rfl) (hg _ wt_62) (fun _ h9 => h9) rfl dX9_addBearer_34 ?_
    refine lv_iload_n hx hb dX9_addBearer_37 rfl (lv_at hl 3 rfl) ?_
    refine va_iast hx hb hK.1 hP hD hS 3 0 rfl rfl (vp_in_nI (by first | omega | (have t_n3 := n3; have tnb_ := nib3 tn1455_ tn1456_ tn1457_; omega)) (by decide)) dX9_addBearer_38 (fun H locs hP hD hS => ?_)
    rw [nI_clamp (by omega)] at hP hD
    refine lv_aload_n hx hb dX9_addBearer_39 rfl (lv_at hl 0 rfl) ?_
    refine lv_dup hx hb dX9_addBearer_40 rfl ?_
    refine va_get (D := (dC, dI)) (ci := 9) (v := .int (nI B)) (C := RX9) (T := TX9) (N := 9) hx hb hg inG9 hown hK.1 hP 0 rfl rfl 1 (Nat.le_of_ble_eq_true rfl) (hg _ wt_62) (fun _ h9 => h9) rfl dX9_addBearer_41 ?_
    refine lv_iconst (v := 1) hx hb dX9_addBearer_44 rfl ?_
    refine lv_iadd hx hb dX9_addBearer_45 ?_
    refine lv_cg (y := nI (B + 1)) (by rw [show (1 : Int32) = nI 1 from rfl]; exact nI_add _ _) ?_
    refine va_put (D := (dC, dI)) (ci := 9) (v := .int (nI (B + 1))) (ty := .int) (C := RX9) (T := TX9) (N := 9) hx hb hg inG9 tyX9 tyX9_ok nmX9 hown hK.1 hP hD hS 0 rfl rfl 1 (Nat.le_of_ble_eq_true rfl) (hg _ wt_62) (fun _ h9 => h9) rfl (by decide +kernel) rfl rfl (Nat.le_of_ble_eq_true rfl) dX9_addBearer_46 (fun H locs hP hD hS => ?_)
    obtain ⟨hP9, hD9⟩ := va_sub2 (ws' := [(h0, .inr (9, [.int (nI N), .int (nI (B + 1)), .int (nI D), .ref a1, .ref a2, .ref a3, .ref a4, .ref a5, .ref a6])), (a4, .inl (G 0, 6, .inl (upd f4 B x1))), (a5, .inl (G 0, 6, .inl (upd f5 B x2))), (a6, .inl (G 0, 6, .inl (upd f6 B x3)))]) hP hD [0, 1, 2, 3] (by decide +kernel) rfl
    refine W.widen (k := 0) (n := 0) (Nat.le_of_ble_eq_true rfl) (Nat.le_of_ble_eq_true rfl) ?_
    exact W.vret hx hb hr (fun t ht hW => ⟨⟨((B + 1), (upd f4 B x1), (upd f5 B x2), (upd f6 B x3)), rfl, (by have t_n3 := n3; have tnb_ := nib3 tn1455_ tn1456_ tn1457_; refine ⟨?_, ?_, ?_, ?_⟩ <;> first | (rw [if_pos (by omega)]; done) | (rw [if_neg (by omega)]; done)), ⟨by rw [ht]; exact hP9, hD9⟩⟩, hS.F ht⟩) hS.2.2 dX9_addBearer_49

set_option maxHeartbeats 1000000 in
set_option maxRecDepth 100000 in
theorem c_X5_readStartE (l : Launch) (dC : Nat → ClassId) (dI : Nat → Nat → Nat) (G : Nat → ClassId) (sz : Nat) (h0 tp td ta T F P a1 a2 a3 a4 a5 a6 N B D : Nat) (x0 x1 x2 x3 x6 x7 x8 x9 : Int32) (f : Nat → Int32) (hF : F ≤ P) (hP0 : P ≤ T) (hT : T ≤ 320) (hN_N : N ≤ 10) (hB_B : B ≤ 6) (hD_D : 1 ≤ D ∧ D ≤ 9) : Met l yX5_readStart (Cond.code yX5_readStart cX5_readStart 1 (some .boolean) :: GT) ({ frames := 3, cells := 0, slots := 0, locals := 68 } : Room) (PcW [.ref h0] dC dI G [(h0, .inr (5, [.ref tp, .ref td, .int x0, .int x1, .int x2, .int x3, .int (nI F), .int (nI P), .int x6, .int x7, .int x8, .int x9])), (tp, .inr (7, [.int (nI T), .ref ta])), (ta, .inl (G 0, 320, .inl f)), (td, .inr (9, [.int (nI N), .int (nI B), .int (nI D), .ref a1, .ref a2, .ref a3, .ref a4, .ref a5, .ref a6]))] sz) (va_Qi (fun (r : Int32) (u : Int32 × Int32 × Int32 × Nat × Nat × Int32 × Nat) => match u with | (u0, u1, u3, u4, u5, u6, v0) => ((r = 0 ∨ r = 1) ∧ r = (cST f T (x0, x1, x3, F, P) x6 D).1) ∧ u4 ≤ u5 ∧ u5 ≤ T ∧ (1 ≤ v0 ∧ v0 ≤ 9) ∧ ((u0, u1, u3, u4, u5), u6, v0) = (cST f T (x0, x1, x3, F, P) x6 D).2) (fun (u : Int32 × Int32 × Int32 × Nat × Nat × Int32 × Nat) (t : State) => match u with | (u0, u1, u3, u4, u5, u6, v0) => va_P (dC, dI) vwCl [(h0, .inr (5, [.ref tp, .ref td, .int u0, .int u1, .int x2, .int u3, .int (nI u4), .int (nI u5), .int u6, .int x7, .int x8, .int x9])), (tp, .inr (7, [.int (nI T), .ref ta])), (ta, .inl (G 0, 320, .inl f)), (td, .inr (9, [.int (nI N), .int (nI B), .int (nI v0), .ref a1, .ref a2, .ref a3, .ref a4, .ref a5, .ref a6]))] t.heap ∧ va_D (va_A [(h0, .inr (5, [.ref tp, .ref td, .int x0, .int x1, .int x2, .int x3, .int (nI F), .int (nI P), .int x6, .int x7, .int x8, .int x9])), (tp, .inr (7, [.int (nI T), .ref ta])), (ta, .inl (G 0, 320, .inl f)), (td, .inr (9, [.int (nI N), .int (nI B), .int (nI D), .ref a1, .ref a2, .ref a3, .ref a4, .ref a5, .ref a6]))] sz) [(h0, .inr (5, [.ref tp, .ref td, .int u0, .int u1, .int x2, .int u3, .int (nI u4), .int (nI u5), .int u6, .int x7, .int x8, .int x9])), (tp, .inr (7, [.int (nI T), .ref ta])), (ta, .inl (G 0, 320, .inl f)), (td, .inr (9, [.int (nI N), .int (nI B), .int (nI v0), .ref a1, .ref a2, .ref a3, .ref a4, .ref a5, .ref a6]))]) (va_A [(h0, .inr (5, [.ref tp, .ref td, .int x0, .int x1, .int x2, .int x3, .int (nI F), .int (nI P), .int x6, .int x7, .int x8, .int x9])), (tp, .inr (7, [.int (nI T), .ref ta])), (ta, .inl (G 0, 320, .inl f)), (td, .inr (9, [.int (nI N), .int (nI B), .int (nI D), .ref a1, .ref a2, .ref a3, .ref a4, .ref a5, .ref a6]))] sz)) 0 0 (va_A [(h0, .inr (5, [.ref tp, .ref td, .int x0, .int x1, .int x2, .int x3, .int (nI F), .int (nI P), .int x6, .int x7, .int x8, .int x9])), (tp, .inr (7, [.int (nI T), .ref ta])), (ta, .inl (G 0, 320, .inl f)), (td, .inr (9, [.int (nI N), .int (nI B), .int (nI D), .ref a1, .ref a2, .ref a3, .ref a4, .ref a5, .ref a6]))] sz) := by
  have hT_ := hT
  have tn1458_ : nIT N := fun _ => nI_toInt (by omega)
  have tn1459_ : nIT B := fun _ => nI_toInt (by omega)
  have tn1460_ : nIT D := fun _ => nI_toInt (by omega)
  have tn1461_ : nIT T := fun _ => nI_toInt (by omega)
  refine Met.ofW (cc := cX5_readStart) (maxL := 1) (ret := (some .boolean)) (by decide) rfl ?_
  intro p e s m args below meth c s₁ Bd hml hv
  obtain ⟨rfl, hsz, hP, hK, hD0⟩ := hv
  have hx := Bd.exec
  have hb := Bd.bytes
  have hr := Bd.returns
  have hg : ∀ w ∈ GT, w.before ([.ref h0] : List Value).toArray s = true := fun w h => atoms_spec (ws := Cond.code yX5_readStart cX5_readStart 1 (some .boolean) :: GT) Bd.pre w (List.mem_cons_of_mem _ h)
  have hown : s.vm.findClass RX5 = some m.cls := findClass_of_methodNamed Bd.named
  have hlocks := Bd.notSynchronized
  subst hsz
  have hD := hD0.self (sz := s.heap.size)
  generalize hAe : va_A [(h0, .inr (5, [.ref tp, .ref td, .int x0, .int x1, .int x2, .int x3, .int (nI F), .int (nI P), .int x6, .int x7, .int x8, .int x9])), (tp, .inr (7, [.int (nI T), .ref ta])), (ta, .inl (G 0, 320, .inl f)), (td, .inr (9, [.int (nI N), .int (nI B), .int (nI D), .ref a1, .ref a2, .ref a3, .ref a4, .ref a5, .ref a6]))] s.heap.size = A at hD ⊢
  have hA : ∀ q : Nat, s.heap.size ≤ q → A q := fun q h => by rw [← hAe]; exact Or.inr h
  have hS : va_S A s.heap s.heap [] := va_S.rf
  have hl := lv_entry ([.ref h0]) (n := 1) (Nat.le_of_ble_eq_true rfl)
  rw [lg_entry_eq]
  generalize (lg_sl ([.ref h0]) ++ List.replicate (1 - (lg_sl ([.ref h0])).length) Slot.unset).toArray = ls at hl ⊢
  have hl : lv_has ls 1 [(0, .ref h0)] := hl
  refine lv_aload_n hx hb dX5_readStart_0 rfl (lv_at hl 0 rfl) ?_
  refine va_get (D := (dC, dI)) (ci := 5) (v := .int x6) (C := RX5) (T := TX5) (N := 12) hx hb hg inG5 hown hK.1 hP 0 rfl rfl 8 (Nat.le_of_ble_eq_true rfl) (hg _ wt_118) (fun _ h9 => h9) rfl dX5_readStart_1 ?_
  refine lv_if_eq (tgt := 17) hx hb dX5_readStart_4 rfl (fun c1 => ?_) (fun c1 => ?_)
  · skip
    refine lv_aload_n hx hb dX5_readStart_17 rfl (lv_at hl 0 rfl) ?_
    refine lv_iconst (v := 1) hx hb dX5_readStart_18 rfl ?_
    refine va_put (D := (dC, dI)) (ci := 5) (v := .int 1) (ty := .boolean) (C := RX5) (T := TX5) (N := 12) hx hb hg inG5 tyX5 tyX5_ok nmX5 hown hK.1 hP hD hS 0 rfl rfl 8 (Nat.le_of_ble_eq_true rfl) (hg _ wt_118) (fun _ h9 => h9) rfl (by decide +kernel) rfl rfl (Nat.le_of_ble_eq_true rfl) dX5_readStart_19 (fun H locs hP hD hS => ?_)
    refine lv_aload_n hx hb dX5_readStart_22 rfl (lv_at hl 0 rfl) ?_
    refine lv_iconst (v := 1) hx hb dX5_readStart_23 rfl ?_
    refine lv_bipush (v := 9) hx hb dX5_readStart_24 rfl ?_
    obtain ⟨hPc, hDc, hFc⟩ := va_sub3 (ws' := [(h0, .inr (5, [.ref tp, .ref td, .int x0, .int x1, .int x2, .int x3, .int (nI F), .int (nI P), .int 1, .int x7, .int x8, .int x9])), (tp, .inr (7, [.int (nI T), .ref ta])), (ta, .inl (G 0, 320, .inl f))]) hP hD hS hA [0, 1, 2] (by decide +kernel) rfl
    have tn1462_ : nIT F := fun _ => nI_toInt (by first | omega | (have t_c1 := eqI c1; have : (0 : Int32).toInt = 0 := qI_0; omega))
    have tn1463_ : nIT P := fun _ => nI_toInt (by first | omega | (have t_c1 := eqI c1; have : (0 : Int32).toInt = 0 := qI_0; omega))
    refine va_calli (va_runV (As := [.int 1, .int 9]) (rest := []) ⟨hx, hb, hml, hown, hg⟩ (c_X5_nextNumberE l dC dI G _ h0 tp td ta T P x0 x1 x2 x3 1 x7 x8 x9 (nI F) 1 9 f hT_ hP0) (kwV hg mfX5_nextNumber wt_455 ⟨Nat.le_of_ble_eq_true rfl, Nat.le_of_ble_eq_true rfl⟩) (preVW hK hPc hDc (ci := 5) (r := (RX5, TX5, 12)) rfl rfl) rfl rfl hl.1 rfl (lv_room (Nat.le_of_ble_eq_true rfl)) dX5_readStart_26 ⟨Nat.le_of_ble_eq_true rfl, Nat.le_of_ble_eq_true rfl⟩) hS (fun q _ h => hFc q h) hFc (fun r2 ur2 t H1 locs ht hvm w3 hB hz1 hk1 hS => ?_)
    obtain ⟨u4, u5, u6, u7, u8⟩ := ur2
    obtain ⟨hP1, hD1⟩ := hB
    rw [ht] at hP1
    obtain ⟨hP, hD⟩ := va_join (wr := [(td, .inr (9, [.int (nI N), .int (nI B), .int (nI D), .ref a1, .ref a2, .ref a3, .ref a4, .ref a5, .ref a6]))]) (w1 := [(h0, .inr (5, [.ref tp, .ref td, .int u4, .int u5, .int x2, .int u6, .int (nI u7), .int (nI u8), .int 1, .int x7, .int x8, .int x9])), (tp, .inr (7, [.int (nI T), .ref ta])), (ta, .inl (G 0, 320, .inl f))]) hP hD [0, 1, 2] [3] rfl rfl (by decide +kernel) (by decide +kernel) hk1 hFc hP1 hD1
    generalize H1 = H at hP hS ⊢
    obtain ⟨w3, w3x⟩ := w3
    have vw3 : (tNN f T 1 9 (x0, x1, x3, F, P)).1 = r2 := w3.2.symm
    have ew3 : (tNN f T 1 9 (x0, x1, x3, F, P)).2 = (u4, u5, u6, u7, u8) := w3x.2.2.symm
    have bw3 : ¬ r2 = 0 → (1 : Int32).toInt ≤ (valN f T u7 (u8 - u7)).toInt ∧ (valN f T u7 (u8 - u7)).toInt ≤ (9 : Int32).toInt := (fun n9 => by rcases w3.1 with h9 | h9; exact absurd h9 n9; exact h9.2)
    refine lv_if_ne (tgt := 34) hx hb dX5_readStart_29 rfl (fun c9 => ?_) (fun c9 => ?_)
    · skip
      refine lv_aload_n hx hb dX5_readStart_34 rfl (lv_at hl 0 rfl) ?_
      refine va_get (D := (dC, dI)) (ci := 5) (v := .ref td) (C := RX5) (T := TX5) (N := 12) hx hb hg inG5 hown hK.1 hP 1 rfl rfl 1 (Nat.le_of_ble_eq_true rfl) (hg _ wt_107) (fun _ h9 => h9) rfl dX5_readStart_35 ?_
      refine lv_aload_n hx hb dX5_readStart_38 rfl (lv_at hl 0 rfl) ?_
      have hPc := hP.sub (ws' := [(h0, .inr (5, [.ref tp, .ref td, .int u4, .int u5, .int x2, .int u6, .int (nI u7), .int (nI u8), .int 1, .int x7, .int x8, .int x9])), (tp, .inr (7, [.int (nI T), .ref ta])), (ta, .inl (G 0, 320, .inl f))]) [1, 2, 3] rfl
      refine va_calli (va_runV (As := []) (rest := [.ref td]) ⟨hx, hb, hml, hown, hg⟩ (c_X5_value l dC dI G _ h0 tp td ta T u7 u8 u4 u5 x2 u6 1 x7 x8 x9 f hT_ (by first | omega | (have t_c1 := eqI c1; have t_c9 := neI c9; have : (0 : Int32).toInt = 0 := qI_0; have tnb_ := nib6 tn1462_ tn1463_ tn1461_ tn1458_ tn1459_ tn1460_; omega)) (by first | omega | (have t_c1 := eqI c1; have t_c9 := neI c9; have : (0 : Int32).toInt = 0 := qI_0; have tnb_ := nib6 tn1462_ tn1463_ tn1461_ tn1458_ tn1459_ tn1460_; omega))) (kwV hg mfX5_value wt_459 ⟨Nat.le_of_ble_eq_true rfl, Nat.le_of_ble_eq_true rfl⟩) (preVR hK hPc (ci := 5) (r := (RX5, TX5, 12)) rfl rfl) rfl rfl hl.1 rfl (lv_room (Nat.le_of_ble_eq_true rfl)) dX5_readStart_39 ⟨Nat.le_of_ble_eq_true rfl, Nat.le_of_ble_eq_true rfl⟩) hS (fun q h1 h2 => absurd h2 (Nat.not_le.mpr h1)) (fun q h => hA q (Nat.le_trans hS.1 h)) (fun r10 ur10 t H1 locs ht hvm w11 hB hz1 hk1 hS => ?_)
      have hP := keepR hP hk1
      obtain ⟨w11, w11x⟩ := w11
      subst w11
      have q9 : 1 ≤ (valN f T u7 (u8 - u7)).toInt ∧ (valN f T u7 (u8 - u7)).toInt ≤ 9 := by
        have e1 : (1 : Int32).toInt = 1 := qI_1
        have e9 : (9 : Int32).toInt = 9 := qI_9
        rcases w3.1 with h9 | h9
        · exact absurd h9 (by first | with_reducible assumption | assumption)
        · omega
      obtain ⟨dd, hdd, edd⟩ := i32_nat (x := valN f T u7 (u8 - u7)) (n := 10) (by omega) (by omega)
      have hd1 : 1 ≤ dd := by have t9 := congrArg Int32.toInt edd; rw [nI_toInt (by omega)] at t9; omega
      have edc : (cVL f T (u4, u5, u6, u7, u8)).toNatClampNeg = dd := (by show (valN f T u7 (u8 - u7)).toNatClampNeg = dd; rw [edd, nI_clamp (by omega)])
      refine lv_cg (y := nI dd) edd ?_
      refine va_putN (D := (dC, dI)) (ci := 9) (v := .int (nI dd)) (ty := .int) (C := RX9) (T := TX9) (N := 9) hx hb hg inG9 tyX9 tyX9_ok nmX9 hown hK.1 hP hD hS 0 rfl rfl 2 (by decide) (hK.nest wn_72) (fun _ h9 => h9) rfl (by decide +kernel) rfl rfl (Nat.le_of_ble_eq_true rfl) dX5_readStart_42 (fun H locs hP hD hS => ?_)
      refine lv_aload_n hx hb dX5_readStart_45 rfl (lv_at hl 0 rfl) ?_
      obtain ⟨hPc, hDc, hFc⟩ := va_sub3 (ws' := [(h0, .inr (5, [.ref tp, .ref td, .int u4, .int u5, .int x2, .int u6, .int (nI u7), .int (nI u8), .int 1, .int x7, .int x8, .int x9])), (tp, .inr (7, [.int (nI T), .ref ta])), (ta, .inl (G 0, 320, .inl f))]) hP hD hS hA [1, 2, 3] (by decide +kernel) rfl
      have tn1464_ : nIT dd := fun _ => nI_toInt (by first | omega | (have t_c1 := eqI c1; have t_c9 := neI c9; have t_hdd := hdd; have t_hd1 := hd1; have : (0 : Int32).toInt = 0 := qI_0; omega))
      refine va_calli (va_runV (As := []) (rest := []) ⟨hx, hb, hml, hown, hg⟩ (c_X5_nextStopE l dC dI G _ h0 tp td ta T u8 u4 u5 x2 u6 1 x7 x8 x9 (nI u7) f hT_ (by first | omega | (have t_c1 := eqI c1; have t_c9 := neI c9; have t_hdd := hdd; have t_hd1 := hd1; have : (0 : Int32).toInt = 0 := qI_0; have tnb_ := nib7 tn1462_ tn1463_ tn1461_ tn1458_ tn1459_ tn1460_ tn1464_; omega))) (kwV hg mfX5_nextStop wt_463 ⟨Nat.le_of_ble_eq_true rfl, Nat.le_of_ble_eq_true rfl⟩) (preVW hK hPc hDc (ci := 5) (r := (RX5, TX5, 12)) rfl rfl) rfl rfl hl.1 rfl (lv_room (Nat.le_of_ble_eq_true rfl)) dX5_readStart_46 ⟨Nat.le_of_ble_eq_true rfl, Nat.le_of_ble_eq_true rfl⟩) hS (fun q _ h => hFc q h) hFc (fun r12 ur12 t H1 locs ht hvm w13 hB hz1 hk1 hS => ?_)
      obtain ⟨u14, u15, u16, u17, u18⟩ := ur12
      obtain ⟨hP1, hD1⟩ := hB
      rw [ht] at hP1
      obtain ⟨hP, hD⟩ := va_join (wr := [(td, .inr (9, [.int (nI N), .int (nI B), .int (nI dd), .ref a1, .ref a2, .ref a3, .ref a4, .ref a5, .ref a6]))]) (w1 := [(h0, .inr (5, [.ref tp, .ref td, .int u14, .int u15, .int x2, .int u16, .int (nI u17), .int (nI u18), .int 1, .int x7, .int x8, .int x9])), (tp, .inr (7, [.int (nI T), .ref ta])), (ta, .inl (G 0, 320, .inl f))]) hP hD [1, 2, 3] [0] rfl rfl (by decide +kernel) (by decide +kernel) hk1 hFc hP1 hD1
      generalize H1 = H at hP hS ⊢
      obtain ⟨w13, w13x⟩ := w13
      have vw13 : (tNS f T (u4, u5, u6, u7, u8)).1 = r12 := w13.2.symm
      have ew13 : (tNS f T (u4, u5, u6, u7, u8)).2 = (u14, u15, u16, u17, u18) := w13x.2.2.symm
      have hpost : ((r12 : Int32) = 0 ∨ (r12 : Int32) = 1) ∧ (r12 : Int32) = (cST f T (x0, x1, x3, F, P) x6 D).1 := by
        refine ⟨w13.1, ?_⟩
        unfold cST
        (try rw [vw3])
        (try rw [ew3])
        (try rw [edc])
        (try rw [vw13])
        (try rw [ew13])
        (try (repeat (first | rw [if_pos (by with_reducible assumption)] | rw [if_neg (by with_reducible assumption)] | rw [if_pos (by first | exact c1 | exact c9)] | rw [if_neg (by first | exact c1 | exact c9)] | rw [if_pos (by (have t_c1 := eqI c1; have t_c9 := neI c9; have t_hdd := hdd; have t_hd1 := hd1; have : (0 : Int32).toInt = 0 := qI_0; have tnb_ := nib7 tn1462_ tn1463_ tn1461_ tn1458_ tn1459_ tn1460_ tn1464_; have tqz_ := qz41_; omega))] | rw [if_neg (by (have t_c1 := eqI c1; have t_c9 := neI c9; have t_hdd := hdd; have t_hd1 := hd1; have : (0 : Int32).toInt = 0 := qI_0; have tnb_ := nib7 tn1462_ tn1463_ tn1461_ tn1458_ tn1459_ tn1460_ tn1464_; have tqz_ := qz41_; omega))] | rw [if_pos (by decide)] | rw [if_neg (by decide)] | rw [if_pos (by skip; assumption)] | rw [if_neg (by skip; assumption)])))
        all_goals rfl
      obtain ⟨hP9, hD9⟩ := va_sub2 (ws' := [(h0, .inr (5, [.ref tp, .ref td, .int u14, .int u15, .int x2, .int u16, .int (nI u17), .int (nI u18), .int 1, .int x7, .int x8, .int x9])), (tp, .inr (7, [.int (nI T), .ref ta])), (ta, .inl (G 0, 320, .inl f)), (td, .inr (9, [.int (nI N), .int (nI B), .int (nI dd), .ref a1, .ref a2, .ref a3, .ref a4, .ref a5, .ref a6]))]) hP hD [1, 2, 3, 0] (by decide +kernel) rfl
      refine W.widen (k := 0) (n := 0) (Nat.le_of_ble_eq_true rfl) (Nat.le_of_ble_eq_true rfl) ?_
      exact W.zret (v := r12) hx hb hr (by first | rfl | decide | exact zn01 w13.1) (fun t ht hW => ⟨⟨r12, (u14, u15, u16, u17, u18, 1, dd), rfl, ⟨hpost, (by refine ⟨by (have t_c1 := eqI c1; have t_c9 := neI c9; have t_hdd := hdd; have t_hd1 := hd1; have : (0 : Int32).toInt = 0 := qI_0; have tnb_ := nib7 tn1462_ tn1463_ tn1461_ tn1458_ tn1459_ tn1460_ tn1464_; have tqz_ := qz41_; omega), by (have t_c1 := eqI c1; have t_c9 := neI c9; have t_hdd := hdd; have t_hd1 := hd1; have : (0 : Int32).toInt = 0 := qI_0; have tnb_ := nib7 tn1462_ tn1463_ tn1461_ tn1458_ tn1459_ tn1460_ tn1464_; have tqz_ := qz41_; omega), ⟨by (have t_c1 := eqI c1; have t_c9 := neI c9; have t_hdd := hdd; have t_hd1 := hd1; have : (0 : Int32).toInt = 0 := qI_0; have tnb_ := nib7 tn1462_ tn1463_ tn1461_ tn1458_ tn1459_ tn1460_ tn1464_; have tqz_ := qz41_; omega), by (have t_c1 := eqI c1; have t_c9 := neI c9; have t_hdd := hdd; have t_hd1 := hd1; have : (0 : Int32).toInt = 0 := qI_0; have tnb_ := nib7 tn1462_ tn1463_ tn1461_ tn1458_ tn1459_ tn1460_ tn1464_; have tqz_ := qz41_; omega)⟩, ?_⟩; unfold cST; (try rw [vw3]); (try rw [ew3]); (try rw [edc]); (try rw [vw13]); (try rw [ew13]); (try (repeat (first | rw [if_pos (by with_reducible assumption)] | rw [if_neg (by with_reducible assumption)] | rw [if_pos (by first | exact c1 | exact c9)] | rw [if_neg (by first | exact c1 | exact c9)] | rw [if_pos (by (have t_c1 := eqI c1; have t_c9 := neI c9; have t_hdd := hdd; have t_hd1 := hd1; have : (0 : Int32).toInt = 0 := qI_0; have tnb_ := nib7 tn1462_ tn1463_ tn1461_ tn1458_ tn1459_ tn1460_ tn1464_; have tqz_ := qz41_; omega))] | rw [if_neg (by (have t_c1 := eqI c1; have t_c9 := neI c9; have t_hdd := hdd; have t_hd1 := hd1; have : (0 : Int32).toInt = 0 := qI_0; have tnb_ := nib7 tn1462_ tn1463_ tn1461_ tn1458_ tn1459_ tn1460_ tn1464_; have tqz_ := qz41_; omega))] | rw [if_pos (by decide)] | rw [if_neg (by decide)] | rw [if_pos (by skip; assumption)] | rw [if_neg (by skip; assumption)]))); all_goals rfl)⟩, ⟨by rw [ht]; exact hP9, hD9⟩⟩, hS.F ht⟩) hS.2.2 dX5_readStart_49
    · skip
      refine lv_iconst (v := 0) hx hb dX5_readStart_32 rfl ?_
      have hpost : ((0 : Int32) = 0 ∨ (0 : Int32) = 1) ∧ (0 : Int32) = (cST f T (x0, x1, x3, F, P) x6 D).1 := by
        refine ⟨Or.inl rfl, ?_⟩
        unfold cST
        (try rw [vw3])
        (try rw [ew3])
        (try (repeat (first | rw [if_pos (by with_reducible assumption)] | rw [if_neg (by with_reducible assumption)] | rw [if_pos (by first | exact c1 | exact c9)] | rw [if_neg (by first | exact c1 | exact c9)] | rw [if_pos (by (have t_c1 := eqI c1; have t_c9 := eqI c9; have : (0 : Int32).toInt = 0 := qI_0; have tnb_ := nib6 tn1462_ tn1463_ tn1461_ tn1458_ tn1459_ tn1460_; have tqz_ := qz41_; omega))] | rw [if_neg (by (have t_c1 := eqI c1; have t_c9 := eqI c9; have : (0 : Int32).toInt = 0 := qI_0; have tnb_ := nib6 tn1462_ tn1463_ tn1461_ tn1458_ tn1459_ tn1460_; have tqz_ := qz41_; omega))] | rw [if_pos (by decide)] | rw [if_neg (by decide)] | rw [if_pos (by skip; assumption)] | rw [if_neg (by skip; assumption)])))
        all_goals rfl
      obtain ⟨hP9, hD9⟩ := va_sub2 (ws' := [(h0, .inr (5, [.ref tp, .ref td, .int u4, .int u5, .int x2, .int u6, .int (nI u7), .int (nI u8), .int 1, .int x7, .int x8, .int x9])), (tp, .inr (7, [.int (nI T), .ref ta])), (ta, .inl (G 0, 320, .inl f)), (td, .inr (9, [.int (nI N), .int (nI B), .int (nI D), .ref a1, .ref a2, .ref a3, .ref a4, .ref a5, .ref a6]))]) hP hD [1, 2, 3, 0] (by decide +kernel) rfl
      refine W.widen (k := 0) (n := 0) (Nat.le_of_ble_eq_true rfl) (Nat.le_of_ble_eq_true rfl) ?_
      exact W.zret (v := 0) hx hb hr (by first | rfl | decide | exact rfl) (fun t ht hW => ⟨⟨0, (u4, u5, u6, u7, u8, 1, D), rfl, ⟨hpost, (by refine ⟨by (have t_c1 := eqI c1; have t_c9 := eqI c9; have : (0 : Int32).toInt = 0 := qI_0; have tnb_ := nib6 tn1462_ tn1463_ tn1461_ tn1458_ tn1459_ tn1460_; have tqz_ := qz41_; omega), by (have t_c1 := eqI c1; have t_c9 := eqI c9; have : (0 : Int32).toInt = 0 := qI_0; have tnb_ := nib6 tn1462_ tn1463_ tn1461_ tn1458_ tn1459_ tn1460_; have tqz_ := qz41_; omega), ⟨by (have t_c1 := eqI c1; have t_c9 := eqI c9; have : (0 : Int32).toInt = 0 := qI_0; have tnb_ := nib6 tn1462_ tn1463_ tn1461_ tn1458_ tn1459_ tn1460_; have tqz_ := qz41_; omega), by (have t_c1 := eqI c1; have t_c9 := eqI c9; have : (0 : Int32).toInt = 0 := qI_0; have tnb_ := nib6 tn1462_ tn1463_ tn1461_ tn1458_ tn1459_ tn1460_; have tqz_ := qz41_; omega)⟩, ?_⟩; unfold cST; (try rw [vw3]); (try rw [ew3]); (try (repeat (first | rw [if_pos (by with_reducible assumption)] | rw [if_neg (by with_reducible assumption)] | rw [if_pos (by first | exact c1 | exact c9)] | rw [if_neg (by first | exact c1 | exact c9)] | rw [if_pos (by (have t_c1 := eqI c1; have t_c9 := eqI c9; have : (0 : Int32).toInt = 0 := qI_0; have tnb_ := nib6 tn1462_ tn1463_ tn1461_ tn1458_ tn1459_ tn1460_; have tqz_ := qz41_; omega))] | rw [if_neg (by (have t_c1 := eqI c1; have t_c9 := eqI c9; have : (0 : Int32).toInt = 0 := qI_0; have tnb_ := nib6 tn1462_ tn1463_ tn1461_ tn1458_ tn1459_ tn1460_; have tqz_ := qz41_; omega))] | rw [if_pos (by decide)] | rw [if_neg (by decide)] | rw [if_pos (by skip; assumption)] | rw [if_neg (by skip; assumption)]))); all_goals rfl)⟩, ⟨by rw [ht]; exact hP9, hD9⟩⟩, hS.F ht⟩) hS.2.2 dX5_readStart_33
  · skip
    refine lv_aload_n hx hb dX5_readStart_7 rfl (lv_at hl 0 rfl) ?_
    refine lv_iconst (v := 4) hx hb dX5_readStart_8 rfl ?_
    refine lv_aload_n hx hb dX5_readStart_9 rfl (lv_at hl 0 rfl) ?_
    refine va_get (D := (dC, dI)) (ci := 5) (v := .int (nI F)) (C := RX5) (T := TX5) (N := 12) hx hb hg inG5 hown hK.1 hP 0 rfl rfl 6 (Nat.le_of_ble_eq_true rfl) (hg _ wt_116) (fun _ h9 => h9) rfl dX5_readStart_10 ?_
    obtain ⟨hPc, hDc, hFc⟩ := va_sub3 (ws' := [(h0, .inr (5, [.ref tp, .ref td, .int x0, .int x1, .int x2, .int x3, .int (nI F), .int (nI P), .int x6, .int x7, .int x8, .int x9]))]) hP hD hS hA [0] (by decide +kernel) rfl
    refine va_calli (va_runV (As := [.int 4, .int (nI F)]) (rest := []) ⟨hx, hb, hml, hown, hg⟩ (c_X5_refuseE l dC dI G _ h0 tp td x0 x1 x2 x3 (nI F) (nI P) x6 x7 x8 x9 4 (nI F)) (kwV hg mfX5_refuse wt_386 ⟨Nat.le_of_ble_eq_true rfl, Nat.le_of_ble_eq_true rfl⟩) (preVW hK hPc hDc (ci := 5) (r := (RX5, TX5, 12)) rfl rfl) rfl rfl hl.1 rfl (lv_room (Nat.le_of_ble_eq_true rfl)) dX5_readStart_13 ⟨Nat.le_of_ble_eq_true rfl, Nat.le_of_ble_eq_true rfl⟩) hS (fun q _ h => hFc q h) hFc (fun r19 ur19 t H1 locs ht hvm w20 hB hz1 hk1 hS => ?_)
    obtain ⟨u21, u22⟩ := ur19
    obtain ⟨hP1, hD1⟩ := hB
    rw [ht] at hP1
    obtain ⟨hP, hD⟩ := va_join (wr := [(tp, .inr (7, [.int (nI T), .ref ta])), (ta, .inl (G 0, 320, .inl f)), (td, .inr (9, [.int (nI N), .int (nI B), .int (nI D), .ref a1, .ref a2, .ref a3, .ref a4, .ref a5, .ref a6]))]) (w1 := [(h0, .inr (5, [.ref tp, .ref td, .int u21, .int u22, .int x2, .int x3, .int (nI F), .int (nI P), .int x6, .int x7, .int x8, .int x9]))]) hP hD [0] [1, 2, 3] rfl rfl (by decide +kernel) (by decide +kernel) hk1 hFc hP1 hD1
    generalize H1 = H at hP hS ⊢
    obtain ⟨w20, w20x⟩ := w20
    subst w20
    have ew20 : cRF 4 (x0, x1, x3, F, P) = (u21, u22, x3, F, P) := (by show (flB _ _, flP _ _ _, _, _, _) = _; rw [← w20x.1, ← w20x.2])
    have hpost : ((0 : Int32) = 0 ∨ (0 : Int32) = 1) ∧ (0 : Int32) = (cST f T (x0, x1, x3, F, P) x6 D).1 := by
      have tn1465_ : nIT F := fun _ => nI_toInt (by omega)
      have tn1466_ : nIT P := fun _ => nI_toInt (by omega)
      refine ⟨Or.inl rfl, ?_⟩
      unfold cST
      (try rw [ew20])
      (try (repeat (first | rw [if_pos (by with_reducible assumption)] | rw [if_neg (by with_reducible assumption)] | rw [if_pos (by first | exact c1)] | rw [if_neg (by first | exact c1)] | rw [if_pos (by (have t_c1 := neI c1; have : (0 : Int32).toInt = 0 := qI_0; have tnb_ := nib6 tn1465_ tn1466_ tn1461_ tn1458_ tn1459_ tn1460_; have tqz_ := qz41_; omega))] | rw [if_neg (by (have t_c1 := neI c1; have : (0 : Int32).toInt = 0 := qI_0; have tnb_ := nib6 tn1465_ tn1466_ tn1461_ tn1458_ tn1459_ tn1460_; have tqz_ := qz41_; omega))] | rw [if_pos (by decide)] | rw [if_neg (by decide)] | rw [if_pos (by skip; assumption)] | rw [if_neg (by skip; assumption)])))
      all_goals rfl
    obtain ⟨hP9, hD9⟩ := va_sub2 (ws' := [(h0, .inr (5, [.ref tp, .ref td, .int u21, .int u22, .int x2, .int x3, .int (nI F), .int (nI P), .int x6, .int x7, .int x8, .int x9])), (tp, .inr (7, [.int (nI T), .ref ta])), (ta, .inl (G 0, 320, .inl f)), (td, .inr (9, [.int (nI N), .int (nI B), .int (nI D), .ref a1, .ref a2, .ref a3, .ref a4, .ref a5, .ref a6]))]) hP hD [3, 0, 1, 2] (by decide +kernel) rfl
    refine W.widen (k := 0) (n := 0) (Nat.le_of_ble_eq_true rfl) (Nat.le_of_ble_eq_true rfl) ?_
    have tn1467_ : nIT F := fun _ => nI_toInt (by first | omega | (have t_c1 := neI c1; have : (0 : Int32).toInt = 0 := qI_0; omega))
    have tn1468_ : nIT P := fun _ => nI_toInt (by first | omega | (have t_c1 := neI c1; have : (0 : Int32).toInt = 0 := qI_0; omega))
    exact W.zret (v := 0) hx hb hr (by first | rfl | decide | exact rfl) (fun t ht hW => ⟨⟨0, (u21, u22, x3, F, P, x6, D), rfl, ⟨hpost, (by refine ⟨by (have t_c1 := neI c1; have : (0 : Int32).toInt = 0 := qI_0; have tnb_ := nib6 tn1467_ tn1468_ tn1461_ tn1458_ tn1459_ tn1460_; have tqz_ := qz41_; omega), by (have t_c1 := neI c1; have : (0 : Int32).toInt = 0 := qI_0; have tnb_ := nib6 tn1467_ tn1468_ tn1461_ tn1458_ tn1459_ tn1460_; have tqz_ := qz41_; omega), ⟨by (have t_c1 := neI c1; have : (0 : Int32).toInt = 0 := qI_0; have tnb_ := nib6 tn1467_ tn1468_ tn1461_ tn1458_ tn1459_ tn1460_; have tqz_ := qz41_; omega), by (have t_c1 := neI c1; have : (0 : Int32).toInt = 0 := qI_0; have tnb_ := nib6 tn1467_ tn1468_ tn1461_ tn1458_ tn1459_ tn1460_; have tqz_ := qz41_; omega)⟩, ?_⟩; unfold cST; (try rw [ew20]); (try (repeat (first | rw [if_pos (by with_reducible assumption)] | rw [if_neg (by with_reducible assumption)] | rw [if_pos (by first | exact c1)] | rw [if_neg (by first | exact c1)] | rw [if_pos (by (have t_c1 := neI c1; have : (0 : Int32).toInt = 0 := qI_0; have tnb_ := nib6 tn1467_ tn1468_ tn1461_ tn1458_ tn1459_ tn1460_; have tqz_ := qz41_; omega))] | rw [if_neg (by (have t_c1 := neI c1; have : (0 : Int32).toInt = 0 := qI_0; have tnb_ := nib6 tn1467_ tn1468_ tn1461_ tn1458_ tn1459_ tn1460_; have tqz_ := qz41_; omega))] | rw [if_pos (by decide)] | rw [if_neg (by decide)] | rw [if_pos (by skip; assumption)] | rw [if_neg (by skip; assumption)]))); all_goals rfl)⟩, ⟨by rw [ht]; exact hP9, hD9⟩⟩, hS.F ht⟩) hS.2.2 dX5_readStart_16

set_option maxHeartbeats 1000000 in
set_option maxRecDepth 100000 in
theorem c_X5_readStretchE (l : Launch) (dC : Nat → ClassId) (dI : Nat → Nat → Nat) (G : Nat → ClassId) (sz : Nat) (h0 tp td ta T F P a1 a2 a3 a4 a5 a6 N B D : Nat) (x0 x1 x2 x3 x6 x7 x8 x9 : Int32) (f g1 g2 : Nat → Int32) (hF : F ≤ P) (hP0 : P ≤ T) (hT : T ≤ 320) (hN_N : N ≤ 10) (hB_B : B ≤ 6) (hD_D : 1 ≤ D ∧ D ≤ 9) : Met l yX5_readStretch (Cond.code yX5_readStretch cX5_readStretch 2 (some .boolean) :: GT) ({ frames := 3, cells := 0, slots := 0, locals := 68 } : Room) (PcW [.ref h0] dC dI G [(h0, .inr (5, [.ref tp, .ref td, .int x0, .int x1, .int x2, .int x3, .int (nI F), .int (nI P), .int x6, .int x7, .int x8, .int x9])), (tp, .inr (7, [.int (nI T), .ref ta])), (ta, .inl (G 0, 320, .inl f)), (td, .inr (9, [.int (nI N), .int (nI B), .int (nI D), .ref a1, .ref a2, .ref a3, .ref a4, .ref a5, .ref a6])), (a1, .inl (G 0, 10, .inl g1)), (a2, .inl (G 0, 10, .inl g2))] sz) (va_Qi (fun (r : Int32) (u : Int32 × Int32 × Int32 × Nat × Nat × Nat × (Nat → Int32) × (Nat → Int32)) => match u with | (u0, u1, u3, u4, u5, v0, v1, v2) => ((r = 0 ∨ r = 1) ∧ r = (cSR f T (x0, x1, x3, F, P) N g1 g2).1) ∧ u4 ≤ u5 ∧ u5 ≤ T ∧ v0 ≤ 10 ∧ ((u0, u1, u3, u4, u5), v0, v1, v2) = (cSR f T (x0, x1, x3, F, P) N g1 g2).2) (fun (u : Int32 × Int32 × Int32 × Nat × Nat × Nat × (Nat → Int32) × (Nat → Int32)) (t : State) => match u with | (u0, u1, u3, u4, u5, v0, v1, v2) => va_P (dC, dI) vwCl [(h0, .inr (5, [.ref tp, .ref td, .int u0, .int u1, .int x2, .int u3, .int (nI u4), .int (nI u5), .int x6, .int x7, .int x8, .int x9])), (tp, .inr (7, [.int (nI T), .ref ta])), (ta, .inl (G 0, 320, .inl f)), (td, .inr (9, [.int (nI v0), .int (nI B), .int (nI D), .ref a1, .ref a2, .ref a3, .ref a4, .ref a5, .ref a6])), (a1, .inl (G 0, 10, .inl v1)), (a2, .inl (G 0, 10, .inl v2))] t.heap ∧ va_D (va_A [(h0, .inr (5, [.ref tp, .ref td, .int x0, .int x1, .int x2, .int x3, .int (nI F), .int (nI P), .int x6, .int x7, .int x8, .int x9])), (tp, .inr (7, [.int (nI T), .ref ta])), (ta, .inl (G 0, 320, .inl f)), (td, .inr (9, [.int (nI N), .int (nI B), .int (nI D), .ref a1, .ref a2, .ref a3, .ref a4, .ref a5, .ref a6])), (a1, .inl (G 0, 10, .inl g1)), (a2, .inl (G 0, 10, .inl g2))] sz) [(h0, .inr (5, [.ref tp, .ref td, .int u0, .int u1, .int x2, .int u3, .int (nI u4), .int (nI u5), .int x6, .int x7, .int x8, .int x9])), (tp, .inr (7, [.int (nI T), .ref ta])), (ta, .inl (G 0, 320, .inl f)), (td, .inr (9, [.int (nI v0), .int (nI B), .int (nI D), .ref a1, .ref a2, .ref a3, .ref a4, .ref a5, .ref a6])), (a1, .inl (G 0, 10, .inl v1)), (a2, .inl (G 0, 10, .inl v2))]) (va_A [(h0, .inr (5, [.ref tp, .ref td, .int x0, .int x1, .int x2, .int x3, .int (nI F), .int (nI P), .int x6, .int x7, .int x8, .int x9])), (tp, .inr (7, [.int (nI T), .ref ta])), (ta, .inl (G 0, 320, .inl f)), (td, .inr (9, [.int (nI N), .int (nI B), .int (nI D), .ref a1, .ref a2, .ref a3, .ref a4, .ref a5, .ref a6])), (a1, .inl (G 0, 10, .inl g1)), (a2, .inl (G 0, 10, .inl g2))] sz)) 0 0 (va_A [(h0, .inr (5, [.ref tp, .ref td, .int x0, .int x1, .int x2, .int x3, .int (nI F), .int (nI P), .int x6, .int x7, .int x8, .int x9])), (tp, .inr (7, [.int (nI T), .ref ta])), (ta, .inl (G 0, 320, .inl f)), (td, .inr (9, [.int (nI N), .int (nI B), .int (nI D), .ref a1, .ref a2, .ref a3, .ref a4, .ref a5, .ref a6])), (a1, .inl (G 0, 10, .inl g1)), (a2, .inl (G 0, 10, .inl g2))] sz) := by
  have hT_ := hT
  have tn1469_ : nIT N := fun _ => nI_toInt (by omega)
  have tn1470_ : nIT B := fun _ => nI_toInt (by omega)
  have tn1471_ : nIT D := fun _ => nI_toInt (by omega)
  have tn1472_ : nIT T := fun _ => nI_toInt (by omega)
  refine Met.ofW (cc := cX5_readStretch) (maxL := 2) (ret := (some .boolean)) (by decide) rfl ?_
  intro p e s m args below meth c s₁ Bd hml hv
  obtain ⟨rfl, hsz, hP, hK, hD0⟩ := hv
  have hx := Bd.exec
  have hb := Bd.bytes
  have hr := Bd.returns
  have hg : ∀ w ∈ GT, w.before ([.ref h0] : List Value).toArray s = true := fun w h => atoms_spec (ws := Cond.code yX5_readStretch cX5_readStretch 2 (some .boolean) :: GT) Bd.pre w (List.mem_cons_of_mem _ h)
  have hown : s.vm.findClass RX5 = some m.cls := findClass_of_methodNamed Bd.named
  have hlocks := Bd.notSynchronized
  subst hsz
  have hD := hD0.self (sz := s.heap.size)
  generalize hAe : va_A [(h0, .inr (5, [.ref tp, .ref td, .int x0, .int x1, .int x2, .int x3, .int (nI F), .int (nI P), .int x6, .int x7, .int x8, .int x9])), (tp, .inr (7, [.int (nI T), .ref ta])), (ta, .inl (G 0, 320, .inl f)), (td, .inr (9, [.int (nI N), .int (nI B), .int (nI D), .ref a1, .ref a2, .ref a3, .ref a4, .ref a5, .ref a6])), (a1, .inl (G 0, 10, .inl g1)), (a2, .inl (G 0, 10, .inl g2))] s.heap.size = A at hD ⊢
  have hA : ∀ q : Nat, s.heap.size ≤ q → A q := fun q h => by rw [← hAe]; exact Or.inr h
  have hS : va_S A s.heap s.heap [] := va_S.rf
  have hl := lv_entry ([.ref h0]) (n := 2) (Nat.le_of_ble_eq_true rfl)
  rw [lg_entry_eq]
  generalize (lg_sl ([.ref h0]) ++ List.replicate (2 - (lg_sl ([.ref h0])).length) Slot.unset).toArray = ls at hl ⊢
  have hl : lv_has ls 2 [(0, .ref h0)] := hl
  refine lv_aload_n hx hb dX5_readStretch_0 rfl (lv_at hl 0 rfl) ?_
  refine va_get (D := (dC, dI)) (ci := 5) (v := .ref td) (C := RX5) (T := TX5) (N := 12) hx hb hg inG5 hown hK.1 hP 0 rfl rfl 1 (Nat.le_of_ble_eq_true rfl) (hg _ wt_107) (fun _ h9 => h9) rfl dX5_readStretch_1 ?_
  refine va_getN (D := (dC, dI)) (ci := 9) (v := .int (nI N)) (C := RX9) (T := TX9) (N := 9) hx hb hg inG9 hown hK.1 hP 3 rfl rfl 0 (Nat.le_of_ble_eq_true rfl) (hK.nest wn_61) (fun _ h9 => h9) rfl dX5_readStretch_4 ?_
  refine lv_bipush (v := 10) hx hb dX5_readStretch_7 rfl ?_
  refine lv_icmp_lt (tgt := 22) hx hb dX5_readStretch_9 rfl (fun c1 => ?_) (fun c1 => ?_)
  · skip
    have n2 : N < 10 := by have t := ltI c1; rw [show (nI (N)).toInt = ((N : Nat) : Int) from tn1469_ ()] at t; have : (10 : Int32).toInt = 10 := qI_10; omega
    refine lv_aload_n hx hb dX5_readStretch_22 rfl (lv_at hl 0 rfl) ?_
    refine lv_iconst (v := 0) hx hb dX5_readStretch_23 rfl ?_
    refine lv_bipush (v := 9) hx hb dX5_readStretch_24 rfl ?_
    obtain ⟨hPc, hDc, hFc⟩ := va_sub3 (ws' := [(h0, .inr (5, [.ref tp, .ref td, .int x0, .int x1, .int x2, .int x3, .int (nI F), .int (nI P), .int x6, .int x7, .int x8, .int x9])), (tp, .inr (7, [.int (nI T), .ref ta])), (ta, .inl (G 0, 320, .inl f))]) hP hD hS hA [0, 1, 2] (by decide +kernel) rfl
    have tn1473_ : nIT F := fun _ => nI_toInt (by first | omega | (have t_n2 := n2; omega))
    have tn1474_ : nIT P := fun _ => nI_toInt (by first | omega | (have t_n2 := n2; omega))
    refine va_calli (va_runV (As := [.int 0, .int 9]) (rest := []) ⟨hx, hb, hml, hown, hg⟩ (c_X5_nextNumberE l dC dI G _ h0 tp td ta T P x0 x1 x2 x3 x6 x7 x8 x9 (nI F) 0 9 f hT_ hP0) (kwV hg mfX5_nextNumber wt_455 ⟨Nat.le_of_ble_eq_true rfl, Nat.le_of_ble_eq_true rfl⟩) (preVW hK hPc hDc (ci := 5) (r := (RX5, TX5, 12)) rfl rfl) rfl rfl hl.1 rfl (lv_room (Nat.le_of_ble_eq_true rfl)) dX5_readStretch_26 ⟨Nat.le_of_ble_eq_true rfl, Nat.le_of_ble_eq_true rfl⟩) hS (fun q _ h => hFc q h) hFc (fun r3 ur3 t H1 locs ht hvm w4 hB hz1 hk1 hS => ?_)
    obtain ⟨u5, u6, u7, u8, u9⟩ := ur3
    obtain ⟨hP1, hD1⟩ := hB
    rw [ht] at hP1
    obtain ⟨hP, hD⟩ := va_join (wr := [(td, .inr (9, [.int (nI N), .int (nI B), .int (nI D), .ref a1, .ref a2, .ref a3, .ref a4, .ref a5, .ref a6])), (a1, .inl (G 0, 10, .inl g1)), (a2, .inl (G 0, 10, .inl g2))]) (w1 := [(h0, .inr (5, [.ref tp, .ref td, .int u5, .int u6, .int x2, .int u7, .int (nI u8), .int (nI u9), .int x6, .int x7, .int x8, .int x9])), (tp, .inr (7, [.int (nI T), .ref ta])), (ta, .inl (G 0, 320, .inl f))]) hP hD [0, 1, 2] [3, 4, 5] rfl rfl (by decide +kernel) (by decide +kernel) hk1 hFc hP1 hD1
    generalize H1 = H at hP hS ⊢
    obtain ⟨w4, w4x⟩ := w4
    have vw4 : (tNN f T 0 9 (x0, x1, x3, F, P)).1 = r3 := w4.2.symm
    have ew4 : (tNN f T 0 9 (x0, x1, x3, F, P)).2 = (u5, u6, u7, u8, u9) := w4x.2.2.symm
    have bw4 : ¬ r3 = 0 → (0 : Int32).toInt ≤ (valN f T u8 (u9 - u8)).toInt ∧ (valN f T u8 (u9 - u8)).toInt ≤ (9 : Int32).toInt := (fun n9 => by rcases w4.1 with h9 | h9; exact absurd h9 n9; exact h9.2)
    refine lv_if_ne (tgt := 34) hx hb dX5_readStretch_29 rfl (fun c10 => ?_) (fun c10 => ?_)
    · skip
      refine lv_aload_n hx hb dX5_readStretch_34 rfl (lv_at hl 0 rfl) ?_
      have hPc := hP.sub (ws' := [(h0, .inr (5, [.ref tp, .ref td, .int u5, .int u6, .int x2, .int u7, .int (nI u8), .int (nI u9), .int x6, .int x7, .int x8, .int x9])), (tp, .inr (7, [.int (nI T), .ref ta])), (ta, .inl (G 0, 320, .inl f))]) [3, 4, 5] rfl
      refine va_calli (va_runV (As := []) (rest := []) ⟨hx, hb, hml, hown, hg⟩ (c_X5_value l dC dI G _ h0 tp td ta T u8 u9 u5 u6 x2 u7 x6 x7 x8 x9 f hT_ (by first | omega | (have t_n2 := n2; have t_c10 := neI c10; have : (0 : Int32).toInt = 0 := qI_0; have tnb_ := nib6 tn1473_ tn1474_ tn1472_ tn1469_ tn1470_ tn1471_; omega)) (by first | omega | (have t_n2 := n2; have t_c10 := neI c10; have : (0 : Int32).toInt = 0 := qI_0; have tnb_ := nib6 tn1473_ tn1474_ tn1472_ tn1469_ tn1470_ tn1471_; omega))) (kwV hg mfX5_value wt_459 ⟨Nat.le_of_ble_eq_true rfl, Nat.le_of_ble_eq_true rfl⟩) (preVR hK hPc (ci := 5) (r := (RX5, TX5, 12)) rfl rfl) rfl rfl hl.1 rfl (lv_room (Nat.le_of_ble_eq_true rfl)) dX5_readStretch_35 ⟨Nat.le_of_ble_eq_true rfl, Nat.le_of_ble_eq_true rfl⟩) hS (fun q h1 h2 => absurd h2 (Nat.not_le.mpr h1)) (fun q h => hA q (Nat.le_trans hS.1 h)) (fun r11 ur11 t H1 locs ht hvm w12 hB hz1 hk1 hS => ?_)
      have hP := keepR hP hk1
      obtain ⟨w12, w12x⟩ := w12
      subst w12
      refine lv_istore_n (lv' := [(1, .int (valN f T u8 (u9 - u8))), (0, .ref h0)]) hx hb dX5_readStretch_38 rfl hl (by decide) rfl (fun ls hl => ?_)
      refine lv_aload_n hx hb dX5_readStretch_39 rfl (lv_at hl 1 rfl) ?_
      refine lv_iconst (v := 0) hx hb dX5_readStretch_40 rfl ?_
      refine lv_bipush (v := 9) hx hb dX5_readStretch_41 rfl ?_
      obtain ⟨hPc, hDc, hFc⟩ := va_sub3 (ws' := [(h0, .inr (5, [.ref tp, .ref td, .int u5, .int u6, .int x2, .int u7, .int (nI u8), .int (nI u9), .int x6, .int x7, .int x8, .int x9])), (tp, .inr (7, [.int (nI T), .ref ta])), (ta, .inl (G 0, 320, .inl f))]) hP hD hS hA [3, 4, 5] (by decide +kernel) rfl
      refine va_calli (va_runV (As := [.int 0, .int 9]) (rest := []) ⟨hx, hb, hml, hown, hg⟩ (c_X5_nextNumberE l dC dI G _ h0 tp td ta T u9 u5 u6 x2 u7 x6 x7 x8 x9 (nI u8) 0 9 f hT_ (by first | omega | (have t_n2 := n2; have t_c10 := neI c10; have : (0 : Int32).toInt = 0 := qI_0; have tnb_ := nib6 tn1473_ tn1474_ tn1472_ tn1469_ tn1470_ tn1471_; have tqz_ := qz3_; omega))) (kwV hg mfX5_nextNumber wt_455 ⟨Nat.le_of_ble_eq_true rfl, Nat.le_of_ble_eq_true rfl⟩) (preVW hK hPc hDc (ci := 5) (r := (RX5, TX5, 12)) rfl rfl) rfl rfl hl.1 rfl (lv_room (Nat.le_of_ble_eq_true rfl)) dX5_readStretch_43 ⟨Nat.le_of_ble_eq_true rfl, Nat.le_of_ble_eq_true rfl⟩) hS (fun q _ h => hFc q h) hFc (fun r13 ur13 t H1 locs ht hvm w14 hB hz1 hk1 hS => ?_)
      obtain ⟨u15, u16, u17, u18, u19⟩ := ur13
      obtain ⟨hP1, hD1⟩ := hB
      rw [ht] at hP1
      obtain ⟨hP, hD⟩ := va_join (wr := [(td, .inr (9, [.int (nI N), .int (nI B), .int (nI D), .ref a1, .ref a2, .ref a3, .ref a4, .ref a5, .ref a6])), (a1, .inl (G 0, 10, .inl g1)), (a2, .inl (G 0, 10, .inl g2))]) (w1 := [(h0, .inr (5, [.ref tp, .ref td, .int u15, .int u16, .int x2, .int u17, .int (nI u18), .int (nI u19), .int x6, .int x7, .int x8, .int x9])), (tp, .inr (7, [.int (nI T), .ref ta])), (ta, .inl (G 0, 320, .inl f))]) hP hD [3, 4, 5] [0, 1, 2] rfl rfl (by decide +kernel) (by decide +kernel) hk1 hFc hP1 hD1
      generalize H1 = H at hP hS ⊢
      obtain ⟨w14, w14x⟩ := w14
      have vw14 : (tNN f T 0 9 (u5, u6, u7, u8, u9)).1 = r13 := w14.2.symm
      have ew14 : (tNN f T 0 9 (u5, u6, u7, u8, u9)).2 = (u15, u16, u17, u18, u19) := w14x.2.2.symm
      have bw14 : ¬ r13 = 0 → (0 : Int32).toInt ≤ (valN f T u18 (u19 - u18)).toInt ∧ (valN f T u18 (u19 - u18)).toInt ≤ (9 : Int32).toInt := (fun n9 => by rcases w14.1 with h9 | h9; exact absurd h9 n9; exact h9.2)
      refine lv_if_ne (tgt := 51) hx hb dX5_readStretch_46 rfl (fun c20 => ?_) (fun c20 => ?_)
      · skip
        refine lv_aload_n hx hb dX5_readStretch_51 rfl (lv_at hl 1 rfl) ?_
        refine va_get (D := (dC, dI)) (ci := 5) (v := .ref td) (C := RX5) (T := TX5) (N := 12) hx hb hg inG5 hown hK.1 hP 3 rfl rfl 1 (Nat.le_of_ble_eq_true rfl) (hg _ wt_107) (fun _ h9 => h9) rfl dX5_readStretch_52 ?_
        refine lv_iload_n hx hb dX5_readStretch_55 rfl (lv_at hl 0 rfl) ?_
        refine lv_aload_n hx hb dX5_readStretch_56 rfl (lv_at hl 1 rfl) ?_
        have hPc := hP.sub (ws' := [(h0, .inr (5, [.ref tp, .ref td, .int u15, .int u16, .int x2, .int u17, .int (nI u18), .int (nI u19), .int x6, .int x7, .int x8, .int x9])), (tp, .inr (7, [.int (nI T), .ref ta])), (ta, .inl (G 0, 320, .inl f))]) [3, 4, 5] rfl
        refine va_calli (va_runV (As := []) (rest := [.int (valN f T u8 (u9 - u8)), .ref td]) ⟨hx, hb, hml, hown, hg⟩ (c_X5_value l dC dI G _ h0 tp td ta T u18 u19 u15 u16 x2 u17 x6 x7 x8 x9 f hT_ (by first | omega | (have t_n2 := n2; have t_c10 := neI c10; have t_c20 := neI c20; have : (0 : Int32).toInt = 0 := qI_0; have tnb_ := nib6 tn1473_ tn1474_ tn1472_ tn1469_ tn1470_ tn1471_; omega)) (by first | omega | (have t_n2 := n2; have t_c10 := neI c10; have t_c20 := neI c20; have : (0 : Int32).toInt = 0 := qI_0; have tnb_ := nib6 tn1473_ tn1474_ tn1472_ tn1469_ tn1470_ tn1471_; omega))) (kwV hg mfX5_value wt_459 ⟨Nat.le_of_ble_eq_true rfl, Nat.le_of_ble_eq_true rfl⟩) (preVR hK hPc (ci := 5) (r := (RX5, TX5, 12)) rfl rfl) rfl rfl hl.1 rfl (lv_room (Nat.le_of_ble_eq_true rfl)) dX5_readStretch_57 ⟨Nat.le_of_ble_eq_true rfl, Nat.le_of_ble_eq_true rfl⟩) hS (fun q h1 h2 => absurd h2 (Nat.not_le.mpr h1)) (fun q h => hA q (Nat.le_trans hS.1 h)) (fun r21 ur21 t H1 locs ht hvm w22 hB hz1 hk1 hS => ?_)
        have hP := keepR hP hk1
        obtain ⟨w22, w22x⟩ := w22
        subst w22
        obtain ⟨hPc, hDc, hFc⟩ := va_sub3 (ws' := [(td, .inr (9, [.int (nI N), .int (nI B), .int (nI D), .ref a1, .ref a2, .ref a3, .ref a4, .ref a5, .ref a6])), (a1, .inl (G 0, 10, .inl g1)), (a2, .inl (G 0, 10, .inl g2))]) hP hD hS hA [0, 1, 2] (by decide +kernel) rfl
        refine va_callv (va_runVN (As := [.int (valN f T u8 (u9 - u8)), .int (valN f T u18 (u19 - u18))]) (rest := []) ⟨hx, hb, hml, hown, hg⟩ (c_X9_addStretchE l dC dI G _ td a1 a2 a3 a4 a5 a6 N B D (valN f T u8 (u9 - u8)) (valN f T u18 (u19 - u18)) g1 g2 hN_N hB_B hD_D) (kwVN hg hK mfX9_addStretch wn_472 ⟨Nat.le_of_ble_eq_true rfl, Nat.le_of_ble_eq_true rfl⟩) (preVW hK hPc hDc (ci := 9) (r := (RX9, TX9, 9)) rfl rfl) rfl rfl hl.1 rfl (lv_room (Nat.le_of_ble_eq_true rfl)) dX5_readStretch_60 ⟨Nat.le_of_ble_eq_true rfl, Nat.le_of_ble_eq_true rfl⟩) hS (fun q _ h => hFc q h) hFc (fun ur23 t H1 locs ht hvm w24 hB hz1 hk1 hS => ?_)
        obtain ⟨u25, u26, u27⟩ := ur23
        obtain ⟨hP1, hD1⟩ := hB
        rw [ht] at hP1
        obtain ⟨hP, hD⟩ := va_join (wr := [(h0, .inr (5, [.ref tp, .ref td, .int u15, .int u16, .int x2, .int u17, .int (nI u18), .int (nI u19), .int x6, .int x7, .int x8, .int x9])), (tp, .inr (7, [.int (nI T), .ref ta])), (ta, .inl (G 0, 320, .inl f))]) (w1 := [(td, .inr (9, [.int (nI u25), .int (nI B), .int (nI D), .ref a1, .ref a2, .ref a3, .ref a4, .ref a5, .ref a6])), (a1, .inl (G 0, 10, .inl u26)), (a2, .inl (G 0, 10, .inl u27))]) hP hD [0, 1, 2] [3, 4, 5] rfl rfl (by decide +kernel) (by decide +kernel) hk1 hFc hP1 hD1
        have w24 : u25 = (if N < 10 then N + 1 else N) ∧ u26 = (if N < 10 then upd g1 N (valN f T u8 (u9 - u8)) else g1) ∧ u27 = (if N < 10 then upd g2 N (valN f T u18 (u19 - u18)) else g2) := w24
        generalize H1 = H at hP hS ⊢
        have qw24a : u25 = N + 1 := (by have t_n2 := n2; have t_c10 := neI c10; have t_c20 := neI c20; have : (0 : Int32).toInt = 0 := qI_0; have tnb_ := nib6 tn1473_ tn1474_ tn1472_ tn1469_ tn1470_ tn1471_; have h9 := w24.1; rw [if_pos (by omega)] at h9; exact h9)
        have qw24b0 : u26 = upd g1 N (valN f T u8 (u9 - u8)) := (by have t_n2 := n2; have t_c10 := neI c10; have t_c20 := neI c20; have : (0 : Int32).toInt = 0 := qI_0; have tnb_ := nib6 tn1473_ tn1474_ tn1472_ tn1469_ tn1470_ tn1471_; have h9 := w24.2.1; rw [if_pos (by omega)] at h9; exact h9)
        have qw24b1 : u27 = upd g2 N (valN f T u18 (u19 - u18)) := (by have t_n2 := n2; have t_c10 := neI c10; have t_c20 := neI c20; have : (0 : Int32).toInt = 0 := qI_0; have tnb_ := nib6 tn1473_ tn1474_ tn1472_ tn1469_ tn1470_ tn1471_; have h9 := w24.2.2; rw [if_pos (by omega)] at h9; exact h9)
        refine lv_aload_n hx hb dX5_readStretch_63 rfl (lv_at hl 1 rfl) ?_
        obtain ⟨hPc, hDc, hFc⟩ := va_sub3 (ws' := [(h0, .inr (5, [.ref tp, .ref td, .int u15, .int u16, .int x2, .int u17, .int (nI u18), .int (nI u19), .int x6, .int x7, .int x8, .int x9])), (tp, .inr (7, [.int (nI T), .ref ta])), (ta, .inl (G 0, 320, .inl f))]) hP hD hS hA [0, 1, 2] (by decide +kernel) rfl
        refine va_calli (va_runV (As := []) (rest := []) ⟨hx, hb, hml, hown, hg⟩ (c_X5_nextStopE l dC dI G _ h0 tp td ta T u19 u15 u16 x2 u17 x6 x7 x8 x9 (nI u18) f hT_ (by first | omega | (have t_n2 := n2; have t_c10 := neI c10; have t_c20 := neI c20; have : (0 : Int32).toInt = 0 := qI_0; have tnb_ := nib6 tn1473_ tn1474_ tn1472_ tn1469_ tn1470_ tn1471_; omega))) (kwV hg mfX5_nextStop wt_463 ⟨Nat.le_of_ble_eq_true rfl, Nat.le_of_ble_eq_true rfl⟩) (preVW hK hPc hDc (ci := 5) (r := (RX5, TX5, 12)) rfl rfl) rfl rfl hl.1 rfl (lv_room (Nat.le_of_ble_eq_true rfl)) dX5_readStretch_64 ⟨Nat.le_of_ble_eq_true rfl, Nat.le_of_ble_eq_true rfl⟩) hS (fun q _ h => hFc q h) hFc (fun r28 ur28 t H1 locs ht hvm w29 hB hz1 hk1 hS => ?_)
        obtain ⟨u30, u31, u32, u33, u34⟩ := ur28
        obtain ⟨hP1, hD1⟩ := hB
        rw [ht] at hP1
        obtain ⟨hP, hD⟩ := va_join (wr := [(td, .inr (9, [.int (nI u25), .int (nI B), .int (nI D), .ref a1, .ref a2, .ref a3, .ref a4, .ref a5, .ref a6])), (a1, .inl (G 0, 10, .inl u26)), (a2, .inl (G 0, 10, .inl u27))]) (w1 := [(h0, .inr (5, [.ref tp, .ref td, .int u30, .int u31, .int x2, .int u32, .int (nI u33), .int (nI u34), .int x6, .int x7, .int x8, .int x9])), (tp, .inr (7, [.int (nI T), .ref ta])), (ta, .inl (G 0, 320, .inl f))]) hP hD [0, 1, 2] [3, 4, 5] rfl rfl (by decide +kernel) (by decide +kernel) hk1 hFc hP1 hD1
        generalize H1 = H at hP hS ⊢
        obtain ⟨w29, w29x⟩ := w29
        have vw29 : (tNS f T (u15, u16, u17, u18, u19)).1 = r28 := w29.2.symm
        have ew29 : (tNS f T (u15, u16, u17, u18, u19)).2 = (u30, u31, u32, u33, u34) := w29x.2.2.symm
        have hpost : ((r28 : Int32) = 0 ∨ (r28 : Int32) = 1) ∧ (r28 : Int32) = (cSR f T (x0, x1, x3, F, P) N g1 g2).1 := by
          refine ⟨w29.1, ?_⟩
          unfold cSR
          (try rw [vw4])
          (try rw [ew4])
          (try rw [vw14])
          (try rw [ew14])
          (try rw [qw24a])
          (try rw [qw24b0])
          (try rw [qw24b1])
          (try rw [vw29])
          (try rw [ew29])
          (try (repeat (first | rw [if_pos (by with_reducible assumption)] | rw [if_neg (by with_reducible assumption)] | rw [if_pos (by first | exact c10 | exact c20)] | rw [if_neg (by first | exact c10 | exact c20)] | rw [if_pos (by (have t_n2 := n2; have t_c10 := neI c10; have t_c20 := neI c20; have : (0 : Int32).toInt = 0 := qI_0; have tnb_ := nib6 tn1473_ tn1474_ tn1472_ tn1469_ tn1470_ tn1471_; have tqz_ := qz41_; omega))] | rw [if_neg (by (have t_n2 := n2; have t_c10 := neI c10; have t_c20 := neI c20; have : (0 : Int32).toInt = 0 := qI_0; have tnb_ := nib6 tn1473_ tn1474_ tn1472_ tn1469_ tn1470_ tn1471_; have tqz_ := qz41_; omega))] | rw [if_pos (by decide)] | rw [if_neg (by decide)] | rw [if_pos (by skip; assumption)] | rw [if_neg (by skip; assumption)])))
          all_goals rfl
        obtain ⟨hP9, hD9⟩ := va_sub2 (ws' := [(h0, .inr (5, [.ref tp, .ref td, .int u30, .int u31, .int x2, .int u32, .int (nI u33), .int (nI u34), .int x6, .int x7, .int x8, .int x9])), (tp, .inr (7, [.int (nI T), .ref ta])), (ta, .inl (G 0, 320, .inl f)), (td, .inr (9, [.int (nI u25), .int (nI B), .int (nI D), .ref a1, .ref a2, .ref a3, .ref a4, .ref a5, .ref a6])), (a1, .inl (G 0, 10, .inl u26)), (a2, .inl (G 0, 10, .inl u27))]) hP hD [3, 4, 5, 0, 1, 2] (by decide +kernel) rfl
        refine W.widen (k := 0) (n := 0) (Nat.le_of_ble_eq_true rfl) (Nat.le_of_ble_eq_true rfl) ?_
        exact W.zret (v := r28) hx hb hr (by first | rfl | decide | exact zn01 w29.1) (fun t ht hW => ⟨⟨r28, (u30, u31, u32, u33, u34, u25, u26, u27), rfl, ⟨hpost, (by refine ⟨by (have t_n2 := n2; have t_c10 := neI c10; have t_c20 := neI c20; have : (0 : Int32).toInt = 0 := qI_0; have tnb_ := nib6 tn1473_ tn1474_ tn1472_ tn1469_ tn1470_ tn1471_; have tqz_ := qz41_; omega), by (have t_n2 := n2; have t_c10 := neI c10; have t_c20 := neI c20; have : (0 : Int32).toInt = 0 := qI_0; have tnb_ := nib6 tn1473_ tn1474_ tn1472_ tn1469_ tn1470_ tn1471_; have tqz_ := qz41_; omega), by (have t_n2 := n2; have t_c10 := neI c10; have t_c20 := neI c20; have : (0 : Int32).toInt = 0 := qI_0; have tnb_ := nib6 tn1473_ tn1474_ tn1472_ tn1469_ tn1470_ tn1471_; have tqz_ := qz41_; omega), ?_⟩; unfold cSR; (try rw [vw4]); (try rw [ew4]); (try rw [vw14]); (try rw [ew14]); (try rw [qw24a]); (try rw [qw24b0]); (try rw [qw24b1]); (try rw [vw29]); (try rw [ew29]); (try (repeat (first | rw [if_pos (by with_reducible assumption)] | rw [if_neg (by with_reducible assumption)] | rw [if_pos (by first | exact c10 | exact c20)] | rw [if_neg (by first | exact c10 | exact c20)] | rw [if_pos (by (have t_n2 := n2; have t_c10 := neI c10; have t_c20 := neI c20; have : (0 : Int32).toInt = 0 := qI_0; have tnb_ := nib6 tn1473_ tn1474_ tn1472_ tn1469_ tn1470_ tn1471_; have tqz_ := qz41_; omega))] | rw [if_neg (by (have t_n2 := n2; have t_c10 := neI c10; have t_c20 := neI c20; have : (0 : Int32).toInt = 0 := qI_0; have tnb_ := nib6 tn1473_ tn1474_ tn1472_ tn1469_ tn1470_ tn1471_; have tqz_ := qz41_; omega))] | rw [if_pos (by decide)] | rw [if_neg (by decide)] | rw [if_pos (by skip; assumption)] | rw [if_neg (by skip; assumption)]))); all_goals rfl; skip)⟩, ⟨by rw [ht]; exact hP9, hD9⟩⟩, hS.F ht⟩) hS.2.2 dX5_readStretch_67
      · skip
        refine lv_iconst (v := 0) hx hb dX5_readStretch_49 rfl ?_
        have hpost : ((0 : Int32) = 0 ∨ (0 : Int32) = 1) ∧ (0 : Int32) = (cSR f T (x0, x1, x3, F, P) N g1 g2).1 := by
          refine ⟨Or.inl rfl, ?_⟩
          unfold cSR
          (try rw [vw4])
          (try rw [ew4])
          (try rw [vw14])
          (try rw [ew14])
          (try (repeat (first | rw [if_pos (by with_reducible assumption)] | rw [if_neg (by with_reducible assumption)] | rw [if_pos (by first | exact c10 | exact c20)] | rw [if_neg (by first | exact c10 | exact c20)] | rw [if_pos (by (have t_n2 := n2; have t_c10 := neI c10; have t_c20 := eqI c20; have : (0 : Int32).toInt = 0 := qI_0; have tnb_ := nib6 tn1473_ tn1474_ tn1472_ tn1469_ tn1470_ tn1471_; have tqz_ := qz41_; omega))] | rw [if_neg (by (have t_n2 := n2; have t_c10 := neI c10; have t_c20 := eqI c20; have : (0 : Int32).toInt = 0 := qI_0; have tnb_ := nib6 tn1473_ tn1474_ tn1472_ tn1469_ tn1470_ tn1471_; have tqz_ := qz41_; omega))] | rw [if_pos (by decide)] | rw [if_neg (by decide)] | rw [if_pos (by skip; assumption)] | rw [if_neg (by skip; assumption)])))
          all_goals rfl
        obtain ⟨hP9, hD9⟩ := va_sub2 (ws' := [(h0, .inr (5, [.ref tp, .ref td, .int u15, .int u16, .int x2, .int u17, .int (nI u18), .int (nI u19), .int x6, .int x7, .int x8, .int x9])), (tp, .inr (7, [.int (nI T), .ref ta])), (ta, .inl (G 0, 320, .inl f)), (td, .inr (9, [.int (nI N), .int (nI B), .int (nI D), .ref a1, .ref a2, .ref a3, .ref a4, .ref a5, .ref a6])), (a1, .inl (G 0, 10, .inl g1)), (a2, .inl (G 0, 10, .inl g2))]) hP hD [3, 4, 5, 0, 1, 2] (by decide +kernel) rfl
        refine W.widen (k := 0) (n := 0) (Nat.le_of_ble_eq_true rfl) (Nat.le_of_ble_eq_true rfl) ?_
        exact W.zret (v := 0) hx hb hr (by first | rfl | decide | exact rfl) (fun t ht hW => ⟨⟨0, (u15, u16, u17, u18, u19, N, g1, g2), rfl, ⟨hpost, (by refine ⟨by (have t_n2 := n2; have t_c10 := neI c10; have t_c20 := eqI c20; have : (0 : Int32).toInt = 0 := qI_0; have tnb_ := nib6 tn1473_ tn1474_ tn1472_ tn1469_ tn1470_ tn1471_; have tqz_ := qz41_; omega), by (have t_n2 := n2; have t_c10 := neI c10; have t_c20 := eqI c20; have : (0 : Int32).toInt = 0 := qI_0; have tnb_ := nib6 tn1473_ tn1474_ tn1472_ tn1469_ tn1470_ tn1471_; have tqz_ := qz41_; omega), by (have t_n2 := n2; have t_c10 := neI c10; have t_c20 := eqI c20; have : (0 : Int32).toInt = 0 := qI_0; have tnb_ := nib6 tn1473_ tn1474_ tn1472_ tn1469_ tn1470_ tn1471_; have tqz_ := qz41_; omega), ?_⟩; unfold cSR; (try rw [vw4]); (try rw [ew4]); (try rw [vw14]); (try rw [ew14]); (try (repeat (first | rw [if_pos (by with_reducible assumption)] | rw [if_neg (by with_reducible assumption)] | rw [if_pos (by first | exact c10 | exact c20)] | rw [if_neg (by first | exact c10 | exact c20)] | rw [if_pos (by (have t_n2 := n2; have t_c10 := neI c10; have t_c20 := eqI c20; have : (0 : Int32).toInt = 0 := qI_0; have tnb_ := nib6 tn1473_ tn1474_ tn1472_ tn1469_ tn1470_ tn1471_; have tqz_ := qz41_; omega))] | rw [if_neg (by (have t_n2 := n2; have t_c10 := neI c10; have t_c20 := eqI c20; have : (0 : Int32).toInt = 0 := qI_0; have tnb_ := nib6 tn1473_ tn1474_ tn1472_ tn1469_ tn1470_ tn1471_; have tqz_ := qz41_; omega))] | rw [if_pos (by decide)] | rw [if_neg (by decide)] | rw [if_pos (by skip; assumption)] | rw [if_neg (by skip; assumption)]))); all_goals rfl; skip)⟩, ⟨by rw [ht]; exact hP9, hD9⟩⟩, hS.F ht⟩) hS.2.2 dX5_readStretch_50
    · skip
      refine lv_iconst (v := 0) hx hb dX5_readStretch_32 rfl ?_
      have hpost : ((0 : Int32) = 0 ∨ (0 : Int32) = 1) ∧ (0 : Int32) = (cSR f T (x0, x1, x3, F, P) N g1 g2).1 := by
        refine ⟨Or.inl rfl, ?_⟩
        unfold cSR
        (try rw [vw4])
        (try rw [ew4])
        (try (repeat (first | rw [if_pos (by with_reducible assumption)] | rw [if_neg (by with_reducible assumption)] | rw [if_pos (by first | exact c10)] | rw [if_neg (by first | exact c10)] | rw [if_pos (by (have t_n2 := n2; have t_c10 := eqI c10; have : (0 : Int32).toInt = 0 := qI_0; have tnb_ := nib6 tn1473_ tn1474_ tn1472_ tn1469_ tn1470_ tn1471_; have tqz_ := qz41_; omega))] | rw [if_neg (by (have t_n2 := n2; have t_c10 := eqI c10; have : (0 : Int32).toInt = 0 := qI_0; have tnb_ := nib6 tn1473_ tn1474_ tn1472_ tn1469_ tn1470_ tn1471_; have tqz_ := qz41_; omega))] | rw [if_pos (by decide)] | rw [if_neg (by decide)] | rw [if_pos (by skip; assumption)] | rw [if_neg (by skip; assumption)])))
        all_goals rfl
      obtain ⟨hP9, hD9⟩ := va_sub2 (ws' := [(h0, .inr (5, [.ref tp, .ref td, .int u5, .int u6, .int x2, .int u7, .int (nI u8), .int (nI u9), .int x6, .int x7, .int x8, .int x9])), (tp, .inr (7, [.int (nI T), .ref ta])), (ta, .inl (G 0, 320, .inl f)), (td, .inr (9, [.int (nI N), .int (nI B), .int (nI D), .ref a1, .ref a2, .ref a3, .ref a4, .ref a5, .ref a6])), (a1, .inl (G 0, 10, .inl g1)), (a2, .inl (G 0, 10, .inl g2))]) hP hD [3, 4, 5, 0, 1, 2] (by decide +kernel) rfl
      refine W.widen (k := 0) (n := 0) (Nat.le_of_ble_eq_true rfl) (Nat.le_of_ble_eq_true rfl) ?_
      exact W.zret (v := 0) hx hb hr (by first | rfl | decide | exact rfl) (fun t ht hW => ⟨⟨0, (u5, u6, u7, u8, u9, N, g1, g2), rfl, ⟨hpost, (by refine ⟨by (have t_n2 := n2; have t_c10 := eqI c10; have : (0 : Int32).toInt = 0 := qI_0; have tnb_ := nib6 tn1473_ tn1474_ tn1472_ tn1469_ tn1470_ tn1471_; have tqz_ := qz41_; omega), by (have t_n2 := n2; have t_c10 := eqI c10; have : (0 : Int32).toInt = 0 := qI_0; have tnb_ := nib6 tn1473_ tn1474_ tn1472_ tn1469_ tn1470_ tn1471_; have tqz_ := qz41_; omega), by (have t_n2 := n2; have t_c10 := eqI c10; have : (0 : Int32).toInt = 0 := qI_0; have tnb_ := nib6 tn1473_ tn1474_ tn1472_ tn1469_ tn1470_ tn1471_; have tqz_ := qz41_; omega), ?_⟩; unfold cSR; (try rw [vw4]); (try rw [ew4]); (try (repeat (first | rw [if_pos (by with_reducible assumption)] | rw [if_neg (by with_reducible assumption)] | rw [if_pos (by first | exact c10)] | rw [if_neg (by first | exact c10)] | rw [if_pos (by (have t_n2 := n2; have t_c10 := eqI c10; have : (0 : Int32).toInt = 0 := qI_0; have tnb_ := nib6 tn1473_ tn1474_ tn1472_ tn1469_ tn1470_ tn1471_; have tqz_ := qz41_; omega))] | rw [if_neg (by (have t_n2 := n2; have t_c10 := eqI c10; have : (0 : Int32).toInt = 0 := qI_0; have tnb_ := nib6 tn1473_ tn1474_ tn1472_ tn1469_ tn1470_ tn1471_; have tqz_ := qz41_; omega))] | rw [if_pos (by decide)] | rw [if_neg (by decide)] | rw [if_pos (by skip; assumption)] | rw [if_neg (by skip; assumption)]))); all_goals rfl; skip)⟩, ⟨by rw [ht]; exact hP9, hD9⟩⟩, hS.F ht⟩) hS.2.2 dX5_readStretch_33
  · skip
    have n35 : 10 ≤ N := by have t := nltI c1; rw [show (nI (N)).toInt = ((N : Nat) : Int) from tn1469_ ()] at t; have : (10 : Int32).toInt = 10 := qI_10; omega
    refine lv_aload_n hx hb dX5_readStretch_12 rfl (lv_at hl 0 rfl) ?_
    refine lv_iconst (v := 5) hx hb dX5_readStretch_13 rfl ?_
    refine lv_aload_n hx hb dX5_readStretch_14 rfl (lv_at hl 0 rfl) ?_
    refine va_get (D := (dC, dI)) (ci := 5) (v := .int (nI F)) (C := RX5) (T := TX5) (N := 12) hx hb hg inG5 hown hK.1 hP 0 rfl rfl 6 (Nat.le_of_ble_eq_true rfl) (hg _ wt_116) (fun _ h9 => h9) rfl dX5_readStretch_15 ?_
    obtain ⟨hPc, hDc, hFc⟩ := va_sub3 (ws' := [(h0, .inr (5, [.ref tp, .ref td, .int x0, .int x1, .int x2, .int x3, .int (nI F), .int (nI P), .int x6, .int x7, .int x8, .int x9]))]) hP hD hS hA [0] (by decide +kernel) rfl
    refine va_calli (va_runV (As := [.int 5, .int (nI F)]) (rest := []) ⟨hx, hb, hml, hown, hg⟩ (c_X5_refuseE l dC dI G _ h0 tp td x0 x1 x2 x3 (nI F) (nI P) x6 x7 x8 x9 5 (nI F)) (kwV hg mfX5_refuse wt_386 ⟨Nat.le_of_ble_eq_true rfl, Nat.le_of_ble_eq_true rfl⟩) (preVW hK hPc hDc (ci := 5) (r := (RX5, TX5, 12)) rfl rfl) rfl rfl hl.1 rfl (lv_room (Nat.le_of_ble_eq_true rfl)) dX5_readStretch_18 ⟨Nat.le_of_ble_eq_true rfl, Nat.le_of_ble_eq_true rfl⟩) hS (fun q _ h => hFc q h) hFc (fun r36 ur36 t H1 locs ht hvm w37 hB hz1 hk1 hS => ?_)
    obtain ⟨u38, u39⟩ := ur36
    obtain ⟨hP1, hD1⟩ := hB
    rw [ht] at hP1
    obtain ⟨hP, hD⟩ := va_join (wr := [(tp, .inr (7, [.int (nI T), .ref ta])), (ta, .inl (G 0, 320, .inl f)), (td, .inr (9, [.int (nI N), .int (nI B), .int (nI D), .ref a1, .ref a2, .ref a3, .ref a4, .ref a5, .ref a6])), (a1, .inl (G 0, 10, .inl g1)), (a2, .inl (G 0, 10, .inl g2))]) (w1 := [(h0, .inr (5, [.ref tp, .ref td, .int u38, .int u39, .int x2, .int x3, .int (nI F), .int (nI P), .int x6, .int x7, .int x8, .int x9]))]) hP hD [0] [1, 2, 3, 4, 5] rfl rfl (by decide +kernel) (by decide +kernel) hk1 hFc hP1 hD1
    generalize H1 = H at hP hS ⊢
    obtain ⟨w37, w37x⟩ := w37
    subst w37
    have ew37 : cRF 5 (x0, x1, x3, F, P) = (u38, u39, x3, F, P) := (by show (flB _ _, flP _ _ _, _, _, _) = _; rw [← w37x.1, ← w37x.2])
    have hpost : ((0 : Int32) = 0 ∨ (0 : Int32) = 1) ∧ (0 : Int32) = (cSR f T (x0, x1, x3, F, P) N g1 g2).1 := by
      have tn1475_ : nIT F := fun _ => nI_toInt (by omega)
      have tn1476_ : nIT P := fun _ => nI_toInt (by omega)
      refine ⟨Or.inl rfl, ?_⟩
      unfold cSR
      (try rw [ew37])
      (try (repeat (first | rw [if_pos (by with_reducible assumption)] | rw [if_neg (by with_reducible assumption)] | rw [if_pos (by (have t_n35 := n35; have tnb_ := nib6 tn1475_ tn1476_ tn1472_ tn1469_ tn1470_ tn1471_; have tqz_ := qz41_; omega))] | rw [if_neg (by (have t_n35 := n35; have tnb_ := nib6 tn1475_ tn1476_ tn1472_ tn1469_ tn1470_ tn1471_; have tqz_ := qz41_; omega))] | rw [if_pos (by decide)] | rw [if_neg (by decide)] | rw [if_pos (by skip; assumption)] | rw [if_neg (by skip; assumption)])))
      all_goals rfl
    obtain ⟨hP9, hD9⟩ := va_sub2 (ws' := [(h0, .inr (5, [.ref tp, .ref td, .int u38, .int u39, .int x2, .int x3, .int (nI F), .int (nI P), .int x6, .int x7, .int x8, .int x9])), (tp, .inr (7, [.int (nI T), .ref ta])), (ta, .inl (G 0, 320, .inl f)), (td, .inr (9, [.int (nI N), .int (nI B), .int (nI D), .ref a1, .ref a2, .ref a3, .ref a4, .ref a5, .ref a6])), (a1, .inl (G 0, 10, .inl g1)), (a2, .inl (G 0, 10, .inl g2))]) hP hD [5, 0, 1, 2, 3, 4] (by decide +kernel) rfl
    refine W.widen (k := 0) (n := 0) (Nat.le_of_ble_eq_true rfl) (Nat.le_of_ble_eq_true rfl) ?_
    have tn1477_ : nIT F := fun _ => nI_toInt (by first | omega | (have t_n35 := n35; omega))
    have tn1478_ : nIT P := fun _ => nI_toInt (by first | omega | (have t_n35 := n35; omega))
    exact W.zret (v := 0) hx hb hr (by first | rfl | decide | exact rfl) (fun t ht hW => ⟨⟨0, (u38, u39, x3, F, P, N, g1, g2), rfl, ⟨hpost, (by refine ⟨by (have t_n35 := n35; have tnb_ := nib6 tn1477_ tn1478_ tn1472_ tn1469_ tn1470_ tn1471_; have tqz_ := qz41_; omega), by (have t_n35 := n35; have tnb_ := nib6 tn1477_ tn1478_ tn1472_ tn1469_ tn1470_ tn1471_; have tqz_ := qz41_; omega), by (have t_n35 := n35; have tnb_ := nib6 tn1477_ tn1478_ tn1472_ tn1469_ tn1470_ tn1471_; have tqz_ := qz41_; omega), ?_⟩; unfold cSR; (try rw [ew37]); (try (repeat (first | rw [if_pos (by with_reducible assumption)] | rw [if_neg (by with_reducible assumption)] | rw [if_pos (by (have t_n35 := n35; have tnb_ := nib6 tn1477_ tn1478_ tn1472_ tn1469_ tn1470_ tn1471_; have tqz_ := qz41_; omega))] | rw [if_neg (by (have t_n35 := n35; have tnb_ := nib6 tn1477_ tn1478_ tn1472_ tn1469_ tn1470_ tn1471_; have tqz_ := qz41_; omega))] | rw [if_pos (by decide)] | rw [if_neg (by decide)] | rw [if_pos (by skip; assumption)] | rw [if_neg (by skip; assumption)]))); all_goals rfl; skip)⟩, ⟨by rw [ht]; exact hP9, hD9⟩⟩, hS.F ht⟩) hS.2.2 dX5_readStretch_21

set_option maxHeartbeats 1000000 in
set_option maxRecDepth 100000 in
theorem c_X5_readBearerE (l : Launch) (dC : Nat → ClassId) (dI : Nat → Nat → Nat) (G : Nat → ClassId) (sz : Nat) (h0 tp td ta T F P a1 a2 a3 a4 a5 a6 N B D : Nat) (x0 x1 x2 x3 x6 x7 x8 x9 : Int32) (f g4 g5 g6 : Nat → Int32) (adK adV : Nat → Nat) (hF : F ≤ P) (hP0 : P ≤ T) (hT : T ≤ 320) (hN_N : N ≤ 10) (hB_B : B ≤ 6) (hD_D : 1 ≤ D ∧ D ≤ 9) : Met l yX5_readBearer (Cond.code yX5_readBearer cX5_readBearer 3 (some .boolean) :: GT) ({ frames := 7, cells := 0, slots := 0, locals := 150 } : Room) (PcWS [.ref h0] dC dI G [(h0, .inr (5, [.ref tp, .ref td, .int x0, .int x1, .int x2, .int x3, .int (nI F), .int (nI P), .int x6, .int x7, .int x8, .int x9])), (tp, .inr (7, [.int (nI T), .ref ta])), (ta, .inl (G 0, 320, .inl f)), (td, .inr (9, [.int (nI N), .int (nI B), .int (nI D), .ref a1, .ref a2, .ref a3, .ref a4, .ref a5, .ref a6])), (a4, .inl (G 0, 6, .inl g4)), (a5, .inl (G 0, 6, .inl g5)), (a6, .inl (G 0, 6, .inl g6))] adK adV sz) (va_Qi (fun (r : Int32) (u : Int32 × Int32 × Int32 × Nat × Nat × Nat × (Nat → Int32) × (Nat → Int32) × (Nat → Int32)) => match u with | (u0, u1, u3, u4, u5, v0, v1, v2, v3) => ((r = 0 ∨ r = 1) ∧ r = (cBR f T (x0, x1, x3, F, P) B g4 g5 g6).1) ∧ u4 ≤ u5 ∧ u5 ≤ T ∧ v0 ≤ 6 ∧ ((u0, u1, u3, u4, u5), v0, v1, v2, v3) = (cBR f T (x0, x1, x3, F, P) B g4 g5 g6).2) (fun (u : Int32 × Int32 × Int32 × Nat × Nat × Nat × (Nat → Int32) × (Nat → Int32) × (Nat → Int32)) (t : State) => match u with | (u0, u1, u3, u4, u5, v0, v1, v2, v3) => va_P (dC, dI) vwCl [(h0, .inr (5, [.ref tp, .ref td, .int u0, .int u1, .int x2, .int u3, .int (nI u4), .int (nI u5), .int x6, .int x7, .int x8, .int x9])), (tp, .inr (7, [.int (nI T), .ref ta])), (ta, .inl (G 0, 320, .inl f)), (td, .inr (9, [.int (nI N), .int (nI v0), .int (nI D), .ref a1, .ref a2, .ref a3, .ref a4, .ref a5, .ref a6])), (a4, .inl (G 0, 6, .inl v1)), (a5, .inl (G 0, 6, .inl v2)), (a6, .inl (G 0, 6, .inl v3))] t.heap ∧ va_D (va_A [(h0, .inr (5, [.ref tp, .ref td, .int x0, .int x1, .int x2, .int x3, .int (nI F), .int (nI P), .int x6, .int x7, .int x8, .int x9])), (tp, .inr (7, [.int (nI T), .ref ta])), (ta, .inl (G 0, 320, .inl f)), (td, .inr (9, [.int (nI N), .int (nI B), .int (nI D), .ref a1, .ref a2, .ref a3, .ref a4, .ref a5, .ref a6])), (a4, .inl (G 0, 6, .inl g4)), (a5, .inl (G 0, 6, .inl g5)), (a6, .inl (G 0, 6, .inl g6))] sz) [(h0, .inr (5, [.ref tp, .ref td, .int u0, .int u1, .int x2, .int u3, .int (nI u4), .int (nI u5), .int x6, .int x7, .int x8, .int x9])), (tp, .inr (7, [.int (nI T), .ref ta])), (ta, .inl (G 0, 320, .inl f)), (td, .inr (9, [.int (nI N), .int (nI v0), .int (nI D), .ref a1, .ref a2, .ref a3, .ref a4, .ref a5, .ref a6])), (a4, .inl (G 0, 6, .inl v1)), (a5, .inl (G 0, 6, .inl v2)), (a6, .inl (G 0, 6, .inl v3))]) (va_A [(h0, .inr (5, [.ref tp, .ref td, .int x0, .int x1, .int x2, .int x3, .int (nI F), .int (nI P), .int x6, .int x7, .int x8, .int x9])), (tp, .inr (7, [.int (nI T), .ref ta])), (ta, .inl (G 0, 320, .inl f)), (td, .inr (9, [.int (nI N), .int (nI B), .int (nI D), .ref a1, .ref a2, .ref a3, .ref a4, .ref a5, .ref a6])), (a4, .inl (G 0, 6, .inl g4)), (a5, .inl (G 0, 6, .inl g5)), (a6, .inl (G 0, 6, .inl g6))] sz)) 0 0 (va_A [(h0, .inr (5, [.ref tp, .ref td, .int x0, .int x1, .int x2, .int x3, .int (nI F), .int (nI P), .int x6, .int x7, .int x8, .int x9])), (tp, .inr (7, [.int (nI T), .ref ta])), (ta, .inl (G 0, 320, .inl f)), (td, .inr (9, [.int (nI N), .int (nI B), .int (nI D), .ref a1, .ref a2, .ref a3, .ref a4, .ref a5, .ref a6])), (a4, .inl (G 0, 6, .inl g4)), (a5, .inl (G 0, 6, .inl g5)), (a6, .inl (G 0, 6, .inl g6))] sz) := by
  have hT_ := hT
  have tn1479_ : nIT N := fun _ => nI_toInt (by omega)
  have tn1480_ : nIT B := fun _ => nI_toInt (by omega)
  have tn1481_ : nIT D := fun _ => nI_toInt (by omega)
  have tn1482_ : nIT T := fun _ => nI_toInt (by omega)
  refine Met.ofW (cc := cX5_readBearer) (maxL := 3) (ret := (some .boolean)) (by decide) rfl ?_
  intro p e s m args below meth c s₁ Bd hml hv
  obtain ⟨rfl, hsz, hP, hK, hD0, hSS⟩ := hv
  have hx := Bd.exec
  have hb := Bd.bytes
  have hr := Bd.returns
  have hg : ∀ w ∈ GT, w.before ([.ref h0] : List Value).toArray s = true := fun w h => atoms_spec (ws := Cond.code yX5_readBearer cX5_readBearer 3 (some .boolean) :: GT) Bd.pre w (List.mem_cons_of_mem _ h)
  have hown : s.vm.findClass RX5 = some m.cls := findClass_of_methodNamed Bd.named
  have hlocks := Bd.notSynchronized
  subst hsz
  have hD := hD0.self (sz := s.heap.size)
  generalize hAe : va_A [(h0, .inr (5, [.ref tp, .ref td, .int x0, .int x1, .int x2, .int x3, .int (nI F), .int (nI P), .int x6, .int x7, .int x8, .int x9])), (tp, .inr (7, [.int (nI T), .ref ta])), (ta, .inl (G 0, 320, .inl f)), (td, .inr (9, [.int (nI N), .int (nI B), .int (nI D), .ref a1, .ref a2, .ref a3, .ref a4, .ref a5, .ref a6])), (a4, .inl (G 0, 6, .inl g4)), (a5, .inl (G 0, 6, .inl g5)), (a6, .inl (G 0, 6, .inl g6))] s.heap.size = A at hD hSS ⊢
  have hA : ∀ q : Nat, s.heap.size ≤ q → A q := fun q h => by rw [← hAe]; exact Or.inr h
  have hS : va_S A s.heap s.heap [] := va_S.rf
  have hl := lv_entry ([.ref h0]) (n := 3) (Nat.le_of_ble_eq_true rfl)
  rw [lg_entry_eq]
  generalize (lg_sl ([.ref h0]) ++ List.replicate (3 - (lg_sl ([.ref h0])).length) Slot.unset).toArray = ls at hl ⊢
  have hl : lv_has ls 3 [(0, .ref h0)] := hl
  refine lv_aload_n hx hb dX5_readBearer_0 rfl (lv_at hl 0 rfl) ?_
  refine va_get (D := (dC, dI)) (ci := 5) (v := .ref td) (C := RX5) (T := TX5) (N := 12) hx hb hg inG5 hown hK.1 hP 0 rfl rfl 1 (Nat.le_of_ble_eq_true rfl) (hg _ wt_107) (fun _ h9 => h9) rfl dX5_readBearer_1 ?_
  refine va_getN (D := (dC, dI)) (ci := 9) (v := .int (nI B)) (C := RX9) (T := TX9) (N := 9) hx hb hg inG9 hown hK.1 hP 3 rfl rfl 1 (Nat.le_of_ble_eq_true rfl) (hK.nest wn_65) (fun _ h9 => h9) rfl dX5_readBearer_4 ?_
  refine lv_bipush (v := 6) hx hb dX5_readBearer_7 rfl ?_
  refine lv_icmp_lt (tgt := 22) hx hb dX5_readBearer_9 rfl (fun c1 => ?_) (fun c1 => ?_)
  · skip
    have n2 : B < 6 := by have t := ltI c1; rw [show (nI (B)).toInt = ((B : Nat) : Int) from tn1480_ ()] at t; have : (6 : Int32).toInt = 6 := qI_6; omega
    refine lv_aload_n hx hb dX5_readBearer_22 rfl (lv_at hl 0 rfl) ?_
    obtain ⟨hPc, hDc, hFc⟩ := va_sub3 (ws' := [(h0, .inr (5, [.ref tp, .ref td, .int x0, .int x1, .int x2, .int x3, .int (nI F), .int (nI P), .int x6, .int x7, .int x8, .int x9])), (tp, .inr (7, [.int (nI T), .ref ta])), (ta, .inl (G 0, 320, .inl f))]) hP hD hS hA [0, 1, 2] (by decide +kernel) rfl
    have tn1483_ : nIT F := fun _ => nI_toInt (by first | omega | (have t_n2 := n2; omega))
    have tn1484_ : nIT P := fun _ => nI_toInt (by first | omega | (have t_n2 := n2; omega))
    refine va_calli (va_runV (As := []) (rest := []) ⟨hx, hb, hml, hown, hg⟩ (c_X5_nextTokenE l dC dI G _ h0 tp td ta T P x0 x1 x2 x3 x6 x7 x8 x9 (nI F) f hT_ hP0) (kwV hg mfX5_nextToken wt_374 ⟨Nat.le_of_ble_eq_true rfl, Nat.le_of_ble_eq_true rfl⟩) (preVW hK hPc hDc (ci := 5) (r := (RX5, TX5, 12)) rfl rfl) rfl rfl hl.1 rfl (lv_room (Nat.le_of_ble_eq_true rfl)) dX5_readBearer_23 ⟨Nat.le_of_ble_eq_true rfl, Nat.le_of_ble_eq_true rfl⟩) hS (fun q _ h => hFc q h) hFc (fun r3 ur3 t H1 locs ht hvm w4 hB hz1 hk1 hS => ?_)
    obtain ⟨u5, u6, u7, u8, u9⟩ := ur3
    obtain ⟨hP1, hD1⟩ := hB
    rw [ht] at hP1
    obtain ⟨hP, hD⟩ := va_join (wr := [(td, .inr (9, [.int (nI N), .int (nI B), .int (nI D), .ref a1, .ref a2, .ref a3, .ref a4, .ref a5, .ref a6])), (a4, .inl (G 0, 6, .inl g4)), (a5, .inl (G 0, 6, .inl g5)), (a6, .inl (G 0, 6, .inl g6))]) (w1 := [(h0, .inr (5, [.ref tp, .ref td, .int u5, .int u6, .int x2, .int u7, .int (nI u8), .int (nI u9), .int x6, .int x7, .int x8, .int x9])), (tp, .inr (7, [.int (nI T), .ref ta])), (ta, .inl (G 0, 320, .inl f))]) hP hD [0, 1, 2] [3, 4, 5, 6] rfl rfl (by decide +kernel) (by decide +kernel) hk1 hFc hP1 hD1
    generalize H1 = H at hP hS ⊢
    obtain ⟨w4, w4x⟩ := w4
    have vw4 : tNG f T (x0, x1, x3, F, P) = r3 := w4.symm
    have ew4 : tNT f T (x0, x1, x3, F, P) = (u5, u6, u7, u8, u9) := w4x.2.2.symm
    refine lv_if_ne (tgt := 31) hx hb dX5_readBearer_26 rfl (fun c10 => ?_) (fun c10 => ?_)
    · skip
      refine lv_aload_n hx hb dX5_readBearer_31 rfl (lv_at hl 0 rfl) ?_
      have hPc := hP.sub (ws' := [(h0, .inr (5, [.ref tp, .ref td, .int u5, .int u6, .int x2, .int u7, .int (nI u8), .int (nI u9), .int x6, .int x7, .int x8, .int x9])), (tp, .inr (7, [.int (nI T), .ref ta])), (ta, .inl (G 0, 320, .inl f))]) [4, 5, 6] rfl
      refine va_calli (va_runV (As := []) (rest := []) ⟨hx, hb, hml, hown, hg⟩ (c_X5_kindE l dC dI G _ h0 tp td ta T u8 u9 u5 u6 x2 u7 x6 x7 x8 x9 f adK adV hT_ (by first | omega | (have t_n2 := n2; have t_c10 := neI c10; have : (0 : Int32).toInt = 0 := qI_0; have tnb_ := nib6 tn1483_ tn1484_ tn1482_ tn1479_ tn1480_ tn1481_; omega)) (by first | omega | (have t_n2 := n2; have t_c10 := neI c10; have : (0 : Int32).toInt = 0 := qI_0; have tnb_ := nib6 tn1483_ tn1484_ tn1482_ tn1479_ tn1480_ tn1481_; omega))) (kwV hg mfX5_kind wt_481 ⟨Nat.le_of_ble_eq_true rfl, Nat.le_of_ble_eq_true rfl⟩) (preVRS hK hPc hSS hS (fun q h => hA q (Nat.le_trans hS.1 h)) (ci := 5) (r := (RX5, TX5, 12)) rfl rfl) rfl rfl hl.1 rfl (lv_room (Nat.le_of_ble_eq_true rfl)) dX5_readBearer_32 ⟨Nat.le_of_ble_eq_true rfl, Nat.le_of_ble_eq_true rfl⟩) hS (fun q h1 h2 => absurd h2 (Nat.not_le.mpr h1)) (fun q h => hA q (Nat.le_trans hS.1 h)) (fun r11 ur11 t H1 locs ht hvm w12 hB hz1 hk1 hS => ?_)
      have hP := keepR hP hk1
      obtain ⟨w12, w12x⟩ := w12
      subst w12
      refine lv_istore_n (lv' := [(1, .int (kdF f u8 u9 u7)), (0, .ref h0)]) hx hb dX5_readBearer_35 rfl hl (by decide) rfl (fun ls hl => ?_)
      refine lv_iload_n hx hb dX5_readBearer_36 rfl (lv_at hl 0 rfl) ?_
      refine lv_bipush (v := (-4)) hx hb dX5_readBearer_37 rfl ?_
      refine lv_icmp_ne (tgt := 52) hx hb dX5_readBearer_39 rfl (fun c13 => ?_) (fun c13 => ?_)
      · skip
        refine lv_aload_n hx hb dX5_readBearer_52 rfl (lv_at hl 1 rfl) ?_
        refine lv_iconst (v := 0) hx hb dX5_readBearer_53 rfl ?_
        refine lv_bipush (v := 9) hx hb dX5_readBearer_54 rfl ?_
        obtain ⟨hPc, hDc, hFc⟩ := va_sub3 (ws' := [(h0, .inr (5, [.ref tp, .ref td, .int u5, .int u6, .int x2, .int u7, .int (nI u8), .int (nI u9), .int x6, .int x7, .int x8, .int x9])), (tp, .inr (7, [.int (nI T), .ref ta])), (ta, .inl (G 0, 320, .inl f))]) hP hD hS hA [4, 5, 6] (by decide +kernel) rfl
        refine va_calli (va_runV (As := [.int 0, .int 9]) (rest := []) ⟨hx, hb, hml, hown, hg⟩ (c_X5_nextNumberE l dC dI G _ h0 tp td ta T u9 u5 u6 x2 u7 x6 x7 x8 x9 (nI u8) 0 9 f hT_ (by first | omega | (have t_n2 := n2; have t_c10 := neI c10; have t_c13 := neI c13; have tqz_ := qz8_; have tnb_ := nib6 tn1483_ tn1484_ tn1482_ tn1479_ tn1480_ tn1481_; have tqz_ := qz3_; omega))) (kwV hg mfX5_nextNumber wt_455 ⟨Nat.le_of_ble_eq_true rfl, Nat.le_of_ble_eq_true rfl⟩) (preVW hK hPc hDc (ci := 5) (r := (RX5, TX5, 12)) rfl rfl) rfl rfl hl.1 rfl (lv_room (Nat.le_of_ble_eq_true rfl)) dX5_readBearer_56 ⟨Nat.le_of_ble_eq_true rfl, Nat.le_of_ble_eq_true rfl⟩) hS (fun q _ h => hFc q h) hFc (fun r14 ur14 t H1 locs ht hvm w15 hB hz1 hk1 hS => ?_)
        obtain ⟨u16, u17, u18, u19, u20⟩ := ur14
        obtain ⟨hP1, hD1⟩ := hB
        rw [ht] at hP1
        obtain ⟨hP, hD⟩ := va_join (wr := [(td, .inr (9, [.int (nI N), .int (nI B), .int (nI D), .ref a1, .ref a2, .ref a3, .ref a4, .ref a5, .ref a6])), (a4, .inl (G 0, 6, .inl g4)), (a5, .inl (G 0, 6, .inl g5)), (a6, .inl (G 0, 6, .inl g6))]) (w1 := [(h0, .inr (5, [.ref tp, .ref td, .int u16, .int u17, .int x2, .int u18, .int (nI u19), .int (nI u20), .int x6, .int x7, .int x8, .int x9])), (tp, .inr (7, [.int (nI T), .ref ta])), (ta, .inl (G 0, 320, .inl f))]) hP hD [4, 5, 6] [0, 1, 2, 3] rfl rfl (by decide +kernel) (by decide +kernel) hk1 hFc hP1 hD1
        generalize H1 = H at hP hS ⊢
        obtain ⟨w15, w15x⟩ := w15
        have vw15 : (tNN f T 0 9 (u5, u6, u7, u8, u9)).1 = r14 := w15.2.symm
        have ew15 : (tNN f T 0 9 (u5, u6, u7, u8, u9)).2 = (u16, u17, u18, u19, u20) := w15x.2.2.symm
        have bw15 : ¬ r14 = 0 → (0 : Int32).toInt ≤ (valN f T u19 (u20 - u19)).toInt ∧ (valN f T u19 (u20 - u19)).toInt ≤ (9 : Int32).toInt := (fun n9 => by rcases w15.1 with h9 | h9; exact absurd h9 n9; exact h9.2)
        refine lv_if_ne (tgt := 64) hx hb dX5_readBearer_59 rfl (fun c21 => ?_) (fun c21 => ?_)
        · skip
          refine lv_aload_n hx hb dX5_readBearer_64 rfl (lv_at hl 1 rfl) ?_
          have hPc := hP.sub (ws' := [(h0, .inr (5, [.ref tp, .ref td, .int u16, .int u17, .int x2, .int u18, .int (nI u19), .int (nI u20), .int x6, .int x7, .int x8, .int x9])), (tp, .inr (7, [.int (nI T), .ref ta])), (ta, .inl (G 0, 320, .inl f))]) [4, 5, 6] rfl
          refine va_calli (va_runV (As := []) (rest := []) ⟨hx, hb, hml, hown, hg⟩ (c_X5_value l dC dI G _ h0 tp td ta T u19 u20 u16 u17 x2 u18 x6 x7 x8 x9 f hT_ (by first | omega | (have t_n2 := n2; have t_c10 := neI c10; have t_c13 := neI c13; have t_c21 := neI c21; have tqz_ := qz8_; have tnb_ := nib6 tn1483_ tn1484_ tn1482_ tn1479_ tn1480_ tn1481_; omega)) (by first | omega | (have t_n2 := n2; have t_c10 := neI c10; have t_c13 := neI c13; have t_c21 := neI c21; have tqz_ := qz8_; have tnb_ := nib6 tn1483_ tn1484_ tn1482_ tn1479_ tn1480_ tn1481_; omega))) (kwV hg mfX5_value wt_459 ⟨Nat.le_of_ble_eq_true rfl, Nat.le_of_ble_eq_true rfl⟩) (preVR hK hPc (ci := 5) (r := (RX5, TX5, 12)) rfl rfl) rfl rfl hl.1 rfl (lv_room (Nat.le_of_ble_eq_true rfl)) dX5_readBearer_65 ⟨Nat.le_of_ble_eq_true rfl, Nat.le_of_ble_eq_true rfl⟩) hS (fun q h1 h2 => absurd h2 (Nat.not_le.mpr h1)) (fun q h => hA q (Nat.le_trans hS.1 h)) (fun r22 ur22 t H1 locs ht hvm w23 hB hz1 hk1 hS => ?_)
          have hP := keepR hP hk1
          obtain ⟨w23, w23x⟩ := w23
          subst w23
          refine lv_istore_n (lv' := [(2, .int (valN f T u19 (u20 - u19))), (1, .int (kdF f u8 u9 u7)), (0, .ref h0)]) hx hb dX5_readBearer_68 rfl hl (by decide) rfl (fun ls hl => ?_)
          refine lv_aload_n hx hb dX5_readBearer_69 rfl (lv_at hl 2 rfl) ?_
          refine lv_iconst (v := 0) hx hb dX5_readBearer_70 rfl ?_
          refine lv_bipush (v := 9) hx hb dX5_readBearer_71 rfl ?_
          obtain ⟨hPc, hDc, hFc⟩ := va_sub3 (ws' := [(h0, .inr (5, [.ref tp, .ref td, .int u16, .int u17, .int x2, .int u18, .int (nI u19), .int (nI u20), .int x6, .int x7, .int x8, .int x9])), (tp, .inr (7, [.int (nI T), .ref ta])), (ta, .inl (G 0, 320, .inl f))]) hP hD hS hA [4, 5, 6] (by decide +kernel) rfl
          refine va_calli (va_runV (As := [.int 0, .int 9]) (rest := []) ⟨hx, hb, hml, hown, hg⟩ (c_X5_nextNumberE l dC dI G _ h0 tp td ta T u20 u16 u17 x2 u18 x6 x7 x8 x9 (nI u19) 0 9 f hT_ (by first | omega | (have t_n2 := n2; have t_c10 := neI c10; have t_c13 := neI c13; have t_c21 := neI c21; have tqz_ := qz8_; have tnb_ := nib6 tn1483_ tn1484_ tn1482_ tn1479_ tn1480_ tn1481_; have tqz_ := qz3_; omega))) (kwV hg mfX5_nextNumber wt_455 ⟨Nat.le_of_ble_eq_true rfl, Nat.le_of_ble_eq_true rfl⟩) (preVW hK hPc hDc (ci := 5) (r := (RX5, TX5, 12)) rfl rfl) rfl rfl hl.1 rfl (lv_room (Nat.le_of_ble_eq_true rfl)) dX5_readBearer_73 ⟨Nat.le_of_ble_eq_true rfl, Nat.le_of_ble_eq_true rfl⟩) hS (fun q _ h => hFc q h) hFc (fun r24 ur24 t H1 locs ht hvm w25 hB hz1 hk1 hS => ?_)
          obtain ⟨u26, u27, u28, u29, u30⟩ := ur24
          obtain ⟨hP1, hD1⟩ := hB
          rw [ht] at hP1
          obtain ⟨hP, hD⟩ := va_join (wr := [(td, .inr (9, [.int (nI N), .int (nI B), .int (nI D), .ref a1, .ref a2, .ref a3, .ref a4, .ref a5, .ref a6])), (a4, .inl (G 0, 6, .inl g4)), (a5, .inl (G 0, 6, .inl g5)), (a6, .inl (G 0, 6, .inl g6))]) (w1 := [(h0, .inr (5, [.ref tp, .ref td, .int u26, .int u27, .int x2, .int u28, .int (nI u29), .int (nI u30), .int x6, .int x7, .int x8, .int x9])), (tp, .inr (7, [.int (nI T), .ref ta])), (ta, .inl (G 0, 320, .inl f))]) hP hD [4, 5, 6] [0, 1, 2, 3] rfl rfl (by decide +kernel) (by decide +kernel) hk1 hFc hP1 hD1
          generalize H1 = H at hP hS ⊢
          obtain ⟨w25, w25x⟩ := w25
          have vw25 : (tNN f T 0 9 (u16, u17, u18, u19, u20)).1 = r24 := w25.2.symm
          have ew25 : (tNN f T 0 9 (u16, u17, u18, u19, u20)).2 = (u26, u27, u28, u29, u30) := w25x.2.2.symm
          have bw25 : ¬ r24 = 0 → (0 : Int32).toInt ≤ (valN f T u29 (u30 - u29)).toInt ∧ (valN f T u29 (u30 - u29)).toInt ≤ (9 : Int32).toInt := (fun n9 => by rcases w25.1 with h9 | h9; exact absurd h9 n9; exact h9.2)
          refine lv_if_ne (tgt := 81) hx hb dX5_readBearer_76 rfl (fun c31 => ?_) (fun c31 => ?_)
          · skip
            refine lv_aload_n hx hb dX5_readBearer_81 rfl (lv_at hl 2 rfl) ?_
            refine va_get (D := (dC, dI)) (ci := 5) (v := .ref td) (C := RX5) (T := TX5) (N := 12) hx hb hg inG5 hown hK.1 hP 4 rfl rfl 1 (Nat.le_of_ble_eq_true rfl) (hg _ wt_107) (fun _ h9 => h9) rfl dX5_readBearer_82 ?_
            refine lv_iload_n hx hb dX5_readBearer_85 rfl (lv_at hl 1 rfl) ?_
            refine lv_iload_n hx hb dX5_readBearer_86 rfl (lv_at hl 0 rfl) ?_
            refine lv_aload_n hx hb dX5_readBearer_87 rfl (lv_at hl 2 rfl) ?_
            have hPc := hP.sub (ws' := [(h0, .inr (5, [.ref tp, .ref td, .int u26, .int u27, .int x2, .int u28, .int (nI u29), .int (nI u30), .int x6, .int x7, .int x8, .int x9])), (tp, .inr (7, [.int (nI T), .ref ta])), (ta, .inl (G 0, 320, .inl f))]) [4, 5, 6] rfl
            refine va_calli (va_runV (As := []) (rest := [.int (valN f T u19 (u20 - u19)), .int (kdF f u8 u9 u7), .ref td]) ⟨hx, hb, hml, hown, hg⟩ (c_X5_value l dC dI G _ h0 tp td ta T u29 u30 u26 u27 x2 u28 x6 x7 x8 x9 f hT_ (by first | omega | (have t_n2 := n2; have t_c10 := neI c10; have t_c13 := neI c13; have t_c21 := neI c21; have t_c31 := neI c31; have tqz_ := qz8_; have tnb_ := nib6 tn1483_ tn1484_ tn1482_ tn1479_ tn1480_ tn1481_; omega)) (by first | omega | (have t_n2 := n2; have t_c10 := neI c10; have t_c13 := neI c13; have t_c21 := neI c21; have t_c31 := neI c31; have tqz_ := qz8_; have tnb_ := nib6 tn1483_ tn1484_ tn1482_ tn1479_ tn1480_ tn1481_; omega))) (kwV hg mfX5_value wt_459 ⟨Nat.le_of_ble_eq_true rfl, Nat.le_of_ble_eq_true rfl⟩) (preVR hK hPc (ci := 5) (r := (RX5, TX5, 12)) rfl rfl) rfl rfl hl.1 rfl (lv_room (Nat.le_of_ble_eq_true rfl)) dX5_readBearer_88 ⟨Nat.le_of_ble_eq_true rfl, Nat.le_of_ble_eq_true rfl⟩) hS (fun q h1 h2 => absurd h2 (Nat.not_le.mpr h1)) (fun q h => hA q (Nat.le_trans hS.1 h)) (fun r32 ur32 t H1 locs ht hvm w33 hB hz1 hk1 hS => ?_)
            have hP := keepR hP hk1
            obtain ⟨w33, w33x⟩ := w33
            subst w33
            obtain ⟨hPc, hDc, hFc⟩ := va_sub3 (ws' := [(td, .inr (9, [.int (nI N), .int (nI B), .int (nI D), .ref a1, .ref a2, .ref a3, .ref a4, .ref a5, .ref a6])), (a4, .inl (G 0, 6, .inl g4)), (a5, .inl (G 0, 6, .inl g5)), (a6, .inl (G 0, 6, .inl g6))]) hP hD hS hA [0, 1, 2, 3] (by decide +kernel) rfl
            refine va_callv (va_runVN (As := [.int (kdF f u8 u9 u7), .int (valN f T u19 (u20 - u19)), .int (valN f T u29 (u30 - u29))]) (rest := []) ⟨hx, hb, hml, hown, hg⟩ (c_X9_addBearerE l dC dI G _ td a1 a2 a3 a4 a5 a6 N B D (kdF f u8 u9 u7) (valN f T u19 (u20 - u19)) (valN f T u29 (u30 - u29)) g4 g5 g6 hN_N hB_B hD_D) (kwVN hg hK mfX9_addBearer wn_491 ⟨Nat.le_of_ble_eq_true rfl, Nat.le_of_ble_eq_true rfl⟩) (preVW hK hPc hDc (ci := 9) (r := (RX9, TX9, 9)) rfl rfl) rfl rfl hl.1 rfl (lv_room (Nat.le_of_ble_eq_true rfl)) dX5_readBearer_91 ⟨Nat.le_of_ble_eq_true rfl, Nat.le_of_ble_eq_true rfl⟩) hS (fun q _ h => hFc q h) hFc (fun ur34 t H1 locs ht hvm w35 hB hz1 hk1 hS => ?_)
            obtain ⟨u36, u37, u38, u39⟩ := ur34
            obtain ⟨hP1, hD1⟩ := hB
            rw [ht] at hP1
            obtain ⟨hP, hD⟩ := va_join (wr := [(h0, .inr (5, [.ref tp, .ref td, .int u26, .int u27, .int x2, .int u28, .int (nI u29), .int (nI u30), .int x6, .int x7, .int x8, .int x9])), (tp, .inr (7, [.int (nI T), .ref ta])), (ta, .inl (G 0, 320, .inl f))]) (w1 := [(td, .inr (9, [.int (nI N), .int (nI u36), .int (nI D), .ref a1, .ref a2, .ref a3, .ref a4, .ref a5, .ref a6])), (a4, .inl (G 0, 6, .inl u37)), (a5, .inl (G 0, 6, .inl u38)), (a6, .inl (G 0, 6, .inl u39))]) hP hD [0, 1, 2, 3] [4, 5, 6] rfl rfl (by decide +kernel) (by decide +kernel) hk1 hFc hP1 hD1
            have w35 : u36 = (if B < 6 then B + 1 else B) ∧ u37 = (if B < 6 then upd g4 B (kdF f u8 u9 u7) else g4) ∧ u38 = (if B < 6 then upd g5 B (valN f T u19 (u20 - u19)) else g5) ∧ u39 = (if B < 6 then upd g6 B (valN f T u29 (u30 - u29)) else g6) := w35
            generalize H1 = H at hP hS ⊢
            have qw35a : u36 = B + 1 := (by have t_n2 := n2; have t_c10 := neI c10; have t_c13 := neI c13; have t_c21 := neI c21; have t_c31 := neI c31; have tqz_ := qz8_; have tnb_ := nib6 tn1483_ tn1484_ tn1482_ tn1479_ tn1480_ tn1481_; have h9 := w35.1; rw [if_pos (by omega)] at h9; exact h9)
            have qw35b0 : u37 = upd g4 B (kdF f u8 u9 u7) := (by have t_n2 := n2; have t_c10 := neI c10; have t_c13 := neI c13; have t_c21 := neI c21; have t_c31 := neI c31; have tqz_ := qz8_; have tnb_ := nib6 tn1483_ tn1484_ tn1482_ tn1479_ tn1480_ tn1481_; have h9 := w35.2.1; rw [if_pos (by omega)] at h9; exact h9)
            have qw35b1 : u38 = upd g5 B (valN f T u19 (u20 - u19)) := (by have t_n2 := n2; have t_c10 := neI c10; have t_c13 := neI c13; have t_c21 := neI c21; have t_c31 := neI c31; have tqz_ := qz8_; have tnb_ := nib6 tn1483_ tn1484_ tn1482_ tn1479_ tn1480_ tn1481_; have h9 := w35.2.2.1; rw [if_pos (by omega)] at h9; exact h9)
            have qw35b2 : u39 = upd g6 B (valN f T u29 (u30 - u29)) := (by have t_n2 := n2; have t_c10 := neI c10; have t_c13 := neI c13; have t_c21 := neI c21; have t_c31 := neI c31; have tqz_ := qz8_; have tnb_ := nib6 tn1483_ tn1484_ tn1482_ tn1479_ tn1480_ tn1481_; have h9 := w35.2.2.2; rw [if_pos (by omega)] at h9; exact h9)
            refine lv_aload_n hx hb dX5_readBearer_94 rfl (lv_at hl 2 rfl) ?_
            obtain ⟨hPc, hDc, hFc⟩ := va_sub3 (ws' := [(h0, .inr (5, [.ref tp, .ref td, .int u26, .int u27, .int x2, .int u28, .int (nI u29), .int (nI u30), .int x6, .int x7, .int x8, .int x9])), (tp, .inr (7, [.int (nI T), .ref ta])), (ta, .inl (G 0, 320, .inl f))]) hP hD hS hA [0, 1, 2] (by decide +kernel) rfl
            refine va_calli (va_runV (As := []) (rest := []) ⟨hx, hb, hml, hown, hg⟩ (c_X5_nextStopE l dC dI G _ h0 tp td ta T u30 u26 u27 x2 u28 x6 x7 x8 x9 (nI u29) f hT_ (by first | omega | (have t_n2 := n2; have t_c10 := neI c10; have t_c13 := neI c13; have t_c21 := neI c21; have t_c31 := neI c31; have tqz_ := qz8_; have tnb_ := nib6 tn1483_ tn1484_ tn1482_ tn1479_ tn1480_ tn1481_; omega))) (kwV hg mfX5_nextStop wt_463 ⟨Nat.le_of_ble_eq_true rfl, Nat.le_of_ble_eq_true rfl⟩) (preVW hK hPc hDc (ci := 5) (r := (RX5, TX5, 12)) rfl rfl) rfl rfl hl.1 rfl (lv_room (Nat.le_of_ble_eq_true rfl)) dX5_readBearer_95 ⟨Nat.le_of_ble_eq_true rfl, Nat.le_of_ble_eq_true rfl⟩) hS (fun q _ h => hFc q h) hFc (fun r40 ur40 t H1 locs ht hvm w41 hB hz1 hk1 hS => ?_)
            obtain ⟨u42, u43, u44, u45, u46⟩ := ur40
            obtain ⟨hP1, hD1⟩ := hB
            rw [ht] at hP1
            obtain ⟨hP, hD⟩ := va_join (wr := [(td, .inr (9, [.int (nI N), .int (nI u36), .int (nI D), .ref a1, .ref a2, .ref a3, .ref a4, .ref a5, .ref a6])), (a4, .inl (G 0, 6, .inl u37)), (a5, .inl (G 0, 6, .inl u38)), (a6, .inl (G 0, 6, .inl u39))]) (w1 := [(h0, .inr (5, [.ref tp, .ref td, .int u42, .int u43, .int x2, .int u44, .int (nI u45), .int (nI u46), .int x6, .int x7, .int x8, .int x9])), (tp, .inr (7, [.int (nI T), .ref ta])), (ta, .inl (G 0, 320, .inl f))]) hP hD [0, 1, 2] [3, 4, 5, 6] rfl rfl (by decide +kernel) (by decide +kernel) hk1 hFc hP1 hD1
            generalize H1 = H at hP hS ⊢
            obtain ⟨w41, w41x⟩ := w41
            have vw41 : (tNS f T (u26, u27, u28, u29, u30)).1 = r40 := w41.2.symm
            have ew41 : (tNS f T (u26, u27, u28, u29, u30)).2 = (u42, u43, u44, u45, u46) := w41x.2.2.symm
            have hpost : ((r40 : Int32) = 0 ∨ (r40 : Int32) = 1) ∧ (r40 : Int32) = (cBR f T (x0, x1, x3, F, P) B g4 g5 g6).1 := by
              refine ⟨w41.1, ?_⟩
              unfold cBR
              (try rw [vw4])
              (try rw [ew4])
              (try rw [vw15])
              (try rw [ew15])
              (try rw [vw25])
              (try rw [ew25])
              (try rw [qw35a])
              (try rw [qw35b0])
              (try rw [qw35b1])
              (try rw [qw35b2])
              (try rw [vw41])
              (try rw [ew41])
              (try (repeat (first | rw [if_pos (by with_reducible assumption)] | rw [if_neg (by with_reducible assumption)] | rw [if_pos (by first | exact c10 | exact c13 | exact c21 | exact c31)] | rw [if_neg (by first | exact c10 | exact c13 | exact c21 | exact c31)] | rw [if_pos (by (have t_n2 := n2; have t_c10 := neI c10; have t_c13 := neI c13; have t_c21 := neI c21; have t_c31 := neI c31; have tqz_ := qz8_; have tnb_ := nib6 tn1483_ tn1484_ tn1482_ tn1479_ tn1480_ tn1481_; have tqz_ := qz41_; omega))] | rw [if_neg (by (have t_n2 := n2; have t_c10 := neI c10; have t_c13 := neI c13; have t_c21 := neI c21; have t_c31 := neI c31; have tqz_ := qz8_; have tnb_ := nib6 tn1483_ tn1484_ tn1482_ tn1479_ tn1480_ tn1481_; have tqz_ := qz41_; omega))] | rw [if_pos (by decide)] | rw [if_neg (by decide)] | rw [if_pos (by skip; assumption)] | rw [if_neg (by skip; assumption)])))
              all_goals rfl
            obtain ⟨hP9, hD9⟩ := va_sub2 (ws' := [(h0, .inr (5, [.ref tp, .ref td, .int u42, .int u43, .int x2, .int u44, .int (nI u45), .int (nI u46), .int x6, .int x7, .int x8, .int x9])), (tp, .inr (7, [.int (nI T), .ref ta])), (ta, .inl (G 0, 320, .inl f)), (td, .inr (9, [.int (nI N), .int (nI u36), .int (nI D), .ref a1, .ref a2, .ref a3, .ref a4, .ref a5, .ref a6])), (a4, .inl (G 0, 6, .inl u37)), (a5, .inl (G 0, 6, .inl u38)), (a6, .inl (G 0, 6, .inl u39))]) hP hD [4, 5, 6, 0, 1, 2, 3] (by decide +kernel) rfl
            refine W.widen (k := 0) (n := 0) (Nat.le_of_ble_eq_true rfl) (Nat.le_of_ble_eq_true rfl) ?_
            exact W.zret (v := r40) hx hb hr (by first | rfl | decide | exact zn01 w41.1) (fun t ht hW => ⟨⟨r40, (u42, u43, u44, u45, u46, u36, u37, u38, u39), rfl, ⟨hpost, (by refine ⟨by (have t_n2 := n2; have t_c10 := neI c10; have t_c13 := neI c13; have t_c21 := neI c21; have t_c31 := neI c31; have tqz_ := qz8_; have tnb_ := nib6 tn1483_ tn1484_ tn1482_ tn1479_ tn1480_ tn1481_; have tqz_ := qz41_; omega), by (have t_n2 := n2; have t_c10 := neI c10; have t_c13 := neI c13; have t_c21 := neI c21; have t_c31 := neI c31; have tqz_ := qz8_; have tnb_ := nib6 tn1483_ tn1484_ tn1482_ tn1479_ tn1480_ tn1481_; have tqz_ := qz41_; omega), by (have t_n2 := n2; have t_c10 := neI c10; have t_c13 := neI c13; have t_c21 := neI c21; have t_c31 := neI c31; have tqz_ := qz8_; have tnb_ := nib6 tn1483_ tn1484_ tn1482_ tn1479_ tn1480_ tn1481_; have tqz_ := qz41_; omega), ?_⟩; unfold cBR; (try rw [vw4]); (try rw [ew4]); (try rw [vw15]); (try rw [ew15]); (try rw [vw25]); (try rw [ew25]); (try rw [qw35a]); (try rw [qw35b0]); (try rw [qw35b1]); (try rw [qw35b2]); (try rw [vw41]); (try rw [ew41]); (try (repeat (first | rw [if_pos (by with_reducible assumption)] | rw [if_neg (by with_reducible assumption)] | rw [if_pos (by first | exact c10 | exact c13 | exact c21 | exact c31)] | rw [if_neg (by first | exact c10 | exact c13 | exact c21 | exact c31)] | rw [if_pos (by (have t_n2 := n2; have t_c10 := neI c10; have t_c13 := neI c13; have t_c21 := neI c21; have t_c31 := neI c31; have tqz_ := qz8_; have tnb_ := nib6 tn1483_ tn1484_ tn1482_ tn1479_ tn1480_ tn1481_; have tqz_ := qz41_; omega))] | rw [if_neg (by (have t_n2 := n2; have t_c10 := neI c10; have t_c13 := neI c13; have t_c21 := neI c21; have t_c31 := neI c31; have tqz_ := qz8_; have tnb_ := nib6 tn1483_ tn1484_ tn1482_ tn1479_ tn1480_ tn1481_; have tqz_ := qz41_; omega))] | rw [if_pos (by decide)] | rw [if_neg (by decide)] | rw [if_pos (by skip; assumption)] | rw [if_neg (by skip; assumption)]))); all_goals rfl; skip)⟩, ⟨by rw [ht]; exact hP9, hD9⟩⟩, hS.F ht⟩) hS.2.2 dX5_readBearer_98
          · skip
            refine lv_iconst (v := 0) hx hb dX5_readBearer_79 rfl ?_
            have hpost : ((0 : Int32) = 0 ∨ (0 : Int32) = 1) ∧ (0 : Int32) = (cBR f T (x0, x1, x3, F, P) B g4 g5 g6).1 := by
              refine ⟨Or.inl rfl, ?_⟩
              unfold cBR
              (try rw [vw4])
              (try rw [ew4])
              (try rw [vw15])
              (try rw [ew15])
              (try rw [vw25])
              (try rw [ew25])
              (try (repeat (first | rw [if_pos (by with_reducible assumption)] | rw [if_neg (by with_reducible assumption)] | rw [if_pos (by first | exact c10 | exact c13 | exact c21 | exact c31)] | rw [if_neg (by first | exact c10 | exact c13 | exact c21 | exact c31)] | rw [if_pos (by (have t_n2 := n2; have t_c10 := neI c10; have t_c13 := neI c13; have t_c21 := neI c21; have t_c31 := eqI c31; have tqz_ := qz8_; have tnb_ := nib6 tn1483_ tn1484_ tn1482_ tn1479_ tn1480_ tn1481_; have tqz_ := qz41_; omega))] | rw [if_neg (by (have t_n2 := n2; have t_c10 := neI c10; have t_c13 := neI c13; have t_c21 := neI c21; have t_c31 := eqI c31; have tqz_ := qz8_; have tnb_ := nib6 tn1483_ tn1484_ tn1482_ tn1479_ tn1480_ tn1481_; have tqz_ := qz41_; omega))] | rw [if_pos (by decide)] | rw [if_neg (by decide)] | rw [if_pos (by skip; assumption)] | rw [if_neg (by skip; assumption)])))
              all_goals rfl
            obtain ⟨hP9, hD9⟩ := va_sub2 (ws' := [(h0, .inr (5, [.ref tp, .ref td, .int u26, .int u27, .int x2, .int u28, .int (nI u29), .int (nI u30), .int x6, .int x7, .int x8, .int x9])), (tp, .inr (7, [.int (nI T), .ref ta])), (ta, .inl (G 0, 320, .inl f)), (td, .inr (9, [.int (nI N), .int (nI B), .int (nI D), .ref a1, .ref a2, .ref a3, .ref a4, .ref a5, .ref a6])), (a4, .inl (G 0, 6, .inl g4)), (a5, .inl (G 0, 6, .inl g5)), (a6, .inl (G 0, 6, .inl g6))]) hP hD [4, 5, 6, 0, 1, 2, 3] (by decide +kernel) rfl
            refine W.widen (k := 0) (n := 0) (Nat.le_of_ble_eq_true rfl) (Nat.le_of_ble_eq_true rfl) ?_
            exact W.zret (v := 0) hx hb hr (by first | rfl | decide | exact rfl) (fun t ht hW => ⟨⟨0, (u26, u27, u28, u29, u30, B, g4, g5, g6), rfl, ⟨hpost, (by refine ⟨by (have t_n2 := n2; have t_c10 := neI c10; have t_c13 := neI c13; have t_c21 := neI c21; have t_c31 := eqI c31; have tqz_ := qz8_; have tnb_ := nib6 tn1483_ tn1484_ tn1482_ tn1479_ tn1480_ tn1481_; have tqz_ := qz41_; omega), by (have t_n2 := n2; have t_c10 := neI c10; have t_c13 := neI c13; have t_c21 := neI c21; have t_c31 := eqI c31; have tqz_ := qz8_; have tnb_ := nib6 tn1483_ tn1484_ tn1482_ tn1479_ tn1480_ tn1481_; have tqz_ := qz41_; omega), by (have t_n2 := n2; have t_c10 := neI c10; have t_c13 := neI c13; have t_c21 := neI c21; have t_c31 := eqI c31; have tqz_ := qz8_; have tnb_ := nib6 tn1483_ tn1484_ tn1482_ tn1479_ tn1480_ tn1481_; have tqz_ := qz41_; omega), ?_⟩; unfold cBR; (try rw [vw4]); (try rw [ew4]); (try rw [vw15]); (try rw [ew15]); (try rw [vw25]); (try rw [ew25]); (try (repeat (first | rw [if_pos (by with_reducible assumption)] | rw [if_neg (by with_reducible assumption)] | rw [if_pos (by first | exact c10 | exact c13 | exact c21 | exact c31)] | rw [if_neg (by first | exact c10 | exact c13 | exact c21 | exact c31)] | rw [if_pos (by (have t_n2 := n2; have t_c10 := neI c10; have t_c13 := neI c13; have t_c21 := neI c21; have t_c31 := eqI c31; have tqz_ := qz8_; have tnb_ := nib6 tn1483_ tn1484_ tn1482_ tn1479_ tn1480_ tn1481_; have tqz_ := qz41_; omega))] | rw [if_neg (by (have t_n2 := n2; have t_c10 := neI c10; have t_c13 := neI c13; have t_c21 := neI c21; have t_c31 := eqI c31; have tqz_ := qz8_; have tnb_ := nib6 tn1483_ tn1484_ tn1482_ tn1479_ tn1480_ tn1481_; have tqz_ := qz41_; omega))] | rw [if_pos (by decide)] | rw [if_neg (by decide)] | rw [if_pos (by skip; assumption)] | rw [if_neg (by skip; assumption)]))); all_goals rfl; skip)⟩, ⟨by rw [ht]; exact hP9, hD9⟩⟩, hS.F ht⟩) hS.2.2 dX5_readBearer_80
        · skip
          refine lv_iconst (v := 0) hx hb dX5_readBearer_62 rfl ?_
          have hpost : ((0 : Int32) = 0 ∨ (0 : Int32) = 1) ∧ (0 : Int32) = (cBR f T (x0, x1, x3, F, P) B g4 g5 g6).1 := by
            refine ⟨Or.inl rfl, ?_⟩
            unfold cBR
            (try rw [vw4])
            (try rw [ew4])
            (try rw [vw15])
            (try rw [ew15])
            (try (repeat (first | rw [if_pos (by with_reducible assumption)] | rw [if_neg (by with_reducible assumption)] | rw [if_pos (by first | exact c10 | exact c13 | exact c21)] | rw [if_neg (by first | exact c10 | exact c13 | exact c21)] | rw [if_pos (by (have t_n2 := n2; have t_c10 := neI c10; have t_c13 := neI c13; have t_c21 := eqI c21; have tqz_ := qz8_; have tnb_ := nib6 tn1483_ tn1484_ tn1482_ tn1479_ tn1480_ tn1481_; have tqz_ := qz41_; omega))] | rw [if_neg (by (have t_n2 := n2; have t_c10 := neI c10; have t_c13 := neI c13; have t_c21 := eqI c21; have tqz_ := qz8_; have tnb_ := nib6 tn1483_ tn1484_ tn1482_ tn1479_ tn1480_ tn1481_; have tqz_ := qz41_; omega))] | rw [if_pos (by decide)] | rw [if_neg (by decide)] | rw [if_pos (by skip; assumption)] | rw [if_neg (by skip; assumption)])))
            all_goals rfl
          obtain ⟨hP9, hD9⟩ := va_sub2 (ws' := [(h0, .inr (5, [.ref tp, .ref td, .int u16, .int u17, .int x2, .int u18, .int (nI u19), .int (nI u20), .int x6, .int x7, .int x8, .int x9])), (tp, .inr (7, [.int (nI T), .ref ta])), (ta, .inl (G 0, 320, .inl f)), (td, .inr (9, [.int (nI N), .int (nI B), .int (nI D), .ref a1, .ref a2, .ref a3, .ref a4, .ref a5, .ref a6])), (a4, .inl (G 0, 6, .inl g4)), (a5, .inl (G 0, 6, .inl g5)), (a6, .inl (G 0, 6, .inl g6))]) hP hD [4, 5, 6, 0, 1, 2, 3] (by decide +kernel) rfl
          refine W.widen (k := 0) (n := 0) (Nat.le_of_ble_eq_true rfl) (Nat.le_of_ble_eq_true rfl) ?_
          exact W.zret (v := 0) hx hb hr (by first | rfl | decide | exact rfl) (fun t ht hW => ⟨⟨0, (u16, u17, u18, u19, u20, B, g4, g5, g6), rfl, ⟨hpost, (by refine ⟨by (have t_n2 := n2; have t_c10 := neI c10; have t_c13 := neI c13; have t_c21 := eqI c21; have tqz_ := qz8_; have tnb_ := nib6 tn1483_ tn1484_ tn1482_ tn1479_ tn1480_ tn1481_; have tqz_ := qz41_; omega), by (have t_n2 := n2; have t_c10 := neI c10; have t_c13 := neI c13; have t_c21 := eqI c21; have tqz_ := qz8_; have tnb_ := nib6 tn1483_ tn1484_ tn1482_ tn1479_ tn1480_ tn1481_; have tqz_ := qz41_; omega), by (have t_n2 := n2; have t_c10 := neI c10; have t_c13 := neI c13; have t_c21 := eqI c21; have tqz_ := qz8_; have tnb_ := nib6 tn1483_ tn1484_ tn1482_ tn1479_ tn1480_ tn1481_; have tqz_ := qz41_; omega), ?_⟩; unfold cBR; (try rw [vw4]); (try rw [ew4]); (try rw [vw15]); (try rw [ew15]); (try (repeat (first | rw [if_pos (by with_reducible assumption)] | rw [if_neg (by with_reducible assumption)] | rw [if_pos (by first | exact c10 | exact c13 | exact c21)] | rw [if_neg (by first | exact c10 | exact c13 | exact c21)] | rw [if_pos (by (have t_n2 := n2; have t_c10 := neI c10; have t_c13 := neI c13; have t_c21 := eqI c21; have tqz_ := qz8_; have tnb_ := nib6 tn1483_ tn1484_ tn1482_ tn1479_ tn1480_ tn1481_; have tqz_ := qz41_; omega))] | rw [if_neg (by (have t_n2 := n2; have t_c10 := neI c10; have t_c13 := neI c13; have t_c21 := eqI c21; have tqz_ := qz8_; have tnb_ := nib6 tn1483_ tn1484_ tn1482_ tn1479_ tn1480_ tn1481_; have tqz_ := qz41_; omega))] | rw [if_pos (by decide)] | rw [if_neg (by decide)] | rw [if_pos (by skip; assumption)] | rw [if_neg (by skip; assumption)]))); all_goals rfl; skip)⟩, ⟨by rw [ht]; exact hP9, hD9⟩⟩, hS.F ht⟩) hS.2.2 dX5_readBearer_63
      · skip
        refine lv_aload_n hx hb dX5_readBearer_42 rfl (lv_at hl 1 rfl) ?_
        refine lv_iconst (v := 2) hx hb dX5_readBearer_43 rfl ?_
        refine lv_aload_n hx hb dX5_readBearer_44 rfl (lv_at hl 1 rfl) ?_
        refine va_get (D := (dC, dI)) (ci := 5) (v := .int (nI u8)) (C := RX5) (T := TX5) (N := 12) hx hb hg inG5 hown hK.1 hP 4 rfl rfl 6 (Nat.le_of_ble_eq_true rfl) (hg _ wt_116) (fun _ h9 => h9) rfl dX5_readBearer_45 ?_
        obtain ⟨hPc, hDc, hFc⟩ := va_sub3 (ws' := [(h0, .inr (5, [.ref tp, .ref td, .int u5, .int u6, .int x2, .int u7, .int (nI u8), .int (nI u9), .int x6, .int x7, .int x8, .int x9]))]) hP hD hS hA [4] (by decide +kernel) rfl
        refine va_calli (va_runV (As := [.int 2, .int (nI u8)]) (rest := []) ⟨hx, hb, hml, hown, hg⟩ (c_X5_refuseE l dC dI G _ h0 tp td u5 u6 x2 u7 (nI u8) (nI u9) x6 x7 x8 x9 2 (nI u8)) (kwV hg mfX5_refuse wt_386 ⟨Nat.le_of_ble_eq_true rfl, Nat.le_of_ble_eq_true rfl⟩) (preVW hK hPc hDc (ci := 5) (r := (RX5, TX5, 12)) rfl rfl) rfl rfl hl.1 rfl (lv_room (Nat.le_of_ble_eq_true rfl)) dX5_readBearer_48 ⟨Nat.le_of_ble_eq_true rfl, Nat.le_of_ble_eq_true rfl⟩) hS (fun q _ h => hFc q h) hFc (fun r47 ur47 t H1 locs ht hvm w48 hB hz1 hk1 hS => ?_)
        obtain ⟨u49, u50⟩ := ur47
        obtain ⟨hP1, hD1⟩ := hB
        rw [ht] at hP1
        obtain ⟨hP, hD⟩ := va_join (wr := [(td, .inr (9, [.int (nI N), .int (nI B), .int (nI D), .ref a1, .ref a2, .ref a3, .ref a4, .ref a5, .ref a6])), (a4, .inl (G 0, 6, .inl g4)), (a5, .inl (G 0, 6, .inl g5)), (a6, .inl (G 0, 6, .inl g6)), (tp, .inr (7, [.int (nI T), .ref ta])), (ta, .inl (G 0, 320, .inl f))]) (w1 := [(h0, .inr (5, [.ref tp, .ref td, .int u49, .int u50, .int x2, .int u7, .int (nI u8), .int (nI u9), .int x6, .int x7, .int x8, .int x9]))]) hP hD [4] [0, 1, 2, 3, 5, 6] rfl rfl (by decide +kernel) (by decide +kernel) hk1 hFc hP1 hD1
        generalize H1 = H at hP hS ⊢
        obtain ⟨w48, w48x⟩ := w48
        subst w48
        have ew48 : cRF 2 (u5, u6, u7, u8, u9) = (u49, u50, u7, u8, u9) := (by show (flB _ _, flP _ _ _, _, _, _) = _; rw [← w48x.1, ← w48x.2])
        have hpost : ((0 : Int32) = 0 ∨ (0 : Int32) = 1) ∧ (0 : Int32) = (cBR f T (x0, x1, x3, F, P) B g4 g5 g6).1 := by
          refine ⟨Or.inl rfl, ?_⟩
          unfold cBR
          (try rw [vw4])
          (try rw [ew4])
          (try rw [ew48])
          (try (repeat (first | rw [if_pos (by with_reducible assumption)] | rw [if_neg (by with_reducible assumption)] | rw [if_pos (by first | exact c10 | exact c13)] | rw [if_neg (by first | exact c10 | exact c13)] | rw [if_pos (by (have t_n2 := n2; have t_c10 := neI c10; have t_c13 := eqI c13; have tqz_ := qz8_; have tnb_ := nib6 tn1483_ tn1484_ tn1482_ tn1479_ tn1480_ tn1481_; have tqz_ := qz41_; omega))] | rw [if_neg (by (have t_n2 := n2; have t_c10 := neI c10; have t_c13 := eqI c13; have tqz_ := qz8_; have tnb_ := nib6 tn1483_ tn1484_ tn1482_ tn1479_ tn1480_ tn1481_; have tqz_ := qz41_; omega))] | rw [if_pos (by decide)] | rw [if_neg (by decide)] | rw [if_pos (by skip; assumption)] | rw [if_neg (by skip; assumption)])))
          all_goals rfl
        obtain ⟨hP9, hD9⟩ := va_sub2 (ws' := [(h0, .inr (5, [.ref tp, .ref td, .int u49, .int u50, .int x2, .int u7, .int (nI u8), .int (nI u9), .int x6, .int x7, .int x8, .int x9])), (tp, .inr (7, [.int (nI T), .ref ta])), (ta, .inl (G 0, 320, .inl f)), (td, .inr (9, [.int (nI N), .int (nI B), .int (nI D), .ref a1, .ref a2, .ref a3, .ref a4, .ref a5, .ref a6])), (a4, .inl (G 0, 6, .inl g4)), (a5, .inl (G 0, 6, .inl g5)), (a6, .inl (G 0, 6, .inl g6))]) hP hD [6, 4, 5, 0, 1, 2, 3] (by decide +kernel) rfl
        refine W.widen (k := 0) (n := 0) (Nat.le_of_ble_eq_true rfl) (Nat.le_of_ble_eq_true rfl) ?_
        exact W.zret (v := 0) hx hb hr (by first | rfl | decide | exact rfl) (fun t ht hW => ⟨⟨0, (u49, u50, u7, u8, u9, B, g4, g5, g6), rfl, ⟨hpost, (by refine ⟨by (have t_n2 := n2; have t_c10 := neI c10; have t_c13 := eqI c13; have tqz_ := qz8_; have tnb_ := nib6 tn1483_ tn1484_ tn1482_ tn1479_ tn1480_ tn1481_; have tqz_ := qz41_; omega), by (have t_n2 := n2; have t_c10 := neI c10; have t_c13 := eqI c13; have tqz_ := qz8_; have tnb_ := nib6 tn1483_ tn1484_ tn1482_ tn1479_ tn1480_ tn1481_; have tqz_ := qz41_; omega), by (have t_n2 := n2; have t_c10 := neI c10; have t_c13 := eqI c13; have tqz_ := qz8_; have tnb_ := nib6 tn1483_ tn1484_ tn1482_ tn1479_ tn1480_ tn1481_; have tqz_ := qz41_; omega), ?_⟩; unfold cBR; (try rw [vw4]); (try rw [ew4]); (try rw [ew48]); (try (repeat (first | rw [if_pos (by with_reducible assumption)] | rw [if_neg (by with_reducible assumption)] | rw [if_pos (by first | exact c10 | exact c13)] | rw [if_neg (by first | exact c10 | exact c13)] | rw [if_pos (by (have t_n2 := n2; have t_c10 := neI c10; have t_c13 := eqI c13; have tqz_ := qz8_; have tnb_ := nib6 tn1483_ tn1484_ tn1482_ tn1479_ tn1480_ tn1481_; have tqz_ := qz41_; omega))] | rw [if_neg (by (have t_n2 := n2; have t_c10 := neI c10; have t_c13 := eqI c13; have tqz_ := qz8_; have tnb_ := nib6 tn1483_ tn1484_ tn1482_ tn1479_ tn1480_ tn1481_; have tqz_ := qz41_; omega))] | rw [if_pos (by decide)] | rw [if_neg (by decide)] | rw [if_pos (by skip; assumption)] | rw [if_neg (by skip; assumption)]))); all_goals rfl; skip)⟩, ⟨by rw [ht]; exact hP9, hD9⟩⟩, hS.F ht⟩) hS.2.2 dX5_readBearer_51
    · skip
      refine lv_iconst (v := 0) hx hb dX5_readBearer_29 rfl ?_
      have hpost : ((0 : Int32) = 0 ∨ (0 : Int32) = 1) ∧ (0 : Int32) = (cBR f T (x0, x1, x3, F, P) B g4 g5 g6).1 := by
        refine ⟨Or.inl rfl, ?_⟩
        unfold cBR
        (try rw [vw4])
        (try rw [ew4])
        (try (repeat (first | rw [if_pos (by with_reducible assumption)] | rw [if_neg (by with_reducible assumption)] | rw [if_pos (by first | exact c10)] | rw [if_neg (by first | exact c10)] | rw [if_pos (by (have t_n2 := n2; have t_c10 := eqI c10; have : (0 : Int32).toInt = 0 := qI_0; have tnb_ := nib6 tn1483_ tn1484_ tn1482_ tn1479_ tn1480_ tn1481_; have tqz_ := qz41_; omega))] | rw [if_neg (by (have t_n2 := n2; have t_c10 := eqI c10; have : (0 : Int32).toInt = 0 := qI_0; have tnb_ := nib6 tn1483_ tn1484_ tn1482_ tn1479_ tn1480_ tn1481_; have tqz_ := qz41_; omega))] | rw [if_pos (by decide)] | rw [if_neg (by decide)] | rw [if_pos (by skip; assumption)] | rw [if_neg (by skip; assumption)])))
        all_goals rfl
      obtain ⟨hP9, hD9⟩ := va_sub2 (ws' := [(h0, .inr (5, [.ref tp, .ref td, .int u5, .int u6, .int x2, .int u7, .int (nI u8), .int (nI u9), .int x6, .int x7, .int x8, .int x9])), (tp, .inr (7, [.int (nI T), .ref ta])), (ta, .inl (G 0, 320, .inl f)), (td, .inr (9, [.int (nI N), .int (nI B), .int (nI D), .ref a1, .ref a2, .ref a3, .ref a4, .ref a5, .ref a6])), (a4, .inl (G 0, 6, .inl g4)), (a5, .inl (G 0, 6, .inl g5)), (a6, .inl (G 0, 6, .inl g6))]) hP hD [4, 5, 6, 0, 1, 2, 3] (by decide +kernel) rfl
      refine W.widen (k := 0) (n := 0) (Nat.le_of_ble_eq_true rfl) (Nat.le_of_ble_eq_true rfl) ?_
      exact W.zret (v := 0) hx hb hr (by first | rfl | decide | exact rfl) (fun t ht hW => ⟨⟨0, (u5, u6, u7, u8, u9, B, g4, g5, g6), rfl, ⟨hpost, (by refine ⟨by (have t_n2 := n2; have t_c10 := eqI c10; have : (0 : Int32).toInt = 0 := qI_0; have tnb_ := nib6 tn1483_ tn1484_ tn1482_ tn1479_ tn1480_ tn1481_; have tqz_ := qz41_; omega), by (have t_n2 := n2; have t_c10 := eqI c10; have : (0 : Int32).toInt = 0 := qI_0; have tnb_ := nib6 tn1483_ tn1484_ tn1482_ tn1479_ tn1480_ tn1481_; have tqz_ := qz41_; omega), by (have t_n2 := n2; have t_c10 := eqI c10; have : (0 : Int32).toInt = 0 := qI_0; have tnb_ := nib6 tn1483_ tn1484_ tn1482_ tn1479_ tn1480_ tn1481_; have tqz_ := qz41_; omega), ?_⟩; unfold cBR; (try rw [vw4]); (try rw [ew4]); (try (repeat (first | rw [if_pos (by with_reducible assumption)] | rw [if_neg (by with_reducible assumption)] | rw [if_pos (by first | exact c10)] | rw [if_neg (by first | exact c10)] | rw [if_pos (by (have t_n2 := n2; have t_c10 := eqI c10; have : (0 : Int32).toInt = 0 := qI_0; have tnb_ := nib6 tn1483_ tn1484_ tn1482_ tn1479_ tn1480_ tn1481_; have tqz_ := qz41_; omega))] | rw [if_neg (by (have t_n2 := n2; have t_c10 := eqI c10; have : (0 : Int32).toInt = 0 := qI_0; have tnb_ := nib6 tn1483_ tn1484_ tn1482_ tn1479_ tn1480_ tn1481_; have tqz_ := qz41_; omega))] | rw [if_pos (by decide)] | rw [if_neg (by decide)] | rw [if_pos (by skip; assumption)] | rw [if_neg (by skip; assumption)]))); all_goals rfl; skip)⟩, ⟨by rw [ht]; exact hP9, hD9⟩⟩, hS.F ht⟩) hS.2.2 dX5_readBearer_30
  · skip
    have n51 : 6 ≤ B := by have t := nltI c1; rw [show (nI (B)).toInt = ((B : Nat) : Int) from tn1480_ ()] at t; have : (6 : Int32).toInt = 6 := qI_6; omega
    refine lv_aload_n hx hb dX5_readBearer_12 rfl (lv_at hl 0 rfl) ?_
    refine lv_iconst (v := 5) hx hb dX5_readBearer_13 rfl ?_
    refine lv_aload_n hx hb dX5_readBearer_14 rfl (lv_at hl 0 rfl) ?_
    refine va_get (D := (dC, dI)) (ci := 5) (v := .int (nI F)) (C := RX5) (T := TX5) (N := 12) hx hb hg inG5 hown hK.1 hP 0 rfl rfl 6 (Nat.le_of_ble_eq_true rfl) (hg _ wt_116) (fun _ h9 => h9) rfl dX5_readBearer_15 ?_
    obtain ⟨hPc, hDc, hFc⟩ := va_sub3 (ws' := [(h0, .inr (5, [.ref tp, .ref td, .int x0, .int x1, .int x2, .int x3, .int (nI F), .int (nI P), .int x6, .int x7, .int x8, .int x9]))]) hP hD hS hA [0] (by decide +kernel) rfl
    refine va_calli (va_runV (As := [.int 5, .int (nI F)]) (rest := []) ⟨hx, hb, hml, hown, hg⟩ (c_X5_refuseE l dC dI G _ h0 tp td x0 x1 x2 x3 (nI F) (nI P) x6 x7 x8 x9 5 (nI F)) (kwV hg mfX5_refuse wt_386 ⟨Nat.le_of_ble_eq_true rfl, Nat.le_of_ble_eq_true rfl⟩) (preVW hK hPc hDc (ci := 5) (r := (RX5, TX5, 12)) rfl rfl) rfl rfl hl.1 rfl (lv_room (Nat.le_of_ble_eq_true rfl)) dX5_readBearer_18 ⟨Nat.le_of_ble_eq_true rfl, Nat.le_of_ble_eq_true rfl⟩) hS (fun q _ h => hFc q h) hFc (fun r52 ur52 t H1 locs ht hvm w53 hB hz1 hk1 hS => ?_)
    obtain ⟨u54, u55⟩ := ur52
    obtain ⟨hP1, hD1⟩ := hB
    rw [ht] at hP1
    obtain ⟨hP, hD⟩ := va_join (wr := [(tp, .inr (7, [.int (nI T), .ref ta])), (ta, .inl (G 0, 320, .inl f)), (td, .inr (9, [.int (nI N), .int (nI B), .int (nI D), .ref a1, .ref a2, .ref a3, .ref a4, .ref a5, .ref a6])), (a4, .inl (G 0, 6, .inl g4)), (a5, .inl (G 0, 6, .inl g5)), (a6, .inl (G 0, 6, .inl g6))]) (w1 := [(h0, .inr (5, [.ref tp, .ref td, .int u54, .int u55, .int x2, .int x3, .int (nI F), .int (nI P), .int x6, .int x7, .int x8, .int x9]))]) hP hD [0] [1, 2, 3, 4, 5, 6] rfl rfl (by decide +kernel) (by decide +kernel) hk1 hFc hP1 hD1
    generalize H1 = H at hP hS ⊢
    obtain ⟨w53, w53x⟩ := w53
    subst w53
    have ew53 : cRF 5 (x0, x1, x3, F, P) = (u54, u55, x3, F, P) := (by show (flB _ _, flP _ _ _, _, _, _) = _; rw [← w53x.1, ← w53x.2])
    have hpost : ((0 : Int32) = 0 ∨ (0 : Int32) = 1) ∧ (0 : Int32) = (cBR f T (x0, x1, x3, F, P) B g4 g5 g6).1 := by
      have tn1485_ : nIT F := fun _ => nI_toInt (by omega)
      have tn1486_ : nIT P := fun _ => nI_toInt (by omega)
      refine ⟨Or.inl rfl, ?_⟩
      unfold cBR
      (try rw [ew53])
      (try (repeat (first | rw [if_pos (by with_reducible assumption)] | rw [if_neg (by with_reducible assumption)] | rw [if_pos (by (have t_n51 := n51; have tnb_ := nib6 tn1485_ tn1486_ tn1482_ tn1479_ tn1480_ tn1481_; have tqz_ := qz41_; omega))] | rw [if_neg (by (have t_n51 := n51; have tnb_ := nib6 tn1485_ tn1486_ tn1482_ tn1479_ tn1480_ tn1481_; have tqz_ := qz41_; omega))] | rw [if_pos (by decide)] | rw [if_neg (by decide)] | rw [if_pos (by skip; assumption)] | rw [if_neg (by skip; assumption)])))
      all_goals rfl
    obtain ⟨hP9, hD9⟩ := va_sub2 (ws' := [(h0, .inr (5, [.ref tp, .ref td, .int u54, .int u55, .int x2, .int x3, .int (nI F), .int (nI P), .int x6, .int x7, .int x8, .int x9])), (tp, .inr (7, [.int (nI T), .ref ta])), (ta, .inl (G 0, 320, .inl f)), (td, .inr (9, [.int (nI N), .int (nI B), .int (nI D), .ref a1, .ref a2, .ref a3, .ref a4, .ref a5, .ref a6])), (a4, .inl (G 0, 6, .inl g4)), (a5, .inl (G 0, 6, .inl g5)), (a6, .inl (G 0, 6, .inl g6))]) hP hD [6, 0, 1, 2, 3, 4, 5] (by decide +kernel) rfl
    refine W.widen (k := 0) (n := 0) (Nat.le_of_ble_eq_true rfl) (Nat.le_of_ble_eq_true rfl) ?_
    have tn1487_ : nIT F := fun _ => nI_toInt (by first | omega | (have t_n51 := n51; omega))
    have tn1488_ : nIT P := fun _ => nI_toInt (by first | omega | (have t_n51 := n51; omega))
    exact W.zret (v := 0) hx hb hr (by first | rfl | decide | exact rfl) (fun t ht hW => ⟨⟨0, (u54, u55, x3, F, P, B, g4, g5, g6), rfl, ⟨hpost, (by refine ⟨by (have t_n51 := n51; have tnb_ := nib6 tn1487_ tn1488_ tn1482_ tn1479_ tn1480_ tn1481_; have tqz_ := qz41_; omega), by (have t_n51 := n51; have tnb_ := nib6 tn1487_ tn1488_ tn1482_ tn1479_ tn1480_ tn1481_; have tqz_ := qz41_; omega), by (have t_n51 := n51; have tnb_ := nib6 tn1487_ tn1488_ tn1482_ tn1479_ tn1480_ tn1481_; have tqz_ := qz41_; omega), ?_⟩; unfold cBR; (try rw [ew53]); (try (repeat (first | rw [if_pos (by with_reducible assumption)] | rw [if_neg (by with_reducible assumption)] | rw [if_pos (by (have t_n51 := n51; have tnb_ := nib6 tn1487_ tn1488_ tn1482_ tn1479_ tn1480_ tn1481_; have tqz_ := qz41_; omega))] | rw [if_neg (by (have t_n51 := n51; have tnb_ := nib6 tn1487_ tn1488_ tn1482_ tn1479_ tn1480_ tn1481_; have tqz_ := qz41_; omega))] | rw [if_pos (by decide)] | rw [if_neg (by decide)] | rw [if_pos (by skip; assumption)] | rw [if_neg (by skip; assumption)]))); all_goals rfl; skip)⟩, ⟨by rw [ht]; exact hP9, hD9⟩⟩, hS.F ht⟩) hS.2.2 dX5_readBearer_21

set_option maxHeartbeats 1000000 in
set_option maxRecDepth 100000 in
theorem c_X5_readCarryE (l : Launch) (dC : Nat → ClassId) (dI : Nat → Nat → Nat) (G : Nat → ClassId) (sz : Nat) (h0 tp td ta T F P a1 a2 a3 a4 a5 a6 N B D : Nat) (x0 x1 x2 x3 x6 x7 x8 x9 : Int32) (f g3 : Nat → Int32) (hF : F ≤ P) (hP0 : P ≤ T) (hT : T ≤ 320) (hN_N : N ≤ 10) (hB_B : B ≤ 6) (hD_D : 1 ≤ D ∧ D ≤ 9) : Met l yX5_readCarry (Cond.code yX5_readCarry cX5_readCarry 3 (some .boolean) :: GT) ({ frames := 3, cells := 0, slots := 0, locals := 68 } : Room) (PcW [.ref h0] dC dI G [(h0, .inr (5, [.ref tp, .ref td, .int x0, .int x1, .int x2, .int x3, .int (nI F), .int (nI P), .int x6, .int x7, .int x8, .int x9])), (tp, .inr (7, [.int (nI T), .ref ta])), (ta, .inl (G 0, 320, .inl f)), (td, .inr (9, [.int (nI N), .int (nI B), .int (nI D), .ref a1, .ref a2, .ref a3, .ref a4, .ref a5, .ref a6])), (a3, .inl (G 0, 10, .inl g3))] sz) (va_Qi (fun (r : Int32) (u : Int32 × Int32 × Int32 × Nat × Nat × Int32 × Int32 × Int32 × (Nat → Int32)) => match u with | (u0, u1, u3, u4, u5, u7, u8, u9, v1) => ((r = 0 ∨ r = 1) ∧ r = (cCR f T (x0, x1, x3, F, P) x7 x8 x9 g3).1) ∧ u4 ≤ u5 ∧ u5 ≤ T ∧ ((u0, u1, u3, u4, u5), u7, u8, u9, v1) = (cCR f T (x0, x1, x3, F, P) x7 x8 x9 g3).2) (fun (u : Int32 × Int32 × Int32 × Nat × Nat × Int32 × Int32 × Int32 × (Nat → Int32)) (t : State) => match u with | (u0, u1, u3, u4, u5, u7, u8, u9, v1) => va_P (dC, dI) vwCl [(h0, .inr (5, [.ref tp, .ref td, .int u0, .int u1, .int x2, .int u3, .int (nI u4), .int (nI u5), .int x6, .int u7, .int u8, .int u9])), (tp, .inr (7, [.int (nI T), .ref ta])), (ta, .inl (G 0, 320, .inl f)), (td, .inr (9, [.int (nI N), .int (nI B), .int (nI D), .ref a1, .ref a2, .ref a3, .ref a4, .ref a5, .ref a6])), (a3, .inl (G 0, 10, .inl v1))] t.heap ∧ va_D (va_A [(h0, .inr (5, [.ref tp, .ref td, .int x0, .int x1, .int x2, .int x3, .int (nI F), .int (nI P), .int x6, .int x7, .int x8, .int x9])), (tp, .inr (7, [.int (nI T), .ref ta])), (ta, .inl (G 0, 320, .inl f)), (td, .inr (9, [.int (nI N), .int (nI B), .int (nI D), .ref a1, .ref a2, .ref a3, .ref a4, .ref a5, .ref a6])), (a3, .inl (G 0, 10, .inl g3))] sz) [(h0, .inr (5, [.ref tp, .ref td, .int u0, .int u1, .int x2, .int u3, .int (nI u4), .int (nI u5), .int x6, .int u7, .int u8, .int u9])), (tp, .inr (7, [.int (nI T), .ref ta])), (ta, .inl (G 0, 320, .inl f)), (td, .inr (9, [.int (nI N), .int (nI B), .int (nI D), .ref a1, .ref a2, .ref a3, .ref a4, .ref a5, .ref a6])), (a3, .inl (G 0, 10, .inl v1))]) (va_A [(h0, .inr (5, [.ref tp, .ref td, .int x0, .int x1, .int x2, .int x3, .int (nI F), .int (nI P), .int x6, .int x7, .int x8, .int x9])), (tp, .inr (7, [.int (nI T), .ref ta])), (ta, .inl (G 0, 320, .inl f)), (td, .inr (9, [.int (nI N), .int (nI B), .int (nI D), .ref a1, .ref a2, .ref a3, .ref a4, .ref a5, .ref a6])), (a3, .inl (G 0, 10, .inl g3))] sz)) 0 0 (va_A [(h0, .inr (5, [.ref tp, .ref td, .int x0, .int x1, .int x2, .int x3, .int (nI F), .int (nI P), .int x6, .int x7, .int x8, .int x9])), (tp, .inr (7, [.int (nI T), .ref ta])), (ta, .inl (G 0, 320, .inl f)), (td, .inr (9, [.int (nI N), .int (nI B), .int (nI D), .ref a1, .ref a2, .ref a3, .ref a4, .ref a5, .ref a6])), (a3, .inl (G 0, 10, .inl g3))] sz) := by
  have hT_ := hT
  have tn1489_ : nIT N := fun _ => nI_toInt (by omega)
  have tn1490_ : nIT B := fun _ => nI_toInt (by omega)
  have tn1491_ : nIT D := fun _ => nI_toInt (by omega)
  have tn1492_ : nIT T := fun _ => nI_toInt (by omega)
  refine Met.ofW (cc := cX5_readCarry) (maxL := 3) (ret := (some .boolean)) (by decide) rfl ?_
  intro p e s m args below meth c s₁ Bd hml hv
  obtain ⟨rfl, hsz, hP, hK, hD0⟩ := hv
  have hx := Bd.exec
  have hb := Bd.bytes
  have hr := Bd.returns
  have hg : ∀ w ∈ GT, w.before ([.ref h0] : List Value).toArray s = true := fun w h => atoms_spec (ws := Cond.code yX5_readCarry cX5_readCarry 3 (some .boolean) :: GT) Bd.pre w (List.mem_cons_of_mem _ h)
  have hown : s.vm.findClass RX5 = some m.cls := findClass_of_methodNamed Bd.named
  have hlocks := Bd.notSynchronized
  subst hsz
  have hD := hD0.self (sz := s.heap.size)
  generalize hAe : va_A [(h0, .inr (5, [.ref tp, .ref td, .int x0, .int x1, .int x2, .int x3, .int (nI F), .int (nI P), .int x6, .int x7, .int x8, .int x9])), (tp, .inr (7, [.int (nI T), .ref ta])), (ta, .inl (G 0, 320, .inl f)), (td, .inr (9, [.int (nI N), .int (nI B), .int (nI D), .ref a1, .ref a2, .ref a3, .ref a4, .ref a5, .ref a6])), (a3, .inl (G 0, 10, .inl g3))] s.heap.size = A at hD ⊢
  have hA : ∀ q : Nat, s.heap.size ≤ q → A q := fun q h => by rw [← hAe]; exact Or.inr h
  have hS : va_S A s.heap s.heap [] := va_S.rf
  have hl := lv_entry ([.ref h0]) (n := 3) (Nat.le_of_ble_eq_true rfl)
  rw [lg_entry_eq]
  generalize (lg_sl ([.ref h0]) ++ List.replicate (3 - (lg_sl ([.ref h0])).length) Slot.unset).toArray = ls at hl ⊢
  have hl : lv_has ls 3 [(0, .ref h0)] := hl
  refine lv_aload_n hx hb dX5_readCarry_0 rfl (lv_at hl 0 rfl) ?_
  refine lv_iconst (v := 0) hx hb dX5_readCarry_1 rfl ?_
  refine lv_bipush (v := 9) hx hb dX5_readCarry_2 rfl ?_
  obtain ⟨hPc, hDc, hFc⟩ := va_sub3 (ws' := [(h0, .inr (5, [.ref tp, .ref td, .int x0, .int x1, .int x2, .int x3, .int (nI F), .int (nI P), .int x6, .int x7, .int x8, .int x9])), (tp, .inr (7, [.int (nI T), .ref ta])), (ta, .inl (G 0, 320, .inl f))]) hP hD hS hA [0, 1, 2] (by decide +kernel) rfl
  have tn1493_ : nIT F := fun _ => nI_toInt (by omega)
  have tn1494_ : nIT P := fun _ => nI_toInt (by omega)
  refine va_calli (va_runV (As := [.int 0, .int 9]) (rest := []) ⟨hx, hb, hml, hown, hg⟩ (c_X5_nextNumberE l dC dI G _ h0 tp td ta T P x0 x1 x2 x3 x6 x7 x8 x9 (nI F) 0 9 f hT_ hP0) (kwV hg mfX5_nextNumber wt_455 ⟨Nat.le_of_ble_eq_true rfl, Nat.le_of_ble_eq_true rfl⟩) (preVW hK hPc hDc (ci := 5) (r := (RX5, TX5, 12)) rfl rfl) rfl rfl hl.1 rfl (lv_room (Nat.le_of_ble_eq_true rfl)) dX5_readCarry_4 ⟨Nat.le_of_ble_eq_true rfl, Nat.le_of_ble_eq_true rfl⟩) hS (fun q _ h => hFc q h) hFc (fun r1 ur1 t H1 locs ht hvm w2 hB hz1 hk1 hS => ?_)
  obtain ⟨u3, u4, u5, u6, u7⟩ := ur1
  obtain ⟨hP1, hD1⟩ := hB
  rw [ht] at hP1
  obtain ⟨hP, hD⟩ := va_join (wr := [(td, .inr (9, [.int (nI N), .int (nI B), .int (nI D), .ref a1, .ref a2, .ref a3, .ref a4, .ref a5, .ref a6])), (a3, .inl (G 0, 10, .inl g3))]) (w1 := [(h0, .inr (5, [.ref tp, .ref td, .int u3, .int u4, .int x2, .int u5, .int (nI u6), .int (nI u7), .int x6, .int x7, .int x8, .int x9])), (tp, .inr (7, [.int (nI T), .ref ta])), (ta, .inl (G 0, 320, .inl f))]) hP hD [0, 1, 2] [3, 4] rfl rfl (by decide +kernel) (by decide +kernel) hk1 hFc hP1 hD1
  generalize H1 = H at hP hS ⊢
  obtain ⟨w2, w2x⟩ := w2
  have vw2 : (tNN f T 0 9 (x0, x1, x3, F, P)).1 = r1 := w2.2.symm
  have ew2 : (tNN f T 0 9 (x0, x1, x3, F, P)).2 = (u3, u4, u5, u6, u7) := w2x.2.2.symm
  have bw2 : ¬ r1 = 0 → (0 : Int32).toInt ≤ (valN f T u6 (u7 - u6)).toInt ∧ (valN f T u6 (u7 - u6)).toInt ≤ (9 : Int32).toInt := (fun n9 => by rcases w2.1 with h9 | h9; exact absurd h9 n9; exact h9.2)
  refine lv_if_ne (tgt := 12) hx hb dX5_readCarry_7 rfl (fun c8 => ?_) (fun c8 => ?_)
  · skip
    refine lv_aload_n hx hb dX5_readCarry_12 rfl (lv_at hl 0 rfl) ?_
    have hPc := hP.sub (ws' := [(h0, .inr (5, [.ref tp, .ref td, .int u3, .int u4, .int x2, .int u5, .int (nI u6), .int (nI u7), .int x6, .int x7, .int x8, .int x9])), (tp, .inr (7, [.int (nI T), .ref ta])), (ta, .inl (G 0, 320, .inl f))]) [2, 3, 4] rfl
    refine va_calli (va_runV (As := []) (rest := []) ⟨hx, hb, hml, hown, hg⟩ (c_X5_value l dC dI G _ h0 tp td ta T u6 u7 u3 u4 x2 u5 x6 x7 x8 x9 f hT_ (by first | omega | (have t_c8 := neI c8; have : (0 : Int32).toInt = 0 := qI_0; have tnb_ := nib6 tn1493_ tn1494_ tn1492_ tn1489_ tn1490_ tn1491_; omega)) (by first | omega | (have t_c8 := neI c8; have : (0 : Int32).toInt = 0 := qI_0; have tnb_ := nib6 tn1493_ tn1494_ tn1492_ tn1489_ tn1490_ tn1491_; omega))) (kwV hg mfX5_value wt_459 ⟨Nat.le_of_ble_eq_true rfl, Nat.le_of_ble_eq_true rfl⟩) (preVR hK hPc (ci := 5) (r := (RX5, TX5, 12)) rfl rfl) rfl rfl hl.1 rfl (lv_room (Nat.le_of_ble_eq_true rfl)) dX5_readCarry_13 ⟨Nat.le_of_ble_eq_true rfl, Nat.le_of_ble_eq_true rfl⟩) hS (fun q h1 h2 => absurd h2 (Nat.not_le.mpr h1)) (fun q h => hA q (Nat.le_trans hS.1 h)) (fun r9 ur9 t H1 locs ht hvm w10 hB hz1 hk1 hS => ?_)
    have hP := keepR hP hk1
    obtain ⟨w10, w10x⟩ := w10
    subst w10
    refine lv_istore_n (lv' := [(1, .int (valN f T u6 (u7 - u6))), (0, .ref h0)]) hx hb dX5_readCarry_16 rfl hl (by decide) rfl (fun ls hl => ?_)
    refine lv_aload_n hx hb dX5_readCarry_17 rfl (lv_at hl 1 rfl) ?_
    refine va_get (D := (dC, dI)) (ci := 5) (v := .int x7) (C := RX5) (T := TX5) (N := 12) hx hb hg inG5 hown hK.1 hP 2 rfl rfl 9 (Nat.le_of_ble_eq_true rfl) (hg _ wt_119) (fun _ h9 => h9) rfl dX5_readCarry_18 ?_
    refine lv_iload_n hx hb dX5_readCarry_21 rfl (lv_at hl 0 rfl) ?_
    refine lv_ishr hx hb dX5_readCarry_22 ?_
    refine lv_iconst (v := 1) hx hb dX5_readCarry_23 rfl ?_
    refine lv_iand hx hb dX5_readCarry_24 ?_
    refine lv_iconst (v := 1) hx hb dX5_readCarry_25 rfl ?_
    refine lv_icmp_ne (tgt := 39) hx hb dX5_readCarry_26 rfl (fun c11 => ?_) (fun c11 => ?_)
    · skip
      refine lv_aload_n hx hb dX5_readCarry_39 rfl (lv_at hl 1 rfl) ?_
      refine lv_dup hx hb dX5_readCarry_40 rfl ?_
      refine va_get (D := (dC, dI)) (ci := 5) (v := .int x7) (C := RX5) (T := TX5) (N := 12) hx hb hg inG5 hown hK.1 hP 2 rfl rfl 9 (Nat.le_of_ble_eq_true rfl) (hg _ wt_119) (fun _ h9 => h9) rfl dX5_readCarry_41 ?_
      refine lv_iconst (v := 1) hx hb dX5_readCarry_44 rfl ?_
      refine lv_iload_n hx hb dX5_readCarry_45 rfl (lv_at hl 0 rfl) ?_
      refine lv_ishl hx hb dX5_readCarry_46 ?_
      refine lv_ior hx hb dX5_readCarry_47 ?_
      refine va_put (D := (dC, dI)) (ci := 5) (v := .int (x7 ||| (1 <<< ((valN f T u6 (u7 - u6)) &&& 31)))) (ty := .int) (C := RX5) (T := TX5) (N := 12) hx hb hg inG5 tyX5 tyX5_ok nmX5 hown hK.1 hP hD hS 2 rfl rfl 9 (Nat.le_of_ble_eq_true rfl) (hg _ wt_119) (fun _ h9 => h9) rfl (by decide +kernel) rfl rfl (Nat.le_of_ble_eq_true rfl) dX5_readCarry_48 (fun H locs hP hD hS => ?_)
      refine lv_aload_n hx hb dX5_readCarry_51 rfl (lv_at hl 1 rfl) ?_
      refine lv_iconst (v := 0) hx hb dX5_readCarry_52 rfl ?_
      refine lv_iconst (v := 5) hx hb dX5_readCarry_53 rfl ?_
      obtain ⟨hPc, hDc, hFc⟩ := va_sub3 (ws' := [(h0, .inr (5, [.ref tp, .ref td, .int u3, .int u4, .int x2, .int u5, .int (nI u6), .int (nI u7), .int x6, .int (x7 ||| (1 <<< ((valN f T u6 (u7 - u6)) &&& 31))), .int x8, .int x9])), (tp, .inr (7, [.int (nI T), .ref ta])), (ta, .inl (G 0, 320, .inl f))]) hP hD hS hA [2, 3, 4] (by decide +kernel) rfl
      refine va_calli (va_runV (As := [.int 0, .int 5]) (rest := []) ⟨hx, hb, hml, hown, hg⟩ (c_X5_nextNumberE l dC dI G _ h0 tp td ta T u7 u3 u4 x2 u5 x6 (x7 ||| (1 <<< ((valN f T u6 (u7 - u6)) &&& 31))) x8 x9 (nI u6) 0 5 f hT_ (by first | omega | (have t_c8 := neI c8; have t_c11 := neI c11; have tqz_ := qz2_; have tnb_ := nib6 tn1493_ tn1494_ tn1492_ tn1489_ tn1490_ tn1491_; have tqz_ := qz24_; omega))) (kwV hg mfX5_nextNumber wt_455 ⟨Nat.le_of_ble_eq_true rfl, Nat.le_of_ble_eq_true rfl⟩) (preVW hK hPc hDc (ci := 5) (r := (RX5, TX5, 12)) rfl rfl) rfl rfl hl.1 rfl (lv_room (Nat.le_of_ble_eq_true rfl)) dX5_readCarry_54 ⟨Nat.le_of_ble_eq_true rfl, Nat.le_of_ble_eq_true rfl⟩) hS (fun q _ h => hFc q h) hFc (fun r12 ur12 t H1 locs ht hvm w13 hB hz1 hk1 hS => ?_)
      obtain ⟨u14, u15, u16, u17, u18⟩ := ur12
      obtain ⟨hP1, hD1⟩ := hB
      rw [ht] at hP1
      obtain ⟨hP, hD⟩ := va_join (wr := [(td, .inr (9, [.int (nI N), .int (nI B), .int (nI D), .ref a1, .ref a2, .ref a3, .ref a4, .ref a5, .ref a6])), (a3, .inl (G 0, 10, .inl g3))]) (w1 := [(h0, .inr (5, [.ref tp, .ref td, .int u14, .int u15, .int x2, .int u16, .int (nI u17), .int (nI u18), .int x6, .int (x7 ||| (1 <<< ((valN f T u6 (u7 - u6)) &&& 31))), .int x8, .int x9])), (tp, .inr (7, [.int (nI T), .ref ta])), (ta, .inl (G 0, 320, .inl f))]) hP hD [2, 3, 4] [0, 1] rfl rfl (by decide +kernel) (by decide +kernel) hk1 hFc hP1 hD1
      generalize H1 = H at hP hS ⊢
      obtain ⟨w13, w13x⟩ := w13
      have vw13 : (tNN f T 0 5 (u3, u4, u5, u6, u7)).1 = r12 := w13.2.symm
      have ew13 : (tNN f T 0 5 (u3, u4, u5, u6, u7)).2 = (u14, u15, u16, u17, u18) := w13x.2.2.symm
      have bw13 : ¬ r12 = 0 → (0 : Int32).toInt ≤ (valN f T u17 (u18 - u17)).toInt ∧ (valN f T u17 (u18 - u17)).toInt ≤ (5 : Int32).toInt := (fun n9 => by rcases w13.1 with h9 | h9; exact absurd h9 n9; exact h9.2)
      refine lv_if_ne (tgt := 62) hx hb dX5_readCarry_57 rfl (fun c19 => ?_) (fun c19 => ?_)
      · skip
        refine lv_aload_n hx hb dX5_readCarry_62 rfl (lv_at hl 1 rfl) ?_
        have hPc := hP.sub (ws' := [(h0, .inr (5, [.ref tp, .ref td, .int u14, .int u15, .int x2, .int u16, .int (nI u17), .int (nI u18), .int x6, .int (x7 ||| (1 <<< ((valN f T u6 (u7 - u6)) &&& 31))), .int x8, .int x9])), (tp, .inr (7, [.int (nI T), .ref ta])), (ta, .inl (G 0, 320, .inl f))]) [2, 3, 4] rfl
        refine va_calli (va_runV (As := []) (rest := []) ⟨hx, hb, hml, hown, hg⟩ (c_X5_value l dC dI G _ h0 tp td ta T u17 u18 u14 u15 x2 u16 x6 (x7 ||| (1 <<< ((valN f T u6 (u7 - u6)) &&& 31))) x8 x9 f hT_ (by first | omega | (have t_c8 := neI c8; have t_c11 := neI c11; have t_c19 := neI c19; have tqz_ := qz2_; have tnb_ := nib6 tn1493_ tn1494_ tn1492_ tn1489_ tn1490_ tn1491_; omega)) (by first | omega | (have t_c8 := neI c8; have t_c11 := neI c11; have t_c19 := neI c19; have tqz_ := qz2_; have tnb_ := nib6 tn1493_ tn1494_ tn1492_ tn1489_ tn1490_ tn1491_; omega))) (kwV hg mfX5_value wt_459 ⟨Nat.le_of_ble_eq_true rfl, Nat.le_of_ble_eq_true rfl⟩) (preVR hK hPc (ci := 5) (r := (RX5, TX5, 12)) rfl rfl) rfl rfl hl.1 rfl (lv_room (Nat.le_of_ble_eq_true rfl)) dX5_readCarry_63 ⟨Nat.le_of_ble_eq_true rfl, Nat.le_of_ble_eq_true rfl⟩) hS (fun q h1 h2 => absurd h2 (Nat.not_le.mpr h1)) (fun q h => hA q (Nat.le_trans hS.1 h)) (fun r20 ur20 t H1 locs ht hvm w21 hB hz1 hk1 hS => ?_)
        have hP := keepR hP hk1
        obtain ⟨w21, w21x⟩ := w21
        subst w21
        refine lv_istore_n (lv' := [(2, .int (valN f T u17 (u18 - u17))), (1, .int (valN f T u6 (u7 - u6))), (0, .ref h0)]) hx hb dX5_readCarry_66 rfl hl (by decide) rfl (fun ls hl => ?_)
        refine lv_iload_n hx hb dX5_readCarry_67 rfl (lv_at hl 1 rfl) ?_
        refine lv_if_lt (tgt := 87) hx hb dX5_readCarry_68 rfl (fun c22 => ?_) (fun c22 => ?_)
        · skip
          refine lv_aload_n hx hb dX5_readCarry_87 rfl (lv_at hl 2 rfl) ?_
          refine lv_aload_n hx hb dX5_readCarry_88 rfl (lv_at hl 2 rfl) ?_
          refine va_get (D := (dC, dI)) (ci := 5) (v := .int x8) (C := RX5) (T := TX5) (N := 12) hx hb hg inG5 hown hK.1 hP 2 rfl rfl 10 (Nat.le_of_ble_eq_true rfl) (hg _ wt_120) (fun _ h9 => h9) rfl dX5_readCarry_89 ?_
          refine lv_iload_n hx hb dX5_readCarry_92 rfl (lv_at hl 1 rfl) ?_
          have hPc := hP.sub (ws' := []) [] rfl
          refine va_calli (va_runS (As := [.int x8, .int (valN f T u6 (u7 - u6))]) (rest := [.ref h0]) ⟨hx, hb, hml, hown, hg⟩ (c_J9_max l dC dI G _ x8 (valN f T u6 (u7 - u6))) (kwS hg mfJ9_max_7cf53 wt_500 ⟨Nat.le_of_ble_eq_true rfl, Nat.le_of_ble_eq_true rfl⟩) (preSR hK hPc) rfl rfl hl.1 rfl (lv_room (Nat.le_of_ble_eq_true rfl)) dX5_readCarry_93 ⟨Nat.le_of_ble_eq_true rfl, Nat.le_of_ble_eq_true rfl⟩) hS (fun q h1 h2 => absurd h2 (Nat.not_le.mpr h1)) (fun q h => hA q (Nat.le_trans hS.1 h)) (fun r23 ur23 t H1 locs ht hvm w24 hB hz1 hk1 hS => ?_)
          have hP := keepR hP hk1
          obtain ⟨w24, w24x⟩ := w24
          subst w24
          refine va_put (D := (dC, dI)) (ci := 5) (v := .int (mx x8 (valN f T u6 (u7 - u6)))) (ty := .int) (C := RX5) (T := TX5) (N := 12) hx hb hg inG5 tyX5 tyX5_ok nmX5 hown hK.1 hP hD hS 2 rfl rfl 10 (Nat.le_of_ble_eq_true rfl) (hg _ wt_120) (fun _ h9 => h9) rfl (by decide +kernel) rfl rfl (Nat.le_of_ble_eq_true rfl) dX5_readCarry_96 (fun H locs hP hD hS => ?_)
          refine lv_aload_n hx hb dX5_readCarry_99 rfl (lv_at hl 2 rfl) ?_
          refine lv_aload_n hx hb dX5_readCarry_100 rfl (lv_at hl 2 rfl) ?_
          refine va_get (D := (dC, dI)) (ci := 5) (v := .int x9) (C := RX5) (T := TX5) (N := 12) hx hb hg inG5 hown hK.1 hP 2 rfl rfl 11 (Nat.le_of_ble_eq_true rfl) (hg _ wt_121) (fun _ h9 => h9) rfl dX5_readCarry_101 ?_
          refine lv_iload_n hx hb dX5_readCarry_104 rfl (lv_at hl 0 rfl) ?_
          have hPc := hP.sub (ws' := []) [] rfl
          refine va_calli (va_runS (As := [.int x9, .int (valN f T u17 (u18 - u17))]) (rest := [.ref h0]) ⟨hx, hb, hml, hown, hg⟩ (c_J9_max l dC dI G _ x9 (valN f T u17 (u18 - u17))) (kwS hg mfJ9_max_7cf53 wt_500 ⟨Nat.le_of_ble_eq_true rfl, Nat.le_of_ble_eq_true rfl⟩) (preSR hK hPc) rfl rfl hl.1 rfl (lv_room (Nat.le_of_ble_eq_true rfl)) dX5_readCarry_105 ⟨Nat.le_of_ble_eq_true rfl, Nat.le_of_ble_eq_true rfl⟩) hS (fun q h1 h2 => absurd h2 (Nat.not_le.mpr h1)) (fun q h => hA q (Nat.le_trans hS.1 h)) (fun r25 ur25 t H1 locs ht hvm w26 hB hz1 hk1 hS => ?_)
          have hP := keepR hP hk1
          obtain ⟨w26, w26x⟩ := w26
          subst w26
          refine va_put (D := (dC, dI)) (ci := 5) (v := .int (mx x9 (valN f T u17 (u18 - u17)))) (ty := .int) (C := RX5) (T := TX5) (N := 12) hx hb hg inG5 tyX5 tyX5_ok nmX5 hown hK.1 hP hD hS 2 rfl rfl 11 (Nat.le_of_ble_eq_true rfl) (hg _ wt_121) (fun _ h9 => h9) rfl (by decide +kernel) rfl rfl (Nat.le_of_ble_eq_true rfl) dX5_readCarry_108 (fun H locs hP hD hS => ?_)
          refine lv_aload_n hx hb dX5_readCarry_111 rfl (lv_at hl 2 rfl) ?_
          obtain ⟨hPc, hDc, hFc⟩ := va_sub3 (ws' := [(h0, .inr (5, [.ref tp, .ref td, .int u14, .int u15, .int x2, .int u16, .int (nI u17), .int (nI u18), .int x6, .int (x7 ||| (1 <<< ((valN f T u6 (u7 - u6)) &&& 31))), .int (mx x8 (valN f T u6 (u7 - u6))), .int (mx x9 (valN f T u17 (u18 - u17)))])), (tp, .inr (7, [.int (nI T), .ref ta])), (ta, .inl (G 0, 320, .inl f))]) hP hD hS hA [2, 3, 4] (by decide +kernel) rfl
          refine va_calli (va_runV (As := []) (rest := []) ⟨hx, hb, hml, hown, hg⟩ (c_X5_nextStopE l dC dI G _ h0 tp td ta T u18 u14 u15 x2 u16 x6 (x7 ||| (1 <<< ((valN f T u6 (u7 - u6)) &&& 31))) (mx x8 (valN f T u6 (u7 - u6))) (mx x9 (valN f T u17 (u18 - u17))) (nI u17) f hT_ (by first | omega | (have t_c8 := neI c8; have t_c11 := neI c11; have t_c19 := neI c19; have t_c22 := ltI c22; have tqz_ := qz2_; have tnb_ := nib6 tn1493_ tn1494_ tn1492_ tn1489_ tn1490_ tn1491_; omega))) (kwV hg mfX5_nextStop wt_463 ⟨Nat.le_of_ble_eq_true rfl, Nat.le_of_ble_eq_true rfl⟩) (preVW hK hPc hDc (ci := 5) (r := (RX5, TX5, 12)) rfl rfl) rfl rfl hl.1 rfl (lv_room (Nat.le_of_ble_eq_true rfl)) dX5_readCarry_112 ⟨Nat.le_of_ble_eq_true rfl, Nat.le_of_ble_eq_true rfl⟩) hS (fun q _ h => hFc q h) hFc (fun r27 ur27 t H1 locs ht hvm w28 hB hz1 hk1 hS => ?_)
          obtain ⟨u29, u30, u31, u32, u33⟩ := ur27
          obtain ⟨hP1, hD1⟩ := hB
          rw [ht] at hP1
          obtain ⟨hP, hD⟩ := va_join (wr := [(td, .inr (9, [.int (nI N), .int (nI B), .int (nI D), .ref a1, .ref a2, .ref a3, .ref a4, .ref a5, .ref a6])), (a3, .inl (G 0, 10, .inl g3))]) (w1 := [(h0, .inr (5, [.ref tp, .ref td, .int u29, .int u30, .int x2, .int u31, .int (nI u32), .int (nI u33), .int x6, .int (x7 ||| (1 <<< ((valN f T u6 (u7 - u6)) &&& 31))), .int (mx x8 (valN f T u6 (u7 - u6))), .int (mx x9 (valN f T u17 (u18 - u17)))])), (tp, .inr (7, [.int (nI T), .ref ta])), (ta, .inl (G 0, 320, .inl f))]) hP hD [2, 3, 4] [0, 1] rfl rfl (by decide +kernel) (by decide +kernel) hk1 hFc hP1 hD1
          generalize H1 = H at hP hS ⊢
          obtain ⟨w28, w28x⟩ := w28
          have vw28 : (tNS f T (u14, u15, u16, u17, u18)).1 = r27 := w28.2.symm
          have ew28 : (tNS f T (u14, u15, u16, u17, u18)).2 = (u29, u30, u31, u32, u33) := w28x.2.2.symm
          have hpost : ((r27 : Int32) = 0 ∨ (r27 : Int32) = 1) ∧ (r27 : Int32) = (cCR f T (x0, x1, x3, F, P) x7 x8 x9 g3).1 := by
            (have b9 := bw2 (by first | with_reducible assumption | assumption))
            first | (exfalso; (have t_c8 := neI c8; have t_c11 := neI c11; have t_c19 := neI c19; have t_c22 := ltI c22; have tqz_ := qz2_; have tnb_ := nib6 tn1493_ tn1494_ tn1492_ tn1489_ tn1490_ tn1491_; have tqz_ := qz41_; omega)) | (refine ⟨w28.1, ?_⟩; unfold cCR; (try rw [vw2]); (try rw [ew2]); (try rw [vw13]); (try rw [ew13]); (try rw [vw28]); (try rw [ew28]); (try (repeat (first | rw [if_pos (by with_reducible assumption)] | rw [if_neg (by with_reducible assumption)] | rw [if_pos (by first | exact c8 | exact c11 | exact c19 | exact c22)] | rw [if_neg (by first | exact c8 | exact c11 | exact c19 | exact c22)] | rw [if_pos (by (have t_c8 := neI c8; have t_c11 := neI c11; have t_c19 := neI c19; have t_c22 := ltI c22; have tqz_ := qz2_; have tnb_ := nib6 tn1493_ tn1494_ tn1492_ tn1489_ tn1490_ tn1491_; have tqz_ := qz41_; omega))] | rw [if_neg (by (have t_c8 := neI c8; have t_c11 := neI c11; have t_c19 := neI c19; have t_c22 := ltI c22; have tqz_ := qz2_; have tnb_ := nib6 tn1493_ tn1494_ tn1492_ tn1489_ tn1490_ tn1491_; have tqz_ := qz41_; omega))] | rw [if_pos (by decide)] | rw [if_neg (by decide)] | rw [if_pos (by skip; assumption)] | rw [if_neg (by skip; assumption)]))); all_goals rfl)
          obtain ⟨hP9, hD9⟩ := va_sub2 (ws' := [(h0, .inr (5, [.ref tp, .ref td, .int u29, .int u30, .int x2, .int u31, .int (nI u32), .int (nI u33), .int x6, .int (x7 ||| (1 <<< ((valN f T u6 (u7 - u6)) &&& 31))), .int (mx x8 (valN f T u6 (u7 - u6))), .int (mx x9 (valN f T u17 (u18 - u17)))])), (tp, .inr (7, [.int (nI T), .ref ta])), (ta, .inl (G 0, 320, .inl f)), (td, .inr (9, [.int (nI N), .int (nI B), .int (nI D), .ref a1, .ref a2, .ref a3, .ref a4, .ref a5, .ref a6])), (a3, .inl (G 0, 10, .inl g3))]) hP hD [2, 3, 4, 0, 1] (by decide +kernel) rfl
          refine W.widen (k := 0) (n := 0) (Nat.le_of_ble_eq_true rfl) (Nat.le_of_ble_eq_true rfl) ?_
          exact W.zret (v := r27) hx hb hr (by first | rfl | decide | exact zn01 w28.1) (fun t ht hW => ⟨⟨r27, (u29, u30, u31, u32, u33, (x7 ||| (1 <<< ((valN f T u6 (u7 - u6)) &&& 31))), (mx x8 (valN f T u6 (u7 - u6))), (mx x9 (valN f T u17 (u18 - u17))), g3), rfl, ⟨hpost, (by (have b9 := bw2 (by first | with_reducible assumption | assumption)); first | (exfalso; (have t_c8 := neI c8; have t_c11 := neI c11; have t_c19 := neI c19; have t_c22 := ltI c22; have tqz_ := qz2_; have tnb_ := nib6 tn1493_ tn1494_ tn1492_ tn1489_ tn1490_ tn1491_; have tqz_ := qz41_; omega)) | (refine ⟨by (have t_c8 := neI c8; have t_c11 := neI c11; have t_c19 := neI c19; have t_c22 := ltI c22; have tqz_ := qz2_; have tnb_ := nib6 tn1493_ tn1494_ tn1492_ tn1489_ tn1490_ tn1491_; have tqz_ := qz41_; omega), by (have t_c8 := neI c8; have t_c11 := neI c11; have t_c19 := neI c19; have t_c22 := ltI c22; have tqz_ := qz2_; have tnb_ := nib6 tn1493_ tn1494_ tn1492_ tn1489_ tn1490_ tn1491_; have tqz_ := qz41_; omega), ?_⟩; unfold cCR; (try rw [vw2]); (try rw [ew2]); (try rw [vw13]); (try rw [ew13]); (try rw [vw28]); (try rw [ew28]); (try (repeat (first | rw [if_pos (by with_reducible assumption)] | rw [if_neg (by with_reducible assumption)] | rw [if_pos (by first | exact c8 | exact c11 | exact c19 | exact c22)] | rw [if_neg (by first | exact c8 | exact c11 | exact c19 | exact c22)] | rw [if_pos (by (have t_c8 := neI c8; have t_c11 := neI c11; have t_c19 := neI c19; have t_c22 := ltI c22; have tqz_ := qz2_; have tnb_ := nib6 tn1493_ tn1494_ tn1492_ tn1489_ tn1490_ tn1491_; have tqz_ := qz41_; omega))] | rw [if_neg (by (have t_c8 := neI c8; have t_c11 := neI c11; have t_c19 := neI c19; have t_c22 := ltI c22; have tqz_ := qz2_; have tnb_ := nib6 tn1493_ tn1494_ tn1492_ tn1489_ tn1490_ tn1491_; have tqz_ := qz41_; omega))] | rw [if_pos (by decide)] | rw [if_neg (by decide)] | rw [if_pos (by skip; assumption)] | rw [if_neg (by skip; assumption)]))); all_goals rfl))⟩, ⟨by rw [ht]; exact hP9, hD9⟩⟩, hS.F ht⟩) hS.2.2 dX5_readCarry_115
        · skip
          refine lv_iload_n hx hb dX5_readCarry_71 rfl (lv_at hl 1 rfl) ?_
          refine lv_bipush (v := 10) hx hb dX5_readCarry_72 rfl ?_
          refine lv_icmp_ge (tgt := 87) hx hb dX5_readCarry_74 rfl (fun c34 => ?_) (fun c34 => ?_)
          · skip
            refine lv_aload_n hx hb dX5_readCarry_87 rfl (lv_at hl 2 rfl) ?_
            refine lv_aload_n hx hb dX5_readCarry_88 rfl (lv_at hl 2 rfl) ?_
            refine va_get (D := (dC, dI)) (ci := 5) (v := .int x8) (C := RX5) (T := TX5) (N := 12) hx hb hg inG5 hown hK.1 hP 2 rfl rfl 10 (Nat.le_of_ble_eq_true rfl) (hg _ wt_120) (fun _ h9 => h9) rfl dX5_readCarry_89 ?_
            refine lv_iload_n hx hb dX5_readCarry_92 rfl (lv_at hl 1 rfl) ?_
            have hPc := hP.sub (ws' := []) [] rfl
            refine va_calli (va_runS (As := [.int x8, .int (valN f T u6 (u7 - u6))]) (rest := [.ref h0]) ⟨hx, hb, hml, hown, hg⟩ (c_J9_max l dC dI G _ x8 (valN f T u6 (u7 - u6))) (kwS hg mfJ9_max_7cf53 wt_500 ⟨Nat.le_of_ble_eq_true rfl, Nat.le_of_ble_eq_true rfl⟩) (preSR hK hPc) rfl rfl hl.1 rfl (lv_room (Nat.le_of_ble_eq_true rfl)) dX5_readCarry_93 ⟨Nat.le_of_ble_eq_true rfl, Nat.le_of_ble_eq_true rfl⟩) hS (fun q h1 h2 => absurd h2 (Nat.not_le.mpr h1)) (fun q h => hA q (Nat.le_trans hS.1 h)) (fun r35 ur35 t H1 locs ht hvm w36 hB hz1 hk1 hS => ?_)
            have hP := keepR hP hk1
            obtain ⟨w36, w36x⟩ := w36
            subst w36
            refine va_put (D := (dC, dI)) (ci := 5) (v := .int (mx x8 (valN f T u6 (u7 - u6)))) (ty := .int) (C := RX5) (T := TX5) (N := 12) hx hb hg inG5 tyX5 tyX5_ok nmX5 hown hK.1 hP hD hS 2 rfl rfl 10 (Nat.le_of_ble_eq_true rfl) (hg _ wt_120) (fun _ h9 => h9) rfl (by decide +kernel) rfl rfl (Nat.le_of_ble_eq_true rfl) dX5_readCarry_96 (fun H locs hP hD hS => ?_)
            refine lv_aload_n hx hb dX5_readCarry_99 rfl (lv_at hl 2 rfl) ?_
            refine lv_aload_n hx hb dX5_readCarry_100 rfl (lv_at hl 2 rfl) ?_
            refine va_get (D := (dC, dI)) (ci := 5) (v := .int x9) (C := RX5) (T := TX5) (N := 12) hx hb hg inG5 hown hK.1 hP 2 rfl rfl 11 (Nat.le_of_ble_eq_true rfl) (hg _ wt_121) (fun _ h9 => h9) rfl dX5_readCarry_101 ?_
            refine lv_iload_n hx hb dX5_readCarry_104 rfl (lv_at hl 0 rfl) ?_
            have hPc := hP.sub (ws' := []) [] rfl
            refine va_calli (va_runS (As := [.int x9, .int (valN f T u17 (u18 - u17))]) (rest := [.ref h0]) ⟨hx, hb, hml, hown, hg⟩ (c_J9_max l dC dI G _ x9 (valN f T u17 (u18 - u17))) (kwS hg mfJ9_max_7cf53 wt_500 ⟨Nat.le_of_ble_eq_true rfl, Nat.le_of_ble_eq_true rfl⟩) (preSR hK hPc) rfl rfl hl.1 rfl (lv_room (Nat.le_of_ble_eq_true rfl)) dX5_readCarry_105 ⟨Nat.le_of_ble_eq_true rfl, Nat.le_of_ble_eq_true rfl⟩) hS (fun q h1 h2 => absurd h2 (Nat.not_le.mpr h1)) (fun q h => hA q (Nat.le_trans hS.1 h)) (fun r37 ur37 t H1 locs ht hvm w38 hB hz1 hk1 hS => ?_)
            have hP := keepR hP hk1
            obtain ⟨w38, w38x⟩ := w38
            subst w38
            refine va_put (D := (dC, dI)) (ci := 5) (v := .int (mx x9 (valN f T u17 (u18 - u17)))) (ty := .int) (C := RX5) (T := TX5) (N := 12) hx hb hg inG5 tyX5 tyX5_ok nmX5 hown hK.1 hP hD hS 2 rfl rfl 11 (Nat.le_of_ble_eq_true rfl) (hg _ wt_121) (fun _ h9 => h9) rfl (by decide +kernel) rfl rfl (Nat.le_of_ble_eq_true rfl) dX5_readCarry_108 (fun H locs hP hD hS => ?_)
            refine lv_aload_n hx hb dX5_readCarry_111 rfl (lv_at hl 2 rfl) ?_
            obtain ⟨hPc, hDc, hFc⟩ := va_sub3 (ws' := [(h0, .inr (5, [.ref tp, .ref td, .int u14, .int u15, .int x2, .int u16, .int (nI u17), .int (nI u18), .int x6, .int (x7 ||| (1 <<< ((valN f T u6 (u7 - u6)) &&& 31))), .int (mx x8 (valN f T u6 (u7 - u6))), .int (mx x9 (valN f T u17 (u18 - u17)))])), (tp, .inr (7, [.int (nI T), .ref ta])), (ta, .inl (G 0, 320, .inl f))]) hP hD hS hA [2, 3, 4] (by decide +kernel) rfl
            refine va_calli (va_runV (As := []) (rest := []) ⟨hx, hb, hml, hown, hg⟩ (c_X5_nextStopE l dC dI G _ h0 tp td ta T u18 u14 u15 x2 u16 x6 (x7 ||| (1 <<< ((valN f T u6 (u7 - u6)) &&& 31))) (mx x8 (valN f T u6 (u7 - u6))) (mx x9 (valN f T u17 (u18 - u17))) (nI u17) f hT_ (by first | omega | (have t_c8 := neI c8; have t_c11 := neI c11; have t_c19 := neI c19; have t_c22 := nltI c22; have t_c34 := leI c34; have tqz_ := qz25_; have tnb_ := nib6 tn1493_ tn1494_ tn1492_ tn1489_ tn1490_ tn1491_; omega))) (kwV hg mfX5_nextStop wt_463 ⟨Nat.le_of_ble_eq_true rfl, Nat.le_of_ble_eq_true rfl⟩) (preVW hK hPc hDc (ci := 5) (r := (RX5, TX5, 12)) rfl rfl) rfl rfl hl.1 rfl (lv_room (Nat.le_of_ble_eq_true rfl)) dX5_readCarry_112 ⟨Nat.le_of_ble_eq_true rfl, Nat.le_of_ble_eq_true rfl⟩) hS (fun q _ h => hFc q h) hFc (fun r39 ur39 t H1 locs ht hvm w40 hB hz1 hk1 hS => ?_)
            obtain ⟨u41, u42, u43, u44, u45⟩ := ur39
            obtain ⟨hP1, hD1⟩ := hB
            rw [ht] at hP1
            obtain ⟨hP, hD⟩ := va_join (wr := [(td, .inr (9, [.int (nI N), .int (nI B), .int (nI D), .ref a1, .ref a2, .ref a3, .ref a4, .ref a5, .ref a6])), (a3, .inl (G 0, 10, .inl g3))]) (w1 := [(h0, .inr (5, [.ref tp, .ref td, .int u41, .int u42, .int x2, .int u43, .int (nI u44), .int (nI u45), .int x6, .int (x7 ||| (1 <<< ((valN f T u6 (u7 - u6)) &&& 31))), .int (mx x8 (valN f T u6 (u7 - u6))), .int (mx x9 (valN f T u17 (u18 - u17)))])), (tp, .inr (7, [.int (nI T), .ref ta])), (ta, .inl (G 0, 320, .inl f))]) hP hD [2, 3, 4] [0, 1] rfl rfl (by decide +kernel) (by decide +kernel) hk1 hFc hP1 hD1
            generalize H1 = H at hP hS ⊢
            obtain ⟨w40, w40x⟩ := w40
            have vw40 : (tNS f T (u14, u15, u16, u17, u18)).1 = r39 := w40.2.symm
            have ew40 : (tNS f T (u14, u15, u16, u17, u18)).2 = (u41, u42, u43, u44, u45) := w40x.2.2.symm
            have hpost : ((r39 : Int32) = 0 ∨ (r39 : Int32) = 1) ∧ (r39 : Int32) = (cCR f T (x0, x1, x3, F, P) x7 x8 x9 g3).1 := by
              (have b9 := bw2 (by first | with_reducible assumption | assumption))
              first | (exfalso; (have t_c8 := neI c8; have t_c11 := neI c11; have t_c19 := neI c19; have t_c22 := nltI c22; have t_c34 := leI c34; have tqz_ := qz25_; have tnb_ := nib6 tn1493_ tn1494_ tn1492_ tn1489_ tn1490_ tn1491_; have tqz_ := qz41_; omega)) | (refine ⟨w40.1, ?_⟩; unfold cCR; (try rw [vw2]); (try rw [ew2]); (try rw [vw13]); (try rw [ew13]); (try rw [vw40]); (try rw [ew40]); (try (repeat (first | rw [if_pos (by with_reducible assumption)] | rw [if_neg (by with_reducible assumption)] | rw [if_pos (by first | exact c8 | exact c11 | exact c19 | exact c22 | exact c34)] | rw [if_neg (by first | exact c8 | exact c11 | exact c19 | exact c22 | exact c34)] | rw [if_pos (by (have t_c8 := neI c8; have t_c11 := neI c11; have t_c19 := neI c19; have t_c22 := nltI c22; have t_c34 := leI c34; have tqz_ := qz25_; have tnb_ := nib6 tn1493_ tn1494_ tn1492_ tn1489_ tn1490_ tn1491_; have tqz_ := qz41_; omega))] | rw [if_neg (by (have t_c8 := neI c8; have t_c11 := neI c11; have t_c19 := neI c19; have t_c22 := nltI c22; have t_c34 := leI c34; have tqz_ := qz25_; have tnb_ := nib6 tn1493_ tn1494_ tn1492_ tn1489_ tn1490_ tn1491_; have tqz_ := qz41_; omega))] | rw [if_pos (by decide)] | rw [if_neg (by decide)] | rw [if_pos (by skip; assumption)] | rw [if_neg (by skip; assumption)]))); all_goals rfl)
            obtain ⟨hP9, hD9⟩ := va_sub2 (ws' := [(h0, .inr (5, [.ref tp, .ref td, .int u41, .int u42, .int x2, .int u43, .int (nI u44), .int (nI u45), .int x6, .int (x7 ||| (1 <<< ((valN f T u6 (u7 - u6)) &&& 31))), .int (mx x8 (valN f T u6 (u7 - u6))), .int (mx x9 (valN f T u17 (u18 - u17)))])), (tp, .inr (7, [.int (nI T), .ref ta])), (ta, .inl (G 0, 320, .inl f)), (td, .inr (9, [.int (nI N), .int (nI B), .int (nI D), .ref a1, .ref a2, .ref a3, .ref a4, .ref a5, .ref a6])), (a3, .inl (G 0, 10, .inl g3))]) hP hD [2, 3, 4, 0, 1] (by decide +kernel) rfl
            refine W.widen (k := 0) (n := 0) (Nat.le_of_ble_eq_true rfl) (Nat.le_of_ble_eq_true rfl) ?_
            exact W.zret (v := r39) hx hb hr (by first | rfl | decide | exact zn01 w40.1) (fun t ht hW => ⟨⟨r39, (u41, u42, u43, u44, u45, (x7 ||| (1 <<< ((valN f T u6 (u7 - u6)) &&& 31))), (mx x8 (valN f T u6 (u7 - u6))), (mx x9 (valN f T u17 (u18 - u17))), g3), rfl, ⟨hpost, (by (have b9 := bw2 (by first | with_reducible assumption | assumption)); first | (exfalso; (have t_c8 := neI c8; have t_c11 := neI c11; have t_c19 := neI c19; have t_c22 := nltI c22; have t_c34 := leI c34; have tqz_ := qz25_; have tnb_ := nib6 tn1493_ tn1494_ tn1492_ tn1489_ tn1490_ tn1491_; have tqz_ := qz41_; omega)) | (refine ⟨by (have t_c8 := neI c8; have t_c11 := neI c11; have t_c19 := neI c19; have t_c22 := nltI c22; have t_c34 := leI c34; have tqz_ := qz25_; have tnb_ := nib6 tn1493_ tn1494_ tn1492_ tn1489_ tn1490_ tn1491_; have tqz_ := qz41_; omega), by (have t_c8 := neI c8; have t_c11 := neI c11; have t_c19 := neI c19; have t_c22 := nltI c22; have t_c34 := leI c34; have tqz_ := qz25_; have tnb_ := nib6 tn1493_ tn1494_ tn1492_ tn1489_ tn1490_ tn1491_; have tqz_ := qz41_; omega), ?_⟩; unfold cCR; (try rw [vw2]); (try rw [ew2]); (try rw [vw13]); (try rw [ew13]); (try rw [vw40]); (try rw [ew40]); (try (repeat (first | rw [if_pos (by with_reducible assumption)] | rw [if_neg (by with_reducible assumption)] | rw [if_pos (by first | exact c8 | exact c11 | exact c19 | exact c22 | exact c34)] | rw [if_neg (by first | exact c8 | exact c11 | exact c19 | exact c22 | exact c34)] | rw [if_pos (by (have t_c8 := neI c8; have t_c11 := neI c11; have t_c19 := neI c19; have t_c22 := nltI c22; have t_c34 := leI c34; have tqz_ := qz25_; have tnb_ := nib6 tn1493_ tn1494_ tn1492_ tn1489_ tn1490_ tn1491_; have tqz_ := qz41_; omega))] | rw [if_neg (by (have t_c8 := neI c8; have t_c11 := neI c11; have t_c19 := neI c19; have t_c22 := nltI c22; have t_c34 := leI c34; have tqz_ := qz25_; have tnb_ := nib6 tn1493_ tn1494_ tn1492_ tn1489_ tn1490_ tn1491_; have tqz_ := qz41_; omega))] | rw [if_pos (by decide)] | rw [if_neg (by decide)] | rw [if_pos (by skip; assumption)] | rw [if_neg (by skip; assumption)]))); all_goals rfl))⟩, ⟨by rw [ht]; exact hP9, hD9⟩⟩, hS.F ht⟩) hS.2.2 dX5_readCarry_115
          · skip
            refine lv_aload_n hx hb dX5_readCarry_77 rfl (lv_at hl 2 rfl) ?_
            refine va_get (D := (dC, dI)) (ci := 5) (v := .ref td) (C := RX5) (T := TX5) (N := 12) hx hb hg inG5 hown hK.1 hP 2 rfl rfl 1 (Nat.le_of_ble_eq_true rfl) (hg _ wt_107) (fun _ h9 => h9) rfl dX5_readCarry_78 ?_
            refine va_getN (D := (dC, dI)) (ci := 9) (v := .ref a3) (C := RX9) (T := TX9) (N := 9) hx hb hg inG9 hown hK.1 hP 0 rfl rfl 5 (Nat.le_of_ble_eq_true rfl) (hK.nest wn_79) (fun _ h9 => h9) rfl dX5_readCarry_81 ?_
            refine lv_iload_n hx hb dX5_readCarry_84 rfl (lv_at hl 1 rfl) ?_
            refine lv_iload_n hx hb dX5_readCarry_85 rfl (lv_at hl 0 rfl) ?_
            refine va_iast hx hb hK.1 hP hD hS 1 0 rfl rfl (vp_in_iff.mpr (by have t_c8 := neI c8; have t_c11 := neI c11; have t_c19 := neI c19; have t_c22 := nltI c22; have t_c34 := nleI c34; have tqz_ := qz25_; have tnb_ := nib6 tn1493_ tn1494_ tn1492_ tn1489_ tn1490_ tn1491_; constructor <;> omega)) dX5_readCarry_86 (fun H locs hP hD hS => ?_)
            refine lv_aload_n hx hb dX5_readCarry_87 rfl (lv_at hl 2 rfl) ?_
            refine lv_aload_n hx hb dX5_readCarry_88 rfl (lv_at hl 2 rfl) ?_
            refine va_get (D := (dC, dI)) (ci := 5) (v := .int x8) (C := RX5) (T := TX5) (N := 12) hx hb hg inG5 hown hK.1 hP 2 rfl rfl 10 (Nat.le_of_ble_eq_true rfl) (hg _ wt_120) (fun _ h9 => h9) rfl dX5_readCarry_89 ?_
            refine lv_iload_n hx hb dX5_readCarry_92 rfl (lv_at hl 1 rfl) ?_
            have hPc := hP.sub (ws' := []) [] rfl
            refine va_calli (va_runS (As := [.int x8, .int (valN f T u6 (u7 - u6))]) (rest := [.ref h0]) ⟨hx, hb, hml, hown, hg⟩ (c_J9_max l dC dI G _ x8 (valN f T u6 (u7 - u6))) (kwS hg mfJ9_max_7cf53 wt_500 ⟨Nat.le_of_ble_eq_true rfl, Nat.le_of_ble_eq_true rfl⟩) (preSR hK hPc) rfl rfl hl.1 rfl (lv_room (Nat.le_of_ble_eq_true rfl)) dX5_readCarry_93 ⟨Nat.le_of_ble_eq_true rfl, Nat.le_of_ble_eq_true rfl⟩) hS (fun q h1 h2 => absurd h2 (Nat.not_le.mpr h1)) (fun q h => hA q (Nat.le_trans hS.1 h)) (fun r46 ur46 t H1 locs ht hvm w47 hB hz1 hk1 hS => ?_)
            have hP := keepR hP hk1
            obtain ⟨w47, w47x⟩ := w47
            subst w47
            refine va_put (D := (dC, dI)) (ci := 5) (v := .int (mx x8 (valN f T u6 (u7 - u6)))) (ty := .int) (C := RX5) (T := TX5) (N := 12) hx hb hg inG5 tyX5 tyX5_ok nmX5 hown hK.1 hP hD hS 2 rfl rfl 10 (Nat.le_of_ble_eq_true rfl) (hg _ wt_120) (fun _ h9 => h9) rfl (by decide +kernel) rfl rfl (Nat.le_of_ble_eq_true rfl) dX5_readCarry_96 (fun H locs hP hD hS => ?_)
            refine lv_aload_n hx hb dX5_readCarry_99 rfl (lv_at hl 2 rfl) ?_
            refine lv_aload_n hx hb dX5_readCarry_100 rfl (lv_at hl 2 rfl) ?_
            refine va_get (D := (dC, dI)) (ci := 5) (v := .int x9) (C := RX5) (T := TX5) (N := 12) hx hb hg inG5 hown hK.1 hP 2 rfl rfl 11 (Nat.le_of_ble_eq_true rfl) (hg _ wt_121) (fun _ h9 => h9) rfl dX5_readCarry_101 ?_
            refine lv_iload_n hx hb dX5_readCarry_104 rfl (lv_at hl 0 rfl) ?_
            have hPc := hP.sub (ws' := []) [] rfl
            refine va_calli (va_runS (As := [.int x9, .int (valN f T u17 (u18 - u17))]) (rest := [.ref h0]) ⟨hx, hb, hml, hown, hg⟩ (c_J9_max l dC dI G _ x9 (valN f T u17 (u18 - u17))) (kwS hg mfJ9_max_7cf53 wt_500 ⟨Nat.le_of_ble_eq_true rfl, Nat.le_of_ble_eq_true rfl⟩) (preSR hK hPc) rfl rfl hl.1 rfl (lv_room (Nat.le_of_ble_eq_true rfl)) dX5_readCarry_105 ⟨Nat.le_of_ble_eq_true rfl, Nat.le_of_ble_eq_true rfl⟩) hS (fun q h1 h2 => absurd h2 (Nat.not_le.mpr h1)) (fun q h => hA q (Nat.le_trans hS.1 h)) (fun r48 ur48 t H1 locs ht hvm w49 hB hz1 hk1 hS => ?_)
            have hP := keepR hP hk1
            obtain ⟨w49, w49x⟩ := w49
            subst w49
            refine va_put (D := (dC, dI)) (ci := 5) (v := .int (mx x9 (valN f T u17 (u18 - u17)))) (ty := .int) (C := RX5) (T := TX5) (N := 12) hx hb hg inG5 tyX5 tyX5_ok nmX5 hown hK.1 hP hD hS 2 rfl rfl 11 (Nat.le_of_ble_eq_true rfl) (hg _ wt_121) (fun _ h9 => h9) rfl (by decide +kernel) rfl rfl (Nat.le_of_ble_eq_true rfl) dX5_readCarry_108 (fun H locs hP hD hS => ?_)
            refine lv_aload_n hx hb dX5_readCarry_111 rfl (lv_at hl 2 rfl) ?_
            obtain ⟨hPc, hDc, hFc⟩ := va_sub3 (ws' := [(h0, .inr (5, [.ref tp, .ref td, .int u14, .int u15, .int x2, .int u16, .int (nI u17), .int (nI u18), .int x6, .int (x7 ||| (1 <<< ((valN f T u6 (u7 - u6)) &&& 31))), .int (mx x8 (valN f T u6 (u7 - u6))), .int (mx x9 (valN f T u17 (u18 - u17)))])), (tp, .inr (7, [.int (nI T), .ref ta])), (ta, .inl (G 0, 320, .inl f))]) hP hD hS hA [2, 3, 4] (by decide +kernel) rfl
            refine va_calli (va_runV (As := []) (rest := []) ⟨hx, hb, hml, hown, hg⟩ (c_X5_nextStopE l dC dI G _ h0 tp td ta T u18 u14 u15 x2 u16 x6 (x7 ||| (1 <<< ((valN f T u6 (u7 - u6)) &&& 31))) (mx x8 (valN f T u6 (u7 - u6))) (mx x9 (valN f T u17 (u18 - u17))) (nI u17) f hT_ (by first | omega | (have t_c8 := neI c8; have t_c11 := neI c11; have t_c19 := neI c19; have t_c22 := nltI c22; have t_c34 := nleI c34; have tqz_ := qz25_; have tnb_ := nib6 tn1493_ tn1494_ tn1492_ tn1489_ tn1490_ tn1491_; omega))) (kwV hg mfX5_nextStop wt_463 ⟨Nat.le_of_ble_eq_true rfl, Nat.le_of_ble_eq_true rfl⟩) (preVW hK hPc hDc (ci := 5) (r := (RX5, TX5, 12)) rfl rfl) rfl rfl hl.1 rfl (lv_room (Nat.le_of_ble_eq_true rfl)) dX5_readCarry_112 ⟨Nat.le_of_ble_eq_true rfl, Nat.le_of_ble_eq_true rfl⟩) hS (fun q _ h => hFc q h) hFc (fun r50 ur50 t H1 locs ht hvm w51 hB hz1 hk1 hS => ?_)
            obtain ⟨u52, u53, u54, u55, u56⟩ := ur50
            obtain ⟨hP1, hD1⟩ := hB
            rw [ht] at hP1
            obtain ⟨hP, hD⟩ := va_join (wr := [(td, .inr (9, [.int (nI N), .int (nI B), .int (nI D), .ref a1, .ref a2, .ref a3, .ref a4, .ref a5, .ref a6])), (a3, .inl (G 0, 10, .inl (upd g3 (valN f T u6 (u7 - u6)).toNatClampNeg (valN f T u17 (u18 - u17)))))]) (w1 := [(h0, .inr (5, [.ref tp, .ref td, .int u52, .int u53, .int x2, .int u54, .int (nI u55), .int (nI u56), .int x6, .int (x7 ||| (1 <<< ((valN f T u6 (u7 - u6)) &&& 31))), .int (mx x8 (valN f T u6 (u7 - u6))), .int (mx x9 (valN f T u17 (u18 - u17)))])), (tp, .inr (7, [.int (nI T), .ref ta])), (ta, .inl (G 0, 320, .inl f))]) hP hD [2, 3, 4] [0, 1] rfl rfl (by decide +kernel) (by decide +kernel) hk1 hFc hP1 hD1
            generalize H1 = H at hP hS ⊢
            obtain ⟨w51, w51x⟩ := w51
            have vw51 : (tNS f T (u14, u15, u16, u17, u18)).1 = r50 := w51.2.symm
            have ew51 : (tNS f T (u14, u15, u16, u17, u18)).2 = (u52, u53, u54, u55, u56) := w51x.2.2.symm
            have hpost : ((r50 : Int32) = 0 ∨ (r50 : Int32) = 1) ∧ (r50 : Int32) = (cCR f T (x0, x1, x3, F, P) x7 x8 x9 g3).1 := by
              (have b9 := bw2 (by first | with_reducible assumption | assumption))
              first | (exfalso; (have t_c8 := neI c8; have t_c11 := neI c11; have t_c19 := neI c19; have t_c22 := nltI c22; have t_c34 := nleI c34; have tqz_ := qz25_; have tnb_ := nib6 tn1493_ tn1494_ tn1492_ tn1489_ tn1490_ tn1491_; have tqz_ := qz41_; omega)) | (refine ⟨w51.1, ?_⟩; unfold cCR; (try rw [vw2]); (try rw [ew2]); (try rw [vw13]); (try rw [ew13]); (try rw [vw51]); (try rw [ew51]); (try (repeat (first | rw [if_pos (by with_reducible assumption)] | rw [if_neg (by with_reducible assumption)] | rw [if_pos (by first | exact c8 | exact c11 | exact c19 | exact c22 | exact c34)] | rw [if_neg (by first | exact c8 | exact c11 | exact c19 | exact c22 | exact c34)] | rw [if_pos (by (have t_c8 := neI c8; have t_c11 := neI c11; have t_c19 := neI c19; have t_c22 := nltI c22; have t_c34 := nleI c34; have tqz_ := qz25_; have tnb_ := nib6 tn1493_ tn1494_ tn1492_ tn1489_ tn1490_ tn1491_; have tqz_ := qz41_; omega))] | rw [if_neg (by (have t_c8 := neI c8; have t_c11 := neI c11; have t_c19 := neI c19; have t_c22 := nltI c22; have t_c34 := nleI c34; have tqz_ := qz25_; have tnb_ := nib6 tn1493_ tn1494_ tn1492_ tn1489_ tn1490_ tn1491_; have tqz_ := qz41_; omega))] | rw [if_pos (by decide)] | rw [if_neg (by decide)] | rw [if_pos (by skip; assumption)] | rw [if_neg (by skip; assumption)]))); all_goals rfl)
            obtain ⟨hP9, hD9⟩ := va_sub2 (ws' := [(h0, .inr (5, [.ref tp, .ref td, .int u52, .int u53, .int x2, .int u54, .int (nI u55), .int (nI u56), .int x6, .int (x7 ||| (1 <<< ((valN f T u6 (u7 - u6)) &&& 31))), .int (mx x8 (valN f T u6 (u7 - u6))), .int (mx x9 (valN f T u17 (u18 - u17)))])), (tp, .inr (7, [.int (nI T), .ref ta])), (ta, .inl (G 0, 320, .inl f)), (td, .inr (9, [.int (nI N), .int (nI B), .int (nI D), .ref a1, .ref a2, .ref a3, .ref a4, .ref a5, .ref a6])), (a3, .inl (G 0, 10, .inl (upd g3 (valN f T u6 (u7 - u6)).toNatClampNeg (valN f T u17 (u18 - u17)))))]) hP hD [2, 3, 4, 0, 1] (by decide +kernel) rfl
            refine W.widen (k := 0) (n := 0) (Nat.le_of_ble_eq_true rfl) (Nat.le_of_ble_eq_true rfl) ?_
            exact W.zret (v := r50) hx hb hr (by first | rfl | decide | exact zn01 w51.1) (fun t ht hW => ⟨⟨r50, (u52, u53, u54, u55, u56, (x7 ||| (1 <<< ((valN f T u6 (u7 - u6)) &&& 31))), (mx x8 (valN f T u6 (u7 - u6))), (mx x9 (valN f T u17 (u18 - u17))), (upd g3 (valN f T u6 (u7 - u6)).toNatClampNeg (valN f T u17 (u18 - u17)))), rfl, ⟨hpost, (by (have b9 := bw2 (by first | with_reducible assumption | assumption)); first | (exfalso; (have t_c8 := neI c8; have t_c11 := neI c11; have t_c19 := neI c19; have t_c22 := nltI c22; have t_c34 := nleI c34; have tqz_ := qz25_; have tnb_ := nib6 tn1493_ tn1494_ tn1492_ tn1489_ tn1490_ tn1491_; have tqz_ := qz41_; omega)) | (refine ⟨by (have t_c8 := neI c8; have t_c11 := neI c11; have t_c19 := neI c19; have t_c22 := nltI c22; have t_c34 := nleI c34; have tqz_ := qz25_; have tnb_ := nib6 tn1493_ tn1494_ tn1492_ tn1489_ tn1490_ tn1491_; have tqz_ := qz41_; omega), by (have t_c8 := neI c8; have t_c11 := neI c11; have t_c19 := neI c19; have t_c22 := nltI c22; have t_c34 := nleI c34; have tqz_ := qz25_; have tnb_ := nib6 tn1493_ tn1494_ tn1492_ tn1489_ tn1490_ tn1491_; have tqz_ := qz41_; omega), ?_⟩; unfold cCR; (try rw [vw2]); (try rw [ew2]); (try rw [vw13]); (try rw [ew13]); (try rw [vw51]); (try rw [ew51]); (try (repeat (first | rw [if_pos (by with_reducible assumption)] | rw [if_neg (by with_reducible assumption)] | rw [if_pos (by first | exact c8 | exact c11 | exact c19 | exact c22 | exact c34)] | rw [if_neg (by first | exact c8 | exact c11 | exact c19 | exact c22 | exact c34)] | rw [if_pos (by (have t_c8 := neI c8; have t_c11 := neI c11; have t_c19 := neI c19; have t_c22 := nltI c22; have t_c34 := nleI c34; have tqz_ := qz25_; have tnb_ := nib6 tn1493_ tn1494_ tn1492_ tn1489_ tn1490_ tn1491_; have tqz_ := qz41_; omega))] | rw [if_neg (by (have t_c8 := neI c8; have t_c11 := neI c11; have t_c19 := neI c19; have t_c22 := nltI c22; have t_c34 := nleI c34; have tqz_ := qz25_; have tnb_ := nib6 tn1493_ tn1494_ tn1492_ tn1489_ tn1490_ tn1491_; have tqz_ := qz41_; omega))] | rw [if_pos (by decide)] | rw [if_neg (by decide)] | rw [if_pos (by skip; assumption)] | rw [if_neg (by skip; assumption)]))); all_goals rfl))⟩, ⟨by rw [ht]; exact hP9, hD9⟩⟩, hS.F ht⟩) hS.2.2 dX5_readCarry_115
      · skip
        refine lv_iconst (v := 0) hx hb dX5_readCarry_60 rfl ?_
        have hpost : ((0 : Int32) = 0 ∨ (0 : Int32) = 1) ∧ (0 : Int32) = (cCR f T (x0, x1, x3, F, P) x7 x8 x9 g3).1 := by
          (have b9 := bw2 (by first | with_reducible assumption | assumption))
          first | (exfalso; (have t_c8 := neI c8; have t_c11 := neI c11; have t_c19 := eqI c19; have tqz_ := qz2_; have tnb_ := nib6 tn1493_ tn1494_ tn1492_ tn1489_ tn1490_ tn1491_; have tqz_ := qz41_; omega)) | (refine ⟨Or.inl rfl, ?_⟩; unfold cCR; (try rw [vw2]); (try rw [ew2]); (try rw [vw13]); (try rw [ew13]); (try (repeat (first | rw [if_pos (by with_reducible assumption)] | rw [if_neg (by with_reducible assumption)] | rw [if_pos (by first | exact c8 | exact c11 | exact c19)] | rw [if_neg (by first | exact c8 | exact c11 | exact c19)] | rw [if_pos (by (have t_c8 := neI c8; have t_c11 := neI c11; have t_c19 := eqI c19; have tqz_ := qz2_; have tnb_ := nib6 tn1493_ tn1494_ tn1492_ tn1489_ tn1490_ tn1491_; have tqz_ := qz41_; omega))] | rw [if_neg (by (have t_c8 := neI c8; have t_c11 := neI c11; have t_c19 := eqI c19; have tqz_ := qz2_; have tnb_ := nib6 tn1493_ tn1494_ tn1492_ tn1489_ tn1490_ tn1491_; have tqz_ := qz41_; omega))] | rw [if_pos (by decide)] | rw [if_neg (by decide)] | rw [if_pos (by skip; assumption)] | rw [if_neg (by skip; assumption)]))); all_goals rfl)
        obtain ⟨hP9, hD9⟩ := va_sub2 (ws' := [(h0, .inr (5, [.ref tp, .ref td, .int u14, .int u15, .int x2, .int u16, .int (nI u17), .int (nI u18), .int x6, .int (x7 ||| (1 <<< ((valN f T u6 (u7 - u6)) &&& 31))), .int x8, .int x9])), (tp, .inr (7, [.int (nI T), .ref ta])), (ta, .inl (G 0, 320, .inl f)), (td, .inr (9, [.int (nI N), .int (nI B), .int (nI D), .ref a1, .ref a2, .ref a3, .ref a4, .ref a5, .ref a6])), (a3, .inl (G 0, 10, .inl g3))]) hP hD [2, 3, 4, 0, 1] (by decide +kernel) rfl
        refine W.widen (k := 0) (n := 0) (Nat.le_of_ble_eq_true rfl) (Nat.le_of_ble_eq_true rfl) ?_
        exact W.zret (v := 0) hx hb hr (by first | rfl | decide | exact rfl) (fun t ht hW => ⟨⟨0, (u14, u15, u16, u17, u18, (x7 ||| (1 <<< ((valN f T u6 (u7 - u6)) &&& 31))), x8, x9, g3), rfl, ⟨hpost, (by (have b9 := bw2 (by first | with_reducible assumption | assumption)); first | (exfalso; (have t_c8 := neI c8; have t_c11 := neI c11; have t_c19 := eqI c19; have tqz_ := qz2_; have tnb_ := nib6 tn1493_ tn1494_ tn1492_ tn1489_ tn1490_ tn1491_; have tqz_ := qz41_; omega)) | (refine ⟨by (have t_c8 := neI c8; have t_c11 := neI c11; have t_c19 := eqI c19; have tqz_ := qz2_; have tnb_ := nib6 tn1493_ tn1494_ tn1492_ tn1489_ tn1490_ tn1491_; have tqz_ := qz41_; omega), by (have t_c8 := neI c8; have t_c11 := neI c11; have t_c19 := eqI c19; have tqz_ := qz2_; have tnb_ := nib6 tn1493_ tn1494_ tn1492_ tn1489_ tn1490_ tn1491_; have tqz_ := qz41_; omega), ?_⟩; unfold cCR; (try rw [vw2]); (try rw [ew2]); (try rw [vw13]); (try rw [ew13]); (try (repeat (first | rw [if_pos (by with_reducible assumption)] | rw [if_neg (by with_reducible assumption)] | rw [if_pos (by first | exact c8 | exact c11 | exact c19)] | rw [if_neg (by first | exact c8 | exact c11 | exact c19)] | rw [if_pos (by (have t_c8 := neI c8; have t_c11 := neI c11; have t_c19 := eqI c19; have tqz_ := qz2_; have tnb_ := nib6 tn1493_ tn1494_ tn1492_ tn1489_ tn1490_ tn1491_; have tqz_ := qz41_; omega))] | rw [if_neg (by (have t_c8 := neI c8; have t_c11 := neI c11; have t_c19 := eqI c19; have tqz_ := qz2_; have tnb_ := nib6 tn1493_ tn1494_ tn1492_ tn1489_ tn1490_ tn1491_; have tqz_ := qz41_; omega))] | rw [if_pos (by decide)] | rw [if_neg (by decide)] | rw [if_pos (by skip; assumption)] | rw [if_neg (by skip; assumption)]))); all_goals rfl))⟩, ⟨by rw [ht]; exact hP9, hD9⟩⟩, hS.F ht⟩) hS.2.2 dX5_readCarry_61
    · skip
      refine lv_aload_n hx hb dX5_readCarry_29 rfl (lv_at hl 1 rfl) ?_
      refine lv_iconst (v := 4) hx hb dX5_readCarry_30 rfl ?_
      refine lv_aload_n hx hb dX5_readCarry_31 rfl (lv_at hl 1 rfl) ?_
      refine va_get (D := (dC, dI)) (ci := 5) (v := .int (nI u6)) (C := RX5) (T := TX5) (N := 12) hx hb hg inG5 hown hK.1 hP 2 rfl rfl 6 (Nat.le_of_ble_eq_true rfl) (hg _ wt_116) (fun _ h9 => h9) rfl dX5_readCarry_32 ?_
      obtain ⟨hPc, hDc, hFc⟩ := va_sub3 (ws' := [(h0, .inr (5, [.ref tp, .ref td, .int u3, .int u4, .int x2, .int u5, .int (nI u6), .int (nI u7), .int x6, .int x7, .int x8, .int x9]))]) hP hD hS hA [2] (by decide +kernel) rfl
      refine va_calli (va_runV (As := [.int 4, .int (nI u6)]) (rest := []) ⟨hx, hb, hml, hown, hg⟩ (c_X5_refuseE l dC dI G _ h0 tp td u3 u4 x2 u5 (nI u6) (nI u7) x6 x7 x8 x9 4 (nI u6)) (kwV hg mfX5_refuse wt_386 ⟨Nat.le_of_ble_eq_true rfl, Nat.le_of_ble_eq_true rfl⟩) (preVW hK hPc hDc (ci := 5) (r := (RX5, TX5, 12)) rfl rfl) rfl rfl hl.1 rfl (lv_room (Nat.le_of_ble_eq_true rfl)) dX5_readCarry_35 ⟨Nat.le_of_ble_eq_true rfl, Nat.le_of_ble_eq_true rfl⟩) hS (fun q _ h => hFc q h) hFc (fun r57 ur57 t H1 locs ht hvm w58 hB hz1 hk1 hS => ?_)
      obtain ⟨u59, u60⟩ := ur57
      obtain ⟨hP1, hD1⟩ := hB
      rw [ht] at hP1
      obtain ⟨hP, hD⟩ := va_join (wr := [(td, .inr (9, [.int (nI N), .int (nI B), .int (nI D), .ref a1, .ref a2, .ref a3, .ref a4, .ref a5, .ref a6])), (a3, .inl (G 0, 10, .inl g3)), (tp, .inr (7, [.int (nI T), .ref ta])), (ta, .inl (G 0, 320, .inl f))]) (w1 := [(h0, .inr (5, [.ref tp, .ref td, .int u59, .int u60, .int x2, .int u5, .int (nI u6), .int (nI u7), .int x6, .int x7, .int x8, .int x9]))]) hP hD [2] [0, 1, 3, 4] rfl rfl (by decide +kernel) (by decide +kernel) hk1 hFc hP1 hD1
      generalize H1 = H at hP hS ⊢
      obtain ⟨w58, w58x⟩ := w58
      subst w58
      have ew58 : cRF 4 (u3, u4, u5, u6, u7) = (u59, u60, u5, u6, u7) := (by show (flB _ _, flP _ _ _, _, _, _) = _; rw [← w58x.1, ← w58x.2])
      have hpost : ((0 : Int32) = 0 ∨ (0 : Int32) = 1) ∧ (0 : Int32) = (cCR f T (x0, x1, x3, F, P) x7 x8 x9 g3).1 := by
        first | (exfalso; (have t_c8 := neI c8; have t_c11 := eqI c11; have tqz_ := qz2_; have tnb_ := nib6 tn1493_ tn1494_ tn1492_ tn1489_ tn1490_ tn1491_; have tqz_ := qz41_; omega)) | (refine ⟨Or.inl rfl, ?_⟩; unfold cCR; (try rw [vw2]); (try rw [ew2]); (try rw [ew58]); (try (repeat (first | rw [if_pos (by with_reducible assumption)] | rw [if_neg (by with_reducible assumption)] | rw [if_pos (by first | exact c8 | exact c11)] | rw [if_neg (by first | exact c8 | exact c11)] | rw [if_pos (by (have t_c8 := neI c8; have t_c11 := eqI c11; have tqz_ := qz2_; have tnb_ := nib6 tn1493_ tn1494_ tn1492_ tn1489_ tn1490_ tn1491_; have tqz_ := qz41_; omega))] | rw [if_neg (by (have t_c8 := neI c8; have t_c11 := eqI c11; have tqz_ := qz2_; have tnb_ := nib6 tn1493_ tn1494_ tn1492_ tn1489_ tn1490_ tn1491_; have tqz_ := qz41_; omega))] | rw [if_pos (by decide)] | rw [if_neg (by decide)] | rw [if_pos (by skip; assumption)] | rw [if_neg (by skip; assumption)]))); all_goals rfl)
      obtain ⟨hP9, hD9⟩ := va_sub2 (ws' := [(h0, .inr (5, [.ref tp, .ref td, .int u59, .int u60, .int x2, .int u5, .int (nI u6), .int (nI u7), .int x6, .int x7, .int x8, .int x9])), (tp, .inr (7, [.int (nI T), .ref ta])), (ta, .inl (G 0, 320, .inl f)), (td, .inr (9, [.int (nI N), .int (nI B), .int (nI D), .ref a1, .ref a2, .ref a3, .ref a4, .ref a5, .ref a6])), (a3, .inl (G 0, 10, .inl g3))]) hP hD [4, 2, 3, 0, 1] (by decide +kernel) rfl
      refine W.widen (k := 0) (n := 0) (Nat.le_of_ble_eq_true rfl) (Nat.le_of_ble_eq_true rfl) ?_
      exact W.zret (v := 0) hx hb hr (by first | rfl | decide | exact rfl) (fun t ht hW => ⟨⟨0, (u59, u60, u5, u6, u7, x7, x8, x9, g3), rfl, ⟨hpost, (by first | (exfalso; (have t_c8 := neI c8; have t_c11 := eqI c11; have tqz_ := qz2_; have tnb_ := nib6 tn1493_ tn1494_ tn1492_ tn1489_ tn1490_ tn1491_; have tqz_ := qz41_; omega)) | (refine ⟨by (have t_c8 := neI c8; have t_c11 := eqI c11; have tqz_ := qz2_; have tnb_ := nib6 tn1493_ tn1494_ tn1492_ tn1489_ tn1490_ tn1491_; have tqz_ := qz41_; omega), by (have t_c8 := neI c8; have t_c11 := eqI c11; have tqz_ := qz2_; have tnb_ := nib6 tn1493_ tn1494_ tn1492_ tn1489_ tn1490_ tn1491_; have tqz_ := qz41_; omega), ?_⟩; unfold cCR; (try rw [vw2]); (try rw [ew2]); (try rw [ew58]); (try (repeat (first | rw [if_pos (by with_reducible assumption)] | rw [if_neg (by with_reducible assumption)] | rw [if_pos (by first | exact c8 | exact c11)] | rw [if_neg (by first | exact c8 | exact c11)] | rw [if_pos (by (have t_c8 := neI c8; have t_c11 := eqI c11; have tqz_ := qz2_; have tnb_ := nib6 tn1493_ tn1494_ tn1492_ tn1489_ tn1490_ tn1491_; have tqz_ := qz41_; omega))] | rw [if_neg (by (have t_c8 := neI c8; have t_c11 := eqI c11; have tqz_ := qz2_; have tnb_ := nib6 tn1493_ tn1494_ tn1492_ tn1489_ tn1490_ tn1491_; have tqz_ := qz41_; omega))] | rw [if_pos (by decide)] | rw [if_neg (by decide)] | rw [if_pos (by skip; assumption)] | rw [if_neg (by skip; assumption)]))); all_goals rfl))⟩, ⟨by rw [ht]; exact hP9, hD9⟩⟩, hS.F ht⟩) hS.2.2 dX5_readCarry_38
  · skip
    refine lv_iconst (v := 0) hx hb dX5_readCarry_10 rfl ?_
    have hpost : ((0 : Int32) = 0 ∨ (0 : Int32) = 1) ∧ (0 : Int32) = (cCR f T (x0, x1, x3, F, P) x7 x8 x9 g3).1 := by
      first | (exfalso; (have t_c8 := eqI c8; have : (0 : Int32).toInt = 0 := qI_0; have tnb_ := nib6 tn1493_ tn1494_ tn1492_ tn1489_ tn1490_ tn1491_; have tqz_ := qz41_; omega)) | (refine ⟨Or.inl rfl, ?_⟩; unfold cCR; (try rw [vw2]); (try rw [ew2]); (try (repeat (first | rw [if_pos (by with_reducible assumption)] | rw [if_neg (by with_reducible assumption)] | rw [if_pos (by first | exact c8)] | rw [if_neg (by first | exact c8)] | rw [if_pos (by (have t_c8 := eqI c8; have : (0 : Int32).toInt = 0 := qI_0; have tnb_ := nib6 tn1493_ tn1494_ tn1492_ tn1489_ tn1490_ tn1491_; have tqz_ := qz41_; omega))] | rw [if_neg (by (have t_c8 := eqI c8; have : (0 : Int32).toInt = 0 := qI_0; have tnb_ := nib6 tn1493_ tn1494_ tn1492_ tn1489_ tn1490_ tn1491_; have tqz_ := qz41_; omega))] | rw [if_pos (by decide)] | rw [if_neg (by decide)] | rw [if_pos (by skip; assumption)] | rw [if_neg (by skip; assumption)]))); all_goals rfl)
    obtain ⟨hP9, hD9⟩ := va_sub2 (ws' := [(h0, .inr (5, [.ref tp, .ref td, .int u3, .int u4, .int x2, .int u5, .int (nI u6), .int (nI u7), .int x6, .int x7, .int x8, .int x9])), (tp, .inr (7, [.int (nI T), .ref ta])), (ta, .inl (G 0, 320, .inl f)), (td, .inr (9, [.int (nI N), .int (nI B), .int (nI D), .ref a1, .ref a2, .ref a3, .ref a4, .ref a5, .ref a6])), (a3, .inl (G 0, 10, .inl g3))]) hP hD [2, 3, 4, 0, 1] (by decide +kernel) rfl
    refine W.widen (k := 0) (n := 0) (Nat.le_of_ble_eq_true rfl) (Nat.le_of_ble_eq_true rfl) ?_
    exact W.zret (v := 0) hx hb hr (by first | rfl | decide | exact rfl) (fun t ht hW => ⟨⟨0, (u3, u4, u5, u6, u7, x7, x8, x9, g3), rfl, ⟨hpost, (by first | (exfalso; (have t_c8 := eqI c8; have : (0 : Int32).toInt = 0 := qI_0; have tnb_ := nib6 tn1493_ tn1494_ tn1492_ tn1489_ tn1490_ tn1491_; have tqz_ := qz41_; omega)) | (refine ⟨by (have t_c8 := eqI c8; have : (0 : Int32).toInt = 0 := qI_0; have tnb_ := nib6 tn1493_ tn1494_ tn1492_ tn1489_ tn1490_ tn1491_; have tqz_ := qz41_; omega), by (have t_c8 := eqI c8; have : (0 : Int32).toInt = 0 := qI_0; have tnb_ := nib6 tn1493_ tn1494_ tn1492_ tn1489_ tn1490_ tn1491_; have tqz_ := qz41_; omega), ?_⟩; unfold cCR; (try rw [vw2]); (try rw [ew2]); (try (repeat (first | rw [if_pos (by with_reducible assumption)] | rw [if_neg (by with_reducible assumption)] | rw [if_pos (by first | exact c8)] | rw [if_neg (by first | exact c8)] | rw [if_pos (by (have t_c8 := eqI c8; have : (0 : Int32).toInt = 0 := qI_0; have tnb_ := nib6 tn1493_ tn1494_ tn1492_ tn1489_ tn1490_ tn1491_; have tqz_ := qz41_; omega))] | rw [if_neg (by (have t_c8 := eqI c8; have : (0 : Int32).toInt = 0 := qI_0; have tnb_ := nib6 tn1493_ tn1494_ tn1492_ tn1489_ tn1490_ tn1491_; have tqz_ := qz41_; omega))] | rw [if_pos (by decide)] | rw [if_neg (by decide)] | rw [if_pos (by skip; assumption)] | rw [if_neg (by skip; assumption)]))); all_goals rfl))⟩, ⟨by rw [ht]; exact hP9, hD9⟩⟩, hS.F ht⟩) hS.2.2 dX5_readCarry_11

set_option maxHeartbeats 1000000 in
set_option maxRecDepth 100000 in
theorem c_X5_readLineE (l : Launch) (dC : Nat → ClassId) (dI : Nat → Nat → Nat) (G : Nat → ClassId) (sz : Nat) (h0 tp td ta T F P a1 a2 a3 a4 a5 a6 N B D : Nat) (x0 x1 x2 x3 x6 x7 x8 x9 : Int32) (f g1 g2 g3 g4 g5 g6 : Nat → Int32) (adK adV : Nat → Nat) (hF : F ≤ P) (hP0 : P ≤ T) (hT : T ≤ 320) (hN_N : N ≤ 10) (hB_B : B ≤ 6) (hD_D : 1 ≤ D ∧ D ≤ 9) : Met l yX5_readLine (Cond.code yX5_readLine cX5_readLine 1 (some .boolean) :: GT) ({ frames := 8, cells := 0, slots := 0, locals := 172 } : Room) (PcWS [.ref h0] dC dI G [(h0, .inr (5, [.ref tp, .ref td, .int x0, .int x1, .int x2, .int x3, .int (nI F), .int (nI P), .int x6, .int x7, .int x8, .int x9])), (tp, .inr (7, [.int (nI T), .ref ta])), (ta, .inl (G 0, 320, .inl f)), (td, .inr (9, [.int (nI N), .int (nI B), .int (nI D), .ref a1, .ref a2, .ref a3, .ref a4, .ref a5, .ref a6])), (a1, .inl (G 0, 10, .inl g1)), (a2, .inl (G 0, 10, .inl g2)), (a3, .inl (G 0, 10, .inl g3)), (a4, .inl (G 0, 6, .inl g4)), (a5, .inl (G 0, 6, .inl g5)), (a6, .inl (G 0, 6, .inl g6))] adK adV sz) (va_Qi (fun (r : Int32) (u : Int32 × Int32 × Int32 × Nat × Nat × Int32 × Int32 × Int32 × Int32 × Nat × Nat × Nat × (Nat → Int32) × (Nat → Int32) × (Nat → Int32) × (Nat → Int32) × (Nat → Int32) × (Nat → Int32)) => match u with | (u0, u1, u3, u4, u5, u6, u7, u8, u9, n0, n1, n2, v1, v2, v3, v4, v5, v6) => ((r = 0 ∨ r = 1) ∧ r = (cLN f T (x0, x1, x3, F, P) x6 x7 x8 x9 N B D g1 g2 g3 g4 g5 g6).1) ∧ u4 ≤ u5 ∧ u5 ≤ T ∧ (n0 ≤ 10 ∧ n1 ≤ 6 ∧ (1 ≤ n2 ∧ n2 ≤ 9)) ∧ ((u0, u1, u3, u4, u5), u6, u7, u8, u9, n0, n1, n2, v1, v2, v3, v4, v5, v6) = (cLN f T (x0, x1, x3, F, P) x6 x7 x8 x9 N B D g1 g2 g3 g4 g5 g6).2) (fun (u : Int32 × Int32 × Int32 × Nat × Nat × Int32 × Int32 × Int32 × Int32 × Nat × Nat × Nat × (Nat → Int32) × (Nat → Int32) × (Nat → Int32) × (Nat → Int32) × (Nat → Int32) × (Nat → Int32)) (t : State) => match u with | (u0, u1, u3, u4, u5, u6, u7, u8, u9, n0, n1, n2, v1, v2, v3, v4, v5, v6) => va_P (dC, dI) vwCl [(h0, .inr (5, [.ref tp, .ref td, .int u0, .int u1, .int x2, .int u3, .int (nI u4), .int (nI u5), .int u6, .int u7, .int u8, .int u9])), (tp, .inr (7, [.int (nI T), .ref ta])), (ta, .inl (G 0, 320, .inl f)), (td, .inr (9, [.int (nI n0), .int (nI n1), .int (nI n2), .ref a1, .ref a2, .ref a3, .ref a4, .ref a5, .ref a6])), (a1, .inl (G 0, 10, .inl v1)), (a2, .inl (G 0, 10, .inl v2)), (a3, .inl (G 0, 10, .inl v3)), (a4, .inl (G 0, 6, .inl v4)), (a5, .inl (G 0, 6, .inl v5)), (a6, .inl (G 0, 6, .inl v6))] t.heap ∧ va_D (va_A [(h0, .inr (5, [.ref tp, .ref td, .int x0, .int x1, .int x2, .int x3, .int (nI F), .int (nI P), .int x6, .int x7, .int x8, .int x9])), (tp, .inr (7, [.int (nI T), .ref ta])), (ta, .inl (G 0, 320, .inl f)), (td, .inr (9, [.int (nI N), .int (nI B), .int (nI D), .ref a1, .ref a2, .ref a3, .ref a4, .ref a5, .ref a6])), (a1, .inl (G 0, 10, .inl g1)), (a2, .inl (G 0, 10, .inl g2)), (a3, .inl (G 0, 10, .inl g3)), (a4, .inl (G 0, 6, .inl g4)), (a5, .inl (G 0, 6, .inl g5)), (a6, .inl (G 0, 6, .inl g6))] sz) [(h0, .inr (5, [.ref tp, .ref td, .int u0, .int u1, .int x2, .int u3, .int (nI u4), .int (nI u5), .int u6, .int u7, .int u8, .int u9])), (tp, .inr (7, [.int (nI T), .ref ta])), (ta, .inl (G 0, 320, .inl f)), (td, .inr (9, [.int (nI n0), .int (nI n1), .int (nI n2), .ref a1, .ref a2, .ref a3, .ref a4, .ref a5, .ref a6])), (a1, .inl (G 0, 10, .inl v1)), (a2, .inl (G 0, 10, .inl v2)), (a3, .inl (G 0, 10, .inl v3)), (a4, .inl (G 0, 6, .inl v4)), (a5, .inl (G 0, 6, .inl v5)), (a6, .inl (G 0, 6, .inl v6))]) (va_A [(h0, .inr (5, [.ref tp, .ref td, .int x0, .int x1, .int x2, .int x3, .int (nI F), .int (nI P), .int x6, .int x7, .int x8, .int x9])), (tp, .inr (7, [.int (nI T), .ref ta])), (ta, .inl (G 0, 320, .inl f)), (td, .inr (9, [.int (nI N), .int (nI B), .int (nI D), .ref a1, .ref a2, .ref a3, .ref a4, .ref a5, .ref a6])), (a1, .inl (G 0, 10, .inl g1)), (a2, .inl (G 0, 10, .inl g2)), (a3, .inl (G 0, 10, .inl g3)), (a4, .inl (G 0, 6, .inl g4)), (a5, .inl (G 0, 6, .inl g5)), (a6, .inl (G 0, 6, .inl g6))] sz)) 0 0 (va_A [(h0, .inr (5, [.ref tp, .ref td, .int x0, .int x1, .int x2, .int x3, .int (nI F), .int (nI P), .int x6, .int x7, .int x8, .int x9])), (tp, .inr (7, [.int (nI T), .ref ta])), (ta, .inl (G 0, 320, .inl f)), (td, .inr (9, [.int (nI N), .int (nI B), .int (nI D), .ref a1, .ref a2, .ref a3, .ref a4, .ref a5, .ref a6])), (a1, .inl (G 0, 10, .inl g1)), (a2, .inl (G 0, 10, .inl g2)), (a3, .inl (G 0, 10, .inl g3)), (a4, .inl (G 0, 6, .inl g4)), (a5, .inl (G 0, 6, .inl g5)), (a6, .inl (G 0, 6, .inl g6))] sz) := by
  have hT_ := hT
  have tn1495_ : nIT N := fun _ => nI_toInt (by omega)
  have tn1496_ : nIT B := fun _ => nI_toInt (by omega)
  have tn1497_ : nIT D := fun _ => nI_toInt (by omega)
  have tn1498_ : nIT T := fun _ => nI_toInt (by omega)
  refine Met.ofW (cc := cX5_readLine) (maxL := 1) (ret := (some .boolean)) (by decide) rfl ?_
  intro p e s m args below meth c s₁ Bd hml hv
  obtain ⟨rfl, hsz, hP, hK, hD0, hSS⟩ := hv
  have hx := Bd.exec
  have hb := Bd.bytes
  have hr := Bd.returns
  have hg : ∀ w ∈ GT, w.before ([.ref h0] : List Value).toArray s = true := fun w h => atoms_spec (ws := Cond.code yX5_readLine cX5_readLine 1 (some .boolean) :: GT) Bd.pre w (List.mem_cons_of_mem _ h)
  have hown : s.vm.findClass RX5 = some m.cls := findClass_of_methodNamed Bd.named
  have hlocks := Bd.notSynchronized
  subst hsz
  have hD := hD0.self (sz := s.heap.size)
  generalize hAe : va_A [(h0, .inr (5, [.ref tp, .ref td, .int x0, .int x1, .int x2, .int x3, .int (nI F), .int (nI P), .int x6, .int x7, .int x8, .int x9])), (tp, .inr (7, [.int (nI T), .ref ta])), (ta, .inl (G 0, 320, .inl f)), (td, .inr (9, [.int (nI N), .int (nI B), .int (nI D), .ref a1, .ref a2, .ref a3, .ref a4, .ref a5, .ref a6])), (a1, .inl (G 0, 10, .inl g1)), (a2, .inl (G 0, 10, .inl g2)), (a3, .inl (G 0, 10, .inl g3)), (a4, .inl (G 0, 6, .inl g4)), (a5, .inl (G 0, 6, .inl g5)), (a6, .inl (G 0, 6, .inl g6))] s.heap.size = A at hD hSS ⊢
  have hA : ∀ q : Nat, s.heap.size ≤ q → A q := fun q h => by rw [← hAe]; exact Or.inr h
  have hS : va_S A s.heap s.heap [] := va_S.rf
  have hl := lv_entry ([.ref h0]) (n := 1) (Nat.le_of_ble_eq_true rfl)
  rw [lg_entry_eq]
  generalize (lg_sl ([.ref h0]) ++ List.replicate (1 - (lg_sl ([.ref h0])).length) Slot.unset).toArray = ls at hl ⊢
  have hl : lv_has ls 1 [(0, .ref h0)] := hl
  refine lv_aload_n hx hb dX5_readLine_0 rfl (lv_at hl 0 rfl) ?_
  refine va_ldcS hx hb hown (hSS.2.1 0 _ rfl) dX5_readLine_1 ?_
  have hPc := hP.sub (ws' := [(h0, .inr (5, [.ref tp, .ref td, .int x0, .int x1, .int x2, .int x3, .int (nI F), .int (nI P), .int x6, .int x7, .int x8, .int x9])), (tp, .inr (7, [.int (nI T), .ref ta])), (ta, .inl (G 0, 320, .inl f))]) [0, 1, 2] rfl
  have tn1499_ : nIT F := fun _ => nI_toInt (by omega)
  have tn1500_ : nIT P := fun _ => nI_toInt (by omega)
  refine va_calli (va_runV (As := [.ref (adK 0)]) (rest := []) ⟨hx, hb, hml, hown, hg⟩ (c_X5_isNameE l dC dI G _ h0 tp td ta T F P 0 x0 x1 x2 x3 x6 x7 x8 x9 f adK adV hT_ hF hP0 (by first | omega | (have tnb_ := nib6 tn1499_ tn1500_ tn1498_ tn1495_ tn1496_ tn1497_; omega))) (kwV hg mfX5_isName wt_395 ⟨Nat.le_of_ble_eq_true rfl, Nat.le_of_ble_eq_true rfl⟩) (preVRS hK hPc hSS hS (fun q h => hA q (Nat.le_trans hS.1 h)) (ci := 5) (r := (RX5, TX5, 12)) rfl rfl) rfl rfl hl.1 rfl (lv_room (Nat.le_of_ble_eq_true rfl)) dX5_readLine_3 ⟨Nat.le_of_ble_eq_true rfl, Nat.le_of_ble_eq_true rfl⟩) hS (fun q h1 h2 => absurd h2 (Nat.not_le.mpr h1)) (fun q h => hA q (Nat.le_trans hS.1 h)) (fun r1 ur1 t H1 locs ht hvm w2 hB hz1 hk1 hS => ?_)
  have hP := keepR hP hk1
  obtain ⟨w2, w2x⟩ := w2
  subst w2
  refine lv_if_eq (tgt := 14) hx hb dX5_readLine_6 rfl (fun c3 => ?_) (fun c3 => ?_)
  · skip
    refine lv_aload_n hx hb dX5_readLine_14 rfl (lv_at hl 0 rfl) ?_
    refine va_ldcS hx hb hown (hSS.2.1 1 _ rfl) dX5_readLine_15 ?_
    have hPc := hP.sub (ws' := [(h0, .inr (5, [.ref tp, .ref td, .int x0, .int x1, .int x2, .int x3, .int (nI F), .int (nI P), .int x6, .int x7, .int x8, .int x9])), (tp, .inr (7, [.int (nI T), .ref ta])), (ta, .inl (G 0, 320, .inl f))]) [0, 1, 2] rfl
    refine va_calli (va_runV (As := [.ref (adK 1)]) (rest := []) ⟨hx, hb, hml, hown, hg⟩ (c_X5_isNameE l dC dI G _ h0 tp td ta T F P 1 x0 x1 x2 x3 x6 x7 x8 x9 f adK adV hT_ hF hP0 (by first | omega | (have t_c3 := eqI c3; have : (0 : Int32).toInt = 0 := qI_0; have tnb_ := nib6 tn1499_ tn1500_ tn1498_ tn1495_ tn1496_ tn1497_; omega))) (kwV hg mfX5_isName wt_395 ⟨Nat.le_of_ble_eq_true rfl, Nat.le_of_ble_eq_true rfl⟩) (preVRS hK hPc hSS hS (fun q h => hA q (Nat.le_trans hS.1 h)) (ci := 5) (r := (RX5, TX5, 12)) rfl rfl) rfl rfl hl.1 rfl (lv_room (Nat.le_of_ble_eq_true rfl)) dX5_readLine_17 ⟨Nat.le_of_ble_eq_true rfl, Nat.le_of_ble_eq_true rfl⟩) hS (fun q h1 h2 => absurd h2 (Nat.not_le.mpr h1)) (fun q h => hA q (Nat.le_trans hS.1 h)) (fun r4 ur4 t H1 locs ht hvm w5 hB hz1 hk1 hS => ?_)
    have hP := keepR hP hk1
    obtain ⟨w5, w5x⟩ := w5
    subst w5
    refine lv_if_eq (tgt := 28) hx hb dX5_readLine_20 rfl (fun c6 => ?_) (fun c6 => ?_)
    · skip
      refine lv_aload_n hx hb dX5_readLine_28 rfl (lv_at hl 0 rfl) ?_
      refine va_ldcS hx hb hown (hSS.2.1 2 _ rfl) dX5_readLine_29 ?_
      have hPc := hP.sub (ws' := [(h0, .inr (5, [.ref tp, .ref td, .int x0, .int x1, .int x2, .int x3, .int (nI F), .int (nI P), .int x6, .int x7, .int x8, .int x9])), (tp, .inr (7, [.int (nI T), .ref ta])), (ta, .inl (G 0, 320, .inl f))]) [0, 1, 2] rfl
      refine va_calli (va_runV (As := [.ref (adK 2)]) (rest := []) ⟨hx, hb, hml, hown, hg⟩ (c_X5_isNameE l dC dI G _ h0 tp td ta T F P 2 x0 x1 x2 x3 x6 x7 x8 x9 f adK adV hT_ hF hP0 (by first | omega | (have t_c3 := eqI c3; have t_c6 := eqI c6; have : (0 : Int32).toInt = 0 := qI_0; have tnb_ := nib6 tn1499_ tn1500_ tn1498_ tn1495_ tn1496_ tn1497_; omega))) (kwV hg mfX5_isName wt_395 ⟨Nat.le_of_ble_eq_true rfl, Nat.le_of_ble_eq_true rfl⟩) (preVRS hK hPc hSS hS (fun q h => hA q (Nat.le_trans hS.1 h)) (ci := 5) (r := (RX5, TX5, 12)) rfl rfl) rfl rfl hl.1 rfl (lv_room (Nat.le_of_ble_eq_true rfl)) dX5_readLine_31 ⟨Nat.le_of_ble_eq_true rfl, Nat.le_of_ble_eq_true rfl⟩) hS (fun q h1 h2 => absurd h2 (Nat.not_le.mpr h1)) (fun q h => hA q (Nat.le_trans hS.1 h)) (fun r7 ur7 t H1 locs ht hvm w8 hB hz1 hk1 hS => ?_)
      have hP := keepR hP hk1
      obtain ⟨w8, w8x⟩ := w8
      subst w8
      refine lv_if_eq (tgt := 42) hx hb dX5_readLine_34 rfl (fun c9 => ?_) (fun c9 => ?_)
      · skip
        refine lv_aload_n hx hb dX5_readLine_42 rfl (lv_at hl 0 rfl) ?_
        refine va_ldcS hx hb hown (hSS.2.1 9 _ rfl) dX5_readLine_43 ?_
        have hPc := hP.sub (ws' := [(h0, .inr (5, [.ref tp, .ref td, .int x0, .int x1, .int x2, .int x3, .int (nI F), .int (nI P), .int x6, .int x7, .int x8, .int x9])), (tp, .inr (7, [.int (nI T), .ref ta])), (ta, .inl (G 0, 320, .inl f))]) [0, 1, 2] rfl
        refine va_calli (va_runV (As := [.ref (adK 9)]) (rest := []) ⟨hx, hb, hml, hown, hg⟩ (c_X5_isNameE l dC dI G _ h0 tp td ta T F P 9 x0 x1 x2 x3 x6 x7 x8 x9 f adK adV hT_ hF hP0 (by first | omega | (have t_c3 := eqI c3; have t_c6 := eqI c6; have t_c9 := eqI c9; have : (0 : Int32).toInt = 0 := qI_0; have tnb_ := nib6 tn1499_ tn1500_ tn1498_ tn1495_ tn1496_ tn1497_; omega))) (kwV hg mfX5_isName wt_395 ⟨Nat.le_of_ble_eq_true rfl, Nat.le_of_ble_eq_true rfl⟩) (preVRS hK hPc hSS hS (fun q h => hA q (Nat.le_trans hS.1 h)) (ci := 5) (r := (RX5, TX5, 12)) rfl rfl) rfl rfl hl.1 rfl (lv_room (Nat.le_of_ble_eq_true rfl)) dX5_readLine_45 ⟨Nat.le_of_ble_eq_true rfl, Nat.le_of_ble_eq_true rfl⟩) hS (fun q h1 h2 => absurd h2 (Nat.not_le.mpr h1)) (fun q h => hA q (Nat.le_trans hS.1 h)) (fun r10 ur10 t H1 locs ht hvm w11 hB hz1 hk1 hS => ?_)
        have hP := keepR hP hk1
        obtain ⟨w11, w11x⟩ := w11
        subst w11
        refine lv_if_eq (tgt := 56) hx hb dX5_readLine_48 rfl (fun c12 => ?_) (fun c12 => ?_)
        · skip
          refine lv_aload_n hx hb dX5_readLine_56 rfl (lv_at hl 0 rfl) ?_
          refine lv_iconst (v := 2) hx hb dX5_readLine_57 rfl ?_
          refine lv_aload_n hx hb dX5_readLine_58 rfl (lv_at hl 0 rfl) ?_
          refine va_get (D := (dC, dI)) (ci := 5) (v := .int (nI F)) (C := RX5) (T := TX5) (N := 12) hx hb hg inG5 hown hK.1 hP 0 rfl rfl 6 (Nat.le_of_ble_eq_true rfl) (hg _ wt_116) (fun _ h9 => h9) rfl dX5_readLine_59 ?_
          obtain ⟨hPc, hDc, hFc⟩ := va_sub3 (ws' := [(h0, .inr (5, [.ref tp, .ref td, .int x0, .int x1, .int x2, .int x3, .int (nI F), .int (nI P), .int x6, .int x7, .int x8, .int x9]))]) hP hD hS hA [0] (by decide +kernel) rfl
          refine va_calli (va_runV (As := [.int 2, .int (nI F)]) (rest := []) ⟨hx, hb, hml, hown, hg⟩ (c_X5_refuseE l dC dI G _ h0 tp td x0 x1 x2 x3 (nI F) (nI P) x6 x7 x8 x9 2 (nI F)) (kwV hg mfX5_refuse wt_386 ⟨Nat.le_of_ble_eq_true rfl, Nat.le_of_ble_eq_true rfl⟩) (preVW hK hPc hDc (ci := 5) (r := (RX5, TX5, 12)) rfl rfl) rfl rfl hl.1 rfl (lv_room (Nat.le_of_ble_eq_true rfl)) dX5_readLine_62 ⟨Nat.le_of_ble_eq_true rfl, Nat.le_of_ble_eq_true rfl⟩) hS (fun q _ h => hFc q h) hFc (fun r13 ur13 t H1 locs ht hvm w14 hB hz1 hk1 hS => ?_)
          obtain ⟨u15, u16⟩ := ur13
          obtain ⟨hP1, hD1⟩ := hB
          rw [ht] at hP1
          obtain ⟨hP, hD⟩ := va_join (wr := [(tp, .inr (7, [.int (nI T), .ref ta])), (ta, .inl (G 0, 320, .inl f)), (td, .inr (9, [.int (nI N), .int (nI B), .int (nI D), .ref a1, .ref a2, .ref a3, .ref a4, .ref a5, .ref a6])), (a1, .inl (G 0, 10, .inl g1)), (a2, .inl (G 0, 10, .inl g2)), (a3, .inl (G 0, 10, .inl g3)), (a4, .inl (G 0, 6, .inl g4)), (a5, .inl (G 0, 6, .inl g5)), (a6, .inl (G 0, 6, .inl g6))]) (w1 := [(h0, .inr (5, [.ref tp, .ref td, .int u15, .int u16, .int x2, .int x3, .int (nI F), .int (nI P), .int x6, .int x7, .int x8, .int x9]))]) hP hD [0] [1, 2, 3, 4, 5, 6, 7, 8, 9] rfl rfl (by decide +kernel) (by decide +kernel) hk1 hFc hP1 hD1
          generalize H1 = H at hP hS ⊢
          obtain ⟨w14, w14x⟩ := w14
          subst w14
          have ew14 : cRF 2 (x0, x1, x3, F, P) = (u15, u16, x3, F, P) := (by show (flB _ _, flP _ _ _, _, _, _) = _; rw [← w14x.1, ← w14x.2])
          have hpost : ((0 : Int32) = 0 ∨ (0 : Int32) = 1) ∧ (0 : Int32) = (cLN f T (x0, x1, x3, F, P) x6 x7 x8 x9 N B D g1 g2 g3 g4 g5 g6).1 := by
            refine ⟨Or.inl rfl, ?_⟩
            unfold cLN
            (try rw [ew14])
            (try (repeat (first | rw [if_pos (by with_reducible assumption)] | rw [if_neg (by with_reducible assumption)] | rw [if_pos (by first | exact c3 | exact c6 | exact c9 | exact c12)] | rw [if_neg (by first | exact c3 | exact c6 | exact c9 | exact c12)] | rw [if_pos (by (have t_c3 := eqI c3; have t_c6 := eqI c6; have t_c9 := eqI c9; have t_c12 := eqI c12; have : (0 : Int32).toInt = 0 := qI_0; have tnb_ := nib6 tn1499_ tn1500_ tn1498_ tn1495_ tn1496_ tn1497_; have tqz_ := qz41_; omega))] | rw [if_neg (by (have t_c3 := eqI c3; have t_c6 := eqI c6; have t_c9 := eqI c9; have t_c12 := eqI c12; have : (0 : Int32).toInt = 0 := qI_0; have tnb_ := nib6 tn1499_ tn1500_ tn1498_ tn1495_ tn1496_ tn1497_; have tqz_ := qz41_; omega))] | rw [if_pos (by decide)] | rw [if_neg (by decide)] | rw [if_pos (by skip; assumption)] | rw [if_neg (by skip; assumption)])))
            all_goals rfl
          obtain ⟨hP9, hD9⟩ := va_sub2 (ws' := [(h0, .inr (5, [.ref tp, .ref td, .int u15, .int u16, .int x2, .int x3, .int (nI F), .int (nI P), .int x6, .int x7, .int x8, .int x9])), (tp, .inr (7, [.int (nI T), .ref ta])), (ta, .inl (G 0, 320, .inl f)), (td, .inr (9, [.int (nI N), .int (nI B), .int (nI D), .ref a1, .ref a2, .ref a3, .ref a4, .ref a5, .ref a6])), (a1, .inl (G 0, 10, .inl g1)), (a2, .inl (G 0, 10, .inl g2)), (a3, .inl (G 0, 10, .inl g3)), (a4, .inl (G 0, 6, .inl g4)), (a5, .inl (G 0, 6, .inl g5)), (a6, .inl (G 0, 6, .inl g6))]) hP hD [9, 0, 1, 2, 3, 4, 5, 6, 7, 8] (by decide +kernel) rfl
          refine W.widen (k := 0) (n := 0) (Nat.le_of_ble_eq_true rfl) (Nat.le_of_ble_eq_true rfl) ?_
          exact W.zret (v := 0) hx hb hr (by first | rfl | decide | exact rfl) (fun t ht hW => ⟨⟨0, (u15, u16, x3, F, P, x6, x7, x8, x9, N, B, D, g1, g2, g3, g4, g5, g6), rfl, ⟨hpost, (by refine ⟨by (have t_c3 := eqI c3; have t_c6 := eqI c6; have t_c9 := eqI c9; have t_c12 := eqI c12; have : (0 : Int32).toInt = 0 := qI_0; have tnb_ := nib6 tn1499_ tn1500_ tn1498_ tn1495_ tn1496_ tn1497_; have tqz_ := qz41_; omega), by (have t_c3 := eqI c3; have t_c6 := eqI c6; have t_c9 := eqI c9; have t_c12 := eqI c12; have : (0 : Int32).toInt = 0 := qI_0; have tnb_ := nib6 tn1499_ tn1500_ tn1498_ tn1495_ tn1496_ tn1497_; have tqz_ := qz41_; omega), ⟨by (have t_c3 := eqI c3; have t_c6 := eqI c6; have t_c9 := eqI c9; have t_c12 := eqI c12; have : (0 : Int32).toInt = 0 := qI_0; have tnb_ := nib6 tn1499_ tn1500_ tn1498_ tn1495_ tn1496_ tn1497_; have tqz_ := qz41_; omega), by (have t_c3 := eqI c3; have t_c6 := eqI c6; have t_c9 := eqI c9; have t_c12 := eqI c12; have : (0 : Int32).toInt = 0 := qI_0; have tnb_ := nib6 tn1499_ tn1500_ tn1498_ tn1495_ tn1496_ tn1497_; have tqz_ := qz41_; omega), by (have t_c3 := eqI c3; have t_c6 := eqI c6; have t_c9 := eqI c9; have t_c12 := eqI c12; have : (0 : Int32).toInt = 0 := qI_0; have tnb_ := nib6 tn1499_ tn1500_ tn1498_ tn1495_ tn1496_ tn1497_; have tqz_ := qz41_; omega), by (have t_c3 := eqI c3; have t_c6 := eqI c6; have t_c9 := eqI c9; have t_c12 := eqI c12; have : (0 : Int32).toInt = 0 := qI_0; have tnb_ := nib6 tn1499_ tn1500_ tn1498_ tn1495_ tn1496_ tn1497_; have tqz_ := qz41_; omega)⟩, ?_⟩; unfold cLN; (try rw [ew14]); (try (repeat (first | rw [if_pos (by with_reducible assumption)] | rw [if_neg (by with_reducible assumption)] | rw [if_pos (by first | exact c3 | exact c6 | exact c9 | exact c12)] | rw [if_neg (by first | exact c3 | exact c6 | exact c9 | exact c12)] | rw [if_pos (by (have t_c3 := eqI c3; have t_c6 := eqI c6; have t_c9 := eqI c9; have t_c12 := eqI c12; have : (0 : Int32).toInt = 0 := qI_0; have tnb_ := nib6 tn1499_ tn1500_ tn1498_ tn1495_ tn1496_ tn1497_; have tqz_ := qz41_; omega))] | rw [if_neg (by (have t_c3 := eqI c3; have t_c6 := eqI c6; have t_c9 := eqI c9; have t_c12 := eqI c12; have : (0 : Int32).toInt = 0 := qI_0; have tnb_ := nib6 tn1499_ tn1500_ tn1498_ tn1495_ tn1496_ tn1497_; have tqz_ := qz41_; omega))] | rw [if_pos (by decide)] | rw [if_neg (by decide)] | rw [if_pos (by skip; assumption)] | rw [if_neg (by skip; assumption)]))); all_goals rfl)⟩, ⟨by rw [ht]; exact hP9, hD9⟩⟩, hS.F ht⟩) hS.2.2 dX5_readLine_65
        · skip
          refine lv_aload_n hx hb dX5_readLine_51 rfl (lv_at hl 0 rfl) ?_
          obtain ⟨hPc, hDc, hFc⟩ := va_sub3 (ws' := [(h0, .inr (5, [.ref tp, .ref td, .int x0, .int x1, .int x2, .int x3, .int (nI F), .int (nI P), .int x6, .int x7, .int x8, .int x9])), (tp, .inr (7, [.int (nI T), .ref ta])), (ta, .inl (G 0, 320, .inl f)), (td, .inr (9, [.int (nI N), .int (nI B), .int (nI D), .ref a1, .ref a2, .ref a3, .ref a4, .ref a5, .ref a6])), (a3, .inl (G 0, 10, .inl g3))]) hP hD hS hA [0, 1, 2, 3, 6] (by decide +kernel) rfl
          refine va_calli (va_runV (As := []) (rest := []) ⟨hx, hb, hml, hown, hg⟩ (c_X5_readCarryE l dC dI G _ h0 tp td ta T F P a1 a2 a3 a4 a5 a6 N B D x0 x1 x2 x3 x6 x7 x8 x9 f g3 hF hP0 hT_ hN_N hB_B hD_D) (kwV hg mfX5_readCarry wt_496 ⟨Nat.le_of_ble_eq_true rfl, Nat.le_of_ble_eq_true rfl⟩) (preVW hK hPc hDc (ci := 5) (r := (RX5, TX5, 12)) rfl rfl) rfl rfl hl.1 rfl (lv_room (Nat.le_of_ble_eq_true rfl)) dX5_readLine_52 ⟨Nat.le_of_ble_eq_true rfl, Nat.le_of_ble_eq_true rfl⟩) hS (fun q _ h => hFc q h) hFc (fun r17 ur17 t H1 locs ht hvm w18 hB hz1 hk1 hS => ?_)
          obtain ⟨u19, u20, u21, u22, u23, u24, u25, u26, u27⟩ := ur17
          obtain ⟨hP1, hD1⟩ := hB
          rw [ht] at hP1
          obtain ⟨hP, hD⟩ := va_join (wr := [(a1, .inl (G 0, 10, .inl g1)), (a2, .inl (G 0, 10, .inl g2)), (a4, .inl (G 0, 6, .inl g4)), (a5, .inl (G 0, 6, .inl g5)), (a6, .inl (G 0, 6, .inl g6))]) (w1 := [(h0, .inr (5, [.ref tp, .ref td, .int u19, .int u20, .int x2, .int u21, .int (nI u22), .int (nI u23), .int x6, .int u24, .int u25, .int u26])), (tp, .inr (7, [.int (nI T), .ref ta])), (ta, .inl (G 0, 320, .inl f)), (td, .inr (9, [.int (nI N), .int (nI B), .int (nI D), .ref a1, .ref a2, .ref a3, .ref a4, .ref a5, .ref a6])), (a3, .inl (G 0, 10, .inl u27))]) hP hD [0, 1, 2, 3, 6] [4, 5, 7, 8, 9] rfl rfl (by decide +kernel) (by decide +kernel) hk1 hFc hP1 hD1
          generalize H1 = H at hP hS ⊢
          obtain ⟨w18, w18x⟩ := w18
          have vw18 : (cCR f T (x0, x1, x3, F, P) x7 x8 x9 g3).1 = r17 := w18.2.symm
          have ew18 : (cCR f T (x0, x1, x3, F, P) x7 x8 x9 g3).2 = ((u19, u20, u21, u22, u23), u24, u25, u26, u27) := w18x.2.2.symm
          have hpost : ((r17 : Int32) = 0 ∨ (r17 : Int32) = 1) ∧ (r17 : Int32) = (cLN f T (x0, x1, x3, F, P) x6 x7 x8 x9 N B D g1 g2 g3 g4 g5 g6).1 := by
            refine ⟨w18.1, ?_⟩
            unfold cLN
            (try rw [vw18])
            (try rw [ew18])
            (try (repeat (first | rw [if_pos (by with_reducible assumption)] | rw [if_neg (by with_reducible assumption)] | rw [if_pos (by first | exact c3 | exact c6 | exact c9 | exact c12)] | rw [if_neg (by first | exact c3 | exact c6 | exact c9 | exact c12)] | rw [if_pos (by (have t_c3 := eqI c3; have t_c6 := eqI c6; have t_c9 := eqI c9; have t_c12 := neI c12; have : (0 : Int32).toInt = 0 := qI_0; have tnb_ := nib6 tn1499_ tn1500_ tn1498_ tn1495_ tn1496_ tn1497_; have tqz_ := qz41_; omega))] | rw [if_neg (by (have t_c3 := eqI c3; have t_c6 := eqI c6; have t_c9 := eqI c9; have t_c12 := neI c12; have : (0 : Int32).toInt = 0 := qI_0; have tnb_ := nib6 tn1499_ tn1500_ tn1498_ tn1495_ tn1496_ tn1497_; have tqz_ := qz41_; omega))] | rw [if_pos (by decide)] | rw [if_neg (by decide)] | rw [if_pos (by skip; assumption)] | rw [if_neg (by skip; assumption)])))
            all_goals rfl
          obtain ⟨hP9, hD9⟩ := va_sub2 (ws' := [(h0, .inr (5, [.ref tp, .ref td, .int u19, .int u20, .int x2, .int u21, .int (nI u22), .int (nI u23), .int x6, .int u24, .int u25, .int u26])), (tp, .inr (7, [.int (nI T), .ref ta])), (ta, .inl (G 0, 320, .inl f)), (td, .inr (9, [.int (nI N), .int (nI B), .int (nI D), .ref a1, .ref a2, .ref a3, .ref a4, .ref a5, .ref a6])), (a1, .inl (G 0, 10, .inl g1)), (a2, .inl (G 0, 10, .inl g2)), (a3, .inl (G 0, 10, .inl u27)), (a4, .inl (G 0, 6, .inl g4)), (a5, .inl (G 0, 6, .inl g5)), (a6, .inl (G 0, 6, .inl g6))]) hP hD [5, 6, 7, 8, 0, 1, 9, 2, 3, 4] (by decide +kernel) rfl
          refine W.widen (k := 0) (n := 0) (Nat.le_of_ble_eq_true rfl) (Nat.le_of_ble_eq_true rfl) ?_
          exact W.zret (v := r17) hx hb hr (by first | rfl | decide | exact zn01 w18.1) (fun t ht hW => ⟨⟨r17, (u19, u20, u21, u22, u23, x6, u24, u25, u26, N, B, D, g1, g2, u27, g4, g5, g6), rfl, ⟨hpost, (by refine ⟨by (have t_c3 := eqI c3; have t_c6 := eqI c6; have t_c9 := eqI c9; have t_c12 := neI c12; have : (0 : Int32).toInt = 0 := qI_0; have tnb_ := nib6 tn1499_ tn1500_ tn1498_ tn1495_ tn1496_ tn1497_; have tqz_ := qz41_; omega), by (have t_c3 := eqI c3; have t_c6 := eqI c6; have t_c9 := eqI c9; have t_c12 := neI c12; have : (0 : Int32).toInt = 0 := qI_0; have tnb_ := nib6 tn1499_ tn1500_ tn1498_ tn1495_ tn1496_ tn1497_; have tqz_ := qz41_; omega), ⟨by (have t_c3 := eqI c3; have t_c6 := eqI c6; have t_c9 := eqI c9; have t_c12 := neI c12; have : (0 : Int32).toInt = 0 := qI_0; have tnb_ := nib6 tn1499_ tn1500_ tn1498_ tn1495_ tn1496_ tn1497_; have tqz_ := qz41_; omega), by (have t_c3 := eqI c3; have t_c6 := eqI c6; have t_c9 := eqI c9; have t_c12 := neI c12; have : (0 : Int32).toInt = 0 := qI_0; have tnb_ := nib6 tn1499_ tn1500_ tn1498_ tn1495_ tn1496_ tn1497_; have tqz_ := qz41_; omega), by (have t_c3 := eqI c3; have t_c6 := eqI c6; have t_c9 := eqI c9; have t_c12 := neI c12; have : (0 : Int32).toInt = 0 := qI_0; have tnb_ := nib6 tn1499_ tn1500_ tn1498_ tn1495_ tn1496_ tn1497_; have tqz_ := qz41_; omega), by (have t_c3 := eqI c3; have t_c6 := eqI c6; have t_c9 := eqI c9; have t_c12 := neI c12; have : (0 : Int32).toInt = 0 := qI_0; have tnb_ := nib6 tn1499_ tn1500_ tn1498_ tn1495_ tn1496_ tn1497_; have tqz_ := qz41_; omega)⟩, ?_⟩; unfold cLN; (try rw [vw18]); (try rw [ew18]); (try (repeat (first | rw [if_pos (by with_reducible assumption)] | rw [if_neg (by with_reducible assumption)] | rw [if_pos (by first | exact c3 | exact c6 | exact c9 | exact c12)] | rw [if_neg (by first | exact c3 | exact c6 | exact c9 | exact c12)] | rw [if_pos (by (have t_c3 := eqI c3; have t_c6 := eqI c6; have t_c9 := eqI c9; have t_c12 := neI c12; have : (0 : Int32).toInt = 0 := qI_0; have tnb_ := nib6 tn1499_ tn1500_ tn1498_ tn1495_ tn1496_ tn1497_; have tqz_ := qz41_; omega))] | rw [if_neg (by (have t_c3 := eqI c3; have t_c6 := eqI c6; have t_c9 := eqI c9; have t_c12 := neI c12; have : (0 : Int32).toInt = 0 := qI_0; have tnb_ := nib6 tn1499_ tn1500_ tn1498_ tn1495_ tn1496_ tn1497_; have tqz_ := qz41_; omega))] | rw [if_pos (by decide)] | rw [if_neg (by decide)] | rw [if_pos (by skip; assumption)] | rw [if_neg (by skip; assumption)]))); all_goals rfl)⟩, ⟨by rw [ht]; exact hP9, hD9⟩⟩, hS.F ht⟩) hS.2.2 dX5_readLine_55
      · skip
        refine lv_aload_n hx hb dX5_readLine_37 rfl (lv_at hl 0 rfl) ?_
        obtain ⟨hPc, hDc, hFc⟩ := va_sub3 (ws' := [(h0, .inr (5, [.ref tp, .ref td, .int x0, .int x1, .int x2, .int x3, .int (nI F), .int (nI P), .int x6, .int x7, .int x8, .int x9])), (tp, .inr (7, [.int (nI T), .ref ta])), (ta, .inl (G 0, 320, .inl f)), (td, .inr (9, [.int (nI N), .int (nI B), .int (nI D), .ref a1, .ref a2, .ref a3, .ref a4, .ref a5, .ref a6])), (a4, .inl (G 0, 6, .inl g4)), (a5, .inl (G 0, 6, .inl g5)), (a6, .inl (G 0, 6, .inl g6))]) hP hD hS hA [0, 1, 2, 3, 7, 8, 9] (by decide +kernel) rfl
        refine va_calli (va_runV (As := []) (rest := []) ⟨hx, hb, hml, hown, hg⟩ (c_X5_readBearerE l dC dI G _ h0 tp td ta T F P a1 a2 a3 a4 a5 a6 N B D x0 x1 x2 x3 x6 x7 x8 x9 f g4 g5 g6 adK adV hF hP0 hT_ hN_N hB_B hD_D) (kwV hg mfX5_readBearer wt_477 ⟨Nat.le_of_ble_eq_true rfl, Nat.le_of_ble_eq_true rfl⟩) (preVWS hK hPc hDc hSS hS hFc (ci := 5) (r := (RX5, TX5, 12)) rfl rfl) rfl rfl hl.1 rfl (lv_room (Nat.le_of_ble_eq_true rfl)) dX5_readLine_38 ⟨Nat.le_of_ble_eq_true rfl, Nat.le_of_ble_eq_true rfl⟩) hS (fun q _ h => hFc q h) hFc (fun r28 ur28 t H1 locs ht hvm w29 hB hz1 hk1 hS => ?_)
        obtain ⟨u30, u31, u32, u33, u34, u35, u36, u37, u38⟩ := ur28
        obtain ⟨hP1, hD1⟩ := hB
        rw [ht] at hP1
        obtain ⟨hP, hD⟩ := va_join (wr := [(a1, .inl (G 0, 10, .inl g1)), (a2, .inl (G 0, 10, .inl g2)), (a3, .inl (G 0, 10, .inl g3))]) (w1 := [(h0, .inr (5, [.ref tp, .ref td, .int u30, .int u31, .int x2, .int u32, .int (nI u33), .int (nI u34), .int x6, .int x7, .int x8, .int x9])), (tp, .inr (7, [.int (nI T), .ref ta])), (ta, .inl (G 0, 320, .inl f)), (td, .inr (9, [.int (nI N), .int (nI u35), .int (nI D), .ref a1, .ref a2, .ref a3, .ref a4, .ref a5, .ref a6])), (a4, .inl (G 0, 6, .inl u36)), (a5, .inl (G 0, 6, .inl u37)), (a6, .inl (G 0, 6, .inl u38))]) hP hD [0, 1, 2, 3, 7, 8, 9] [4, 5, 6] rfl rfl (by decide +kernel) (by decide +kernel) hk1 hFc hP1 hD1
        generalize H1 = H at hP hS ⊢
        obtain ⟨w29, w29x⟩ := w29
        have vw29 : (cBR f T (x0, x1, x3, F, P) B g4 g5 g6).1 = r28 := w29.2.symm
        have ew29 : (cBR f T (x0, x1, x3, F, P) B g4 g5 g6).2 = ((u30, u31, u32, u33, u34), u35, u36, u37, u38) := w29x.2.2.2.symm
        have hpost : ((r28 : Int32) = 0 ∨ (r28 : Int32) = 1) ∧ (r28 : Int32) = (cLN f T (x0, x1, x3, F, P) x6 x7 x8 x9 N B D g1 g2 g3 g4 g5 g6).1 := by
          refine ⟨w29.1, ?_⟩
          unfold cLN
          (try rw [vw29])
          (try rw [ew29])
          (try (repeat (first | rw [if_pos (by with_reducible assumption)] | rw [if_neg (by with_reducible assumption)] | rw [if_pos (by first | exact c3 | exact c6 | exact c9)] | rw [if_neg (by first | exact c3 | exact c6 | exact c9)] | rw [if_pos (by (have t_c3 := eqI c3; have t_c6 := eqI c6; have t_c9 := neI c9; have : (0 : Int32).toInt = 0 := qI_0; have tnb_ := nib6 tn1499_ tn1500_ tn1498_ tn1495_ tn1496_ tn1497_; have tqz_ := qz41_; omega))] | rw [if_neg (by (have t_c3 := eqI c3; have t_c6 := eqI c6; have t_c9 := neI c9; have : (0 : Int32).toInt = 0 := qI_0; have tnb_ := nib6 tn1499_ tn1500_ tn1498_ tn1495_ tn1496_ tn1497_; have tqz_ := qz41_; omega))] | rw [if_pos (by decide)] | rw [if_neg (by decide)] | rw [if_pos (by skip; assumption)] | rw [if_neg (by skip; assumption)])))
          all_goals rfl
        obtain ⟨hP9, hD9⟩ := va_sub2 (ws' := [(h0, .inr (5, [.ref tp, .ref td, .int u30, .int u31, .int x2, .int u32, .int (nI u33), .int (nI u34), .int x6, .int x7, .int x8, .int x9])), (tp, .inr (7, [.int (nI T), .ref ta])), (ta, .inl (G 0, 320, .inl f)), (td, .inr (9, [.int (nI N), .int (nI u35), .int (nI D), .ref a1, .ref a2, .ref a3, .ref a4, .ref a5, .ref a6])), (a1, .inl (G 0, 10, .inl g1)), (a2, .inl (G 0, 10, .inl g2)), (a3, .inl (G 0, 10, .inl g3)), (a4, .inl (G 0, 6, .inl u36)), (a5, .inl (G 0, 6, .inl u37)), (a6, .inl (G 0, 6, .inl u38))]) hP hD [3, 4, 5, 6, 0, 1, 2, 7, 8, 9] (by decide +kernel) rfl
        refine W.widen (k := 0) (n := 0) (Nat.le_of_ble_eq_true rfl) (Nat.le_of_ble_eq_true rfl) ?_
        exact W.zret (v := r28) hx hb hr (by first | rfl | decide | exact zn01 w29.1) (fun t ht hW => ⟨⟨r28, (u30, u31, u32, u33, u34, x6, x7, x8, x9, N, u35, D, g1, g2, g3, u36, u37, u38), rfl, ⟨hpost, (by refine ⟨by (have t_c3 := eqI c3; have t_c6 := eqI c6; have t_c9 := neI c9; have : (0 : Int32).toInt = 0 := qI_0; have tnb_ := nib6 tn1499_ tn1500_ tn1498_ tn1495_ tn1496_ tn1497_; have tqz_ := qz41_; omega), by (have t_c3 := eqI c3; have t_c6 := eqI c6; have t_c9 := neI c9; have : (0 : Int32).toInt = 0 := qI_0; have tnb_ := nib6 tn1499_ tn1500_ tn1498_ tn1495_ tn1496_ tn1497_; have tqz_ := qz41_; omega), ⟨by (have t_c3 := eqI c3; have t_c6 := eqI c6; have t_c9 := neI c9; have : (0 : Int32).toInt = 0 := qI_0; have tnb_ := nib6 tn1499_ tn1500_ tn1498_ tn1495_ tn1496_ tn1497_; have tqz_ := qz41_; omega), by (have t_c3 := eqI c3; have t_c6 := eqI c6; have t_c9 := neI c9; have : (0 : Int32).toInt = 0 := qI_0; have tnb_ := nib6 tn1499_ tn1500_ tn1498_ tn1495_ tn1496_ tn1497_; have tqz_ := qz41_; omega), by (have t_c3 := eqI c3; have t_c6 := eqI c6; have t_c9 := neI c9; have : (0 : Int32).toInt = 0 := qI_0; have tnb_ := nib6 tn1499_ tn1500_ tn1498_ tn1495_ tn1496_ tn1497_; have tqz_ := qz41_; omega), by (have t_c3 := eqI c3; have t_c6 := eqI c6; have t_c9 := neI c9; have : (0 : Int32).toInt = 0 := qI_0; have tnb_ := nib6 tn1499_ tn1500_ tn1498_ tn1495_ tn1496_ tn1497_; have tqz_ := qz41_; omega)⟩, ?_⟩; unfold cLN; (try rw [vw29]); (try rw [ew29]); (try (repeat (first | rw [if_pos (by with_reducible assumption)] | rw [if_neg (by with_reducible assumption)] | rw [if_pos (by first | exact c3 | exact c6 | exact c9)] | rw [if_neg (by first | exact c3 | exact c6 | exact c9)] | rw [if_pos (by (have t_c3 := eqI c3; have t_c6 := eqI c6; have t_c9 := neI c9; have : (0 : Int32).toInt = 0 := qI_0; have tnb_ := nib6 tn1499_ tn1500_ tn1498_ tn1495_ tn1496_ tn1497_; have tqz_ := qz41_; omega))] | rw [if_neg (by (have t_c3 := eqI c3; have t_c6 := eqI c6; have t_c9 := neI c9; have : (0 : Int32).toInt = 0 := qI_0; have tnb_ := nib6 tn1499_ tn1500_ tn1498_ tn1495_ tn1496_ tn1497_; have tqz_ := qz41_; omega))] | rw [if_pos (by decide)] | rw [if_neg (by decide)] | rw [if_pos (by skip; assumption)] | rw [if_neg (by skip; assumption)]))); all_goals rfl)⟩, ⟨by rw [ht]; exact hP9, hD9⟩⟩, hS.F ht⟩) hS.2.2 dX5_readLine_41
    · skip
      refine lv_aload_n hx hb dX5_readLine_23 rfl (lv_at hl 0 rfl) ?_
      obtain ⟨hPc, hDc, hFc⟩ := va_sub3 (ws' := [(h0, .inr (5, [.ref tp, .ref td, .int x0, .int x1, .int x2, .int x3, .int (nI F), .int (nI P), .int x6, .int x7, .int x8, .int x9])), (tp, .inr (7, [.int (nI T), .ref ta])), (ta, .inl (G 0, 320, .inl f)), (td, .inr (9, [.int (nI N), .int (nI B), .int (nI D), .ref a1, .ref a2, .ref a3, .ref a4, .ref a5, .ref a6])), (a1, .inl (G 0, 10, .inl g1)), (a2, .inl (G 0, 10, .inl g2))]) hP hD hS hA [0, 1, 2, 3, 4, 5] (by decide +kernel) rfl
      refine va_calli (va_runV (As := []) (rest := []) ⟨hx, hb, hml, hown, hg⟩ (c_X5_readStretchE l dC dI G _ h0 tp td ta T F P a1 a2 a3 a4 a5 a6 N B D x0 x1 x2 x3 x6 x7 x8 x9 f g1 g2 hF hP0 hT_ hN_N hB_B hD_D) (kwV hg mfX5_readStretch wt_468 ⟨Nat.le_of_ble_eq_true rfl, Nat.le_of_ble_eq_true rfl⟩) (preVW hK hPc hDc (ci := 5) (r := (RX5, TX5, 12)) rfl rfl) rfl rfl hl.1 rfl (lv_room (Nat.le_of_ble_eq_true rfl)) dX5_readLine_24 ⟨Nat.le_of_ble_eq_true rfl, Nat.le_of_ble_eq_true rfl⟩) hS (fun q _ h => hFc q h) hFc (fun r39 ur39 t H1 locs ht hvm w40 hB hz1 hk1 hS => ?_)
      obtain ⟨u41, u42, u43, u44, u45, u46, u47, u48⟩ := ur39
      obtain ⟨hP1, hD1⟩ := hB
      rw [ht] at hP1
      obtain ⟨hP, hD⟩ := va_join (wr := [(a3, .inl (G 0, 10, .inl g3)), (a4, .inl (G 0, 6, .inl g4)), (a5, .inl (G 0, 6, .inl g5)), (a6, .inl (G 0, 6, .inl g6))]) (w1 := [(h0, .inr (5, [.ref tp, .ref td, .int u41, .int u42, .int x2, .int u43, .int (nI u44), .int (nI u45), .int x6, .int x7, .int x8, .int x9])), (tp, .inr (7, [.int (nI T), .ref ta])), (ta, .inl (G 0, 320, .inl f)), (td, .inr (9, [.int (nI u46), .int (nI B), .int (nI D), .ref a1, .ref a2, .ref a3, .ref a4, .ref a5, .ref a6])), (a1, .inl (G 0, 10, .inl u47)), (a2, .inl (G 0, 10, .inl u48))]) hP hD [0, 1, 2, 3, 4, 5] [6, 7, 8, 9] rfl rfl (by decide +kernel) (by decide +kernel) hk1 hFc hP1 hD1
      generalize H1 = H at hP hS ⊢
      obtain ⟨w40, w40x⟩ := w40
      have vw40 : (cSR f T (x0, x1, x3, F, P) N g1 g2).1 = r39 := w40.2.symm
      have ew40 : (cSR f T (x0, x1, x3, F, P) N g1 g2).2 = ((u41, u42, u43, u44, u45), u46, u47, u48) := w40x.2.2.2.symm
      have hpost : ((r39 : Int32) = 0 ∨ (r39 : Int32) = 1) ∧ (r39 : Int32) = (cLN f T (x0, x1, x3, F, P) x6 x7 x8 x9 N B D g1 g2 g3 g4 g5 g6).1 := by
        refine ⟨w40.1, ?_⟩
        unfold cLN
        (try rw [vw40])
        (try rw [ew40])
        (try (repeat (first | rw [if_pos (by with_reducible assumption)] | rw [if_neg (by with_reducible assumption)] | rw [if_pos (by first | exact c3 | exact c6)] | rw [if_neg (by first | exact c3 | exact c6)] | rw [if_pos (by (have t_c3 := eqI c3; have t_c6 := neI c6; have : (0 : Int32).toInt = 0 := qI_0; have tnb_ := nib6 tn1499_ tn1500_ tn1498_ tn1495_ tn1496_ tn1497_; have tqz_ := qz41_; omega))] | rw [if_neg (by (have t_c3 := eqI c3; have t_c6 := neI c6; have : (0 : Int32).toInt = 0 := qI_0; have tnb_ := nib6 tn1499_ tn1500_ tn1498_ tn1495_ tn1496_ tn1497_; have tqz_ := qz41_; omega))] | rw [if_pos (by decide)] | rw [if_neg (by decide)] | rw [if_pos (by skip; assumption)] | rw [if_neg (by skip; assumption)])))
        all_goals rfl
      obtain ⟨hP9, hD9⟩ := va_sub2 (ws' := [(h0, .inr (5, [.ref tp, .ref td, .int u41, .int u42, .int x2, .int u43, .int (nI u44), .int (nI u45), .int x6, .int x7, .int x8, .int x9])), (tp, .inr (7, [.int (nI T), .ref ta])), (ta, .inl (G 0, 320, .inl f)), (td, .inr (9, [.int (nI u46), .int (nI B), .int (nI D), .ref a1, .ref a2, .ref a3, .ref a4, .ref a5, .ref a6])), (a1, .inl (G 0, 10, .inl u47)), (a2, .inl (G 0, 10, .inl u48)), (a3, .inl (G 0, 10, .inl g3)), (a4, .inl (G 0, 6, .inl g4)), (a5, .inl (G 0, 6, .inl g5)), (a6, .inl (G 0, 6, .inl g6))]) hP hD [4, 5, 6, 7, 8, 9, 0, 1, 2, 3] (by decide +kernel) rfl
      refine W.widen (k := 0) (n := 0) (Nat.le_of_ble_eq_true rfl) (Nat.le_of_ble_eq_true rfl) ?_
      exact W.zret (v := r39) hx hb hr (by first | rfl | decide | exact zn01 w40.1) (fun t ht hW => ⟨⟨r39, (u41, u42, u43, u44, u45, x6, x7, x8, x9, u46, B, D, u47, u48, g3, g4, g5, g6), rfl, ⟨hpost, (by refine ⟨by (have t_c3 := eqI c3; have t_c6 := neI c6; have : (0 : Int32).toInt = 0 := qI_0; have tnb_ := nib6 tn1499_ tn1500_ tn1498_ tn1495_ tn1496_ tn1497_; have tqz_ := qz41_; omega), by (have t_c3 := eqI c3; have t_c6 := neI c6; have : (0 : Int32).toInt = 0 := qI_0; have tnb_ := nib6 tn1499_ tn1500_ tn1498_ tn1495_ tn1496_ tn1497_; have tqz_ := qz41_; omega), ⟨by (have t_c3 := eqI c3; have t_c6 := neI c6; have : (0 : Int32).toInt = 0 := qI_0; have tnb_ := nib6 tn1499_ tn1500_ tn1498_ tn1495_ tn1496_ tn1497_; have tqz_ := qz41_; omega), by (have t_c3 := eqI c3; have t_c6 := neI c6; have : (0 : Int32).toInt = 0 := qI_0; have tnb_ := nib6 tn1499_ tn1500_ tn1498_ tn1495_ tn1496_ tn1497_; have tqz_ := qz41_; omega), by (have t_c3 := eqI c3; have t_c6 := neI c6; have : (0 : Int32).toInt = 0 := qI_0; have tnb_ := nib6 tn1499_ tn1500_ tn1498_ tn1495_ tn1496_ tn1497_; have tqz_ := qz41_; omega), by (have t_c3 := eqI c3; have t_c6 := neI c6; have : (0 : Int32).toInt = 0 := qI_0; have tnb_ := nib6 tn1499_ tn1500_ tn1498_ tn1495_ tn1496_ tn1497_; have tqz_ := qz41_; omega)⟩, ?_⟩; unfold cLN; (try rw [vw40]); (try rw [ew40]); (try (repeat (first | rw [if_pos (by with_reducible assumption)] | rw [if_neg (by with_reducible assumption)] | rw [if_pos (by first | exact c3 | exact c6)] | rw [if_neg (by first | exact c3 | exact c6)] | rw [if_pos (by (have t_c3 := eqI c3; have t_c6 := neI c6; have : (0 : Int32).toInt = 0 := qI_0; have tnb_ := nib6 tn1499_ tn1500_ tn1498_ tn1495_ tn1496_ tn1497_; have tqz_ := qz41_; omega))] | rw [if_neg (by (have t_c3 := eqI c3; have t_c6 := neI c6; have : (0 : Int32).toInt = 0 := qI_0; have tnb_ := nib6 tn1499_ tn1500_ tn1498_ tn1495_ tn1496_ tn1497_; have tqz_ := qz41_; omega))] | rw [if_pos (by decide)] | rw [if_neg (by decide)] | rw [if_pos (by skip; assumption)] | rw [if_neg (by skip; assumption)]))); all_goals rfl)⟩, ⟨by rw [ht]; exact hP9, hD9⟩⟩, hS.F ht⟩) hS.2.2 dX5_readLine_27
  · skip
    refine lv_aload_n hx hb dX5_readLine_9 rfl (lv_at hl 0 rfl) ?_
    obtain ⟨hPc, hDc, hFc⟩ := va_sub3 (ws' := [(h0, .inr (5, [.ref tp, .ref td, .int x0, .int x1, .int x2, .int x3, .int (nI F), .int (nI P), .int x6, .int x7, .int x8, .int x9])), (tp, .inr (7, [.int (nI T), .ref ta])), (ta, .inl (G 0, 320, .inl f)), (td, .inr (9, [.int (nI N), .int (nI B), .int (nI D), .ref a1, .ref a2, .ref a3, .ref a4, .ref a5, .ref a6]))]) hP hD hS hA [0, 1, 2, 3] (by decide +kernel) rfl
    refine va_calli (va_runV (As := []) (rest := []) ⟨hx, hb, hml, hown, hg⟩ (c_X5_readStartE l dC dI G _ h0 tp td ta T F P a1 a2 a3 a4 a5 a6 N B D x0 x1 x2 x3 x6 x7 x8 x9 f hF hP0 hT_ hN_N hB_B hD_D) (kwV hg mfX5_readStart wt_451 ⟨Nat.le_of_ble_eq_true rfl, Nat.le_of_ble_eq_true rfl⟩) (preVW hK hPc hDc (ci := 5) (r := (RX5, TX5, 12)) rfl rfl) rfl rfl hl.1 rfl (lv_room (Nat.le_of_ble_eq_true rfl)) dX5_readLine_10 ⟨Nat.le_of_ble_eq_true rfl, Nat.le_of_ble_eq_true rfl⟩) hS (fun q _ h => hFc q h) hFc (fun r49 ur49 t H1 locs ht hvm w50 hB hz1 hk1 hS => ?_)
    obtain ⟨u51, u52, u53, u54, u55, u56, u57⟩ := ur49
    obtain ⟨hP1, hD1⟩ := hB
    rw [ht] at hP1
    obtain ⟨hP, hD⟩ := va_join (wr := [(a1, .inl (G 0, 10, .inl g1)), (a2, .inl (G 0, 10, .inl g2)), (a3, .inl (G 0, 10, .inl g3)), (a4, .inl (G 0, 6, .inl g4)), (a5, .inl (G 0, 6, .inl g5)), (a6, .inl (G 0, 6, .inl g6))]) (w1 := [(h0, .inr (5, [.ref tp, .ref td, .int u51, .int u52, .int x2, .int u53, .int (nI u54), .int (nI u55), .int u56, .int x7, .int x8, .int x9])), (tp, .inr (7, [.int (nI T), .ref ta])), (ta, .inl (G 0, 320, .inl f)), (td, .inr (9, [.int (nI N), .int (nI B), .int (nI u57), .ref a1, .ref a2, .ref a3, .ref a4, .ref a5, .ref a6]))]) hP hD [0, 1, 2, 3] [4, 5, 6, 7, 8, 9] rfl rfl (by decide +kernel) (by decide +kernel) hk1 hFc hP1 hD1
    generalize H1 = H at hP hS ⊢
    obtain ⟨w50, w50x⟩ := w50
    have vw50 : (cST f T (x0, x1, x3, F, P) x6 D).1 = r49 := w50.2.symm
    have ew50 : (cST f T (x0, x1, x3, F, P) x6 D).2 = ((u51, u52, u53, u54, u55), u56, u57) := w50x.2.2.2.symm
    have hpost : ((r49 : Int32) = 0 ∨ (r49 : Int32) = 1) ∧ (r49 : Int32) = (cLN f T (x0, x1, x3, F, P) x6 x7 x8 x9 N B D g1 g2 g3 g4 g5 g6).1 := by
      refine ⟨w50.1, ?_⟩
      unfold cLN
      (try rw [vw50])
      (try rw [ew50])
      (try (repeat (first | rw [if_pos (by with_reducible assumption)] | rw [if_neg (by with_reducible assumption)] | rw [if_pos (by first | exact c3)] | rw [if_neg (by first | exact c3)] | rw [if_pos (by (have t_c3 := neI c3; have : (0 : Int32).toInt = 0 := qI_0; have tnb_ := nib6 tn1499_ tn1500_ tn1498_ tn1495_ tn1496_ tn1497_; have tqz_ := qz41_; omega))] | rw [if_neg (by (have t_c3 := neI c3; have : (0 : Int32).toInt = 0 := qI_0; have tnb_ := nib6 tn1499_ tn1500_ tn1498_ tn1495_ tn1496_ tn1497_; have tqz_ := qz41_; omega))] | rw [if_pos (by decide)] | rw [if_neg (by decide)] | rw [if_pos (by skip; assumption)] | rw [if_neg (by skip; assumption)])))
      all_goals rfl
    obtain ⟨hP9, hD9⟩ := va_sub2 (ws' := [(h0, .inr (5, [.ref tp, .ref td, .int u51, .int u52, .int x2, .int u53, .int (nI u54), .int (nI u55), .int u56, .int x7, .int x8, .int x9])), (tp, .inr (7, [.int (nI T), .ref ta])), (ta, .inl (G 0, 320, .inl f)), (td, .inr (9, [.int (nI N), .int (nI B), .int (nI u57), .ref a1, .ref a2, .ref a3, .ref a4, .ref a5, .ref a6])), (a1, .inl (G 0, 10, .inl g1)), (a2, .inl (G 0, 10, .inl g2)), (a3, .inl (G 0, 10, .inl g3)), (a4, .inl (G 0, 6, .inl g4)), (a5, .inl (G 0, 6, .inl g5)), (a6, .inl (G 0, 6, .inl g6))]) hP hD [6, 7, 8, 9, 0, 1, 2, 3, 4, 5] (by decide +kernel) rfl
    refine W.widen (k := 0) (n := 0) (Nat.le_of_ble_eq_true rfl) (Nat.le_of_ble_eq_true rfl) ?_
    exact W.zret (v := r49) hx hb hr (by first | rfl | decide | exact zn01 w50.1) (fun t ht hW => ⟨⟨r49, (u51, u52, u53, u54, u55, u56, x7, x8, x9, N, B, u57, g1, g2, g3, g4, g5, g6), rfl, ⟨hpost, (by refine ⟨by (have t_c3 := neI c3; have : (0 : Int32).toInt = 0 := qI_0; have tnb_ := nib6 tn1499_ tn1500_ tn1498_ tn1495_ tn1496_ tn1497_; have tqz_ := qz41_; omega), by (have t_c3 := neI c3; have : (0 : Int32).toInt = 0 := qI_0; have tnb_ := nib6 tn1499_ tn1500_ tn1498_ tn1495_ tn1496_ tn1497_; have tqz_ := qz41_; omega), ⟨by (have t_c3 := neI c3; have : (0 : Int32).toInt = 0 := qI_0; have tnb_ := nib6 tn1499_ tn1500_ tn1498_ tn1495_ tn1496_ tn1497_; have tqz_ := qz41_; omega), by (have t_c3 := neI c3; have : (0 : Int32).toInt = 0 := qI_0; have tnb_ := nib6 tn1499_ tn1500_ tn1498_ tn1495_ tn1496_ tn1497_; have tqz_ := qz41_; omega), by (have t_c3 := neI c3; have : (0 : Int32).toInt = 0 := qI_0; have tnb_ := nib6 tn1499_ tn1500_ tn1498_ tn1495_ tn1496_ tn1497_; have tqz_ := qz41_; omega), by (have t_c3 := neI c3; have : (0 : Int32).toInt = 0 := qI_0; have tnb_ := nib6 tn1499_ tn1500_ tn1498_ tn1495_ tn1496_ tn1497_; have tqz_ := qz41_; omega)⟩, ?_⟩; unfold cLN; (try rw [vw50]); (try rw [ew50]); (try (repeat (first | rw [if_pos (by with_reducible assumption)] | rw [if_neg (by with_reducible assumption)] | rw [if_pos (by first | exact c3)] | rw [if_neg (by first | exact c3)] | rw [if_pos (by (have t_c3 := neI c3; have : (0 : Int32).toInt = 0 := qI_0; have tnb_ := nib6 tn1499_ tn1500_ tn1498_ tn1495_ tn1496_ tn1497_; have tqz_ := qz41_; omega))] | rw [if_neg (by (have t_c3 := neI c3; have : (0 : Int32).toInt = 0 := qI_0; have tnb_ := nib6 tn1499_ tn1500_ tn1498_ tn1495_ tn1496_ tn1497_; have tqz_ := qz41_; omega))] | rw [if_pos (by decide)] | rw [if_neg (by decide)] | rw [if_pos (by skip; assumption)] | rw [if_neg (by skip; assumption)]))); all_goals rfl)⟩, ⟨by rw [ht]; exact hP9, hD9⟩⟩, hS.F ht⟩) hS.2.2 dX5_readLine_13

set_option maxHeartbeats 1000000 in
set_option maxRecDepth 100000 in
theorem c_X9_clearE (l : Launch) (dC : Nat → ClassId) (dI : Nat → Nat → Nat) (G : Nat → ClassId) (sz : Nat) (h0 a1 a2 a3 a4 a5 a6 : Nat) (x1 x2 x3 : Int32) (f3 : Nat → Int32)  : Met l yX9_clear (Cond.code yX9_clear cX9_clear 2 none :: GT) ({ frames := 0, cells := 0, slots := 0, locals := 0 } : Room) (PcW [.ref h0] dC dI G [(h0, .inr (9, [.int x1, .int x2, .int x3, .ref a1, .ref a2, .ref a3, .ref a4, .ref a5, .ref a6])), (a3, .inl (G 0, 10, .inl f3))] sz) (va_Qv (fun (u : (Nat → Int32)) => match u with | u0 => u0 = zpF 10 f3) (fun (u : (Nat → Int32)) (t : State) => match u with | u0 => va_P (dC, dI) vwCl [(h0, .inr (9, [.int 0, .int 0, .int 5, .ref a1, .ref a2, .ref a3, .ref a4, .ref a5, .ref a6])), (a3, .inl (G 0, 10, .inl u0))] t.heap ∧ va_D (va_A [(h0, .inr (9, [.int x1, .int x2, .int x3, .ref a1, .ref a2, .ref a3, .ref a4, .ref a5, .ref a6])), (a3, .inl (G 0, 10, .inl f3))] sz) [(h0, .inr (9, [.int 0, .int 0, .int 5, .ref a1, .ref a2, .ref a3, .ref a4, .ref a5, .ref a6])), (a3, .inl (G 0, 10, .inl u0))]) (va_A [(h0, .inr (9, [.int x1, .int x2, .int x3, .ref a1, .ref a2, .ref a3, .ref a4, .ref a5, .ref a6])), (a3, .inl (G 0, 10, .inl f3))] sz)) 0 0 (va_A [(h0, .inr (9, [.int x1, .int x2, .int x3, .ref a1, .ref a2, .ref a3, .ref a4, .ref a5, .ref a6])), (a3, .inl (G 0, 10, .inl f3))] sz) := by
  refine Met.ofW (cc := cX9_clear) (maxL := 2) (ret := none) (by decide) rfl ?_
  intro p e s m args below meth c s₁ Bd hml hv
  obtain ⟨rfl, hsz, hP, hK, hD0⟩ := hv
  have hx := Bd.exec
  have hb := Bd.bytes
  have hr := Bd.returns
  have hg : ∀ w ∈ GT, w.before ([.ref h0] : List Value).toArray s = true := fun w h => atoms_spec (ws := Cond.code yX9_clear cX9_clear 2 none :: GT) Bd.pre w (List.mem_cons_of_mem _ h)
  have hown : s.vm.findClass RX9 = some m.cls := findClass_of_methodNamed Bd.named
  have hlocks := Bd.notSynchronized
  subst hsz
  have hD := hD0.self (sz := s.heap.size)
  generalize hAe : va_A [(h0, .inr (9, [.int x1, .int x2, .int x3, .ref a1, .ref a2, .ref a3, .ref a4, .ref a5, .ref a6])), (a3, .inl (G 0, 10, .inl f3))] s.heap.size = A at hD ⊢
  have hA : ∀ q : Nat, s.heap.size ≤ q → A q := fun q h => by rw [← hAe]; exact Or.inr h
  have hS : va_S A s.heap s.heap [] := va_S.rf
  have hl := lv_entry ([.ref h0]) (n := 2) (Nat.le_of_ble_eq_true rfl)
  rw [lg_entry_eq]
  generalize (lg_sl ([.ref h0]) ++ List.replicate (2 - (lg_sl ([.ref h0])).length) Slot.unset).toArray = ls at hl ⊢
  have hl : lv_has ls 2 [(0, .ref h0)] := hl
  refine lv_aload_n hx hb dX9_clear_0 rfl (lv_at hl 0 rfl) ?_
  refine lv_iconst (v := 0) hx hb dX9_clear_1 rfl ?_
  refine va_put (D := (dC, dI)) (ci := 9) (v := .int 0) (ty := .int) (C := RX9) (T := TX9) (N := 9) hx hb hg inG9 tyX9 tyX9_ok nmX9 hown hK.1 hP hD hS 0 rfl rfl 0 (Nat.le_of_ble_eq_true rfl) (hg _ wt_56) (fun _ h9 => h9) rfl (by decide +kernel) rfl rfl (Nat.le_of_ble_eq_true rfl) dX9_clear_2 (fun H locs hP hD hS => ?_)
  refine lv_aload_n hx hb dX9_clear_5 rfl (lv_at hl 0 rfl) ?_
  refine lv_iconst (v := 0) hx hb dX9_clear_6 rfl ?_
  refine va_put (D := (dC, dI)) (ci := 9) (v := .int 0) (ty := .int) (C := RX9) (T := TX9) (N := 9) hx hb hg inG9 tyX9 tyX9_ok nmX9 hown hK.1 hP hD hS 0 rfl rfl 1 (Nat.le_of_ble_eq_true rfl) (hg _ wt_62) (fun _ h9 => h9) rfl (by decide +kernel) rfl rfl (Nat.le_of_ble_eq_true rfl) dX9_clear_7 (fun H locs hP hD hS => ?_)
  refine lv_aload_n hx hb dX9_clear_10 rfl (lv_at hl 0 rfl) ?_
  refine lv_iconst (v := 5) hx hb dX9_clear_11 rfl ?_
  refine va_put (D := (dC, dI)) (ci := 9) (v := .int 5) (ty := .int) (C := RX9) (T := TX9) (N := 9) hx hb hg inG9 tyX9 tyX9_ok nmX9 hown hK.1 hP hD hS 0 rfl rfl 2 (Nat.le_of_ble_eq_true rfl) (hg _ wt_66) (fun _ h9 => h9) rfl (by decide +kernel) rfl rfl (Nat.le_of_ble_eq_true rfl) dX9_clear_12 (fun H locs hP hD hS => ?_)
  refine lv_iconst (v := 0) hx hb dX9_clear_15 rfl ?_
  refine lv_istore_n (lv' := [(1, .int 0), (0, .ref h0)]) hx hb dX9_clear_16 rfl hl (by decide) rfl (fun ls hl => ?_)
  have loop17_3 : ∀ (nf j1 : Nat), 10 + 1 ≤ j1 + nf → j1 ≤ 10 → ∀ (g2 : Nat → Int32) (H : Heap) (locs : List Loc), g2 = zpF j1 f3 → va_P (dC, dI) vwCl [(h0, .inr (9, [.int 0, .int 0, .int 5, .ref a1, .ref a2, .ref a3, .ref a4, .ref a5, .ref a6])), (a3, .inl (G 0, 10, .inl g2))] H → va_D A [(h0, .inr (9, [.int 0, .int 0, .int 5, .ref a1, .ref a2, .ref a3, .ref a4, .ref a5, .ref a6])), (a3, .inl (G 0, 10, .inl g2))] → va_S A s.heap H locs → ∀ (ls : Array Slot), lv_has ls 2 [(1, .int (nI j1)), (0, .ref h0)] → W p l e (headSpec (Cond.code yX9_clear cX9_clear 2 none :: GT) ({ frames := 0, cells := 0, slots := 0, locals := 0 } : Room)).room s m ([.ref h0] : List Value).toArray below meth c H locs 0 0 (MQ below (va_Qv (fun (u : (Nat → Int32)) => match u with | u0 => u0 = zpF 10 f3) (fun (u : (Nat → Int32)) (t : State) => match u with | u0 => va_P (dC, dI) vwCl [(h0, .inr (9, [.int 0, .int 0, .int 5, .ref a1, .ref a2, .ref a3, .ref a4, .ref a5, .ref a6])), (a3, .inl (G 0, 10, .inl u0))] t.heap ∧ va_D A [(h0, .inr (9, [.int 0, .int 0, .int 5, .ref a1, .ref a2, .ref a3, .ref a4, .ref a5, .ref a6])), (a3, .inl (G 0, 10, .inl u0))]) A) ([.ref h0] : List Value).toArray s 0 0 A) (F0 m 17 ls []) := by
    intro nf
    induction nf with
    | zero => intro j1 h1 h2; exact absurd h1 (by omega)
    | succ nf ih17_3 =>
      intro j1 hn4 hj5 g2 H locs hinv hP hD hS ls hl
      refine lv_iload_n hx hb dX9_clear_17 rfl (lv_at hl 0 rfl) ?_
      refine lv_bipush (v := 10) hx hb dX9_clear_18 rfl ?_
      refine lv_icmp_ge (tgt := 36) hx hb dX9_clear_20 rfl (fun c6 => ?_) (fun c6 => ?_)
      · skip
        have tn1501_ : nIT j1 := fun _ => nI_toInt (by first | omega | (have t := leI c6; omega))
        have n7 : 10 ≤ j1 := by have t := leI c6; rw [show (nI (j1)).toInt = ((j1 : Nat) : Int) from tn1501_ ()] at t; have : (10 : Int32).toInt = 10 := qI_10; omega
        obtain ⟨hP9, hD9⟩ := va_sub2 (ws' := [(h0, .inr (9, [.int 0, .int 0, .int 5, .ref a1, .ref a2, .ref a3, .ref a4, .ref a5, .ref a6])), (a3, .inl (G 0, 10, .inl g2))]) hP hD [0, 1] (by decide +kernel) rfl
        refine W.widen (k := 0) (n := 0) (Nat.le_of_ble_eq_true rfl) (Nat.le_of_ble_eq_true rfl) ?_
        exact W.vret hx hb hr (fun t ht hW => ⟨⟨g2, rfl, (by have t_hj5 := hj5; have t_n7 := n7; have t_n0 : (nI j1).toInt = (j1 : Int) := tn1501_ (); rw [hinv, show j1 = 10 by omega]), ⟨by rw [ht]; exact hP9, hD9⟩⟩, hS.F ht⟩) hS.2.2 dX9_clear_36
      · skip
        have tn1502_ : nIT j1 := fun _ => nI_toInt (by first | omega | (have t := nleI c6; omega))
        have n8 : j1 < 10 := by have t := nleI c6; rw [show (nI (j1)).toInt = ((j1 : Nat) : Int) from tn1502_ ()] at t; have : (10 : Int32).toInt = 10 := qI_10; omega
        refine lv_aload_n hx hb dX9_clear_23 rfl (lv_at hl 1 rfl) ?_
        refine va_get (D := (dC, dI)) (ci := 9) (v := .ref a3) (C := RX9) (T := TX9) (N := 9) hx hb hg inG9 hown hK.1 hP 0 rfl rfl 5 (Nat.le_of_ble_eq_true rfl) (hg _ wt_77) (fun _ h9 => h9) rfl dX9_clear_24 ?_
        refine lv_iload_n hx hb dX9_clear_27 rfl (lv_at hl 0 rfl) ?_
        refine lv_iconst (v := 0) hx hb dX9_clear_28 rfl ?_
        refine va_iast hx hb hK.1 hP hD hS 1 0 rfl rfl (vp_in_nI (by first | omega | (have t_hj5 := hj5; have t_n8 := n8; have t_n0 : (nI j1).toInt = (j1 : Int) := tn1502_ (); omega)) (by decide)) dX9_clear_29 (fun H locs hP hD hS => ?_)
        rw [nI_clamp (by omega)] at hP hD
        refine lv_iinc (v := nI (j1 + 1)) (lv' := [(1, .int (nI (j1 + 1))), (0, .ref h0)]) hx hb dX9_clear_30 hl (k := 0) rfl (by rw [show Int32.ofInt 1 = nI 1 from by decide]; exact nI_add _ _) (by decide) rfl (fun ls hl => ?_)
        refine lv_goto (tgt := 17) hx hb dX9_clear_33 rfl ?_
        exact ih17_3 (j1 + 1) (by omega) (by omega) (upd g2 j1 0) _ _ (by rw [hinv]; exact zpF_s) hP hD hS ls (lv_sub hl [0, 1] rfl)
  exact loop17_3 (10 + 1) 0 (by omega) (by omega) f3 _ _ zpF_0 hP hD hS ls (lv_sub hl [0, 1] rfl)

set_option maxHeartbeats 1000000 in
set_option maxRecDepth 100000 in
theorem c_X9_copyOfE (l : Launch) (dC : Nat → ClassId) (dI : Nat → Nat → Nat) (G : Nat → ClassId) (sz : Nat) (h0 o0 a1 a2 a3 a4 a5 a6 c1 c2 c3 c4 c5 c6 : Nat) (x1 x2 x3 y1 y2 y3 : Int32) (f1 f2 f3 f4 f5 f6 z1 z2 z3 z4 z5 z6 : Nat → Int32)  : Met l yX9_copyOf (Cond.code yX9_copyOf cX9_copyOf 2 none :: GT) ({ frames := 1, cells := 0, slots := 0, locals := 100 } : Room) (PcW [.ref h0, .ref o0] dC dI G [(h0, .inr (9, [.int x1, .int x2, .int x3, .ref a1, .ref a2, .ref a3, .ref a4, .ref a5, .ref a6])), (a1, .inl (G 0, 10, .inl f1)), (a2, .inl (G 0, 10, .inl f2)), (a3, .inl (G 0, 10, .inl f3)), (a4, .inl (G 0, 6, .inl f4)), (a5, .inl (G 0, 6, .inl f5)), (a6, .inl (G 0, 6, .inl f6)), (o0, .inr (9, [.int y1, .int y2, .int y3, .ref c1, .ref c2, .ref c3, .ref c4, .ref c5, .ref c6])), (c1, .inl (G 0, 10, .inl z1)), (c2, .inl (G 0, 10, .inl z2)), (c3, .inl (G 0, 10, .inl z3)), (c4, .inl (G 0, 6, .inl z4)), (c5, .inl (G 0, 6, .inl z5)), (c6, .inl (G 0, 6, .inl z6))] sz) (va_Qv (fun (u : (Nat → Int32) × (Nat → Int32) × (Nat → Int32) × (Nat → Int32) × (Nat → Int32) × (Nat → Int32)) => match u with | (u1, u2, u3, u4, u5, u6) => u1 = va_cpy z1 f1 0 0 10 ∧ u2 = va_cpy z2 f2 0 0 10 ∧ u3 = va_cpy z3 f3 0 0 10 ∧ u4 = va_cpy z4 f4 0 0 6 ∧ u5 = va_cpy z5 f5 0 0 6 ∧ u6 = va_cpy z6 f6 0 0 6) (fun (u : (Nat → Int32) × (Nat → Int32) × (Nat → Int32) × (Nat → Int32) × (Nat → Int32) × (Nat → Int32)) (t : State) => match u with | (u1, u2, u3, u4, u5, u6) => va_P (dC, dI) vwCl [(h0, .inr (9, [.int y1, .int y2, .int y3, .ref a1, .ref a2, .ref a3, .ref a4, .ref a5, .ref a6])), (a1, .inl (G 0, 10, .inl u1)), (a2, .inl (G 0, 10, .inl u2)), (a3, .inl (G 0, 10, .inl u3)), (a4, .inl (G 0, 6, .inl u4)), (a5, .inl (G 0, 6, .inl u5)), (a6, .inl (G 0, 6, .inl u6)), (o0, .inr (9, [.int y1, .int y2, .int y3, .ref c1, .ref c2, .ref c3, .ref c4, .ref c5, .ref c6])), (c1, .inl (G 0, 10, .inl z1)), (c2, .inl (G 0, 10, .inl z2)), (c3, .inl (G 0, 10, .inl z3)), (c4, .inl (G 0, 6, .inl z4)), (c5, .inl (G 0, 6, .inl z5)), (c6, .inl (G 0, 6, .inl z6))] t.heap ∧ va_D (va_A [(h0, .inr (9, [.int x1, .int x2, .int x3, .ref a1, .ref a2, .ref a3, .ref a4, .ref a5, .ref a6])), (a1, .inl (G 0, 10, .inl f1)), (a2, .inl (G 0, 10, .inl f2)), (a3, .inl (G 0, 10, .inl f3)), (a4, .inl (G 0, 6, .inl f4)), (a5, .inl (G 0, 6, .inl f5)), (a6, .inl (G 0, 6, .inl f6)), (o0, .inr (9, [.int y1, .int y2, .int y3, .ref c1, .ref c2, .ref c3, .ref c4, .ref c5, .ref c6])), (c1, .inl (G 0, 10, .inl z1)), (c2, .inl (G 0, 10, .inl z2)), (c3, .inl (G 0, 10, .inl z3)), (c4, .inl (G 0, 6, .inl z4)), (c5, .inl (G 0, 6, .inl z5)), (c6, .inl (G 0, 6, .inl z6))] sz) [(h0, .inr (9, [.int y1, .int y2, .int y3, .ref a1, .ref a2, .ref a3, .ref a4, .ref a5, .ref a6])), (a1, .inl (G 0, 10, .inl u1)), (a2, .inl (G 0, 10, .inl u2)), (a3, .inl (G 0, 10, .inl u3)), (a4, .inl (G 0, 6, .inl u4)), (a5, .inl (G 0, 6, .inl u5)), (a6, .inl (G 0, 6, .inl u6)), (o0, .inr (9, [.int y1, .int y2, .int y3, .ref c1, .ref c2, .ref c3, .ref c4, .ref c5, .ref c6])), (c1, .inl (G 0, 10, .inl z1)), (c2, .inl (G 0, 10, .inl z2)), (c3, .inl (G 0, 10, .inl z3)), (c4, .inl (G 0, 6, .inl z4)), (c5, .inl (G 0, 6, .inl z5)), (c6, .inl (G 0, 6, .inl z6))]) (va_A [(h0, .inr (9, [.int x1, .int x2, .int x3, .ref a1, .ref a2, .ref a3, .ref a4, .ref a5, .ref a6])), (a1, .inl (G 0, 10, .inl f1)), (a2, .inl (G 0, 10, .inl f2)), (a3, .inl (G 0, 10, .inl f3)), (a4, .inl (G 0, 6, .inl f4)), (a5, .inl (G 0, 6, .inl f5)), (a6, .inl (G 0, 6, .inl f6)), (o0, .inr (9, [.int y1, .int y2, .int y3, .ref c1, .ref c2, .ref c3, .ref c4, .ref c5, .ref c6])), (c1, .inl (G 0, 10, .inl z1)), (c2, .inl (G 0, 10, .inl z2)), (c3, .inl (G 0, 10, .inl z3)), (c4, .inl (G 0, 6, .inl z4)), (c5, .inl (G 0, 6, .inl z5)), (c6, .inl (G 0, 6, .inl z6))] sz)) 0 0 (va_A [(h0, .inr (9, [.int x1, .int x2, .int x3, .ref a1, .ref a2, .ref a3, .ref a4, .ref a5, .ref a6])), (a1, .inl (G 0, 10, .inl f1)), (a2, .inl (G 0, 10, .inl f2)), (a3, .inl (G 0, 10, .inl f3)), (a4, .inl (G 0, 6, .inl f4)), (a5, .inl (G 0, 6, .inl f5)), (a6, .inl (G 0, 6, .inl f6)), (o0, .inr (9, [.int y1, .int y2, .int y3, .ref c1, .ref c2, .ref c3, .ref c4, .ref c5, .ref c6])), (c1, .inl (G 0, 10, .inl z1)), (c2, .inl (G 0, 10, .inl z2)), (c3, .inl (G 0, 10, .inl z3)), (c4, .inl (G 0, 6, .inl z4)), (c5, .inl (G 0, 6, .inl z5)), (c6, .inl (G 0, 6, .inl z6))] sz) := by
  refine Met.ofW (cc := cX9_copyOf) (maxL := 2) (ret := none) (by decide) rfl ?_
  intro p e s m args below meth c s₁ Bd hml hv
  obtain ⟨rfl, hsz, hP, hK, hD0⟩ := hv
  have hx := Bd.exec
  have hb := Bd.bytes
  have hr := Bd.returns
  have hg : ∀ w ∈ GT, w.before ([.ref h0, .ref o0] : List Value).toArray s = true := fun w h => atoms_spec (ws := Cond.code yX9_copyOf cX9_copyOf 2 none :: GT) Bd.pre w (List.mem_cons_of_mem _ h)
  have hown : s.vm.findClass RX9 = some m.cls := findClass_of_methodNamed Bd.named
  have hlocks := Bd.notSynchronized
  subst hsz
  have hD := hD0.self (sz := s.heap.size)
  generalize hAe : va_A [(h0, .inr (9, [.int x1, .int x2, .int x3, .ref a1, .ref a2, .ref a3, .ref a4, .ref a5, .ref a6])), (a1, .inl (G 0, 10, .inl f1)), (a2, .inl (G 0, 10, .inl f2)), (a3, .inl (G 0, 10, .inl f3)), (a4, .inl (G 0, 6, .inl f4)), (a5, .inl (G 0, 6, .inl f5)), (a6, .inl (G 0, 6, .inl f6)), (o0, .inr (9, [.int y1, .int y2, .int y3, .ref c1, .ref c2, .ref c3, .ref c4, .ref c5, .ref c6])), (c1, .inl (G 0, 10, .inl z1)), (c2, .inl (G 0, 10, .inl z2)), (c3, .inl (G 0, 10, .inl z3)), (c4, .inl (G 0, 6, .inl z4)), (c5, .inl (G 0, 6, .inl z5)), (c6, .inl (G 0, 6, .inl z6))] s.heap.size = A at hD ⊢
  have hA : ∀ q : Nat, s.heap.size ≤ q → A q := fun q h => by rw [← hAe]; exact Or.inr h
  have hS : va_S A s.heap s.heap [] := va_S.rf
  have hl := lv_entry ([.ref h0, .ref o0]) (n := 2) (Nat.le_of_ble_eq_true rfl)
  rw [lg_entry_eq]
  generalize (lg_sl ([.ref h0, .ref o0]) ++ List.replicate (2 - (lg_sl ([.ref h0, .ref o0])).length) Slot.unset).toArray = ls at hl ⊢
  have hl : lv_has ls 2 [(0, .ref h0), (1, .ref o0)] := hl
  refine lv_aload_n hx hb dX9_copyOf_0 rfl (lv_at hl 0 rfl) ?_
  refine lv_aload_n hx hb dX9_copyOf_1 rfl (lv_at hl 1 rfl) ?_
  refine va_get (D := (dC, dI)) (ci := 9) (v := .int y1) (C := RX9) (T := TX9) (N := 9) hx hb hg inG9 hown hK.1 hP 7 rfl rfl 0 (Nat.le_of_ble_eq_true rfl) (hg _ wt_56) (fun _ h9 => h9) rfl dX9_copyOf_2 ?_
  refine va_put (D := (dC, dI)) (ci := 9) (v := .int y1) (ty := .int) (C := RX9) (T := TX9) (N := 9) hx hb hg inG9 tyX9 tyX9_ok nmX9 hown hK.1 hP hD hS 0 rfl rfl 0 (Nat.le_of_ble_eq_true rfl) (hg _ wt_56) (fun _ h9 => h9) rfl (by decide +kernel) rfl rfl (Nat.le_of_ble_eq_true rfl) dX9_copyOf_5 (fun H locs hP hD hS => ?_)
  refine lv_aload_n hx hb dX9_copyOf_8 rfl (lv_at hl 0 rfl) ?_
  refine lv_aload_n hx hb dX9_copyOf_9 rfl (lv_at hl 1 rfl) ?_
  refine va_get (D := (dC, dI)) (ci := 9) (v := .int y2) (C := RX9) (T := TX9) (N := 9) hx hb hg inG9 hown hK.1 hP 7 rfl rfl 1 (Nat.le_of_ble_eq_true rfl) (hg _ wt_62) (fun _ h9 => h9) rfl dX9_copyOf_10 ?_
  refine va_put (D := (dC, dI)) (ci := 9) (v := .int y2) (ty := .int) (C := RX9) (T := TX9) (N := 9) hx hb hg inG9 tyX9 tyX9_ok nmX9 hown hK.1 hP hD hS 0 rfl rfl 1 (Nat.le_of_ble_eq_true rfl) (hg _ wt_62) (fun _ h9 => h9) rfl (by decide +kernel) rfl rfl (Nat.le_of_ble_eq_true rfl) dX9_copyOf_13 (fun H locs hP hD hS => ?_)
  refine lv_aload_n hx hb dX9_copyOf_16 rfl (lv_at hl 0 rfl) ?_
  refine lv_aload_n hx hb dX9_copyOf_17 rfl (lv_at hl 1 rfl) ?_
  refine va_get (D := (dC, dI)) (ci := 9) (v := .int y3) (C := RX9) (T := TX9) (N := 9) hx hb hg inG9 hown hK.1 hP 7 rfl rfl 2 (Nat.le_of_ble_eq_true rfl) (hg _ wt_66) (fun _ h9 => h9) rfl dX9_copyOf_18 ?_
  refine va_put (D := (dC, dI)) (ci := 9) (v := .int y3) (ty := .int) (C := RX9) (T := TX9) (N := 9) hx hb hg inG9 tyX9 tyX9_ok nmX9 hown hK.1 hP hD hS 0 rfl rfl 2 (Nat.le_of_ble_eq_true rfl) (hg _ wt_66) (fun _ h9 => h9) rfl (by decide +kernel) rfl rfl (Nat.le_of_ble_eq_true rfl) dX9_copyOf_21 (fun H locs hP hD hS => ?_)
  refine lv_aload_n hx hb dX9_copyOf_24 rfl (lv_at hl 1 rfl) ?_
  refine va_get (D := (dC, dI)) (ci := 9) (v := .ref c1) (C := RX9) (T := TX9) (N := 9) hx hb hg inG9 hown hK.1 hP 7 rfl rfl 3 (Nat.le_of_ble_eq_true rfl) (hg _ wt_73) (fun _ h9 => h9) rfl dX9_copyOf_25 ?_
  refine lv_iconst (v := 0) hx hb dX9_copyOf_28 rfl ?_
  refine lv_aload_n hx hb dX9_copyOf_29 rfl (lv_at hl 0 rfl) ?_
  refine va_get (D := (dC, dI)) (ci := 9) (v := .ref a1) (C := RX9) (T := TX9) (N := 9) hx hb hg inG9 hown hK.1 hP 0 rfl rfl 3 (Nat.le_of_ble_eq_true rfl) (hg _ wt_73) (fun _ h9 => h9) rfl dX9_copyOf_30 ?_
  refine lv_iconst (v := 0) hx hb dX9_copyOf_33 rfl ?_
  refine lv_bipush (v := 10) hx hb dX9_copyOf_34 rfl ?_
  refine va_copyi hx hb (by rw [hml]; exact hl.1.symm) hown (hg _ wt_511) (hg _ wt_513) (hg _ wt_512) (hg _ wt_18) hK.1 hP hD hS 8 1 0 0 rfl rfl rfl rfl rfl (by decide) (by decide) (by decide) (by decide) (by decide) (fun _ _ => rfl) (Nat.le_of_ble_eq_true rfl) (Nat.le_of_ble_eq_true rfl) dX9_copyOf_36 (fun H locs hP hD hS => ?_)
  refine lv_aload_n hx hb dX9_copyOf_39 rfl (lv_at hl 1 rfl) ?_
  refine va_get (D := (dC, dI)) (ci := 9) (v := .ref c2) (C := RX9) (T := TX9) (N := 9) hx hb hg inG9 hown hK.1 hP 7 rfl rfl 4 (Nat.le_of_ble_eq_true rfl) (hg _ wt_75) (fun _ h9 => h9) rfl dX9_copyOf_40 ?_
  refine lv_iconst (v := 0) hx hb dX9_copyOf_43 rfl ?_
  refine lv_aload_n hx hb dX9_copyOf_44 rfl (lv_at hl 0 rfl) ?_
  refine va_get (D := (dC, dI)) (ci := 9) (v := .ref a2) (C := RX9) (T := TX9) (N := 9) hx hb hg inG9 hown hK.1 hP 0 rfl rfl 4 (Nat.le_of_ble_eq_true rfl) (hg _ wt_75) (fun _ h9 => h9) rfl dX9_copyOf_45 ?_
  refine lv_iconst (v := 0) hx hb dX9_copyOf_48 rfl ?_
  refine lv_bipush (v := 10) hx hb dX9_copyOf_49 rfl ?_
  refine va_copyi hx hb (by rw [hml]; exact hl.1.symm) hown (hg _ wt_511) (hg _ wt_513) (hg _ wt_512) (hg _ wt_18) hK.1 hP hD hS 9 2 0 0 rfl rfl rfl rfl rfl (by decide) (by decide) (by decide) (by decide) (by decide) (fun _ _ => rfl) (Nat.le_of_ble_eq_true rfl) (Nat.le_of_ble_eq_true rfl) dX9_copyOf_51 (fun H locs hP hD hS => ?_)
  refine lv_aload_n hx hb dX9_copyOf_54 rfl (lv_at hl 1 rfl) ?_
  refine va_get (D := (dC, dI)) (ci := 9) (v := .ref c3) (C := RX9) (T := TX9) (N := 9) hx hb hg inG9 hown hK.1 hP 7 rfl rfl 5 (Nat.le_of_ble_eq_true rfl) (hg _ wt_77) (fun _ h9 => h9) rfl dX9_copyOf_55 ?_
  refine lv_iconst (v := 0) hx hb dX9_copyOf_58 rfl ?_
  refine lv_aload_n hx hb dX9_copyOf_59 rfl (lv_at hl 0 rfl) ?_
  refine va_get (D := (dC, dI)) (ci := 9) (v := .ref a3) (C := RX9) (T := TX9) (N := 9) hx hb hg inG9 hown hK.1 hP 0 rfl rfl 5 (Nat.le_of_ble_eq_true rfl) (hg _ wt_77) (fun _ h9 => h9) rfl dX9_copyOf_60 ?_
  refine lv_iconst (v := 0) hx hb dX9_copyOf_63 rfl ?_
  refine lv_bipush (v := 10) hx hb dX9_copyOf_64 rfl ?_
  refine va_copyi hx hb (by rw [hml]; exact hl.1.symm) hown (hg _ wt_511) (hg _ wt_513) (hg _ wt_512) (hg _ wt_18) hK.1 hP hD hS 10 3 0 0 rfl rfl rfl rfl rfl (by decide) (by decide) (by decide) (by decide) (by decide) (fun _ _ => rfl) (Nat.le_of_ble_eq_true rfl) (Nat.le_of_ble_eq_true rfl) dX9_copyOf_66 (fun H locs hP hD hS => ?_)
  refine lv_aload_n hx hb dX9_copyOf_69 rfl (lv_at hl 1 rfl) ?_
  refine va_get (D := (dC, dI)) (ci := 9) (v := .ref c4) (C := RX9) (T := TX9) (N := 9) hx hb hg inG9 hown hK.1 hP 7 rfl rfl 6 (Nat.le_of_ble_eq_true rfl) (hg _ wt_80) (fun _ h9 => h9) rfl dX9_copyOf_70 ?_
  refine lv_iconst (v := 0) hx hb dX9_copyOf_73 rfl ?_
  refine lv_aload_n hx hb dX9_copyOf_74 rfl (lv_at hl 0 rfl) ?_
  refine va_get (D := (dC, dI)) (ci := 9) (v := .ref a4) (C := RX9) (T := TX9) (N := 9) hx hb hg inG9 hown hK.1 hP 0 rfl rfl 6 (Nat.le_of_ble_eq_true rfl) (hg _ wt_80) (fun _ h9 => h9) rfl dX9_copyOf_75 ?_
  refine lv_iconst (v := 0) hx hb dX9_copyOf_78 rfl ?_
  refine lv_bipush (v := 6) hx hb dX9_copyOf_79 rfl ?_
  refine va_copyi hx hb (by rw [hml]; exact hl.1.symm) hown (hg _ wt_511) (hg _ wt_513) (hg _ wt_512) (hg _ wt_18) hK.1 hP hD hS 11 4 0 0 rfl rfl rfl rfl rfl (by decide) (by decide) (by decide) (by decide) (by decide) (fun _ _ => rfl) (Nat.le_of_ble_eq_true rfl) (Nat.le_of_ble_eq_true rfl) dX9_copyOf_81 (fun H locs hP hD hS => ?_)
  refine lv_aload_n hx hb dX9_copyOf_84 rfl (lv_at hl 1 rfl) ?_
  refine va_get (D := (dC, dI)) (ci := 9) (v := .ref c5) (C := RX9) (T := TX9) (N := 9) hx hb hg inG9 hown hK.1 hP 7 rfl rfl 7 (Nat.le_of_ble_eq_true rfl) (hg _ wt_82) (fun _ h9 => h9) rfl dX9_copyOf_85 ?_
  refine lv_iconst (v := 0) hx hb dX9_copyOf_88 rfl ?_
  refine lv_aload_n hx hb dX9_copyOf_89 rfl (lv_at hl 0 rfl) ?_
  refine va_get (D := (dC, dI)) (ci := 9) (v := .ref a5) (C := RX9) (T := TX9) (N := 9) hx hb hg inG9 hown hK.1 hP 0 rfl rfl 7 (Nat.le_of_ble_eq_true rfl) (hg _ wt_82) (fun _ h9 => h9) rfl dX9_copyOf_90 ?_
  refine lv_iconst (v := 0) hx hb dX9_copyOf_93 rfl ?_
  refine lv_bipush (v := 6) hx hb dX9_copyOf_94 rfl ?_
  refine va_copyi hx hb (by rw [hml]; exact hl.1.symm) hown (hg _ wt_511) (hg _ wt_513) (hg _ wt_512) (hg _ wt_18) hK.1 hP hD hS 12 5 0 0 rfl rfl rfl rfl rfl (by decide) (by decide) (by decide) (by decide) (by decide) (fun _ _ => rfl) (Nat.le_of_ble_eq_true rfl) (Nat.le_of_ble_eq_true rfl) dX9_copyOf_96 (fun H locs hP hD hS => ?_)
  refine lv_aload_n hx hb dX9_copyOf_99 rfl (lv_at hl 1 rfl) ?_
  refine va_get (D := (dC, dI)) (ci := 9) (v := .ref c6) (C := RX9) (T := TX9) (N := 9) hx hb hg inG9 hown hK.1 hP 7 rfl rfl 8 (Nat.le_of_ble_eq_true rfl) (hg _ wt_84) (fun _ h9 => h9) rfl dX9_copyOf_100 ?_
  refine lv_iconst (v := 0) hx hb dX9_copyOf_103 rfl ?_
  refine lv_aload_n hx hb dX9_copyOf_104 rfl (lv_at hl 0 rfl) ?_
  refine va_get (D := (dC, dI)) (ci := 9) (v := .ref a6) (C := RX9) (T := TX9) (N := 9) hx hb hg inG9 hown hK.1 hP 0 rfl rfl 8 (Nat.le_of_ble_eq_true rfl) (hg _ wt_84) (fun _ h9 => h9) rfl dX9_copyOf_105 ?_
  refine lv_iconst (v := 0) hx hb dX9_copyOf_108 rfl ?_
  refine lv_bipush (v := 6) hx hb dX9_copyOf_109 rfl ?_
  refine va_copyi hx hb (by rw [hml]; exact hl.1.symm) hown (hg _ wt_511) (hg _ wt_513) (hg _ wt_512) (hg _ wt_18) hK.1 hP hD hS 13 6 0 0 rfl rfl rfl rfl rfl (by decide) (by decide) (by decide) (by decide) (by decide) (fun _ _ => rfl) (Nat.le_of_ble_eq_true rfl) (Nat.le_of_ble_eq_true rfl) dX9_copyOf_111 (fun H locs hP hD hS => ?_)
  obtain ⟨hP9, hD9⟩ := va_sub2 (ws' := [(h0, .inr (9, [.int y1, .int y2, .int y3, .ref a1, .ref a2, .ref a3, .ref a4, .ref a5, .ref a6])), (a1, .inl (G 0, 10, .inl (va_cpy z1 f1 0 0 10))), (a2, .inl (G 0, 10, .inl (va_cpy z2 f2 0 0 10))), (a3, .inl (G 0, 10, .inl (va_cpy z3 f3 0 0 10))), (a4, .inl (G 0, 6, .inl (va_cpy z4 f4 0 0 6))), (a5, .inl (G 0, 6, .inl (va_cpy z5 f5 0 0 6))), (a6, .inl (G 0, 6, .inl (va_cpy z6 f6 0 0 6))), (o0, .inr (9, [.int y1, .int y2, .int y3, .ref c1, .ref c2, .ref c3, .ref c4, .ref c5, .ref c6])), (c1, .inl (G 0, 10, .inl z1)), (c2, .inl (G 0, 10, .inl z2)), (c3, .inl (G 0, 10, .inl z3)), (c4, .inl (G 0, 6, .inl z4)), (c5, .inl (G 0, 6, .inl z5)), (c6, .inl (G 0, 6, .inl z6))]) hP hD [0, 1, 2, 3, 4, 5, 6, 7, 8, 9, 10, 11, 12, 13] (by decide +kernel) rfl
  refine W.widen (k := 0) (n := 0) (Nat.le_of_ble_eq_true rfl) (Nat.le_of_ble_eq_true rfl) ?_
  exact W.vret hx hb hr (fun t ht hW => ⟨⟨((va_cpy z1 f1 0 0 10), (va_cpy z2 f2 0 0 10), (va_cpy z3 f3 0 0 10), (va_cpy z4 f4 0 0 6), (va_cpy z5 f5 0 0 6), (va_cpy z6 f6 0 0 6)), rfl, ⟨rfl, rfl, rfl, rfl, rfl, rfl⟩, ⟨by rw [ht]; exact hP9, hD9⟩⟩, hS.F ht⟩) hS.2.2 dX9_copyOf_114

set_option maxHeartbeats 1000000 in
set_option maxRecDepth 100000 in
theorem c_X5_beginE (l : Launch) (dC : Nat → ClassId) (dI : Nat → Nat → Nat) (G : Nat → ClassId) (sz : Nat) (h0 tp td a1 a2 a3 a4 a5 a6 : Nat) (x0 x1 x2 x3 x4 x5 x6 x7 x8 x9 n1 n2 n3 : Int32) (f3 : Nat → Int32)  : Met l yX5_begin (Cond.code yX5_begin cX5_begin 1 none :: GT) ({ frames := 1, cells := 0, slots := 0, locals := 21 } : Room) (PcW [.ref h0] dC dI G [(h0, .inr (5, [.ref tp, .ref td, .int x0, .int x1, .int x2, .int x3, .int x4, .int x5, .int x6, .int x7, .int x8, .int x9])), (td, .inr (9, [.int n1, .int n2, .int n3, .ref a1, .ref a2, .ref a3, .ref a4, .ref a5, .ref a6])), (a3, .inl (G 0, 10, .inl f3))] sz) (va_Qv (fun (u : (Nat → Int32)) => match u with | u0 => u0 = zpF 10 f3) (fun (u : (Nat → Int32)) (t : State) => match u with | u0 => va_P (dC, dI) vwCl [(h0, .inr (5, [.ref tp, .ref td, .int 0, .int 0, .int 0, .int x3, .int x4, .int 0, .int 0, .int 0, .int (-4), .int (-4)])), (td, .inr (9, [.int 0, .int 0, .int 5, .ref a1, .ref a2, .ref a3, .ref a4, .ref a5, .ref a6])), (a3, .inl (G 0, 10, .inl u0))] t.heap ∧ va_D (va_A [(h0, .inr (5, [.ref tp, .ref td, .int x0, .int x1, .int x2, .int x3, .int x4, .int x5, .int x6, .int x7, .int x8, .int x9])), (td, .inr (9, [.int n1, .int n2, .int n3, .ref a1, .ref a2, .ref a3, .ref a4, .ref a5, .ref a6])), (a3, .inl (G 0, 10, .inl f3))] sz) [(h0, .inr (5, [.ref tp, .ref td, .int 0, .int 0, .int 0, .int x3, .int x4, .int 0, .int 0, .int 0, .int (-4), .int (-4)])), (td, .inr (9, [.int 0, .int 0, .int 5, .ref a1, .ref a2, .ref a3, .ref a4, .ref a5, .ref a6])), (a3, .inl (G 0, 10, .inl u0))]) (va_A [(h0, .inr (5, [.ref tp, .ref td, .int x0, .int x1, .int x2, .int x3, .int x4, .int x5, .int x6, .int x7, .int x8, .int x9])), (td, .inr (9, [.int n1, .int n2, .int n3, .ref a1, .ref a2, .ref a3, .ref a4, .ref a5, .ref a6])), (a3, .inl (G 0, 10, .inl f3))] sz)) 0 0 (va_A [(h0, .inr (5, [.ref tp, .ref td, .int x0, .int x1, .int x2, .int x3, .int x4, .int x5, .int x6, .int x7, .int x8, .int x9])), (td, .inr (9, [.int n1, .int n2, .int n3, .ref a1, .ref a2, .ref a3, .ref a4, .ref a5, .ref a6])), (a3, .inl (G 0, 10, .inl f3))] sz) := by
  refine Met.ofW (cc := cX5_begin) (maxL := 1) (ret := none) (by decide) rfl ?_
  intro p e s m args below meth c s₁ Bd hml hv
  obtain ⟨rfl, hsz, hP, hK, hD0⟩ := hv
  have hx := Bd.exec
  have hb := Bd.bytes
  have hr := Bd.returns
  have hg : ∀ w ∈ GT, w.before ([.ref h0] : List Value).toArray s = true := fun w h => atoms_spec (ws := Cond.code yX5_begin cX5_begin 1 none :: GT) Bd.pre w (List.mem_cons_of_mem _ h)
  have hown : s.vm.findClass RX5 = some m.cls := findClass_of_methodNamed Bd.named
  have hlocks := Bd.notSynchronized
  subst hsz
  have hD := hD0.self (sz := s.heap.size)
  generalize hAe : va_A [(h0, .inr (5, [.ref tp, .ref td, .int x0, .int x1, .int x2, .int x3, .int x4, .int x5, .int x6, .int x7, .int x8, .int x9])), (td, .inr (9, [.int n1, .int n2, .int n3, .ref a1, .ref a2, .ref a3, .ref a4, .ref a5, .ref a6])), (a3, .inl (G 0, 10, .inl f3))] s.heap.size = A at hD ⊢
  have hA : ∀ q : Nat, s.heap.size ≤ q → A q := fun q h => by rw [← hAe]; exact Or.inr h
  have hS : va_S A s.heap s.heap [] := va_S.rf
  have hl := lv_entry ([.ref h0]) (n := 1) (Nat.le_of_ble_eq_true rfl)
  rw [lg_entry_eq]
  generalize (lg_sl ([.ref h0]) ++ List.replicate (1 - (lg_sl ([.ref h0])).length) Slot.unset).toArray = ls at hl ⊢
  have hl : lv_has ls 1 [(0, .ref h0)] := hl
  refine lv_aload_n hx hb dX5_begin_0 rfl (lv_at hl 0 rfl) ?_
  refine va_get (D := (dC, dI)) (ci := 5) (v := .ref td) (C := RX5) (T := TX5) (N := 12) hx hb hg inG5 hown hK.1 hP 0 rfl rfl 1 (Nat.le_of_ble_eq_true rfl) (hg _ wt_107) (fun _ h9 => h9) rfl dX5_begin_1 ?_
  obtain ⟨hPc, hDc, hFc⟩ := va_sub3 (ws' := [(td, .inr (9, [.int n1, .int n2, .int n3, .ref a1, .ref a2, .ref a3, .ref a4, .ref a5, .ref a6])), (a3, .inl (G 0, 10, .inl f3))]) hP hD hS hA [1, 2] (by decide +kernel) rfl
  refine va_callv (va_runVN (As := []) (rest := []) ⟨hx, hb, hml, hown, hg⟩ (c_X9_clearE l dC dI G _ td a1 a2 a3 a4 a5 a6 n1 n2 n3 f3) (kwVN hg hK mfX9_clear wn_370 ⟨Nat.le_of_ble_eq_true rfl, Nat.le_of_ble_eq_true rfl⟩) (preVW hK hPc hDc (ci := 9) (r := (RX9, TX9, 9)) rfl rfl) rfl rfl hl.1 rfl (lv_room (Nat.le_of_ble_eq_true rfl)) dX5_begin_4 ⟨Nat.le_of_ble_eq_true rfl, Nat.le_of_ble_eq_true rfl⟩) hS (fun q _ h => hFc q h) hFc (fun ur1 t H1 locs ht hvm w2 hB hz1 hk1 hS => ?_)
  obtain ⟨u3, rfl⟩ : ∃ z, z = ur1 := ⟨_, rfl⟩
  obtain ⟨hP1, hD1⟩ := hB
  rw [ht] at hP1
  obtain ⟨hP, hD⟩ := va_join (wr := [(h0, .inr (5, [.ref tp, .ref td, .int x0, .int x1, .int x2, .int x3, .int x4, .int x5, .int x6, .int x7, .int x8, .int x9]))]) (w1 := [(td, .inr (9, [.int 0, .int 0, .int 5, .ref a1, .ref a2, .ref a3, .ref a4, .ref a5, .ref a6])), (a3, .inl (G 0, 10, .inl u3))]) hP hD [1, 2] [0] rfl rfl (by decide +kernel) (by decide +kernel) hk1 hFc hP1 hD1
  have w2 : u3 = zpF 10 f3 := w2
  generalize H1 = H at hP hS ⊢
  refine lv_aload_n hx hb dX5_begin_7 rfl (lv_at hl 0 rfl) ?_
  refine lv_iconst (v := 0) hx hb dX5_begin_8 rfl ?_
  refine va_put (D := (dC, dI)) (ci := 5) (v := .int 0) (ty := .int) (C := RX5) (T := TX5) (N := 12) hx hb hg inG5 tyX5 tyX5_ok nmX5 hown hK.1 hP hD hS 0 rfl rfl 2 (Nat.le_of_ble_eq_true rfl) (hg _ wt_109) (fun _ h9 => h9) rfl (by decide +kernel) rfl rfl (Nat.le_of_ble_eq_true rfl) dX5_begin_9 (fun H locs hP hD hS => ?_)
  refine lv_aload_n hx hb dX5_begin_12 rfl (lv_at hl 0 rfl) ?_
  refine lv_iconst (v := 0) hx hb dX5_begin_13 rfl ?_
  refine va_put (D := (dC, dI)) (ci := 5) (v := .int 0) (ty := .int) (C := RX5) (T := TX5) (N := 12) hx hb hg inG5 tyX5 tyX5_ok nmX5 hown hK.1 hP hD hS 0 rfl rfl 3 (Nat.le_of_ble_eq_true rfl) (hg _ wt_111) (fun _ h9 => h9) rfl (by decide +kernel) rfl rfl (Nat.le_of_ble_eq_true rfl) dX5_begin_14 (fun H locs hP hD hS => ?_)
  refine lv_aload_n hx hb dX5_begin_17 rfl (lv_at hl 0 rfl) ?_
  refine lv_iconst (v := 0) hx hb dX5_begin_18 rfl ?_
  refine va_put (D := (dC, dI)) (ci := 5) (v := .int 0) (ty := .int) (C := RX5) (T := TX5) (N := 12) hx hb hg inG5 tyX5 tyX5_ok nmX5 hown hK.1 hP hD hS 0 rfl rfl 4 (Nat.le_of_ble_eq_true rfl) (hg _ wt_113) (fun _ h9 => h9) rfl (by decide +kernel) rfl rfl (Nat.le_of_ble_eq_true rfl) dX5_begin_19 (fun H locs hP hD hS => ?_)
  refine lv_aload_n hx hb dX5_begin_22 rfl (lv_at hl 0 rfl) ?_
  refine lv_iconst (v := 0) hx hb dX5_begin_23 rfl ?_
  refine va_put (D := (dC, dI)) (ci := 5) (v := .int 0) (ty := .int) (C := RX5) (T := TX5) (N := 12) hx hb hg inG5 tyX5 tyX5_ok nmX5 hown hK.1 hP hD hS 0 rfl rfl 7 (Nat.le_of_ble_eq_true rfl) (hg _ wt_117) (fun _ h9 => h9) rfl (by decide +kernel) rfl rfl (Nat.le_of_ble_eq_true rfl) dX5_begin_24 (fun H locs hP hD hS => ?_)
  refine lv_aload_n hx hb dX5_begin_27 rfl (lv_at hl 0 rfl) ?_
  refine lv_iconst (v := 0) hx hb dX5_begin_28 rfl ?_
  refine va_put (D := (dC, dI)) (ci := 5) (v := .int 0) (ty := .boolean) (C := RX5) (T := TX5) (N := 12) hx hb hg inG5 tyX5 tyX5_ok nmX5 hown hK.1 hP hD hS 0 rfl rfl 8 (Nat.le_of_ble_eq_true rfl) (hg _ wt_118) (fun _ h9 => h9) rfl (by decide +kernel) rfl rfl (Nat.le_of_ble_eq_true rfl) dX5_begin_29 (fun H locs hP hD hS => ?_)
  refine lv_aload_n hx hb dX5_begin_32 rfl (lv_at hl 0 rfl) ?_
  refine lv_iconst (v := 0) hx hb dX5_begin_33 rfl ?_
  refine va_put (D := (dC, dI)) (ci := 5) (v := .int 0) (ty := .int) (C := RX5) (T := TX5) (N := 12) hx hb hg inG5 tyX5 tyX5_ok nmX5 hown hK.1 hP hD hS 0 rfl rfl 9 (Nat.le_of_ble_eq_true rfl) (hg _ wt_119) (fun _ h9 => h9) rfl (by decide +kernel) rfl rfl (Nat.le_of_ble_eq_true rfl) dX5_begin_34 (fun H locs hP hD hS => ?_)
  refine lv_aload_n hx hb dX5_begin_37 rfl (lv_at hl 0 rfl) ?_
  refine lv_bipush (v := (-4)) hx hb dX5_begin_38 rfl ?_
  refine va_put (D := (dC, dI)) (ci := 5) (v := .int (-4)) (ty := .int) (C := RX5) (T := TX5) (N := 12) hx hb hg inG5 tyX5 tyX5_ok nmX5 hown hK.1 hP hD hS 0 rfl rfl 10 (Nat.le_of_ble_eq_true rfl) (hg _ wt_120) (fun _ h9 => h9) rfl (by decide +kernel) rfl rfl (Nat.le_of_ble_eq_true rfl) dX5_begin_40 (fun H locs hP hD hS => ?_)
  refine lv_aload_n hx hb dX5_begin_43 rfl (lv_at hl 0 rfl) ?_
  refine lv_bipush (v := (-4)) hx hb dX5_begin_44 rfl ?_
  refine va_put (D := (dC, dI)) (ci := 5) (v := .int (-4)) (ty := .int) (C := RX5) (T := TX5) (N := 12) hx hb hg inG5 tyX5 tyX5_ok nmX5 hown hK.1 hP hD hS 0 rfl rfl 11 (Nat.le_of_ble_eq_true rfl) (hg _ wt_121) (fun _ h9 => h9) rfl (by decide +kernel) rfl rfl (Nat.le_of_ble_eq_true rfl) dX5_begin_46 (fun H locs hP hD hS => ?_)
  obtain ⟨hP9, hD9⟩ := va_sub2 (ws' := [(h0, .inr (5, [.ref tp, .ref td, .int 0, .int 0, .int 0, .int x3, .int x4, .int 0, .int 0, .int 0, .int (-4), .int (-4)])), (td, .inr (9, [.int 0, .int 0, .int 5, .ref a1, .ref a2, .ref a3, .ref a4, .ref a5, .ref a6])), (a3, .inl (G 0, 10, .inl u3))]) hP hD [0, 1, 2] (by decide +kernel) rfl
  refine W.widen (k := 0) (n := 0) (Nat.le_of_ble_eq_true rfl) (Nat.le_of_ble_eq_true rfl) ?_
  exact W.vret hx hb hr (fun t ht hW => ⟨⟨u3, rfl, (by exact w2), ⟨by rw [ht]; exact hP9, hD9⟩⟩, hS.F ht⟩) hS.2.2 dX5_begin_49

set_option maxHeartbeats 1000000 in
set_option maxRecDepth 100000 in
theorem c_X5_lookBehindAllE (l : Launch) (dC : Nat → ClassId) (dI : Nat → Nat → Nat) (G : Nat → ClassId) (sz : Nat) (h0 tp td ta T F P a1 a2 a3 a4 a5 a6 N B D : Nat) (x0 x1 x2 x3 x6 x7 x8 x9 : Int32) (hF : F ≤ P) (hP0 : P ≤ T) (hT : T ≤ 320) (hN_N : N ≤ 10) (hB_B : B ≤ 6) (hD_D : 1 ≤ D ∧ D ≤ 9) : Met l yX5_lookBehindAll (Cond.code yX5_lookBehindAll cX5_lookBehindAll 1 none :: GT) ({ frames := 1, cells := 0, slots := 0, locals := 22 } : Room) (PcW [.ref h0] dC dI G [(h0, .inr (5, [.ref tp, .ref td, .int x0, .int x1, .int x2, .int x3, .int (nI F), .int (nI P), .int x6, .int x7, .int x8, .int x9])), (tp, .inr (7, [.int (nI T), .ref ta])), (td, .inr (9, [.int (nI N), .int (nI B), .int (nI D), .ref a1, .ref a2, .ref a3, .ref a4, .ref a5, .ref a6]))] sz) (va_Qv (fun (u : Int32 × Int32) => match u with | (u0, u1) => (u0, u1, x3, F, P) = cLB T (x0, x1, x3, F, P) x8 x9 N B) (fun (u : Int32 × Int32) (t : State) => match u with | (u0, u1) => va_P (dC, dI) vwCl [(h0, .inr (5, [.ref tp, .ref td, .int u0, .int u1, .int x2, .int x3, .int (nI F), .int (nI P), .int x6, .int x7, .int x8, .int x9])), (tp, .inr (7, [.int (nI T), .ref ta])), (td, .inr (9, [.int (nI N), .int (nI B), .int (nI D), .ref a1, .ref a2, .ref a3, .ref a4, .ref a5, .ref a6]))] t.heap ∧ va_D (va_A [(h0, .inr (5, [.ref tp, .ref td, .int x0, .int x1, .int x2, .int x3, .int (nI F), .int (nI P), .int x6, .int x7, .int x8, .int x9])), (tp, .inr (7, [.int (nI T), .ref ta])), (td, .inr (9, [.int (nI N), .int (nI B), .int (nI D), .ref a1, .ref a2, .ref a3, .ref a4, .ref a5, .ref a6]))] sz) [(h0, .inr (5, [.ref tp, .ref td, .int u0, .int u1, .int x2, .int x3, .int (nI F), .int (nI P), .int x6, .int x7, .int x8, .int x9])), (tp, .inr (7, [.int (nI T), .ref ta])), (td, .inr (9, [.int (nI N), .int (nI B), .int (nI D), .ref a1, .ref a2, .ref a3, .ref a4, .ref a5, .ref a6]))]) (va_A [(h0, .inr (5, [.ref tp, .ref td, .int x0, .int x1, .int x2, .int x3, .int (nI F), .int (nI P), .int x6, .int x7, .int x8, .int x9])), (tp, .inr (7, [.int (nI T), .ref ta])), (td, .inr (9, [.int (nI N), .int (nI B), .int (nI D), .ref a1, .ref a2, .ref a3, .ref a4, .ref a5, .ref a6]))] sz)) 0 0 (va_A [(h0, .inr (5, [.ref tp, .ref td, .int x0, .int x1, .int x2, .int x3, .int (nI F), .int (nI P), .int x6, .int x7, .int x8, .int x9])), (tp, .inr (7, [.int (nI T), .ref ta])), (td, .inr (9, [.int (nI N), .int (nI B), .int (nI D), .ref a1, .ref a2, .ref a3, .ref a4, .ref a5, .ref a6]))] sz) := by
  have tn1503_ : nIT N := fun _ => nI_toInt (by omega)
  have tn1504_ : nIT B := fun _ => nI_toInt (by omega)
  have tn1505_ : nIT D := fun _ => nI_toInt (by omega)
  have tn1506_ : nIT T := fun _ => nI_toInt (by omega)
  refine Met.ofW (cc := cX5_lookBehindAll) (maxL := 1) (ret := none) (by decide) rfl ?_
  intro p e s m args below meth c s₁ Bd hml hv
  obtain ⟨rfl, hsz, hP, hK, hD0⟩ := hv
  have hx := Bd.exec
  have hb := Bd.bytes
  have hr := Bd.returns
  have hg : ∀ w ∈ GT, w.before ([.ref h0] : List Value).toArray s = true := fun w h => atoms_spec (ws := Cond.code yX5_lookBehindAll cX5_lookBehindAll 1 none :: GT) Bd.pre w (List.mem_cons_of_mem _ h)
  have hown : s.vm.findClass RX5 = some m.cls := findClass_of_methodNamed Bd.named
  have hlocks := Bd.notSynchronized
  subst hsz
  have hD := hD0.self (sz := s.heap.size)
  generalize hAe : va_A [(h0, .inr (5, [.ref tp, .ref td, .int x0, .int x1, .int x2, .int x3, .int (nI F), .int (nI P), .int x6, .int x7, .int x8, .int x9])), (tp, .inr (7, [.int (nI T), .ref ta])), (td, .inr (9, [.int (nI N), .int (nI B), .int (nI D), .ref a1, .ref a2, .ref a3, .ref a4, .ref a5, .ref a6]))] s.heap.size = A at hD ⊢
  have hA : ∀ q : Nat, s.heap.size ≤ q → A q := fun q h => by rw [← hAe]; exact Or.inr h
  have hS : va_S A s.heap s.heap [] := va_S.rf
  have hl := lv_entry ([.ref h0]) (n := 1) (Nat.le_of_ble_eq_true rfl)
  rw [lg_entry_eq]
  generalize (lg_sl ([.ref h0]) ++ List.replicate (1 - (lg_sl ([.ref h0])).length) Slot.unset).toArray = ls at hl ⊢
  have hl : lv_has ls 1 [(0, .ref h0)] := hl
  refine lv_aload_n hx hb dX5_lookBehindAll_0 rfl (lv_at hl 0 rfl) ?_
  refine va_get (D := (dC, dI)) (ci := 5) (v := .int x8) (C := RX5) (T := TX5) (N := 12) hx hb hg inG5 hown hK.1 hP 0 rfl rfl 10 (Nat.le_of_ble_eq_true rfl) (hg _ wt_120) (fun _ h9 => h9) rfl dX5_lookBehindAll_1 ?_
  refine lv_aload_n hx hb dX5_lookBehindAll_4 rfl (lv_at hl 0 rfl) ?_
  refine va_get (D := (dC, dI)) (ci := 5) (v := .ref td) (C := RX5) (T := TX5) (N := 12) hx hb hg inG5 hown hK.1 hP 0 rfl rfl 1 (Nat.le_of_ble_eq_true rfl) (hg _ wt_107) (fun _ h9 => h9) rfl dX5_lookBehindAll_5 ?_
  refine va_getN (D := (dC, dI)) (ci := 9) (v := .int (nI N)) (C := RX9) (T := TX9) (N := 9) hx hb hg inG9 hown hK.1 hP 2 rfl rfl 0 (Nat.le_of_ble_eq_true rfl) (hK.nest wn_61) (fun _ h9 => h9) rfl dX5_lookBehindAll_8 ?_
  refine lv_icmp_ge (tgt := 28) hx hb dX5_lookBehindAll_11 rfl (fun c1 => ?_) (fun c1 => ?_)
  · skip
    refine lv_aload_n hx hb dX5_lookBehindAll_28 rfl (lv_at hl 0 rfl) ?_
    refine lv_bipush (v := 6) hx hb dX5_lookBehindAll_29 rfl ?_
    refine lv_aload_n hx hb dX5_lookBehindAll_31 rfl (lv_at hl 0 rfl) ?_
    refine va_get (D := (dC, dI)) (ci := 5) (v := .ref tp) (C := RX5) (T := TX5) (N := 12) hx hb hg inG5 hown hK.1 hP 0 rfl rfl 0 (Nat.le_of_ble_eq_true rfl) (hg _ wt_105) (fun _ h9 => h9) rfl dX5_lookBehindAll_32 ?_
    refine va_getN (D := (dC, dI)) (ci := 7) (v := .int (nI T)) (C := RX7) (T := TX7) (N := 2) hx hb hg inG7 hown hK.1 hP 1 rfl rfl 0 (Nat.le_of_ble_eq_true rfl) (hK.nest wn_41) (fun _ h9 => h9) rfl dX5_lookBehindAll_35 ?_
    obtain ⟨hPc, hDc, hFc⟩ := va_sub3 (ws' := [(h0, .inr (5, [.ref tp, .ref td, .int x0, .int x1, .int x2, .int x3, .int (nI F), .int (nI P), .int x6, .int x7, .int x8, .int x9]))]) hP hD hS hA [0] (by decide +kernel) rfl
    refine va_calli (va_runV (As := [.int 6, .int (nI T)]) (rest := []) ⟨hx, hb, hml, hown, hg⟩ (c_X5_refuseE l dC dI G _ h0 tp td x0 x1 x2 x3 (nI F) (nI P) x6 x7 x8 x9 6 (nI T)) (kwV hg mfX5_refuse wt_386 ⟨Nat.le_of_ble_eq_true rfl, Nat.le_of_ble_eq_true rfl⟩) (preVW hK hPc hDc (ci := 5) (r := (RX5, TX5, 12)) rfl rfl) rfl rfl hl.1 rfl (lv_room (Nat.le_of_ble_eq_true rfl)) dX5_lookBehindAll_38 ⟨Nat.le_of_ble_eq_true rfl, Nat.le_of_ble_eq_true rfl⟩) hS (fun q _ h => hFc q h) hFc (fun r2 ur2 t H1 locs ht hvm w3 hB hz1 hk1 hS => ?_)
    obtain ⟨u4, u5⟩ := ur2
    obtain ⟨hP1, hD1⟩ := hB
    rw [ht] at hP1
    obtain ⟨hP, hD⟩ := va_join (wr := [(tp, .inr (7, [.int (nI T), .ref ta])), (td, .inr (9, [.int (nI N), .int (nI B), .int (nI D), .ref a1, .ref a2, .ref a3, .ref a4, .ref a5, .ref a6]))]) (w1 := [(h0, .inr (5, [.ref tp, .ref td, .int u4, .int u5, .int x2, .int x3, .int (nI F), .int (nI P), .int x6, .int x7, .int x8, .int x9]))]) hP hD [0] [1, 2] rfl rfl (by decide +kernel) (by decide +kernel) hk1 hFc hP1 hD1
    generalize H1 = H at hP hS ⊢
    obtain ⟨w3, w3x⟩ := w3
    subst w3
    have ew3 : cRT 6 T (x0, x1, x3, F, P) = (u4, u5, x3, F, P) := (by show (flB _ _, flP _ _ _, _, _, _) = _; rw [← w3x.1, ← w3x.2])
    refine lv_pop hx hb dX5_lookBehindAll_41 rfl ?_
    refine lv_goto (tgt := 79) hx hb dX5_lookBehindAll_42 rfl ?_
    obtain ⟨hP9, hD9⟩ := va_sub2 (ws' := [(h0, .inr (5, [.ref tp, .ref td, .int u4, .int u5, .int x2, .int x3, .int (nI F), .int (nI P), .int x6, .int x7, .int x8, .int x9])), (tp, .inr (7, [.int (nI T), .ref ta])), (td, .inr (9, [.int (nI N), .int (nI B), .int (nI D), .ref a1, .ref a2, .ref a3, .ref a4, .ref a5, .ref a6]))]) hP hD [2, 0, 1] (by decide +kernel) rfl
    refine W.widen (k := 0) (n := 0) (Nat.le_of_ble_eq_true rfl) (Nat.le_of_ble_eq_true rfl) ?_
    have tn1507_ : nIT F := fun _ => nI_toInt (by first | omega | (have t_c1 := leI c1; omega))
    have tn1508_ : nIT P := fun _ => nI_toInt (by first | omega | (have t_c1 := leI c1; omega))
    exact W.vret hx hb hr (fun t ht hW => ⟨⟨(u4, u5), rfl, (by unfold cLB; (try (repeat (first | rw [if_pos (by with_reducible assumption)] | rw [if_neg (by with_reducible assumption)] | rw [if_pos (by first | exact c1)] | rw [if_neg (by first | exact c1)] | rw [if_pos (by (have t_c1 := leI c1; have tnb_ := nib6 tn1507_ tn1508_ tn1506_ tn1503_ tn1504_ tn1505_; have tqz_ := qz41_; omega))] | rw [if_neg (by (have t_c1 := leI c1; have tnb_ := nib6 tn1507_ tn1508_ tn1506_ tn1503_ tn1504_ tn1505_; have tqz_ := qz41_; omega))] | rw [if_pos (by decide)] | rw [if_neg (by decide)] | rw [if_pos (by skip; assumption)] | rw [if_neg (by skip; assumption)]))); (try rw [ew3]); all_goals rfl), ⟨by rw [ht]; exact hP9, hD9⟩⟩, hS.F ht⟩) hS.2.2 dX5_lookBehindAll_79
  · skip
    refine lv_aload_n hx hb dX5_lookBehindAll_14 rfl (lv_at hl 0 rfl) ?_
    refine va_get (D := (dC, dI)) (ci := 5) (v := .int x9) (C := RX5) (T := TX5) (N := 12) hx hb hg inG5 hown hK.1 hP 0 rfl rfl 11 (Nat.le_of_ble_eq_true rfl) (hg _ wt_121) (fun _ h9 => h9) rfl dX5_lookBehindAll_15 ?_
    refine lv_aload_n hx hb dX5_lookBehindAll_18 rfl (lv_at hl 0 rfl) ?_
    refine va_get (D := (dC, dI)) (ci := 5) (v := .ref td) (C := RX5) (T := TX5) (N := 12) hx hb hg inG5 hown hK.1 hP 0 rfl rfl 1 (Nat.le_of_ble_eq_true rfl) (hg _ wt_107) (fun _ h9 => h9) rfl dX5_lookBehindAll_19 ?_
    refine va_getN (D := (dC, dI)) (ci := 9) (v := .int (nI B)) (C := RX9) (T := TX9) (N := 9) hx hb hg inG9 hown hK.1 hP 2 rfl rfl 1 (Nat.le_of_ble_eq_true rfl) (hK.nest wn_65) (fun _ h9 => h9) rfl dX5_lookBehindAll_22 ?_
    refine lv_icmp_lt (tgt := 45) hx hb dX5_lookBehindAll_25 rfl (fun c6 => ?_) (fun c6 => ?_)
    · skip
      refine lv_aload_n hx hb dX5_lookBehindAll_45 rfl (lv_at hl 0 rfl) ?_
      refine va_get (D := (dC, dI)) (ci := 5) (v := .ref td) (C := RX5) (T := TX5) (N := 12) hx hb hg inG5 hown hK.1 hP 0 rfl rfl 1 (Nat.le_of_ble_eq_true rfl) (hg _ wt_107) (fun _ h9 => h9) rfl dX5_lookBehindAll_46 ?_
      refine va_getN (D := (dC, dI)) (ci := 9) (v := .int (nI N)) (C := RX9) (T := TX9) (N := 9) hx hb hg inG9 hown hK.1 hP 2 rfl rfl 0 (Nat.le_of_ble_eq_true rfl) (hK.nest wn_61) (fun _ h9 => h9) rfl dX5_lookBehindAll_49 ?_
      refine lv_if_le (tgt := 79) hx hb dX5_lookBehindAll_52 rfl (fun c7 => ?_) (fun c7 => ?_)
      · skip
        have n8 : N ≤ 0 := by have t := leI c7; rw [show (nI (N)).toInt = ((N : Nat) : Int) from tn1503_ ()] at t; have : (0 : Int32).toInt = 0 := qI_0; omega
        obtain ⟨hP9, hD9⟩ := va_sub2 (ws' := [(h0, .inr (5, [.ref tp, .ref td, .int x0, .int x1, .int x2, .int x3, .int (nI F), .int (nI P), .int x6, .int x7, .int x8, .int x9])), (tp, .inr (7, [.int (nI T), .ref ta])), (td, .inr (9, [.int (nI N), .int (nI B), .int (nI D), .ref a1, .ref a2, .ref a3, .ref a4, .ref a5, .ref a6]))]) hP hD [0, 1, 2] (by decide +kernel) rfl
        refine W.widen (k := 0) (n := 0) (Nat.le_of_ble_eq_true rfl) (Nat.le_of_ble_eq_true rfl) ?_
        have tn1509_ : nIT F := fun _ => nI_toInt (by first | omega | (have t_c1 := nleI c1; have t_c6 := ltI c6; have t_n8 := n8; omega))
        have tn1510_ : nIT P := fun _ => nI_toInt (by first | omega | (have t_c1 := nleI c1; have t_c6 := ltI c6; have t_n8 := n8; omega))
        exact W.vret hx hb hr (fun t ht hW => ⟨⟨(x0, x1), rfl, (by unfold cLB; (try (repeat (first | rw [if_pos (by with_reducible assumption)] | rw [if_neg (by with_reducible assumption)] | rw [if_pos (by first | exact c1 | exact c6)] | rw [if_neg (by first | exact c1 | exact c6)] | rw [if_pos (by (have t_c1 := nleI c1; have t_c6 := ltI c6; have t_n8 := n8; have tnb_ := nib6 tn1509_ tn1510_ tn1506_ tn1503_ tn1504_ tn1505_; have tqz_ := qz41_; omega))] | rw [if_neg (by (have t_c1 := nleI c1; have t_c6 := ltI c6; have t_n8 := n8; have tnb_ := nib6 tn1509_ tn1510_ tn1506_ tn1503_ tn1504_ tn1505_; have tqz_ := qz41_; omega))] | rw [if_pos (by decide)] | rw [if_neg (by decide)] | rw [if_pos (by skip; assumption)] | rw [if_neg (by skip; assumption)]))); all_goals rfl), ⟨by rw [ht]; exact hP9, hD9⟩⟩, hS.F ht⟩) hS.2.2 dX5_lookBehindAll_79
      · skip
        have n9 : 0 < N := by have t := nleI c7; rw [show (nI (N)).toInt = ((N : Nat) : Int) from tn1503_ ()] at t; have : (0 : Int32).toInt = 0 := qI_0; omega
        refine lv_aload_n hx hb dX5_lookBehindAll_55 rfl (lv_at hl 0 rfl) ?_
        refine va_get (D := (dC, dI)) (ci := 5) (v := .ref td) (C := RX5) (T := TX5) (N := 12) hx hb hg inG5 hown hK.1 hP 0 rfl rfl 1 (Nat.le_of_ble_eq_true rfl) (hg _ wt_107) (fun _ h9 => h9) rfl dX5_lookBehindAll_56 ?_
        refine va_getN (D := (dC, dI)) (ci := 9) (v := .int (nI B)) (C := RX9) (T := TX9) (N := 9) hx hb hg inG9 hown hK.1 hP 2 rfl rfl 1 (Nat.le_of_ble_eq_true rfl) (hK.nest wn_65) (fun _ h9 => h9) rfl dX5_lookBehindAll_59 ?_
        refine lv_if_ne (tgt := 79) hx hb dX5_lookBehindAll_62 rfl (fun c10 => ?_) (fun c10 => ?_)
        · skip
          have n11 : B ≠ 0 := by have t := neI c10; rw [show (nI (B)).toInt = ((B : Nat) : Int) from tn1504_ ()] at t; have : (0 : Int32).toInt = 0 := qI_0; omega
          obtain ⟨hP9, hD9⟩ := va_sub2 (ws' := [(h0, .inr (5, [.ref tp, .ref td, .int x0, .int x1, .int x2, .int x3, .int (nI F), .int (nI P), .int x6, .int x7, .int x8, .int x9])), (tp, .inr (7, [.int (nI T), .ref ta])), (td, .inr (9, [.int (nI N), .int (nI B), .int (nI D), .ref a1, .ref a2, .ref a3, .ref a4, .ref a5, .ref a6]))]) hP hD [0, 1, 2] (by decide +kernel) rfl
          refine W.widen (k := 0) (n := 0) (Nat.le_of_ble_eq_true rfl) (Nat.le_of_ble_eq_true rfl) ?_
          have tn1511_ : nIT F := fun _ => nI_toInt (by first | omega | (have t_c1 := nleI c1; have t_c6 := ltI c6; have t_n9 := n9; have t_n11 := n11; omega))
          have tn1512_ : nIT P := fun _ => nI_toInt (by first | omega | (have t_c1 := nleI c1; have t_c6 := ltI c6; have t_n9 := n9; have t_n11 := n11; omega))
          exact W.vret hx hb hr (fun t ht hW => ⟨⟨(x0, x1), rfl, (by unfold cLB; (try (repeat (first | rw [if_pos (by with_reducible assumption)] | rw [if_neg (by with_reducible assumption)] | rw [if_pos (by first | exact c1 | exact c6)] | rw [if_neg (by first | exact c1 | exact c6)] | rw [if_pos (by (have t_c1 := nleI c1; have t_c6 := ltI c6; have t_n9 := n9; have t_n11 := n11; have tnb_ := nib6 tn1511_ tn1512_ tn1506_ tn1503_ tn1504_ tn1505_; have tqz_ := qz41_; omega))] | rw [if_neg (by (have t_c1 := nleI c1; have t_c6 := ltI c6; have t_n9 := n9; have t_n11 := n11; have tnb_ := nib6 tn1511_ tn1512_ tn1506_ tn1503_ tn1504_ tn1505_; have tqz_ := qz41_; omega))] | rw [if_pos (by decide)] | rw [if_neg (by decide)] | rw [if_pos (by skip; assumption)] | rw [if_neg (by skip; assumption)]))); all_goals rfl), ⟨by rw [ht]; exact hP9, hD9⟩⟩, hS.F ht⟩) hS.2.2 dX5_lookBehindAll_79
        · skip
          have n12 : B = 0 := by have t := eqI c10; rw [show (nI (B)).toInt = ((B : Nat) : Int) from tn1504_ ()] at t; have : (0 : Int32).toInt = 0 := qI_0; omega
          refine lv_aload_n hx hb dX5_lookBehindAll_65 rfl (lv_at hl 0 rfl) ?_
          refine lv_bipush (v := 7) hx hb dX5_lookBehindAll_66 rfl ?_
          refine lv_aload_n hx hb dX5_lookBehindAll_68 rfl (lv_at hl 0 rfl) ?_
          refine va_get (D := (dC, dI)) (ci := 5) (v := .ref tp) (C := RX5) (T := TX5) (N := 12) hx hb hg inG5 hown hK.1 hP 0 rfl rfl 0 (Nat.le_of_ble_eq_true rfl) (hg _ wt_105) (fun _ h9 => h9) rfl dX5_lookBehindAll_69 ?_
          refine va_getN (D := (dC, dI)) (ci := 7) (v := .int (nI T)) (C := RX7) (T := TX7) (N := 2) hx hb hg inG7 hown hK.1 hP 1 rfl rfl 0 (Nat.le_of_ble_eq_true rfl) (hK.nest wn_41) (fun _ h9 => h9) rfl dX5_lookBehindAll_72 ?_
          obtain ⟨hPc, hDc, hFc⟩ := va_sub3 (ws' := [(h0, .inr (5, [.ref tp, .ref td, .int x0, .int x1, .int x2, .int x3, .int (nI F), .int (nI P), .int x6, .int x7, .int x8, .int x9]))]) hP hD hS hA [0] (by decide +kernel) rfl
          refine va_calli (va_runV (As := [.int 7, .int (nI T)]) (rest := []) ⟨hx, hb, hml, hown, hg⟩ (c_X5_refuseE l dC dI G _ h0 tp td x0 x1 x2 x3 (nI F) (nI P) x6 x7 x8 x9 7 (nI T)) (kwV hg mfX5_refuse wt_386 ⟨Nat.le_of_ble_eq_true rfl, Nat.le_of_ble_eq_true rfl⟩) (preVW hK hPc hDc (ci := 5) (r := (RX5, TX5, 12)) rfl rfl) rfl rfl hl.1 rfl (lv_room (Nat.le_of_ble_eq_true rfl)) dX5_lookBehindAll_75 ⟨Nat.le_of_ble_eq_true rfl, Nat.le_of_ble_eq_true rfl⟩) hS (fun q _ h => hFc q h) hFc (fun r13 ur13 t H1 locs ht hvm w14 hB hz1 hk1 hS => ?_)
          obtain ⟨u15, u16⟩ := ur13
          obtain ⟨hP1, hD1⟩ := hB
          rw [ht] at hP1
          obtain ⟨hP, hD⟩ := va_join (wr := [(tp, .inr (7, [.int (nI T), .ref ta])), (td, .inr (9, [.int (nI N), .int (nI B), .int (nI D), .ref a1, .ref a2, .ref a3, .ref a4, .ref a5, .ref a6]))]) (w1 := [(h0, .inr (5, [.ref tp, .ref td, .int u15, .int u16, .int x2, .int x3, .int (nI F), .int (nI P), .int x6, .int x7, .int x8, .int x9]))]) hP hD [0] [1, 2] rfl rfl (by decide +kernel) (by decide +kernel) hk1 hFc hP1 hD1
          generalize H1 = H at hP hS ⊢
          obtain ⟨w14, w14x⟩ := w14
          subst w14
          have ew14 : cRT 7 T (x0, x1, x3, F, P) = (u15, u16, x3, F, P) := (by show (flB _ _, flP _ _ _, _, _, _) = _; rw [← w14x.1, ← w14x.2])
          refine lv_pop hx hb dX5_lookBehindAll_78 rfl ?_
          obtain ⟨hP9, hD9⟩ := va_sub2 (ws' := [(h0, .inr (5, [.ref tp, .ref td, .int u15, .int u16, .int x2, .int x3, .int (nI F), .int (nI P), .int x6, .int x7, .int x8, .int x9])), (tp, .inr (7, [.int (nI T), .ref ta])), (td, .inr (9, [.int (nI N), .int (nI B), .int (nI D), .ref a1, .ref a2, .ref a3, .ref a4, .ref a5, .ref a6]))]) hP hD [2, 0, 1] (by decide +kernel) rfl
          refine W.widen (k := 0) (n := 0) (Nat.le_of_ble_eq_true rfl) (Nat.le_of_ble_eq_true rfl) ?_
          have tn1513_ : nIT F := fun _ => nI_toInt (by first | omega | (have t_c1 := nleI c1; have t_c6 := ltI c6; have t_n9 := n9; have t_n12 := n12; omega))
          have tn1514_ : nIT P := fun _ => nI_toInt (by first | omega | (have t_c1 := nleI c1; have t_c6 := ltI c6; have t_n9 := n9; have t_n12 := n12; omega))
          exact W.vret hx hb hr (fun t ht hW => ⟨⟨(u15, u16), rfl, (by unfold cLB; (try (repeat (first | rw [if_pos (by with_reducible assumption)] | rw [if_neg (by with_reducible assumption)] | rw [if_pos (by first | exact c1 | exact c6)] | rw [if_neg (by first | exact c1 | exact c6)] | rw [if_pos (by (have t_c1 := nleI c1; have t_c6 := ltI c6; have t_n9 := n9; have t_n12 := n12; have tnb_ := nib6 tn1513_ tn1514_ tn1506_ tn1503_ tn1504_ tn1505_; have tqz_ := qz41_; omega))] | rw [if_neg (by (have t_c1 := nleI c1; have t_c6 := ltI c6; have t_n9 := n9; have t_n12 := n12; have tnb_ := nib6 tn1513_ tn1514_ tn1506_ tn1503_ tn1504_ tn1505_; have tqz_ := qz41_; omega))] | rw [if_pos (by decide)] | rw [if_neg (by decide)] | rw [if_pos (by skip; assumption)] | rw [if_neg (by skip; assumption)]))); (try rw [ew14]); all_goals rfl), ⟨by rw [ht]; exact hP9, hD9⟩⟩, hS.F ht⟩) hS.2.2 dX5_lookBehindAll_79
    · skip
      refine lv_aload_n hx hb dX5_lookBehindAll_28 rfl (lv_at hl 0 rfl) ?_
      refine lv_bipush (v := 6) hx hb dX5_lookBehindAll_29 rfl ?_
      refine lv_aload_n hx hb dX5_lookBehindAll_31 rfl (lv_at hl 0 rfl) ?_
      refine va_get (D := (dC, dI)) (ci := 5) (v := .ref tp) (C := RX5) (T := TX5) (N := 12) hx hb hg inG5 hown hK.1 hP 0 rfl rfl 0 (Nat.le_of_ble_eq_true rfl) (hg _ wt_105) (fun _ h9 => h9) rfl dX5_lookBehindAll_32 ?_
      refine va_getN (D := (dC, dI)) (ci := 7) (v := .int (nI T)) (C := RX7) (T := TX7) (N := 2) hx hb hg inG7 hown hK.1 hP 1 rfl rfl 0 (Nat.le_of_ble_eq_true rfl) (hK.nest wn_41) (fun _ h9 => h9) rfl dX5_lookBehindAll_35 ?_
      obtain ⟨hPc, hDc, hFc⟩ := va_sub3 (ws' := [(h0, .inr (5, [.ref tp, .ref td, .int x0, .int x1, .int x2, .int x3, .int (nI F), .int (nI P), .int x6, .int x7, .int x8, .int x9]))]) hP hD hS hA [0] (by decide +kernel) rfl
      refine va_calli (va_runV (As := [.int 6, .int (nI T)]) (rest := []) ⟨hx, hb, hml, hown, hg⟩ (c_X5_refuseE l dC dI G _ h0 tp td x0 x1 x2 x3 (nI F) (nI P) x6 x7 x8 x9 6 (nI T)) (kwV hg mfX5_refuse wt_386 ⟨Nat.le_of_ble_eq_true rfl, Nat.le_of_ble_eq_true rfl⟩) (preVW hK hPc hDc (ci := 5) (r := (RX5, TX5, 12)) rfl rfl) rfl rfl hl.1 rfl (lv_room (Nat.le_of_ble_eq_true rfl)) dX5_lookBehindAll_38 ⟨Nat.le_of_ble_eq_true rfl, Nat.le_of_ble_eq_true rfl⟩) hS (fun q _ h => hFc q h) hFc (fun r17 ur17 t H1 locs ht hvm w18 hB hz1 hk1 hS => ?_)
      obtain ⟨u19, u20⟩ := ur17
      obtain ⟨hP1, hD1⟩ := hB
      rw [ht] at hP1
      obtain ⟨hP, hD⟩ := va_join (wr := [(tp, .inr (7, [.int (nI T), .ref ta])), (td, .inr (9, [.int (nI N), .int (nI B), .int (nI D), .ref a1, .ref a2, .ref a3, .ref a4, .ref a5, .ref a6]))]) (w1 := [(h0, .inr (5, [.ref tp, .ref td, .int u19, .int u20, .int x2, .int x3, .int (nI F), .int (nI P), .int x6, .int x7, .int x8, .int x9]))]) hP hD [0] [1, 2] rfl rfl (by decide +kernel) (by decide +kernel) hk1 hFc hP1 hD1
      generalize H1 = H at hP hS ⊢
      obtain ⟨w18, w18x⟩ := w18
      subst w18
      have ew18 : cRT 6 T (x0, x1, x3, F, P) = (u19, u20, x3, F, P) := (by show (flB _ _, flP _ _ _, _, _, _) = _; rw [← w18x.1, ← w18x.2])
      refine lv_pop hx hb dX5_lookBehindAll_41 rfl ?_
      refine lv_goto (tgt := 79) hx hb dX5_lookBehindAll_42 rfl ?_
      obtain ⟨hP9, hD9⟩ := va_sub2 (ws' := [(h0, .inr (5, [.ref tp, .ref td, .int u19, .int u20, .int x2, .int x3, .int (nI F), .int (nI P), .int x6, .int x7, .int x8, .int x9])), (tp, .inr (7, [.int (nI T), .ref ta])), (td, .inr (9, [.int (nI N), .int (nI B), .int (nI D), .ref a1, .ref a2, .ref a3, .ref a4, .ref a5, .ref a6]))]) hP hD [2, 0, 1] (by decide +kernel) rfl
      refine W.widen (k := 0) (n := 0) (Nat.le_of_ble_eq_true rfl) (Nat.le_of_ble_eq_true rfl) ?_
      have tn1515_ : nIT F := fun _ => nI_toInt (by first | omega | (have t_c1 := nleI c1; have t_c6 := nltI c6; omega))
      have tn1516_ : nIT P := fun _ => nI_toInt (by first | omega | (have t_c1 := nleI c1; have t_c6 := nltI c6; omega))
      exact W.vret hx hb hr (fun t ht hW => ⟨⟨(u19, u20), rfl, (by unfold cLB; (try (repeat (first | rw [if_pos (by with_reducible assumption)] | rw [if_neg (by with_reducible assumption)] | rw [if_pos (by first | exact c1 | exact c6)] | rw [if_neg (by first | exact c1 | exact c6)] | rw [if_pos (by (have t_c1 := nleI c1; have t_c6 := nltI c6; have tnb_ := nib6 tn1515_ tn1516_ tn1506_ tn1503_ tn1504_ tn1505_; have tqz_ := qz41_; omega))] | rw [if_neg (by (have t_c1 := nleI c1; have t_c6 := nltI c6; have tnb_ := nib6 tn1515_ tn1516_ tn1506_ tn1503_ tn1504_ tn1505_; have tqz_ := qz41_; omega))] | rw [if_pos (by decide)] | rw [if_neg (by decide)] | rw [if_pos (by skip; assumption)] | rw [if_neg (by skip; assumption)]))); (try rw [ew18]); all_goals rfl), ⟨by rw [ht]; exact hP9, hD9⟩⟩, hS.F ht⟩) hS.2.2 dX5_lookBehindAll_79

set_option maxHeartbeats 8000000 in
set_option maxRecDepth 100000 in
theorem c_X5_readAllE (l : Launch) (dC : Nat → ClassId) (dI : Nat → Nat → Nat) (G : Nat → ClassId) (sz : Nat) (h0 tp td ta T a1 a2 a3 a4 a5 a6 N B D : Nat) (x0 x1 x2 x3 x6 x7 x8 x9 x4 x5 : Int32) (f g1 g2 g3 g4 g5 g6 : Nat → Int32) (adK adV : Nat → Nat) (hT : T ≤ 320) (hN_N : N ≤ 10) (hB_B : B ≤ 6) (hD_D : 1 ≤ D ∧ D ≤ 9) : Met l yX5_readAll (Cond.code yX5_readAll cX5_readAll 2 none :: GT) ({ frames := 9, cells := 0, slots := 0, locals := 192 } : Room) (PcWS [.ref h0] dC dI G [(h0, .inr (5, [.ref tp, .ref td, .int x0, .int x1, .int x2, .int x3, .int x4, .int x5, .int x6, .int x7, .int x8, .int x9])), (tp, .inr (7, [.int (nI T), .ref ta])), (ta, .inl (G 0, 320, .inl f)), (td, .inr (9, [.int (nI N), .int (nI B), .int (nI D), .ref a1, .ref a2, .ref a3, .ref a4, .ref a5, .ref a6])), (a1, .inl (G 0, 10, .inl g1)), (a2, .inl (G 0, 10, .inl g2)), (a3, .inl (G 0, 10, .inl g3)), (a4, .inl (G 0, 6, .inl g4)), (a5, .inl (G 0, 6, .inl g5)), (a6, .inl (G 0, 6, .inl g6))] adK adV sz) (va_Qv (fun (u : Int32 × Int32 × Int32 × Int32 × Nat × Nat × Int32 × Int32 × Int32 × Int32 × Nat × Nat × Nat × (Nat → Int32) × (Nat → Int32) × (Nat → Int32) × (Nat → Int32) × (Nat → Int32) × (Nat → Int32)) => match u with | (u0, u1, u2, u3, u4, u5, u6, u7, u8, u9, n0, n1, n2, v1, v2, v3, v4, v5, v6) => (n0 ≤ 10 ∧ n1 ≤ 6 ∧ (1 ≤ n2 ∧ n2 ≤ 9)) ∧ (u0, u1, u3, u4, u5) = cFN T (cRA f T x3 g1 g2 g3 g4 g5 g6).1 ∧ (u6, u7, u8, u9, n0, n1, n2, v1, v2, v3, v4, v5, v6) = (cRA f T x3 g1 g2 g3 g4 g5 g6).1.2 ∧ u2 = (cRA f T x3 g1 g2 g3 g4 g5 g6).2) (fun (u : Int32 × Int32 × Int32 × Int32 × Nat × Nat × Int32 × Int32 × Int32 × Int32 × Nat × Nat × Nat × (Nat → Int32) × (Nat → Int32) × (Nat → Int32) × (Nat → Int32) × (Nat → Int32) × (Nat → Int32)) (t : State) => match u with | (u0, u1, u2, u3, u4, u5, u6, u7, u8, u9, n0, n1, n2, v1, v2, v3, v4, v5, v6) => va_P (dC, dI) vwCl [(h0, .inr (5, [.ref tp, .ref td, .int u0, .int u1, .int u2, .int u3, .int (nI u4), .int (nI u5), .int u6, .int u7, .int u8, .int u9])), (tp, .inr (7, [.int (nI T), .ref ta])), (ta, .inl (G 0, 320, .inl f)), (td, .inr (9, [.int (nI n0), .int (nI n1), .int (nI n2), .ref a1, .ref a2, .ref a3, .ref a4, .ref a5, .ref a6])), (a1, .inl (G 0, 10, .inl v1)), (a2, .inl (G 0, 10, .inl v2)), (a3, .inl (G 0, 10, .inl v3)), (a4, .inl (G 0, 6, .inl v4)), (a5, .inl (G 0, 6, .inl v5)), (a6, .inl (G 0, 6, .inl v6))] t.heap ∧ va_D (va_A [(h0, .inr (5, [.ref tp, .ref td, .int x0, .int x1, .int x2, .int x3, .int x4, .int x5, .int x6, .int x7, .int x8, .int x9])), (tp, .inr (7, [.int (nI T), .ref ta])), (ta, .inl (G 0, 320, .inl f)), (td, .inr (9, [.int (nI N), .int (nI B), .int (nI D), .ref a1, .ref a2, .ref a3, .ref a4, .ref a5, .ref a6])), (a1, .inl (G 0, 10, .inl g1)), (a2, .inl (G 0, 10, .inl g2)), (a3, .inl (G 0, 10, .inl g3)), (a4, .inl (G 0, 6, .inl g4)), (a5, .inl (G 0, 6, .inl g5)), (a6, .inl (G 0, 6, .inl g6))] sz) [(h0, .inr (5, [.ref tp, .ref td, .int u0, .int u1, .int u2, .int u3, .int (nI u4), .int (nI u5), .int u6, .int u7, .int u8, .int u9])), (tp, .inr (7, [.int (nI T), .ref ta])), (ta, .inl (G 0, 320, .inl f)), (td, .inr (9, [.int (nI n0), .int (nI n1), .int (nI n2), .ref a1, .ref a2, .ref a3, .ref a4, .ref a5, .ref a6])), (a1, .inl (G 0, 10, .inl v1)), (a2, .inl (G 0, 10, .inl v2)), (a3, .inl (G 0, 10, .inl v3)), (a4, .inl (G 0, 6, .inl v4)), (a5, .inl (G 0, 6, .inl v5)), (a6, .inl (G 0, 6, .inl v6))]) (va_A [(h0, .inr (5, [.ref tp, .ref td, .int x0, .int x1, .int x2, .int x3, .int x4, .int x5, .int x6, .int x7, .int x8, .int x9])), (tp, .inr (7, [.int (nI T), .ref ta])), (ta, .inl (G 0, 320, .inl f)), (td, .inr (9, [.int (nI N), .int (nI B), .int (nI D), .ref a1, .ref a2, .ref a3, .ref a4, .ref a5, .ref a6])), (a1, .inl (G 0, 10, .inl g1)), (a2, .inl (G 0, 10, .inl g2)), (a3, .inl (G 0, 10, .inl g3)), (a4, .inl (G 0, 6, .inl g4)), (a5, .inl (G 0, 6, .inl g5)), (a6, .inl (G 0, 6, .inl g6))] sz)) 0 0 (va_A [(h0, .inr (5, [.ref tp, .ref td, .int x0, .int x1, .int x2, .int x3, .int x4, .int x5, .int x6, .int x7, .int x8, .int x9])), (tp, .inr (7, [.int (nI T), .ref ta])), (ta, .inl (G 0, 320, .inl f)), (td, .inr (9, [.int (nI N), .int (nI B), .int (nI D), .ref a1, .ref a2, .ref a3, .ref a4, .ref a5, .ref a6])), (a1, .inl (G 0, 10, .inl g1)), (a2, .inl (G 0, 10, .inl g2)), (a3, .inl (G 0, 10, .inl g3)), (a4, .inl (G 0, 6, .inl g4)), (a5, .inl (G 0, 6, .inl g5)), (a6, .inl (G 0, 6, .inl g6))] sz) := by
  have hT_ := hT
  have tn1517_ : nIT N := fun _ => nI_toInt (by omega)
  have tn1518_ : nIT B := fun _ => nI_toInt (by omega)
  have tn1519_ : nIT D := fun _ => nI_toInt (by omega)
  have tn1520_ : nIT T := fun _ => nI_toInt (by omega)
  refine Met.ofW (cc := cX5_readAll) (maxL := 2) (ret := none) (by decide) rfl ?_
  intro p e s m args below meth c s₁ Bd hml hv
  obtain ⟨rfl, hsz, hP, hK, hD0, hSS⟩ := hv
  have hx := Bd.exec
  have hb := Bd.bytes
  have hr := Bd.returns
  have hg : ∀ w ∈ GT, w.before ([.ref h0] : List Value).toArray s = true := fun w h => atoms_spec (ws := Cond.code yX5_readAll cX5_readAll 2 none :: GT) Bd.pre w (List.mem_cons_of_mem _ h)
  have hown : s.vm.findClass RX5 = some m.cls := findClass_of_methodNamed Bd.named
  have hlocks := Bd.notSynchronized
  subst hsz
  have hD := hD0.self (sz := s.heap.size)
  generalize hAe : va_A [(h0, .inr (5, [.ref tp, .ref td, .int x0, .int x1, .int x2, .int x3, .int x4, .int x5, .int x6, .int x7, .int x8, .int x9])), (tp, .inr (7, [.int (nI T), .ref ta])), (ta, .inl (G 0, 320, .inl f)), (td, .inr (9, [.int (nI N), .int (nI B), .int (nI D), .ref a1, .ref a2, .ref a3, .ref a4, .ref a5, .ref a6])), (a1, .inl (G 0, 10, .inl g1)), (a2, .inl (G 0, 10, .inl g2)), (a3, .inl (G 0, 10, .inl g3)), (a4, .inl (G 0, 6, .inl g4)), (a5, .inl (G 0, 6, .inl g5)), (a6, .inl (G 0, 6, .inl g6))] s.heap.size = A at hD hSS ⊢
  have hA : ∀ q : Nat, s.heap.size ≤ q → A q := fun q h => by rw [← hAe]; exact Or.inr h
  have hS : va_S A s.heap s.heap [] := va_S.rf
  have hl := lv_entry ([.ref h0]) (n := 2) (Nat.le_of_ble_eq_true rfl)
  rw [lg_entry_eq]
  generalize (lg_sl ([.ref h0]) ++ List.replicate (2 - (lg_sl ([.ref h0])).length) Slot.unset).toArray = ls at hl ⊢
  have hl : lv_has ls 2 [(0, .ref h0)] := hl
  refine lv_aload_n hx hb dX5_readAll_0 rfl (lv_at hl 0 rfl) ?_
  obtain ⟨hPc, hDc, hFc⟩ := va_sub3 (ws' := [(h0, .inr (5, [.ref tp, .ref td, .int x0, .int x1, .int x2, .int x3, .int x4, .int x5, .int x6, .int x7, .int x8, .int x9])), (td, .inr (9, [.int (nI N), .int (nI B), .int (nI D), .ref a1, .ref a2, .ref a3, .ref a4, .ref a5, .ref a6])), (a3, .inl (G 0, 10, .inl g3))]) hP hD hS hA [0, 3, 6] (by decide +kernel) rfl
  refine va_callv (va_runV (As := []) (rest := []) ⟨hx, hb, hml, hown, hg⟩ (c_X5_beginE l dC dI G _ h0 tp td a1 a2 a3 a4 a5 a6 x0 x1 x2 x3 x4 x5 x6 x7 x8 x9 (nI N) (nI B) (nI D) g3) (kwV hg mfX5_begin wt_366 ⟨Nat.le_of_ble_eq_true rfl, Nat.le_of_ble_eq_true rfl⟩) (preVW hK hPc hDc (ci := 5) (r := (RX5, TX5, 12)) rfl rfl) rfl rfl hl.1 rfl (lv_room (Nat.le_of_ble_eq_true rfl)) dX5_readAll_1 ⟨Nat.le_of_ble_eq_true rfl, Nat.le_of_ble_eq_true rfl⟩) hS (fun q _ h => hFc q h) hFc (fun ur1 t H1 locs ht hvm w2 hB hz1 hk1 hS => ?_)
  obtain ⟨u3, rfl⟩ : ∃ z, z = ur1 := ⟨_, rfl⟩
  obtain ⟨hP1, hD1⟩ := hB
  rw [ht] at hP1
  obtain ⟨hP, hD⟩ := va_join (wr := [(tp, .inr (7, [.int (nI T), .ref ta])), (ta, .inl (G 0, 320, .inl f)), (a1, .inl (G 0, 10, .inl g1)), (a2, .inl (G 0, 10, .inl g2)), (a4, .inl (G 0, 6, .inl g4)), (a5, .inl (G 0, 6, .inl g5)), (a6, .inl (G 0, 6, .inl g6))]) (w1 := [(h0, .inr (5, [.ref tp, .ref td, .int 0, .int 0, .int 0, .int x3, .int x4, .int 0, .int 0, .int 0, .int (-4), .int (-4)])), (td, .inr (9, [.int 0, .int 0, .int 5, .ref a1, .ref a2, .ref a3, .ref a4, .ref a5, .ref a6])), (a3, .inl (G 0, 10, .inl u3))]) hP hD [0, 3, 6] [1, 2, 4, 5, 7, 8, 9] rfl rfl (by decide +kernel) (by decide +kernel) hk1 hFc hP1 hD1
  have w2 : u3 = zpF 10 g3 := w2
  generalize H1 = H at hP hS ⊢
  refine lv_aload_n hx hb dX5_readAll_4 rfl (lv_at hl 0 rfl) ?_
  obtain ⟨hPc, hDc, hFc⟩ := va_sub3 (ws' := [(h0, .inr (5, [.ref tp, .ref td, .int 0, .int 0, .int 0, .int x3, .int x4, .int 0, .int 0, .int 0, .int (-4), .int (-4)])), (tp, .inr (7, [.int (nI T), .ref ta])), (ta, .inl (G 0, 320, .inl f))]) hP hD hS hA [7, 0, 1] (by decide +kernel) rfl
  refine va_calli (va_runV (As := []) (rest := []) ⟨hx, hb, hml, hown, hg⟩ (c_X5_nextTokenE l dC dI G _ h0 tp td ta T 0 0 0 0 x3 0 0 (-4) (-4) x4 f hT_ (by first | omega | (have tnb_ := nib4 tn1520_ tn1517_ tn1518_ tn1519_; omega))) (kwV hg mfX5_nextToken wt_374 ⟨Nat.le_of_ble_eq_true rfl, Nat.le_of_ble_eq_true rfl⟩) (preVW hK hPc hDc (ci := 5) (r := (RX5, TX5, 12)) rfl rfl) rfl rfl hl.1 rfl (lv_room (Nat.le_of_ble_eq_true rfl)) dX5_readAll_5 ⟨Nat.le_of_ble_eq_true rfl, Nat.le_of_ble_eq_true rfl⟩) hS (fun q _ h => hFc q h) hFc (fun r4 ur4 t H1 locs ht hvm w5 hB hz1 hk1 hS => ?_)
  obtain ⟨u6, u7, u8, u9, u10⟩ := ur4
  obtain ⟨hP1, hD1⟩ := hB
  rw [ht] at hP1
  obtain ⟨hP, hD⟩ := va_join (wr := [(a1, .inl (G 0, 10, .inl g1)), (a2, .inl (G 0, 10, .inl g2)), (a4, .inl (G 0, 6, .inl g4)), (a5, .inl (G 0, 6, .inl g5)), (a6, .inl (G 0, 6, .inl g6)), (td, .inr (9, [.int 0, .int 0, .int 5, .ref a1, .ref a2, .ref a3, .ref a4, .ref a5, .ref a6])), (a3, .inl (G 0, 10, .inl u3))]) (w1 := [(h0, .inr (5, [.ref tp, .ref td, .int u6, .int u7, .int 0, .int u8, .int (nI u9), .int (nI u10), .int 0, .int 0, .int (-4), .int (-4)])), (tp, .inr (7, [.int (nI T), .ref ta])), (ta, .inl (G 0, 320, .inl f))]) hP hD [7, 0, 1] [2, 3, 4, 5, 6, 8, 9] rfl rfl (by decide +kernel) (by decide +kernel) hk1 hFc hP1 hD1
  generalize H1 = H at hP hS ⊢
  obtain ⟨w5, w5x⟩ := w5
  have vw5 : tNG f T (0, 0, x3, 0, 0) = r4 := w5.symm
  have ew5 : tNT f T (0, 0, x3, 0, 0) = (u6, u7, u8, u9, u10) := w5x.2.2.symm
  refine lv_pop hx hb dX5_readAll_8 rfl ?_
  have hq0 : (((u6, u7, u8, u9, u10), 0, 0, (-4), (-4), 0, 0, 5, g1, g2, u3, g4, g5, g6) : CW) = cQ0 f T x3 g1 g2 g3 g4 g5 g6 := (by unfold cQ0; rw [ew5, w2])
  refine lv_iconst (v := 0) hx hb dX5_readAll_9 rfl ?_
  refine lv_istore_n (lv' := [(1, .int 0), (0, .ref h0)]) hx hb dX5_readAll_10 rfl hl (by decide) rfl (fun ls hl => ?_)
  have loop11_36 : ∀ (nf j11 : Nat), 321 + 1 ≤ j11 + nf → j11 ≤ 321 → ∀ (g12 : Nat → Int32) (g13 : Nat → Int32) (g14 : Nat → Int32) (g15 : Nat → Int32) (g16 : Nat → Int32) (k18 : Nat) (k20 : Nat) (k22 : Nat) (g23 : Nat → Int32) (y24 : Int32) (y25 : Int32) (y26 : Int32) (y27 : Int32) (k29 : Nat) (k31 : Nat) (y32 : Int32) (y33 : Int32) (y34 : Int32) (y35 : Int32) (H : Heap) (locs : List Loc), (k29 ≤ k31 ∧ k31 ≤ T ∧ k18 ≤ 10 ∧ k20 ≤ 6 ∧ (1 ≤ k22 ∧ k22 ≤ 9) ∧ cLP f T (T + 1 - j11) (((y24, y25, y27, k29, k31), y32, y33, y34, y35, k18, k20, k22, g12, g13, g23, g14, g15, g16) : CW) y26 = cLP f T (T + 1) (((u6, u7, u8, u9, u10), 0, 0, (-4), (-4), 0, 0, 5, g1, g2, u3, g4, g5, g6) : CW) 0) → va_P (dC, dI) vwCl [(a1, .inl (G 0, 10, .inl g12)), (a2, .inl (G 0, 10, .inl g13)), (a4, .inl (G 0, 6, .inl g14)), (a5, .inl (G 0, 6, .inl g15)), (a6, .inl (G 0, 6, .inl g16)), (td, .inr (9, [.int (nI k18), .int (nI k20), .int (nI k22), .ref a1, .ref a2, .ref a3, .ref a4, .ref a5, .ref a6])), (a3, .inl (G 0, 10, .inl g23)), (h0, .inr (5, [.ref tp, .ref td, .int y24, .int y25, .int y26, .int y27, .int (nI k29), .int (nI k31), .int y32, .int y33, .int y34, .int y35])), (tp, .inr (7, [.int (nI T), .ref ta])), (ta, .inl (G 0, 320, .inl f))] H → va_D A [(a1, .inl (G 0, 10, .inl g12)), (a2, .inl (G 0, 10, .inl g13)), (a4, .inl (G 0, 6, .inl g14)), (a5, .inl (G 0, 6, .inl g15)), (a6, .inl (G 0, 6, .inl g16)), (td, .inr (9, [.int (nI k18), .int (nI k20), .int (nI k22), .ref a1, .ref a2, .ref a3, .ref a4, .ref a5, .ref a6])), (a3, .inl (G 0, 10, .inl g23)), (h0, .inr (5, [.ref tp, .ref td, .int y24, .int y25, .int y26, .int y27, .int (nI k29), .int (nI k31), .int y32, .int y33, .int y34, .int y35])), (tp, .inr (7, [.int (nI T), .ref ta])), (ta, .inl (G 0, 320, .inl f))] → va_S A s.heap H locs → ∀ (ls : Array Slot), lv_has ls 2 [(1, .int (nI j11)), (0, .ref h0)] → W p l e (headSpec (Cond.code yX5_readAll cX5_readAll 2 none :: GT) ({ frames := 9, cells := 0, slots := 0, locals := 192 } : Room)).room s m ([.ref h0] : List Value).toArray below meth c H locs 0 0 (MQ below (va_Qv (fun (u : Int32 × Int32 × Int32 × Int32 × Nat × Nat × Int32 × Int32 × Int32 × Int32 × Nat × Nat × Nat × (Nat → Int32) × (Nat → Int32) × (Nat → Int32) × (Nat → Int32) × (Nat → Int32) × (Nat → Int32)) => match u with | (u0, u1, u2, u3, u4, u5, u6, u7, u8, u9, n0, n1, n2, v1, v2, v3, v4, v5, v6) => (n0 ≤ 10 ∧ n1 ≤ 6 ∧ (1 ≤ n2 ∧ n2 ≤ 9)) ∧ (u0, u1, u3, u4, u5) = cFN T (cRA f T x3 g1 g2 g3 g4 g5 g6).1 ∧ (u6, u7, u8, u9, n0, n1, n2, v1, v2, v3, v4, v5, v6) = (cRA f T x3 g1 g2 g3 g4 g5 g6).1.2 ∧ u2 = (cRA f T x3 g1 g2 g3 g4 g5 g6).2) (fun (u : Int32 × Int32 × Int32 × Int32 × Nat × Nat × Int32 × Int32 × Int32 × Int32 × Nat × Nat × Nat × (Nat → Int32) × (Nat → Int32) × (Nat → Int32) × (Nat → Int32) × (Nat → Int32) × (Nat → Int32)) (t : State) => match u with | (u0, u1, u2, u3, u4, u5, u6, u7, u8, u9, n0, n1, n2, v1, v2, v3, v4, v5, v6) => va_P (dC, dI) vwCl [(h0, .inr (5, [.ref tp, .ref td, .int u0, .int u1, .int u2, .int u3, .int (nI u4), .int (nI u5), .int u6, .int u7, .int u8, .int u9])), (tp, .inr (7, [.int (nI T), .ref ta])), (ta, .inl (G 0, 320, .inl f)), (td, .inr (9, [.int (nI n0), .int (nI n1), .int (nI n2), .ref a1, .ref a2, .ref a3, .ref a4, .ref a5, .ref a6])), (a1, .inl (G 0, 10, .inl v1)), (a2, .inl (G 0, 10, .inl v2)), (a3, .inl (G 0, 10, .inl v3)), (a4, .inl (G 0, 6, .inl v4)), (a5, .inl (G 0, 6, .inl v5)), (a6, .inl (G 0, 6, .inl v6))] t.heap ∧ va_D A [(h0, .inr (5, [.ref tp, .ref td, .int u0, .int u1, .int u2, .int u3, .int (nI u4), .int (nI u5), .int u6, .int u7, .int u8, .int u9])), (tp, .inr (7, [.int (nI T), .ref ta])), (ta, .inl (G 0, 320, .inl f)), (td, .inr (9, [.int (nI n0), .int (nI n1), .int (nI n2), .ref a1, .ref a2, .ref a3, .ref a4, .ref a5, .ref a6])), (a1, .inl (G 0, 10, .inl v1)), (a2, .inl (G 0, 10, .inl v2)), (a3, .inl (G 0, 10, .inl v3)), (a4, .inl (G 0, 6, .inl v4)), (a5, .inl (G 0, 6, .inl v5)), (a6, .inl (G 0, 6, .inl v6))]) A) ([.ref h0] : List Value).toArray s 0 0 A) (F0 m 11 ls []) := by
    intro nf
    induction nf with
    | zero => intro j11 h1 h2; exact absurd h1 (by omega)
    | succ nf ih11_36 =>
      intro j11 hn37 hj38 g12 g13 g14 g15 g16 k18 k20 k22 g23 y24 y25 y26 y27 k29 k31 y32 y33 y34 y35 H locs hinv hP hD hS ls hl
      refine lv_iload_n hx hb dX5_readAll_11 rfl (lv_at hl 0 rfl) ?_
      refine lv_aload_n hx hb dX5_readAll_12 rfl (lv_at hl 1 rfl) ?_
      refine va_get (D := (dC, dI)) (ci := 5) (v := .ref tp) (C := RX5) (T := TX5) (N := 12) hx hb hg inG5 hown hK.1 hP 7 rfl rfl 0 (Nat.le_of_ble_eq_true rfl) (hg _ wt_105) (fun _ h9 => h9) rfl dX5_readAll_13 ?_
      refine va_getN (D := (dC, dI)) (ci := 7) (v := .int (nI T)) (C := RX7) (T := TX7) (N := 2) hx hb hg inG7 hown hK.1 hP 8 rfl rfl 0 (Nat.le_of_ble_eq_true rfl) (hK.nest wn_41) (fun _ h9 => h9) rfl dX5_readAll_16 ?_
      refine lv_icmp_gt (tgt := 64) hx hb dX5_readAll_19 rfl (fun c39 => ?_) (fun c39 => ?_)
      · skip
        have tn1521_ : nIT j11 := fun _ => nI_toInt (by first | omega | (have t := ltI c39; omega))
        have n40 : T < j11 := by have t := ltI c39; rw [show (nI (j11)).toInt = ((j11 : Nat) : Int) from tn1521_ ()] at t; rw [show (nI (T)).toInt = ((T : Nat) : Int) from tn1520_ ()] at t; omega
        have tn1522_ : nIT k18 := fun _ => nI_toInt (by first | omega | (have t_hj38 := hj38; have t_hinv := hinv; have t_n40 := n40; omega))
        have tn1523_ : nIT k20 := fun _ => nI_toInt (by first | omega | (have t_hj38 := hj38; have t_hinv := hinv; have t_n40 := n40; omega))
        have tn1524_ : nIT k22 := fun _ => nI_toInt (by first | omega | (have t_hj38 := hj38; have t_hinv := hinv; have t_n40 := n40; omega))
        have tn1525_ : nIT k29 := fun _ => nI_toInt (by first | omega | (have t_hj38 := hj38; have t_hinv := hinv; have t_n40 := n40; omega))
        have tn1526_ : nIT k31 := fun _ => nI_toInt (by first | omega | (have t_hj38 := hj38; have t_hinv := hinv; have t_n40 := n40; omega))
        have hL : cRA f T x3 g1 g2 g3 g4 g5 g6 = ((((y24, y25, y27, k29, k31), y32, y33, y34, y35, k18, k20, k22, g12, g13, g23, g14, g15, g16) : CW), y26) := (by unfold cRA; rw [← hq0]; refine Eq.trans hinv.2.2.2.2.2.symm ?_; first | (rw [show T + 1 - j11 = 0 by (have t_hj38 := hj38; have t_hinv := hinv; have t_n40 := n40; have tnb_ := nib10 tn1520_ tn1517_ tn1518_ tn1519_ tn1521_ tn1522_ tn1523_ tn1524_ tn1525_ tn1526_; have tqz_ := qz41_; omega)]; rfl) | exact cLP_e0 (by first | with_reducible assumption | assumption) | exact cLP_e1 (by first | with_reducible assumption | assumption) (by first | with_reducible assumption | assumption))
        refine lv_aload_n hx hb dX5_readAll_64 rfl (lv_at hl 1 rfl) ?_
        refine va_get (D := (dC, dI)) (ci := 5) (v := .int y24) (C := RX5) (T := TX5) (N := 12) hx hb hg inG5 hown hK.1 hP 7 rfl rfl 2 (Nat.le_of_ble_eq_true rfl) (hg _ wt_109) (fun _ h9 => h9) rfl dX5_readAll_65 ?_
        refine lv_if_ne (tgt := 75) hx hb dX5_readAll_68 rfl (fun c41 => ?_) (fun c41 => ?_)
        · skip
          obtain ⟨hP9, hD9⟩ := va_sub2 (ws' := [(h0, .inr (5, [.ref tp, .ref td, .int y24, .int y25, .int y26, .int y27, .int (nI k29), .int (nI k31), .int y32, .int y33, .int y34, .int y35])), (tp, .inr (7, [.int (nI T), .ref ta])), (ta, .inl (G 0, 320, .inl f)), (td, .inr (9, [.int (nI k18), .int (nI k20), .int (nI k22), .ref a1, .ref a2, .ref a3, .ref a4, .ref a5, .ref a6])), (a1, .inl (G 0, 10, .inl g12)), (a2, .inl (G 0, 10, .inl g13)), (a3, .inl (G 0, 10, .inl g23)), (a4, .inl (G 0, 6, .inl g14)), (a5, .inl (G 0, 6, .inl g15)), (a6, .inl (G 0, 6, .inl g16))]) hP hD [7, 8, 9, 5, 0, 1, 6, 2, 3, 4] (by decide +kernel) rfl
          refine W.widen (k := 0) (n := 0) (Nat.le_of_ble_eq_true rfl) (Nat.le_of_ble_eq_true rfl) ?_
          exact W.vret hx hb hr (fun t ht hW => ⟨⟨(y24, y25, y26, y27, k29, k31, y32, y33, y34, y35, k18, k20, k22, g12, g13, g23, g14, g15, g16), rfl, (by refine ⟨⟨by (have t_hj38 := hj38; have t_hinv := hinv; have t_n40 := n40; have t_c41 := neI c41; have : (0 : Int32).toInt = 0 := qI_0; have tnb_ := nib10 tn1520_ tn1517_ tn1518_ tn1519_ tn1521_ tn1522_ tn1523_ tn1524_ tn1525_ tn1526_; have tqz_ := qz41_; omega), by (have t_hj38 := hj38; have t_hinv := hinv; have t_n40 := n40; have t_c41 := neI c41; have : (0 : Int32).toInt = 0 := qI_0; have tnb_ := nib10 tn1520_ tn1517_ tn1518_ tn1519_ tn1521_ tn1522_ tn1523_ tn1524_ tn1525_ tn1526_; have tqz_ := qz41_; omega), by (have t_hj38 := hj38; have t_hinv := hinv; have t_n40 := n40; have t_c41 := neI c41; have : (0 : Int32).toInt = 0 := qI_0; have tnb_ := nib10 tn1520_ tn1517_ tn1518_ tn1519_ tn1521_ tn1522_ tn1523_ tn1524_ tn1525_ tn1526_; have tqz_ := qz41_; omega), by (have t_hj38 := hj38; have t_hinv := hinv; have t_n40 := n40; have t_c41 := neI c41; have : (0 : Int32).toInt = 0 := qI_0; have tnb_ := nib10 tn1520_ tn1517_ tn1518_ tn1519_ tn1521_ tn1522_ tn1523_ tn1524_ tn1525_ tn1526_; have tqz_ := qz41_; omega)⟩, ?_, ?_, ?_⟩ <;> rw [hL]; unfold cFN; (try (repeat (first | rw [if_pos (by with_reducible assumption)] | rw [if_neg (by with_reducible assumption)] | rw [if_pos (by first | exact c41)] | rw [if_neg (by first | exact c41)] | rw [if_pos (by (have t_hj38 := hj38; have t_hinv := hinv; have t_n40 := n40; have t_c41 := neI c41; have : (0 : Int32).toInt = 0 := qI_0; have tnb_ := nib10 tn1520_ tn1517_ tn1518_ tn1519_ tn1521_ tn1522_ tn1523_ tn1524_ tn1525_ tn1526_; have tqz_ := qz41_; omega))] | rw [if_neg (by (have t_hj38 := hj38; have t_hinv := hinv; have t_n40 := n40; have t_c41 := neI c41; have : (0 : Int32).toInt = 0 := qI_0; have tnb_ := nib10 tn1520_ tn1517_ tn1518_ tn1519_ tn1521_ tn1522_ tn1523_ tn1524_ tn1525_ tn1526_; have tqz_ := qz41_; omega))] | rw [if_pos (by decide)] | rw [if_neg (by decide)] | rw [if_pos (by skip; assumption)] | rw [if_neg (by skip; assumption)]))); (try dsimp only); (try rw [vw5]); (try rw [ew5]); all_goals rfl), ⟨by rw [ht]; exact hP9, hD9⟩⟩, hS.F ht⟩) hS.2.2 dX5_readAll_75
        · skip
          refine lv_aload_n hx hb dX5_readAll_71 rfl (lv_at hl 1 rfl) ?_
          obtain ⟨hPc, hDc, hFc⟩ := va_sub3 (ws' := [(h0, .inr (5, [.ref tp, .ref td, .int y24, .int y25, .int y26, .int y27, .int (nI k29), .int (nI k31), .int y32, .int y33, .int y34, .int y35])), (tp, .inr (7, [.int (nI T), .ref ta])), (td, .inr (9, [.int (nI k18), .int (nI k20), .int (nI k22), .ref a1, .ref a2, .ref a3, .ref a4, .ref a5, .ref a6]))]) hP hD hS hA [7, 8, 5] (by decide +kernel) rfl
          refine va_callv (va_runV (As := []) (rest := []) ⟨hx, hb, hml, hown, hg⟩ (c_X5_lookBehindAllE l dC dI G _ h0 tp td ta T k29 k31 a1 a2 a3 a4 a5 a6 k18 k20 k22 y24 y25 y26 y27 y32 y33 y34 y35 (by first | omega | (have t_hj38 := hj38; have t_hinv := hinv; have t_n40 := n40; have t_c41 := eqI c41; have : (0 : Int32).toInt = 0 := qI_0; have tnb_ := nib10 tn1520_ tn1517_ tn1518_ tn1519_ tn1521_ tn1522_ tn1523_ tn1524_ tn1525_ tn1526_; omega)) (by first | omega | (have t_hj38 := hj38; have t_hinv := hinv; have t_n40 := n40; have t_c41 := eqI c41; have : (0 : Int32).toInt = 0 := qI_0; have tnb_ := nib10 tn1520_ tn1517_ tn1518_ tn1519_ tn1521_ tn1522_ tn1523_ tn1524_ tn1525_ tn1526_; omega)) hT_ (by first | omega | (have t_hj38 := hj38; have t_hinv := hinv; have t_n40 := n40; have t_c41 := eqI c41; have : (0 : Int32).toInt = 0 := qI_0; have tnb_ := nib10 tn1520_ tn1517_ tn1518_ tn1519_ tn1521_ tn1522_ tn1523_ tn1524_ tn1525_ tn1526_; omega)) (by first | omega | (have t_hj38 := hj38; have t_hinv := hinv; have t_n40 := n40; have t_c41 := eqI c41; have : (0 : Int32).toInt = 0 := qI_0; have tnb_ := nib10 tn1520_ tn1517_ tn1518_ tn1519_ tn1521_ tn1522_ tn1523_ tn1524_ tn1525_ tn1526_; omega)) (by first | omega | (have t_hj38 := hj38; have t_hinv := hinv; have t_n40 := n40; have t_c41 := eqI c41; have : (0 : Int32).toInt = 0 := qI_0; have tnb_ := nib10 tn1520_ tn1517_ tn1518_ tn1519_ tn1521_ tn1522_ tn1523_ tn1524_ tn1525_ tn1526_; omega))) (kwV hg mfX5_lookBehindAll wt_503 ⟨Nat.le_of_ble_eq_true rfl, Nat.le_of_ble_eq_true rfl⟩) (preVW hK hPc hDc (ci := 5) (r := (RX5, TX5, 12)) rfl rfl) rfl rfl hl.1 rfl (lv_room (Nat.le_of_ble_eq_true rfl)) dX5_readAll_72 ⟨Nat.le_of_ble_eq_true rfl, Nat.le_of_ble_eq_true rfl⟩) hS (fun q _ h => hFc q h) hFc (fun ur42 t H1 locs ht hvm w43 hB hz1 hk1 hS => ?_)
          obtain ⟨u44, u45⟩ := ur42
          obtain ⟨hP1, hD1⟩ := hB
          rw [ht] at hP1
          obtain ⟨hP, hD⟩ := va_join (wr := [(a1, .inl (G 0, 10, .inl g12)), (a2, .inl (G 0, 10, .inl g13)), (a4, .inl (G 0, 6, .inl g14)), (a5, .inl (G 0, 6, .inl g15)), (a6, .inl (G 0, 6, .inl g16)), (a3, .inl (G 0, 10, .inl g23)), (ta, .inl (G 0, 320, .inl f))]) (w1 := [(h0, .inr (5, [.ref tp, .ref td, .int u44, .int u45, .int y26, .int y27, .int (nI k29), .int (nI k31), .int y32, .int y33, .int y34, .int y35])), (tp, .inr (7, [.int (nI T), .ref ta])), (td, .inr (9, [.int (nI k18), .int (nI k20), .int (nI k22), .ref a1, .ref a2, .ref a3, .ref a4, .ref a5, .ref a6]))]) hP hD [7, 8, 5] [0, 1, 2, 3, 4, 6, 9] rfl rfl (by decide +kernel) (by decide +kernel) hk1 hFc hP1 hD1
          have w43 : (u44, u45, y27, k29, k31) = cLB T (y24, y25, y27, k29, k31) y34 y35 k18 k20 := w43
          generalize H1 = H at hP hS ⊢
          have ew43 : cLB T (y24, y25, y27, k29, k31) y34 y35 k18 k20 = (u44, u45, y27, k29, k31) := w43.symm
          obtain ⟨hP9, hD9⟩ := va_sub2 (ws' := [(h0, .inr (5, [.ref tp, .ref td, .int u44, .int u45, .int y26, .int y27, .int (nI k29), .int (nI k31), .int y32, .int y33, .int y34, .int y35])), (tp, .inr (7, [.int (nI T), .ref ta])), (ta, .inl (G 0, 320, .inl f)), (td, .inr (9, [.int (nI k18), .int (nI k20), .int (nI k22), .ref a1, .ref a2, .ref a3, .ref a4, .ref a5, .ref a6])), (a1, .inl (G 0, 10, .inl g12)), (a2, .inl (G 0, 10, .inl g13)), (a3, .inl (G 0, 10, .inl g23)), (a4, .inl (G 0, 6, .inl g14)), (a5, .inl (G 0, 6, .inl g15)), (a6, .inl (G 0, 6, .inl g16))]) hP hD [7, 8, 6, 9, 0, 1, 5, 2, 3, 4] (by decide +kernel) rfl
          refine W.widen (k := 0) (n := 0) (Nat.le_of_ble_eq_true rfl) (Nat.le_of_ble_eq_true rfl) ?_
          exact W.vret hx hb hr (fun t ht hW => ⟨⟨(u44, u45, y26, y27, k29, k31, y32, y33, y34, y35, k18, k20, k22, g12, g13, g23, g14, g15, g16), rfl, (by refine ⟨⟨by (have t_hj38 := hj38; have t_hinv := hinv; have t_n40 := n40; have t_c41 := eqI c41; have : (0 : Int32).toInt = 0 := qI_0; have tnb_ := nib10 tn1520_ tn1517_ tn1518_ tn1519_ tn1521_ tn1522_ tn1523_ tn1524_ tn1525_ tn1526_; have tqz_ := qz41_; omega), by (have t_hj38 := hj38; have t_hinv := hinv; have t_n40 := n40; have t_c41 := eqI c41; have : (0 : Int32).toInt = 0 := qI_0; have tnb_ := nib10 tn1520_ tn1517_ tn1518_ tn1519_ tn1521_ tn1522_ tn1523_ tn1524_ tn1525_ tn1526_; have tqz_ := qz41_; omega), by (have t_hj38 := hj38; have t_hinv := hinv; have t_n40 := n40; have t_c41 := eqI c41; have : (0 : Int32).toInt = 0 := qI_0; have tnb_ := nib10 tn1520_ tn1517_ tn1518_ tn1519_ tn1521_ tn1522_ tn1523_ tn1524_ tn1525_ tn1526_; have tqz_ := qz41_; omega), by (have t_hj38 := hj38; have t_hinv := hinv; have t_n40 := n40; have t_c41 := eqI c41; have : (0 : Int32).toInt = 0 := qI_0; have tnb_ := nib10 tn1520_ tn1517_ tn1518_ tn1519_ tn1521_ tn1522_ tn1523_ tn1524_ tn1525_ tn1526_; have tqz_ := qz41_; omega)⟩, ?_, ?_, ?_⟩ <;> rw [hL]; unfold cFN; (try (repeat (first | rw [if_pos (by with_reducible assumption)] | rw [if_neg (by with_reducible assumption)] | rw [if_pos (by first | exact c41)] | rw [if_neg (by first | exact c41)] | rw [if_pos (by (have t_hj38 := hj38; have t_hinv := hinv; have t_n40 := n40; have t_c41 := eqI c41; have : (0 : Int32).toInt = 0 := qI_0; have tnb_ := nib10 tn1520_ tn1517_ tn1518_ tn1519_ tn1521_ tn1522_ tn1523_ tn1524_ tn1525_ tn1526_; have tqz_ := qz41_; omega))] | rw [if_neg (by (have t_hj38 := hj38; have t_hinv := hinv; have t_n40 := n40; have t_c41 := eqI c41; have : (0 : Int32).toInt = 0 := qI_0; have tnb_ := nib10 tn1520_ tn1517_ tn1518_ tn1519_ tn1521_ tn1522_ tn1523_ tn1524_ tn1525_ tn1526_; have tqz_ := qz41_; omega))] | rw [if_pos (by decide)] | rw [if_neg (by decide)] | rw [if_pos (by skip; assumption)] | rw [if_neg (by skip; assumption)]))); (try dsimp only); (try rw [vw5]); (try rw [ew5]); (try rw [ew43]); all_goals rfl), ⟨by rw [ht]; exact hP9, hD9⟩⟩, hS.F ht⟩) hS.2.2 dX5_readAll_75
      · skip
        have tn1527_ : nIT j11 := fun _ => nI_toInt (by first | omega | (have t := nltI c39; omega))
        have n46 : j11 ≤ T := by have t := nltI c39; rw [show (nI (j11)).toInt = ((j11 : Nat) : Int) from tn1527_ ()] at t; rw [show (nI (T)).toInt = ((T : Nat) : Int) from tn1520_ ()] at t; omega
        refine lv_aload_n hx hb dX5_readAll_22 rfl (lv_at hl 1 rfl) ?_
        refine va_get (D := (dC, dI)) (ci := 5) (v := .int y24) (C := RX5) (T := TX5) (N := 12) hx hb hg inG5 hown hK.1 hP 7 rfl rfl 2 (Nat.le_of_ble_eq_true rfl) (hg _ wt_109) (fun _ h9 => h9) rfl dX5_readAll_23 ?_
        refine lv_if_ne (tgt := 64) hx hb dX5_readAll_26 rfl (fun c47 => ?_) (fun c47 => ?_)
        · skip
          have tn1528_ : nIT k18 := fun _ => nI_toInt (by first | omega | (have t_hj38 := hj38; have t_hinv := hinv; have t_n46 := n46; have t_c47 := neI c47; have : (0 : Int32).toInt = 0 := qI_0; omega))
          have tn1529_ : nIT k20 := fun _ => nI_toInt (by first | omega | (have t_hj38 := hj38; have t_hinv := hinv; have t_n46 := n46; have t_c47 := neI c47; have : (0 : Int32).toInt = 0 := qI_0; omega))
          have tn1530_ : nIT k22 := fun _ => nI_toInt (by first | omega | (have t_hj38 := hj38; have t_hinv := hinv; have t_n46 := n46; have t_c47 := neI c47; have : (0 : Int32).toInt = 0 := qI_0; omega))
          have tn1531_ : nIT k29 := fun _ => nI_toInt (by first | omega | (have t_hj38 := hj38; have t_hinv := hinv; have t_n46 := n46; have t_c47 := neI c47; have : (0 : Int32).toInt = 0 := qI_0; omega))
          have tn1532_ : nIT k31 := fun _ => nI_toInt (by first | omega | (have t_hj38 := hj38; have t_hinv := hinv; have t_n46 := n46; have t_c47 := neI c47; have : (0 : Int32).toInt = 0 := qI_0; omega))
          have hL : cRA f T x3 g1 g2 g3 g4 g5 g6 = ((((y24, y25, y27, k29, k31), y32, y33, y34, y35, k18, k20, k22, g12, g13, g23, g14, g15, g16) : CW), y26) := (by unfold cRA; rw [← hq0]; refine Eq.trans hinv.2.2.2.2.2.symm ?_; first | (rw [show T + 1 - j11 = 0 by (have t_hj38 := hj38; have t_hinv := hinv; have t_n46 := n46; have t_c47 := neI c47; have : (0 : Int32).toInt = 0 := qI_0; have tnb_ := nib10 tn1520_ tn1517_ tn1518_ tn1519_ tn1527_ tn1528_ tn1529_ tn1530_ tn1531_ tn1532_; have tqz_ := qz41_; omega)]; rfl) | exact cLP_e0 (by first | with_reducible assumption | assumption) | exact cLP_e1 (by first | with_reducible assumption | assumption) (by first | with_reducible assumption | assumption))
          refine lv_aload_n hx hb dX5_readAll_64 rfl (lv_at hl 1 rfl) ?_
          refine va_get (D := (dC, dI)) (ci := 5) (v := .int y24) (C := RX5) (T := TX5) (N := 12) hx hb hg inG5 hown hK.1 hP 7 rfl rfl 2 (Nat.le_of_ble_eq_true rfl) (hg _ wt_109) (fun _ h9 => h9) rfl dX5_readAll_65 ?_
          refine lv_if_ne (tgt := 75) hx hb dX5_readAll_68 rfl (fun c48 => ?_) (fun c48 => ?_)
          · skip
            obtain ⟨hP9, hD9⟩ := va_sub2 (ws' := [(h0, .inr (5, [.ref tp, .ref td, .int y24, .int y25, .int y26, .int y27, .int (nI k29), .int (nI k31), .int y32, .int y33, .int y34, .int y35])), (tp, .inr (7, [.int (nI T), .ref ta])), (ta, .inl (G 0, 320, .inl f)), (td, .inr (9, [.int (nI k18), .int (nI k20), .int (nI k22), .ref a1, .ref a2, .ref a3, .ref a4, .ref a5, .ref a6])), (a1, .inl (G 0, 10, .inl g12)), (a2, .inl (G 0, 10, .inl g13)), (a3, .inl (G 0, 10, .inl g23)), (a4, .inl (G 0, 6, .inl g14)), (a5, .inl (G 0, 6, .inl g15)), (a6, .inl (G 0, 6, .inl g16))]) hP hD [7, 8, 9, 5, 0, 1, 6, 2, 3, 4] (by decide +kernel) rfl
            refine W.widen (k := 0) (n := 0) (Nat.le_of_ble_eq_true rfl) (Nat.le_of_ble_eq_true rfl) ?_
            exact W.vret hx hb hr (fun t ht hW => ⟨⟨(y24, y25, y26, y27, k29, k31, y32, y33, y34, y35, k18, k20, k22, g12, g13, g23, g14, g15, g16), rfl, (by refine ⟨⟨by (have t_hj38 := hj38; have t_hinv := hinv; have t_n46 := n46; have t_c47 := neI c47; have t_c48 := neI c48; have : (0 : Int32).toInt = 0 := qI_0; have tnb_ := nib10 tn1520_ tn1517_ tn1518_ tn1519_ tn1527_ tn1528_ tn1529_ tn1530_ tn1531_ tn1532_; have tqz_ := qz41_; omega), by (have t_hj38 := hj38; have t_hinv := hinv; have t_n46 := n46; have t_c47 := neI c47; have t_c48 := neI c48; have : (0 : Int32).toInt = 0 := qI_0; have tnb_ := nib10 tn1520_ tn1517_ tn1518_ tn1519_ tn1527_ tn1528_ tn1529_ tn1530_ tn1531_ tn1532_; have tqz_ := qz41_; omega), by (have t_hj38 := hj38; have t_hinv := hinv; have t_n46 := n46; have t_c47 := neI c47; have t_c48 := neI c48; have : (0 : Int32).toInt = 0 := qI_0; have tnb_ := nib10 tn1520_ tn1517_ tn1518_ tn1519_ tn1527_ tn1528_ tn1529_ tn1530_ tn1531_ tn1532_; have tqz_ := qz41_; omega), by (have t_hj38 := hj38; have t_hinv := hinv; have t_n46 := n46; have t_c47 := neI c47; have t_c48 := neI c48; have : (0 : Int32).toInt = 0 := qI_0; have tnb_ := nib10 tn1520_ tn1517_ tn1518_ tn1519_ tn1527_ tn1528_ tn1529_ tn1530_ tn1531_ tn1532_; have tqz_ := qz41_; omega)⟩, ?_, ?_, ?_⟩ <;> rw [hL]; unfold cFN; (try (repeat (first | rw [if_pos (by with_reducible assumption)] | rw [if_neg (by with_reducible assumption)] | rw [if_pos (by first | exact c47 | exact c48)] | rw [if_neg (by first | exact c47 | exact c48)] | rw [if_pos (by (have t_hj38 := hj38; have t_hinv := hinv; have t_n46 := n46; have t_c47 := neI c47; have t_c48 := neI c48; have : (0 : Int32).toInt = 0 := qI_0; have tnb_ := nib10 tn1520_ tn1517_ tn1518_ tn1519_ tn1527_ tn1528_ tn1529_ tn1530_ tn1531_ tn1532_; have tqz_ := qz41_; omega))] | rw [if_neg (by (have t_hj38 := hj38; have t_hinv := hinv; have t_n46 := n46; have t_c47 := neI c47; have t_c48 := neI c48; have : (0 : Int32).toInt = 0 := qI_0; have tnb_ := nib10 tn1520_ tn1517_ tn1518_ tn1519_ tn1527_ tn1528_ tn1529_ tn1530_ tn1531_ tn1532_; have tqz_ := qz41_; omega))] | rw [if_pos (by decide)] | rw [if_neg (by decide)] | rw [if_pos (by skip; assumption)] | rw [if_neg (by skip; assumption)]))); (try dsimp only); (try rw [vw5]); (try rw [ew5]); all_goals rfl), ⟨by rw [ht]; exact hP9, hD9⟩⟩, hS.F ht⟩) hS.2.2 dX5_readAll_75
          · skip
            have t_hj38 := hj38
            have t_hinv := hinv
            have t_n46 := n46
            have t_c47 := neI c47
            have t_c48 := eqI c48
            have : (0 : Int32).toInt = 0 := qI_0
            have t_n0 : (nI T).toInt = (T : Int) := tn1520_ ()
            have t_n1 : (nI N).toInt = (N : Int) := tn1517_ ()
            have t_n2 : (nI B).toInt = (B : Int) := tn1518_ ()
            have t_n3 : (nI D).toInt = (D : Int) := tn1519_ ()
            have t_n4 : (nI j11).toInt = (j11 : Int) := tn1527_ ()
            have t_n5 : (nI k18).toInt = (k18 : Int) := tn1528_ ()
            have t_n6 : (nI k20).toInt = (k20 : Int) := tn1529_ ()
            have t_n7 : (nI k22).toInt = (k22 : Int) := tn1530_ ()
            have t_n8 : (nI k29).toInt = (k29 : Int) := tn1531_ ()
            have t_n9 : (nI k31).toInt = (k31 : Int) := tn1532_ ()
            exfalso; omega
        · skip
          refine lv_aload_n hx hb dX5_readAll_29 rfl (lv_at hl 1 rfl) ?_
          refine va_get (D := (dC, dI)) (ci := 5) (v := .int y27) (C := RX5) (T := TX5) (N := 12) hx hb hg inG5 hown hK.1 hP 7 rfl rfl 5 (Nat.le_of_ble_eq_true rfl) (hg _ wt_115) (fun _ h9 => h9) rfl dX5_readAll_30 ?_
          refine lv_if_eq (tgt := 64) hx hb dX5_readAll_33 rfl (fun c49 => ?_) (fun c49 => ?_)
          · skip
            have tn1533_ : nIT k18 := fun _ => nI_toInt (by first | omega | (have t_hj38 := hj38; have t_hinv := hinv; have t_n46 := n46; have t_c47 := eqI c47; have t_c49 := eqI c49; have : (0 : Int32).toInt = 0 := qI_0; omega))
            have tn1534_ : nIT k20 := fun _ => nI_toInt (by first | omega | (have t_hj38 := hj38; have t_hinv := hinv; have t_n46 := n46; have t_c47 := eqI c47; have t_c49 := eqI c49; have : (0 : Int32).toInt = 0 := qI_0; omega))
            have tn1535_ : nIT k22 := fun _ => nI_toInt (by first | omega | (have t_hj38 := hj38; have t_hinv := hinv; have t_n46 := n46; have t_c47 := eqI c47; have t_c49 := eqI c49; have : (0 : Int32).toInt = 0 := qI_0; omega))
            have tn1536_ : nIT k29 := fun _ => nI_toInt (by first | omega | (have t_hj38 := hj38; have t_hinv := hinv; have t_n46 := n46; have t_c47 := eqI c47; have t_c49 := eqI c49; have : (0 : Int32).toInt = 0 := qI_0; omega))
            have tn1537_ : nIT k31 := fun _ => nI_toInt (by first | omega | (have t_hj38 := hj38; have t_hinv := hinv; have t_n46 := n46; have t_c47 := eqI c47; have t_c49 := eqI c49; have : (0 : Int32).toInt = 0 := qI_0; omega))
            have hL : cRA f T x3 g1 g2 g3 g4 g5 g6 = ((((y24, y25, y27, k29, k31), y32, y33, y34, y35, k18, k20, k22, g12, g13, g23, g14, g15, g16) : CW), y26) := (by unfold cRA; rw [← hq0]; refine Eq.trans hinv.2.2.2.2.2.symm ?_; first | (rw [show T + 1 - j11 = 0 by (have t_hj38 := hj38; have t_hinv := hinv; have t_n46 := n46; have t_c47 := eqI c47; have t_c49 := eqI c49; have : (0 : Int32).toInt = 0 := qI_0; have tnb_ := nib10 tn1520_ tn1517_ tn1518_ tn1519_ tn1527_ tn1533_ tn1534_ tn1535_ tn1536_ tn1537_; have tqz_ := qz41_; omega)]; rfl) | exact cLP_e0 (by first | with_reducible assumption | assumption) | exact cLP_e1 (by first | with_reducible assumption | assumption) (by first | with_reducible assumption | assumption))
            refine lv_aload_n hx hb dX5_readAll_64 rfl (lv_at hl 1 rfl) ?_
            refine va_get (D := (dC, dI)) (ci := 5) (v := .int y24) (C := RX5) (T := TX5) (N := 12) hx hb hg inG5 hown hK.1 hP 7 rfl rfl 2 (Nat.le_of_ble_eq_true rfl) (hg _ wt_109) (fun _ h9 => h9) rfl dX5_readAll_65 ?_
            refine lv_if_ne (tgt := 75) hx hb dX5_readAll_68 rfl (fun c50 => ?_) (fun c50 => ?_)
            · skip
              have t_hj38 := hj38
              have t_hinv := hinv
              have t_n46 := n46
              have t_c47 := eqI c47
              have t_c49 := eqI c49
              have t_c50 := neI c50
              have : (0 : Int32).toInt = 0 := qI_0
              have t_n0 : (nI T).toInt = (T : Int) := tn1520_ ()
              have t_n1 : (nI N).toInt = (N : Int) := tn1517_ ()
              have t_n2 : (nI B).toInt = (B : Int) := tn1518_ ()
              have t_n3 : (nI D).toInt = (D : Int) := tn1519_ ()
              have t_n4 : (nI j11).toInt = (j11 : Int) := tn1527_ ()
              have t_n5 : (nI k18).toInt = (k18 : Int) := tn1533_ ()
              have t_n6 : (nI k20).toInt = (k20 : Int) := tn1534_ ()
              have t_n7 : (nI k22).toInt = (k22 : Int) := tn1535_ ()
              have t_n8 : (nI k29).toInt = (k29 : Int) := tn1536_ ()
              have t_n9 : (nI k31).toInt = (k31 : Int) := tn1537_ ()
              exfalso; omega
            · skip
              refine lv_aload_n hx hb dX5_readAll_71 rfl (lv_at hl 1 rfl) ?_
              obtain ⟨hPc, hDc, hFc⟩ := va_sub3 (ws' := [(h0, .inr (5, [.ref tp, .ref td, .int y24, .int y25, .int y26, .int y27, .int (nI k29), .int (nI k31), .int y32, .int y33, .int y34, .int y35])), (tp, .inr (7, [.int (nI T), .ref ta])), (td, .inr (9, [.int (nI k18), .int (nI k20), .int (nI k22), .ref a1, .ref a2, .ref a3, .ref a4, .ref a5, .ref a6]))]) hP hD hS hA [7, 8, 5] (by decide +kernel) rfl
              refine va_callv (va_runV (As := []) (rest := []) ⟨hx, hb, hml, hown, hg⟩ (c_X5_lookBehindAllE l dC dI G _ h0 tp td ta T k29 k31 a1 a2 a3 a4 a5 a6 k18 k20 k22 y24 y25 y26 y27 y32 y33 y34 y35 (by first | omega | (have t_hj38 := hj38; have t_hinv := hinv; have t_n46 := n46; have t_c47 := eqI c47; have t_c49 := eqI c49; have t_c50 := eqI c50; have : (0 : Int32).toInt = 0 := qI_0; have tnb_ := nib10 tn1520_ tn1517_ tn1518_ tn1519_ tn1527_ tn1533_ tn1534_ tn1535_ tn1536_ tn1537_; omega)) (by first | omega | (have t_hj38 := hj38; have t_hinv := hinv; have t_n46 := n46; have t_c47 := eqI c47; have t_c49 := eqI c49; have t_c50 := eqI c50; have : (0 : Int32).toInt = 0 := qI_0; have tnb_ := nib10 tn1520_ tn1517_ tn1518_ tn1519_ tn1527_ tn1533_ tn1534_ tn1535_ tn1536_ tn1537_; omega)) hT_ (by first | omega | (have t_hj38 := hj38; have t_hinv := hinv; have t_n46 := n46; have t_c47 := eqI c47; have t_c49 := eqI c49; have t_c50 := eqI c50; have : (0 : Int32).toInt = 0 := qI_0; have tnb_ := nib10 tn1520_ tn1517_ tn1518_ tn1519_ tn1527_ tn1533_ tn1534_ tn1535_ tn1536_ tn1537_; omega)) (by first | omega | (have t_hj38 := hj38; have t_hinv := hinv; have t_n46 := n46; have t_c47 := eqI c47; have t_c49 := eqI c49; have t_c50 := eqI c50; have : (0 : Int32).toInt = 0 := qI_0; have tnb_ := nib10 tn1520_ tn1517_ tn1518_ tn1519_ tn1527_ tn1533_ tn1534_ tn1535_ tn1536_ tn1537_; omega)) (by first | omega | (have t_hj38 := hj38; have t_hinv := hinv; have t_n46 := n46; have t_c47 := eqI c47; have t_c49 := eqI c49; have t_c50 := eqI c50; have : (0 : Int32).toInt = 0 := qI_0; have tnb_ := nib10 tn1520_ tn1517_ tn1518_ tn1519_ tn1527_ tn1533_ tn1534_ tn1535_ tn1536_ tn1537_; omega))) (kwV hg mfX5_lookBehindAll wt_503 ⟨Nat.le_of_ble_eq_true rfl, Nat.le_of_ble_eq_true rfl⟩) (preVW hK hPc hDc (ci := 5) (r := (RX5, TX5, 12)) rfl rfl) rfl rfl hl.1 rfl (lv_room (Nat.le_of_ble_eq_true rfl)) dX5_readAll_72 ⟨Nat.le_of_ble_eq_true rfl, Nat.le_of_ble_eq_true rfl⟩) hS (fun q _ h => hFc q h) hFc (fun ur51 t H1 locs ht hvm w52 hB hz1 hk1 hS => ?_)
              obtain ⟨u53, u54⟩ := ur51
              obtain ⟨hP1, hD1⟩ := hB
              rw [ht] at hP1
              obtain ⟨hP, hD⟩ := va_join (wr := [(a1, .inl (G 0, 10, .inl g12)), (a2, .inl (G 0, 10, .inl g13)), (a4, .inl (G 0, 6, .inl g14)), (a5, .inl (G 0, 6, .inl g15)), (a6, .inl (G 0, 6, .inl g16)), (a3, .inl (G 0, 10, .inl g23)), (ta, .inl (G 0, 320, .inl f))]) (w1 := [(h0, .inr (5, [.ref tp, .ref td, .int u53, .int u54, .int y26, .int y27, .int (nI k29), .int (nI k31), .int y32, .int y33, .int y34, .int y35])), (tp, .inr (7, [.int (nI T), .ref ta])), (td, .inr (9, [.int (nI k18), .int (nI k20), .int (nI k22), .ref a1, .ref a2, .ref a3, .ref a4, .ref a5, .ref a6]))]) hP hD [7, 8, 5] [0, 1, 2, 3, 4, 6, 9] rfl rfl (by decide +kernel) (by decide +kernel) hk1 hFc hP1 hD1
              have w52 : (u53, u54, y27, k29, k31) = cLB T (y24, y25, y27, k29, k31) y34 y35 k18 k20 := w52
              generalize H1 = H at hP hS ⊢
              have ew52 : cLB T (y24, y25, y27, k29, k31) y34 y35 k18 k20 = (u53, u54, y27, k29, k31) := w52.symm
              obtain ⟨hP9, hD9⟩ := va_sub2 (ws' := [(h0, .inr (5, [.ref tp, .ref td, .int u53, .int u54, .int y26, .int y27, .int (nI k29), .int (nI k31), .int y32, .int y33, .int y34, .int y35])), (tp, .inr (7, [.int (nI T), .ref ta])), (ta, .inl (G 0, 320, .inl f)), (td, .inr (9, [.int (nI k18), .int (nI k20), .int (nI k22), .ref a1, .ref a2, .ref a3, .ref a4, .ref a5, .ref a6])), (a1, .inl (G 0, 10, .inl g12)), (a2, .inl (G 0, 10, .inl g13)), (a3, .inl (G 0, 10, .inl g23)), (a4, .inl (G 0, 6, .inl g14)), (a5, .inl (G 0, 6, .inl g15)), (a6, .inl (G 0, 6, .inl g16))]) hP hD [7, 8, 6, 9, 0, 1, 5, 2, 3, 4] (by decide +kernel) rfl
              refine W.widen (k := 0) (n := 0) (Nat.le_of_ble_eq_true rfl) (Nat.le_of_ble_eq_true rfl) ?_
              exact W.vret hx hb hr (fun t ht hW => ⟨⟨(u53, u54, y26, y27, k29, k31, y32, y33, y34, y35, k18, k20, k22, g12, g13, g23, g14, g15, g16), rfl, (by refine ⟨⟨by (have t_hj38 := hj38; have t_hinv := hinv; have t_n46 := n46; have t_c47 := eqI c47; have t_c49 := eqI c49; have t_c50 := eqI c50; have : (0 : Int32).toInt = 0 := qI_0; have tnb_ := nib10 tn1520_ tn1517_ tn1518_ tn1519_ tn1527_ tn1533_ tn1534_ tn1535_ tn1536_ tn1537_; have tqz_ := qz41_; omega), by (have t_hj38 := hj38; have t_hinv := hinv; have t_n46 := n46; have t_c47 := eqI c47; have t_c49 := eqI c49; have t_c50 := eqI c50; have : (0 : Int32).toInt = 0 := qI_0; have tnb_ := nib10 tn1520_ tn1517_ tn1518_ tn1519_ tn1527_ tn1533_ tn1534_ tn1535_ tn1536_ tn1537_; have tqz_ := qz41_; omega), by (have t_hj38 := hj38; have t_hinv := hinv; have t_n46 := n46; have t_c47 := eqI c47; have t_c49 := eqI c49; have t_c50 := eqI c50; have : (0 : Int32).toInt = 0 := qI_0; have tnb_ := nib10 tn1520_ tn1517_ tn1518_ tn1519_ tn1527_ tn1533_ tn1534_ tn1535_ tn1536_ tn1537_; have tqz_ := qz41_; omega), by (have t_hj38 := hj38; have t_hinv := hinv; have t_n46 := n46; have t_c47 := eqI c47; have t_c49 := eqI c49; have t_c50 := eqI c50; have : (0 : Int32).toInt = 0 := qI_0; have tnb_ := nib10 tn1520_ tn1517_ tn1518_ tn1519_ tn1527_ tn1533_ tn1534_ tn1535_ tn1536_ tn1537_; have tqz_ := qz41_; omega)⟩, ?_, ?_, ?_⟩ <;> rw [hL]; unfold cFN; (try (repeat (first | rw [if_pos (by with_reducible assumption)] | rw [if_neg (by with_reducible assumption)] | rw [if_pos (by first | exact c47 | exact c49 | exact c50)] | rw [if_neg (by first | exact c47 | exact c49 | exact c50)] | rw [if_pos (by (have t_hj38 := hj38; have t_hinv := hinv; have t_n46 := n46; have t_c47 := eqI c47; have t_c49 := eqI c49; have t_c50 := eqI c50; have : (0 : Int32).toInt = 0 := qI_0; have tnb_ := nib10 tn1520_ tn1517_ tn1518_ tn1519_ tn1527_ tn1533_ tn1534_ tn1535_ tn1536_ tn1537_; have tqz_ := qz41_; omega))] | rw [if_neg (by (have t_hj38 := hj38; have t_hinv := hinv; have t_n46 := n46; have t_c47 := eqI c47; have t_c49 := eqI c49; have t_c50 := eqI c50; have : (0 : Int32).toInt = 0 := qI_0; have tnb_ := nib10 tn1520_ tn1517_ tn1518_ tn1519_ tn1527_ tn1533_ tn1534_ tn1535_ tn1536_ tn1537_; have tqz_ := qz41_; omega))] | rw [if_pos (by decide)] | rw [if_neg (by decide)] | rw [if_pos (by skip; assumption)] | rw [if_neg (by skip; assumption)]))); (try dsimp only); (try rw [vw5]); (try rw [ew5]); (try rw [ew52]); all_goals rfl), ⟨by rw [ht]; exact hP9, hD9⟩⟩, hS.F ht⟩) hS.2.2 dX5_readAll_75
          · skip
            refine lv_aload_n hx hb dX5_readAll_36 rfl (lv_at hl 1 rfl) ?_
            obtain ⟨hPc, hDc, hFc⟩ := va_sub3 (ws' := [(h0, .inr (5, [.ref tp, .ref td, .int y24, .int y25, .int y26, .int y27, .int (nI k29), .int (nI k31), .int y32, .int y33, .int y34, .int y35])), (tp, .inr (7, [.int (nI T), .ref ta])), (ta, .inl (G 0, 320, .inl f)), (td, .inr (9, [.int (nI k18), .int (nI k20), .int (nI k22), .ref a1, .ref a2, .ref a3, .ref a4, .ref a5, .ref a6])), (a1, .inl (G 0, 10, .inl g12)), (a2, .inl (G 0, 10, .inl g13)), (a3, .inl (G 0, 10, .inl g23)), (a4, .inl (G 0, 6, .inl g14)), (a5, .inl (G 0, 6, .inl g15)), (a6, .inl (G 0, 6, .inl g16))]) hP hD hS hA [7, 8, 9, 5, 0, 1, 6, 2, 3, 4] (by decide +kernel) rfl
            have tn1538_ : nIT k18 := fun _ => nI_toInt (by first | omega | (have t_hj38 := hj38; have t_hinv := hinv; have t_n46 := n46; have t_c47 := eqI c47; have t_c49 := neI c49; have : (0 : Int32).toInt = 0 := qI_0; omega))
            have tn1539_ : nIT k20 := fun _ => nI_toInt (by first | omega | (have t_hj38 := hj38; have t_hinv := hinv; have t_n46 := n46; have t_c47 := eqI c47; have t_c49 := neI c49; have : (0 : Int32).toInt = 0 := qI_0; omega))
            have tn1540_ : nIT k22 := fun _ => nI_toInt (by first | omega | (have t_hj38 := hj38; have t_hinv := hinv; have t_n46 := n46; have t_c47 := eqI c47; have t_c49 := neI c49; have : (0 : Int32).toInt = 0 := qI_0; omega))
            have tn1541_ : nIT k29 := fun _ => nI_toInt (by first | omega | (have t_hj38 := hj38; have t_hinv := hinv; have t_n46 := n46; have t_c47 := eqI c47; have t_c49 := neI c49; have : (0 : Int32).toInt = 0 := qI_0; omega))
            have tn1542_ : nIT k31 := fun _ => nI_toInt (by first | omega | (have t_hj38 := hj38; have t_hinv := hinv; have t_n46 := n46; have t_c47 := eqI c47; have t_c49 := neI c49; have : (0 : Int32).toInt = 0 := qI_0; omega))
            refine va_calli (va_runV (As := []) (rest := []) ⟨hx, hb, hml, hown, hg⟩ (c_X5_readLineE l dC dI G _ h0 tp td ta T k29 k31 a1 a2 a3 a4 a5 a6 k18 k20 k22 y24 y25 y26 y27 y32 y33 y34 y35 f g12 g13 g23 g14 g15 g16 adK adV (by first | omega | (have t_hj38 := hj38; have t_hinv := hinv; have t_n46 := n46; have t_c47 := eqI c47; have t_c49 := neI c49; have : (0 : Int32).toInt = 0 := qI_0; have tnb_ := nib10 tn1520_ tn1517_ tn1518_ tn1519_ tn1527_ tn1538_ tn1539_ tn1540_ tn1541_ tn1542_; omega)) (by first | omega | (have t_hj38 := hj38; have t_hinv := hinv; have t_n46 := n46; have t_c47 := eqI c47; have t_c49 := neI c49; have : (0 : Int32).toInt = 0 := qI_0; have tnb_ := nib10 tn1520_ tn1517_ tn1518_ tn1519_ tn1527_ tn1538_ tn1539_ tn1540_ tn1541_ tn1542_; omega)) hT_ (by first | omega | (have t_hj38 := hj38; have t_hinv := hinv; have t_n46 := n46; have t_c47 := eqI c47; have t_c49 := neI c49; have : (0 : Int32).toInt = 0 := qI_0; have tnb_ := nib10 tn1520_ tn1517_ tn1518_ tn1519_ tn1527_ tn1538_ tn1539_ tn1540_ tn1541_ tn1542_; omega)) (by first | omega | (have t_hj38 := hj38; have t_hinv := hinv; have t_n46 := n46; have t_c47 := eqI c47; have t_c49 := neI c49; have : (0 : Int32).toInt = 0 := qI_0; have tnb_ := nib10 tn1520_ tn1517_ tn1518_ tn1519_ tn1527_ tn1538_ tn1539_ tn1540_ tn1541_ tn1542_; omega)) (by first | omega | (have t_hj38 := hj38; have t_hinv := hinv; have t_n46 := n46; have t_c47 := eqI c47; have t_c49 := neI c49; have : (0 : Int32).toInt = 0 := qI_0; have tnb_ := nib10 tn1520_ tn1517_ tn1518_ tn1519_ tn1527_ tn1538_ tn1539_ tn1540_ tn1541_ tn1542_; omega))) (kwV hg mfX5_readLine wt_390 ⟨Nat.le_of_ble_eq_true rfl, Nat.le_of_ble_eq_true rfl⟩) (preVWS hK hPc hDc hSS hS hFc (ci := 5) (r := (RX5, TX5, 12)) rfl rfl) rfl rfl hl.1 rfl (lv_room (Nat.le_of_ble_eq_true rfl)) dX5_readAll_37 ⟨Nat.le_of_ble_eq_true rfl, Nat.le_of_ble_eq_true rfl⟩) hS (fun q _ h => hFc q h) hFc (fun r55 ur55 t H1 locs ht hvm w56 hB hz1 hk1 hS => ?_)
            obtain ⟨u57, u58, u59, u60, u61, u62, u63, u64, u65, u66, u67, u68, u69, u70, u71, u72, u73, u74⟩ := ur55
            obtain ⟨hP1, hD1⟩ := hB
            rw [ht] at hP1
            obtain ⟨hP, hD⟩ := va_join (wr := []) (w1 := [(h0, .inr (5, [.ref tp, .ref td, .int u57, .int u58, .int y26, .int u59, .int (nI u60), .int (nI u61), .int u62, .int u63, .int u64, .int u65])), (tp, .inr (7, [.int (nI T), .ref ta])), (ta, .inl (G 0, 320, .inl f)), (td, .inr (9, [.int (nI u66), .int (nI u67), .int (nI u68), .ref a1, .ref a2, .ref a3, .ref a4, .ref a5, .ref a6])), (a1, .inl (G 0, 10, .inl u69)), (a2, .inl (G 0, 10, .inl u70)), (a3, .inl (G 0, 10, .inl u71)), (a4, .inl (G 0, 6, .inl u72)), (a5, .inl (G 0, 6, .inl u73)), (a6, .inl (G 0, 6, .inl u74))]) hP hD [7, 8, 9, 5, 0, 1, 6, 2, 3, 4] [] rfl rfl (by decide +kernel) (by decide +kernel) hk1 hFc hP1 hD1
            generalize H1 = H at hP hS ⊢
            obtain ⟨w56, w56x⟩ := w56
            have vw56 : (cLNq f T (((y24, y25, y27, k29, k31), y32, y33, y34, y35, k18, k20, k22, g12, g13, g23, g14, g15, g16) : CW)).1 = r55 := w56.2.symm
            have ew56 : (cLNq f T (((y24, y25, y27, k29, k31), y32, y33, y34, y35, k18, k20, k22, g12, g13, g23, g14, g15, g16) : CW)).2 = (((u57, u58, u59, u60, u61), u62, u63, u64, u65, u66, u67, u68, u69, u70, u71, u72, u73, u74) : CW) := w56x.2.2.2.symm
            refine lv_if_eq (tgt := 58) hx hb dX5_readAll_40 rfl (fun c75 => ?_) (fun c75 => ?_)
            · skip
              refine lv_iinc (v := nI (j11 + 1)) (lv' := [(1, .int (nI (j11 + 1))), (0, .ref h0)]) hx hb dX5_readAll_58 hl (k := 0) rfl (by rw [show Int32.ofInt 1 = nI 1 from by decide]; exact nI_add _ _) (by decide) rfl (fun ls hl => ?_)
              refine lv_goto (tgt := 11) hx hb dX5_readAll_61 rfl ?_
              exact ih11_36 (j11 + 1) (by omega) (by omega) u69 u70 u72 u73 u74 u66 u67 u68 u71 u57 u58 y26 u59 u60 u61 u62 u63 u64 u65 _ _ (by refine ⟨by (have t_hj38 := hj38; have t_hinv := hinv; have t_n46 := n46; have t_c47 := eqI c47; have t_c49 := neI c49; have t_c75 := eqI c75; have : (0 : Int32).toInt = 0 := qI_0; have tnb_ := nib10 tn1520_ tn1517_ tn1518_ tn1519_ tn1527_ tn1538_ tn1539_ tn1540_ tn1541_ tn1542_; have tqz_ := qz41_; omega), by (have t_hj38 := hj38; have t_hinv := hinv; have t_n46 := n46; have t_c47 := eqI c47; have t_c49 := neI c49; have t_c75 := eqI c75; have : (0 : Int32).toInt = 0 := qI_0; have tnb_ := nib10 tn1520_ tn1517_ tn1518_ tn1519_ tn1527_ tn1538_ tn1539_ tn1540_ tn1541_ tn1542_; have tqz_ := qz41_; omega), by (have t_hj38 := hj38; have t_hinv := hinv; have t_n46 := n46; have t_c47 := eqI c47; have t_c49 := neI c49; have t_c75 := eqI c75; have : (0 : Int32).toInt = 0 := qI_0; have tnb_ := nib10 tn1520_ tn1517_ tn1518_ tn1519_ tn1527_ tn1538_ tn1539_ tn1540_ tn1541_ tn1542_; have tqz_ := qz41_; omega), by (have t_hj38 := hj38; have t_hinv := hinv; have t_n46 := n46; have t_c47 := eqI c47; have t_c49 := neI c49; have t_c75 := eqI c75; have : (0 : Int32).toInt = 0 := qI_0; have tnb_ := nib10 tn1520_ tn1517_ tn1518_ tn1519_ tn1527_ tn1538_ tn1539_ tn1540_ tn1541_ tn1542_; have tqz_ := qz41_; omega), ⟨by (have t_hj38 := hj38; have t_hinv := hinv; have t_n46 := n46; have t_c47 := eqI c47; have t_c49 := neI c49; have t_c75 := eqI c75; have : (0 : Int32).toInt = 0 := qI_0; have tnb_ := nib10 tn1520_ tn1517_ tn1518_ tn1519_ tn1527_ tn1538_ tn1539_ tn1540_ tn1541_ tn1542_; have tqz_ := qz41_; omega), by (have t_hj38 := hj38; have t_hinv := hinv; have t_n46 := n46; have t_c47 := eqI c47; have t_c49 := neI c49; have t_c75 := eqI c75; have : (0 : Int32).toInt = 0 := qI_0; have tnb_ := nib10 tn1520_ tn1517_ tn1518_ tn1519_ tn1527_ tn1538_ tn1539_ tn1540_ tn1541_ tn1542_; have tqz_ := qz41_; omega)⟩, ?_⟩; refine Eq.trans ?_ hinv.2.2.2.2.2; rw [show T + 1 - j11 = (T + 1 - (j11 + 1)) + 1 by (have t_hj38 := hj38; have t_hinv := hinv; have t_n46 := n46; have t_c47 := eqI c47; have t_c49 := neI c49; have t_c75 := eqI c75; have : (0 : Int32).toInt = 0 := qI_0; have tnb_ := nib10 tn1520_ tn1517_ tn1518_ tn1519_ tn1527_ tn1538_ tn1539_ tn1540_ tn1541_ tn1542_; have tqz_ := qz41_; omega)]; rw [cLP_a (by first | with_reducible assumption | assumption) (by first | with_reducible assumption | assumption) (vw56.trans (by first | with_reducible assumption | assumption)), ew56]) (hP.sub [4, 5, 7, 8, 9, 3, 6, 0, 1, 2] rfl) (hD.sub [4, 5, 7, 8, 9, 3, 6, 0, 1, 2] (by decide) rfl) hS ls (lv_sub hl [0, 1] rfl)
            · skip
              refine lv_aload_n hx hb dX5_readAll_43 rfl (lv_at hl 1 rfl) ?_
              refine lv_dup hx hb dX5_readAll_44 rfl ?_
              refine va_get (D := (dC, dI)) (ci := 5) (v := .int y26) (C := RX5) (T := TX5) (N := 12) hx hb hg inG5 hown hK.1 hP 0 rfl rfl 4 (Nat.le_of_ble_eq_true rfl) (hg _ wt_113) (fun _ h9 => h9) rfl dX5_readAll_45 ?_
              refine lv_iconst (v := 1) hx hb dX5_readAll_48 rfl ?_
              refine lv_iadd hx hb dX5_readAll_49 ?_
              refine va_put (D := (dC, dI)) (ci := 5) (v := .int (y26 + 1)) (ty := .int) (C := RX5) (T := TX5) (N := 12) hx hb hg inG5 tyX5 tyX5_ok nmX5 hown hK.1 hP hD hS 0 rfl rfl 4 (Nat.le_of_ble_eq_true rfl) (hg _ wt_113) (fun _ h9 => h9) rfl (by decide +kernel) rfl rfl (Nat.le_of_ble_eq_true rfl) dX5_readAll_50 (fun H locs hP hD hS => ?_)
              refine lv_aload_n hx hb dX5_readAll_53 rfl (lv_at hl 1 rfl) ?_
              obtain ⟨hPc, hDc, hFc⟩ := va_sub3 (ws' := [(h0, .inr (5, [.ref tp, .ref td, .int u57, .int u58, .int (y26 + 1), .int u59, .int (nI u60), .int (nI u61), .int u62, .int u63, .int u64, .int u65])), (tp, .inr (7, [.int (nI T), .ref ta])), (ta, .inl (G 0, 320, .inl f))]) hP hD hS hA [0, 1, 2] (by decide +kernel) rfl
              refine va_calli (va_runV (As := []) (rest := []) ⟨hx, hb, hml, hown, hg⟩ (c_X5_nextTokenE l dC dI G _ h0 tp td ta T u61 u57 u58 (y26 + 1) u59 u62 u63 u64 u65 (nI u60) f hT_ (by first | omega | (have t_hj38 := hj38; have t_hinv := hinv; have t_n46 := n46; have t_c47 := eqI c47; have t_c49 := neI c49; have t_c75 := neI c75; have : (0 : Int32).toInt = 0 := qI_0; have tnb_ := nib10 tn1520_ tn1517_ tn1518_ tn1519_ tn1527_ tn1538_ tn1539_ tn1540_ tn1541_ tn1542_; omega))) (kwV hg mfX5_nextToken wt_374 ⟨Nat.le_of_ble_eq_true rfl, Nat.le_of_ble_eq_true rfl⟩) (preVW hK hPc hDc (ci := 5) (r := (RX5, TX5, 12)) rfl rfl) rfl rfl hl.1 rfl (lv_room (Nat.le_of_ble_eq_true rfl)) dX5_readAll_54 ⟨Nat.le_of_ble_eq_true rfl, Nat.le_of_ble_eq_true rfl⟩) hS (fun q _ h => hFc q h) hFc (fun r76 ur76 t H1 locs ht hvm w77 hB hz1 hk1 hS => ?_)
              obtain ⟨u78, u79, u80, u81, u82⟩ := ur76
              obtain ⟨hP1, hD1⟩ := hB
              rw [ht] at hP1
              obtain ⟨hP, hD⟩ := va_join (wr := [(td, .inr (9, [.int (nI u66), .int (nI u67), .int (nI u68), .ref a1, .ref a2, .ref a3, .ref a4, .ref a5, .ref a6])), (a1, .inl (G 0, 10, .inl u69)), (a2, .inl (G 0, 10, .inl u70)), (a3, .inl (G 0, 10, .inl u71)), (a4, .inl (G 0, 6, .inl u72)), (a5, .inl (G 0, 6, .inl u73)), (a6, .inl (G 0, 6, .inl u74))]) (w1 := [(h0, .inr (5, [.ref tp, .ref td, .int u78, .int u79, .int (y26 + 1), .int u80, .int (nI u81), .int (nI u82), .int u62, .int u63, .int u64, .int u65])), (tp, .inr (7, [.int (nI T), .ref ta])), (ta, .inl (G 0, 320, .inl f))]) hP hD [0, 1, 2] [3, 4, 5, 6, 7, 8, 9] rfl rfl (by decide +kernel) (by decide +kernel) hk1 hFc hP1 hD1
              generalize H1 = H at hP hS ⊢
              obtain ⟨w77, w77x⟩ := w77
              have vw77 : tNG f T (u57, u58, u59, u60, u61) = r76 := w77.symm
              have ew77 : tNT f T (u57, u58, u59, u60, u61) = (u78, u79, u80, u81, u82) := w77x.2.2.symm
              refine lv_pop hx hb dX5_readAll_57 rfl ?_
              refine lv_iinc (v := nI (j11 + 1)) (lv' := [(1, .int (nI (j11 + 1))), (0, .ref h0)]) hx hb dX5_readAll_58 hl (k := 0) rfl (by rw [show Int32.ofInt 1 = nI 1 from by decide]; exact nI_add _ _) (by decide) rfl (fun ls hl => ?_)
              refine lv_goto (tgt := 11) hx hb dX5_readAll_61 rfl ?_
              exact ih11_36 (j11 + 1) (by omega) (by omega) u69 u70 u72 u73 u74 u66 u67 u68 u71 u78 u79 (y26 + 1) u80 u81 u82 u62 u63 u64 u65 _ _ (by have t_hj38 := hj38; have t_hinv := hinv; have t_n46 := n46; have t_c47 := eqI c47; have t_c49 := neI c49; have t_c75 := neI c75; have : (0 : Int32).toInt = 0 := qI_0; have tnb_ := nib10 tn1520_ tn1517_ tn1518_ tn1519_ tn1527_ tn1538_ tn1539_ tn1540_ tn1541_ tn1542_; have tqz_ := qz41_; refine ⟨by omega, by omega, by omega, by omega, ⟨by omega, by omega⟩, ?_⟩; refine Eq.trans ?_ hinv.2.2.2.2.2; rw [show T + 1 - j11 = (T + 1 - (j11 + 1)) + 1 by omega]; rw [cLP_b (by first | with_reducible assumption | assumption) (by first | with_reducible assumption | assumption) (fun h9 => absurd (vw56.symm.trans h9) (by first | with_reducible assumption | assumption)), ew56]; exact congrArg (fun z9 : CS5 => cLP f T (T + 1 - (j11 + 1)) ((z9, u62, u63, u64, u65, u66, u67, u68, u69, u70, u71, u72, u73, u74) : CW) _) ew77.symm) (hP.sub [1, 2, 4, 5, 6, 0, 3, 7, 8, 9] rfl) (hD.sub [1, 2, 4, 5, 6, 0, 3, 7, 8, 9] (by decide) rfl) hS ls (lv_sub hl [0, 1] rfl)
  exact loop11_36 (321 + 1) 0 (by omega) (by omega) g1 g2 g4 g5 g6 0 0 5 u3 u6 u7 0 u8 u9 u10 0 0 (-4) (-4) _ _ (by refine ⟨by omega, by omega, by omega, by omega, ⟨by omega, by omega⟩, rfl⟩) hP hD hS ls (lv_sub hl [0, 1] rfl)

set_option maxHeartbeats 8000000 in
set_option maxRecDepth 100000 in
theorem c_X10_textE (l : Launch) (dC : Nat → ClassId) (dI : Nat → Nat → Nat) (G : Nat → ClassId) (sz : Nat) (h0 rd wy tr im kp od ch cr le mk tl sh tp td ta T tb1 tb2 tb3 tb4 tb5 tb6 TN TB TD a1 a2 a3 a4 a5 a6 N B D l1 l2 l3 l4 m1 m2 S Sm : Nat) (tf rf x0 x1 x2 x3 x4 x5 x6 x7 x8 x9 : Int32) (f g1 g2 g3 g4 g5 g6 f1 f2 f3 f4 f5 f6 fk : Nat → Int32) (adK adV : Nat → Nat) (hT : T ≤ 320) (hN_N : N ≤ 10) (hB_B : B ≤ 6) (hD_D : 1 ≤ D ∧ D ≤ 9) (hN_TN : TN ≤ 10) (hB_TB : TB ≤ 6) (hD_TD : 1 ≤ TD ∧ TD ≤ 9) (hS0 : S ≤ 8) (hSm : Sm ≤ 6) : Met l yX10_text (Cond.code yX10_text cX10_text 2 (some .int) :: GT) ({ frames := 10, cells := 0, slots := 0, locals := 213 } : Room) (PcWS [.ref h0] dC dI G [(h0, .inr (10, [.ref rd, .ref wy, .ref tr, .ref im, .ref kp, .ref od, .ref ch, .ref cr, .ref le, .ref mk, .ref tl, .ref sh, .int tf, .int rf])), (rd, .inr (5, [.ref tp, .ref td, .int x0, .int x1, .int x2, .int x3, .int x4, .int x5, .int x6, .int x7, .int x8, .int x9])), (tp, .inr (7, [.int (nI T), .ref ta])), (ta, .inl (G 0, 320, .inl f)), (td, .inr (9, [.int (nI TN), .int (nI TB), .int (nI TD), .ref tb1, .ref tb2, .ref tb3, .ref tb4, .ref tb5, .ref tb6])), (tb1, .inl (G 0, 10, .inl g1)), (tb2, .inl (G 0, 10, .inl g2)), (tb3, .inl (G 0, 10, .inl g3)), (tb4, .inl (G 0, 6, .inl g4)), (tb5, .inl (G 0, 6, .inl g5)), (tb6, .inl (G 0, 6, .inl g6)), (wy, .inr (9, [.int (nI N), .int (nI B), .int (nI D), .ref a1, .ref a2, .ref a3, .ref a4, .ref a5, .ref a6])), (a1, .inl (G 0, 10, .inl f1)), (a2, .inl (G 0, 10, .inl f2)), (a3, .inl (G 0, 10, .inl f3)), (a4, .inl (G 0, 6, .inl f4)), (a5, .inl (G 0, 6, .inl f5)), (a6, .inl (G 0, 6, .inl f6)), (le, .inr (2, [.int (nI S), .ref l1, .ref l2, .ref l3, .ref l4])), (mk, .inr (3, [.int (nI Sm), .ref m1, .ref m2])), (kp, .inl (G 2, 2, .inl fk))] adK adV sz) (va_Qi (fun (r : Int32) (u : Int32 × Int32 × Int32 × Int32 × Int32 × Int32 × Int32 × Int32 × Int32 × Int32 × Int32 × Nat × Nat × Nat × (Nat → Int32) × (Nat → Int32) × (Nat → Int32) × (Nat → Int32) × (Nat → Int32) × (Nat → Int32) × Nat × Nat × Nat × (Nat → Int32) × (Nat → Int32) × (Nat → Int32) × (Nat → Int32) × (Nat → Int32) × (Nat → Int32) × Nat × Nat × (Nat → Int32)) => match u with | (ou0, ou1, ou2, ou3, ou4, ou5, ou6, ou7, ou8, ou9, ou10, n0, n1, n2, v1, v2, v3, v4, v5, v6, w0, w1, w2, y1, y2, y3, y4, y5, y6, s0, s1, s2) => (r = (if (cFN T (cRA f T x3 g1 g2 g3 g4 g5 g6).1).1 = 0 then (cRA f T x3 g1 g2 g3 g4 g5 g6).2 else (-10) - (cFN T (cRA f T x3 g1 g2 g3 g4 g5 g6).1).2.1)) ∧ ((n0 ≤ 10 ∧ n1 ≤ 6 ∧ (1 ≤ n2 ∧ n2 ≤ 9)) ∧ (w0 ≤ 10 ∧ w1 ≤ 6 ∧ (1 ≤ w2 ∧ w2 ≤ 9)) ∧ s0 ≤ 8 ∧ s1 ≤ 6) ∧ ou10 = (cFN T (cRA f T x3 g1 g2 g3 g4 g5 g6).1).1 ∧ w0 = (if (cFN T (cRA f T x3 g1 g2 g3 g4 g5 g6).1).1 = 0 then (cRA f T x3 g1 g2 g3 g4 g5 g6).1.2.2.2.2.2.1 else N) ∧ w1 = (if (cFN T (cRA f T x3 g1 g2 g3 g4 g5 g6).1).1 = 0 then (cRA f T x3 g1 g2 g3 g4 g5 g6).1.2.2.2.2.2.2.1 else B) ∧ w2 = (if (cFN T (cRA f T x3 g1 g2 g3 g4 g5 g6).1).1 = 0 then (cRA f T x3 g1 g2 g3 g4 g5 g6).1.2.2.2.2.2.2.2.1 else D) ∧ y1 = (if (cFN T (cRA f T x3 g1 g2 g3 g4 g5 g6).1).1 = 0 then va_cpy ((cRA f T x3 g1 g2 g3 g4 g5 g6).1.2.2.2.2.2.2.2.2.1) f1 0 0 10 else f1) ∧ y2 = (if (cFN T (cRA f T x3 g1 g2 g3 g4 g5 g6).1).1 = 0 then va_cpy ((cRA f T x3 g1 g2 g3 g4 g5 g6).1.2.2.2.2.2.2.2.2.2.1) f2 0 0 10 else f2) ∧ y3 = (if (cFN T (cRA f T x3 g1 g2 g3 g4 g5 g6).1).1 = 0 then va_cpy ((cRA f T x3 g1 g2 g3 g4 g5 g6).1.2.2.2.2.2.2.2.2.2.2.1) f3 0 0 10 else f3) ∧ y4 = (if (cFN T (cRA f T x3 g1 g2 g3 g4 g5 g6).1).1 = 0 then va_cpy ((cRA f T x3 g1 g2 g3 g4 g5 g6).1.2.2.2.2.2.2.2.2.2.2.2.1) f4 0 0 6 else f4) ∧ y5 = (if (cFN T (cRA f T x3 g1 g2 g3 g4 g5 g6).1).1 = 0 then va_cpy ((cRA f T x3 g1 g2 g3 g4 g5 g6).1.2.2.2.2.2.2.2.2.2.2.2.2.1) f5 0 0 6 else f5) ∧ y6 = (if (cFN T (cRA f T x3 g1 g2 g3 g4 g5 g6).1).1 = 0 then va_cpy ((cRA f T x3 g1 g2 g3 g4 g5 g6).1.2.2.2.2.2.2.2.2.2.2.2.2.2) f6 0 0 6 else f6) ∧ s0 = (if (cFN T (cRA f T x3 g1 g2 g3 g4 g5 g6).1).1 = 0 then 0 else S) ∧ s1 = (if (cFN T (cRA f T x3 g1 g2 g3 g4 g5 g6).1).1 = 0 then 0 else Sm) ∧ s2 = (if (cFN T (cRA f T x3 g1 g2 g3 g4 g5 g6).1).1 = 0 then upd (upd fk 0 0) 1 0 else fk)) (fun (u : Int32 × Int32 × Int32 × Int32 × Int32 × Int32 × Int32 × Int32 × Int32 × Int32 × Int32 × Nat × Nat × Nat × (Nat → Int32) × (Nat → Int32) × (Nat → Int32) × (Nat → Int32) × (Nat → Int32) × (Nat → Int32) × Nat × Nat × Nat × (Nat → Int32) × (Nat → Int32) × (Nat → Int32) × (Nat → Int32) × (Nat → Int32) × (Nat → Int32) × Nat × Nat × (Nat → Int32)) (t : State) => match u with | (ou0, ou1, ou2, ou3, ou4, ou5, ou6, ou7, ou8, ou9, ou10, n0, n1, n2, v1, v2, v3, v4, v5, v6, w0, w1, w2, y1, y2, y3, y4, y5, y6, s0, s1, s2) => va_P (dC, dI) vwCl [(h0, .inr (10, [.ref rd, .ref wy, .ref tr, .ref im, .ref kp, .ref od, .ref ch, .ref cr, .ref le, .ref mk, .ref tl, .ref sh, .int ou10, .int rf])), (rd, .inr (5, [.ref tp, .ref td, .int ou0, .int ou1, .int ou2, .int ou3, .int ou4, .int ou5, .int ou6, .int ou7, .int ou8, .int ou9])), (tp, .inr (7, [.int 0, .ref ta])), (ta, .inl (G 0, 320, .inl f)), (td, .inr (9, [.int (nI n0), .int (nI n1), .int (nI n2), .ref tb1, .ref tb2, .ref tb3, .ref tb4, .ref tb5, .ref tb6])), (tb1, .inl (G 0, 10, .inl v1)), (tb2, .inl (G 0, 10, .inl v2)), (tb3, .inl (G 0, 10, .inl v3)), (tb4, .inl (G 0, 6, .inl v4)), (tb5, .inl (G 0, 6, .inl v5)), (tb6, .inl (G 0, 6, .inl v6)), (wy, .inr (9, [.int (nI w0), .int (nI w1), .int (nI w2), .ref a1, .ref a2, .ref a3, .ref a4, .ref a5, .ref a6])), (a1, .inl (G 0, 10, .inl y1)), (a2, .inl (G 0, 10, .inl y2)), (a3, .inl (G 0, 10, .inl y3)), (a4, .inl (G 0, 6, .inl y4)), (a5, .inl (G 0, 6, .inl y5)), (a6, .inl (G 0, 6, .inl y6)), (le, .inr (2, [.int (nI s0), .ref l1, .ref l2, .ref l3, .ref l4])), (mk, .inr (3, [.int (nI s1), .ref m1, .ref m2])), (kp, .inl (G 2, 2, .inl s2))] t.heap ∧ va_D (va_A [(h0, .inr (10, [.ref rd, .ref wy, .ref tr, .ref im, .ref kp, .ref od, .ref ch, .ref cr, .ref le, .ref mk, .ref tl, .ref sh, .int tf, .int rf])), (rd, .inr (5, [.ref tp, .ref td, .int x0, .int x1, .int x2, .int x3, .int x4, .int x5, .int x6, .int x7, .int x8, .int x9])), (tp, .inr (7, [.int (nI T), .ref ta])), (ta, .inl (G 0, 320, .inl f)), (td, .inr (9, [.int (nI TN), .int (nI TB), .int (nI TD), .ref tb1, .ref tb2, .ref tb3, .ref tb4, .ref tb5, .ref tb6])), (tb1, .inl (G 0, 10, .inl g1)), (tb2, .inl (G 0, 10, .inl g2)), (tb3, .inl (G 0, 10, .inl g3)), (tb4, .inl (G 0, 6, .inl g4)), (tb5, .inl (G 0, 6, .inl g5)), (tb6, .inl (G 0, 6, .inl g6)), (wy, .inr (9, [.int (nI N), .int (nI B), .int (nI D), .ref a1, .ref a2, .ref a3, .ref a4, .ref a5, .ref a6])), (a1, .inl (G 0, 10, .inl f1)), (a2, .inl (G 0, 10, .inl f2)), (a3, .inl (G 0, 10, .inl f3)), (a4, .inl (G 0, 6, .inl f4)), (a5, .inl (G 0, 6, .inl f5)), (a6, .inl (G 0, 6, .inl f6)), (le, .inr (2, [.int (nI S), .ref l1, .ref l2, .ref l3, .ref l4])), (mk, .inr (3, [.int (nI Sm), .ref m1, .ref m2])), (kp, .inl (G 2, 2, .inl fk))] sz) [(h0, .inr (10, [.ref rd, .ref wy, .ref tr, .ref im, .ref kp, .ref od, .ref ch, .ref cr, .ref le, .ref mk, .ref tl, .ref sh, .int ou10, .int rf])), (rd, .inr (5, [.ref tp, .ref td, .int ou0, .int ou1, .int ou2, .int ou3, .int ou4, .int ou5, .int ou6, .int ou7, .int ou8, .int ou9])), (tp, .inr (7, [.int 0, .ref ta])), (ta, .inl (G 0, 320, .inl f)), (td, .inr (9, [.int (nI n0), .int (nI n1), .int (nI n2), .ref tb1, .ref tb2, .ref tb3, .ref tb4, .ref tb5, .ref tb6])), (tb1, .inl (G 0, 10, .inl v1)), (tb2, .inl (G 0, 10, .inl v2)), (tb3, .inl (G 0, 10, .inl v3)), (tb4, .inl (G 0, 6, .inl v4)), (tb5, .inl (G 0, 6, .inl v5)), (tb6, .inl (G 0, 6, .inl v6)), (wy, .inr (9, [.int (nI w0), .int (nI w1), .int (nI w2), .ref a1, .ref a2, .ref a3, .ref a4, .ref a5, .ref a6])), (a1, .inl (G 0, 10, .inl y1)), (a2, .inl (G 0, 10, .inl y2)), (a3, .inl (G 0, 10, .inl y3)), (a4, .inl (G 0, 6, .inl y4)), (a5, .inl (G 0, 6, .inl y5)), (a6, .inl (G 0, 6, .inl y6)), (le, .inr (2, [.int (nI s0), .ref l1, .ref l2, .ref l3, .ref l4])), (mk, .inr (3, [.int (nI s1), .ref m1, .ref m2])), (kp, .inl (G 2, 2, .inl s2))]) (va_A [(h0, .inr (10, [.ref rd, .ref wy, .ref tr, .ref im, .ref kp, .ref od, .ref ch, .ref cr, .ref le, .ref mk, .ref tl, .ref sh, .int tf, .int rf])), (rd, .inr (5, [.ref tp, .ref td, .int x0, .int x1, .int x2, .int x3, .int x4, .int x5, .int x6, .int x7, .int x8, .int x9])), (tp, .inr (7, [.int (nI T), .ref ta])), (ta, .inl (G 0, 320, .inl f)), (td, .inr (9, [.int (nI TN), .int (nI TB), .int (nI TD), .ref tb1, .ref tb2, .ref tb3, .ref tb4, .ref tb5, .ref tb6])), (tb1, .inl (G 0, 10, .inl g1)), (tb2, .inl (G 0, 10, .inl g2)), (tb3, .inl (G 0, 10, .inl g3)), (tb4, .inl (G 0, 6, .inl g4)), (tb5, .inl (G 0, 6, .inl g5)), (tb6, .inl (G 0, 6, .inl g6)), (wy, .inr (9, [.int (nI N), .int (nI B), .int (nI D), .ref a1, .ref a2, .ref a3, .ref a4, .ref a5, .ref a6])), (a1, .inl (G 0, 10, .inl f1)), (a2, .inl (G 0, 10, .inl f2)), (a3, .inl (G 0, 10, .inl f3)), (a4, .inl (G 0, 6, .inl f4)), (a5, .inl (G 0, 6, .inl f5)), (a6, .inl (G 0, 6, .inl f6)), (le, .inr (2, [.int (nI S), .ref l1, .ref l2, .ref l3, .ref l4])), (mk, .inr (3, [.int (nI Sm), .ref m1, .ref m2])), (kp, .inl (G 2, 2, .inl fk))] sz)) 0 0 (va_A [(h0, .inr (10, [.ref rd, .ref wy, .ref tr, .ref im, .ref kp, .ref od, .ref ch, .ref cr, .ref le, .ref mk, .ref tl, .ref sh, .int tf, .int rf])), (rd, .inr (5, [.ref tp, .ref td, .int x0, .int x1, .int x2, .int x3, .int x4, .int x5, .int x6, .int x7, .int x8, .int x9])), (tp, .inr (7, [.int (nI T), .ref ta])), (ta, .inl (G 0, 320, .inl f)), (td, .inr (9, [.int (nI TN), .int (nI TB), .int (nI TD), .ref tb1, .ref tb2, .ref tb3, .ref tb4, .ref tb5, .ref tb6])), (tb1, .inl (G 0, 10, .inl g1)), (tb2, .inl (G 0, 10, .inl g2)), (tb3, .inl (G 0, 10, .inl g3)), (tb4, .inl (G 0, 6, .inl g4)), (tb5, .inl (G 0, 6, .inl g5)), (tb6, .inl (G 0, 6, .inl g6)), (wy, .inr (9, [.int (nI N), .int (nI B), .int (nI D), .ref a1, .ref a2, .ref a3, .ref a4, .ref a5, .ref a6])), (a1, .inl (G 0, 10, .inl f1)), (a2, .inl (G 0, 10, .inl f2)), (a3, .inl (G 0, 10, .inl f3)), (a4, .inl (G 0, 6, .inl f4)), (a5, .inl (G 0, 6, .inl f5)), (a6, .inl (G 0, 6, .inl f6)), (le, .inr (2, [.int (nI S), .ref l1, .ref l2, .ref l3, .ref l4])), (mk, .inr (3, [.int (nI Sm), .ref m1, .ref m2])), (kp, .inl (G 2, 2, .inl fk))] sz) := by
  have hT_ := hT
  have tn1543_ : nIT N := fun _ => nI_toInt (by omega)
  have tn1544_ : nIT B := fun _ => nI_toInt (by omega)
  have tn1545_ : nIT D := fun _ => nI_toInt (by omega)
  have tn1546_ : nIT T := fun _ => nI_toInt (by omega)
  have tn1547_ : nIT S := fun _ => nI_toInt (by omega)
  refine Met.ofW (cc := cX10_text) (maxL := 2) (ret := (some .int)) (by decide) rfl ?_
  intro p e s m args below meth c s₁ Bd hml hv
  obtain ⟨rfl, hsz, hP, hK, hD0, hSS⟩ := hv
  have hx := Bd.exec
  have hb := Bd.bytes
  have hr := Bd.returns
  have hg : ∀ w ∈ GT, w.before ([.ref h0] : List Value).toArray s = true := fun w h => atoms_spec (ws := Cond.code yX10_text cX10_text 2 (some .int) :: GT) Bd.pre w (List.mem_cons_of_mem _ h)
  have hown : s.vm.findClass RX10 = some m.cls := findClass_of_methodNamed Bd.named
  have hlocks := Bd.notSynchronized
  subst hsz
  have hD := hD0.self (sz := s.heap.size)
  generalize hAe : va_A [(h0, .inr (10, [.ref rd, .ref wy, .ref tr, .ref im, .ref kp, .ref od, .ref ch, .ref cr, .ref le, .ref mk, .ref tl, .ref sh, .int tf, .int rf])), (rd, .inr (5, [.ref tp, .ref td, .int x0, .int x1, .int x2, .int x3, .int x4, .int x5, .int x6, .int x7, .int x8, .int x9])), (tp, .inr (7, [.int (nI T), .ref ta])), (ta, .inl (G 0, 320, .inl f)), (td, .inr (9, [.int (nI TN), .int (nI TB), .int (nI TD), .ref tb1, .ref tb2, .ref tb3, .ref tb4, .ref tb5, .ref tb6])), (tb1, .inl (G 0, 10, .inl g1)), (tb2, .inl (G 0, 10, .inl g2)), (tb3, .inl (G 0, 10, .inl g3)), (tb4, .inl (G 0, 6, .inl g4)), (tb5, .inl (G 0, 6, .inl g5)), (tb6, .inl (G 0, 6, .inl g6)), (wy, .inr (9, [.int (nI N), .int (nI B), .int (nI D), .ref a1, .ref a2, .ref a3, .ref a4, .ref a5, .ref a6])), (a1, .inl (G 0, 10, .inl f1)), (a2, .inl (G 0, 10, .inl f2)), (a3, .inl (G 0, 10, .inl f3)), (a4, .inl (G 0, 6, .inl f4)), (a5, .inl (G 0, 6, .inl f5)), (a6, .inl (G 0, 6, .inl f6)), (le, .inr (2, [.int (nI S), .ref l1, .ref l2, .ref l3, .ref l4])), (mk, .inr (3, [.int (nI Sm), .ref m1, .ref m2])), (kp, .inl (G 2, 2, .inl fk))] s.heap.size = A at hD hSS ⊢
  have hA : ∀ q : Nat, s.heap.size ≤ q → A q := fun q h => by rw [← hAe]; exact Or.inr h
  have hS : va_S A s.heap s.heap [] := va_S.rf
  have hl := lv_entry ([.ref h0]) (n := 2) (Nat.le_of_ble_eq_true rfl)
  rw [lg_entry_eq]
  generalize (lg_sl ([.ref h0]) ++ List.replicate (2 - (lg_sl ([.ref h0])).length) Slot.unset).toArray = ls at hl ⊢
  have hl : lv_has ls 2 [(0, .ref h0)] := hl
  refine lv_aload_n hx hb dX10_text_0 rfl (lv_at hl 0 rfl) ?_
  refine va_get (D := (dC, dI)) (ci := 10) (v := .ref rd) (C := RX10) (T := TX10) (N := 14) hx hb hg inG10 hown hK.1 hP 0 rfl rfl 0 (Nat.le_of_ble_eq_true rfl) (hg _ wt_302) (fun _ h9 => h9) rfl dX10_text_1 ?_
  obtain ⟨hPc, hDc, hFc⟩ := va_sub3 (ws' := [(rd, .inr (5, [.ref tp, .ref td, .int x0, .int x1, .int x2, .int x3, .int x4, .int x5, .int x6, .int x7, .int x8, .int x9])), (tp, .inr (7, [.int (nI T), .ref ta])), (ta, .inl (G 0, 320, .inl f)), (td, .inr (9, [.int (nI TN), .int (nI TB), .int (nI TD), .ref tb1, .ref tb2, .ref tb3, .ref tb4, .ref tb5, .ref tb6])), (tb1, .inl (G 0, 10, .inl g1)), (tb2, .inl (G 0, 10, .inl g2)), (tb3, .inl (G 0, 10, .inl g3)), (tb4, .inl (G 0, 6, .inl g4)), (tb5, .inl (G 0, 6, .inl g5)), (tb6, .inl (G 0, 6, .inl g6))]) hP hD hS hA [1, 2, 3, 4, 5, 6, 7, 8, 9, 10] (by decide +kernel) rfl
  have tn1548_ : nIT TN := fun _ => nI_toInt (by omega)
  have tn1549_ : nIT TB := fun _ => nI_toInt (by omega)
  have tn1550_ : nIT TD := fun _ => nI_toInt (by omega)
  have tn1551_ : nIT Sm := fun _ => nI_toInt (by omega)
  refine va_callv (va_runVN (As := []) (rest := []) ⟨hx, hb, hml, hown, hg⟩ (c_X5_readAllE l dC dI G _ rd tp td ta T tb1 tb2 tb3 tb4 tb5 tb6 TN TB TD x0 x1 x2 x3 x6 x7 x8 x9 x4 x5 f g1 g2 g3 g4 g5 g6 adK adV hT_ hN_TN hB_TB hD_TD) (kwVN hg hK mfX5_readAll wn_362 ⟨Nat.le_of_ble_eq_true rfl, Nat.le_of_ble_eq_true rfl⟩) (preVWS hK hPc hDc hSS hS hFc (ci := 5) (r := (RX5, TX5, 12)) rfl rfl) rfl rfl hl.1 rfl (lv_room (Nat.le_of_ble_eq_true rfl)) dX10_text_4 ⟨Nat.le_of_ble_eq_true rfl, Nat.le_of_ble_eq_true rfl⟩) hS (fun q _ h => hFc q h) hFc (fun ur1 t H1 locs ht hvm w2 hB hz1 hk1 hS => ?_)
  obtain ⟨u3, u4, u5, u6, u7, u8, u9, u10, u11, u12, u13, u14, u15, u16, u17, u18, u19, u20, u21⟩ := ur1
  obtain ⟨hP1, hD1⟩ := hB
  rw [ht] at hP1
  obtain ⟨hP, hD⟩ := va_join (wr := [(h0, .inr (10, [.ref rd, .ref wy, .ref tr, .ref im, .ref kp, .ref od, .ref ch, .ref cr, .ref le, .ref mk, .ref tl, .ref sh, .int tf, .int rf])), (wy, .inr (9, [.int (nI N), .int (nI B), .int (nI D), .ref a1, .ref a2, .ref a3, .ref a4, .ref a5, .ref a6])), (a1, .inl (G 0, 10, .inl f1)), (a2, .inl (G 0, 10, .inl f2)), (a3, .inl (G 0, 10, .inl f3)), (a4, .inl (G 0, 6, .inl f4)), (a5, .inl (G 0, 6, .inl f5)), (a6, .inl (G 0, 6, .inl f6)), (le, .inr (2, [.int (nI S), .ref l1, .ref l2, .ref l3, .ref l4])), (mk, .inr (3, [.int (nI Sm), .ref m1, .ref m2])), (kp, .inl (G 2, 2, .inl fk))]) (w1 := [(rd, .inr (5, [.ref tp, .ref td, .int u3, .int u4, .int u5, .int u6, .int (nI u7), .int (nI u8), .int u9, .int u10, .int u11, .int u12])), (tp, .inr (7, [.int (nI T), .ref ta])), (ta, .inl (G 0, 320, .inl f)), (td, .inr (9, [.int (nI u13), .int (nI u14), .int (nI u15), .ref tb1, .ref tb2, .ref tb3, .ref tb4, .ref tb5, .ref tb6])), (tb1, .inl (G 0, 10, .inl u16)), (tb2, .inl (G 0, 10, .inl u17)), (tb3, .inl (G 0, 10, .inl u18)), (tb4, .inl (G 0, 6, .inl u19)), (tb5, .inl (G 0, 6, .inl u20)), (tb6, .inl (G 0, 6, .inl u21))]) hP hD [1, 2, 3, 4, 5, 6, 7, 8, 9, 10] [0, 11, 12, 13, 14, 15, 16, 17, 18, 19, 20] rfl rfl (by decide +kernel) (by decide +kernel) hk1 hFc hP1 hD1
  have w2 : (u13 ≤ 10 ∧ u14 ≤ 6 ∧ (1 ≤ u15 ∧ u15 ≤ 9)) ∧ (u3, u4, u6, u7, u8) = cFN T (cRA f T x3 g1 g2 g3 g4 g5 g6).1 ∧ (u9, u10, u11, u12, u13, u14, u15, u16, u17, u18, u19, u20, u21) = (cRA f T x3 g1 g2 g3 g4 g5 g6).1.2 ∧ u5 = (cRA f T x3 g1 g2 g3 g4 g5 g6).2 := w2
  generalize H1 = H at hP hS ⊢
  have ew2a : cFN T (cRA f T x3 g1 g2 g3 g4 g5 g6).1 = (u3, u4, u6, u7, u8) := w2.2.1.symm
  have ew2b : (cRA f T x3 g1 g2 g3 g4 g5 g6).1.2 = (u9, u10, u11, u12, u13, u14, u15, u16, u17, u18, u19, u20, u21) := w2.2.2.1.symm
  have ew2c : (cRA f T x3 g1 g2 g3 g4 g5 g6).2 = u5 := w2.2.2.2.symm
  refine lv_aload_n hx hb dX10_text_7 rfl (lv_at hl 0 rfl) ?_
  refine va_get (D := (dC, dI)) (ci := 10) (v := .ref rd) (C := RX10) (T := TX10) (N := 14) hx hb hg inG10 hown hK.1 hP 0 rfl rfl 0 (Nat.le_of_ble_eq_true rfl) (hg _ wt_302) (fun _ h9 => h9) rfl dX10_text_8 ?_
  refine va_getN (D := (dC, dI)) (ci := 5) (v := .ref tp) (C := RX5) (T := TX5) (N := 12) hx hb hg inG5 hown hK.1 hP 11 rfl rfl 0 (Nat.le_of_ble_eq_true rfl) (hK.nest wn_106) (fun _ h9 => h9) rfl dX10_text_11 ?_
  refine lv_iconst (v := 0) hx hb dX10_text_14 rfl ?_
  refine va_putN (D := (dC, dI)) (ci := 7) (v := .int 0) (ty := .int) (C := RX7) (T := TX7) (N := 2) hx hb hg inG7 tyX7 tyX7_ok nmX7 hown hK.1 hP hD hS 12 rfl rfl 0 (by decide) (hK.nest wn_42) (fun _ h9 => h9) rfl (by decide +kernel) rfl rfl (Nat.le_of_ble_eq_true rfl) dX10_text_15 (fun H locs hP hD hS => ?_)
  refine lv_aload_n hx hb dX10_text_18 rfl (lv_at hl 0 rfl) ?_
  refine lv_aload_n hx hb dX10_text_19 rfl (lv_at hl 0 rfl) ?_
  refine va_get (D := (dC, dI)) (ci := 10) (v := .ref rd) (C := RX10) (T := TX10) (N := 14) hx hb hg inG10 hown hK.1 hP 0 rfl rfl 0 (Nat.le_of_ble_eq_true rfl) (hg _ wt_302) (fun _ h9 => h9) rfl dX10_text_20 ?_
  refine va_getN (D := (dC, dI)) (ci := 5) (v := .int u3) (C := RX5) (T := TX5) (N := 12) hx hb hg inG5 hown hK.1 hP 11 rfl rfl 2 (Nat.le_of_ble_eq_true rfl) (hK.nest wn_110) (fun _ h9 => h9) rfl dX10_text_23 ?_
  refine va_put (D := (dC, dI)) (ci := 10) (v := .int u3) (ty := .int) (C := RX10) (T := TX10) (N := 14) hx hb hg inG10 tyX10 tyX10_ok nmX10 hown hK.1 hP hD hS 0 rfl rfl 12 (Nat.le_of_ble_eq_true rfl) (hg _ wt_314) (fun _ h9 => h9) rfl (by decide +kernel) rfl rfl (Nat.le_of_ble_eq_true rfl) dX10_text_26 (fun H locs hP hD hS => ?_)
  refine lv_aload_n hx hb dX10_text_29 rfl (lv_at hl 0 rfl) ?_
  refine va_get (D := (dC, dI)) (ci := 10) (v := .int u3) (C := RX10) (T := TX10) (N := 14) hx hb hg inG10 hown hK.1 hP 0 rfl rfl 12 (Nat.le_of_ble_eq_true rfl) (hg _ wt_314) (fun _ h9 => h9) rfl dX10_text_30 ?_
  refine lv_if_eq (tgt := 47) hx hb dX10_text_33 rfl (fun c22 => ?_) (fun c22 => ?_)
  · skip
    refine lv_aload_n hx hb dX10_text_47 rfl (lv_at hl 0 rfl) ?_
    refine va_get (D := (dC, dI)) (ci := 10) (v := .ref wy) (C := RX10) (T := TX10) (N := 14) hx hb hg inG10 hown hK.1 hP 0 rfl rfl 1 (Nat.le_of_ble_eq_true rfl) (hg _ wt_303) (fun _ h9 => h9) rfl dX10_text_48 ?_
    refine lv_aload_n hx hb dX10_text_51 rfl (lv_at hl 0 rfl) ?_
    refine va_get (D := (dC, dI)) (ci := 10) (v := .ref rd) (C := RX10) (T := TX10) (N := 14) hx hb hg inG10 hown hK.1 hP 0 rfl rfl 0 (Nat.le_of_ble_eq_true rfl) (hg _ wt_302) (fun _ h9 => h9) rfl dX10_text_52 ?_
    refine va_getN (D := (dC, dI)) (ci := 5) (v := .ref td) (C := RX5) (T := TX5) (N := 12) hx hb hg inG5 hown hK.1 hP 11 rfl rfl 1 (Nat.le_of_ble_eq_true rfl) (hK.nest wn_108) (fun _ h9 => h9) rfl dX10_text_55 ?_
    obtain ⟨hPc, hDc, hFc⟩ := va_sub3 (ws' := [(wy, .inr (9, [.int (nI N), .int (nI B), .int (nI D), .ref a1, .ref a2, .ref a3, .ref a4, .ref a5, .ref a6])), (a1, .inl (G 0, 10, .inl f1)), (a2, .inl (G 0, 10, .inl f2)), (a3, .inl (G 0, 10, .inl f3)), (a4, .inl (G 0, 6, .inl f4)), (a5, .inl (G 0, 6, .inl f5)), (a6, .inl (G 0, 6, .inl f6)), (td, .inr (9, [.int (nI u13), .int (nI u14), .int (nI u15), .ref tb1, .ref tb2, .ref tb3, .ref tb4, .ref tb5, .ref tb6])), (tb1, .inl (G 0, 10, .inl u16)), (tb2, .inl (G 0, 10, .inl u17)), (tb3, .inl (G 0, 10, .inl u18)), (tb4, .inl (G 0, 6, .inl u19)), (tb5, .inl (G 0, 6, .inl u20)), (tb6, .inl (G 0, 6, .inl u21))]) hP hD hS hA [1, 2, 3, 4, 5, 6, 7, 14, 15, 16, 17, 18, 19, 20] (by decide +kernel) rfl
    refine va_callv (va_runVN (As := [.ref td]) (rest := []) ⟨hx, hb, hml, hown, hg⟩ (c_X9_copyOfE l dC dI G _ wy td a1 a2 a3 a4 a5 a6 tb1 tb2 tb3 tb4 tb5 tb6 (nI N) (nI B) (nI D) (nI u13) (nI u14) (nI u15) f1 f2 f3 f4 f5 f6 u16 u17 u18 u19 u20 u21) (kwVN hg hK mfX9_copyOf wn_507 ⟨Nat.le_of_ble_eq_true rfl, Nat.le_of_ble_eq_true rfl⟩) (preVW hK hPc hDc (ci := 9) (r := (RX9, TX9, 9)) rfl rfl) rfl rfl hl.1 rfl (lv_room (Nat.le_of_ble_eq_true rfl)) dX10_text_58 ⟨Nat.le_of_ble_eq_true rfl, Nat.le_of_ble_eq_true rfl⟩) hS (fun q _ h => hFc q h) hFc (fun ur23 t H1 locs ht hvm w24 hB hz1 hk1 hS => ?_)
    obtain ⟨u25, u26, u27, u28, u29, u30⟩ := ur23
    obtain ⟨hP1, hD1⟩ := hB
    rw [ht] at hP1
    obtain ⟨hP, hD⟩ := va_join (wr := [(h0, .inr (10, [.ref rd, .ref wy, .ref tr, .ref im, .ref kp, .ref od, .ref ch, .ref cr, .ref le, .ref mk, .ref tl, .ref sh, .int u3, .int rf])), (le, .inr (2, [.int (nI S), .ref l1, .ref l2, .ref l3, .ref l4])), (mk, .inr (3, [.int (nI Sm), .ref m1, .ref m2])), (kp, .inl (G 2, 2, .inl fk)), (rd, .inr (5, [.ref tp, .ref td, .int u3, .int u4, .int u5, .int u6, .int (nI u7), .int (nI u8), .int u9, .int u10, .int u11, .int u12])), (tp, .inr (7, [.int 0, .ref ta])), (ta, .inl (G 0, 320, .inl f))]) (w1 := [(wy, .inr (9, [.int (nI u13), .int (nI u14), .int (nI u15), .ref a1, .ref a2, .ref a3, .ref a4, .ref a5, .ref a6])), (a1, .inl (G 0, 10, .inl u25)), (a2, .inl (G 0, 10, .inl u26)), (a3, .inl (G 0, 10, .inl u27)), (a4, .inl (G 0, 6, .inl u28)), (a5, .inl (G 0, 6, .inl u29)), (a6, .inl (G 0, 6, .inl u30)), (td, .inr (9, [.int (nI u13), .int (nI u14), .int (nI u15), .ref tb1, .ref tb2, .ref tb3, .ref tb4, .ref tb5, .ref tb6])), (tb1, .inl (G 0, 10, .inl u16)), (tb2, .inl (G 0, 10, .inl u17)), (tb3, .inl (G 0, 10, .inl u18)), (tb4, .inl (G 0, 6, .inl u19)), (tb5, .inl (G 0, 6, .inl u20)), (tb6, .inl (G 0, 6, .inl u21))]) hP hD [1, 2, 3, 4, 5, 6, 7, 14, 15, 16, 17, 18, 19, 20] [0, 8, 9, 10, 11, 12, 13] rfl rfl (by decide +kernel) (by decide +kernel) hk1 hFc hP1 hD1
    have w24 : u25 = va_cpy u16 f1 0 0 10 ∧ u26 = va_cpy u17 f2 0 0 10 ∧ u27 = va_cpy u18 f3 0 0 10 ∧ u28 = va_cpy u19 f4 0 0 6 ∧ u29 = va_cpy u20 f5 0 0 6 ∧ u30 = va_cpy u21 f6 0 0 6 := w24
    generalize H1 = H at hP hS ⊢
    refine lv_aload_n hx hb dX10_text_61 rfl (lv_at hl 0 rfl) ?_
    refine va_get (D := (dC, dI)) (ci := 10) (v := .ref le) (C := RX10) (T := TX10) (N := 14) hx hb hg inG10 hown hK.1 hP 0 rfl rfl 8 (Nat.le_of_ble_eq_true rfl) (hg _ wt_310) (fun _ h9 => h9) rfl dX10_text_62 ?_
    refine lv_iconst (v := 0) hx hb dX10_text_65 rfl ?_
    refine va_putN (D := (dC, dI)) (ci := 2) (v := .int 0) (ty := .int) (C := RX2) (T := TX2) (N := 5) hx hb hg inG2 tyX2 tyX2_ok nmX2 hown hK.1 hP hD hS 1 rfl rfl 0 (by decide) (hK.nest wn_218) (fun _ h9 => h9) rfl (by decide +kernel) rfl rfl (Nat.le_of_ble_eq_true rfl) dX10_text_66 (fun H locs hP hD hS => ?_)
    refine lv_aload_n hx hb dX10_text_69 rfl (lv_at hl 0 rfl) ?_
    refine va_get (D := (dC, dI)) (ci := 10) (v := .ref mk) (C := RX10) (T := TX10) (N := 14) hx hb hg inG10 hown hK.1 hP 0 rfl rfl 9 (Nat.le_of_ble_eq_true rfl) (hg _ wt_311) (fun _ h9 => h9) rfl dX10_text_70 ?_
    refine lv_iconst (v := 0) hx hb dX10_text_73 rfl ?_
    refine va_putN (D := (dC, dI)) (ci := 3) (v := .int 0) (ty := .int) (C := RX3) (T := TX3) (N := 3) hx hb hg inG3 tyX3 tyX3_ok nmX3 hown hK.1 hP hD hS 2 rfl rfl 0 (by decide) (hK.nest wn_241) (fun _ h9 => h9) rfl (by decide +kernel) rfl rfl (Nat.le_of_ble_eq_true rfl) dX10_text_74 (fun H locs hP hD hS => ?_)
    refine lv_iconst (v := 0) hx hb dX10_text_77 rfl ?_
    refine lv_istore_n (lv' := [(1, .int 0), (0, .ref h0)]) hx hb dX10_text_78 rfl hl (by decide) rfl (fun ls hl => ?_)
    refine lv_iload_n hx hb dX10_text_79 rfl (lv_at hl 0 rfl) ?_
    refine lv_iconst (v := 2) hx hb dX10_text_80 rfl ?_
    refine lv_icmp_ge (tgt := 97) hx hb dX10_text_81 rfl (fun c31 => ?_) (fun c31 => ?_)
    · skip
      exact absurd c31 (by decide)
    · skip
      refine lv_aload_n hx hb dX10_text_84 rfl (lv_at hl 1 rfl) ?_
      refine va_get (D := (dC, dI)) (ci := 10) (v := .ref kp) (C := RX10) (T := TX10) (N := 14) hx hb hg inG10 hown hK.1 hP 0 rfl rfl 4 (Nat.le_of_ble_eq_true rfl) (hg _ wt_306) (fun _ h9 => h9) rfl dX10_text_85 ?_
      refine lv_iload_n hx hb dX10_text_88 rfl (lv_at hl 0 rfl) ?_
      refine lv_iconst (v := 0) hx hb dX10_text_89 rfl ?_
      refine va_zast hx hb hK.1 hP hD hS 3 2 rfl rfl (vp_in_iff.mpr ⟨by decide, by decide⟩) dX10_text_90 (fun H locs hP hD hS => ?_)
      refine lv_iinc (v := 1) (lv' := [(1, .int 1), (0, .ref h0)]) hx hb dX10_text_91 hl (k := 0) rfl (by decide) (by decide) rfl (fun ls hl => ?_)
      refine lv_goto (tgt := 79) hx hb dX10_text_94 rfl ?_
      refine lv_iload_n hx hb dX10_text_79 rfl (lv_at hl 0 rfl) ?_
      refine lv_iconst (v := 2) hx hb dX10_text_80 rfl ?_
      refine lv_icmp_ge (tgt := 97) hx hb dX10_text_81 rfl (fun c32 => ?_) (fun c32 => ?_)
      · skip
        exact absurd c32 (by decide)
      · skip
        refine lv_aload_n hx hb dX10_text_84 rfl (lv_at hl 1 rfl) ?_
        refine va_get (D := (dC, dI)) (ci := 10) (v := .ref kp) (C := RX10) (T := TX10) (N := 14) hx hb hg inG10 hown hK.1 hP 0 rfl rfl 4 (Nat.le_of_ble_eq_true rfl) (hg _ wt_306) (fun _ h9 => h9) rfl dX10_text_85 ?_
        refine lv_iload_n hx hb dX10_text_88 rfl (lv_at hl 0 rfl) ?_
        refine lv_iconst (v := 0) hx hb dX10_text_89 rfl ?_
        refine va_zast hx hb hK.1 hP hD hS 3 2 rfl rfl (vp_in_iff.mpr ⟨by decide, by decide⟩) dX10_text_90 (fun H locs hP hD hS => ?_)
        refine lv_iinc (v := 2) (lv' := [(1, .int 2), (0, .ref h0)]) hx hb dX10_text_91 hl (k := 0) rfl (by decide) (by decide) rfl (fun ls hl => ?_)
        refine lv_goto (tgt := 79) hx hb dX10_text_94 rfl ?_
        refine lv_iload_n hx hb dX10_text_79 rfl (lv_at hl 0 rfl) ?_
        refine lv_iconst (v := 2) hx hb dX10_text_80 rfl ?_
        refine lv_icmp_ge (tgt := 97) hx hb dX10_text_81 rfl (fun c33 => ?_) (fun c33 => ?_)
        · skip
          refine lv_aload_n hx hb dX10_text_97 rfl (lv_at hl 1 rfl) ?_
          refine va_get (D := (dC, dI)) (ci := 10) (v := .ref rd) (C := RX10) (T := TX10) (N := 14) hx hb hg inG10 hown hK.1 hP 0 rfl rfl 0 (Nat.le_of_ble_eq_true rfl) (hg _ wt_302) (fun _ h9 => h9) rfl dX10_text_98 ?_
          refine va_getN (D := (dC, dI)) (ci := 5) (v := .int u5) (C := RX5) (T := TX5) (N := 12) hx hb hg inG5 hown hK.1 hP 4 rfl rfl 4 (Nat.le_of_ble_eq_true rfl) (hK.nest wn_114) (fun _ h9 => h9) rfl dX10_text_101 ?_
          have hpost : (u5 : Int32) = (if (cFN T (cRA f T x3 g1 g2 g3 g4 g5 g6).1).1 = 0 then (cRA f T x3 g1 g2 g3 g4 g5 g6).2 else (-10) - (cFN T (cRA f T x3 g1 g2 g3 g4 g5 g6).1).2.1) := by
            (try rw [ew2a])
            (try rw [ew2b])
            (try rw [ew2c])
            first | (rw [if_pos (by first | with_reducible assumption | assumption)]; done) | (rw [if_neg (by first | with_reducible assumption | assumption)]; done)
          obtain ⟨hP9, hD9⟩ := va_sub2 (ws' := [(h0, .inr (10, [.ref rd, .ref wy, .ref tr, .ref im, .ref kp, .ref od, .ref ch, .ref cr, .ref le, .ref mk, .ref tl, .ref sh, .int u3, .int rf])), (rd, .inr (5, [.ref tp, .ref td, .int u3, .int u4, .int u5, .int u6, .int (nI u7), .int (nI u8), .int u9, .int u10, .int u11, .int u12])), (tp, .inr (7, [.int 0, .ref ta])), (ta, .inl (G 0, 320, .inl f)), (td, .inr (9, [.int (nI u13), .int (nI u14), .int (nI u15), .ref tb1, .ref tb2, .ref tb3, .ref tb4, .ref tb5, .ref tb6])), (tb1, .inl (G 0, 10, .inl u16)), (tb2, .inl (G 0, 10, .inl u17)), (tb3, .inl (G 0, 10, .inl u18)), (tb4, .inl (G 0, 6, .inl u19)), (tb5, .inl (G 0, 6, .inl u20)), (tb6, .inl (G 0, 6, .inl u21)), (wy, .inr (9, [.int (nI u13), .int (nI u14), .int (nI u15), .ref a1, .ref a2, .ref a3, .ref a4, .ref a5, .ref a6])), (a1, .inl (G 0, 10, .inl u25)), (a2, .inl (G 0, 10, .inl u26)), (a3, .inl (G 0, 10, .inl u27)), (a4, .inl (G 0, 6, .inl u28)), (a5, .inl (G 0, 6, .inl u29)), (a6, .inl (G 0, 6, .inl u30)), (le, .inr (2, [.int 0, .ref l1, .ref l2, .ref l3, .ref l4])), (mk, .inr (3, [.int 0, .ref m1, .ref m2])), (kp, .inl (G 2, 2, .inl (upd (upd fk 0 (vp_nar .boolean 0)) 1 (vp_nar .boolean 0))))]) hP hD [0, 4, 5, 6, 14, 15, 16, 17, 18, 19, 20, 7, 8, 9, 10, 11, 12, 13, 1, 2, 3] (by decide +kernel) rfl
          refine W.widen (k := 0) (n := 0) (Nat.le_of_ble_eq_true rfl) (Nat.le_of_ble_eq_true rfl) ?_
          exact W.iret (v := u5) hx hb hr (fun t ht hW => ⟨⟨u5, (u3, u4, u5, u6, (nI u7), (nI u8), u9, u10, u11, u12, u3, u13, u14, u15, u16, u17, u18, u19, u20, u21, u13, u14, u15, u25, u26, u27, u28, u29, u30, 0, 0, (upd (upd fk 0 (vp_nar .boolean 0)) 1 (vp_nar .boolean 0))), rfl, ⟨hpost, (by clear hpost; have t_c22 := eqI c22; have t_c31 := nleI c31; have t_c32 := nleI c32; have t_c33 := leI c33; have tqz_ := qz5_; have tnb_ := nib9 tn1546_ tn1548_ tn1549_ tn1550_ tn1543_ tn1544_ tn1545_ tn1547_ tn1551_; have tqz_ := qz41_; (try rw [ew2a]); (try rw [ew2b]); (try rw [ew2c]); refine ⟨⟨⟨by omega, by omega, by omega, by omega⟩, ⟨by omega, by omega, by omega, by omega⟩, by omega, by omega⟩, ?_, ?_, ?_, ?_, ?_, ?_, ?_, ?_, ?_, ?_, ?_, ?_, ?_⟩ <;> first | rfl | (rw [if_pos (by first | with_reducible assumption | assumption)]; first | done | rfl | exact w24.1 | exact w24.2.1 | exact w24.2.2.1 | exact w24.2.2.2.1 | exact w24.2.2.2.2.1 | exact w24.2.2.2.2.2) | (rw [if_neg (by first | with_reducible assumption | assumption)]; done))⟩, ⟨by rw [ht]; exact hP9, hD9⟩⟩, hS.F ht⟩) hS.2.2 dX10_text_104
        · skip
          exact absurd c33 (by decide)
  · skip
    refine lv_bipush (v := (-10)) hx hb dX10_text_36 rfl ?_
    refine lv_aload_n hx hb dX10_text_38 rfl (lv_at hl 0 rfl) ?_
    refine va_get (D := (dC, dI)) (ci := 10) (v := .ref rd) (C := RX10) (T := TX10) (N := 14) hx hb hg inG10 hown hK.1 hP 0 rfl rfl 0 (Nat.le_of_ble_eq_true rfl) (hg _ wt_302) (fun _ h9 => h9) rfl dX10_text_39 ?_
    refine va_getN (D := (dC, dI)) (ci := 5) (v := .int u4) (C := RX5) (T := TX5) (N := 12) hx hb hg inG5 hown hK.1 hP 11 rfl rfl 3 (Nat.le_of_ble_eq_true rfl) (hK.nest wn_112) (fun _ h9 => h9) rfl dX10_text_42 ?_
    refine lv_isub hx hb dX10_text_45 ?_
    have hpost : ((-10) - u4 : Int32) = (if (cFN T (cRA f T x3 g1 g2 g3 g4 g5 g6).1).1 = 0 then (cRA f T x3 g1 g2 g3 g4 g5 g6).2 else (-10) - (cFN T (cRA f T x3 g1 g2 g3 g4 g5 g6).1).2.1) := by
      (try rw [ew2a])
      (try rw [ew2b])
      (try rw [ew2c])
      first | (rw [if_pos (by first | with_reducible assumption | assumption)]; done) | (rw [if_neg (by first | with_reducible assumption | assumption)]; done)
    obtain ⟨hP9, hD9⟩ := va_sub2 (ws' := [(h0, .inr (10, [.ref rd, .ref wy, .ref tr, .ref im, .ref kp, .ref od, .ref ch, .ref cr, .ref le, .ref mk, .ref tl, .ref sh, .int u3, .int rf])), (rd, .inr (5, [.ref tp, .ref td, .int u3, .int u4, .int u5, .int u6, .int (nI u7), .int (nI u8), .int u9, .int u10, .int u11, .int u12])), (tp, .inr (7, [.int 0, .ref ta])), (ta, .inl (G 0, 320, .inl f)), (td, .inr (9, [.int (nI u13), .int (nI u14), .int (nI u15), .ref tb1, .ref tb2, .ref tb3, .ref tb4, .ref tb5, .ref tb6])), (tb1, .inl (G 0, 10, .inl u16)), (tb2, .inl (G 0, 10, .inl u17)), (tb3, .inl (G 0, 10, .inl u18)), (tb4, .inl (G 0, 6, .inl u19)), (tb5, .inl (G 0, 6, .inl u20)), (tb6, .inl (G 0, 6, .inl u21)), (wy, .inr (9, [.int (nI N), .int (nI B), .int (nI D), .ref a1, .ref a2, .ref a3, .ref a4, .ref a5, .ref a6])), (a1, .inl (G 0, 10, .inl f1)), (a2, .inl (G 0, 10, .inl f2)), (a3, .inl (G 0, 10, .inl f3)), (a4, .inl (G 0, 6, .inl f4)), (a5, .inl (G 0, 6, .inl f5)), (a6, .inl (G 0, 6, .inl f6)), (le, .inr (2, [.int (nI S), .ref l1, .ref l2, .ref l3, .ref l4])), (mk, .inr (3, [.int (nI Sm), .ref m1, .ref m2])), (kp, .inl (G 2, 2, .inl fk))]) hP hD [0, 11, 12, 13, 14, 15, 16, 17, 18, 19, 20, 1, 2, 3, 4, 5, 6, 7, 8, 9, 10] (by decide +kernel) rfl
    refine W.widen (k := 0) (n := 0) (Nat.le_of_ble_eq_true rfl) (Nat.le_of_ble_eq_true rfl) ?_
    exact W.iret (v := (-10) - u4) hx hb hr (fun t ht hW => ⟨⟨(-10) - u4, (u3, u4, u5, u6, (nI u7), (nI u8), u9, u10, u11, u12, u3, u13, u14, u15, u16, u17, u18, u19, u20, u21, N, B, D, f1, f2, f3, f4, f5, f6, S, Sm, fk), rfl, ⟨hpost, (by clear hpost; have t_c22 := neI c22; have : (0 : Int32).toInt = 0 := qI_0; have tnb_ := nib9 tn1546_ tn1548_ tn1549_ tn1550_ tn1543_ tn1544_ tn1545_ tn1547_ tn1551_; have tqz_ := qz41_; (try rw [ew2a]); (try rw [ew2b]); (try rw [ew2c]); refine ⟨⟨⟨by omega, by omega, by omega, by omega⟩, ⟨by omega, by omega, by omega, by omega⟩, by omega, by omega⟩, ?_, ?_, ?_, ?_, ?_, ?_, ?_, ?_, ?_, ?_, ?_, ?_, ?_⟩ <;> first | rfl | (rw [if_pos (by first | with_reducible assumption | assumption)]; first | done | rfl) | (rw [if_neg (by first | with_reducible assumption | assumption)]; done))⟩, ⟨by rw [ht]; exact hP9, hD9⟩⟩, hS.F ht⟩) hS.2.2 dX10_text_46

set_option maxHeartbeats 1000000 in
set_option maxRecDepth 100000 in
theorem c_X7_addBytesE (l : Launch) (dC : Nat → ClassId) (dI : Nat → Nat → Nat) (G : Nat → ClassId) (sz : Nat) (h0 ta T : Nat) (v : Int64) (f : Nat → Int32) (hT : T ≤ 320) : Met l yX7_addBytes (Cond.code yX7_addBytes cX7_addBytes 4 (some .boolean) :: GT) ({ frames := 0, cells := 0, slots := 0, locals := 0 } : Room) (PcW [.ref h0, .long v] dC dI G [(h0, .inr (7, [.int (nI T), .ref ta])), (ta, .inl (G 0, 320, .inl f))] sz) (va_Qi (fun (r : Int32) (u : Nat × (Nat → Int32)) => match u with | (u1, u2) => (r = if T + 8 ≤ 320 then 1 else 0) ∧ u1 = (if T + 8 ≤ 320 then T + 8 else T) ∧ u2 = (if T + 8 ≤ 320 then fdC f T v else f)) (fun (u : Nat × (Nat → Int32)) (t : State) => match u with | (u1, u2) => va_P (dC, dI) vwCl [(h0, .inr (7, [.int (nI u1), .ref ta])), (ta, .inl (G 0, 320, .inl u2))] t.heap ∧ va_D (va_A [(h0, .inr (7, [.int (nI T), .ref ta])), (ta, .inl (G 0, 320, .inl f))] sz) [(h0, .inr (7, [.int (nI u1), .ref ta])), (ta, .inl (G 0, 320, .inl u2))]) (va_A [(h0, .inr (7, [.int (nI T), .ref ta])), (ta, .inl (G 0, 320, .inl f))] sz)) 0 0 (va_A [(h0, .inr (7, [.int (nI T), .ref ta])), (ta, .inl (G 0, 320, .inl f))] sz) := by
  have tn1552_ : nIT T := fun _ => nI_toInt (by omega)
  refine Met.ofW (cc := cX7_addBytes) (maxL := 4) (ret := (some .boolean)) (by decide) rfl ?_
  intro p e s m args below meth c s₁ Bd hml hv
  obtain ⟨rfl, hsz, hP, hK, hD0⟩ := hv
  have hx := Bd.exec
  have hb := Bd.bytes
  have hr := Bd.returns
  have hg : ∀ w ∈ GT, w.before ([.ref h0, .long v] : List Value).toArray s = true := fun w h => atoms_spec (ws := Cond.code yX7_addBytes cX7_addBytes 4 (some .boolean) :: GT) Bd.pre w (List.mem_cons_of_mem _ h)
  have hown : s.vm.findClass RX7 = some m.cls := findClass_of_methodNamed Bd.named
  have hlocks := Bd.notSynchronized
  subst hsz
  have hD := hD0.self (sz := s.heap.size)
  generalize hAe : va_A [(h0, .inr (7, [.int (nI T), .ref ta])), (ta, .inl (G 0, 320, .inl f))] s.heap.size = A at hD ⊢
  have hA : ∀ q : Nat, s.heap.size ≤ q → A q := fun q h => by rw [← hAe]; exact Or.inr h
  have hS : va_S A s.heap s.heap [] := va_S.rf
  have hl := lv_entry ([.ref h0, .long v]) (n := 4) (Nat.le_of_ble_eq_true rfl)
  rw [lg_entry_eq]
  generalize (lg_sl ([.ref h0, .long v]) ++ List.replicate (4 - (lg_sl ([.ref h0, .long v])).length) Slot.unset).toArray = ls at hl ⊢
  have hl : lv_has ls 4 [(0, .ref h0), (1, .long v)] := hl
  refine lv_aload_n hx hb dX7_addBytes_0 rfl (lv_at hl 0 rfl) ?_
  refine va_get (D := (dC, dI)) (ci := 7) (v := .int (nI T)) (C := RX7) (T := TX7) (N := 2) hx hb hg inG7 hown hK.1 hP 0 rfl rfl 0 (Nat.le_of_ble_eq_true rfl) (hg _ wt_40) (fun _ h9 => h9) rfl dX7_addBytes_1 ?_
  refine lv_if_lt (tgt := 20) hx hb dX7_addBytes_4 rfl (fun c1 => ?_) (fun c1 => ?_)
  · skip
    have t_c1 := ltI c1
    have : (0 : Int32).toInt = 0 := qI_0
    have t_n0 : (nI T).toInt = (T : Int) := tn1552_ ()
    exfalso; omega
  · skip
    have n2 : 0 ≤ T := by have t := nltI c1; rw [show (nI (T)).toInt = ((T : Nat) : Int) from tn1552_ ()] at t; have : (0 : Int32).toInt = 0 := qI_0; omega
    refine lv_aload_n hx hb dX7_addBytes_7 rfl (lv_at hl 0 rfl) ?_
    refine va_get (D := (dC, dI)) (ci := 7) (v := .int (nI T)) (C := RX7) (T := TX7) (N := 2) hx hb hg inG7 hown hK.1 hP 0 rfl rfl 0 (Nat.le_of_ble_eq_true rfl) (hg _ wt_40) (fun _ h9 => h9) rfl dX7_addBytes_8 ?_
    refine lv_bipush (v := 8) hx hb dX7_addBytes_11 rfl ?_
    refine lv_iadd hx hb dX7_addBytes_13 ?_
    refine lv_cg (y := nI (T + 8)) (by rw [show (8 : Int32) = nI 8 from rfl]; exact nI_add _ _) ?_
    refine lv_sipush (v := 320) hx hb dX7_addBytes_14 rfl ?_
    refine lv_icmp_le (tgt := 22) hx hb dX7_addBytes_17 rfl (fun c3 => ?_) (fun c3 => ?_)
    · skip
      have tn1553_ : nIT (T + 8) := fun _ => nI_toInt (by first | omega | (have t := leI c3; omega))
      have n4 : (T + 8) ≤ 320 := by have t := leI c3; rw [show (nI (T + 8)).toInt = ((T + 8 : Nat) : Int) from tn1553_ ()] at t; have : (320 : Int32).toInt = 320 := qI_320; omega
      refine lv_bipush (v := 56) hx hb dX7_addBytes_22 rfl ?_
      refine lv_istore_n (lv' := [(3, .int 56), (0, .ref h0), (1, .long v)]) hx hb dX7_addBytes_24 rfl hl (by decide) rfl (fun ls hl => ?_)
      refine lv_iload_n hx hb dX7_addBytes_25 rfl (lv_at hl 0 rfl) ?_
      refine lv_if_lt (tgt := 62) hx hb dX7_addBytes_26 rfl (fun c5 => ?_) (fun c5 => ?_)
      · skip
        exact absurd c5 (by decide)
      · skip
        refine lv_aload_n hx hb dX7_addBytes_29 rfl (lv_at hl 1 rfl) ?_
        refine va_get (D := (dC, dI)) (ci := 7) (v := .ref ta) (C := RX7) (T := TX7) (N := 2) hx hb hg inG7 hown hK.1 hP 0 rfl rfl 1 (Nat.le_of_ble_eq_true rfl) (hg _ wt_43) (fun _ h9 => h9) rfl dX7_addBytes_30 ?_
        refine lv_aload_n hx hb dX7_addBytes_33 rfl (lv_at hl 1 rfl) ?_
        refine va_get (D := (dC, dI)) (ci := 7) (v := .int (nI T)) (C := RX7) (T := TX7) (N := 2) hx hb hg inG7 hown hK.1 hP 0 rfl rfl 0 (Nat.le_of_ble_eq_true rfl) (hg _ wt_40) (fun _ h9 => h9) rfl dX7_addBytes_34 ?_
        refine lv_lload_n hx hb dX7_addBytes_37 rfl (lv_at hl 2 rfl) ?_
        refine lv_iload_n hx hb dX7_addBytes_38 rfl (lv_at hl 0 rfl) ?_
        refine lv_lushr (v := _) hx hb dX7_addBytes_39 rfl ?_
        refine lv_topl (fun v6 ev6 => ?_)
        refine lv_ldc2 (v := 255) hx hb hown (hg _ wt_353) dX7_addBytes_40 ?_
        refine lv_land hx hb dX7_addBytes_43 ?_
        refine lv_l2i (v := _) hx hb dX7_addBytes_44 rfl ?_
        refine lv_topi (fun v7 ev7 => ?_)
        refine va_iast hx hb hK.1 hP hD hS 1 0 rfl rfl (vp_in_nI (by first | omega | (have t_n2 := n2; have t_n4 := n4; have t_c5 := nltI c5; have tqz_ := qz31_; have t_n0 : (nI T).toInt = (T : Int) := tn1552_ (); omega)) (by decide)) dX7_addBytes_45 (fun H locs hP hD hS => ?_)
        rw [nI_clamp (by omega)] at hP hD
        refine lv_aload_n hx hb dX7_addBytes_46 rfl (lv_at hl 1 rfl) ?_
        refine lv_dup hx hb dX7_addBytes_47 rfl ?_
        refine va_get (D := (dC, dI)) (ci := 7) (v := .int (nI T)) (C := RX7) (T := TX7) (N := 2) hx hb hg inG7 hown hK.1 hP 0 rfl rfl 0 (Nat.le_of_ble_eq_true rfl) (hg _ wt_40) (fun _ h9 => h9) rfl dX7_addBytes_48 ?_
        refine lv_iconst (v := 1) hx hb dX7_addBytes_51 rfl ?_
        refine lv_iadd hx hb dX7_addBytes_52 ?_
        refine lv_cg (y := nI (T + 1)) (by rw [show (1 : Int32) = nI 1 from rfl]; exact nI_add _ _) ?_
        refine va_put (D := (dC, dI)) (ci := 7) (v := .int (nI (T + 1))) (ty := .int) (C := RX7) (T := TX7) (N := 2) hx hb hg inG7 tyX7 tyX7_ok nmX7 hown hK.1 hP hD hS 0 rfl rfl 0 (Nat.le_of_ble_eq_true rfl) (hg _ wt_40) (fun _ h9 => h9) rfl (by decide +kernel) rfl rfl (Nat.le_of_ble_eq_true rfl) dX7_addBytes_53 (fun H locs hP hD hS => ?_)
        refine lv_iinc (v := 48) (lv' := [(3, .int 48), (0, .ref h0), (1, .long v)]) hx hb dX7_addBytes_56 hl (k := 0) rfl (by decide) (by decide) rfl (fun ls hl => ?_)
        refine lv_goto (tgt := 25) hx hb dX7_addBytes_59 rfl ?_
        refine lv_iload_n hx hb dX7_addBytes_25 rfl (lv_at hl 0 rfl) ?_
        refine lv_if_lt (tgt := 62) hx hb dX7_addBytes_26 rfl (fun c8 => ?_) (fun c8 => ?_)
        · skip
          exact absurd c8 (by decide)
        · skip
          refine lv_aload_n hx hb dX7_addBytes_29 rfl (lv_at hl 1 rfl) ?_
          refine va_get (D := (dC, dI)) (ci := 7) (v := .ref ta) (C := RX7) (T := TX7) (N := 2) hx hb hg inG7 hown hK.1 hP 0 rfl rfl 1 (Nat.le_of_ble_eq_true rfl) (hg _ wt_43) (fun _ h9 => h9) rfl dX7_addBytes_30 ?_
          refine lv_aload_n hx hb dX7_addBytes_33 rfl (lv_at hl 1 rfl) ?_
          refine va_get (D := (dC, dI)) (ci := 7) (v := .int (nI (T + 1))) (C := RX7) (T := TX7) (N := 2) hx hb hg inG7 hown hK.1 hP 0 rfl rfl 0 (Nat.le_of_ble_eq_true rfl) (hg _ wt_40) (fun _ h9 => h9) rfl dX7_addBytes_34 ?_
          refine lv_lload_n hx hb dX7_addBytes_37 rfl (lv_at hl 2 rfl) ?_
          refine lv_iload_n hx hb dX7_addBytes_38 rfl (lv_at hl 0 rfl) ?_
          refine lv_lushr (v := _) hx hb dX7_addBytes_39 rfl ?_
          refine lv_topl (fun v9 ev9 => ?_)
          refine lv_ldc2 (v := 255) hx hb hown (hg _ wt_353) dX7_addBytes_40 ?_
          refine lv_land hx hb dX7_addBytes_43 ?_
          refine lv_l2i (v := _) hx hb dX7_addBytes_44 rfl ?_
          refine lv_topi (fun v10 ev10 => ?_)
          refine va_iast hx hb hK.1 hP hD hS 1 0 rfl rfl (vp_in_nI (by first | omega | (have t_n2 := n2; have t_n4 := n4; have t_c5 := nltI c5; have t_c8 := nltI c8; have tqz_ := qz32_; have t_n0 : (nI T).toInt = (T : Int) := tn1552_ (); omega)) (by decide)) dX7_addBytes_45 (fun H locs hP hD hS => ?_)
          rw [nI_clamp (by omega)] at hP hD
          refine lv_aload_n hx hb dX7_addBytes_46 rfl (lv_at hl 1 rfl) ?_
          refine lv_dup hx hb dX7_addBytes_47 rfl ?_
          refine va_get (D := (dC, dI)) (ci := 7) (v := .int (nI (T + 1))) (C := RX7) (T := TX7) (N := 2) hx hb hg inG7 hown hK.1 hP 0 rfl rfl 0 (Nat.le_of_ble_eq_true rfl) (hg _ wt_40) (fun _ h9 => h9) rfl dX7_addBytes_48 ?_
          refine lv_iconst (v := 1) hx hb dX7_addBytes_51 rfl ?_
          refine lv_iadd hx hb dX7_addBytes_52 ?_
          refine lv_cg (y := nI ((T + 1) + 1)) (by rw [show (1 : Int32) = nI 1 from rfl]; exact nI_add _ _) ?_
          refine va_put (D := (dC, dI)) (ci := 7) (v := .int (nI ((T + 1) + 1))) (ty := .int) (C := RX7) (T := TX7) (N := 2) hx hb hg inG7 tyX7 tyX7_ok nmX7 hown hK.1 hP hD hS 0 rfl rfl 0 (Nat.le_of_ble_eq_true rfl) (hg _ wt_40) (fun _ h9 => h9) rfl (by decide +kernel) rfl rfl (Nat.le_of_ble_eq_true rfl) dX7_addBytes_53 (fun H locs hP hD hS => ?_)
          refine lv_iinc (v := 40) (lv' := [(3, .int 40), (0, .ref h0), (1, .long v)]) hx hb dX7_addBytes_56 hl (k := 0) rfl (by decide) (by decide) rfl (fun ls hl => ?_)
          refine lv_goto (tgt := 25) hx hb dX7_addBytes_59 rfl ?_
          refine lv_iload_n hx hb dX7_addBytes_25 rfl (lv_at hl 0 rfl) ?_
          refine lv_if_lt (tgt := 62) hx hb dX7_addBytes_26 rfl (fun c11 => ?_) (fun c11 => ?_)
          · skip
            exact absurd c11 (by decide)
          · skip
            refine lv_aload_n hx hb dX7_addBytes_29 rfl (lv_at hl 1 rfl) ?_
            refine va_get (D := (dC, dI)) (ci := 7) (v := .ref ta) (C := RX7) (T := TX7) (N := 2) hx hb hg inG7 hown hK.1 hP 0 rfl rfl 1 (Nat.le_of_ble_eq_true rfl) (hg _ wt_43) (fun _ h9 => h9) rfl dX7_addBytes_30 ?_
            refine lv_aload_n hx hb dX7_addBytes_33 rfl (lv_at hl 1 rfl) ?_
            refine va_get (D := (dC, dI)) (ci := 7) (v := .int (nI ((T + 1) + 1))) (C := RX7) (T := TX7) (N := 2) hx hb hg inG7 hown hK.1 hP 0 rfl rfl 0 (Nat.le_of_ble_eq_true rfl) (hg _ wt_40) (fun _ h9 => h9) rfl dX7_addBytes_34 ?_
            refine lv_lload_n hx hb dX7_addBytes_37 rfl (lv_at hl 2 rfl) ?_
            refine lv_iload_n hx hb dX7_addBytes_38 rfl (lv_at hl 0 rfl) ?_
            refine lv_lushr (v := _) hx hb dX7_addBytes_39 rfl ?_
            refine lv_topl (fun v12 ev12 => ?_)
            refine lv_ldc2 (v := 255) hx hb hown (hg _ wt_353) dX7_addBytes_40 ?_
            refine lv_land hx hb dX7_addBytes_43 ?_
            refine lv_l2i (v := _) hx hb dX7_addBytes_44 rfl ?_
            refine lv_topi (fun v13 ev13 => ?_)
            refine va_iast hx hb hK.1 hP hD hS 1 0 rfl rfl (vp_in_nI (by first | omega | (have t_n2 := n2; have t_n4 := n4; have t_c5 := nltI c5; have t_c8 := nltI c8; have t_c11 := nltI c11; have tqz_ := qz33_; have t_n0 : (nI T).toInt = (T : Int) := tn1552_ (); omega)) (by decide)) dX7_addBytes_45 (fun H locs hP hD hS => ?_)
            rw [nI_clamp (by omega)] at hP hD
            refine lv_aload_n hx hb dX7_addBytes_46 rfl (lv_at hl 1 rfl) ?_
            refine lv_dup hx hb dX7_addBytes_47 rfl ?_
            refine va_get (D := (dC, dI)) (ci := 7) (v := .int (nI ((T + 1) + 1))) (C := RX7) (T := TX7) (N := 2) hx hb hg inG7 hown hK.1 hP 0 rfl rfl 0 (Nat.le_of_ble_eq_true rfl) (hg _ wt_40) (fun _ h9 => h9) rfl dX7_addBytes_48 ?_
            refine lv_iconst (v := 1) hx hb dX7_addBytes_51 rfl ?_
            refine lv_iadd hx hb dX7_addBytes_52 ?_
            refine lv_cg (y := nI (((T + 1) + 1) + 1)) (by rw [show (1 : Int32) = nI 1 from rfl]; exact nI_add _ _) ?_
            refine va_put (D := (dC, dI)) (ci := 7) (v := .int (nI (((T + 1) + 1) + 1))) (ty := .int) (C := RX7) (T := TX7) (N := 2) hx hb hg inG7 tyX7 tyX7_ok nmX7 hown hK.1 hP hD hS 0 rfl rfl 0 (Nat.le_of_ble_eq_true rfl) (hg _ wt_40) (fun _ h9 => h9) rfl (by decide +kernel) rfl rfl (Nat.le_of_ble_eq_true rfl) dX7_addBytes_53 (fun H locs hP hD hS => ?_)
            refine lv_iinc (v := 32) (lv' := [(3, .int 32), (0, .ref h0), (1, .long v)]) hx hb dX7_addBytes_56 hl (k := 0) rfl (by decide) (by decide) rfl (fun ls hl => ?_)
            refine lv_goto (tgt := 25) hx hb dX7_addBytes_59 rfl ?_
            refine lv_iload_n hx hb dX7_addBytes_25 rfl (lv_at hl 0 rfl) ?_
            refine lv_if_lt (tgt := 62) hx hb dX7_addBytes_26 rfl (fun c14 => ?_) (fun c14 => ?_)
            · skip
              exact absurd c14 (by decide)
            · skip
              refine lv_aload_n hx hb dX7_addBytes_29 rfl (lv_at hl 1 rfl) ?_
              refine va_get (D := (dC, dI)) (ci := 7) (v := .ref ta) (C := RX7) (T := TX7) (N := 2) hx hb hg inG7 hown hK.1 hP 0 rfl rfl 1 (Nat.le_of_ble_eq_true rfl) (hg _ wt_43) (fun _ h9 => h9) rfl dX7_addBytes_30 ?_
              refine lv_aload_n hx hb dX7_addBytes_33 rfl (lv_at hl 1 rfl) ?_
              refine va_get (D := (dC, dI)) (ci := 7) (v := .int (nI (((T + 1) + 1) + 1))) (C := RX7) (T := TX7) (N := 2) hx hb hg inG7 hown hK.1 hP 0 rfl rfl 0 (Nat.le_of_ble_eq_true rfl) (hg _ wt_40) (fun _ h9 => h9) rfl dX7_addBytes_34 ?_
              refine lv_lload_n hx hb dX7_addBytes_37 rfl (lv_at hl 2 rfl) ?_
              refine lv_iload_n hx hb dX7_addBytes_38 rfl (lv_at hl 0 rfl) ?_
              refine lv_lushr (v := _) hx hb dX7_addBytes_39 rfl ?_
              refine lv_topl (fun v15 ev15 => ?_)
              refine lv_ldc2 (v := 255) hx hb hown (hg _ wt_353) dX7_addBytes_40 ?_
              refine lv_land hx hb dX7_addBytes_43 ?_
              refine lv_l2i (v := _) hx hb dX7_addBytes_44 rfl ?_
              refine lv_topi (fun v16 ev16 => ?_)
              refine va_iast hx hb hK.1 hP hD hS 1 0 rfl rfl (vp_in_nI (by first | omega | (have t_n2 := n2; have t_n4 := n4; have t_c5 := nltI c5; have t_c8 := nltI c8; have t_c11 := nltI c11; have t_c14 := nltI c14; have tqz_ := qz34_; have t_n0 : (nI T).toInt = (T : Int) := tn1552_ (); omega)) (by decide)) dX7_addBytes_45 (fun H locs hP hD hS => ?_)
              rw [nI_clamp (by omega)] at hP hD
              refine lv_aload_n hx hb dX7_addBytes_46 rfl (lv_at hl 1 rfl) ?_
              refine lv_dup hx hb dX7_addBytes_47 rfl ?_
              refine va_get (D := (dC, dI)) (ci := 7) (v := .int (nI (((T + 1) + 1) + 1))) (C := RX7) (T := TX7) (N := 2) hx hb hg inG7 hown hK.1 hP 0 rfl rfl 0 (Nat.le_of_ble_eq_true rfl) (hg _ wt_40) (fun _ h9 => h9) rfl dX7_addBytes_48 ?_
              refine lv_iconst (v := 1) hx hb dX7_addBytes_51 rfl ?_
              refine lv_iadd hx hb dX7_addBytes_52 ?_
              refine lv_cg (y := nI ((((T + 1) + 1) + 1) + 1)) (by rw [show (1 : Int32) = nI 1 from rfl]; exact nI_add _ _) ?_
              refine va_put (D := (dC, dI)) (ci := 7) (v := .int (nI ((((T + 1) + 1) + 1) + 1))) (ty := .int) (C := RX7) (T := TX7) (N := 2) hx hb hg inG7 tyX7 tyX7_ok nmX7 hown hK.1 hP hD hS 0 rfl rfl 0 (Nat.le_of_ble_eq_true rfl) (hg _ wt_40) (fun _ h9 => h9) rfl (by decide +kernel) rfl rfl (Nat.le_of_ble_eq_true rfl) dX7_addBytes_53 (fun H locs hP hD hS => ?_)
              refine lv_iinc (v := 24) (lv' := [(3, .int 24), (0, .ref h0), (1, .long v)]) hx hb dX7_addBytes_56 hl (k := 0) rfl (by decide) (by decide) rfl (fun ls hl => ?_)
              refine lv_goto (tgt := 25) hx hb dX7_addBytes_59 rfl ?_
              refine lv_iload_n hx hb dX7_addBytes_25 rfl (lv_at hl 0 rfl) ?_
              refine lv_if_lt (tgt := 62) hx hb dX7_addBytes_26 rfl (fun c17 => ?_) (fun c17 => ?_)
              · skip
                exact absurd c17 (by decide)
              · skip
                refine lv_aload_n hx hb dX7_addBytes_29 rfl (lv_at hl 1 rfl) ?_
                refine va_get (D := (dC, dI)) (ci := 7) (v := .ref ta) (C := RX7) (T := TX7) (N := 2) hx hb hg inG7 hown hK.1 hP 0 rfl rfl 1 (Nat.le_of_ble_eq_true rfl) (hg _ wt_43) (fun _ h9 => h9) rfl dX7_addBytes_30 ?_
                refine lv_aload_n hx hb dX7_addBytes_33 rfl (lv_at hl 1 rfl) ?_
                refine va_get (D := (dC, dI)) (ci := 7) (v := .int (nI ((((T + 1) + 1) + 1) + 1))) (C := RX7) (T := TX7) (N := 2) hx hb hg inG7 hown hK.1 hP 0 rfl rfl 0 (Nat.le_of_ble_eq_true rfl) (hg _ wt_40) (fun _ h9 => h9) rfl dX7_addBytes_34 ?_
                refine lv_lload_n hx hb dX7_addBytes_37 rfl (lv_at hl 2 rfl) ?_
                refine lv_iload_n hx hb dX7_addBytes_38 rfl (lv_at hl 0 rfl) ?_
                refine lv_lushr (v := _) hx hb dX7_addBytes_39 rfl ?_
                refine lv_topl (fun v18 ev18 => ?_)
                refine lv_ldc2 (v := 255) hx hb hown (hg _ wt_353) dX7_addBytes_40 ?_
                refine lv_land hx hb dX7_addBytes_43 ?_
                refine lv_l2i (v := _) hx hb dX7_addBytes_44 rfl ?_
                refine lv_topi (fun v19 ev19 => ?_)
                refine va_iast hx hb hK.1 hP hD hS 1 0 rfl rfl (vp_in_nI (by first | omega | (have t_n2 := n2; have t_n4 := n4; have t_c5 := nltI c5; have t_c8 := nltI c8; have t_c11 := nltI c11; have t_c14 := nltI c14; have t_c17 := nltI c17; have tqz_ := qz35_; have t_n0 : (nI T).toInt = (T : Int) := tn1552_ (); omega)) (by decide)) dX7_addBytes_45 (fun H locs hP hD hS => ?_)
                rw [nI_clamp (by omega)] at hP hD
                refine lv_aload_n hx hb dX7_addBytes_46 rfl (lv_at hl 1 rfl) ?_
                refine lv_dup hx hb dX7_addBytes_47 rfl ?_
                refine va_get (D := (dC, dI)) (ci := 7) (v := .int (nI ((((T + 1) + 1) + 1) + 1))) (C := RX7) (T := TX7) (N := 2) hx hb hg inG7 hown hK.1 hP 0 rfl rfl 0 (Nat.le_of_ble_eq_true rfl) (hg _ wt_40) (fun _ h9 => h9) rfl dX7_addBytes_48 ?_
                refine lv_iconst (v := 1) hx hb dX7_addBytes_51 rfl ?_
                refine lv_iadd hx hb dX7_addBytes_52 ?_
                refine lv_cg (y := nI (((((T + 1) + 1) + 1) + 1) + 1)) (by rw [show (1 : Int32) = nI 1 from rfl]; exact nI_add _ _) ?_
                refine va_put (D := (dC, dI)) (ci := 7) (v := .int (nI (((((T + 1) + 1) + 1) + 1) + 1))) (ty := .int) (C := RX7) (T := TX7) (N := 2) hx hb hg inG7 tyX7 tyX7_ok nmX7 hown hK.1 hP hD hS 0 rfl rfl 0 (Nat.le_of_ble_eq_true rfl) (hg _ wt_40) (fun _ h9 => h9) rfl (by decide +kernel) rfl rfl (Nat.le_of_ble_eq_true rfl) dX7_addBytes_53 (fun H locs hP hD hS => ?_)
                refine lv_iinc (v := 16) (lv' := [(3, .int 16), (0, .ref h0), (1, .long v)]) hx hb dX7_addBytes_56 hl (k := 0) rfl (by decide) (by decide) rfl (fun ls hl => ?_)
                refine lv_goto (tgt := 25) hx hb dX7_addBytes_59 rfl ?_
                refine lv_iload_n hx hb dX7_addBytes_25 rfl (lv_at hl 0 rfl) ?_
                refine lv_if_lt (tgt := 62) hx hb dX7_addBytes_26 rfl (fun c20 => ?_) (fun c20 => ?_)
                · skip
                  exact absurd c20 (by decide)
                · skip
                  refine lv_aload_n hx hb dX7_addBytes_29 rfl (lv_at hl 1 rfl) ?_
                  refine va_get (D := (dC, dI)) (ci := 7) (v := .ref ta) (C := RX7) (T := TX7) (N := 2) hx hb hg inG7 hown hK.1 hP 0 rfl rfl 1 (Nat.le_of_ble_eq_true rfl) (hg _ wt_43) (fun _ h9 => h9) rfl dX7_addBytes_30 ?_
                  refine lv_aload_n hx hb dX7_addBytes_33 rfl (lv_at hl 1 rfl) ?_
                  refine va_get (D := (dC, dI)) (ci := 7) (v := .int (nI (((((T + 1) + 1) + 1) + 1) + 1))) (C := RX7) (T := TX7) (N := 2) hx hb hg inG7 hown hK.1 hP 0 rfl rfl 0 (Nat.le_of_ble_eq_true rfl) (hg _ wt_40) (fun _ h9 => h9) rfl dX7_addBytes_34 ?_
                  refine lv_lload_n hx hb dX7_addBytes_37 rfl (lv_at hl 2 rfl) ?_
                  refine lv_iload_n hx hb dX7_addBytes_38 rfl (lv_at hl 0 rfl) ?_
                  refine lv_lushr (v := _) hx hb dX7_addBytes_39 rfl ?_
                  refine lv_topl (fun v21 ev21 => ?_)
                  refine lv_ldc2 (v := 255) hx hb hown (hg _ wt_353) dX7_addBytes_40 ?_
                  refine lv_land hx hb dX7_addBytes_43 ?_
                  refine lv_l2i (v := _) hx hb dX7_addBytes_44 rfl ?_
                  refine lv_topi (fun v22 ev22 => ?_)
                  refine va_iast hx hb hK.1 hP hD hS 1 0 rfl rfl (vp_in_nI (by first | omega | (have t_n2 := n2; have t_n4 := n4; have t_c5 := nltI c5; have t_c8 := nltI c8; have t_c11 := nltI c11; have t_c14 := nltI c14; have t_c17 := nltI c17; have t_c20 := nltI c20; have tqz_ := qz36_; have t_n0 : (nI T).toInt = (T : Int) := tn1552_ (); omega)) (by decide)) dX7_addBytes_45 (fun H locs hP hD hS => ?_)
                  rw [nI_clamp (by omega)] at hP hD
                  refine lv_aload_n hx hb dX7_addBytes_46 rfl (lv_at hl 1 rfl) ?_
                  refine lv_dup hx hb dX7_addBytes_47 rfl ?_
                  refine va_get (D := (dC, dI)) (ci := 7) (v := .int (nI (((((T + 1) + 1) + 1) + 1) + 1))) (C := RX7) (T := TX7) (N := 2) hx hb hg inG7 hown hK.1 hP 0 rfl rfl 0 (Nat.le_of_ble_eq_true rfl) (hg _ wt_40) (fun _ h9 => h9) rfl dX7_addBytes_48 ?_
                  refine lv_iconst (v := 1) hx hb dX7_addBytes_51 rfl ?_
                  refine lv_iadd hx hb dX7_addBytes_52 ?_
                  refine lv_cg (y := nI ((((((T + 1) + 1) + 1) + 1) + 1) + 1)) (by rw [show (1 : Int32) = nI 1 from rfl]; exact nI_add _ _) ?_
                  refine va_put (D := (dC, dI)) (ci := 7) (v := .int (nI ((((((T + 1) + 1) + 1) + 1) + 1) + 1))) (ty := .int) (C := RX7) (T := TX7) (N := 2) hx hb hg inG7 tyX7 tyX7_ok nmX7 hown hK.1 hP hD hS 0 rfl rfl 0 (Nat.le_of_ble_eq_true rfl) (hg _ wt_40) (fun _ h9 => h9) rfl (by decide +kernel) rfl rfl (Nat.le_of_ble_eq_true rfl) dX7_addBytes_53 (fun H locs hP hD hS => ?_)
                  refine lv_iinc (v := 8) (lv' := [(3, .int 8), (0, .ref h0), (1, .long v)]) hx hb dX7_addBytes_56 hl (k := 0) rfl (by decide) (by decide) rfl (fun ls hl => ?_)
                  refine lv_goto (tgt := 25) hx hb dX7_addBytes_59 rfl ?_
                  refine lv_iload_n hx hb dX7_addBytes_25 rfl (lv_at hl 0 rfl) ?_
                  refine lv_if_lt (tgt := 62) hx hb dX7_addBytes_26 rfl (fun c23 => ?_) (fun c23 => ?_)
                  · skip
                    exact absurd c23 (by decide)
                  · skip
                    refine lv_aload_n hx hb dX7_addBytes_29 rfl (lv_at hl 1 rfl) ?_
                    refine va_get (D := (dC, dI)) (ci := 7) (v := .ref ta) (C := RX7) (T := TX7) (N := 2) hx hb hg inG7 hown hK.1 hP 0 rfl rfl 1 (Nat.le_of_ble_eq_true rfl) (hg _ wt_43) (fun _ h9 => h9) rfl dX7_addBytes_30 ?_
                    refine lv_aload_n hx hb dX7_addBytes_33 rfl (lv_at hl 1 rfl) ?_
                    refine va_get (D := (dC, dI)) (ci := 7) (v := .int (nI ((((((T + 1) + 1) + 1) + 1) + 1) + 1))) (C := RX7) (T := TX7) (N := 2) hx hb hg inG7 hown hK.1 hP 0 rfl rfl 0 (Nat.le_of_ble_eq_true rfl) (hg _ wt_40) (fun _ h9 => h9) rfl dX7_addBytes_34 ?_
                    refine lv_lload_n hx hb dX7_addBytes_37 rfl (lv_at hl 2 rfl) ?_
                    refine lv_iload_n hx hb dX7_addBytes_38 rfl (lv_at hl 0 rfl) ?_
                    refine lv_lushr (v := _) hx hb dX7_addBytes_39 rfl ?_
                    refine lv_topl (fun v24 ev24 => ?_)
                    refine lv_ldc2 (v := 255) hx hb hown (hg _ wt_353) dX7_addBytes_40 ?_
                    refine lv_land hx hb dX7_addBytes_43 ?_
                    refine lv_l2i (v := _) hx hb dX7_addBytes_44 rfl ?_
                    refine lv_topi (fun v25 ev25 => ?_)
                    refine va_iast hx hb hK.1 hP hD hS 1 0 rfl rfl (vp_in_nI (by first | omega | (have t_n2 := n2; have t_n4 := n4; have t_c5 := nltI c5; have t_c8 := nltI c8; have t_c11 := nltI c11; have t_c14 := nltI c14; have t_c17 := nltI c17; have t_c20 := nltI c20; have t_c23 := nltI c23; have tqz_ := qz37_; have t_n0 : (nI T).toInt = (T : Int) := tn1552_ (); omega)) (by decide)) dX7_addBytes_45 (fun H locs hP hD hS => ?_)
                    rw [nI_clamp (by omega)] at hP hD
                    refine lv_aload_n hx hb dX7_addBytes_46 rfl (lv_at hl 1 rfl) ?_
                    refine lv_dup hx hb dX7_addBytes_47 rfl ?_
                    refine va_get (D := (dC, dI)) (ci := 7) (v := .int (nI ((((((T + 1) + 1) + 1) + 1) + 1) + 1))) (C := RX7) (T := TX7) (N := 2) hx hb hg inG7 hown hK.1 hP 0 rfl rfl 0 (Nat.le_of_ble_eq_true rfl) (hg _ wt_40) (fun _ h9 => h9) rfl dX7_addBytes_48 ?_
                    refine lv_iconst (v := 1) hx hb dX7_addBytes_51 rfl ?_
                    refine lv_iadd hx hb dX7_addBytes_52 ?_
                    refine lv_cg (y := nI (((((((T + 1) + 1) + 1) + 1) + 1) + 1) + 1)) (by rw [show (1 : Int32) = nI 1 from rfl]; exact nI_add _ _) ?_
                    refine va_put (D := (dC, dI)) (ci := 7) (v := .int (nI (((((((T + 1) + 1) + 1) + 1) + 1) + 1) + 1))) (ty := .int) (C := RX7) (T := TX7) (N := 2) hx hb hg inG7 tyX7 tyX7_ok nmX7 hown hK.1 hP hD hS 0 rfl rfl 0 (Nat.le_of_ble_eq_true rfl) (hg _ wt_40) (fun _ h9 => h9) rfl (by decide +kernel) rfl rfl (Nat.le_of_ble_eq_true rfl) dX7_addBytes_53 (fun H locs hP hD hS => ?_)
                    refine lv_iinc (v := 0) (lv' := [(3, .int 0), (0, .ref h0), (1, .long v)]) hx hb dX7_addBytes_56 hl (k := 0) rfl (by decide) (by decide) rfl (fun ls hl => ?_)
                    refine lv_goto (tgt := 25) hx hb dX7_addBytes_59 rfl ?_
                    refine lv_iload_n hx hb dX7_addBytes_25 rfl (lv_at hl 0 rfl) ?_
                    refine lv_if_lt (tgt := 62) hx hb dX7_addBytes_26 rfl (fun c26 => ?_) (fun c26 => ?_)
                    · skip
                      exact absurd c26 (by decide)
                    · skip
                      refine lv_aload_n hx hb dX7_addBytes_29 rfl (lv_at hl 1 rfl) ?_
                      refine va_get (D := (dC, dI)) (ci := 7) (v := .ref ta) (C := RX7) (T := TX7) (N := 2) hx hb hg inG7 hown hK.1 hP 0 rfl rfl 1 (Nat.le_of_ble_eq_true rfl) (hg _ wt_43) (fun _ h9 => h9) rfl dX7_addBytes_30 ?_
                      refine lv_aload_n hx hb dX7_addBytes_33 rfl (lv_at hl 1 rfl) ?_
                      refine va_get (D := (dC, dI)) (ci := 7) (v := .int (nI (((((((T + 1) + 1) + 1) + 1) + 1) + 1) + 1))) (C := RX7) (T := TX7) (N := 2) hx hb hg inG7 hown hK.1 hP 0 rfl rfl 0 (Nat.le_of_ble_eq_true rfl) (hg _ wt_40) (fun _ h9 => h9) rfl dX7_addBytes_34 ?_
                      refine lv_lload_n hx hb dX7_addBytes_37 rfl (lv_at hl 2 rfl) ?_
                      refine lv_iload_n hx hb dX7_addBytes_38 rfl (lv_at hl 0 rfl) ?_
                      refine lv_lushr (v := _) hx hb dX7_addBytes_39 rfl ?_
                      refine lv_topl (fun v27 ev27 => ?_)
                      refine lv_ldc2 (v := 255) hx hb hown (hg _ wt_353) dX7_addBytes_40 ?_
                      refine lv_land hx hb dX7_addBytes_43 ?_
                      refine lv_l2i (v := _) hx hb dX7_addBytes_44 rfl ?_
                      refine lv_topi (fun v28 ev28 => ?_)
                      refine va_iast hx hb hK.1 hP hD hS 1 0 rfl rfl (vp_in_nI (by first | omega | (have t_n2 := n2; have t_n4 := n4; have t_c5 := nltI c5; have t_c8 := nltI c8; have t_c11 := nltI c11; have t_c14 := nltI c14; have t_c17 := nltI c17; have t_c20 := nltI c20; have t_c23 := nltI c23; have t_c26 := nltI c26; have tqz_ := qz37_; have t_n0 : (nI T).toInt = (T : Int) := tn1552_ (); omega)) (by decide)) dX7_addBytes_45 (fun H locs hP hD hS => ?_)
                      rw [nI_clamp (by omega)] at hP hD
                      refine lv_aload_n hx hb dX7_addBytes_46 rfl (lv_at hl 1 rfl) ?_
                      refine lv_dup hx hb dX7_addBytes_47 rfl ?_
                      refine va_get (D := (dC, dI)) (ci := 7) (v := .int (nI (((((((T + 1) + 1) + 1) + 1) + 1) + 1) + 1))) (C := RX7) (T := TX7) (N := 2) hx hb hg inG7 hown hK.1 hP 0 rfl rfl 0 (Nat.le_of_ble_eq_true rfl) (hg _ wt_40) (fun _ h9 => h9) rfl dX7_addBytes_48 ?_
                      refine lv_iconst (v := 1) hx hb dX7_addBytes_51 rfl ?_
                      refine lv_iadd hx hb dX7_addBytes_52 ?_
                      refine lv_cg (y := nI ((((((((T + 1) + 1) + 1) + 1) + 1) + 1) + 1) + 1)) (by rw [show (1 : Int32) = nI 1 from rfl]; exact nI_add _ _) ?_
                      refine va_put (D := (dC, dI)) (ci := 7) (v := .int (nI ((((((((T + 1) + 1) + 1) + 1) + 1) + 1) + 1) + 1))) (ty := .int) (C := RX7) (T := TX7) (N := 2) hx hb hg inG7 tyX7 tyX7_ok nmX7 hown hK.1 hP hD hS 0 rfl rfl 0 (Nat.le_of_ble_eq_true rfl) (hg _ wt_40) (fun _ h9 => h9) rfl (by decide +kernel) rfl rfl (Nat.le_of_ble_eq_true rfl) dX7_addBytes_53 (fun H locs hP hD hS => ?_)
                      refine lv_iinc (v := (-8)) (lv' := [(3, .int (-8)), (0, .ref h0), (1, .long v)]) hx hb dX7_addBytes_56 hl (k := 0) rfl (by decide) (by decide) rfl (fun ls hl => ?_)
                      refine lv_goto (tgt := 25) hx hb dX7_addBytes_59 rfl ?_
                      refine lv_iload_n hx hb dX7_addBytes_25 rfl (lv_at hl 0 rfl) ?_
                      refine lv_if_lt (tgt := 62) hx hb dX7_addBytes_26 rfl (fun c29 => ?_) (fun c29 => ?_)
                      · skip
                        refine lv_iconst (v := 1) hx hb dX7_addBytes_62 rfl ?_
                        have hpost : (1 : Int32) = if T + 8 ≤ 320 then 1 else 0 := by
                          have t_n2 := n2
                          have t_n4 := n4
                          have t_c5 := nltI c5
                          have t_c8 := nltI c8
                          have t_c11 := nltI c11
                          have t_c14 := nltI c14
                          have t_c17 := nltI c17
                          have t_c20 := nltI c20
                          have t_c23 := nltI c23
                          have t_c26 := nltI c26
                          have t_c29 := ltI c29
                          have : ((-8) : Int32).toInt = -8 := qI_m8
                          have : (0 : Int32).toInt = 0 := qI_0
                          have : (8 : Int32).toInt = 8 := qI_8
                          have : (16 : Int32).toInt = 16 := qI_16
                          have : (24 : Int32).toInt = 24 := qI_24
                          have : (32 : Int32).toInt = 32 := qI_32
                          have : (40 : Int32).toInt = 40 := qI_40
                          have : (48 : Int32).toInt = 48 := qI_48
                          have : (56 : Int32).toInt = 56 := qI_56
                          have t_n0 : (nI T).toInt = (T : Int) := tn1552_ ()
                          first | rfl | ((repeat' split) <;> first | rfl | omega)
                        obtain ⟨hP9, hD9⟩ := va_sub2 (ws' := [(h0, .inr (7, [.int (nI ((((((((T + 1) + 1) + 1) + 1) + 1) + 1) + 1) + 1)), .ref ta])), (ta, .inl (G 0, 320, .inl (upd (upd (upd (upd (upd (upd (upd (upd f T v7) (T + 1) v10) ((T + 1) + 1) v13) (((T + 1) + 1) + 1) v16) ((((T + 1) + 1) + 1) + 1) v19) (((((T + 1) + 1) + 1) + 1) + 1) v22) ((((((T + 1) + 1) + 1) + 1) + 1) + 1) v25) (((((((T + 1) + 1) + 1) + 1) + 1) + 1) + 1) v28)))]) hP hD [0, 1] (by decide +kernel) rfl
                        refine W.widen (k := 0) (n := 0) (Nat.le_of_ble_eq_true rfl) (Nat.le_of_ble_eq_true rfl) ?_
                        exact W.zret (v := 1) hx hb hr (by first | rfl | decide | exact rfl) (fun t ht hW => ⟨⟨1, (((((((((T + 1) + 1) + 1) + 1) + 1) + 1) + 1) + 1), (upd (upd (upd (upd (upd (upd (upd (upd f T v7) (T + 1) v10) ((T + 1) + 1) v13) (((T + 1) + 1) + 1) v16) ((((T + 1) + 1) + 1) + 1) v19) (((((T + 1) + 1) + 1) + 1) + 1) v22) ((((((T + 1) + 1) + 1) + 1) + 1) + 1) v25) (((((((T + 1) + 1) + 1) + 1) + 1) + 1) + 1) v28)), rfl, ⟨hpost, (by have t_n2 := n2; have t_n4 := n4; have t_c5 := nltI c5; have t_c8 := nltI c8; have t_c11 := nltI c11; have t_c14 := nltI c14; have t_c17 := nltI c17; have t_c20 := nltI c20; have t_c23 := nltI c23; have t_c26 := nltI c26; have t_c29 := ltI c29; have tqz_ := qz38_; have t_n0 : (nI T).toInt = (T : Int) := tn1552_ (); refine ⟨(by split <;> omega), ?_⟩; rw [if_pos (by omega)]; (try rw [ev28]); (try rw [ev27]); (try rw [ev25]); (try rw [ev24]); (try rw [ev22]); (try rw [ev21]); (try rw [ev19]); (try rw [ev18]); (try rw [ev16]); (try rw [ev15]); (try rw [ev13]); (try rw [ev12]); (try rw [ev10]); (try rw [ev9]); (try rw [ev7]); (try rw [ev6]); rfl)⟩, ⟨by rw [ht]; exact hP9, hD9⟩⟩, hS.F ht⟩) hS.2.2 dX7_addBytes_63
                      · skip
                        exact absurd c29 (by decide)
    · skip
      have tn1554_ : nIT (T + 8) := fun _ => nI_toInt (by first | omega | (have t := nleI c3; omega))
      have n30 : 320 < (T + 8) := by have t := nleI c3; rw [show (nI (T + 8)).toInt = ((T + 8 : Nat) : Int) from tn1554_ ()] at t; have : (320 : Int32).toInt = 320 := qI_320; omega
      refine lv_iconst (v := 0) hx hb dX7_addBytes_20 rfl ?_
      have hpost : (0 : Int32) = if T + 8 ≤ 320 then 1 else 0 := by
        have t_n2 := n2
        have t_n30 := n30
        have t_n0 : (nI T).toInt = (T : Int) := tn1552_ ()
        first | rfl | ((repeat' split) <;> first | rfl | omega)
      obtain ⟨hP9, hD9⟩ := va_sub2 (ws' := [(h0, .inr (7, [.int (nI T), .ref ta])), (ta, .inl (G 0, 320, .inl f))]) hP hD [0, 1] (by decide +kernel) rfl
      refine W.widen (k := 0) (n := 0) (Nat.le_of_ble_eq_true rfl) (Nat.le_of_ble_eq_true rfl) ?_
      exact W.zret (v := 0) hx hb hr (by first | rfl | decide | exact rfl) (fun t ht hW => ⟨⟨0, (T, f), rfl, ⟨hpost, (by have t_n2 := n2; have t_n30 := n30; have t_n0 : (nI T).toInt = (T : Int) := tn1552_ (); refine ⟨(by split <;> omega), ?_⟩; rw [if_neg (by omega)])⟩, ⟨by rw [ht]; exact hP9, hD9⟩⟩, hS.F ht⟩) hS.2.2 dX7_addBytes_21

set_option maxHeartbeats 1000000 in
set_option maxRecDepth 100000 in
theorem c_X10_feedE (l : Launch) (dC : Nat → ClassId) (dI : Nat → Nat → Nat) (G : Nat → ClassId) (sz : Nat) (h0 rd wy tr im kp od ch cr le mk tl sh tp td ta T : Nat) (tf rf dr0 dr1 dr2 dr3 dr4 dr5 dr6 dr7 dr8 dr9 : Int32) (v : Int64) (f : Nat → Int32) (hT : T ≤ 320) : Met l yX10_feed (Cond.code yX10_feed cX10_feed 3 (some .int) :: GT) ({ frames := 1, cells := 0, slots := 0, locals := 23 } : Room) (PcW [.ref h0, .long v] dC dI G [(h0, .inr (10, [.ref rd, .ref wy, .ref tr, .ref im, .ref kp, .ref od, .ref ch, .ref cr, .ref le, .ref mk, .ref tl, .ref sh, .int tf, .int rf])), (rd, .inr (5, [.ref tp, .ref td, .int dr0, .int dr1, .int dr2, .int dr3, .int dr4, .int dr5, .int dr6, .int dr7, .int dr8, .int dr9])), (tp, .inr (7, [.int (nI T), .ref ta])), (ta, .inl (G 0, 320, .inl f))] sz) (va_Qi (fun (r : Int32) (u : Nat × (Nat → Int32)) => match u with | (u1, u2) => (r = if T + 8 ≤ 320 then nI (T + 8) else -3) ∧ u1 = (if T + 8 ≤ 320 then T + 8 else T) ∧ u2 = (if T + 8 ≤ 320 then fdC f T v else f)) (fun (u : Nat × (Nat → Int32)) (t : State) => match u with | (u1, u2) => va_P (dC, dI) vwCl [(h0, .inr (10, [.ref rd, .ref wy, .ref tr, .ref im, .ref kp, .ref od, .ref ch, .ref cr, .ref le, .ref mk, .ref tl, .ref sh, .int tf, .int rf])), (rd, .inr (5, [.ref tp, .ref td, .int dr0, .int dr1, .int dr2, .int dr3, .int dr4, .int dr5, .int dr6, .int dr7, .int dr8, .int dr9])), (tp, .inr (7, [.int (nI u1), .ref ta])), (ta, .inl (G 0, 320, .inl u2))] t.heap ∧ va_D (va_A [(h0, .inr (10, [.ref rd, .ref wy, .ref tr, .ref im, .ref kp, .ref od, .ref ch, .ref cr, .ref le, .ref mk, .ref tl, .ref sh, .int tf, .int rf])), (rd, .inr (5, [.ref tp, .ref td, .int dr0, .int dr1, .int dr2, .int dr3, .int dr4, .int dr5, .int dr6, .int dr7, .int dr8, .int dr9])), (tp, .inr (7, [.int (nI T), .ref ta])), (ta, .inl (G 0, 320, .inl f))] sz) [(h0, .inr (10, [.ref rd, .ref wy, .ref tr, .ref im, .ref kp, .ref od, .ref ch, .ref cr, .ref le, .ref mk, .ref tl, .ref sh, .int tf, .int rf])), (rd, .inr (5, [.ref tp, .ref td, .int dr0, .int dr1, .int dr2, .int dr3, .int dr4, .int dr5, .int dr6, .int dr7, .int dr8, .int dr9])), (tp, .inr (7, [.int (nI u1), .ref ta])), (ta, .inl (G 0, 320, .inl u2))]) (va_A [(h0, .inr (10, [.ref rd, .ref wy, .ref tr, .ref im, .ref kp, .ref od, .ref ch, .ref cr, .ref le, .ref mk, .ref tl, .ref sh, .int tf, .int rf])), (rd, .inr (5, [.ref tp, .ref td, .int dr0, .int dr1, .int dr2, .int dr3, .int dr4, .int dr5, .int dr6, .int dr7, .int dr8, .int dr9])), (tp, .inr (7, [.int (nI T), .ref ta])), (ta, .inl (G 0, 320, .inl f))] sz)) 0 0 (va_A [(h0, .inr (10, [.ref rd, .ref wy, .ref tr, .ref im, .ref kp, .ref od, .ref ch, .ref cr, .ref le, .ref mk, .ref tl, .ref sh, .int tf, .int rf])), (rd, .inr (5, [.ref tp, .ref td, .int dr0, .int dr1, .int dr2, .int dr3, .int dr4, .int dr5, .int dr6, .int dr7, .int dr8, .int dr9])), (tp, .inr (7, [.int (nI T), .ref ta])), (ta, .inl (G 0, 320, .inl f))] sz) := by
  have hT_ := hT
  have tn1555_ : nIT T := fun _ => nI_toInt (by omega)
  refine Met.ofW (cc := cX10_feed) (maxL := 3) (ret := (some .int)) (by decide) rfl ?_
  intro p e s m args below meth c s₁ Bd hml hv
  obtain ⟨rfl, hsz, hP, hK, hD0⟩ := hv
  have hx := Bd.exec
  have hb := Bd.bytes
  have hr := Bd.returns
  have hg : ∀ w ∈ GT, w.before ([.ref h0, .long v] : List Value).toArray s = true := fun w h => atoms_spec (ws := Cond.code yX10_feed cX10_feed 3 (some .int) :: GT) Bd.pre w (List.mem_cons_of_mem _ h)
  have hown : s.vm.findClass RX10 = some m.cls := findClass_of_methodNamed Bd.named
  have hlocks := Bd.notSynchronized
  subst hsz
  have hD := hD0.self (sz := s.heap.size)
  generalize hAe : va_A [(h0, .inr (10, [.ref rd, .ref wy, .ref tr, .ref im, .ref kp, .ref od, .ref ch, .ref cr, .ref le, .ref mk, .ref tl, .ref sh, .int tf, .int rf])), (rd, .inr (5, [.ref tp, .ref td, .int dr0, .int dr1, .int dr2, .int dr3, .int dr4, .int dr5, .int dr6, .int dr7, .int dr8, .int dr9])), (tp, .inr (7, [.int (nI T), .ref ta])), (ta, .inl (G 0, 320, .inl f))] s.heap.size = A at hD ⊢
  have hA : ∀ q : Nat, s.heap.size ≤ q → A q := fun q h => by rw [← hAe]; exact Or.inr h
  have hS : va_S A s.heap s.heap [] := va_S.rf
  have hl := lv_entry ([.ref h0, .long v]) (n := 3) (Nat.le_of_ble_eq_true rfl)
  rw [lg_entry_eq]
  generalize (lg_sl ([.ref h0, .long v]) ++ List.replicate (3 - (lg_sl ([.ref h0, .long v])).length) Slot.unset).toArray = ls at hl ⊢
  have hl : lv_has ls 3 [(0, .ref h0), (1, .long v)] := hl
  refine lv_aload_n hx hb dX10_feed_0 rfl (lv_at hl 0 rfl) ?_
  refine va_get (D := (dC, dI)) (ci := 10) (v := .ref rd) (C := RX10) (T := TX10) (N := 14) hx hb hg inG10 hown hK.1 hP 0 rfl rfl 0 (Nat.le_of_ble_eq_true rfl) (hg _ wt_302) (fun _ h9 => h9) rfl dX10_feed_1 ?_
  refine va_getN (D := (dC, dI)) (ci := 5) (v := .ref tp) (C := RX5) (T := TX5) (N := 12) hx hb hg inG5 hown hK.1 hP 1 rfl rfl 0 (Nat.le_of_ble_eq_true rfl) (hK.nest wn_106) (fun _ h9 => h9) rfl dX10_feed_4 ?_
  refine lv_lload_n hx hb dX10_feed_7 rfl (lv_at hl 1 rfl) ?_
  obtain ⟨hPc, hDc, hFc⟩ := va_sub3 (ws' := [(tp, .inr (7, [.int (nI T), .ref ta])), (ta, .inl (G 0, 320, .inl f))]) hP hD hS hA [2, 3] (by decide +kernel) rfl
  refine va_calli (va_runVN (As := [.long v]) (rest := []) ⟨hx, hb, hml, hown, hg⟩ (c_X7_addBytesE l dC dI G _ tp ta T v f hT_) (kwVN hg hK mfX7_addBytes wn_349 ⟨Nat.le_of_ble_eq_true rfl, Nat.le_of_ble_eq_true rfl⟩) (preVW hK hPc hDc (ci := 7) (r := (RX7, TX7, 2)) rfl rfl) rfl rfl hl.1 rfl (lv_room (Nat.le_of_ble_eq_true rfl)) dX10_feed_8 ⟨Nat.le_of_ble_eq_true rfl, Nat.le_of_ble_eq_true rfl⟩) hS (fun q _ h => hFc q h) hFc (fun r1 ur1 t H1 locs ht hvm w2 hB hz1 hk1 hS => ?_)
  obtain ⟨u3, u4⟩ := ur1
  obtain ⟨hP1, hD1⟩ := hB
  rw [ht] at hP1
  obtain ⟨hP, hD⟩ := va_join (wr := [(h0, .inr (10, [.ref rd, .ref wy, .ref tr, .ref im, .ref kp, .ref od, .ref ch, .ref cr, .ref le, .ref mk, .ref tl, .ref sh, .int tf, .int rf])), (rd, .inr (5, [.ref tp, .ref td, .int dr0, .int dr1, .int dr2, .int dr3, .int dr4, .int dr5, .int dr6, .int dr7, .int dr8, .int dr9]))]) (w1 := [(tp, .inr (7, [.int (nI u3), .ref ta])), (ta, .inl (G 0, 320, .inl u4))]) hP hD [2, 3] [0, 1] rfl rfl (by decide +kernel) (by decide +kernel) hk1 hFc hP1 hD1
  generalize H1 = H at hP hS ⊢
  obtain ⟨w2, w2x⟩ := w2
  refine lv_if_eq (tgt := 27) hx hb dX10_feed_11 rfl (fun c5 => ?_) (fun c5 => ?_)
  · skip
    refine lv_bipush (v := (-3)) hx hb dX10_feed_27 rfl ?_
    have hpost : ((-3) : Int32) = if T + 8 ≤ 320 then nI (T + 8) else -3 := by
      have q8 := w2; have q9 := w2x.1
      split at q9 <;> rename_i h8
      · rw [if_pos h8]; rw [if_pos h8] at q8; first | (rw [q9]) | (exfalso; simp_all; done)
      · first | (rw [if_neg h8]; done) | (rw [if_neg h8]; rw [if_neg h8] at q8; first | rfl | (exfalso; simp_all; done))
    obtain ⟨hP9, hD9⟩ := va_sub2 (ws' := [(h0, .inr (10, [.ref rd, .ref wy, .ref tr, .ref im, .ref kp, .ref od, .ref ch, .ref cr, .ref le, .ref mk, .ref tl, .ref sh, .int tf, .int rf])), (rd, .inr (5, [.ref tp, .ref td, .int dr0, .int dr1, .int dr2, .int dr3, .int dr4, .int dr5, .int dr6, .int dr7, .int dr8, .int dr9])), (tp, .inr (7, [.int (nI u3), .ref ta])), (ta, .inl (G 0, 320, .inl u4))]) hP hD [0, 1, 2, 3] (by decide +kernel) rfl
    refine W.widen (k := 0) (n := 0) (Nat.le_of_ble_eq_true rfl) (Nat.le_of_ble_eq_true rfl) ?_
    exact W.iret (v := (-3)) hx hb hr (fun t ht hW => ⟨⟨(-3), (u3, u4), rfl, ⟨hpost, (by exact w2x)⟩, ⟨by rw [ht]; exact hP9, hD9⟩⟩, hS.F ht⟩) hS.2.2 dX10_feed_29
  · skip
    refine lv_aload_n hx hb dX10_feed_14 rfl (lv_at hl 0 rfl) ?_
    refine va_get (D := (dC, dI)) (ci := 10) (v := .ref rd) (C := RX10) (T := TX10) (N := 14) hx hb hg inG10 hown hK.1 hP 0 rfl rfl 0 (Nat.le_of_ble_eq_true rfl) (hg _ wt_302) (fun _ h9 => h9) rfl dX10_feed_15 ?_
    refine va_getN (D := (dC, dI)) (ci := 5) (v := .ref tp) (C := RX5) (T := TX5) (N := 12) hx hb hg inG5 hown hK.1 hP 1 rfl rfl 0 (Nat.le_of_ble_eq_true rfl) (hK.nest wn_106) (fun _ h9 => h9) rfl dX10_feed_18 ?_
    refine va_getN (D := (dC, dI)) (ci := 7) (v := .int (nI u3)) (C := RX7) (T := TX7) (N := 2) hx hb hg inG7 hown hK.1 hP 2 rfl rfl 0 (Nat.le_of_ble_eq_true rfl) (hK.nest wn_42) (fun _ h9 => h9) rfl dX10_feed_21 ?_
    refine lv_goto (tgt := 29) hx hb dX10_feed_24 rfl ?_
    have hpost : (nI u3 : Int32) = if T + 8 ≤ 320 then nI (T + 8) else -3 := by
      have q8 := w2; have q9 := w2x.1
      split at q9 <;> rename_i h8
      · rw [if_pos h8]; rw [if_pos h8] at q8; first | (rw [q9]) | (exfalso; simp_all; done)
      · first | (rw [if_neg h8]; done) | (rw [if_neg h8]; rw [if_neg h8] at q8; first | rfl | (exfalso; simp_all; done))
    obtain ⟨hP9, hD9⟩ := va_sub2 (ws' := [(h0, .inr (10, [.ref rd, .ref wy, .ref tr, .ref im, .ref kp, .ref od, .ref ch, .ref cr, .ref le, .ref mk, .ref tl, .ref sh, .int tf, .int rf])), (rd, .inr (5, [.ref tp, .ref td, .int dr0, .int dr1, .int dr2, .int dr3, .int dr4, .int dr5, .int dr6, .int dr7, .int dr8, .int dr9])), (tp, .inr (7, [.int (nI u3), .ref ta])), (ta, .inl (G 0, 320, .inl u4))]) hP hD [0, 1, 2, 3] (by decide +kernel) rfl
    refine W.widen (k := 0) (n := 0) (Nat.le_of_ble_eq_true rfl) (Nat.le_of_ble_eq_true rfl) ?_
    exact W.iret (v := nI u3) hx hb hr (fun t ht hW => ⟨⟨nI u3, (u3, u4), rfl, ⟨hpost, (by exact w2x)⟩, ⟨by rw [ht]; exact hP9, hD9⟩⟩, hS.F ht⟩) hS.2.2 dX10_feed_29

set_option maxHeartbeats 1000000 in
set_option maxRecDepth 100000 in
theorem c_X10_faultE (l : Launch) (dC : Nat → ClassId) (dI : Nat → Nat → Nat) (G : Nat → ClassId) (sz : Nat) (h0 rd wy tr im kp od ch cr le mk tl sh : Nat) (tf rf : Int32)  : Met l yX10_fault (Cond.code yX10_fault cX10_fault 1 (some .int) :: GT) ({ frames := 0, cells := 0, slots := 0, locals := 0 } : Room) (PcR [.ref h0] dC dI G [(h0, .inr (10, [.ref rd, .ref wy, .ref tr, .ref im, .ref kp, .ref od, .ref ch, .ref cr, .ref le, .ref mk, .ref tl, .ref sh, .int tf, .int rf]))] sz) (va_Qi (fun (r : Int32) (u : Unit) => match u with | _ => (r = tf) ∧ True) (fun _ _ => True) (fun q : Nat => sz ≤ q)) 0 0 (fun q : Nat => sz ≤ q) := by
  refine Met.ofW (cc := cX10_fault) (maxL := 1) (ret := (some .int)) (by decide) rfl ?_
  intro p e s m args below meth c s₁ Bd hml hv
  obtain ⟨rfl, hsz, hP, hK⟩ := hv
  have hx := Bd.exec
  have hb := Bd.bytes
  have hr := Bd.returns
  have hg : ∀ w ∈ GT, w.before ([.ref h0] : List Value).toArray s = true := fun w h => atoms_spec (ws := Cond.code yX10_fault cX10_fault 1 (some .int) :: GT) Bd.pre w (List.mem_cons_of_mem _ h)
  have hown : s.vm.findClass RX10 = some m.cls := findClass_of_methodNamed Bd.named
  have hlocks := Bd.notSynchronized
  subst hsz
  have hA : ∀ q : Nat, s.heap.size ≤ q → (fun q : Nat => s.heap.size ≤ q) q := fun _ h => h
  have hS : va_S (fun q : Nat => s.heap.size ≤ q) s.heap s.heap [] := va_S.rf
  have hl := lv_entry ([.ref h0]) (n := 1) (Nat.le_of_ble_eq_true rfl)
  rw [lg_entry_eq]
  generalize (lg_sl ([.ref h0]) ++ List.replicate (1 - (lg_sl ([.ref h0])).length) Slot.unset).toArray = ls at hl ⊢
  have hl : lv_has ls 1 [(0, .ref h0)] := hl
  refine lv_aload_n hx hb dX10_fault_0 rfl (lv_at hl 0 rfl) ?_
  refine va_get (D := (dC, dI)) (ci := 10) (v := .int tf) (C := RX10) (T := TX10) (N := 14) hx hb hg inG10 hown hK.1 hP 0 rfl rfl 12 (Nat.le_of_ble_eq_true rfl) (hg _ wt_314) (fun _ h9 => h9) rfl dX10_fault_1 ?_
  have hpost : (tf : Int32) = tf := by
    rfl
  refine W.widen (k := 0) (n := 0) (Nat.le_of_ble_eq_true rfl) (Nat.le_of_ble_eq_true rfl) ?_
  exact W.iret (v := tf) hx hb hr (fun t ht hW => ⟨⟨tf, (), rfl, ⟨hpost, trivial⟩, trivial⟩, hS.F ht⟩) hS.2.2 dX10_fault_4
