theorem okS_mv {fs : Nat → Int32} (h : OKS fs) {a b : Nat} (h1 : 38 ≤ a) (h2 : a < 48) (h3 : 38 ≤ b) (h4 : b < 48) : okS a (fs b) := by
  have k := (h b (by omega)).2.1 (by omega) (by omega)
  exact okS_or h1 h2 k.1 k.2
theorem okS_cp {a b j : Nat} {x : Int32} (ha : a % 49 = 0) (hb : b % 49 = 0) (h : okS (a + j) x) : okS (b + j) x := by
  have e : (b + j) % 49 = (a + j) % 49 := by omega
  unfold okS at h ⊢
  rw [e]
  exact h
def OKL (f : Nat → Int32) : Prop := ∀ q : Nat, q < 8 → (0 ≤ (f (4 * q)).toInt ∧ (f (4 * q)).toInt < 10) ∧ (f (4 * q + 1) = -4 ∨ (0 ≤ (f (4 * q + 1)).toInt ∧ (f (4 * q + 1)).toInt < 6)) ∧ (0 ≤ (f (4 * q + 2)).toInt ∧ (f (4 * q + 2)).toInt < 6)
theorem OKL.add {f : Nat → Int32} (h : OKL f) {k : Nat} {i a b x : Int32} (hi : 0 ≤ i.toInt ∧ i.toInt < 10) (ha : a = -4 ∨ (0 ≤ a.toInt ∧ a.toInt < 6)) (hb : 0 ≤ b.toInt ∧ b.toInt < 6) : OKL (upd (upd (upd (upd f (4 * k) i) (4 * k + 1) a) (4 * k + 2) b) (4 * k + 3) x) := by
  intro q hq
  have h0 := h q hq
  by_cases e : q = k
  · subst e
    unfold upd
    refine ⟨?_, ?_, ?_⟩
    · rw [if_neg (by omega), if_neg (by omega), if_neg (by omega), if_pos rfl]; exact hi
    · rw [if_neg (by omega), if_neg (by omega), if_pos rfl]; exact ha
    · rw [if_neg (by omega), if_pos rfl]; exact hb
  · unfold upd
    refine ⟨?_, ?_, ?_⟩
    · rw [if_neg (by omega), if_neg (by omega), if_neg (by omega), if_neg (by omega)]; exact h0.1
    · rw [if_neg (by omega), if_neg (by omega), if_neg (by omega), if_neg (by omega)]; exact h0.2.1
    · rw [if_neg (by omega), if_neg (by omega), if_neg (by omega), if_neg (by omega)]; exact h0.2.2
theorem m4I {x : Int32} (h : x.toInt = -4) : x = -4 := Int32.toInt_inj.mp (by rw [h]; decide)
theorem nI01 {k : Nat} (h : k ≤ 1) : nI k = 0 ∨ nI k = 1 := by
  rcases (show k = 0 ∨ k = 1 by omega) with e | e <;> subst e
  · exact Or.inl rfl
  · exact Or.inr rfl
theorem im1 {x : Int32} (h0 : 0 ≤ x.toInt) (h1 : x.toInt ≤ 40) : (x - 1).toInt = x.toInt - 1 := by
  have e0 : (x - 1).toInt = (x.toInt - (1 : Int32).toInt).bmod (2 ^ 32) := Int32.toInt_sub x 1
  have e1 : (1 : Int32).toInt = 1 := by decide
  rw [e1, Int.bmod_eq_of_le (by omega) (by omega)] at e0
  exact e0
theorem rd_ix {k j : Nat} {x : Int32} (hk : k < 4) (h1 : 1 ≤ j) (hx : 0 ≤ x.toInt) (hs : x.toInt + (j : Int) < 40) : ∃ z : Nat, z < 160 ∧ 1 ≤ z ∧ (nI (40 * k) + x) + nI j = nI z := by
  obtain ⟨x', hx', rfl⟩ := i32_nat (x := x) (n := 40) hx (by omega)
  rw [nI_toInt (by omega)] at hs
  exact ⟨40 * k + x' + j, by omega, by omega, by rw [nI_add, nI_add]⟩
theorem add64 (a b : Int32) : (a.toInt64 + b.toInt64).toInt = a.toInt + b.toInt := by
  have e0 : (a.toInt64 + b.toInt64).toInt = (a.toInt64.toInt + b.toInt64.toInt).bmod (2 ^ 64) := Int64.toInt_add _ _
  have h1 := a.toInt_lt
  have h2 := a.le_toInt
  have h3 := b.toInt_lt
  have h4 := b.le_toInt
  rw [Int32.toInt_toInt64, Int32.toInt_toInt64, Int.bmod_eq_of_le (by omega) (by omega)] at e0
  exact e0
set_option maxHeartbeats 1000000 in
set_option maxRecDepth 100000 in
theorem c_X11_bitsOf (l : Launch) (dC : Nat → ClassId) (dI : Nat → Nat → Nat) (G : Nat → ClassId) (sz : Nat) (x1 : Int32)  : Met l yX11_bitsOf (Cond.code yX11_bitsOf cX11_bitsOf 3 (some .int) :: GT) ({ frames := 0, cells := 0, slots := 0, locals := 0 } : Room) (PcR [.int x1] dC dI G [] sz) (va_Qi (fun (r : Int32) (u : Unit) => match u with | _ => (True) ∧ True) (fun _ _ => True) (fun q : Nat => sz ≤ q)) 0 0 (fun q : Nat => sz ≤ q) := by
  refine Met.ofW (cc := cX11_bitsOf) (maxL := 3) (ret := (some .int)) (by decide) rfl ?_
  intro p e s m args below meth c s₁ Bd hml hv
  obtain ⟨rfl, hsz, hP, hK⟩ := hv
  have hx := Bd.exec
  have hb := Bd.bytes
  have hr := Bd.returns
  have hg : ∀ w ∈ GT, w.before ([.int x1] : List Value).toArray s = true := fun w h => atoms_spec (ws := Cond.code yX11_bitsOf cX11_bitsOf 3 (some .int) :: GT) Bd.pre w (List.mem_cons_of_mem _ h)
  have hown : s.vm.findClass RX11 = some m.cls := findClass_of_methodNamed Bd.named
  have hlocks := Bd.notSynchronized
  subst hsz
  have hA : ∀ q : Nat, s.heap.size ≤ q → (fun q : Nat => s.heap.size ≤ q) q := fun _ h => h
  have hS : va_S (fun q : Nat => s.heap.size ≤ q) s.heap s.heap [] := va_S.rf
  have hl := lv_entry ([.int x1]) (n := 3) (Nat.le_of_ble_eq_true rfl)
  rw [lg_entry_eq]
  generalize (lg_sl ([.int x1]) ++ List.replicate (3 - (lg_sl ([.int x1])).length) Slot.unset).toArray = ls at hl ⊢
  have hl : lv_has ls 3 [(0, .int x1)] := hl
  refine lv_iconst (v := 0) hx hb dX11_bitsOf_0 rfl ?_
  refine lv_istore_n (lv' := [(1, .int 0), (0, .int x1)]) hx hb dX11_bitsOf_1 rfl hl (by decide) rfl (fun ls hl => ?_)
  refine lv_iconst (v := 0) hx hb dX11_bitsOf_2 rfl ?_
  refine lv_istore_n (lv' := [(2, .int 0), (1, .int 0), (0, .int x1)]) hx hb dX11_bitsOf_3 rfl hl (by decide) rfl (fun ls hl => ?_)
  have loop4_3 : ∀ (nf j1 : Nat), 10 + 1 ≤ j1 + nf → j1 ≤ 10 → ∀ (y2 : Int32) (H : Heap) (locs : List Loc), va_P (dC, dI) vwCl [] H → va_S (fun q : Nat => s.heap.size ≤ q) s.heap H locs → ∀ (ls : Array Slot), lv_has ls 3 [(2, .int (nI j1)), (1, .int y2), (0, .int x1)] → W p l e (headSpec (Cond.code yX11_bitsOf cX11_bitsOf 3 (some .int) :: GT) ({ frames := 0, cells := 0, slots := 0, locals := 0 } : Room)).room s m ([.int x1] : List Value).toArray below meth c H locs 0 0 (MQ below (va_Qi (fun (r : Int32) (u : Unit) => match u with | _ => (True) ∧ True) (fun _ _ => True) (fun q : Nat => s.heap.size ≤ q)) ([.int x1] : List Value).toArray s 0 0 (fun q : Nat => s.heap.size ≤ q)) (F0 m 4 ls []) := by
    intro nf
    induction nf with
    | zero => intro j1 h1 h2; exact absurd h1 (by omega)
    | succ nf ih4_3 =>
      intro j1 hn4 hj5 y2 H locs hP hS ls hl
      refine lv_iload_n hx hb dX11_bitsOf_4 rfl (lv_at hl 0 rfl) ?_
      refine lv_bipush (v := 10) hx hb dX11_bitsOf_5 rfl ?_
      refine lv_icmp_ge (tgt := 24) hx hb dX11_bitsOf_7 rfl (fun c6 => ?_) (fun c6 => ?_)
      · skip
        have tn759_ : nIT j1 := fun _ => nI_toInt (by first | omega | (have t := leI c6; omega))
        have n7 : 10 ≤ j1 := by have t := leI c6; rw [show (nI (j1)).toInt = ((j1 : Nat) : Int) from tn759_ ()] at t; have : (10 : Int32).toInt = 10 := qI_10; omega
        refine lv_iload_n hx hb dX11_bitsOf_24 rfl (lv_at hl 1 rfl) ?_
        have hpost : True := by
          trivial
        refine W.widen (k := 0) (n := 0) (Nat.le_of_ble_eq_true rfl) (Nat.le_of_ble_eq_true rfl) ?_
        exact W.iret (v := y2) hx hb hr (fun t ht hW => ⟨⟨y2, (), rfl, ⟨hpost, trivial⟩, trivial⟩, hS.F ht⟩) hS.2.2 dX11_bitsOf_25
      · skip
        have tn760_ : nIT j1 := fun _ => nI_toInt (by first | omega | (have t := nleI c6; omega))
        have n8 : j1 < 10 := by have t := nleI c6; rw [show (nI (j1)).toInt = ((j1 : Nat) : Int) from tn760_ ()] at t; have : (10 : Int32).toInt = 10 := qI_10; omega
        refine lv_iload_n hx hb dX11_bitsOf_10 rfl (lv_at hl 1 rfl) ?_
        refine lv_iload_n hx hb dX11_bitsOf_11 rfl (lv_at hl 2 rfl) ?_
        refine lv_iload_n hx hb dX11_bitsOf_12 rfl (lv_at hl 0 rfl) ?_
        refine lv_ishr hx hb dX11_bitsOf_13 ?_
        refine lv_iconst (v := 1) hx hb dX11_bitsOf_14 rfl ?_
        refine lv_iand hx hb dX11_bitsOf_15 ?_
        refine lv_topi (fun v9 ev9 => ?_)
        refine lv_iadd hx hb dX11_bitsOf_16 ?_
        refine lv_istore_n (lv' := [(1, .int (y2 + v9)), (2, .int (nI j1)), (0, .int x1)]) hx hb dX11_bitsOf_17 rfl hl (by decide) rfl (fun ls hl => ?_)
        refine lv_iinc (v := nI (j1 + 1)) (lv' := [(2, .int (nI (j1 + 1))), (1, .int (y2 + v9)), (0, .int x1)]) hx hb dX11_bitsOf_18 hl (k := 1) rfl (by rw [show Int32.ofInt 1 = nI 1 from by decide]; exact nI_add _ _) (by decide) rfl (fun ls hl => ?_)
        refine lv_goto (tgt := 4) hx hb dX11_bitsOf_21 rfl ?_
        exact ih4_3 (j1 + 1) (by omega) (by omega) (y2 + v9) _ _ hP hS ls (lv_sub hl [0, 1, 2] rfl)
  exact loop4_3 (10 + 1) 0 (by omega) (by omega) 0 _ _ hP hS ls (lv_sub hl [0, 1, 2] rfl)

set_option maxHeartbeats 1000000 in
set_option maxRecDepth 100000 in
theorem c_X11_quiet (l : Launch) (dC : Nat → ClassId) (dI : Nat → Nat → Nat) (G : Nat → ClassId) (sz : Nat) (h0 st N B rp tp T cu lt od th be ln S ma M ah bh ik la lg ce : Nat) (mm what vrs vrb vhs vca vxs vxb vfa vbr vba vsp vhe vtk vva vto : Int32) (fst : Nat → Int32) (fod : Nat → Int64) (fth : Nat → Int64) (hN : N ≤ 10) (hB : B ≤ 6) (hT : T ≤ 320) (hS0 : S ≤ 8) (hM : M ≤ 6) (hst : OKS fst) : Met l yX11_quiet (Cond.code yX11_quiet cX11_quiet 7 (some .long) :: GT) ({ frames := 4, cells := 0, slots := 0, locals := 99 } : Room) (PcW [.ref h0, .int mm, .int what] dC dI G [(h0, .inr (11, [.ref st, .int (nI N), .int (nI B), .ref rp, .int vrs, .int vrb, .int vhs, .int vca, .int vxs, .int vxb, .ref tp, .int (nI T), .int vfa, .int vbr, .int vba, .int vsp, .int vhe, .int vtk, .int vva, .ref cu, .ref lt, .ref od, .ref th, .ref be, .ref ln, .int (nI S), .ref ma, .int (nI M), .ref ah, .ref bh, .ref ik, .ref la, .ref lg, .ref ce, .int vto])), (st, .inl (G 0, 196, .inl fst)), (od, .inl (G 1, 10, .inr (.inl fod))), (th, .inl (G 1, 10, .inr (.inl fth)))] sz) (va_Ql (fun (r : Int64) (u : (Nat → Int64) × (Nat → Int64)) => match u with | (ood, oth) => (True) ∧ True) (fun (u : (Nat → Int64) × (Nat → Int64)) (t : State) => match u with | (ood, oth) => va_P (dC, dI) vwCl [(h0, .inr (11, [.ref st, .int (nI N), .int (nI B), .ref rp, .int vrs, .int vrb, .int vhs, .int vca, .int vxs, .int vxb, .ref tp, .int (nI T), .int vfa, .int vbr, .int vba, .int vsp, .int vhe, .int vtk, .int vva, .ref cu, .ref lt, .ref od, .ref th, .ref be, .ref ln, .int (nI S), .ref ma, .int (nI M), .ref ah, .ref bh, .ref ik, .ref la, .ref lg, .ref ce, .int vto])), (st, .inl (G 0, 196, .inl fst)), (od, .inl (G 1, 10, .inr (.inl ood))), (th, .inl (G 1, 10, .inr (.inl oth)))] t.heap ∧ va_D (va_A [(h0, .inr (11, [.ref st, .int (nI N), .int (nI B), .ref rp, .int vrs, .int vrb, .int vhs, .int vca, .int vxs, .int vxb, .ref tp, .int (nI T), .int vfa, .int vbr, .int vba, .int vsp, .int vhe, .int vtk, .int vva, .ref cu, .ref lt, .ref od, .ref th, .ref be, .ref ln, .int (nI S), .ref ma, .int (nI M), .ref ah, .ref bh, .ref ik, .ref la, .ref lg, .ref ce, .int vto])), (st, .inl (G 0, 196, .inl fst)), (od, .inl (G 1, 10, .inr (.inl fod))), (th, .inl (G 1, 10, .inr (.inl fth)))] sz) [(h0, .inr (11, [.ref st, .int (nI N), .int (nI B), .ref rp, .int vrs, .int vrb, .int vhs, .int vca, .int vxs, .int vxb, .ref tp, .int (nI T), .int vfa, .int vbr, .int vba, .int vsp, .int vhe, .int vtk, .int vva, .ref cu, .ref lt, .ref od, .ref th, .ref be, .ref ln, .int (nI S), .ref ma, .int (nI M), .ref ah, .ref bh, .ref ik, .ref la, .ref lg, .ref ce, .int vto])), (st, .inl (G 0, 196, .inl fst)), (od, .inl (G 1, 10, .inr (.inl ood))), (th, .inl (G 1, 10, .inr (.inl oth)))]) (va_A [(h0, .inr (11, [.ref st, .int (nI N), .int (nI B), .ref rp, .int vrs, .int vrb, .int vhs, .int vca, .int vxs, .int vxb, .ref tp, .int (nI T), .int vfa, .int vbr, .int vba, .int vsp, .int vhe, .int vtk, .int vva, .ref cu, .ref lt, .ref od, .ref th, .ref be, .ref ln, .int (nI S), .ref ma, .int (nI M), .ref ah, .ref bh, .ref ik, .ref la, .ref lg, .ref ce, .int vto])), (st, .inl (G 0, 196, .inl fst)), (od, .inl (G 1, 10, .inr (.inl fod))), (th, .inl (G 1, 10, .inr (.inl fth)))] sz)) 0 0 (va_A [(h0, .inr (11, [.ref st, .int (nI N), .int (nI B), .ref rp, .int vrs, .int vrb, .int vhs, .int vca, .int vxs, .int vxb, .ref tp, .int (nI T), .int vfa, .int vbr, .int vba, .int vsp, .int vhe, .int vtk, .int vva, .ref cu, .ref lt, .ref od, .ref th, .ref be, .ref ln, .int (nI S), .ref ma, .int (nI M), .ref ah, .ref bh, .ref ik, .ref la, .ref lg, .ref ce, .int vto])), (st, .inl (G 0, 196, .inl fst)), (od, .inl (G 1, 10, .inr (.inl fod))), (th, .inl (G 1, 10, .inr (.inl fth)))] sz) := by
  have hB_ := hB
  have hM_ := hM
  have hT_ := hT
  have tn761_ : nIT N := fun _ => nI_toInt (by omega)
  have tn762_ : nIT B := fun _ => nI_toInt (by omega)
  have tn763_ : nIT T := fun _ => nI_toInt (by omega)
  have tn764_ : nIT S := fun _ => nI_toInt (by omega)
  have tn765_ : nIT M := fun _ => nI_toInt (by omega)
  refine Met.ofW (cc := cX11_quiet) (maxL := 7) (ret := (some .long)) (by decide) rfl ?_
  intro p e s m args below meth c s₁ Bd hml hv
  obtain ⟨rfl, hsz, hP, hK, hD0⟩ := hv
  have hx := Bd.exec
  have hb := Bd.bytes
  have hr := Bd.returns
  have hg : ∀ w ∈ GT, w.before ([.ref h0, .int mm, .int what] : List Value).toArray s = true := fun w h => atoms_spec (ws := Cond.code yX11_quiet cX11_quiet 7 (some .long) :: GT) Bd.pre w (List.mem_cons_of_mem _ h)
  have hown : s.vm.findClass RX11 = some m.cls := findClass_of_methodNamed Bd.named
  have hlocks := Bd.notSynchronized
  subst hsz
  have hD := hD0.self (sz := s.heap.size)
  generalize hAe : va_A [(h0, .inr (11, [.ref st, .int (nI N), .int (nI B), .ref rp, .int vrs, .int vrb, .int vhs, .int vca, .int vxs, .int vxb, .ref tp, .int (nI T), .int vfa, .int vbr, .int vba, .int vsp, .int vhe, .int vtk, .int vva, .ref cu, .ref lt, .ref od, .ref th, .ref be, .ref ln, .int (nI S), .ref ma, .int (nI M), .ref ah, .ref bh, .ref ik, .ref la, .ref lg, .ref ce, .int vto])), (st, .inl (G 0, 196, .inl fst)), (od, .inl (G 1, 10, .inr (.inl fod))), (th, .inl (G 1, 10, .inr (.inl fth)))] s.heap.size = A at hD ⊢
  have hA : ∀ q : Nat, s.heap.size ≤ q → A q := fun q h => by rw [← hAe]; exact Or.inr h
  have hS : va_S A s.heap s.heap [] := va_S.rf
  have hl := lv_entry ([.ref h0, .int mm, .int what]) (n := 7) (Nat.le_of_ble_eq_true rfl)
  rw [lg_entry_eq]
  generalize (lg_sl ([.ref h0, .int mm, .int what]) ++ List.replicate (7 - (lg_sl ([.ref h0, .int mm, .int what])).length) Slot.unset).toArray = ls at hl ⊢
  have hl : lv_has ls 7 [(0, .ref h0), (1, .int mm), (2, .int what)] := hl
  refine lv_iload_n hx hb dX11_quiet_0 rfl (lv_at hl 1 rfl) ?_
  refine lv_i2l (v := mm.toInt64) hx hb dX11_quiet_1 rfl ?_
  refine lv_lconst (v := 0) hx hb dX11_quiet_2 (by decide) ?_
  refine lv_ldc2 (v := 4) hx hb hown (hg _ wt_1175) dX11_quiet_3 ?_
  have hPc := hP.sub (ws' := []) [] rfl
  refine va_calli (va_runS (As := [.long mm.toInt64, .long 0, .long 4]) (rest := []) ⟨hx, hb, hml, hown, hg⟩ (c_X11_in l dC dI G _ mm.toInt64 0 4) (kwS hg mfX11_in wt_992 ⟨Nat.le_of_ble_eq_true rfl, Nat.le_of_ble_eq_true rfl⟩) (preSR hK hPc) rfl rfl hl.1 rfl (lv_room (Nat.le_of_ble_eq_true rfl)) dX11_quiet_6 ⟨Nat.le_of_ble_eq_true rfl, Nat.le_of_ble_eq_true rfl⟩) hS (fun q h1 h2 => absurd h2 (Nat.not_le.mpr h1)) (fun q h => hA q (Nat.le_trans hS.1 h)) (fun r1 ur1 t H1 locs ht hvm w2 hB hz1 hk1 hS => ?_)
  have hP := keepR hP hk1
  obtain ⟨w2, w2x⟩ := w2
  try simp only [l_ii, show (0 : Int64).toInt = 0 from by decide, show (4 : Int64).toInt = 4 from by decide] at w2
  subst w2
  have cut24_3 : ∀ (H : Heap) (locs : List Loc), va_P (dC, dI) vwCl [(h0, .inr (11, [.ref st, .int (nI N), .int (nI B), .ref rp, .int vrs, .int vrb, .int vhs, .int vca, .int vxs, .int vxb, .ref tp, .int (nI T), .int vfa, .int vbr, .int vba, .int vsp, .int vhe, .int vtk, .int vva, .ref cu, .ref lt, .ref od, .ref th, .ref be, .ref ln, .int (nI S), .ref ma, .int (nI M), .ref ah, .ref bh, .ref ik, .ref la, .ref lg, .ref ce, .int vto])), (st, .inl (G 0, 196, .inl fst)), (od, .inl (G 1, 10, .inr (.inl fod))), (th, .inl (G 1, 10, .inr (.inl fth)))] H → va_D A [(h0, .inr (11, [.ref st, .int (nI N), .int (nI B), .ref rp, .int vrs, .int vrb, .int vhs, .int vca, .int vxs, .int vxb, .ref tp, .int (nI T), .int vfa, .int vbr, .int vba, .int vsp, .int vhe, .int vtk, .int vva, .ref cu, .ref lt, .ref od, .ref th, .ref be, .ref ln, .int (nI S), .ref ma, .int (nI M), .ref ah, .ref bh, .ref ik, .ref la, .ref lg, .ref ce, .int vto])), (st, .inl (G 0, 196, .inl fst)), (od, .inl (G 1, 10, .inr (.inl fod))), (th, .inl (G 1, 10, .inr (.inl fth)))] → va_S A s.heap H locs → ∀ (ls : Array Slot), lv_has ls 7 [(0, .ref h0), (1, .int mm), (2, .int what)] → W p l e (headSpec (Cond.code yX11_quiet cX11_quiet 7 (some .long) :: GT) ({ frames := 4, cells := 0, slots := 0, locals := 99 } : Room)).room s m ([.ref h0, .int mm, .int what] : List Value).toArray below meth c H locs 0 0 (MQ below (va_Ql (fun (r : Int64) (u : (Nat → Int64) × (Nat → Int64)) => match u with | (ood, oth) => (True) ∧ True) (fun (u : (Nat → Int64) × (Nat → Int64)) (t : State) => match u with | (ood, oth) => va_P (dC, dI) vwCl [(h0, .inr (11, [.ref st, .int (nI N), .int (nI B), .ref rp, .int vrs, .int vrb, .int vhs, .int vca, .int vxs, .int vxb, .ref tp, .int (nI T), .int vfa, .int vbr, .int vba, .int vsp, .int vhe, .int vtk, .int vva, .ref cu, .ref lt, .ref od, .ref th, .ref be, .ref ln, .int (nI S), .ref ma, .int (nI M), .ref ah, .ref bh, .ref ik, .ref la, .ref lg, .ref ce, .int vto])), (st, .inl (G 0, 196, .inl fst)), (od, .inl (G 1, 10, .inr (.inl ood))), (th, .inl (G 1, 10, .inr (.inl oth)))] t.heap ∧ va_D A [(h0, .inr (11, [.ref st, .int (nI N), .int (nI B), .ref rp, .int vrs, .int vrb, .int vhs, .int vca, .int vxs, .int vxb, .ref tp, .int (nI T), .int vfa, .int vbr, .int vba, .int vsp, .int vhe, .int vtk, .int vva, .ref cu, .ref lt, .ref od, .ref th, .ref be, .ref ln, .int (nI S), .ref ma, .int (nI M), .ref ah, .ref bh, .ref ik, .ref la, .ref lg, .ref ce, .int vto])), (st, .inl (G 0, 196, .inl fst)), (od, .inl (G 1, 10, .inr (.inl ood))), (th, .inl (G 1, 10, .inr (.inl oth)))]) A) ([.ref h0, .int mm, .int what] : List Value).toArray s 0 0 A) (F0 m 24 ls []) := by
    intro  H locs hP hD hS ls hl
    refine lv_ldc2 (v := (-1)) hx hb hown (hg _ wt_1118) dX11_quiet_24 ?_
    have hpost : True := by
      trivial
    obtain ⟨hP9, hD9⟩ := va_sub2 (ws' := [(h0, .inr (11, [.ref st, .int (nI N), .int (nI B), .ref rp, .int vrs, .int vrb, .int vhs, .int vca, .int vxs, .int vxb, .ref tp, .int (nI T), .int vfa, .int vbr, .int vba, .int vsp, .int vhe, .int vtk, .int vva, .ref cu, .ref lt, .ref od, .ref th, .ref be, .ref ln, .int (nI S), .ref ma, .int (nI M), .ref ah, .ref bh, .ref ik, .ref la, .ref lg, .ref ce, .int vto])), (st, .inl (G 0, 196, .inl fst)), (od, .inl (G 1, 10, .inr (.inl fod))), (th, .inl (G 1, 10, .inr (.inl fth)))]) hP hD [0, 1, 2, 3] (by decide) rfl
    refine W.widen (k := 0) (n := 0) (Nat.le_of_ble_eq_true rfl) (Nat.le_of_ble_eq_true rfl) ?_
    exact W.lret (v := (-1)) hx hb hr (fun t ht hW => ⟨⟨(-1), (fod, fth), rfl, ⟨hpost, trivial⟩, ⟨by rw [ht]; exact hP9, hD9⟩⟩, hS.F ht⟩) hS.2.2 dX11_quiet_27
  refine lv_if_eq (tgt := 24) hx hb dX11_quiet_9 rfl (fun c4 => ?_) (fun c4 => ?_)
  · skip
    have b5 := if10_n c4
    exact cut24_3  _ _ hP hD hS ls (lv_sub hl [0, 1, 2] rfl)
  · skip
    have b6 := if10_p c4
    refine lv_iload_n hx hb dX11_quiet_12 rfl (lv_at hl 2 rfl) ?_
    refine lv_i2l (v := what.toInt64) hx hb dX11_quiet_13 rfl ?_
    refine lv_lconst (v := 0) hx hb dX11_quiet_14 (by decide) ?_
    refine lv_ldc2 (v := 2) hx hb hown (hg _ wt_1056) dX11_quiet_15 ?_
    have hPc := hP.sub (ws' := []) [] rfl
    refine va_calli (va_runS (As := [.long what.toInt64, .long 0, .long 2]) (rest := []) ⟨hx, hb, hml, hown, hg⟩ (c_X11_in l dC dI G _ what.toInt64 0 2) (kwS hg mfX11_in wt_992 ⟨Nat.le_of_ble_eq_true rfl, Nat.le_of_ble_eq_true rfl⟩) (preSR hK hPc) rfl rfl hl.1 rfl (lv_room (Nat.le_of_ble_eq_true rfl)) dX11_quiet_18 ⟨Nat.le_of_ble_eq_true rfl, Nat.le_of_ble_eq_true rfl⟩) hS (fun q h1 h2 => absurd h2 (Nat.not_le.mpr h1)) (fun q h => hA q (Nat.le_trans hS.1 h)) (fun r7 ur7 t H1 locs ht hvm w8 hB hz1 hk1 hS => ?_)
    have hP := keepR hP hk1
    obtain ⟨w8, w8x⟩ := w8
    try simp only [l_ii, show (0 : Int64).toInt = 0 from by decide, show (2 : Int64).toInt = 2 from by decide] at w8
    subst w8
    refine lv_if_ne (tgt := 28) hx hb dX11_quiet_21 rfl (fun c9 => ?_) (fun c9 => ?_)
    · skip
      have b10 := if10_p c9
      refine lv_ldc2 (v := 4000000000000000000) hx hb hown (hg _ wt_1154) dX11_quiet_28 ?_
      refine lv_lstore_n (lv' := [(3, .long 4000000000000000000), (0, .ref h0), (1, .int mm), (2, .int what)]) hx hb dX11_quiet_31 rfl hl (by decide) rfl (fun ls hl => ?_)
      refine lv_iconst (v := 0) hx hb dX11_quiet_32 rfl ?_
      refine lv_istore (lv' := [(5, .int 0), (3, .long 4000000000000000000), (0, .ref h0), (1, .int mm), (2, .int what)]) hx hb dX11_quiet_33 hl (by decide) rfl (fun ls hl => ?_)
      refine lv_iconst (v := 0) hx hb dX11_quiet_35 rfl ?_
      refine lv_istore (lv' := [(6, .int 0), (5, .int 0), (3, .long 4000000000000000000), (0, .ref h0), (1, .int mm), (2, .int what)]) hx hb dX11_quiet_36 hl (by decide) rfl (fun ls hl => ?_)
      have loop38_16 : ∀ (nf j11 : Nat), 1024 + 1 ≤ j11 + nf → j11 ≤ 1024 → ∀ (y12 : Int32) (y13 : Int64) (g14 : Nat → Int64) (g15 : Nat → Int64) (H : Heap) (locs : List Loc), va_P (dC, dI) vwCl [(h0, .inr (11, [.ref st, .int (nI N), .int (nI B), .ref rp, .int vrs, .int vrb, .int vhs, .int vca, .int vxs, .int vxb, .ref tp, .int (nI T), .int vfa, .int vbr, .int vba, .int vsp, .int vhe, .int vtk, .int vva, .ref cu, .ref lt, .ref od, .ref th, .ref be, .ref ln, .int (nI S), .ref ma, .int (nI M), .ref ah, .ref bh, .ref ik, .ref la, .ref lg, .ref ce, .int vto])), (st, .inl (G 0, 196, .inl fst)), (od, .inl (G 1, 10, .inr (.inl g14))), (th, .inl (G 1, 10, .inr (.inl g15)))] H → va_D A [(h0, .inr (11, [.ref st, .int (nI N), .int (nI B), .ref rp, .int vrs, .int vrb, .int vhs, .int vca, .int vxs, .int vxb, .ref tp, .int (nI T), .int vfa, .int vbr, .int vba, .int vsp, .int vhe, .int vtk, .int vva, .ref cu, .ref lt, .ref od, .ref th, .ref be, .ref ln, .int (nI S), .ref ma, .int (nI M), .ref ah, .ref bh, .ref ik, .ref la, .ref lg, .ref ce, .int vto])), (st, .inl (G 0, 196, .inl fst)), (od, .inl (G 1, 10, .inr (.inl g14))), (th, .inl (G 1, 10, .inr (.inl g15)))] → va_S A s.heap H locs → ∀ (ls : Array Slot), lv_has ls 7 [(6, .int (nI j11)), (5, .int y12), (3, .long y13), (0, .ref h0), (1, .int mm), (2, .int what)] → W p l e (headSpec (Cond.code yX11_quiet cX11_quiet 7 (some .long) :: GT) ({ frames := 4, cells := 0, slots := 0, locals := 99 } : Room)).room s m ([.ref h0, .int mm, .int what] : List Value).toArray below meth c H locs 0 0 (MQ below (va_Ql (fun (r : Int64) (u : (Nat → Int64) × (Nat → Int64)) => match u with | (ood, oth) => (True) ∧ True) (fun (u : (Nat → Int64) × (Nat → Int64)) (t : State) => match u with | (ood, oth) => va_P (dC, dI) vwCl [(h0, .inr (11, [.ref st, .int (nI N), .int (nI B), .ref rp, .int vrs, .int vrb, .int vhs, .int vca, .int vxs, .int vxb, .ref tp, .int (nI T), .int vfa, .int vbr, .int vba, .int vsp, .int vhe, .int vtk, .int vva, .ref cu, .ref lt, .ref od, .ref th, .ref be, .ref ln, .int (nI S), .ref ma, .int (nI M), .ref ah, .ref bh, .ref ik, .ref la, .ref lg, .ref ce, .int vto])), (st, .inl (G 0, 196, .inl fst)), (od, .inl (G 1, 10, .inr (.inl ood))), (th, .inl (G 1, 10, .inr (.inl oth)))] t.heap ∧ va_D A [(h0, .inr (11, [.ref st, .int (nI N), .int (nI B), .ref rp, .int vrs, .int vrb, .int vhs, .int vca, .int vxs, .int vxb, .ref tp, .int (nI T), .int vfa, .int vbr, .int vba, .int vsp, .int vhe, .int vtk, .int vva, .ref cu, .ref lt, .ref od, .ref th, .ref be, .ref ln, .int (nI S), .ref ma, .int (nI M), .ref ah, .ref bh, .ref ik, .ref la, .ref lg, .ref ce, .int vto])), (st, .inl (G 0, 196, .inl fst)), (od, .inl (G 1, 10, .inr (.inl ood))), (th, .inl (G 1, 10, .inr (.inl oth)))]) A) ([.ref h0, .int mm, .int what] : List Value).toArray s 0 0 A) (F0 m 38 ls []) := by
        intro nf
        induction nf with
        | zero => intro j11 h1 h2; exact absurd h1 (by omega)
        | succ nf ih38_16 =>
          intro j11 hn17 hj18 y12 y13 g14 g15 H locs hP hD hS ls hl
          refine lv_iload hx hb dX11_quiet_38 (lv_at hl 0 rfl) ?_
          refine lv_iconst (v := 1) hx hb dX11_quiet_40 rfl ?_
          refine lv_aload_n hx hb dX11_quiet_41 rfl (lv_at hl 3 rfl) ?_
          refine va_get (D := (dC, dI)) (ci := 11) (v := .int (nI N)) (C := RX11) (T := TX11) (N := 35) hx hb hg inG11 hown hK.1 hP 0 rfl rfl 1 (Nat.le_of_ble_eq_true rfl) (hg _ wt_879) (fun _ h9 => h9) rfl dX11_quiet_42 ?_
          refine lv_ishl hx hb dX11_quiet_45 ?_
          obtain ⟨k19, hk19, ek19⟩ := shl_le (N := N) (by omega)
          refine lv_cg (y := nI k19) (by exact ek19) ?_
          refine lv_icmp_ge (tgt := 122) hx hb dX11_quiet_46 rfl (fun c20 => ?_) (fun c20 => ?_)
          · skip
            have tn766_ : nIT j11 := fun _ => nI_toInt (by first | omega | (have t := leI c20; omega))
            have tn767_ : nIT k19 := fun _ => nI_toInt (by omega)
            have n21 : k19 ≤ j11 := by have t := leI c20; rw [show (nI (j11)).toInt = ((j11 : Nat) : Int) from tn766_ ()] at t; rw [show (nI (k19)).toInt = ((k19 : Nat) : Int) from tn767_ ()] at t; omega
            refine lv_iload_n hx hb dX11_quiet_122 rfl (lv_at hl 5 rfl) ?_
            refine lv_iconst (v := 2) hx hb dX11_quiet_123 rfl ?_
            have cut145_23 : ∀ (y22 : Int64) (H : Heap) (locs : List Loc), va_P (dC, dI) vwCl [(h0, .inr (11, [.ref st, .int (nI N), .int (nI B), .ref rp, .int vrs, .int vrb, .int vhs, .int vca, .int vxs, .int vxb, .ref tp, .int (nI T), .int vfa, .int vbr, .int vba, .int vsp, .int vhe, .int vtk, .int vva, .ref cu, .ref lt, .ref od, .ref th, .ref be, .ref ln, .int (nI S), .ref ma, .int (nI M), .ref ah, .ref bh, .ref ik, .ref la, .ref lg, .ref ce, .int vto])), (st, .inl (G 0, 196, .inl fst)), (od, .inl (G 1, 10, .inr (.inl g14))), (th, .inl (G 1, 10, .inr (.inl g15)))] H → va_D A [(h0, .inr (11, [.ref st, .int (nI N), .int (nI B), .ref rp, .int vrs, .int vrb, .int vhs, .int vca, .int vxs, .int vxb, .ref tp, .int (nI T), .int vfa, .int vbr, .int vba, .int vsp, .int vhe, .int vtk, .int vva, .ref cu, .ref lt, .ref od, .ref th, .ref be, .ref ln, .int (nI S), .ref ma, .int (nI M), .ref ah, .ref bh, .ref ik, .ref la, .ref lg, .ref ce, .int vto])), (st, .inl (G 0, 196, .inl fst)), (od, .inl (G 1, 10, .inr (.inl g14))), (th, .inl (G 1, 10, .inr (.inl g15)))] → va_S A s.heap H locs → ∀ (ls : Array Slot), lv_has ls 7 [(6, .int (nI j11)), (5, .int y12), (3, .long y13), (0, .ref h0), (1, .int mm), (2, .int what)] → W p l e (headSpec (Cond.code yX11_quiet cX11_quiet 7 (some .long) :: GT) ({ frames := 4, cells := 0, slots := 0, locals := 99 } : Room)).room s m ([.ref h0, .int mm, .int what] : List Value).toArray below meth c H locs 0 0 (MQ below (va_Ql (fun (r : Int64) (u : (Nat → Int64) × (Nat → Int64)) => match u with | (ood, oth) => (True) ∧ True) (fun (u : (Nat → Int64) × (Nat → Int64)) (t : State) => match u with | (ood, oth) => va_P (dC, dI) vwCl [(h0, .inr (11, [.ref st, .int (nI N), .int (nI B), .ref rp, .int vrs, .int vrb, .int vhs, .int vca, .int vxs, .int vxb, .ref tp, .int (nI T), .int vfa, .int vbr, .int vba, .int vsp, .int vhe, .int vtk, .int vva, .ref cu, .ref lt, .ref od, .ref th, .ref be, .ref ln, .int (nI S), .ref ma, .int (nI M), .ref ah, .ref bh, .ref ik, .ref la, .ref lg, .ref ce, .int vto])), (st, .inl (G 0, 196, .inl fst)), (od, .inl (G 1, 10, .inr (.inl ood))), (th, .inl (G 1, 10, .inr (.inl oth)))] t.heap ∧ va_D A [(h0, .inr (11, [.ref st, .int (nI N), .int (nI B), .ref rp, .int vrs, .int vrb, .int vhs, .int vca, .int vxs, .int vxb, .ref tp, .int (nI T), .int vfa, .int vbr, .int vba, .int vsp, .int vhe, .int vtk, .int vva, .ref cu, .ref lt, .ref od, .ref th, .ref be, .ref ln, .int (nI S), .ref ma, .int (nI M), .ref ah, .ref bh, .ref ik, .ref la, .ref lg, .ref ce, .int vto])), (st, .inl (G 0, 196, .inl fst)), (od, .inl (G 1, 10, .inr (.inl ood))), (th, .inl (G 1, 10, .inr (.inl oth)))]) A) ([.ref h0, .int mm, .int what] : List Value).toArray s 0 0 A) (F0 m 145 ls [.long y22]) := by
              intro y22 H locs hP hD hS ls hl
              have hpost : True := by
                trivial
              obtain ⟨hP9, hD9⟩ := va_sub2 (ws' := [(h0, .inr (11, [.ref st, .int (nI N), .int (nI B), .ref rp, .int vrs, .int vrb, .int vhs, .int vca, .int vxs, .int vxb, .ref tp, .int (nI T), .int vfa, .int vbr, .int vba, .int vsp, .int vhe, .int vtk, .int vva, .ref cu, .ref lt, .ref od, .ref th, .ref be, .ref ln, .int (nI S), .ref ma, .int (nI M), .ref ah, .ref bh, .ref ik, .ref la, .ref lg, .ref ce, .int vto])), (st, .inl (G 0, 196, .inl fst)), (od, .inl (G 1, 10, .inr (.inl g14))), (th, .inl (G 1, 10, .inr (.inl g15)))]) hP hD [0, 1, 2, 3] (by decide) rfl
              refine W.widen (k := 0) (n := 0) (Nat.le_of_ble_eq_true rfl) (Nat.le_of_ble_eq_true rfl) ?_
              exact W.lret (v := y22) hx hb hr (fun t ht hW => ⟨⟨y22, (g14, g15), rfl, ⟨hpost, trivial⟩, ⟨by rw [ht]; exact hP9, hD9⟩⟩, hS.F ht⟩) hS.2.2 dX11_quiet_145
            refine lv_icmp_ne (tgt := 133) hx hb dX11_quiet_124 rfl (fun c24 => ?_) (fun c24 => ?_)
            · skip
              refine lv_lload_n hx hb dX11_quiet_133 rfl (lv_at hl 2 rfl) ?_
              refine lv_aload_n hx hb dX11_quiet_134 rfl (lv_at hl 3 rfl) ?_
              refine va_get (D := (dC, dI)) (ci := 11) (v := .int (nI N)) (C := RX11) (T := TX11) (N := 35) hx hb hg inG11 hown hK.1 hP 0 rfl rfl 1 (Nat.le_of_ble_eq_true rfl) (hg _ wt_879) (fun _ h9 => h9) rfl dX11_quiet_135 ?_
              have hPc := hP.sub (ws' := []) [] rfl
              refine va_calll (va_runS (As := [.int (nI N)]) (rest := [.long y13]) ⟨hx, hb, hml, hown, hg⟩ (c_X11_power l dC dI G _ N hN) (kwS hg mfX11_power wt_1131 ⟨Nat.le_of_ble_eq_true rfl, Nat.le_of_ble_eq_true rfl⟩) (preSR hK hPc) rfl rfl hl.1 rfl (lv_room (Nat.le_of_ble_eq_true rfl)) dX11_quiet_138 ⟨Nat.le_of_ble_eq_true rfl, Nat.le_of_ble_eq_true rfl⟩) hS (fun q h1 h2 => absurd h2 (Nat.not_le.mpr h1)) (fun q h => hA q (Nat.le_trans hS.1 h)) (fun r25 ur25 t H1 locs ht hvm w26 hB hz1 hk1 hS => ?_)
              have hP := keepR hP hk1
              obtain ⟨w26, w26x⟩ := w26
              subst w26
              refine lv_iload_n hx hb dX11_quiet_141 rfl (lv_at hl 5 rfl) ?_
              have hPc := hP.sub (ws' := []) [] rfl
              refine va_calll (va_runS (As := [.long y13, .long (powF N), .int what]) (rest := []) ⟨hx, hb, hml, hown, hg⟩ (c_X11_lowest l dC dI G _ what y13 (powF N) (powF_ne (by have t_b6 := b6; have t_b10 := b10; have t_hj18 := hj18; have t_hk19 := hk19; have t_n21 := n21; have t_c24 := neI c24; have : (2 : Int32).toInt = 2 := qI_2; have t_n0 : (nI N).toInt = (N : Int) := tn761_ (); have t_n1 : (nI B).toInt = (B : Int) := tn762_ (); have t_n2 : (nI T).toInt = (T : Int) := tn763_ (); have t_n3 : (nI S).toInt = (S : Int) := tn764_ (); have t_n4 : (nI M).toInt = (M : Int) := tn765_ (); have t_n5 : (nI j11).toInt = (j11 : Int) := tn766_ (); have t_n6 : (nI k19).toInt = (k19 : Int) := tn767_ (); omega))) (kwS hg mfX11_lowest wt_1134 ⟨Nat.le_of_ble_eq_true rfl, Nat.le_of_ble_eq_true rfl⟩) (preSR hK hPc) rfl rfl hl.1 rfl (lv_room (Nat.le_of_ble_eq_true rfl)) dX11_quiet_142 ⟨Nat.le_of_ble_eq_true rfl, Nat.le_of_ble_eq_true rfl⟩) hS (fun q h1 h2 => absurd h2 (Nat.not_le.mpr h1)) (fun q h => hA q (Nat.le_trans hS.1 h)) (fun r27 ur27 t H1 locs ht hvm w28 hB hz1 hk1 hS => ?_)
              have hP := keepR hP hk1
              obtain ⟨w28, w28x⟩ := w28
              exact cut145_23 r27 _ _ hP hD hS ls (lv_sub hl [0, 1, 2, 3, 4, 5] rfl)
            · skip
              refine lv_iload hx hb dX11_quiet_127 (lv_at hl 1 rfl) ?_
              refine lv_i2l (v := y12.toInt64) hx hb dX11_quiet_129 rfl ?_
              refine lv_goto (tgt := 145) hx hb dX11_quiet_130 rfl ?_
              exact cut145_23 y12.toInt64 _ _ hP hD hS ls (lv_sub hl [0, 1, 2, 3, 4, 5] rfl)
          · skip
            have tn768_ : nIT j11 := fun _ => nI_toInt (by first | omega | (have t := nleI c20; omega))
            have tn769_ : nIT k19 := fun _ => nI_toInt (by omega)
            have n29 : j11 < k19 := by have t := nleI c20; rw [show (nI (j11)).toInt = ((j11 : Nat) : Int) from tn768_ ()] at t; rw [show (nI (k19)).toInt = ((k19 : Nat) : Int) from tn769_ ()] at t; omega
            refine lv_iload hx hb dX11_quiet_49 (lv_at hl 0 rfl) ?_
            have hPc := hP.sub (ws' := []) [] rfl
            refine va_calli (va_runS (As := [.int (nI j11)]) (rest := []) ⟨hx, hb, hml, hown, hg⟩ (c_X11_bitsOf l dC dI G _ (nI j11)) (kwS hg mfX11_bitsOf wt_1176 ⟨Nat.le_of_ble_eq_true rfl, Nat.le_of_ble_eq_true rfl⟩) (preSR hK hPc) rfl rfl hl.1 rfl (lv_room (Nat.le_of_ble_eq_true rfl)) dX11_quiet_51 ⟨Nat.le_of_ble_eq_true rfl, Nat.le_of_ble_eq_true rfl⟩) hS (fun q h1 h2 => absurd h2 (Nat.not_le.mpr h1)) (fun q h => hA q (Nat.le_trans hS.1 h)) (fun r30 ur30 t H1 locs ht hvm w31 hB hz1 hk1 hS => ?_)
            have hP := keepR hP hk1
            obtain ⟨w31, w31x⟩ := w31
            refine lv_iload_n hx hb dX11_quiet_54 rfl (lv_at hl 4 rfl) ?_
            have cut116_36 : ∀ (y32 : Int32) (y33 : Int64) (g34 : Nat → Int64) (g35 : Nat → Int64) (H : Heap) (locs : List Loc), va_P (dC, dI) vwCl [(h0, .inr (11, [.ref st, .int (nI N), .int (nI B), .ref rp, .int vrs, .int vrb, .int vhs, .int vca, .int vxs, .int vxb, .ref tp, .int (nI T), .int vfa, .int vbr, .int vba, .int vsp, .int vhe, .int vtk, .int vva, .ref cu, .ref lt, .ref od, .ref th, .ref be, .ref ln, .int (nI S), .ref ma, .int (nI M), .ref ah, .ref bh, .ref ik, .ref la, .ref lg, .ref ce, .int vto])), (st, .inl (G 0, 196, .inl fst)), (od, .inl (G 1, 10, .inr (.inl g34))), (th, .inl (G 1, 10, .inr (.inl g35)))] H → va_D A [(h0, .inr (11, [.ref st, .int (nI N), .int (nI B), .ref rp, .int vrs, .int vrb, .int vhs, .int vca, .int vxs, .int vxb, .ref tp, .int (nI T), .int vfa, .int vbr, .int vba, .int vsp, .int vhe, .int vtk, .int vva, .ref cu, .ref lt, .ref od, .ref th, .ref be, .ref ln, .int (nI S), .ref ma, .int (nI M), .ref ah, .ref bh, .ref ik, .ref la, .ref lg, .ref ce, .int vto])), (st, .inl (G 0, 196, .inl fst)), (od, .inl (G 1, 10, .inr (.inl g34))), (th, .inl (G 1, 10, .inr (.inl g35)))] → va_S A s.heap H locs → ∀ (ls : Array Slot), lv_has ls 7 [(6, .int (nI j11)), (5, .int y32), (3, .long y33), (0, .ref h0), (1, .int mm), (2, .int what)] → W p l e (headSpec (Cond.code yX11_quiet cX11_quiet 7 (some .long) :: GT) ({ frames := 4, cells := 0, slots := 0, locals := 99 } : Room)).room s m ([.ref h0, .int mm, .int what] : List Value).toArray below meth c H locs 0 0 (MQ below (va_Ql (fun (r : Int64) (u : (Nat → Int64) × (Nat → Int64)) => match u with | (ood, oth) => (True) ∧ True) (fun (u : (Nat → Int64) × (Nat → Int64)) (t : State) => match u with | (ood, oth) => va_P (dC, dI) vwCl [(h0, .inr (11, [.ref st, .int (nI N), .int (nI B), .ref rp, .int vrs, .int vrb, .int vhs, .int vca, .int vxs, .int vxb, .ref tp, .int (nI T), .int vfa, .int vbr, .int vba, .int vsp, .int vhe, .int vtk, .int vva, .ref cu, .ref lt, .ref od, .ref th, .ref be, .ref ln, .int (nI S), .ref ma, .int (nI M), .ref ah, .ref bh, .ref ik, .ref la, .ref lg, .ref ce, .int vto])), (st, .inl (G 0, 196, .inl fst)), (od, .inl (G 1, 10, .inr (.inl ood))), (th, .inl (G 1, 10, .inr (.inl oth)))] t.heap ∧ va_D A [(h0, .inr (11, [.ref st, .int (nI N), .int (nI B), .ref rp, .int vrs, .int vrb, .int vhs, .int vca, .int vxs, .int vxb, .ref tp, .int (nI T), .int vfa, .int vbr, .int vba, .int vsp, .int vhe, .int vtk, .int vva, .ref cu, .ref lt, .ref od, .ref th, .ref be, .ref ln, .int (nI S), .ref ma, .int (nI M), .ref ah, .ref bh, .ref ik, .ref la, .ref lg, .ref ce, .int vto])), (st, .inl (G 0, 196, .inl fst)), (od, .inl (G 1, 10, .inr (.inl ood))), (th, .inl (G 1, 10, .inr (.inl oth)))]) A) ([.ref h0, .int mm, .int what] : List Value).toArray s 0 0 A) (F0 m 116 ls []) := by
              intro y32 y33 g34 g35 H locs hP hD hS ls hl
              refine lv_iinc (v := nI (j11 + 1)) (lv' := [(6, .int (nI (j11 + 1))), (5, .int y32), (3, .long y33), (0, .ref h0), (1, .int mm), (2, .int what)]) hx hb dX11_quiet_116 hl (k := 0) rfl (by rw [show Int32.ofInt 1 = nI 1 from by decide]; exact nI_add _ _) (by decide) rfl (fun ls hl => ?_)
              refine lv_goto (tgt := 38) hx hb dX11_quiet_119 rfl ?_
              exact ih38_16 (j11 + 1) (by omega) (by omega) y32 y33 g34 g35 _ _ hP hD hS ls (lv_sub hl [0, 1, 2, 3, 4, 5] rfl)
            refine lv_icmp_gt (tgt := 116) hx hb dX11_quiet_55 rfl (fun c37 => ?_) (fun c37 => ?_)
            · skip
              exact cut116_36 y12 y13 g14 g15 _ _ hP hD hS ls (lv_sub hl [0, 1, 2, 3, 4, 5] rfl)
            · skip
              refine lv_aload_n hx hb dX11_quiet_58 rfl (lv_at hl 3 rfl) ?_
              refine lv_aload_n hx hb dX11_quiet_59 rfl (lv_at hl 3 rfl) ?_
              refine va_get (D := (dC, dI)) (ci := 11) (v := .int (nI N)) (C := RX11) (T := TX11) (N := 35) hx hb hg inG11 hown hK.1 hP 0 rfl rfl 1 (Nat.le_of_ble_eq_true rfl) (hg _ wt_879) (fun _ h9 => h9) rfl dX11_quiet_60 ?_
              refine lv_iload hx hb dX11_quiet_63 (lv_at hl 0 rfl) ?_
              refine lv_bipush (v := (-4)) hx hb dX11_quiet_65 rfl ?_
              obtain ⟨hPc, hDc, hFc⟩ := va_sub3 (ws' := [(h0, .inr (11, [.ref st, .int (nI N), .int (nI B), .ref rp, .int vrs, .int vrb, .int vhs, .int vca, .int vxs, .int vxb, .ref tp, .int (nI T), .int vfa, .int vbr, .int vba, .int vsp, .int vhe, .int vtk, .int vva, .ref cu, .ref lt, .ref od, .ref th, .ref be, .ref ln, .int (nI S), .ref ma, .int (nI M), .ref ah, .ref bh, .ref ik, .ref la, .ref lg, .ref ce, .int vto])), (st, .inl (G 0, 196, .inl fst)), (od, .inl (G 1, 10, .inr (.inl g14))), (th, .inl (G 1, 10, .inr (.inl g15)))]) hP hD hS hA [0, 1, 2, 3] (by decide) rfl
              refine va_callv (va_runV (As := [.int (nI N), .int (nI j11), .int (-4)]) (rest := []) ⟨hx, hb, hml, hown, hg⟩ (c_X11_layOdds l dC dI G _ h0 N st N B rp tp T cu lt od th be ln S ma M ah bh ik la lg ce (nI j11) (-4) vrs vrb vhs vca vxs vxb vfa vbr vba vsp vhe vtk vva vto fst g14 g15 hN hB_ hT_ hS0 hM_ hst hN) (kwV hg mfX11_layOdds wt_1119 ⟨Nat.le_of_ble_eq_true rfl, Nat.le_of_ble_eq_true rfl⟩) (preVW hK hPc hDc (ci := 11) rfl rfl) rfl rfl hl.1 rfl (lv_room (Nat.le_of_ble_eq_true rfl)) dX11_quiet_67 ⟨Nat.le_of_ble_eq_true rfl, Nat.le_of_ble_eq_true rfl⟩) hS (fun q _ h => hFc q h) hFc (fun ur38 t H1 locs ht hvm w39 hB hz1 hk1 hS => ?_)
              obtain ⟨u40, u41⟩ := ur38
              obtain ⟨hP1, hD1⟩ := hB
              rw [ht] at hP1
              obtain ⟨hP, hD⟩ := va_join (wr := []) (w1 := [(h0, .inr (11, [.ref st, .int (nI N), .int (nI B), .ref rp, .int vrs, .int vrb, .int vhs, .int vca, .int vxs, .int vxb, .ref tp, .int (nI T), .int vfa, .int vbr, .int vba, .int vsp, .int vhe, .int vtk, .int vva, .ref cu, .ref lt, .ref od, .ref th, .ref be, .ref ln, .int (nI S), .ref ma, .int (nI M), .ref ah, .ref bh, .ref ik, .ref la, .ref lg, .ref ce, .int vto])), (st, .inl (G 0, 196, .inl fst)), (od, .inl (G 1, 10, .inr (.inl u40))), (th, .inl (G 1, 10, .inr (.inl u41)))]) hP hD [0, 1, 2, 3] [] rfl rfl (by decide) (by decide) hk1 hFc hP1 hD1
              generalize H1 = H at hP hS ⊢
              refine lv_aload_n hx hb dX11_quiet_70 rfl (lv_at hl 3 rfl) ?_
              refine va_get (D := (dC, dI)) (ci := 11) (v := .ref od) (C := RX11) (T := TX11) (N := 35) hx hb hg inG11 hown hK.1 hP 0 rfl rfl 21 (Nat.le_of_ble_eq_true rfl) (hg _ wt_899) (fun _ h9 => h9) rfl dX11_quiet_71 ?_
              refine lv_iconst (v := 0) hx hb dX11_quiet_74 rfl ?_
              refine va_lald hx hb hK.1 hP 2 1 rfl rfl (vp_in_iff.mpr ⟨by decide, by decide⟩) dX11_quiet_75 ?_
              refine lv_cgl (y := u40 0) (by rfl) ?_
              refine lv_lload_n hx hb dX11_quiet_76 rfl (lv_at hl 2 rfl) ?_
              refine W.lcmp hx hb dX11_quiet_77 ?_
              have cut105_42 : ∀ (H : Heap) (locs : List Loc), va_P (dC, dI) vwCl [(h0, .inr (11, [.ref st, .int (nI N), .int (nI B), .ref rp, .int vrs, .int vrb, .int vhs, .int vca, .int vxs, .int vxb, .ref tp, .int (nI T), .int vfa, .int vbr, .int vba, .int vsp, .int vhe, .int vtk, .int vva, .ref cu, .ref lt, .ref od, .ref th, .ref be, .ref ln, .int (nI S), .ref ma, .int (nI M), .ref ah, .ref bh, .ref ik, .ref la, .ref lg, .ref ce, .int vto])), (st, .inl (G 0, 196, .inl fst)), (od, .inl (G 1, 10, .inr (.inl u40))), (th, .inl (G 1, 10, .inr (.inl u41)))] H → va_D A [(h0, .inr (11, [.ref st, .int (nI N), .int (nI B), .ref rp, .int vrs, .int vrb, .int vhs, .int vca, .int vxs, .int vxb, .ref tp, .int (nI T), .int vfa, .int vbr, .int vba, .int vsp, .int vhe, .int vtk, .int vva, .ref cu, .ref lt, .ref od, .ref th, .ref be, .ref ln, .int (nI S), .ref ma, .int (nI M), .ref ah, .ref bh, .ref ik, .ref la, .ref lg, .ref ce, .int vto])), (st, .inl (G 0, 196, .inl fst)), (od, .inl (G 1, 10, .inr (.inl u40))), (th, .inl (G 1, 10, .inr (.inl u41)))] → va_S A s.heap H locs → ∀ (ls : Array Slot), lv_has ls 7 [(6, .int (nI j11)), (5, .int y12), (3, .long y13), (0, .ref h0), (1, .int mm), (2, .int what)] → W p l e (headSpec (Cond.code yX11_quiet cX11_quiet 7 (some .long) :: GT) ({ frames := 4, cells := 0, slots := 0, locals := 99 } : Room)).room s m ([.ref h0, .int mm, .int what] : List Value).toArray below meth c H locs 0 0 (MQ below (va_Ql (fun (r : Int64) (u : (Nat → Int64) × (Nat → Int64)) => match u with | (ood, oth) => (True) ∧ True) (fun (u : (Nat → Int64) × (Nat → Int64)) (t : State) => match u with | (ood, oth) => va_P (dC, dI) vwCl [(h0, .inr (11, [.ref st, .int (nI N), .int (nI B), .ref rp, .int vrs, .int vrb, .int vhs, .int vca, .int vxs, .int vxb, .ref tp, .int (nI T), .int vfa, .int vbr, .int vba, .int vsp, .int vhe, .int vtk, .int vva, .ref cu, .ref lt, .ref od, .ref th, .ref be, .ref ln, .int (nI S), .ref ma, .int (nI M), .ref ah, .ref bh, .ref ik, .ref la, .ref lg, .ref ce, .int vto])), (st, .inl (G 0, 196, .inl fst)), (od, .inl (G 1, 10, .inr (.inl ood))), (th, .inl (G 1, 10, .inr (.inl oth)))] t.heap ∧ va_D A [(h0, .inr (11, [.ref st, .int (nI N), .int (nI B), .ref rp, .int vrs, .int vrb, .int vhs, .int vca, .int vxs, .int vxb, .ref tp, .int (nI T), .int vfa, .int vbr, .int vba, .int vsp, .int vhe, .int vtk, .int vva, .ref cu, .ref lt, .ref od, .ref th, .ref be, .ref ln, .int (nI S), .ref ma, .int (nI M), .ref ah, .ref bh, .ref ik, .ref la, .ref lg, .ref ce, .int vto])), (st, .inl (G 0, 196, .inl fst)), (od, .inl (G 1, 10, .inr (.inl ood))), (th, .inl (G 1, 10, .inr (.inl oth)))]) A) ([.ref h0, .int mm, .int what] : List Value).toArray s 0 0 A) (F0 m 105 ls []) := by
                intro  H locs hP hD hS ls hl
                refine lv_aload_n hx hb dX11_quiet_105 rfl (lv_at hl 3 rfl) ?_
                refine va_get (D := (dC, dI)) (ci := 11) (v := .ref od) (C := RX11) (T := TX11) (N := 35) hx hb hg inG11 hown hK.1 hP 0 rfl rfl 21 (Nat.le_of_ble_eq_true rfl) (hg _ wt_899) (fun _ h9 => h9) rfl dX11_quiet_106 ?_
                refine lv_iconst (v := 0) hx hb dX11_quiet_109 rfl ?_
                refine va_lald hx hb hK.1 hP 2 1 rfl rfl (vp_in_iff.mpr ⟨by decide, by decide⟩) dX11_quiet_110 ?_
                refine lv_cgl (y := u40 0) (by rfl) ?_
                refine lv_lstore_n (lv' := [(3, .long (u40 0)), (6, .int (nI j11)), (5, .int y12), (0, .ref h0), (1, .int mm), (2, .int what)]) hx hb dX11_quiet_111 rfl hl (by decide) rfl (fun ls hl => ?_)
                refine lv_iload hx hb dX11_quiet_112 (lv_at hl 1 rfl) ?_
                refine lv_istore (lv' := [(5, .int (nI j11)), (3, .long (u40 0)), (6, .int (nI j11)), (0, .ref h0), (1, .int mm), (2, .int what)]) hx hb dX11_quiet_114 hl (by decide) rfl (fun ls hl => ?_)
                exact cut116_36 (nI j11) (u40 0) u40 u41 _ _ hP hD hS ls (lv_sub hl [2, 0, 1, 3, 4, 5] rfl)
              refine lv_if_lt (tgt := 105) hx hb dX11_quiet_78 rfl (fun c43 => ?_) (fun c43 => ?_)
              · skip
                exact cut105_42  _ _ hP hD hS ls (lv_sub hl [0, 1, 2, 3, 4, 5] rfl)
              · skip
                refine lv_aload_n hx hb dX11_quiet_81 rfl (lv_at hl 3 rfl) ?_
                refine va_get (D := (dC, dI)) (ci := 11) (v := .ref od) (C := RX11) (T := TX11) (N := 35) hx hb hg inG11 hown hK.1 hP 0 rfl rfl 21 (Nat.le_of_ble_eq_true rfl) (hg _ wt_899) (fun _ h9 => h9) rfl dX11_quiet_82 ?_
                refine lv_iconst (v := 0) hx hb dX11_quiet_85 rfl ?_
                refine va_lald hx hb hK.1 hP 2 1 rfl rfl (vp_in_iff.mpr ⟨by decide, by decide⟩) dX11_quiet_86 ?_
                refine lv_cgl (y := u40 0) (by rfl) ?_
                refine lv_lload_n hx hb dX11_quiet_87 rfl (lv_at hl 2 rfl) ?_
                refine W.lcmp hx hb dX11_quiet_88 ?_
                refine lv_if_ne (tgt := 116) hx hb dX11_quiet_89 rfl (fun c44 => ?_) (fun c44 => ?_)
                · skip
                  exact cut116_36 y12 y13 u40 u41 _ _ hP hD hS ls (lv_sub hl [0, 1, 2, 3, 4, 5] rfl)
                · skip
                  refine lv_iload hx hb dX11_quiet_92 (lv_at hl 0 rfl) ?_
                  have hPc := hP.sub (ws' := []) [] rfl
                  refine va_calli (va_runS (As := [.int (nI j11)]) (rest := []) ⟨hx, hb, hml, hown, hg⟩ (c_X11_bitsOf l dC dI G _ (nI j11)) (kwS hg mfX11_bitsOf wt_1176 ⟨Nat.le_of_ble_eq_true rfl, Nat.le_of_ble_eq_true rfl⟩) (preSR hK hPc) rfl rfl hl.1 rfl (lv_room (Nat.le_of_ble_eq_true rfl)) dX11_quiet_94 ⟨Nat.le_of_ble_eq_true rfl, Nat.le_of_ble_eq_true rfl⟩) hS (fun q h1 h2 => absurd h2 (Nat.not_le.mpr h1)) (fun q h => hA q (Nat.le_trans hS.1 h)) (fun r45 ur45 t H1 locs ht hvm w46 hB hz1 hk1 hS => ?_)
                  have hP := keepR hP hk1
                  obtain ⟨w46, w46x⟩ := w46
                  refine lv_iload hx hb dX11_quiet_97 (lv_at hl 1 rfl) ?_
                  have hPc := hP.sub (ws' := []) [] rfl
                  refine va_calli (va_runS (As := [.int y12]) (rest := [.int r45]) ⟨hx, hb, hml, hown, hg⟩ (c_X11_bitsOf l dC dI G _ y12) (kwS hg mfX11_bitsOf wt_1176 ⟨Nat.le_of_ble_eq_true rfl, Nat.le_of_ble_eq_true rfl⟩) (preSR hK hPc) rfl rfl hl.1 rfl (lv_room (Nat.le_of_ble_eq_true rfl)) dX11_quiet_99 ⟨Nat.le_of_ble_eq_true rfl, Nat.le_of_ble_eq_true rfl⟩) hS (fun q h1 h2 => absurd h2 (Nat.not_le.mpr h1)) (fun q h => hA q (Nat.le_trans hS.1 h)) (fun r47 ur47 t H1 locs ht hvm w48 hB hz1 hk1 hS => ?_)
                  have hP := keepR hP hk1
                  obtain ⟨w48, w48x⟩ := w48
                  refine lv_icmp_ge (tgt := 116) hx hb dX11_quiet_102 rfl (fun c49 => ?_) (fun c49 => ?_)
                  · skip
                    exact cut116_36 y12 y13 u40 u41 _ _ hP hD hS ls (lv_sub hl [0, 1, 2, 3, 4, 5] rfl)
                  · skip
                    exact cut105_42  _ _ hP hD hS ls (lv_sub hl [0, 1, 2, 3, 4, 5] rfl)
      exact loop38_16 (1024 + 1) 0 (by omega) (by omega) 0 4000000000000000000 fod fth _ _ hP hD hS ls (lv_sub hl [0, 1, 2, 3, 4, 5] rfl)
    · skip
      have b50 := if10_n c9
      exact cut24_3  _ _ hP hD hS ls (lv_sub hl [0, 1, 2] rfl)

set_option maxHeartbeats 1000000 in
set_option maxRecDepth 100000 in
theorem c_X11_drop (l : Launch) (dC : Nat → ClassId) (dI : Nat → Nat → Nat) (G : Nat → ClassId) (sz : Nat) (h0 st N B rp tp T cu lt od th be ln S ma M ah bh ik la lg ce : Nat) (what vrs vrb vhs vca vxs vxb vfa vbr vba vsp vhe vtk vva vto : Int32) (fst : Nat → Int32) (fod : Nat → Int64) (fth : Nat → Int64) (hN : N ≤ 10) (hB : B ≤ 6) (hT : T ≤ 320) (hS0 : S ≤ 8) (hM : M ≤ 6) (hst : OKS fst) : Met l yX11_drop (Cond.code yX11_drop cX11_drop 6 (some .long) :: GT) ({ frames := 4, cells := 0, slots := 0, locals := 99 } : Room) (PcW [.ref h0, .int what] dC dI G [(h0, .inr (11, [.ref st, .int (nI N), .int (nI B), .ref rp, .int vrs, .int vrb, .int vhs, .int vca, .int vxs, .int vxb, .ref tp, .int (nI T), .int vfa, .int vbr, .int vba, .int vsp, .int vhe, .int vtk, .int vva, .ref cu, .ref lt, .ref od, .ref th, .ref be, .ref ln, .int (nI S), .ref ma, .int (nI M), .ref ah, .ref bh, .ref ik, .ref la, .ref lg, .ref ce, .int vto])), (st, .inl (G 0, 196, .inl fst)), (od, .inl (G 1, 10, .inr (.inl fod))), (th, .inl (G 1, 10, .inr (.inl fth)))] sz) (va_Ql (fun (r : Int64) (u : (Nat → Int64) × (Nat → Int64)) => match u with | (ood, oth) => (True) ∧ True) (fun (u : (Nat → Int64) × (Nat → Int64)) (t : State) => match u with | (ood, oth) => va_P (dC, dI) vwCl [(h0, .inr (11, [.ref st, .int (nI N), .int (nI B), .ref rp, .int vrs, .int vrb, .int vhs, .int vca, .int vxs, .int vxb, .ref tp, .int (nI T), .int vfa, .int vbr, .int vba, .int vsp, .int vhe, .int vtk, .int vva, .ref cu, .ref lt, .ref od, .ref th, .ref be, .ref ln, .int (nI S), .ref ma, .int (nI M), .ref ah, .ref bh, .ref ik, .ref la, .ref lg, .ref ce, .int vto])), (st, .inl (G 0, 196, .inl fst)), (od, .inl (G 1, 10, .inr (.inl ood))), (th, .inl (G 1, 10, .inr (.inl oth)))] t.heap ∧ va_D (va_A [(h0, .inr (11, [.ref st, .int (nI N), .int (nI B), .ref rp, .int vrs, .int vrb, .int vhs, .int vca, .int vxs, .int vxb, .ref tp, .int (nI T), .int vfa, .int vbr, .int vba, .int vsp, .int vhe, .int vtk, .int vva, .ref cu, .ref lt, .ref od, .ref th, .ref be, .ref ln, .int (nI S), .ref ma, .int (nI M), .ref ah, .ref bh, .ref ik, .ref la, .ref lg, .ref ce, .int vto])), (st, .inl (G 0, 196, .inl fst)), (od, .inl (G 1, 10, .inr (.inl fod))), (th, .inl (G 1, 10, .inr (.inl fth)))] sz) [(h0, .inr (11, [.ref st, .int (nI N), .int (nI B), .ref rp, .int vrs, .int vrb, .int vhs, .int vca, .int vxs, .int vxb, .ref tp, .int (nI T), .int vfa, .int vbr, .int vba, .int vsp, .int vhe, .int vtk, .int vva, .ref cu, .ref lt, .ref od, .ref th, .ref be, .ref ln, .int (nI S), .ref ma, .int (nI M), .ref ah, .ref bh, .ref ik, .ref la, .ref lg, .ref ce, .int vto])), (st, .inl (G 0, 196, .inl fst)), (od, .inl (G 1, 10, .inr (.inl ood))), (th, .inl (G 1, 10, .inr (.inl oth)))]) (va_A [(h0, .inr (11, [.ref st, .int (nI N), .int (nI B), .ref rp, .int vrs, .int vrb, .int vhs, .int vca, .int vxs, .int vxb, .ref tp, .int (nI T), .int vfa, .int vbr, .int vba, .int vsp, .int vhe, .int vtk, .int vva, .ref cu, .ref lt, .ref od, .ref th, .ref be, .ref ln, .int (nI S), .ref ma, .int (nI M), .ref ah, .ref bh, .ref ik, .ref la, .ref lg, .ref ce, .int vto])), (st, .inl (G 0, 196, .inl fst)), (od, .inl (G 1, 10, .inr (.inl fod))), (th, .inl (G 1, 10, .inr (.inl fth)))] sz)) 0 0 (va_A [(h0, .inr (11, [.ref st, .int (nI N), .int (nI B), .ref rp, .int vrs, .int vrb, .int vhs, .int vca, .int vxs, .int vxb, .ref tp, .int (nI T), .int vfa, .int vbr, .int vba, .int vsp, .int vhe, .int vtk, .int vva, .ref cu, .ref lt, .ref od, .ref th, .ref be, .ref ln, .int (nI S), .ref ma, .int (nI M), .ref ah, .ref bh, .ref ik, .ref la, .ref lg, .ref ce, .int vto])), (st, .inl (G 0, 196, .inl fst)), (od, .inl (G 1, 10, .inr (.inl fod))), (th, .inl (G 1, 10, .inr (.inl fth)))] sz) := by
  have hB_ := hB
  have hM_ := hM
  have hT_ := hT
  have tn770_ : nIT N := fun _ => nI_toInt (by omega)
  have tn771_ : nIT B := fun _ => nI_toInt (by omega)
  have tn772_ : nIT T := fun _ => nI_toInt (by omega)
  have tn773_ : nIT S := fun _ => nI_toInt (by omega)
  have tn774_ : nIT M := fun _ => nI_toInt (by omega)
  refine Met.ofW (cc := cX11_drop) (maxL := 6) (ret := (some .long)) (by decide) rfl ?_
  intro p e s m args below meth c s₁ Bd hml hv
  obtain ⟨rfl, hsz, hP, hK, hD0⟩ := hv
  have hx := Bd.exec
  have hb := Bd.bytes
  have hr := Bd.returns
  have hg : ∀ w ∈ GT, w.before ([.ref h0, .int what] : List Value).toArray s = true := fun w h => atoms_spec (ws := Cond.code yX11_drop cX11_drop 6 (some .long) :: GT) Bd.pre w (List.mem_cons_of_mem _ h)
  have hown : s.vm.findClass RX11 = some m.cls := findClass_of_methodNamed Bd.named
  have hlocks := Bd.notSynchronized
  subst hsz
  have hD := hD0.self (sz := s.heap.size)
  generalize hAe : va_A [(h0, .inr (11, [.ref st, .int (nI N), .int (nI B), .ref rp, .int vrs, .int vrb, .int vhs, .int vca, .int vxs, .int vxb, .ref tp, .int (nI T), .int vfa, .int vbr, .int vba, .int vsp, .int vhe, .int vtk, .int vva, .ref cu, .ref lt, .ref od, .ref th, .ref be, .ref ln, .int (nI S), .ref ma, .int (nI M), .ref ah, .ref bh, .ref ik, .ref la, .ref lg, .ref ce, .int vto])), (st, .inl (G 0, 196, .inl fst)), (od, .inl (G 1, 10, .inr (.inl fod))), (th, .inl (G 1, 10, .inr (.inl fth)))] s.heap.size = A at hD ⊢
  have hA : ∀ q : Nat, s.heap.size ≤ q → A q := fun q h => by rw [← hAe]; exact Or.inr h
  have hS : va_S A s.heap s.heap [] := va_S.rf
  have hl := lv_entry ([.ref h0, .int what]) (n := 6) (Nat.le_of_ble_eq_true rfl)
  rw [lg_entry_eq]
  generalize (lg_sl ([.ref h0, .int what]) ++ List.replicate (6 - (lg_sl ([.ref h0, .int what])).length) Slot.unset).toArray = ls at hl ⊢
  have hl : lv_has ls 6 [(0, .ref h0), (1, .int what)] := hl
  refine lv_iload_n hx hb dX11_drop_0 rfl (lv_at hl 1 rfl) ?_
  refine lv_i2l (v := what.toInt64) hx hb dX11_drop_1 rfl ?_
  refine lv_lconst (v := 0) hx hb dX11_drop_2 (by decide) ?_
  refine lv_ldc2 (v := 2) hx hb hown (hg _ wt_1056) dX11_drop_3 ?_
  have hPc := hP.sub (ws' := []) [] rfl
  refine va_calli (va_runS (As := [.long what.toInt64, .long 0, .long 2]) (rest := []) ⟨hx, hb, hml, hown, hg⟩ (c_X11_in l dC dI G _ what.toInt64 0 2) (kwS hg mfX11_in wt_992 ⟨Nat.le_of_ble_eq_true rfl, Nat.le_of_ble_eq_true rfl⟩) (preSR hK hPc) rfl rfl hl.1 rfl (lv_room (Nat.le_of_ble_eq_true rfl)) dX11_drop_6 ⟨Nat.le_of_ble_eq_true rfl, Nat.le_of_ble_eq_true rfl⟩) hS (fun q h1 h2 => absurd h2 (Nat.not_le.mpr h1)) (fun q h => hA q (Nat.le_trans hS.1 h)) (fun r1 ur1 t H1 locs ht hvm w2 hB hz1 hk1 hS => ?_)
  have hP := keepR hP hk1
  obtain ⟨w2, w2x⟩ := w2
  try simp only [l_ii, show (0 : Int64).toInt = 0 from by decide, show (2 : Int64).toInt = 2 from by decide] at w2
  subst w2
  refine lv_if_ne (tgt := 16) hx hb dX11_drop_9 rfl (fun c3 => ?_) (fun c3 => ?_)
  · skip
    have b4 := if10_p c3
    refine lv_aload_n hx hb dX11_drop_16 rfl (lv_at hl 0 rfl) ?_
    refine va_get (D := (dC, dI)) (ci := 11) (v := .int (nI N)) (C := RX11) (T := TX11) (N := 35) hx hb hg inG11 hown hK.1 hP 0 rfl rfl 1 (Nat.le_of_ble_eq_true rfl) (hg _ wt_879) (fun _ h9 => h9) rfl dX11_drop_17 ?_
    refine lv_if_ne (tgt := 27) hx hb dX11_drop_20 rfl (fun c5 => ?_) (fun c5 => ?_)
    · skip
      have n6 : N ≠ 0 := by have t := neI c5; rw [show (nI (N)).toInt = ((N : Nat) : Int) from tn770_ ()] at t; have : (0 : Int32).toInt = 0 := qI_0; omega
      refine lv_ldc2 (v := 4000000000000000000) hx hb hown (hg _ wt_1154) dX11_drop_27 ?_
      refine lv_lstore_n (lv' := [(2, .long 4000000000000000000), (0, .ref h0), (1, .int what)]) hx hb dX11_drop_30 rfl hl (by decide) rfl (fun ls hl => ?_)
      refine lv_iconst (v := 0) hx hb dX11_drop_31 rfl ?_
      refine lv_istore (lv' := [(4, .int 0), (2, .long 4000000000000000000), (0, .ref h0), (1, .int what)]) hx hb dX11_drop_32 hl (by decide) rfl (fun ls hl => ?_)
      refine lv_iconst (v := 0) hx hb dX11_drop_34 rfl ?_
      refine lv_istore (lv' := [(5, .int 0), (4, .int 0), (2, .long 4000000000000000000), (0, .ref h0), (1, .int what)]) hx hb dX11_drop_35 hl (by decide) rfl (fun ls hl => ?_)
      have loop37_12 : ∀ (nf j7 : Nat), N + 1 ≤ j7 + nf → j7 ≤ N → ∀ (y8 : Int32) (y9 : Int64) (g10 : Nat → Int64) (g11 : Nat → Int64) (H : Heap) (locs : List Loc), va_P (dC, dI) vwCl [(h0, .inr (11, [.ref st, .int (nI N), .int (nI B), .ref rp, .int vrs, .int vrb, .int vhs, .int vca, .int vxs, .int vxb, .ref tp, .int (nI T), .int vfa, .int vbr, .int vba, .int vsp, .int vhe, .int vtk, .int vva, .ref cu, .ref lt, .ref od, .ref th, .ref be, .ref ln, .int (nI S), .ref ma, .int (nI M), .ref ah, .ref bh, .ref ik, .ref la, .ref lg, .ref ce, .int vto])), (st, .inl (G 0, 196, .inl fst)), (od, .inl (G 1, 10, .inr (.inl g10))), (th, .inl (G 1, 10, .inr (.inl g11)))] H → va_D A [(h0, .inr (11, [.ref st, .int (nI N), .int (nI B), .ref rp, .int vrs, .int vrb, .int vhs, .int vca, .int vxs, .int vxb, .ref tp, .int (nI T), .int vfa, .int vbr, .int vba, .int vsp, .int vhe, .int vtk, .int vva, .ref cu, .ref lt, .ref od, .ref th, .ref be, .ref ln, .int (nI S), .ref ma, .int (nI M), .ref ah, .ref bh, .ref ik, .ref la, .ref lg, .ref ce, .int vto])), (st, .inl (G 0, 196, .inl fst)), (od, .inl (G 1, 10, .inr (.inl g10))), (th, .inl (G 1, 10, .inr (.inl g11)))] → va_S A s.heap H locs → ∀ (ls : Array Slot), lv_has ls 6 [(5, .int (nI j7)), (4, .int y8), (2, .long y9), (0, .ref h0), (1, .int what)] → W p l e (headSpec (Cond.code yX11_drop cX11_drop 6 (some .long) :: GT) ({ frames := 4, cells := 0, slots := 0, locals := 99 } : Room)).room s m ([.ref h0, .int what] : List Value).toArray below meth c H locs 0 0 (MQ below (va_Ql (fun (r : Int64) (u : (Nat → Int64) × (Nat → Int64)) => match u with | (ood, oth) => (True) ∧ True) (fun (u : (Nat → Int64) × (Nat → Int64)) (t : State) => match u with | (ood, oth) => va_P (dC, dI) vwCl [(h0, .inr (11, [.ref st, .int (nI N), .int (nI B), .ref rp, .int vrs, .int vrb, .int vhs, .int vca, .int vxs, .int vxb, .ref tp, .int (nI T), .int vfa, .int vbr, .int vba, .int vsp, .int vhe, .int vtk, .int vva, .ref cu, .ref lt, .ref od, .ref th, .ref be, .ref ln, .int (nI S), .ref ma, .int (nI M), .ref ah, .ref bh, .ref ik, .ref la, .ref lg, .ref ce, .int vto])), (st, .inl (G 0, 196, .inl fst)), (od, .inl (G 1, 10, .inr (.inl ood))), (th, .inl (G 1, 10, .inr (.inl oth)))] t.heap ∧ va_D A [(h0, .inr (11, [.ref st, .int (nI N), .int (nI B), .ref rp, .int vrs, .int vrb, .int vhs, .int vca, .int vxs, .int vxb, .ref tp, .int (nI T), .int vfa, .int vbr, .int vba, .int vsp, .int vhe, .int vtk, .int vva, .ref cu, .ref lt, .ref od, .ref th, .ref be, .ref ln, .int (nI S), .ref ma, .int (nI M), .ref ah, .ref bh, .ref ik, .ref la, .ref lg, .ref ce, .int vto])), (st, .inl (G 0, 196, .inl fst)), (od, .inl (G 1, 10, .inr (.inl ood))), (th, .inl (G 1, 10, .inr (.inl oth)))]) A) ([.ref h0, .int what] : List Value).toArray s 0 0 A) (F0 m 37 ls []) := by
        intro nf
        induction nf with
        | zero => intro j7 h1 h2; exact absurd h1 (by omega)
        | succ nf ih37_12 =>
          intro j7 hn13 hj14 y8 y9 g10 g11 H locs hP hD hS ls hl
          refine lv_iload hx hb dX11_drop_37 (lv_at hl 0 rfl) ?_
          refine lv_aload_n hx hb dX11_drop_39 rfl (lv_at hl 3 rfl) ?_
          refine va_get (D := (dC, dI)) (ci := 11) (v := .int (nI N)) (C := RX11) (T := TX11) (N := 35) hx hb hg inG11 hown hK.1 hP 0 rfl rfl 1 (Nat.le_of_ble_eq_true rfl) (hg _ wt_879) (fun _ h9 => h9) rfl dX11_drop_40 ?_
          refine lv_icmp_ge (tgt := 105) hx hb dX11_drop_43 rfl (fun c15 => ?_) (fun c15 => ?_)
          · skip
            have tn775_ : nIT j7 := fun _ => nI_toInt (by first | omega | (have t := leI c15; omega))
            have n16 : N ≤ j7 := by have t := leI c15; rw [show (nI (j7)).toInt = ((j7 : Nat) : Int) from tn775_ ()] at t; rw [show (nI (N)).toInt = ((N : Nat) : Int) from tn770_ ()] at t; omega
            refine lv_iload_n hx hb dX11_drop_105 rfl (lv_at hl 4 rfl) ?_
            refine lv_iconst (v := 2) hx hb dX11_drop_106 rfl ?_
            have cut128_18 : ∀ (y17 : Int64) (H : Heap) (locs : List Loc), va_P (dC, dI) vwCl [(h0, .inr (11, [.ref st, .int (nI N), .int (nI B), .ref rp, .int vrs, .int vrb, .int vhs, .int vca, .int vxs, .int vxb, .ref tp, .int (nI T), .int vfa, .int vbr, .int vba, .int vsp, .int vhe, .int vtk, .int vva, .ref cu, .ref lt, .ref od, .ref th, .ref be, .ref ln, .int (nI S), .ref ma, .int (nI M), .ref ah, .ref bh, .ref ik, .ref la, .ref lg, .ref ce, .int vto])), (st, .inl (G 0, 196, .inl fst)), (od, .inl (G 1, 10, .inr (.inl g10))), (th, .inl (G 1, 10, .inr (.inl g11)))] H → va_D A [(h0, .inr (11, [.ref st, .int (nI N), .int (nI B), .ref rp, .int vrs, .int vrb, .int vhs, .int vca, .int vxs, .int vxb, .ref tp, .int (nI T), .int vfa, .int vbr, .int vba, .int vsp, .int vhe, .int vtk, .int vva, .ref cu, .ref lt, .ref od, .ref th, .ref be, .ref ln, .int (nI S), .ref ma, .int (nI M), .ref ah, .ref bh, .ref ik, .ref la, .ref lg, .ref ce, .int vto])), (st, .inl (G 0, 196, .inl fst)), (od, .inl (G 1, 10, .inr (.inl g10))), (th, .inl (G 1, 10, .inr (.inl g11)))] → va_S A s.heap H locs → ∀ (ls : Array Slot), lv_has ls 6 [(5, .int (nI j7)), (4, .int y8), (2, .long y9), (0, .ref h0), (1, .int what)] → W p l e (headSpec (Cond.code yX11_drop cX11_drop 6 (some .long) :: GT) ({ frames := 4, cells := 0, slots := 0, locals := 99 } : Room)).room s m ([.ref h0, .int what] : List Value).toArray below meth c H locs 0 0 (MQ below (va_Ql (fun (r : Int64) (u : (Nat → Int64) × (Nat → Int64)) => match u with | (ood, oth) => (True) ∧ True) (fun (u : (Nat → Int64) × (Nat → Int64)) (t : State) => match u with | (ood, oth) => va_P (dC, dI) vwCl [(h0, .inr (11, [.ref st, .int (nI N), .int (nI B), .ref rp, .int vrs, .int vrb, .int vhs, .int vca, .int vxs, .int vxb, .ref tp, .int (nI T), .int vfa, .int vbr, .int vba, .int vsp, .int vhe, .int vtk, .int vva, .ref cu, .ref lt, .ref od, .ref th, .ref be, .ref ln, .int (nI S), .ref ma, .int (nI M), .ref ah, .ref bh, .ref ik, .ref la, .ref lg, .ref ce, .int vto])), (st, .inl (G 0, 196, .inl fst)), (od, .inl (G 1, 10, .inr (.inl ood))), (th, .inl (G 1, 10, .inr (.inl oth)))] t.heap ∧ va_D A [(h0, .inr (11, [.ref st, .int (nI N), .int (nI B), .ref rp, .int vrs, .int vrb, .int vhs, .int vca, .int vxs, .int vxb, .ref tp, .int (nI T), .int vfa, .int vbr, .int vba, .int vsp, .int vhe, .int vtk, .int vva, .ref cu, .ref lt, .ref od, .ref th, .ref be, .ref ln, .int (nI S), .ref ma, .int (nI M), .ref ah, .ref bh, .ref ik, .ref la, .ref lg, .ref ce, .int vto])), (st, .inl (G 0, 196, .inl fst)), (od, .inl (G 1, 10, .inr (.inl ood))), (th, .inl (G 1, 10, .inr (.inl oth)))]) A) ([.ref h0, .int what] : List Value).toArray s 0 0 A) (F0 m 128 ls [.long y17]) := by
              intro y17 H locs hP hD hS ls hl
              have hpost : True := by
                trivial
              obtain ⟨hP9, hD9⟩ := va_sub2 (ws' := [(h0, .inr (11, [.ref st, .int (nI N), .int (nI B), .ref rp, .int vrs, .int vrb, .int vhs, .int vca, .int vxs, .int vxb, .ref tp, .int (nI T), .int vfa, .int vbr, .int vba, .int vsp, .int vhe, .int vtk, .int vva, .ref cu, .ref lt, .ref od, .ref th, .ref be, .ref ln, .int (nI S), .ref ma, .int (nI M), .ref ah, .ref bh, .ref ik, .ref la, .ref lg, .ref ce, .int vto])), (st, .inl (G 0, 196, .inl fst)), (od, .inl (G 1, 10, .inr (.inl g10))), (th, .inl (G 1, 10, .inr (.inl g11)))]) hP hD [0, 1, 2, 3] (by decide) rfl
              refine W.widen (k := 0) (n := 0) (Nat.le_of_ble_eq_true rfl) (Nat.le_of_ble_eq_true rfl) ?_
              exact W.lret (v := y17) hx hb hr (fun t ht hW => ⟨⟨y17, (g10, g11), rfl, ⟨hpost, trivial⟩, ⟨by rw [ht]; exact hP9, hD9⟩⟩, hS.F ht⟩) hS.2.2 dX11_drop_128
            refine lv_icmp_ne (tgt := 116) hx hb dX11_drop_107 rfl (fun c19 => ?_) (fun c19 => ?_)
            · skip
              refine lv_lload_n hx hb dX11_drop_116 rfl (lv_at hl 2 rfl) ?_
              refine lv_aload_n hx hb dX11_drop_117 rfl (lv_at hl 3 rfl) ?_
              refine va_get (D := (dC, dI)) (ci := 11) (v := .int (nI N)) (C := RX11) (T := TX11) (N := 35) hx hb hg inG11 hown hK.1 hP 0 rfl rfl 1 (Nat.le_of_ble_eq_true rfl) (hg _ wt_879) (fun _ h9 => h9) rfl dX11_drop_118 ?_
              have hPc := hP.sub (ws' := []) [] rfl
              refine va_calll (va_runS (As := [.int (nI N)]) (rest := [.long y9]) ⟨hx, hb, hml, hown, hg⟩ (c_X11_power l dC dI G _ N hN) (kwS hg mfX11_power wt_1131 ⟨Nat.le_of_ble_eq_true rfl, Nat.le_of_ble_eq_true rfl⟩) (preSR hK hPc) rfl rfl hl.1 rfl (lv_room (Nat.le_of_ble_eq_true rfl)) dX11_drop_121 ⟨Nat.le_of_ble_eq_true rfl, Nat.le_of_ble_eq_true rfl⟩) hS (fun q h1 h2 => absurd h2 (Nat.not_le.mpr h1)) (fun q h => hA q (Nat.le_trans hS.1 h)) (fun r20 ur20 t H1 locs ht hvm w21 hB hz1 hk1 hS => ?_)
              have hP := keepR hP hk1
              obtain ⟨w21, w21x⟩ := w21
              subst w21
              refine lv_iload_n hx hb dX11_drop_124 rfl (lv_at hl 4 rfl) ?_
              have hPc := hP.sub (ws' := []) [] rfl
              refine va_calll (va_runS (As := [.long y9, .long (powF N), .int what]) (rest := []) ⟨hx, hb, hml, hown, hg⟩ (c_X11_lowest l dC dI G _ what y9 (powF N) (powF_ne (by have t_b4 := b4; have t_n6 := n6; have t_hj14 := hj14; have t_n16 := n16; have t_c19 := neI c19; have : (2 : Int32).toInt = 2 := qI_2; have t_n0 : (nI N).toInt = (N : Int) := tn770_ (); have t_n1 : (nI B).toInt = (B : Int) := tn771_ (); have t_n2 : (nI T).toInt = (T : Int) := tn772_ (); have t_n3 : (nI S).toInt = (S : Int) := tn773_ (); have t_n4 : (nI M).toInt = (M : Int) := tn774_ (); have t_n5 : (nI j7).toInt = (j7 : Int) := tn775_ (); omega))) (kwS hg mfX11_lowest wt_1134 ⟨Nat.le_of_ble_eq_true rfl, Nat.le_of_ble_eq_true rfl⟩) (preSR hK hPc) rfl rfl hl.1 rfl (lv_room (Nat.le_of_ble_eq_true rfl)) dX11_drop_125 ⟨Nat.le_of_ble_eq_true rfl, Nat.le_of_ble_eq_true rfl⟩) hS (fun q h1 h2 => absurd h2 (Nat.not_le.mpr h1)) (fun q h => hA q (Nat.le_trans hS.1 h)) (fun r22 ur22 t H1 locs ht hvm w23 hB hz1 hk1 hS => ?_)
              have hP := keepR hP hk1
              obtain ⟨w23, w23x⟩ := w23
              exact cut128_18 r22 _ _ hP hD hS ls (lv_sub hl [0, 1, 2, 3, 4] rfl)
            · skip
              refine lv_iload hx hb dX11_drop_110 (lv_at hl 1 rfl) ?_
              refine lv_i2l (v := y8.toInt64) hx hb dX11_drop_112 rfl ?_
              refine lv_goto (tgt := 128) hx hb dX11_drop_113 rfl ?_
              exact cut128_18 y8.toInt64 _ _ hP hD hS ls (lv_sub hl [0, 1, 2, 3, 4] rfl)
          · skip
            have tn776_ : nIT j7 := fun _ => nI_toInt (by first | omega | (have t := nleI c15; omega))
            have n24 : j7 < N := by have t := nleI c15; rw [show (nI (j7)).toInt = ((j7 : Nat) : Int) from tn776_ ()] at t; rw [show (nI (N)).toInt = ((N : Nat) : Int) from tn770_ ()] at t; omega
            refine lv_aload_n hx hb dX11_drop_46 rfl (lv_at hl 3 rfl) ?_
            refine lv_aload_n hx hb dX11_drop_47 rfl (lv_at hl 3 rfl) ?_
            refine va_get (D := (dC, dI)) (ci := 11) (v := .int (nI N)) (C := RX11) (T := TX11) (N := 35) hx hb hg inG11 hown hK.1 hP 0 rfl rfl 1 (Nat.le_of_ble_eq_true rfl) (hg _ wt_879) (fun _ h9 => h9) rfl dX11_drop_48 ?_
            refine lv_iconst (v := 0) hx hb dX11_drop_51 rfl ?_
            refine lv_iload hx hb dX11_drop_52 (lv_at hl 0 rfl) ?_
            obtain ⟨hPc, hDc, hFc⟩ := va_sub3 (ws' := [(h0, .inr (11, [.ref st, .int (nI N), .int (nI B), .ref rp, .int vrs, .int vrb, .int vhs, .int vca, .int vxs, .int vxb, .ref tp, .int (nI T), .int vfa, .int vbr, .int vba, .int vsp, .int vhe, .int vtk, .int vva, .ref cu, .ref lt, .ref od, .ref th, .ref be, .ref ln, .int (nI S), .ref ma, .int (nI M), .ref ah, .ref bh, .ref ik, .ref la, .ref lg, .ref ce, .int vto])), (st, .inl (G 0, 196, .inl fst)), (od, .inl (G 1, 10, .inr (.inl g10))), (th, .inl (G 1, 10, .inr (.inl g11)))]) hP hD hS hA [0, 1, 2, 3] (by decide) rfl
            refine va_callv (va_runV (As := [.int (nI N), .int 0, .int (nI j7)]) (rest := []) ⟨hx, hb, hml, hown, hg⟩ (c_X11_layOdds l dC dI G _ h0 N st N B rp tp T cu lt od th be ln S ma M ah bh ik la lg ce 0 (nI j7) vrs vrb vhs vca vxs vxb vfa vbr vba vsp vhe vtk vva vto fst g10 g11 hN hB_ hT_ hS0 hM_ hst hN) (kwV hg mfX11_layOdds wt_1119 ⟨Nat.le_of_ble_eq_true rfl, Nat.le_of_ble_eq_true rfl⟩) (preVW hK hPc hDc (ci := 11) rfl rfl) rfl rfl hl.1 rfl (lv_room (Nat.le_of_ble_eq_true rfl)) dX11_drop_54 ⟨Nat.le_of_ble_eq_true rfl, Nat.le_of_ble_eq_true rfl⟩) hS (fun q _ h => hFc q h) hFc (fun ur25 t H1 locs ht hvm w26 hB hz1 hk1 hS => ?_)
            obtain ⟨u27, u28⟩ := ur25
            obtain ⟨hP1, hD1⟩ := hB
            rw [ht] at hP1
            obtain ⟨hP, hD⟩ := va_join (wr := []) (w1 := [(h0, .inr (11, [.ref st, .int (nI N), .int (nI B), .ref rp, .int vrs, .int vrb, .int vhs, .int vca, .int vxs, .int vxb, .ref tp, .int (nI T), .int vfa, .int vbr, .int vba, .int vsp, .int vhe, .int vtk, .int vva, .ref cu, .ref lt, .ref od, .ref th, .ref be, .ref ln, .int (nI S), .ref ma, .int (nI M), .ref ah, .ref bh, .ref ik, .ref la, .ref lg, .ref ce, .int vto])), (st, .inl (G 0, 196, .inl fst)), (od, .inl (G 1, 10, .inr (.inl u27))), (th, .inl (G 1, 10, .inr (.inl u28)))]) hP hD [0, 1, 2, 3] [] rfl rfl (by decide) (by decide) hk1 hFc hP1 hD1
            generalize H1 = H at hP hS ⊢
            refine lv_aload_n hx hb dX11_drop_57 rfl (lv_at hl 3 rfl) ?_
            refine va_get (D := (dC, dI)) (ci := 11) (v := .ref od) (C := RX11) (T := TX11) (N := 35) hx hb hg inG11 hown hK.1 hP 0 rfl rfl 21 (Nat.le_of_ble_eq_true rfl) (hg _ wt_899) (fun _ h9 => h9) rfl dX11_drop_58 ?_
            refine lv_iconst (v := 0) hx hb dX11_drop_61 rfl ?_
            refine va_lald hx hb hK.1 hP 2 1 rfl rfl (vp_in_iff.mpr ⟨by decide, by decide⟩) dX11_drop_62 ?_
            refine lv_cgl (y := u27 0) (by rfl) ?_
            refine lv_lload_n hx hb dX11_drop_63 rfl (lv_at hl 2 rfl) ?_
            refine W.lcmp hx hb dX11_drop_64 ?_
            have cut75_30 : ∀ (y29 : Int32) (H : Heap) (locs : List Loc), va_P (dC, dI) vwCl [(h0, .inr (11, [.ref st, .int (nI N), .int (nI B), .ref rp, .int vrs, .int vrb, .int vhs, .int vca, .int vxs, .int vxb, .ref tp, .int (nI T), .int vfa, .int vbr, .int vba, .int vsp, .int vhe, .int vtk, .int vva, .ref cu, .ref lt, .ref od, .ref th, .ref be, .ref ln, .int (nI S), .ref ma, .int (nI M), .ref ah, .ref bh, .ref ik, .ref la, .ref lg, .ref ce, .int vto])), (st, .inl (G 0, 196, .inl fst)), (od, .inl (G 1, 10, .inr (.inl u27))), (th, .inl (G 1, 10, .inr (.inl u28)))] H → va_D A [(h0, .inr (11, [.ref st, .int (nI N), .int (nI B), .ref rp, .int vrs, .int vrb, .int vhs, .int vca, .int vxs, .int vxb, .ref tp, .int (nI T), .int vfa, .int vbr, .int vba, .int vsp, .int vhe, .int vtk, .int vva, .ref cu, .ref lt, .ref od, .ref th, .ref be, .ref ln, .int (nI S), .ref ma, .int (nI M), .ref ah, .ref bh, .ref ik, .ref la, .ref lg, .ref ce, .int vto])), (st, .inl (G 0, 196, .inl fst)), (od, .inl (G 1, 10, .inr (.inl u27))), (th, .inl (G 1, 10, .inr (.inl u28)))] → va_S A s.heap H locs → ∀ (ls : Array Slot), lv_has ls 6 [(5, .int (nI j7)), (4, .int y8), (2, .long y9), (0, .ref h0), (1, .int what)] → W p l e (headSpec (Cond.code yX11_drop cX11_drop 6 (some .long) :: GT) ({ frames := 4, cells := 0, slots := 0, locals := 99 } : Room)).room s m ([.ref h0, .int what] : List Value).toArray below meth c H locs 0 0 (MQ below (va_Ql (fun (r : Int64) (u : (Nat → Int64) × (Nat → Int64)) => match u with | (ood, oth) => (True) ∧ True) (fun (u : (Nat → Int64) × (Nat → Int64)) (t : State) => match u with | (ood, oth) => va_P (dC, dI) vwCl [(h0, .inr (11, [.ref st, .int (nI N), .int (nI B), .ref rp, .int vrs, .int vrb, .int vhs, .int vca, .int vxs, .int vxb, .ref tp, .int (nI T), .int vfa, .int vbr, .int vba, .int vsp, .int vhe, .int vtk, .int vva, .ref cu, .ref lt, .ref od, .ref th, .ref be, .ref ln, .int (nI S), .ref ma, .int (nI M), .ref ah, .ref bh, .ref ik, .ref la, .ref lg, .ref ce, .int vto])), (st, .inl (G 0, 196, .inl fst)), (od, .inl (G 1, 10, .inr (.inl ood))), (th, .inl (G 1, 10, .inr (.inl oth)))] t.heap ∧ va_D A [(h0, .inr (11, [.ref st, .int (nI N), .int (nI B), .ref rp, .int vrs, .int vrb, .int vhs, .int vca, .int vxs, .int vxb, .ref tp, .int (nI T), .int vfa, .int vbr, .int vba, .int vsp, .int vhe, .int vtk, .int vva, .ref cu, .ref lt, .ref od, .ref th, .ref be, .ref ln, .int (nI S), .ref ma, .int (nI M), .ref ah, .ref bh, .ref ik, .ref la, .ref lg, .ref ce, .int vto])), (st, .inl (G 0, 196, .inl fst)), (od, .inl (G 1, 10, .inr (.inl ood))), (th, .inl (G 1, 10, .inr (.inl oth)))]) A) ([.ref h0, .int what] : List Value).toArray s 0 0 A) (F0 m 75 ls [.int y29]) := by
              intro y29 H locs hP hD hS ls hl
              refine lv_istore (lv' := [(4, .int y29), (5, .int (nI j7)), (2, .long y9), (0, .ref h0), (1, .int what)]) hx hb dX11_drop_75 hl (by decide) rfl (fun ls hl => ?_)
              refine lv_aload_n hx hb dX11_drop_77 rfl (lv_at hl 3 rfl) ?_
              refine va_get (D := (dC, dI)) (ci := 11) (v := .ref od) (C := RX11) (T := TX11) (N := 35) hx hb hg inG11 hown hK.1 hP 0 rfl rfl 21 (Nat.le_of_ble_eq_true rfl) (hg _ wt_899) (fun _ h9 => h9) rfl dX11_drop_78 ?_
              refine lv_iconst (v := 0) hx hb dX11_drop_81 rfl ?_
              refine va_lald hx hb hK.1 hP 2 1 rfl rfl (vp_in_iff.mpr ⟨by decide, by decide⟩) dX11_drop_82 ?_
              refine lv_cgl (y := u27 0) (by rfl) ?_
              refine lv_lload_n hx hb dX11_drop_83 rfl (lv_at hl 2 rfl) ?_
              refine W.lcmp hx hb dX11_drop_84 ?_
              have cut98_32 : ∀ (y31 : Int64) (H : Heap) (locs : List Loc), va_P (dC, dI) vwCl [(h0, .inr (11, [.ref st, .int (nI N), .int (nI B), .ref rp, .int vrs, .int vrb, .int vhs, .int vca, .int vxs, .int vxb, .ref tp, .int (nI T), .int vfa, .int vbr, .int vba, .int vsp, .int vhe, .int vtk, .int vva, .ref cu, .ref lt, .ref od, .ref th, .ref be, .ref ln, .int (nI S), .ref ma, .int (nI M), .ref ah, .ref bh, .ref ik, .ref la, .ref lg, .ref ce, .int vto])), (st, .inl (G 0, 196, .inl fst)), (od, .inl (G 1, 10, .inr (.inl u27))), (th, .inl (G 1, 10, .inr (.inl u28)))] H → va_D A [(h0, .inr (11, [.ref st, .int (nI N), .int (nI B), .ref rp, .int vrs, .int vrb, .int vhs, .int vca, .int vxs, .int vxb, .ref tp, .int (nI T), .int vfa, .int vbr, .int vba, .int vsp, .int vhe, .int vtk, .int vva, .ref cu, .ref lt, .ref od, .ref th, .ref be, .ref ln, .int (nI S), .ref ma, .int (nI M), .ref ah, .ref bh, .ref ik, .ref la, .ref lg, .ref ce, .int vto])), (st, .inl (G 0, 196, .inl fst)), (od, .inl (G 1, 10, .inr (.inl u27))), (th, .inl (G 1, 10, .inr (.inl u28)))] → va_S A s.heap H locs → ∀ (ls : Array Slot), lv_has ls 6 [(4, .int y29), (5, .int (nI j7)), (2, .long y9), (0, .ref h0), (1, .int what)] → W p l e (headSpec (Cond.code yX11_drop cX11_drop 6 (some .long) :: GT) ({ frames := 4, cells := 0, slots := 0, locals := 99 } : Room)).room s m ([.ref h0, .int what] : List Value).toArray below meth c H locs 0 0 (MQ below (va_Ql (fun (r : Int64) (u : (Nat → Int64) × (Nat → Int64)) => match u with | (ood, oth) => (True) ∧ True) (fun (u : (Nat → Int64) × (Nat → Int64)) (t : State) => match u with | (ood, oth) => va_P (dC, dI) vwCl [(h0, .inr (11, [.ref st, .int (nI N), .int (nI B), .ref rp, .int vrs, .int vrb, .int vhs, .int vca, .int vxs, .int vxb, .ref tp, .int (nI T), .int vfa, .int vbr, .int vba, .int vsp, .int vhe, .int vtk, .int vva, .ref cu, .ref lt, .ref od, .ref th, .ref be, .ref ln, .int (nI S), .ref ma, .int (nI M), .ref ah, .ref bh, .ref ik, .ref la, .ref lg, .ref ce, .int vto])), (st, .inl (G 0, 196, .inl fst)), (od, .inl (G 1, 10, .inr (.inl ood))), (th, .inl (G 1, 10, .inr (.inl oth)))] t.heap ∧ va_D A [(h0, .inr (11, [.ref st, .int (nI N), .int (nI B), .ref rp, .int vrs, .int vrb, .int vhs, .int vca, .int vxs, .int vxb, .ref tp, .int (nI T), .int vfa, .int vbr, .int vba, .int vsp, .int vhe, .int vtk, .int vva, .ref cu, .ref lt, .ref od, .ref th, .ref be, .ref ln, .int (nI S), .ref ma, .int (nI M), .ref ah, .ref bh, .ref ik, .ref la, .ref lg, .ref ce, .int vto])), (st, .inl (G 0, 196, .inl fst)), (od, .inl (G 1, 10, .inr (.inl ood))), (th, .inl (G 1, 10, .inr (.inl oth)))]) A) ([.ref h0, .int what] : List Value).toArray s 0 0 A) (F0 m 98 ls [.long y31]) := by
                intro y31 H locs hP hD hS ls hl
                refine lv_lstore_n (lv' := [(2, .long y31), (4, .int y29), (5, .int (nI j7)), (0, .ref h0), (1, .int what)]) hx hb dX11_drop_98 rfl hl (by decide) rfl (fun ls hl => ?_)
                refine lv_iinc (v := nI (j7 + 1)) (lv' := [(5, .int (nI (j7 + 1))), (2, .long y31), (4, .int y29), (0, .ref h0), (1, .int what)]) hx hb dX11_drop_99 hl (k := 2) rfl (by rw [show Int32.ofInt 1 = nI 1 from by decide]; exact nI_add _ _) (by decide) rfl (fun ls hl => ?_)
                refine lv_goto (tgt := 37) hx hb dX11_drop_102 rfl ?_
                exact ih37_12 (j7 + 1) (by omega) (by omega) y29 y31 u27 u28 _ _ hP hD hS ls (lv_sub hl [0, 2, 1, 3, 4] rfl)
              refine lv_if_ge (tgt := 97) hx hb dX11_drop_85 rfl (fun c33 => ?_) (fun c33 => ?_)
              · skip
                refine lv_lload_n hx hb dX11_drop_97 rfl (lv_at hl 2 rfl) ?_
                exact cut98_32 y9 _ _ hP hD hS ls (lv_sub hl [0, 1, 2, 3, 4] rfl)
              · skip
                refine lv_aload_n hx hb dX11_drop_88 rfl (lv_at hl 3 rfl) ?_
                refine va_get (D := (dC, dI)) (ci := 11) (v := .ref od) (C := RX11) (T := TX11) (N := 35) hx hb hg inG11 hown hK.1 hP 0 rfl rfl 21 (Nat.le_of_ble_eq_true rfl) (hg _ wt_899) (fun _ h9 => h9) rfl dX11_drop_89 ?_
                refine lv_iconst (v := 0) hx hb dX11_drop_92 rfl ?_
                refine va_lald hx hb hK.1 hP 2 1 rfl rfl (vp_in_iff.mpr ⟨by decide, by decide⟩) dX11_drop_93 ?_
                refine lv_cgl (y := u27 0) (by rfl) ?_
                refine lv_goto (tgt := 98) hx hb dX11_drop_94 rfl ?_
                exact cut98_32 (u27 0) _ _ hP hD hS ls (lv_sub hl [0, 1, 2, 3, 4] rfl)
            refine lv_if_ge (tgt := 73) hx hb dX11_drop_65 rfl (fun c34 => ?_) (fun c34 => ?_)
            · skip
              refine lv_iload hx hb dX11_drop_73 (lv_at hl 1 rfl) ?_
              exact cut75_30 y8 _ _ hP hD hS ls (lv_sub hl [0, 1, 2, 3, 4] rfl)
            · skip
              refine lv_iload hx hb dX11_drop_68 (lv_at hl 0 rfl) ?_
              refine lv_goto (tgt := 75) hx hb dX11_drop_70 rfl ?_
              exact cut75_30 (nI j7) _ _ hP hD hS ls (lv_sub hl [0, 1, 2, 3, 4] rfl)
      exact loop37_12 (N + 1) 0 (by omega) (by omega) 0 4000000000000000000 fod fth _ _ hP hD hS ls (lv_sub hl [0, 1, 2, 3, 4] rfl)
    · skip
      have n35 : N = 0 := by have t := eqI c5; rw [show (nI (N)).toInt = ((N : Nat) : Int) from tn770_ ()] at t; have : (0 : Int32).toInt = 0 := qI_0; omega
      refine lv_ldc2 (v := (-2)) hx hb hown (hg _ wt_1170) dX11_drop_23 ?_
      have hpost : True := by
        trivial
      obtain ⟨hP9, hD9⟩ := va_sub2 (ws' := [(h0, .inr (11, [.ref st, .int (nI N), .int (nI B), .ref rp, .int vrs, .int vrb, .int vhs, .int vca, .int vxs, .int vxb, .ref tp, .int (nI T), .int vfa, .int vbr, .int vba, .int vsp, .int vhe, .int vtk, .int vva, .ref cu, .ref lt, .ref od, .ref th, .ref be, .ref ln, .int (nI S), .ref ma, .int (nI M), .ref ah, .ref bh, .ref ik, .ref la, .ref lg, .ref ce, .int vto])), (st, .inl (G 0, 196, .inl fst)), (od, .inl (G 1, 10, .inr (.inl fod))), (th, .inl (G 1, 10, .inr (.inl fth)))]) hP hD [0, 1, 2, 3] (by decide) rfl
      refine W.widen (k := 0) (n := 0) (Nat.le_of_ble_eq_true rfl) (Nat.le_of_ble_eq_true rfl) ?_
      exact W.lret (v := (-2)) hx hb hr (fun t ht hW => ⟨⟨(-2), (fod, fth), rfl, ⟨hpost, trivial⟩, ⟨by rw [ht]; exact hP9, hD9⟩⟩, hS.F ht⟩) hS.2.2 dX11_drop_26
  · skip
    have b36 := if10_n c3
    refine lv_ldc2 (v := (-1)) hx hb hown (hg _ wt_1118) dX11_drop_12 ?_
    have hpost : True := by
      trivial
    obtain ⟨hP9, hD9⟩ := va_sub2 (ws' := [(h0, .inr (11, [.ref st, .int (nI N), .int (nI B), .ref rp, .int vrs, .int vrb, .int vhs, .int vca, .int vxs, .int vxb, .ref tp, .int (nI T), .int vfa, .int vbr, .int vba, .int vsp, .int vhe, .int vtk, .int vva, .ref cu, .ref lt, .ref od, .ref th, .ref be, .ref ln, .int (nI S), .ref ma, .int (nI M), .ref ah, .ref bh, .ref ik, .ref la, .ref lg, .ref ce, .int vto])), (st, .inl (G 0, 196, .inl fst)), (od, .inl (G 1, 10, .inr (.inl fod))), (th, .inl (G 1, 10, .inr (.inl fth)))]) hP hD [0, 1, 2, 3] (by decide) rfl
    refine W.widen (k := 0) (n := 0) (Nat.le_of_ble_eq_true rfl) (Nat.le_of_ble_eq_true rfl) ?_
    exact W.lret (v := (-1)) hx hb hr (fun t ht hW => ⟨⟨(-1), (fod, fth), rfl, ⟨hpost, trivial⟩, ⟨by rw [ht]; exact hP9, hD9⟩⟩, hS.F ht⟩) hS.2.2 dX11_drop_15

set_option maxHeartbeats 1000000 in
set_option maxRecDepth 100000 in
theorem c_X11_carry (l : Launch) (dC : Nat → ClassId) (dI : Nat → Nat → Nat) (G : Nat → ClassId) (sz : Nat) (h0 st N B rp tp T cu lt od th be ln S ma M ah bh ik la lg ce : Nat) (sd what vrs vrb vhs vca vxs vxb vfa vbr vba vsp vhe vtk vva vto : Int32) (fst : Nat → Int32) (hN : N ≤ 10) (hB : B ≤ 6) (hT : T ≤ 320) (hS0 : S ≤ 8) (hM : M ≤ 6) (hst : OKS fst) : Met l yX11_carry (Cond.code yX11_carry cX11_carry 9 (some .int) :: GT) ({ frames := 3, cells := 0, slots := 0, locals := 72 } : Room) (PcR [.ref h0, .int sd, .int what] dC dI G [(h0, .inr (11, [.ref st, .int (nI N), .int (nI B), .ref rp, .int vrs, .int vrb, .int vhs, .int vca, .int vxs, .int vxb, .ref tp, .int (nI T), .int vfa, .int vbr, .int vba, .int vsp, .int vhe, .int vtk, .int vva, .ref cu, .ref lt, .ref od, .ref th, .ref be, .ref ln, .int (nI S), .ref ma, .int (nI M), .ref ah, .ref bh, .ref ik, .ref la, .ref lg, .ref ce, .int vto])), (st, .inl (G 0, 196, .inl fst))] sz) (va_Qi (fun (r : Int32) (u : Unit) => match u with | _ => (True) ∧ True) (fun _ _ => True) (fun q : Nat => sz ≤ q)) 0 0 (fun q : Nat => sz ≤ q) := by
  have hB_ := hB
  have hM_ := hM
  have hT_ := hT
  have tn793_ : nIT N := fun _ => nI_toInt (by omega)
  have tn794_ : nIT B := fun _ => nI_toInt (by omega)
  have tn795_ : nIT T := fun _ => nI_toInt (by omega)
  have tn796_ : nIT S := fun _ => nI_toInt (by omega)
  have tn797_ : nIT M := fun _ => nI_toInt (by omega)
  refine Met.ofW (cc := cX11_carry) (maxL := 9) (ret := (some .int)) (by decide) rfl ?_
  intro p e s m args below meth c s₁ Bd hml hv
  obtain ⟨rfl, hsz, hP, hK⟩ := hv
  have hx := Bd.exec
  have hb := Bd.bytes
  have hr := Bd.returns
  have hg : ∀ w ∈ GT, w.before ([.ref h0, .int sd, .int what] : List Value).toArray s = true := fun w h => atoms_spec (ws := Cond.code yX11_carry cX11_carry 9 (some .int) :: GT) Bd.pre w (List.mem_cons_of_mem _ h)
  have hown : s.vm.findClass RX11 = some m.cls := findClass_of_methodNamed Bd.named
  have hlocks := Bd.notSynchronized
  subst hsz
  have hA : ∀ q : Nat, s.heap.size ≤ q → (fun q : Nat => s.heap.size ≤ q) q := fun _ h => h
  have hS : va_S (fun q : Nat => s.heap.size ≤ q) s.heap s.heap [] := va_S.rf
  have hl := lv_entry ([.ref h0, .int sd, .int what]) (n := 9) (Nat.le_of_ble_eq_true rfl)
  rw [lg_entry_eq]
  generalize (lg_sl ([.ref h0, .int sd, .int what]) ++ List.replicate (9 - (lg_sl ([.ref h0, .int sd, .int what])).length) Slot.unset).toArray = ls at hl ⊢
  have hl : lv_has ls 9 [(0, .ref h0), (1, .int sd), (2, .int what)] := hl
  refine lv_iload_n hx hb dX11_carry_0 rfl (lv_at hl 2 rfl) ?_
  refine lv_i2l (v := what.toInt64) hx hb dX11_carry_1 rfl ?_
  refine lv_lconst (v := 0) hx hb dX11_carry_2 (by decide) ?_
  refine lv_ldc2 (v := 2) hx hb hown (hg _ wt_1056) dX11_carry_3 ?_
  have hPc := hP.sub (ws' := []) [] rfl
  refine va_calli (va_runS (As := [.long what.toInt64, .long 0, .long 2]) (rest := []) ⟨hx, hb, hml, hown, hg⟩ (c_X11_in l dC dI G _ what.toInt64 0 2) (kwS hg mfX11_in wt_992 ⟨Nat.le_of_ble_eq_true rfl, Nat.le_of_ble_eq_true rfl⟩) (preSR hK hPc) rfl rfl hl.1 rfl (lv_room (Nat.le_of_ble_eq_true rfl)) dX11_carry_6 ⟨Nat.le_of_ble_eq_true rfl, Nat.le_of_ble_eq_true rfl⟩) hS (fun q h1 h2 => absurd h2 (Nat.not_le.mpr h1)) (fun q h => hA q (Nat.le_trans hS.1 h)) (fun r1 ur1 t H1 locs ht hvm w2 hB hz1 hk1 hS => ?_)
  have hP := keepR hP hk1
  obtain ⟨w2, w2x⟩ := w2
  try simp only [l_ii, show (0 : Int64).toInt = 0 from by decide, show (2 : Int64).toInt = 2 from by decide] at w2
  subst w2
  refine lv_if_ne (tgt := 14) hx hb dX11_carry_9 rfl (fun c3 => ?_) (fun c3 => ?_)
  · skip
    have b4 := if10_p c3
    refine lv_iload_n hx hb dX11_carry_14 rfl (lv_at hl 1 rfl) ?_
    refine lv_istore_n (lv' := [(3, .int sd), (0, .ref h0), (1, .int sd), (2, .int what)]) hx hb dX11_carry_15 rfl hl (by decide) rfl (fun ls hl => ?_)
    refine lv_aload_n hx hb dX11_carry_16 rfl (lv_at hl 1 rfl) ?_
    have hPc := hP.sub (ws' := [(h0, .inr (11, [.ref st, .int (nI N), .int (nI B), .ref rp, .int vrs, .int vrb, .int vhs, .int vca, .int vxs, .int vxb, .ref tp, .int (nI T), .int vfa, .int vbr, .int vba, .int vsp, .int vhe, .int vtk, .int vva, .ref cu, .ref lt, .ref od, .ref th, .ref be, .ref ln, .int (nI S), .ref ma, .int (nI M), .ref ah, .ref bh, .ref ik, .ref la, .ref lg, .ref ce, .int vto])), (st, .inl (G 0, 196, .inl fst))]) [0, 1] rfl
    refine va_calli (va_runV (As := []) (rest := []) ⟨hx, hb, hml, hown, hg⟩ (c_X11_startNow l dC dI G _ h0 st N B rp tp T cu lt od th be ln S ma M ah bh ik la lg ce vrs vrb vhs vca vxs vxb vfa vbr vba vsp vhe vtk vva vto fst hN hB_ hT_ hS0 hM_ hst) (kwV hg mfX11_startNow wt_1044 ⟨Nat.le_of_ble_eq_true rfl, Nat.le_of_ble_eq_true rfl⟩) (preVR hK hPc (ci := 11) rfl rfl) rfl rfl hl.1 rfl (lv_room (Nat.le_of_ble_eq_true rfl)) dX11_carry_17 ⟨Nat.le_of_ble_eq_true rfl, Nat.le_of_ble_eq_true rfl⟩) hS (fun q h1 h2 => absurd h2 (Nat.not_le.mpr h1)) (fun q h => hA q (Nat.le_trans hS.1 h)) (fun r5 ur5 t H1 locs ht hvm w6 hB hz1 hk1 hS => ?_)
    have hP := keepR hP hk1
    obtain ⟨w6, w6x⟩ := w6
    obtain ⟨k7, w6, w6a, w6b⟩ := w6
    subst w6
    refine lv_istore (lv' := [(4, .int (nI k7)), (3, .int sd), (0, .ref h0), (1, .int sd), (2, .int what)]) hx hb dX11_carry_20 hl (by decide) rfl (fun ls hl => ?_)
    refine lv_iconst (v := 0) hx hb dX11_carry_22 rfl ?_
    refine lv_istore (lv' := [(5, .int 0), (4, .int (nI k7)), (3, .int sd), (0, .ref h0), (1, .int sd), (2, .int what)]) hx hb dX11_carry_23 hl (by decide) rfl (fun ls hl => ?_)
    refine lv_bipush (v := (-4)) hx hb dX11_carry_25 rfl ?_
    refine lv_istore (lv' := [(6, .int (-4)), (5, .int 0), (4, .int (nI k7)), (3, .int sd), (0, .ref h0), (1, .int sd), (2, .int what)]) hx hb dX11_carry_27 hl (by decide) rfl (fun ls hl => ?_)
    refine lv_iconst (v := 0) hx hb dX11_carry_29 rfl ?_
    refine lv_istore (lv' := [(7, .int 0), (6, .int (-4)), (5, .int 0), (4, .int (nI k7)), (3, .int sd), (0, .ref h0), (1, .int sd), (2, .int what)]) hx hb dX11_carry_30 hl (by decide) rfl (fun ls hl => ?_)
    have loop32_14 : ∀ (nf j8 : Nat), N + 1 ≤ j8 + nf → j8 ≤ N → ∀ (y9 : Int32) (y10 : Int32) (k12 : Nat) (y13 : Int32) (H : Heap) (locs : List Loc), k12 ≤ 9 → va_P (dC, dI) vwCl [(h0, .inr (11, [.ref st, .int (nI N), .int (nI B), .ref rp, .int vrs, .int vrb, .int vhs, .int vca, .int vxs, .int vxb, .ref tp, .int (nI T), .int vfa, .int vbr, .int vba, .int vsp, .int vhe, .int vtk, .int vva, .ref cu, .ref lt, .ref od, .ref th, .ref be, .ref ln, .int (nI S), .ref ma, .int (nI M), .ref ah, .ref bh, .ref ik, .ref la, .ref lg, .ref ce, .int vto])), (st, .inl (G 0, 196, .inl fst))] H → va_S (fun q : Nat => s.heap.size ≤ q) s.heap H locs → ∀ (ls : Array Slot), lv_has ls 9 [(7, .int (nI j8)), (6, .int y9), (5, .int y10), (4, .int (nI k12)), (3, .int y13), (0, .ref h0), (1, .int sd), (2, .int what)] → W p l e (headSpec (Cond.code yX11_carry cX11_carry 9 (some .int) :: GT) ({ frames := 3, cells := 0, slots := 0, locals := 72 } : Room)).room s m ([.ref h0, .int sd, .int what] : List Value).toArray below meth c H locs 0 0 (MQ below (va_Qi (fun (r : Int32) (u : Unit) => match u with | _ => (True) ∧ True) (fun _ _ => True) (fun q : Nat => s.heap.size ≤ q)) ([.ref h0, .int sd, .int what] : List Value).toArray s 0 0 (fun q : Nat => s.heap.size ≤ q)) (F0 m 32 ls []) := by
      intro nf
      induction nf with
      | zero => intro j8 h1 h2; exact absurd h1 (by omega)
      | succ nf ih32_14 =>
        intro j8 hn15 hj16 y9 y10 k12 y13 H locs hinv hP hS ls hl
        refine lv_iload hx hb dX11_carry_32 (lv_at hl 0 rfl) ?_
        refine lv_aload_n hx hb dX11_carry_34 rfl (lv_at hl 5 rfl) ?_
        refine va_get (D := (dC, dI)) (ci := 11) (v := .int (nI N)) (C := RX11) (T := TX11) (N := 35) hx hb hg inG11 hown hK.1 hP 0 rfl rfl 1 (Nat.le_of_ble_eq_true rfl) (hg _ wt_879) (fun _ h9 => h9) rfl dX11_carry_35 ?_
        have cut138_17 : ∀ (H : Heap) (locs : List Loc), va_P (dC, dI) vwCl [(h0, .inr (11, [.ref st, .int (nI N), .int (nI B), .ref rp, .int vrs, .int vrb, .int vhs, .int vca, .int vxs, .int vxb, .ref tp, .int (nI T), .int vfa, .int vbr, .int vba, .int vsp, .int vhe, .int vtk, .int vva, .ref cu, .ref lt, .ref od, .ref th, .ref be, .ref ln, .int (nI S), .ref ma, .int (nI M), .ref ah, .ref bh, .ref ik, .ref la, .ref lg, .ref ce, .int vto])), (st, .inl (G 0, 196, .inl fst))] H → va_S (fun q : Nat => s.heap.size ≤ q) s.heap H locs → ∀ (ls : Array Slot), lv_has ls 9 [(7, .int (nI j8)), (6, .int y9), (5, .int y10), (4, .int (nI k12)), (3, .int y13), (0, .ref h0), (1, .int sd), (2, .int what)] → W p l e (headSpec (Cond.code yX11_carry cX11_carry 9 (some .int) :: GT) ({ frames := 3, cells := 0, slots := 0, locals := 72 } : Room)).room s m ([.ref h0, .int sd, .int what] : List Value).toArray below meth c H locs 0 0 (MQ below (va_Qi (fun (r : Int32) (u : Unit) => match u with | _ => (True) ∧ True) (fun _ _ => True) (fun q : Nat => s.heap.size ≤ q)) ([.ref h0, .int sd, .int what] : List Value).toArray s 0 0 (fun q : Nat => s.heap.size ≤ q)) (F0 m 138 ls []) := by
          intro  H locs hP hS ls hl
          refine lv_iload_n hx hb dX11_carry_138 rfl (lv_at hl 7 rfl) ?_
          have cut159_19 : ∀ (y18 : Int32) (H : Heap) (locs : List Loc), va_P (dC, dI) vwCl [(h0, .inr (11, [.ref st, .int (nI N), .int (nI B), .ref rp, .int vrs, .int vrb, .int vhs, .int vca, .int vxs, .int vxb, .ref tp, .int (nI T), .int vfa, .int vbr, .int vba, .int vsp, .int vhe, .int vtk, .int vva, .ref cu, .ref lt, .ref od, .ref th, .ref be, .ref ln, .int (nI S), .ref ma, .int (nI M), .ref ah, .ref bh, .ref ik, .ref la, .ref lg, .ref ce, .int vto])), (st, .inl (G 0, 196, .inl fst))] H → va_S (fun q : Nat => s.heap.size ≤ q) s.heap H locs → ∀ (ls : Array Slot), lv_has ls 9 [(7, .int (nI j8)), (6, .int y9), (5, .int y10), (4, .int (nI k12)), (3, .int y13), (0, .ref h0), (1, .int sd), (2, .int what)] → W p l e (headSpec (Cond.code yX11_carry cX11_carry 9 (some .int) :: GT) ({ frames := 3, cells := 0, slots := 0, locals := 72 } : Room)).room s m ([.ref h0, .int sd, .int what] : List Value).toArray below meth c H locs 0 0 (MQ below (va_Qi (fun (r : Int32) (u : Unit) => match u with | _ => (True) ∧ True) (fun _ _ => True) (fun q : Nat => s.heap.size ≤ q)) ([.ref h0, .int sd, .int what] : List Value).toArray s 0 0 (fun q : Nat => s.heap.size ≤ q)) (F0 m 159 ls [.int y18]) := by
            intro y18 H locs hP hS ls hl
            have hpost : True := by
              trivial
            refine W.widen (k := 0) (n := 0) (Nat.le_of_ble_eq_true rfl) (Nat.le_of_ble_eq_true rfl) ?_
            exact W.iret (v := y18) hx hb hr (fun t ht hW => ⟨⟨y18, (), rfl, ⟨hpost, trivial⟩, trivial⟩, hS.F ht⟩) hS.2.2 dX11_carry_159
          refine lv_if_ne (tgt := 147) hx hb dX11_carry_139 rfl (fun c20 => ?_) (fun c20 => ?_)
          · skip
            refine lv_iload_n hx hb dX11_carry_147 rfl (lv_at hl 7 rfl) ?_
            refine lv_iconst (v := 1) hx hb dX11_carry_148 rfl ?_
            refine lv_icmp_ne (tgt := 157) hx hb dX11_carry_149 rfl (fun c21 => ?_) (fun c21 => ?_)
            · skip
              refine lv_iload hx hb dX11_carry_157 (lv_at hl 1 rfl) ?_
              exact cut159_19 y9 _ _ hP hS ls (lv_sub hl [0, 1, 2, 3, 4, 5, 6, 7] rfl)
            · skip
              refine lv_iload hx hb dX11_carry_152 (lv_at hl 2 rfl) ?_
              refine lv_goto (tgt := 159) hx hb dX11_carry_154 rfl ?_
              exact cut159_19 y10 _ _ hP hS ls (lv_sub hl [0, 1, 2, 3, 4, 5, 6, 7] rfl)
          · skip
            refine lv_iload hx hb dX11_carry_142 (lv_at hl 3 rfl) ?_
            refine lv_goto (tgt := 159) hx hb dX11_carry_144 rfl ?_
            exact cut159_19 (nI k12) _ _ hP hS ls (lv_sub hl [0, 1, 2, 3, 4, 5, 6, 7] rfl)
        refine lv_icmp_ge (tgt := 138) hx hb dX11_carry_38 rfl (fun c22 => ?_) (fun c22 => ?_)
        · skip
          have tn798_ : nIT j8 := fun _ => nI_toInt (by first | omega | (have t := leI c22; omega))
          have n23 : N ≤ j8 := by have t := leI c22; rw [show (nI (j8)).toInt = ((j8 : Nat) : Int) from tn798_ ()] at t; rw [show (nI (N)).toInt = ((N : Nat) : Int) from tn793_ ()] at t; omega
          exact cut138_17  _ _ hP hS ls (lv_sub hl [0, 1, 2, 3, 4, 5, 6, 7] rfl)
        · skip
          have tn799_ : nIT j8 := fun _ => nI_toInt (by first | omega | (have t := nleI c22; omega))
          have n24 : j8 < N := by have t := nleI c22; rw [show (nI (j8)).toInt = ((j8 : Nat) : Int) from tn799_ ()] at t; rw [show (nI (N)).toInt = ((N : Nat) : Int) from tn793_ ()] at t; omega
          refine lv_iload hx hb dX11_carry_41 (lv_at hl 3 rfl) ?_
          refine lv_if_le (tgt := 138) hx hb dX11_carry_43 rfl (fun c25 => ?_) (fun c25 => ?_)
          · skip
            have tn800_ : nIT k12 := fun _ => nI_toInt (by first | omega | (have t := leI c25; omega))
            have n26 : k12 ≤ 0 := by have t := leI c25; rw [show (nI (k12)).toInt = ((k12 : Nat) : Int) from tn800_ ()] at t; have : (0 : Int32).toInt = 0 := qI_0; omega
            exact cut138_17  _ _ hP hS ls (lv_sub hl [0, 1, 2, 3, 4, 5, 6, 7] rfl)
          · skip
            have tn801_ : nIT k12 := fun _ => nI_toInt (by first | omega | (have t := nleI c25; omega))
            have n27 : 0 < k12 := by have t := nleI c25; rw [show (nI (k12)).toInt = ((k12 : Nat) : Int) from tn801_ ()] at t; have : (0 : Int32).toInt = 0 := qI_0; omega
            refine lv_iload_n hx hb dX11_carry_46 rfl (lv_at hl 4 rfl) ?_
            refine lv_ldc (v := 1103515245) hx hb hown (hg _ wt_1195) dX11_carry_47 ?_
            refine lv_imul hx hb dX11_carry_49 ?_
            refine lv_sipush (v := 12345) hx hb dX11_carry_50 rfl ?_
            refine lv_iadd hx hb dX11_carry_53 ?_
            refine lv_topi (fun v28 ev28 => ?_)
            refine lv_istore_n (lv' := [(3, .int v28), (7, .int (nI j8)), (6, .int y9), (5, .int y10), (4, .int (nI k12)), (0, .ref h0), (1, .int sd), (2, .int what)]) hx hb dX11_carry_54 rfl hl (by decide) rfl (fun ls hl => ?_)
            refine lv_iload_n hx hb dX11_carry_55 rfl (lv_at hl 0 rfl) ?_
            refine lv_bipush (v := 16) hx hb dX11_carry_56 rfl ?_
            refine lv_ishr hx hb dX11_carry_58 ?_
            refine lv_sipush (v := 32767) hx hb dX11_carry_59 rfl ?_
            refine lv_iand hx hb dX11_carry_62 ?_
            refine lv_topi (fun v29 ev29 => ?_)
            refine lv_bipush (v := 20) hx hb dX11_carry_63 rfl ?_
            refine lv_irem hx hb dX11_carry_65 (by decide) ?_
            refine lv_aload_n hx hb dX11_carry_66 rfl (lv_at hl 5 rfl) ?_
            refine lv_iload hx hb dX11_carry_67 (lv_at hl 1 rfl) ?_
            refine lv_iconst (v := 0) hx hb dX11_carry_69 rfl ?_
            have hPc := hP.sub (ws' := [(h0, .inr (11, [.ref st, .int (nI N), .int (nI B), .ref rp, .int vrs, .int vrb, .int vhs, .int vca, .int vxs, .int vxb, .ref tp, .int (nI T), .int vfa, .int vbr, .int vba, .int vsp, .int vhe, .int vtk, .int vva, .ref cu, .ref lt, .ref od, .ref th, .ref be, .ref ln, .int (nI S), .ref ma, .int (nI M), .ref ah, .ref bh, .ref ik, .ref la, .ref lg, .ref ce, .int vto])), (st, .inl (G 0, 196, .inl fst))]) [0, 1] rfl
            have tn802_ : nIT k7 := fun _ => nI_toInt (by first | omega | (have t_b4 := b4; have t_w6a := w6a; have t_w6b := w6b; have t_hj16 := hj16; have t_hinv := hinv; have t_n24 := n24; have t_n27 := n27; omega))
            refine va_calli (va_runV (As := [.int (nI j8), .int 0]) (rest := [.int (v29 - v29 / 20 * 20)]) ⟨hx, hb, hml, hown, hg⟩ (c_X11_orderedHarm l dC dI G _ h0 j8 st N B rp tp T cu lt od th be ln S ma M ah bh ik la lg ce 0 vrs vrb vhs vca vxs vxb vfa vbr vba vsp vhe vtk vva vto fst hN hB_ hT_ hS0 hM_ (by first | omega | (have t_b4 := b4; have t_w6a := w6a; have t_w6b := w6b; have t_hj16 := hj16; have t_hinv := hinv; have t_n24 := n24; have t_n27 := n27; have t_n0 : (nI N).toInt = (N : Int) := tn793_ (); have t_n1 : (nI B).toInt = (B : Int) := tn794_ (); have t_n2 : (nI T).toInt = (T : Int) := tn795_ (); have t_n3 : (nI S).toInt = (S : Int) := tn796_ (); have t_n4 : (nI M).toInt = (M : Int) := tn797_ (); have t_n5 : (nI k7).toInt = (k7 : Int) := tn802_ (); have t_n6 : (nI j8).toInt = (j8 : Int) := tn799_ (); have t_n7 : (nI k12).toInt = (k12 : Int) := tn801_ (); omega)) hst) (kwV hg mfX11_orderedHarm wt_1123 ⟨Nat.le_of_ble_eq_true rfl, Nat.le_of_ble_eq_true rfl⟩) (preVR hK hPc (ci := 11) rfl rfl) rfl rfl hl.1 rfl (lv_room (Nat.le_of_ble_eq_true rfl)) dX11_carry_70 ⟨Nat.le_of_ble_eq_true rfl, Nat.le_of_ble_eq_true rfl⟩) hS (fun q h1 h2 => absurd h2 (Nat.not_le.mpr h1)) (fun q h => hA q (Nat.le_trans hS.1 h)) (fun r30 ur30 t H1 locs ht hvm w31 hB hz1 hk1 hS => ?_)
            have hP := keepR hP hk1
            obtain ⟨w31, w31x⟩ := w31
            have cut81_34 : ∀ (k33 : Nat) (H : Heap) (locs : List Loc), k33 ≤ 1 → va_P (dC, dI) vwCl [(h0, .inr (11, [.ref st, .int (nI N), .int (nI B), .ref rp, .int vrs, .int vrb, .int vhs, .int vca, .int vxs, .int vxb, .ref tp, .int (nI T), .int vfa, .int vbr, .int vba, .int vsp, .int vhe, .int vtk, .int vva, .ref cu, .ref lt, .ref od, .ref th, .ref be, .ref ln, .int (nI S), .ref ma, .int (nI M), .ref ah, .ref bh, .ref ik, .ref la, .ref lg, .ref ce, .int vto])), (st, .inl (G 0, 196, .inl fst))] H → va_S (fun q : Nat => s.heap.size ≤ q) s.heap H locs → ∀ (ls : Array Slot), lv_has ls 9 [(3, .int v28), (7, .int (nI j8)), (6, .int y9), (5, .int y10), (4, .int (nI k12)), (0, .ref h0), (1, .int sd), (2, .int what)] → W p l e (headSpec (Cond.code yX11_carry cX11_carry 9 (some .int) :: GT) ({ frames := 3, cells := 0, slots := 0, locals := 72 } : Room)).room s m ([.ref h0, .int sd, .int what] : List Value).toArray below meth c H locs 0 0 (MQ below (va_Qi (fun (r : Int32) (u : Unit) => match u with | _ => (True) ∧ True) (fun _ _ => True) (fun q : Nat => s.heap.size ≤ q)) ([.ref h0, .int sd, .int what] : List Value).toArray s 0 0 (fun q : Nat => s.heap.size ≤ q)) (F0 m 81 ls [.int (nI k33)]) := by
              intro k33 H locs hb_k33 hP hS ls hl
              refine lv_istore (lv' := [(8, .int (nI k33)), (3, .int v28), (7, .int (nI j8)), (6, .int y9), (5, .int y10), (4, .int (nI k12)), (0, .ref h0), (1, .int sd), (2, .int what)]) hx hb dX11_carry_81 hl (by decide) rfl (fun ls hl => ?_)
              refine lv_iload hx hb dX11_carry_83 (lv_at hl 0 rfl) ?_
              refine lv_if_eq (tgt := 95) hx hb dX11_carry_85 rfl (fun c35 => ?_) (fun c35 => ?_)
              · skip
                have tn803_ : nIT k33 := fun _ => nI_toInt (by first | omega | (have t := eqI c35; omega))
                have n36 : k33 = 0 := by have t := eqI c35; rw [show (nI (k33)).toInt = ((k33 : Nat) : Int) from tn803_ ()] at t; have : (0 : Int32).toInt = 0 := qI_0; omega
                refine lv_iload hx hb dX11_carry_95 (lv_at hl 5 rfl) ?_
                refine lv_iconst (v := 1) hx hb dX11_carry_97 rfl ?_
                have hPc := hP.sub (ws' := []) [] rfl
                refine va_calli (va_runS (As := [.int (nI k12), .int 1]) (rest := []) ⟨hx, hb, hml, hown, hg⟩ (c_X11_deeper l dC dI G _ k12 1 (by first | omega | (have t_b4 := b4; have t_w6a := w6a; have t_w6b := w6b; have t_hj16 := hj16; have t_hinv := hinv; have t_n24 := n24; have t_n27 := n27; have t_hb_k33 := hb_k33; have t_n36 := n36; have t_n0 : (nI N).toInt = (N : Int) := tn793_ (); have t_n1 : (nI B).toInt = (B : Int) := tn794_ (); have t_n2 : (nI T).toInt = (T : Int) := tn795_ (); have t_n3 : (nI S).toInt = (S : Int) := tn796_ (); have t_n4 : (nI M).toInt = (M : Int) := tn797_ (); have t_n5 : (nI k7).toInt = (k7 : Int) := tn802_ (); have t_n6 : (nI j8).toInt = (j8 : Int) := tn799_ (); have t_n7 : (nI k12).toInt = (k12 : Int) := tn801_ (); have t_n8 : (nI k33).toInt = (k33 : Int) := tn803_ (); have : (1 : Int32).toInt = 1 := qI_1; omega)) (by first | omega | (have t_b4 := b4; have t_w6a := w6a; have t_w6b := w6b; have t_hj16 := hj16; have t_hinv := hinv; have t_n24 := n24; have t_n27 := n27; have t_hb_k33 := hb_k33; have t_n36 := n36; have t_n0 : (nI N).toInt = (N : Int) := tn793_ (); have t_n1 : (nI B).toInt = (B : Int) := tn794_ (); have t_n2 : (nI T).toInt = (T : Int) := tn795_ (); have t_n3 : (nI S).toInt = (S : Int) := tn796_ (); have t_n4 : (nI M).toInt = (M : Int) := tn797_ (); have t_n5 : (nI k7).toInt = (k7 : Int) := tn802_ (); have t_n6 : (nI j8).toInt = (j8 : Int) := tn799_ (); have t_n7 : (nI k12).toInt = (k12 : Int) := tn801_ (); have t_n8 : (nI k33).toInt = (k33 : Int) := tn803_ (); have : (1 : Int32).toInt = 1 := qI_1; omega))) (kwS hg mfX11_deeper wt_1128 ⟨Nat.le_of_ble_eq_true rfl, Nat.le_of_ble_eq_true rfl⟩) (preSR hK hPc) rfl rfl hl.1 rfl (lv_room (Nat.le_of_ble_eq_true rfl)) dX11_carry_98 ⟨Nat.le_of_ble_eq_true rfl, Nat.le_of_ble_eq_true rfl⟩) hS (fun q h1 h2 => absurd h2 (Nat.not_le.mpr h1)) (fun q h => hA q (Nat.le_trans hS.1 h)) (fun r37 ur37 t H1 locs ht hvm w38 hB hz1 hk1 hS => ?_)
                have hP := keepR hP hk1
                obtain ⟨w38, w38x⟩ := w38
                have hs39 : k12 ≤ (min 9 (k12 + 1)) ∧ (min 9 (k12 + 1)) ≤ 9 := (by omega)
                subst w38
                refine lv_istore (lv' := [(4, .int (nI (min 9 (k12 + 1)))), (8, .int (nI k33)), (3, .int v28), (7, .int (nI j8)), (6, .int y9), (5, .int y10), (0, .ref h0), (1, .int sd), (2, .int what)]) hx hb dX11_carry_101 hl (by decide) rfl (fun ls hl => ?_)
                refine lv_iload hx hb dX11_carry_103 (lv_at hl 5 rfl) ?_
                refine lv_iload hx hb dX11_carry_105 (lv_at hl 1 rfl) ?_
                refine lv_if_eq (tgt := 114) hx hb dX11_carry_107 rfl (fun c40 => ?_) (fun c40 => ?_)
                · skip
                  have n41 : k33 = 0 := by have t := eqI c40; rw [show (nI (k33)).toInt = ((k33 : Nat) : Int) from tn803_ ()] at t; have : (0 : Int32).toInt = 0 := qI_0; omega
                  refine lv_iconst (v := 0) hx hb dX11_carry_114 rfl ?_
                  refine lv_iadd hx hb dX11_carry_115 ?_
                  refine lv_istore (lv' := [(5, .int (y10 + 0)), (4, .int (nI (min 9 (k12 + 1)))), (8, .int (nI k33)), (3, .int v28), (7, .int (nI j8)), (6, .int y9), (0, .ref h0), (1, .int sd), (2, .int what)]) hx hb dX11_carry_116 hl (by decide) rfl (fun ls hl => ?_)
                  refine lv_iload hx hb dX11_carry_118 (lv_at hl 1 rfl) ?_
                  refine lv_if_ne (tgt := 128) hx hb dX11_carry_120 rfl (fun c42 => ?_) (fun c42 => ?_)
                  · skip
                    have tn804_ : nIT (min 9 (k12 + 1)) := fun _ => nI_toInt (by first | omega | (have t := neI c42; omega))
                    have n43 : (min 9 (k12 + 1)) ≠ 0 := by have t := neI c42; rw [show (nI (min 9 (k12 + 1))).toInt = ((min 9 (k12 + 1) : Nat) : Int) from tn804_ ()] at t; have : (0 : Int32).toInt = 0 := qI_0; omega
                    refine lv_iload hx hb dX11_carry_128 (lv_at hl 5 rfl) ?_
                    refine lv_istore (lv' := [(6, .int y9), (5, .int (y10 + 0)), (4, .int (nI (min 9 (k12 + 1)))), (8, .int (nI k33)), (3, .int v28), (7, .int (nI j8)), (0, .ref h0), (1, .int sd), (2, .int what)]) hx hb dX11_carry_130 hl (by decide) rfl (fun ls hl => ?_)
                    refine lv_iinc (v := nI (j8 + 1)) (lv' := [(7, .int (nI (j8 + 1))), (6, .int y9), (5, .int (y10 + 0)), (4, .int (nI (min 9 (k12 + 1)))), (8, .int (nI k33)), (3, .int v28), (0, .ref h0), (1, .int sd), (2, .int what)]) hx hb dX11_carry_132 hl (k := 5) rfl (by rw [show Int32.ofInt 1 = nI 1 from by decide]; exact nI_add _ _) (by decide) rfl (fun ls hl => ?_)
                    refine lv_goto (tgt := 32) hx hb dX11_carry_135 rfl ?_
                    exact ih32_14 (j8 + 1) (by omega) (by omega) y9 (y10 + 0) (min 9 (k12 + 1)) v28 _ _ (by have t_b4 := b4; have t_w6a := w6a; have t_w6b := w6b; have t_hj16 := hj16; have t_hinv := hinv; have t_n24 := n24; have t_n27 := n27; have t_hb_k33 := hb_k33; have t_n36 := n36; have t_hs39 := hs39; have t_n41 := n41; have t_n43 := n43; have t_n0 : (nI N).toInt = (N : Int) := tn793_ (); have t_n1 : (nI B).toInt = (B : Int) := tn794_ (); have t_n2 : (nI T).toInt = (T : Int) := tn795_ (); have t_n3 : (nI S).toInt = (S : Int) := tn796_ (); have t_n4 : (nI M).toInt = (M : Int) := tn797_ (); have t_n5 : (nI k7).toInt = (k7 : Int) := tn802_ (); have t_n6 : (nI j8).toInt = (j8 : Int) := tn799_ (); have t_n7 : (nI k12).toInt = (k12 : Int) := tn801_ (); have t_n8 : (nI k33).toInt = (k33 : Int) := tn803_ (); omega) hP hS ls (lv_sub hl [0, 1, 2, 3, 5, 6, 7, 8] rfl)
                  · skip
                    have t_b4 := b4
                    have t_w6a := w6a
                    have t_w6b := w6b
                    have t_hj16 := hj16
                    have t_hinv := hinv
                    have t_n24 := n24
                    have t_n27 := n27
                    have t_hb_k33 := hb_k33
                    have t_n36 := n36
                    have t_hs39 := hs39
                    have t_n41 := n41
                    have t_c42 := eqI c42
                    have : (0 : Int32).toInt = 0 := qI_0
                    have t_n0 : (nI N).toInt = (N : Int) := tn793_ ()
                    have t_n1 : (nI B).toInt = (B : Int) := tn794_ ()
                    have t_n2 : (nI T).toInt = (T : Int) := tn795_ ()
                    have t_n3 : (nI S).toInt = (S : Int) := tn796_ ()
                    have t_n4 : (nI M).toInt = (M : Int) := tn797_ ()
                    have t_n5 : (nI k7).toInt = (k7 : Int) := tn802_ ()
                    have t_n6 : (nI j8).toInt = (j8 : Int) := tn799_ ()
                    have t_n7 : (nI k12).toInt = (k12 : Int) := tn801_ ()
                    have t_n8 : (nI k33).toInt = (k33 : Int) := tn803_ ()
                    have : (nI (min 9 (k12 + 1))).toInt = (((min 9 (k12 + 1)) : Nat) : Int) := nI_toInt (by omega)
                    exfalso; omega
                · skip
                  have t_b4 := b4
                  have t_w6a := w6a
                  have t_w6b := w6b
                  have t_hj16 := hj16
                  have t_hinv := hinv
                  have t_n24 := n24
                  have t_n27 := n27
                  have t_hb_k33 := hb_k33
                  have t_n36 := n36
                  have t_hs39 := hs39
                  have t_c40 := neI c40
                  have : (0 : Int32).toInt = 0 := qI_0
                  have t_n0 : (nI N).toInt = (N : Int) := tn793_ ()
                  have t_n1 : (nI B).toInt = (B : Int) := tn794_ ()
                  have t_n2 : (nI T).toInt = (T : Int) := tn795_ ()
                  have t_n3 : (nI S).toInt = (S : Int) := tn796_ ()
                  have t_n4 : (nI M).toInt = (M : Int) := tn797_ ()
                  have t_n5 : (nI k7).toInt = (k7 : Int) := tn802_ ()
                  have t_n6 : (nI j8).toInt = (j8 : Int) := tn799_ ()
                  have t_n7 : (nI k12).toInt = (k12 : Int) := tn801_ ()
                  have t_n8 : (nI k33).toInt = (k33 : Int) := tn803_ ()
                  exfalso; omega
              · skip
                have tn805_ : nIT k33 := fun _ => nI_toInt (by first | omega | (have t := neI c35; omega))
                have n44 : k33 ≠ 0 := by have t := neI c35; rw [show (nI (k33)).toInt = ((k33 : Nat) : Int) from tn805_ ()] at t; have : (0 : Int32).toInt = 0 := qI_0; omega
                refine lv_iload hx hb dX11_carry_88 (lv_at hl 5 rfl) ?_
                refine lv_iconst (v := 1) hx hb dX11_carry_90 rfl ?_
                refine lv_isub hx hb dX11_carry_91 ?_
                refine lv_cg (y := nI (k12 - 1)) (by rw [show (1 : Int32) = nI 1 from rfl]; exact pk_sub (by have t_b4 := b4; have t_w6a := w6a; have t_w6b := w6b; have t_hj16 := hj16; have t_hinv := hinv; have t_n24 := n24; have t_n27 := n27; have t_hb_k33 := hb_k33; have t_n44 := n44; have t_n0 : (nI N).toInt = (N : Int) := tn793_ (); have t_n1 : (nI B).toInt = (B : Int) := tn794_ (); have t_n2 : (nI T).toInt = (T : Int) := tn795_ (); have t_n3 : (nI S).toInt = (S : Int) := tn796_ (); have t_n4 : (nI M).toInt = (M : Int) := tn797_ (); have t_n5 : (nI k7).toInt = (k7 : Int) := tn802_ (); have t_n6 : (nI j8).toInt = (j8 : Int) := tn799_ (); have t_n7 : (nI k12).toInt = (k12 : Int) := tn801_ (); have t_n8 : (nI k33).toInt = (k33 : Int) := tn805_ (); omega)) ?_
                refine lv_goto (tgt := 101) hx hb dX11_carry_92 rfl ?_
                refine lv_istore (lv' := [(4, .int (nI (k12 - 1))), (8, .int (nI k33)), (3, .int v28), (7, .int (nI j8)), (6, .int y9), (5, .int y10), (0, .ref h0), (1, .int sd), (2, .int what)]) hx hb dX11_carry_101 hl (by decide) rfl (fun ls hl => ?_)
                refine lv_iload hx hb dX11_carry_103 (lv_at hl 5 rfl) ?_
                refine lv_iload hx hb dX11_carry_105 (lv_at hl 1 rfl) ?_
                refine lv_if_eq (tgt := 114) hx hb dX11_carry_107 rfl (fun c45 => ?_) (fun c45 => ?_)
                · skip
                  have t_b4 := b4
                  have t_w6a := w6a
                  have t_w6b := w6b
                  have t_hj16 := hj16
                  have t_hinv := hinv
                  have t_n24 := n24
                  have t_n27 := n27
                  have t_hb_k33 := hb_k33
                  have t_n44 := n44
                  have t_c45 := eqI c45
                  have : (0 : Int32).toInt = 0 := qI_0
                  have t_n0 : (nI N).toInt = (N : Int) := tn793_ ()
                  have t_n1 : (nI B).toInt = (B : Int) := tn794_ ()
                  have t_n2 : (nI T).toInt = (T : Int) := tn795_ ()
                  have t_n3 : (nI S).toInt = (S : Int) := tn796_ ()
                  have t_n4 : (nI M).toInt = (M : Int) := tn797_ ()
                  have t_n5 : (nI k7).toInt = (k7 : Int) := tn802_ ()
                  have t_n6 : (nI j8).toInt = (j8 : Int) := tn799_ ()
                  have t_n7 : (nI k12).toInt = (k12 : Int) := tn801_ ()
                  have t_n8 : (nI k33).toInt = (k33 : Int) := tn805_ ()
                  exfalso; omega
                · skip
                  have n46 : k33 ≠ 0 := by have t := neI c45; rw [show (nI (k33)).toInt = ((k33 : Nat) : Int) from tn805_ ()] at t; have : (0 : Int32).toInt = 0 := qI_0; omega
                  refine lv_iconst (v := 1) hx hb dX11_carry_110 rfl ?_
                  refine lv_goto (tgt := 115) hx hb dX11_carry_111 rfl ?_
                  refine lv_iadd hx hb dX11_carry_115 ?_
                  refine lv_istore (lv' := [(5, .int (y10 + 1)), (4, .int (nI (k12 - 1))), (8, .int (nI k33)), (3, .int v28), (7, .int (nI j8)), (6, .int y9), (0, .ref h0), (1, .int sd), (2, .int what)]) hx hb dX11_carry_116 hl (by decide) rfl (fun ls hl => ?_)
                  refine lv_iload hx hb dX11_carry_118 (lv_at hl 1 rfl) ?_
                  have cut130_48 : ∀ (y47 : Int32) (H : Heap) (locs : List Loc), va_P (dC, dI) vwCl [(h0, .inr (11, [.ref st, .int (nI N), .int (nI B), .ref rp, .int vrs, .int vrb, .int vhs, .int vca, .int vxs, .int vxb, .ref tp, .int (nI T), .int vfa, .int vbr, .int vba, .int vsp, .int vhe, .int vtk, .int vva, .ref cu, .ref lt, .ref od, .ref th, .ref be, .ref ln, .int (nI S), .ref ma, .int (nI M), .ref ah, .ref bh, .ref ik, .ref la, .ref lg, .ref ce, .int vto])), (st, .inl (G 0, 196, .inl fst))] H → va_S (fun q : Nat => s.heap.size ≤ q) s.heap H locs → ∀ (ls : Array Slot), lv_has ls 9 [(5, .int (y10 + 1)), (4, .int (nI (k12 - 1))), (8, .int (nI k33)), (3, .int v28), (7, .int (nI j8)), (6, .int y9), (0, .ref h0), (1, .int sd), (2, .int what)] → W p l e (headSpec (Cond.code yX11_carry cX11_carry 9 (some .int) :: GT) ({ frames := 3, cells := 0, slots := 0, locals := 72 } : Room)).room s m ([.ref h0, .int sd, .int what] : List Value).toArray below meth c H locs 0 0 (MQ below (va_Qi (fun (r : Int32) (u : Unit) => match u with | _ => (True) ∧ True) (fun _ _ => True) (fun q : Nat => s.heap.size ≤ q)) ([.ref h0, .int sd, .int what] : List Value).toArray s 0 0 (fun q : Nat => s.heap.size ≤ q)) (F0 m 130 ls [.int y47]) := by
                    intro y47 H locs hP hS ls hl
                    refine lv_istore (lv' := [(6, .int y47), (5, .int (y10 + 1)), (4, .int (nI (k12 - 1))), (8, .int (nI k33)), (3, .int v28), (7, .int (nI j8)), (0, .ref h0), (1, .int sd), (2, .int what)]) hx hb dX11_carry_130 hl (by decide) rfl (fun ls hl => ?_)
                    refine lv_iinc (v := nI (j8 + 1)) (lv' := [(7, .int (nI (j8 + 1))), (6, .int y47), (5, .int (y10 + 1)), (4, .int (nI (k12 - 1))), (8, .int (nI k33)), (3, .int v28), (0, .ref h0), (1, .int sd), (2, .int what)]) hx hb dX11_carry_132 hl (k := 5) rfl (by rw [show Int32.ofInt 1 = nI 1 from by decide]; exact nI_add _ _) (by decide) rfl (fun ls hl => ?_)
                    refine lv_goto (tgt := 32) hx hb dX11_carry_135 rfl ?_
                    exact ih32_14 (j8 + 1) (by omega) (by omega) y47 (y10 + 1) (k12 - 1) v28 _ _ (by have t_b4 := b4; have t_w6a := w6a; have t_w6b := w6b; have t_hj16 := hj16; have t_hinv := hinv; have t_n24 := n24; have t_n27 := n27; have t_hb_k33 := hb_k33; have t_n44 := n44; have t_n46 := n46; have t_n0 : (nI N).toInt = (N : Int) := tn793_ (); have t_n1 : (nI B).toInt = (B : Int) := tn794_ (); have t_n2 : (nI T).toInt = (T : Int) := tn795_ (); have t_n3 : (nI S).toInt = (S : Int) := tn796_ (); have t_n4 : (nI M).toInt = (M : Int) := tn797_ (); have t_n5 : (nI k7).toInt = (k7 : Int) := tn802_ (); have t_n6 : (nI j8).toInt = (j8 : Int) := tn799_ (); have t_n7 : (nI k12).toInt = (k12 : Int) := tn801_ (); have t_n8 : (nI k33).toInt = (k33 : Int) := tn805_ (); omega) hP hS ls (lv_sub hl [0, 1, 2, 3, 5, 6, 7, 8] rfl)
                  refine lv_if_ne (tgt := 128) hx hb dX11_carry_120 rfl (fun c49 => ?_) (fun c49 => ?_)
                  · skip
                    have tn806_ : nIT (k12 - 1) := fun _ => nI_toInt (by first | omega | (have t := neI c49; omega))
                    have n50 : (k12 - 1) ≠ 0 := by have t := neI c49; rw [show (nI (k12 - 1)).toInt = ((k12 - 1 : Nat) : Int) from tn806_ ()] at t; have : (0 : Int32).toInt = 0 := qI_0; omega
                    refine lv_iload hx hb dX11_carry_128 (lv_at hl 5 rfl) ?_
                    exact cut130_48 y9 _ _ hP hS ls (lv_sub hl [0, 1, 2, 3, 4, 5, 6, 7, 8] rfl)
                  · skip
                    have tn807_ : nIT (k12 - 1) := fun _ => nI_toInt (by first | omega | (have t := eqI c49; omega))
                    have n51 : (k12 - 1) = 0 := by have t := eqI c49; rw [show (nI (k12 - 1)).toInt = ((k12 - 1 : Nat) : Int) from tn807_ ()] at t; have : (0 : Int32).toInt = 0 := qI_0; omega
                    refine lv_iload hx hb dX11_carry_123 (lv_at hl 4 rfl) ?_
                    refine lv_goto (tgt := 130) hx hb dX11_carry_125 rfl ?_
                    exact cut130_48 (nI j8) _ _ hP hS ls (lv_sub hl [0, 1, 2, 3, 4, 5, 6, 7, 8] rfl)
            refine lv_icmp_ge (tgt := 80) hx hb dX11_carry_73 rfl (fun c52 => ?_) (fun c52 => ?_)
            · skip
              refine lv_iconst (v := 0) hx hb dX11_carry_80 rfl ?_
              exact cut81_34 0 _ _ (by omega) hP hS ls (lv_sub hl [0, 1, 2, 3, 4, 5, 6, 7] rfl)
            · skip
              refine lv_iconst (v := 1) hx hb dX11_carry_76 rfl ?_
              refine lv_goto (tgt := 81) hx hb dX11_carry_77 rfl ?_
              exact cut81_34 1 _ _ (by omega) hP hS ls (lv_sub hl [0, 1, 2, 3, 4, 5, 6, 7] rfl)
    have tn808_ : nIT k7 := fun _ => nI_toInt (by first | omega | (have t_b4 := b4; have t_w6a := w6a; have t_w6b := w6b; omega))
    exact loop32_14 (N + 1) 0 (by omega) (by omega) (-4) 0 k7 sd _ _ (by have t_b4 := b4; have t_w6a := w6a; have t_w6b := w6b; have t_n0 : (nI N).toInt = (N : Int) := tn793_ (); have t_n1 : (nI B).toInt = (B : Int) := tn794_ (); have t_n2 : (nI T).toInt = (T : Int) := tn795_ (); have t_n3 : (nI S).toInt = (S : Int) := tn796_ (); have t_n4 : (nI M).toInt = (M : Int) := tn797_ (); have t_n5 : (nI k7).toInt = (k7 : Int) := tn808_ (); omega) hP hS ls (lv_sub hl [0, 1, 2, 3, 4, 5, 6, 7] rfl)
  · skip
    have b53 := if10_n c3
    refine lv_iconst (v := (-1)) hx hb dX11_carry_12 rfl ?_
    have hpost : True := by
      trivial
    refine W.widen (k := 0) (n := 0) (Nat.le_of_ble_eq_true rfl) (Nat.le_of_ble_eq_true rfl) ?_
    exact W.iret (v := (-1)) hx hb hr (fun t ht hW => ⟨⟨(-1), (), rfl, ⟨hpost, trivial⟩, trivial⟩, hS.F ht⟩) hS.2.2 dX11_carry_13


set_option maxHeartbeats 1000000 in
set_option maxRecDepth 100000 in
theorem c_X11_isMarked (l : Launch) (dC : Nat → ClassId) (dI : Nat → Nat → Nat) (G : Nat → ClassId) (sz : Nat) (h0 st N B rp tp T cu lt od th be ln S ma M ah bh ik la lg ce : Nat) (x1 x2 vrs vrb vhs vca vxs vxb vfa vbr vba vsp vhe vtk vva vto : Int32) (fma : Nat → Int32) (hN : N ≤ 10) (hB : B ≤ 6) (hT : T ≤ 320) (hS0 : S ≤ 8) (hM : M ≤ 6) : Met l yX11_isMarked (Cond.code yX11_isMarked cX11_isMarked 5 (some .boolean) :: GT) ({ frames := 0, cells := 0, slots := 0, locals := 0 } : Room) (PcR [.ref h0, .int x1, .int x2] dC dI G [(h0, .inr (11, [.ref st, .int (nI N), .int (nI B), .ref rp, .int vrs, .int vrb, .int vhs, .int vca, .int vxs, .int vxb, .ref tp, .int (nI T), .int vfa, .int vbr, .int vba, .int vsp, .int vhe, .int vtk, .int vva, .ref cu, .ref lt, .ref od, .ref th, .ref be, .ref ln, .int (nI S), .ref ma, .int (nI M), .ref ah, .ref bh, .ref ik, .ref la, .ref lg, .ref ce, .int vto])), (ma, .inl (G 0, 12, .inl fma))] sz) (va_Qi (fun (r : Int32) (u : Unit) => match u with | _ => (r = 0 ∨ r = 1) ∧ True) (fun _ _ => True) (fun q : Nat => sz ≤ q)) 0 0 (fun q : Nat => sz ≤ q) := by
  have tn845_ : nIT N := fun _ => nI_toInt (by omega)
  have tn846_ : nIT B := fun _ => nI_toInt (by omega)
  have tn847_ : nIT T := fun _ => nI_toInt (by omega)
  have tn848_ : nIT S := fun _ => nI_toInt (by omega)
  have tn849_ : nIT M := fun _ => nI_toInt (by omega)
  refine Met.ofW (cc := cX11_isMarked) (maxL := 5) (ret := (some .boolean)) (by decide) rfl ?_
  intro p e s m args below meth c s₁ Bd hml hv
  obtain ⟨rfl, hsz, hP, hK⟩ := hv
  have hx := Bd.exec
  have hb := Bd.bytes
  have hr := Bd.returns
  have hg : ∀ w ∈ GT, w.before ([.ref h0, .int x1, .int x2] : List Value).toArray s = true := fun w h => atoms_spec (ws := Cond.code yX11_isMarked cX11_isMarked 5 (some .boolean) :: GT) Bd.pre w (List.mem_cons_of_mem _ h)
  have hown : s.vm.findClass RX11 = some m.cls := findClass_of_methodNamed Bd.named
  have hlocks := Bd.notSynchronized
  subst hsz
  have hA : ∀ q : Nat, s.heap.size ≤ q → (fun q : Nat => s.heap.size ≤ q) q := fun _ h => h
  have hS : va_S (fun q : Nat => s.heap.size ≤ q) s.heap s.heap [] := va_S.rf
  have hl := lv_entry ([.ref h0, .int x1, .int x2]) (n := 5) (Nat.le_of_ble_eq_true rfl)
  rw [lg_entry_eq]
  generalize (lg_sl ([.ref h0, .int x1, .int x2]) ++ List.replicate (5 - (lg_sl ([.ref h0, .int x1, .int x2])).length) Slot.unset).toArray = ls at hl ⊢
  have hl : lv_has ls 5 [(0, .ref h0), (1, .int x1), (2, .int x2)] := hl
  refine lv_iconst (v := 1) hx hb dX11_isMarked_0 rfl ?_
  refine lv_istore_n (lv' := [(3, .int 1), (0, .ref h0), (1, .int x1), (2, .int x2)]) hx hb dX11_isMarked_1 rfl hl (by decide) rfl (fun ls hl => ?_)
  refine lv_iconst (v := 0) hx hb dX11_isMarked_2 rfl ?_
  refine lv_istore (lv' := [(4, .int 0), (3, .int 1), (0, .ref h0), (1, .int x1), (2, .int x2)]) hx hb dX11_isMarked_3 hl (by decide) rfl (fun ls hl => ?_)
  have loop5_4 : ∀ (nf j1 : Nat), M + 1 ≤ j1 + nf → j1 ≤ M → ∀ (k3 : Nat) (H : Heap) (locs : List Loc), k3 ≤ 1 → va_P (dC, dI) vwCl [(h0, .inr (11, [.ref st, .int (nI N), .int (nI B), .ref rp, .int vrs, .int vrb, .int vhs, .int vca, .int vxs, .int vxb, .ref tp, .int (nI T), .int vfa, .int vbr, .int vba, .int vsp, .int vhe, .int vtk, .int vva, .ref cu, .ref lt, .ref od, .ref th, .ref be, .ref ln, .int (nI S), .ref ma, .int (nI M), .ref ah, .ref bh, .ref ik, .ref la, .ref lg, .ref ce, .int vto])), (ma, .inl (G 0, 12, .inl fma))] H → va_S (fun q : Nat => s.heap.size ≤ q) s.heap H locs → ∀ (ls : Array Slot), lv_has ls 5 [(4, .int (nI j1)), (3, .int (nI k3)), (0, .ref h0), (1, .int x1), (2, .int x2)] → W p l e (headSpec (Cond.code yX11_isMarked cX11_isMarked 5 (some .boolean) :: GT) ({ frames := 0, cells := 0, slots := 0, locals := 0 } : Room)).room s m ([.ref h0, .int x1, .int x2] : List Value).toArray below meth c H locs 0 0 (MQ below (va_Qi (fun (r : Int32) (u : Unit) => match u with | _ => (r = 0 ∨ r = 1) ∧ True) (fun _ _ => True) (fun q : Nat => s.heap.size ≤ q)) ([.ref h0, .int x1, .int x2] : List Value).toArray s 0 0 (fun q : Nat => s.heap.size ≤ q)) (F0 m 5 ls []) := by
    intro nf
    induction nf with
    | zero => intro j1 h1 h2; exact absurd h1 (by omega)
    | succ nf ih5_4 =>
      intro j1 hn5 hj6 k3 H locs hinv hP hS ls hl
      refine lv_iload hx hb dX11_isMarked_5 (lv_at hl 0 rfl) ?_
      refine lv_aload_n hx hb dX11_isMarked_7 rfl (lv_at hl 2 rfl) ?_
      refine va_get (D := (dC, dI)) (ci := 11) (v := .int (nI M)) (C := RX11) (T := TX11) (N := 35) hx hb hg inG11 hown hK.1 hP 0 rfl rfl 27 (Nat.le_of_ble_eq_true rfl) (hg _ wt_905) (fun _ h9 => h9) rfl dX11_isMarked_8 ?_
      refine lv_icmp_ge (tgt := 58) hx hb dX11_isMarked_11 rfl (fun c7 => ?_) (fun c7 => ?_)
      · skip
        have tn850_ : nIT j1 := fun _ => nI_toInt (by first | omega | (have t := leI c7; omega))
        have n8 : M ≤ j1 := by have t := leI c7; rw [show (nI (j1)).toInt = ((j1 : Nat) : Int) from tn850_ ()] at t; rw [show (nI (M)).toInt = ((M : Nat) : Int) from tn849_ ()] at t; omega
        refine lv_iload_n hx hb dX11_isMarked_58 rfl (lv_at hl 1 rfl) ?_
        have hpost : (nI k3 : Int32) = 0 ∨ (nI k3 : Int32) = 1 := by
          exact nI01 hinv
        refine W.widen (k := 0) (n := 0) (Nat.le_of_ble_eq_true rfl) (Nat.le_of_ble_eq_true rfl) ?_
        exact W.zret (v := nI k3) hx hb hr (by first | rfl | decide | exact zn01 (nI01 hinv)) (fun t ht hW => ⟨⟨nI k3, (), rfl, ⟨hpost, trivial⟩, trivial⟩, hS.F ht⟩) hS.2.2 dX11_isMarked_59
      · skip
        have tn851_ : nIT j1 := fun _ => nI_toInt (by first | omega | (have t := nleI c7; omega))
        have n9 : j1 < M := by have t := nleI c7; rw [show (nI (j1)).toInt = ((j1 : Nat) : Int) from tn851_ ()] at t; rw [show (nI (M)).toInt = ((M : Nat) : Int) from tn849_ ()] at t; omega
        refine lv_iload_n hx hb dX11_isMarked_14 rfl (lv_at hl 1 rfl) ?_
        have cut51_12 : ∀ (k11 : Nat) (H : Heap) (locs : List Loc), k11 ≤ 1 → va_P (dC, dI) vwCl [(h0, .inr (11, [.ref st, .int (nI N), .int (nI B), .ref rp, .int vrs, .int vrb, .int vhs, .int vca, .int vxs, .int vxb, .ref tp, .int (nI T), .int vfa, .int vbr, .int vba, .int vsp, .int vhe, .int vtk, .int vva, .ref cu, .ref lt, .ref od, .ref th, .ref be, .ref ln, .int (nI S), .ref ma, .int (nI M), .ref ah, .ref bh, .ref ik, .ref la, .ref lg, .ref ce, .int vto])), (ma, .inl (G 0, 12, .inl fma))] H → va_S (fun q : Nat => s.heap.size ≤ q) s.heap H locs → ∀ (ls : Array Slot), lv_has ls 5 [(4, .int (nI j1)), (3, .int (nI k3)), (0, .ref h0), (1, .int x1), (2, .int x2)] → W p l e (headSpec (Cond.code yX11_isMarked cX11_isMarked 5 (some .boolean) :: GT) ({ frames := 0, cells := 0, slots := 0, locals := 0 } : Room)).room s m ([.ref h0, .int x1, .int x2] : List Value).toArray below meth c H locs 0 0 (MQ below (va_Qi (fun (r : Int32) (u : Unit) => match u with | _ => (r = 0 ∨ r = 1) ∧ True) (fun _ _ => True) (fun q : Nat => s.heap.size ≤ q)) ([.ref h0, .int x1, .int x2] : List Value).toArray s 0 0 (fun q : Nat => s.heap.size ≤ q)) (F0 m 51 ls [.int (nI k11)]) := by
          intro k11 H locs hb_k11 hP hS ls hl
          refine lv_istore_n (lv' := [(3, .int (nI k11)), (4, .int (nI j1)), (0, .ref h0), (1, .int x1), (2, .int x2)]) hx hb dX11_isMarked_51 rfl hl (by decide) rfl (fun ls hl => ?_)
          refine lv_iinc (v := nI (j1 + 1)) (lv' := [(4, .int (nI (j1 + 1))), (3, .int (nI k11)), (0, .ref h0), (1, .int x1), (2, .int x2)]) hx hb dX11_isMarked_52 hl (k := 1) rfl (by rw [show Int32.ofInt 1 = nI 1 from by decide]; exact nI_add _ _) (by decide) rfl (fun ls hl => ?_)
          refine lv_goto (tgt := 5) hx hb dX11_isMarked_55 rfl ?_
          have tn852_ : nIT k3 := fun _ => nI_toInt (by first | omega | (have t_hj6 := hj6; have t_hinv := hinv; have t_n9 := n9; have t_hb_k11 := hb_k11; omega))
          have tn853_ : nIT k11 := fun _ => nI_toInt (by first | omega | (have t_hj6 := hj6; have t_hinv := hinv; have t_n9 := n9; have t_hb_k11 := hb_k11; omega))
          exact ih5_4 (j1 + 1) (by omega) (by omega) k11 _ _ (by have t_hj6 := hj6; have t_hinv := hinv; have t_n9 := n9; have t_hb_k11 := hb_k11; have t_n0 : (nI N).toInt = (N : Int) := tn845_ (); have t_n1 : (nI B).toInt = (B : Int) := tn846_ (); have t_n2 : (nI T).toInt = (T : Int) := tn847_ (); have t_n3 : (nI S).toInt = (S : Int) := tn848_ (); have t_n4 : (nI M).toInt = (M : Int) := tn849_ (); have t_n5 : (nI j1).toInt = (j1 : Int) := tn851_ (); have t_n6 : (nI k3).toInt = (k3 : Int) := tn852_ (); have t_n7 : (nI k11).toInt = (k11 : Int) := tn853_ (); omega) hP hS ls (lv_sub hl [0, 1, 2, 3, 4] rfl)
        refine lv_if_eq (tgt := 50) hx hb dX11_isMarked_15 rfl (fun c13 => ?_) (fun c13 => ?_)
        · skip
          have tn854_ : nIT k3 := fun _ => nI_toInt (by first | omega | (have t := eqI c13; omega))
          have n14 : k3 = 0 := by have t := eqI c13; rw [show (nI (k3)).toInt = ((k3 : Nat) : Int) from tn854_ ()] at t; have : (0 : Int32).toInt = 0 := qI_0; omega
          refine lv_iconst (v := 0) hx hb dX11_isMarked_50 rfl ?_
          exact cut51_12 0 _ _ (by omega) hP hS ls (lv_sub hl [0, 1, 2, 3, 4] rfl)
        · skip
          have tn855_ : nIT k3 := fun _ => nI_toInt (by first | omega | (have t := neI c13; omega))
          have n15 : k3 ≠ 0 := by have t := neI c13; rw [show (nI (k3)).toInt = ((k3 : Nat) : Int) from tn855_ ()] at t; have : (0 : Int32).toInt = 0 := qI_0; omega
          refine lv_aload_n hx hb dX11_isMarked_18 rfl (lv_at hl 2 rfl) ?_
          refine va_get (D := (dC, dI)) (ci := 11) (v := .ref ma) (C := RX11) (T := TX11) (N := 35) hx hb hg inG11 hown hK.1 hP 0 rfl rfl 26 (Nat.le_of_ble_eq_true rfl) (hg _ wt_904) (fun _ h9 => h9) rfl dX11_isMarked_19 ?_
          refine lv_iconst (v := 2) hx hb dX11_isMarked_22 rfl ?_
          refine lv_iload hx hb dX11_isMarked_23 (lv_at hl 0 rfl) ?_
          refine lv_imul hx hb dX11_isMarked_25 ?_
          refine lv_cg (y := nI (2 * j1)) (by rw [show (2 : Int32) = nI 2 from rfl]; exact pk_mul _ _) ?_
          refine va_iald hx hb hK.1 hP 1 0 rfl rfl (vp_in_nI (by first | omega | (have t_hj6 := hj6; have t_hinv := hinv; have t_n9 := n9; have t_n15 := n15; have t_n0 : (nI N).toInt = (N : Int) := tn845_ (); have t_n1 : (nI B).toInt = (B : Int) := tn846_ (); have t_n2 : (nI T).toInt = (T : Int) := tn847_ (); have t_n3 : (nI S).toInt = (S : Int) := tn848_ (); have t_n4 : (nI M).toInt = (M : Int) := tn849_ (); have t_n5 : (nI j1).toInt = (j1 : Int) := tn851_ (); have t_n6 : (nI k3).toInt = (k3 : Int) := tn855_ (); omega)) (by decide)) dX11_isMarked_26 ?_
          refine lv_cg (y := fma (2 * j1)) (by rw [nI_clamp (by omega)]) ?_
          refine lv_iload_n hx hb dX11_isMarked_27 rfl (lv_at hl 3 rfl) ?_
          have cut46_16 : ∀ (H : Heap) (locs : List Loc), va_P (dC, dI) vwCl [(h0, .inr (11, [.ref st, .int (nI N), .int (nI B), .ref rp, .int vrs, .int vrb, .int vhs, .int vca, .int vxs, .int vxb, .ref tp, .int (nI T), .int vfa, .int vbr, .int vba, .int vsp, .int vhe, .int vtk, .int vva, .ref cu, .ref lt, .ref od, .ref th, .ref be, .ref ln, .int (nI S), .ref ma, .int (nI M), .ref ah, .ref bh, .ref ik, .ref la, .ref lg, .ref ce, .int vto])), (ma, .inl (G 0, 12, .inl fma))] H → va_S (fun q : Nat => s.heap.size ≤ q) s.heap H locs → ∀ (ls : Array Slot), lv_has ls 5 [(4, .int (nI j1)), (3, .int (nI k3)), (0, .ref h0), (1, .int x1), (2, .int x2)] → W p l e (headSpec (Cond.code yX11_isMarked cX11_isMarked 5 (some .boolean) :: GT) ({ frames := 0, cells := 0, slots := 0, locals := 0 } : Room)).room s m ([.ref h0, .int x1, .int x2] : List Value).toArray below meth c H locs 0 0 (MQ below (va_Qi (fun (r : Int32) (u : Unit) => match u with | _ => (r = 0 ∨ r = 1) ∧ True) (fun _ _ => True) (fun q : Nat => s.heap.size ≤ q)) ([.ref h0, .int x1, .int x2] : List Value).toArray s 0 0 (fun q : Nat => s.heap.size ≤ q)) (F0 m 46 ls []) := by
            intro  H locs hP hS ls hl
            refine lv_iconst (v := 1) hx hb dX11_isMarked_46 rfl ?_
            refine lv_goto (tgt := 51) hx hb dX11_isMarked_47 rfl ?_
            exact cut51_12 1 _ _ (by omega) hP hS ls (lv_sub hl [0, 1, 2, 3, 4] rfl)
          refine lv_icmp_ne (tgt := 46) hx hb dX11_isMarked_28 rfl (fun c17 => ?_) (fun c17 => ?_)
          · skip
            exact cut46_16  _ _ hP hS ls (lv_sub hl [0, 1, 2, 3, 4] rfl)
          · skip
            refine lv_aload_n hx hb dX11_isMarked_31 rfl (lv_at hl 2 rfl) ?_
            refine va_get (D := (dC, dI)) (ci := 11) (v := .ref ma) (C := RX11) (T := TX11) (N := 35) hx hb hg inG11 hown hK.1 hP 0 rfl rfl 26 (Nat.le_of_ble_eq_true rfl) (hg _ wt_904) (fun _ h9 => h9) rfl dX11_isMarked_32 ?_
            refine lv_iconst (v := 2) hx hb dX11_isMarked_35 rfl ?_
            refine lv_iload hx hb dX11_isMarked_36 (lv_at hl 0 rfl) ?_
            refine lv_imul hx hb dX11_isMarked_38 ?_
            refine lv_cg (y := nI (2 * j1)) (by rw [show (2 : Int32) = nI 2 from rfl]; exact pk_mul _ _) ?_
            refine lv_iconst (v := 1) hx hb dX11_isMarked_39 rfl ?_
            refine lv_iadd hx hb dX11_isMarked_40 ?_
            refine lv_cg (y := nI ((2 * j1) + 1)) (by rw [show (1 : Int32) = nI 1 from rfl]; exact nI_add _ _) ?_
            refine va_iald hx hb hK.1 hP 1 0 rfl rfl (vp_in_nI (by first | omega | (have t_hj6 := hj6; have t_hinv := hinv; have t_n9 := n9; have t_n15 := n15; have t_c17 := eqI c17; have t_n0 : (nI N).toInt = (N : Int) := tn845_ (); have t_n1 : (nI B).toInt = (B : Int) := tn846_ (); have t_n2 : (nI T).toInt = (T : Int) := tn847_ (); have t_n3 : (nI S).toInt = (S : Int) := tn848_ (); have t_n4 : (nI M).toInt = (M : Int) := tn849_ (); have t_n5 : (nI j1).toInt = (j1 : Int) := tn851_ (); have t_n6 : (nI k3).toInt = (k3 : Int) := tn855_ (); omega)) (by decide)) dX11_isMarked_41 ?_
            refine lv_cg (y := fma ((2 * j1) + 1)) (by rw [nI_clamp (by omega)]) ?_
            refine lv_iload_n hx hb dX11_isMarked_42 rfl (lv_at hl 4 rfl) ?_
            refine lv_icmp_ne (tgt := 50) hx hb dX11_isMarked_43 rfl (fun c18 => ?_) (fun c18 => ?_)
            · skip
              refine lv_iconst (v := 0) hx hb dX11_isMarked_50 rfl ?_
              exact cut51_12 0 _ _ (by omega) hP hS ls (lv_sub hl [0, 1, 2, 3, 4] rfl)
            · skip
              exact cut46_16  _ _ hP hS ls (lv_sub hl [0, 1, 2, 3, 4] rfl)
  exact loop5_4 (M + 1) 0 (by omega) (by omega) 1 _ _ (by have t_n0 : (nI N).toInt = (N : Int) := tn845_ (); have t_n1 : (nI B).toInt = (B : Int) := tn846_ (); have t_n2 : (nI T).toInt = (T : Int) := tn847_ (); have t_n3 : (nI S).toInt = (S : Int) := tn848_ (); have t_n4 : (nI M).toInt = (M : Int) := tn849_ (); omega) hP hS ls (lv_sub hl [0, 1, 2, 3, 4] rfl)

set_option maxHeartbeats 1000000 in
set_option maxRecDepth 100000 in
theorem c_X11_depthThen (l : Launch) (dC : Nat → ClassId) (dI : Nat → Nat → Nat) (G : Nat → ClassId) (sz : Nat) (h0 i d st N B rp tp T cu lt od th be ln S ma M ah bh ik la lg ce : Nat) (x2 vrs vrb vhs vca vxs vxb vfa vbr vba vsp vhe vtk vva vto : Int32) (fst : Nat → Int32) (fma : Nat → Int32) (hN : N ≤ 10) (hB : B ≤ 6) (hT : T ≤ 320) (hS0 : S ≤ 8) (hM : M ≤ 6) (hst : OKS fst) (hi : i < 10) (hd9 : d ≤ 9) : Met l yX11_depthThen (Cond.code yX11_depthThen cX11_depthThen 6 (some .int) :: GT) ({ frames := 3, cells := 0, slots := 0, locals := 72 } : Room) (PcR [.ref h0, .int (nI i), .int (nI d), .int x2] dC dI G [(h0, .inr (11, [.ref st, .int (nI N), .int (nI B), .ref rp, .int vrs, .int vrb, .int vhs, .int vca, .int vxs, .int vxb, .ref tp, .int (nI T), .int vfa, .int vbr, .int vba, .int vsp, .int vhe, .int vtk, .int vva, .ref cu, .ref lt, .ref od, .ref th, .ref be, .ref ln, .int (nI S), .ref ma, .int (nI M), .ref ah, .ref bh, .ref ik, .ref la, .ref lg, .ref ce, .int vto])), (st, .inl (G 0, 196, .inl fst)), (ma, .inl (G 0, 12, .inl fma))] sz) (va_Qi (fun (r : Int32) (u : Unit) => match u with | _ => (r = -4 ∨ ∃ k : Nat, r = nI k ∧ k ≤ 9) ∧ True) (fun _ _ => True) (fun q : Nat => sz ≤ q)) 0 0 (fun q : Nat => sz ≤ q) := by
  have hB_ := hB
  have hM_ := hM
  have hT_ := hT
  have tn856_ : nIT N := fun _ => nI_toInt (by omega)
  have tn857_ : nIT B := fun _ => nI_toInt (by omega)
  have tn858_ : nIT T := fun _ => nI_toInt (by omega)
  have tn859_ : nIT S := fun _ => nI_toInt (by omega)
  have tn860_ : nIT M := fun _ => nI_toInt (by omega)
  refine Met.ofW (cc := cX11_depthThen) (maxL := 6) (ret := (some .int)) (by decide) rfl ?_
  intro p e s m args below meth c s₁ Bd hml hv
  obtain ⟨rfl, hsz, hP, hK⟩ := hv
  have hx := Bd.exec
  have hb := Bd.bytes
  have hr := Bd.returns
  have hg : ∀ w ∈ GT, w.before ([.ref h0, .int (nI i), .int (nI d), .int x2] : List Value).toArray s = true := fun w h => atoms_spec (ws := Cond.code yX11_depthThen cX11_depthThen 6 (some .int) :: GT) Bd.pre w (List.mem_cons_of_mem _ h)
  have hown : s.vm.findClass RX11 = some m.cls := findClass_of_methodNamed Bd.named
  have hlocks := Bd.notSynchronized
  subst hsz
  have hA : ∀ q : Nat, s.heap.size ≤ q → (fun q : Nat => s.heap.size ≤ q) q := fun _ h => h
  have hS : va_S (fun q : Nat => s.heap.size ≤ q) s.heap s.heap [] := va_S.rf
  have hl := lv_entry ([.ref h0, .int (nI i), .int (nI d), .int x2]) (n := 6) (Nat.le_of_ble_eq_true rfl)
  rw [lg_entry_eq]
  generalize (lg_sl ([.ref h0, .int (nI i), .int (nI d), .int x2]) ++ List.replicate (6 - (lg_sl ([.ref h0, .int (nI i), .int (nI d), .int x2])).length) Slot.unset).toArray = ls at hl ⊢
  have hl : lv_has ls 6 [(0, .ref h0), (1, .int (nI i)), (2, .int (nI d)), (3, .int x2)] := hl
  refine lv_aload_n hx hb dX11_depthThen_0 rfl (lv_at hl 0 rfl) ?_
  refine lv_iload_n hx hb dX11_depthThen_1 rfl (lv_at hl 1 rfl) ?_
  refine lv_iconst (v := 0) hx hb dX11_depthThen_2 rfl ?_
  have hPc := hP.sub (ws' := [(h0, .inr (11, [.ref st, .int (nI N), .int (nI B), .ref rp, .int vrs, .int vrb, .int vhs, .int vca, .int vxs, .int vxb, .ref tp, .int (nI T), .int vfa, .int vbr, .int vba, .int vsp, .int vhe, .int vtk, .int vva, .ref cu, .ref lt, .ref od, .ref th, .ref be, .ref ln, .int (nI S), .ref ma, .int (nI M), .ref ah, .ref bh, .ref ik, .ref la, .ref lg, .ref ce, .int vto])), (st, .inl (G 0, 196, .inl fst))]) [0, 1] rfl
  have tn861_ : nIT i := fun _ => nI_toInt (by omega)
  have tn862_ : nIT d := fun _ => nI_toInt (by omega)
  refine va_calli (va_runV (As := [.int (nI i), .int 0]) (rest := []) ⟨hx, hb, hml, hown, hg⟩ (c_X11_orderedHarm l dC dI G _ h0 i st N B rp tp T cu lt od th be ln S ma M ah bh ik la lg ce 0 vrs vrb vhs vca vxs vxb vfa vbr vba vsp vhe vtk vva vto fst hN hB_ hT_ hS0 hM_ hi hst) (kwV hg mfX11_orderedHarm wt_1123 ⟨Nat.le_of_ble_eq_true rfl, Nat.le_of_ble_eq_true rfl⟩) (preVR hK hPc (ci := 11) rfl rfl) rfl rfl hl.1 rfl (lv_room (Nat.le_of_ble_eq_true rfl)) dX11_depthThen_3 ⟨Nat.le_of_ble_eq_true rfl, Nat.le_of_ble_eq_true rfl⟩) hS (fun q h1 h2 => absurd h2 (Nat.not_le.mpr h1)) (fun q h => hA q (Nat.le_trans hS.1 h)) (fun r1 ur1 t H1 locs ht hvm w2 hB hz1 hk1 hS => ?_)
  have hP := keepR hP hk1
  obtain ⟨w2, w2x⟩ := w2
  refine lv_istore (lv' := [(4, .int r1), (0, .ref h0), (1, .int (nI i)), (2, .int (nI d)), (3, .int x2)]) hx hb dX11_depthThen_6 hl (by decide) rfl (fun ls hl => ?_)
  refine lv_iload_n hx hb dX11_depthThen_8 rfl (lv_at hl 3 rfl) ?_
  refine lv_if_eq (tgt := 31) hx hb dX11_depthThen_9 rfl (fun c3 => ?_) (fun c3 => ?_)
  · skip
    have n4 : d = 0 := by have t := eqI c3; rw [show (nI (d)).toInt = ((d : Nat) : Int) from tn862_ ()] at t; have : (0 : Int32).toInt = 0 := qI_0; omega
    refine lv_bipush (v := (-4)) hx hb dX11_depthThen_31 rfl ?_
    have hpost : ((-4) : Int32) = -4 ∨ ∃ k : Nat, ((-4) : Int32) = nI k ∧ k ≤ 9 := by
      exact Or.inl rfl
    refine W.widen (k := 0) (n := 0) (Nat.le_of_ble_eq_true rfl) (Nat.le_of_ble_eq_true rfl) ?_
    exact W.iret (v := (-4)) hx hb hr (fun t ht hW => ⟨⟨(-4), (), rfl, ⟨hpost, trivial⟩, trivial⟩, hS.F ht⟩) hS.2.2 dX11_depthThen_33
  · skip
    have n5 : d ≠ 0 := by have t := neI c3; rw [show (nI (d)).toInt = ((d : Nat) : Int) from tn862_ ()] at t; have : (0 : Int32).toInt = 0 := qI_0; omega
    refine lv_iload_n hx hb dX11_depthThen_12 rfl (lv_at hl 4 rfl) ?_
    refine lv_if_eq (tgt := 24) hx hb dX11_depthThen_13 rfl (fun c6 => ?_) (fun c6 => ?_)
    · skip
      refine lv_iload hx hb dX11_depthThen_24 (lv_at hl 0 rfl) ?_
      refine lv_bipush (v := 20) hx hb dX11_depthThen_26 rfl ?_
      refine lv_icmp_ne (tgt := 34) hx hb dX11_depthThen_28 rfl (fun c7 => ?_) (fun c7 => ?_)
      · skip
        refine lv_iload_n hx hb dX11_depthThen_34 rfl (lv_at hl 4 rfl) ?_
        refine lv_if_eq (tgt := 44) hx hb dX11_depthThen_35 rfl (fun c8 => ?_) (fun c8 => ?_)
        · skip
          refine lv_iload_n hx hb dX11_depthThen_44 rfl (lv_at hl 3 rfl) ?_
          refine lv_iconst (v := 1) hx hb dX11_depthThen_45 rfl ?_
          have hPc := hP.sub (ws' := []) [] rfl
          refine va_calli (va_runS (As := [.int (nI d), .int 1]) (rest := []) ⟨hx, hb, hml, hown, hg⟩ (c_X11_deeper l dC dI G _ d 1 hd9 (by first | omega | (have t_n5 := n5; have t_c6 := eqI c6; have t_c7 := neI c7; have t_c8 := eqI c8; have : (0 : Int32).toInt = 0 := qI_0; have : (20 : Int32).toInt = 20 := qI_20; have t_n0 : (nI i).toInt = (i : Int) := tn861_ (); have t_n1 : (nI d).toInt = (d : Int) := tn862_ (); have t_n2 : (nI N).toInt = (N : Int) := tn856_ (); have t_n3 : (nI B).toInt = (B : Int) := tn857_ (); have t_n4 : (nI T).toInt = (T : Int) := tn858_ (); have t_n5 : (nI S).toInt = (S : Int) := tn859_ (); have t_n6 : (nI M).toInt = (M : Int) := tn860_ (); have : (1 : Int32).toInt = 1 := qI_1; omega))) (kwS hg mfX11_deeper wt_1128 ⟨Nat.le_of_ble_eq_true rfl, Nat.le_of_ble_eq_true rfl⟩) (preSR hK hPc) rfl rfl hl.1 rfl (lv_room (Nat.le_of_ble_eq_true rfl)) dX11_depthThen_46 ⟨Nat.le_of_ble_eq_true rfl, Nat.le_of_ble_eq_true rfl⟩) hS (fun q h1 h2 => absurd h2 (Nat.not_le.mpr h1)) (fun q h => hA q (Nat.le_trans hS.1 h)) (fun r9 ur9 t H1 locs ht hvm w10 hB hz1 hk1 hS => ?_)
          have hP := keepR hP hk1
          obtain ⟨w10, w10x⟩ := w10
          have hs11 : d ≤ (min 9 (d + 1)) ∧ (min 9 (d + 1)) ≤ 9 := (by omega)
          subst w10
          refine lv_istore (lv' := [(5, .int (nI (min 9 (d + 1)))), (4, .int r1), (0, .ref h0), (1, .int (nI i)), (2, .int (nI d)), (3, .int x2)]) hx hb dX11_depthThen_49 hl (by decide) rfl (fun ls hl => ?_)
          refine lv_aload_n hx hb dX11_depthThen_51 rfl (lv_at hl 2 rfl) ?_
          refine lv_iload_n hx hb dX11_depthThen_52 rfl (lv_at hl 3 rfl) ?_
          refine lv_iload hx hb dX11_depthThen_53 (lv_at hl 0 rfl) ?_
          have hPc := hP.sub (ws' := [(h0, .inr (11, [.ref st, .int (nI N), .int (nI B), .ref rp, .int vrs, .int vrb, .int vhs, .int vca, .int vxs, .int vxb, .ref tp, .int (nI T), .int vfa, .int vbr, .int vba, .int vsp, .int vhe, .int vtk, .int vva, .ref cu, .ref lt, .ref od, .ref th, .ref be, .ref ln, .int (nI S), .ref ma, .int (nI M), .ref ah, .ref bh, .ref ik, .ref la, .ref lg, .ref ce, .int vto])), (ma, .inl (G 0, 12, .inl fma))]) [0, 2] rfl
          refine va_calli (va_runV (As := [.int (nI i), .int (nI (min 9 (d + 1)))]) (rest := []) ⟨hx, hb, hml, hown, hg⟩ (c_X11_isMarked l dC dI G _ h0 st N B rp tp T cu lt od th be ln S ma M ah bh ik la lg ce (nI i) (nI (min 9 (d + 1))) vrs vrb vhs vca vxs vxb vfa vbr vba vsp vhe vtk vva vto fma hN hB_ hT_ hS0 hM_) (kwV hg mfX11_isMarked wt_1228 ⟨Nat.le_of_ble_eq_true rfl, Nat.le_of_ble_eq_true rfl⟩) (preVR hK hPc (ci := 11) rfl rfl) rfl rfl hl.1 rfl (lv_room (Nat.le_of_ble_eq_true rfl)) dX11_depthThen_55 ⟨Nat.le_of_ble_eq_true rfl, Nat.le_of_ble_eq_true rfl⟩) hS (fun q h1 h2 => absurd h2 (Nat.not_le.mpr h1)) (fun q h => hA q (Nat.le_trans hS.1 h)) (fun r12 ur12 t H1 locs ht hvm w13 hB hz1 hk1 hS => ?_)
          have hP := keepR hP hk1
          obtain ⟨w13, w13x⟩ := w13
          refine lv_if_eq (tgt := 66) hx hb dX11_depthThen_58 rfl (fun c14 => ?_) (fun c14 => ?_)
          · skip
            refine lv_bipush (v := (-4)) hx hb dX11_depthThen_66 rfl ?_
            have hpost : ((-4) : Int32) = -4 ∨ ∃ k : Nat, ((-4) : Int32) = nI k ∧ k ≤ 9 := by
              exact Or.inl rfl
            refine W.widen (k := 0) (n := 0) (Nat.le_of_ble_eq_true rfl) (Nat.le_of_ble_eq_true rfl) ?_
            exact W.iret (v := (-4)) hx hb hr (fun t ht hW => ⟨⟨(-4), (), rfl, ⟨hpost, trivial⟩, trivial⟩, hS.F ht⟩) hS.2.2 dX11_depthThen_68
          · skip
            refine lv_iload hx hb dX11_depthThen_61 (lv_at hl 0 rfl) ?_
            refine lv_goto (tgt := 68) hx hb dX11_depthThen_63 rfl ?_
            have hpost : (nI (min 9 (d + 1)) : Int32) = -4 ∨ ∃ k : Nat, (nI (min 9 (d + 1)) : Int32) = nI k ∧ k ≤ 9 := by
              have t_n5 := n5
              have t_c6 := eqI c6
              have t_c7 := neI c7
              have t_c8 := eqI c8
              have t_hs11 := hs11
              have t_c14 := neI c14
              have : (0 : Int32).toInt = 0 := qI_0
              have : (20 : Int32).toInt = 20 := qI_20
              have t_n0 : (nI i).toInt = (i : Int) := tn861_ ()
              have t_n1 : (nI d).toInt = (d : Int) := tn862_ ()
              have t_n2 : (nI N).toInt = (N : Int) := tn856_ ()
              have t_n3 : (nI B).toInt = (B : Int) := tn857_ ()
              have t_n4 : (nI T).toInt = (T : Int) := tn858_ ()
              have t_n5 : (nI S).toInt = (S : Int) := tn859_ ()
              have t_n6 : (nI M).toInt = (M : Int) := tn860_ ()
              exact Or.inr ⟨(min 9 (d + 1)), rfl, by omega⟩
            refine W.widen (k := 0) (n := 0) (Nat.le_of_ble_eq_true rfl) (Nat.le_of_ble_eq_true rfl) ?_
            exact W.iret (v := nI (min 9 (d + 1))) hx hb hr (fun t ht hW => ⟨⟨nI (min 9 (d + 1)), (), rfl, ⟨hpost, trivial⟩, trivial⟩, hS.F ht⟩) hS.2.2 dX11_depthThen_68
        · skip
          have t_n5 := n5
          have t_c6 := eqI c6
          have t_c7 := neI c7
          have t_c8 := neI c8
          have : (0 : Int32).toInt = 0 := qI_0
          have : (20 : Int32).toInt = 20 := qI_20
          have t_n0 : (nI i).toInt = (i : Int) := tn861_ ()
          have t_n1 : (nI d).toInt = (d : Int) := tn862_ ()
          have t_n2 : (nI N).toInt = (N : Int) := tn856_ ()
          have t_n3 : (nI B).toInt = (B : Int) := tn857_ ()
          have t_n4 : (nI T).toInt = (T : Int) := tn858_ ()
          have t_n5 : (nI S).toInt = (S : Int) := tn859_ ()
          have t_n6 : (nI M).toInt = (M : Int) := tn860_ ()
          exfalso; omega
      · skip
        refine lv_bipush (v := (-4)) hx hb dX11_depthThen_31 rfl ?_
        have hpost : ((-4) : Int32) = -4 ∨ ∃ k : Nat, ((-4) : Int32) = nI k ∧ k ≤ 9 := by
          exact Or.inl rfl
        refine W.widen (k := 0) (n := 0) (Nat.le_of_ble_eq_true rfl) (Nat.le_of_ble_eq_true rfl) ?_
        exact W.iret (v := (-4)) hx hb hr (fun t ht hW => ⟨⟨(-4), (), rfl, ⟨hpost, trivial⟩, trivial⟩, hS.F ht⟩) hS.2.2 dX11_depthThen_33
    · skip
      refine lv_iload hx hb dX11_depthThen_16 (lv_at hl 0 rfl) ?_
      refine lv_if_ne (tgt := 34) hx hb dX11_depthThen_18 rfl (fun c15 => ?_) (fun c15 => ?_)
      · skip
        refine lv_iload_n hx hb dX11_depthThen_34 rfl (lv_at hl 4 rfl) ?_
        refine lv_if_eq (tgt := 44) hx hb dX11_depthThen_35 rfl (fun c16 => ?_) (fun c16 => ?_)
        · skip
          have t_n5 := n5
          have t_c6 := neI c6
          have t_c15 := neI c15
          have t_c16 := eqI c16
          have : (0 : Int32).toInt = 0 := qI_0
          have t_n0 : (nI i).toInt = (i : Int) := tn861_ ()
          have t_n1 : (nI d).toInt = (d : Int) := tn862_ ()
          have t_n2 : (nI N).toInt = (N : Int) := tn856_ ()
          have t_n3 : (nI B).toInt = (B : Int) := tn857_ ()
          have t_n4 : (nI T).toInt = (T : Int) := tn858_ ()
          have t_n5 : (nI S).toInt = (S : Int) := tn859_ ()
          have t_n6 : (nI M).toInt = (M : Int) := tn860_ ()
          exfalso; omega
        · skip
          refine lv_iload_n hx hb dX11_depthThen_38 rfl (lv_at hl 3 rfl) ?_
          refine lv_iconst (v := 1) hx hb dX11_depthThen_39 rfl ?_
          refine lv_isub hx hb dX11_depthThen_40 ?_
          refine lv_cg (y := nI (d - 1)) (by rw [show (1 : Int32) = nI 1 from rfl]; exact pk_sub (by have t_n5 := n5; have t_c6 := neI c6; have t_c15 := neI c15; have t_c16 := neI c16; have : (0 : Int32).toInt = 0 := qI_0; have t_n0 : (nI i).toInt = (i : Int) := tn861_ (); have t_n1 : (nI d).toInt = (d : Int) := tn862_ (); have t_n2 : (nI N).toInt = (N : Int) := tn856_ (); have t_n3 : (nI B).toInt = (B : Int) := tn857_ (); have t_n4 : (nI T).toInt = (T : Int) := tn858_ (); have t_n5 : (nI S).toInt = (S : Int) := tn859_ (); have t_n6 : (nI M).toInt = (M : Int) := tn860_ (); omega)) ?_
          refine lv_goto (tgt := 49) hx hb dX11_depthThen_41 rfl ?_
          refine lv_istore (lv' := [(5, .int (nI (d - 1))), (4, .int r1), (0, .ref h0), (1, .int (nI i)), (2, .int (nI d)), (3, .int x2)]) hx hb dX11_depthThen_49 hl (by decide) rfl (fun ls hl => ?_)
          refine lv_aload_n hx hb dX11_depthThen_51 rfl (lv_at hl 2 rfl) ?_
          refine lv_iload_n hx hb dX11_depthThen_52 rfl (lv_at hl 3 rfl) ?_
          refine lv_iload hx hb dX11_depthThen_53 (lv_at hl 0 rfl) ?_
          have hPc := hP.sub (ws' := [(h0, .inr (11, [.ref st, .int (nI N), .int (nI B), .ref rp, .int vrs, .int vrb, .int vhs, .int vca, .int vxs, .int vxb, .ref tp, .int (nI T), .int vfa, .int vbr, .int vba, .int vsp, .int vhe, .int vtk, .int vva, .ref cu, .ref lt, .ref od, .ref th, .ref be, .ref ln, .int (nI S), .ref ma, .int (nI M), .ref ah, .ref bh, .ref ik, .ref la, .ref lg, .ref ce, .int vto])), (ma, .inl (G 0, 12, .inl fma))]) [0, 2] rfl
          refine va_calli (va_runV (As := [.int (nI i), .int (nI (d - 1))]) (rest := []) ⟨hx, hb, hml, hown, hg⟩ (c_X11_isMarked l dC dI G _ h0 st N B rp tp T cu lt od th be ln S ma M ah bh ik la lg ce (nI i) (nI (d - 1)) vrs vrb vhs vca vxs vxb vfa vbr vba vsp vhe vtk vva vto fma hN hB_ hT_ hS0 hM_) (kwV hg mfX11_isMarked wt_1228 ⟨Nat.le_of_ble_eq_true rfl, Nat.le_of_ble_eq_true rfl⟩) (preVR hK hPc (ci := 11) rfl rfl) rfl rfl hl.1 rfl (lv_room (Nat.le_of_ble_eq_true rfl)) dX11_depthThen_55 ⟨Nat.le_of_ble_eq_true rfl, Nat.le_of_ble_eq_true rfl⟩) hS (fun q h1 h2 => absurd h2 (Nat.not_le.mpr h1)) (fun q h => hA q (Nat.le_trans hS.1 h)) (fun r17 ur17 t H1 locs ht hvm w18 hB hz1 hk1 hS => ?_)
          have hP := keepR hP hk1
          obtain ⟨w18, w18x⟩ := w18
          refine lv_if_eq (tgt := 66) hx hb dX11_depthThen_58 rfl (fun c19 => ?_) (fun c19 => ?_)
          · skip
            refine lv_bipush (v := (-4)) hx hb dX11_depthThen_66 rfl ?_
            have hpost : ((-4) : Int32) = -4 ∨ ∃ k : Nat, ((-4) : Int32) = nI k ∧ k ≤ 9 := by
              exact Or.inl rfl
            refine W.widen (k := 0) (n := 0) (Nat.le_of_ble_eq_true rfl) (Nat.le_of_ble_eq_true rfl) ?_
            exact W.iret (v := (-4)) hx hb hr (fun t ht hW => ⟨⟨(-4), (), rfl, ⟨hpost, trivial⟩, trivial⟩, hS.F ht⟩) hS.2.2 dX11_depthThen_68
          · skip
            refine lv_iload hx hb dX11_depthThen_61 (lv_at hl 0 rfl) ?_
            refine lv_goto (tgt := 68) hx hb dX11_depthThen_63 rfl ?_
            have hpost : (nI (d - 1) : Int32) = -4 ∨ ∃ k : Nat, (nI (d - 1) : Int32) = nI k ∧ k ≤ 9 := by
              have t_n5 := n5
              have t_c6 := neI c6
              have t_c15 := neI c15
              have t_c16 := neI c16
              have t_c19 := neI c19
              have : (0 : Int32).toInt = 0 := qI_0
              have t_n0 : (nI i).toInt = (i : Int) := tn861_ ()
              have t_n1 : (nI d).toInt = (d : Int) := tn862_ ()
              have t_n2 : (nI N).toInt = (N : Int) := tn856_ ()
              have t_n3 : (nI B).toInt = (B : Int) := tn857_ ()
              have t_n4 : (nI T).toInt = (T : Int) := tn858_ ()
              have t_n5 : (nI S).toInt = (S : Int) := tn859_ ()
              have t_n6 : (nI M).toInt = (M : Int) := tn860_ ()
              exact Or.inr ⟨(d - 1), rfl, by omega⟩
            refine W.widen (k := 0) (n := 0) (Nat.le_of_ble_eq_true rfl) (Nat.le_of_ble_eq_true rfl) ?_
            exact W.iret (v := nI (d - 1)) hx hb hr (fun t ht hW => ⟨⟨nI (d - 1), (), rfl, ⟨hpost, trivial⟩, trivial⟩, hS.F ht⟩) hS.2.2 dX11_depthThen_68
      · skip
        refine lv_goto (tgt := 31) hx hb dX11_depthThen_21 rfl ?_
        refine lv_bipush (v := (-4)) hx hb dX11_depthThen_31 rfl ?_
        have hpost : ((-4) : Int32) = -4 ∨ ∃ k : Nat, ((-4) : Int32) = nI k ∧ k ≤ 9 := by
          exact Or.inl rfl
        refine W.widen (k := 0) (n := 0) (Nat.le_of_ble_eq_true rfl) (Nat.le_of_ble_eq_true rfl) ?_
        exact W.iret (v := (-4)) hx hb hr (fun t ht hW => ⟨⟨(-4), (), rfl, ⟨hpost, trivial⟩, trivial⟩, hS.F ht⟩) hS.2.2 dX11_depthThen_33

set_option maxHeartbeats 1000000 in
set_option maxRecDepth 100000 in
theorem c_X11_onward (l : Launch) (dC : Nat → ClassId) (dI : Nat → Nat → Nat) (G : Nat → ClassId) (sz : Nat) (h0 i d st N B rp tp T cu lt od th be ln S ma M ah bh ik la lg ce : Nat) (x2 vrs vrb vhs vca vxs vxb vfa vbr vba vsp vhe vtk vva vto : Int32) (fst : Nat → Int32) (fma : Nat → Int32) (fbh : Nat → Int32) (hN : N ≤ 10) (hB : B ≤ 6) (hT : T ≤ 320) (hS0 : S ≤ 8) (hM : M ≤ 6) (hst : OKS fst) (hi : i < 10) (hd9 : d ≤ 9) : Met l yX11_onward (Cond.code yX11_onward cX11_onward 5 (some .int) :: GT) ({ frames := 4, cells := 0, slots := 0, locals := 97 } : Room) (PcR [.ref h0, .int (nI i), .int (nI d), .int x2] dC dI G [(h0, .inr (11, [.ref st, .int (nI N), .int (nI B), .ref rp, .int vrs, .int vrb, .int vhs, .int vca, .int vxs, .int vxb, .ref tp, .int (nI T), .int vfa, .int vbr, .int vba, .int vsp, .int vhe, .int vtk, .int vva, .ref cu, .ref lt, .ref od, .ref th, .ref be, .ref ln, .int (nI S), .ref ma, .int (nI M), .ref ah, .ref bh, .ref ik, .ref la, .ref lg, .ref ce, .int vto])), (st, .inl (G 0, 196, .inl fst)), (ma, .inl (G 0, 12, .inl fma)), (bh, .inl (G 0, 110, .inl fbh))] sz) (va_Qi (fun (r : Int32) (u : Unit) => match u with | _ => (True) ∧ True) (fun _ _ => True) (fun q : Nat => sz ≤ q)) 0 0 (fun q : Nat => sz ≤ q) := by
  have hB_ := hB
  have hM_ := hM
  have hT_ := hT
  have tn863_ : nIT N := fun _ => nI_toInt (by omega)
  have tn864_ : nIT B := fun _ => nI_toInt (by omega)
  have tn865_ : nIT T := fun _ => nI_toInt (by omega)
  have tn866_ : nIT S := fun _ => nI_toInt (by omega)
  have tn867_ : nIT M := fun _ => nI_toInt (by omega)
  refine Met.ofW (cc := cX11_onward) (maxL := 5) (ret := (some .int)) (by decide) rfl ?_
  intro p e s m args below meth c s₁ Bd hml hv
  obtain ⟨rfl, hsz, hP, hK⟩ := hv
  have hx := Bd.exec
  have hb := Bd.bytes
  have hr := Bd.returns
  have hg : ∀ w ∈ GT, w.before ([.ref h0, .int (nI i), .int (nI d), .int x2] : List Value).toArray s = true := fun w h => atoms_spec (ws := Cond.code yX11_onward cX11_onward 5 (some .int) :: GT) Bd.pre w (List.mem_cons_of_mem _ h)
  have hown : s.vm.findClass RX11 = some m.cls := findClass_of_methodNamed Bd.named
  have hlocks := Bd.notSynchronized
  subst hsz
  have hA : ∀ q : Nat, s.heap.size ≤ q → (fun q : Nat => s.heap.size ≤ q) q := fun _ h => h
  have hS : va_S (fun q : Nat => s.heap.size ≤ q) s.heap s.heap [] := va_S.rf
  have hl := lv_entry ([.ref h0, .int (nI i), .int (nI d), .int x2]) (n := 5) (Nat.le_of_ble_eq_true rfl)
  rw [lg_entry_eq]
  generalize (lg_sl ([.ref h0, .int (nI i), .int (nI d), .int x2]) ++ List.replicate (5 - (lg_sl ([.ref h0, .int (nI i), .int (nI d), .int x2])).length) Slot.unset).toArray = ls at hl ⊢
  have hl : lv_has ls 5 [(0, .ref h0), (1, .int (nI i)), (2, .int (nI d)), (3, .int x2)] := hl
  refine lv_aload_n hx hb dX11_onward_0 rfl (lv_at hl 0 rfl) ?_
  refine lv_iload_n hx hb dX11_onward_1 rfl (lv_at hl 1 rfl) ?_
  refine lv_iload_n hx hb dX11_onward_2 rfl (lv_at hl 2 rfl) ?_
  refine lv_iload_n hx hb dX11_onward_3 rfl (lv_at hl 3 rfl) ?_
  have hPc := hP.sub (ws' := [(h0, .inr (11, [.ref st, .int (nI N), .int (nI B), .ref rp, .int vrs, .int vrb, .int vhs, .int vca, .int vxs, .int vxb, .ref tp, .int (nI T), .int vfa, .int vbr, .int vba, .int vsp, .int vhe, .int vtk, .int vva, .ref cu, .ref lt, .ref od, .ref th, .ref be, .ref ln, .int (nI S), .ref ma, .int (nI M), .ref ah, .ref bh, .ref ik, .ref la, .ref lg, .ref ce, .int vto])), (st, .inl (G 0, 196, .inl fst)), (ma, .inl (G 0, 12, .inl fma))]) [0, 1, 2] rfl
  have tn868_ : nIT i := fun _ => nI_toInt (by omega)
  have tn869_ : nIT d := fun _ => nI_toInt (by omega)
  refine va_calli (va_runV (As := [.int (nI i), .int (nI d), .int x2]) (rest := []) ⟨hx, hb, hml, hown, hg⟩ (c_X11_depthThen l dC dI G _ h0 i d st N B rp tp T cu lt od th be ln S ma M ah bh ik la lg ce x2 vrs vrb vhs vca vxs vxb vfa vbr vba vsp vhe vtk vva vto fst fma hN hB_ hT_ hS0 hM_ hst hi hd9) (kwV hg mfX11_depthThen wt_1224 ⟨Nat.le_of_ble_eq_true rfl, Nat.le_of_ble_eq_true rfl⟩) (preVR hK hPc (ci := 11) rfl rfl) rfl rfl hl.1 rfl (lv_room (Nat.le_of_ble_eq_true rfl)) dX11_onward_4 ⟨Nat.le_of_ble_eq_true rfl, Nat.le_of_ble_eq_true rfl⟩) hS (fun q h1 h2 => absurd h2 (Nat.not_le.mpr h1)) (fun q h => hA q (Nat.le_trans hS.1 h)) (fun r1 ur1 t H1 locs ht hvm w2 hB hz1 hk1 hS => ?_)
  have hP := keepR hP hk1
  obtain ⟨w2, w2x⟩ := w2
  rcases w2 with w21 | ⟨w20, w21, w22⟩
  · skip
    refine lv_cg (y := (-4)) w21 ?_
    refine lv_istore (lv' := [(4, .int (-4)), (0, .ref h0), (1, .int (nI i)), (2, .int (nI d)), (3, .int x2)]) hx hb dX11_onward_7 hl (by decide) rfl (fun ls hl => ?_)
    refine lv_iload hx hb dX11_onward_9 (lv_at hl 0 rfl) ?_
    refine lv_bipush (v := (-4)) hx hb dX11_onward_11 rfl ?_
    refine lv_icmp_ne (tgt := 20) hx hb dX11_onward_13 rfl (fun c3 => ?_) (fun c3 => ?_)
    · skip
      exact absurd c3 (by decide)
    · skip
      refine lv_iconst (v := 0) hx hb dX11_onward_16 rfl ?_
      refine lv_goto (tgt := 35) hx hb dX11_onward_17 rfl ?_
      have hpost : True := by
        trivial
      refine W.widen (k := 0) (n := 0) (Nat.le_of_ble_eq_true rfl) (Nat.le_of_ble_eq_true rfl) ?_
      exact W.iret (v := 0) hx hb hr (fun t ht hW => ⟨⟨0, (), rfl, ⟨hpost, trivial⟩, trivial⟩, hS.F ht⟩) hS.2.2 dX11_onward_35
  · skip
    refine lv_cg (y := nI w20) w21 ?_
    refine lv_istore (lv' := [(4, .int (nI w20)), (0, .ref h0), (1, .int (nI i)), (2, .int (nI d)), (3, .int x2)]) hx hb dX11_onward_7 hl (by decide) rfl (fun ls hl => ?_)
    refine lv_iload hx hb dX11_onward_9 (lv_at hl 0 rfl) ?_
    refine lv_bipush (v := (-4)) hx hb dX11_onward_11 rfl ?_
    refine lv_icmp_ne (tgt := 20) hx hb dX11_onward_13 rfl (fun c4 => ?_) (fun c4 => ?_)
    · skip
      refine lv_aload_n hx hb dX11_onward_20 rfl (lv_at hl 1 rfl) ?_
      refine va_get (D := (dC, dI)) (ci := 11) (v := .ref bh) (C := RX11) (T := TX11) (N := 35) hx hb hg inG11 hown hK.1 hP 0 rfl rfl 29 (Nat.le_of_ble_eq_true rfl) (hg _ wt_907) (fun _ h9 => h9) rfl dX11_onward_21 ?_
      refine lv_bipush (v := 10) hx hb dX11_onward_24 rfl ?_
      refine lv_iload_n hx hb dX11_onward_26 rfl (lv_at hl 2 rfl) ?_
      refine lv_imul hx hb dX11_onward_27 ?_
      refine lv_cg (y := nI (10 * i)) (by rw [show (10 : Int32) = nI 10 from rfl]; exact pk_mul _ _) ?_
      refine lv_bipush (v := 10) hx hb dX11_onward_28 rfl ?_
      refine lv_iadd hx hb dX11_onward_30 ?_
      refine lv_cg (y := nI ((10 * i) + 10)) (by rw [show (10 : Int32) = nI 10 from rfl]; exact nI_add _ _) ?_
      refine lv_iload hx hb dX11_onward_31 (lv_at hl 0 rfl) ?_
      refine lv_iadd hx hb dX11_onward_33 ?_
      refine lv_cg (y := nI (((10 * i) + 10) + w20)) (by exact nI_add _ _) ?_
      have tn870_ : nIT w20 := fun _ => nI_toInt (by first | omega | (have t_w22 := w22; have t_c4 := neI c4; have : ((-4) : Int32).toInt = -4 := qI_m4; omega))
      refine va_iald hx hb hK.1 hP 3 0 rfl rfl (vp_in_nI (by first | omega | (have t_w22 := w22; have t_c4 := neI c4; have : ((-4) : Int32).toInt = -4 := qI_m4; have t_n0 : (nI i).toInt = (i : Int) := tn868_ (); have t_n1 : (nI d).toInt = (d : Int) := tn869_ (); have t_n2 : (nI N).toInt = (N : Int) := tn863_ (); have t_n3 : (nI B).toInt = (B : Int) := tn864_ (); have t_n4 : (nI T).toInt = (T : Int) := tn865_ (); have t_n5 : (nI S).toInt = (S : Int) := tn866_ (); have t_n6 : (nI M).toInt = (M : Int) := tn867_ (); have t_n7 : (nI w20).toInt = (w20 : Int) := tn870_ (); omega)) (by decide)) dX11_onward_34 ?_
      refine lv_cg (y := fbh (((10 * i) + 10) + w20)) (by rw [nI_clamp (by omega)]) ?_
      have hpost : True := by
        trivial
      refine W.widen (k := 0) (n := 0) (Nat.le_of_ble_eq_true rfl) (Nat.le_of_ble_eq_true rfl) ?_
      exact W.iret (v := fbh (((10 * i) + 10) + w20)) hx hb hr (fun t ht hW => ⟨⟨fbh (((10 * i) + 10) + w20), (), rfl, ⟨hpost, trivial⟩, trivial⟩, hS.F ht⟩) hS.2.2 dX11_onward_35
    · skip
      have t_w22 := w22
      have t_c4 := eqI c4
      have : ((-4) : Int32).toInt = -4 := qI_m4
      have t_n0 : (nI i).toInt = (i : Int) := tn868_ ()
      have t_n1 : (nI d).toInt = (d : Int) := tn869_ ()
      have t_n2 : (nI N).toInt = (N : Int) := tn863_ ()
      have t_n3 : (nI B).toInt = (B : Int) := tn864_ ()
      have t_n4 : (nI T).toInt = (T : Int) := tn865_ ()
      have t_n5 : (nI S).toInt = (S : Int) := tn866_ ()
      have t_n6 : (nI M).toInt = (M : Int) := tn867_ ()
      have tn871_ : nIT w20 := fun _ => nI_toInt (by omega)
      have t_n7 : (nI w20).toInt = (w20 : Int) := tn871_ ()
      exfalso; omega

set_option maxHeartbeats 1000000 in
set_option maxRecDepth 100000 in
theorem c_X11_layPaths (l : Launch) (dC : Nat → ClassId) (dI : Nat → Nat → Nat) (G : Nat → ClassId) (sz : Nat) (h0 st N B rp tp T cu lt od th be ln S ma M ah bh ik la lg ce : Nat) (vrs vrb vhs vca vxs vxb vfa vbr vba vsp vhe vtk vva vto : Int32) (fst : Nat → Int32) (fma : Nat → Int32) (fah : Nat → Int32) (fbh : Nat → Int32) (hN : N ≤ 10) (hB : B ≤ 6) (hT : T ≤ 320) (hS0 : S ≤ 8) (hM : M ≤ 6) (hst : OKS fst) : Met l yX11_layPaths (Cond.code yX11_layPaths cX11_layPaths 6 none :: GT) ({ frames := 5, cells := 0, slots := 0, locals := 121 } : Room) (PcW [.ref h0] dC dI G [(h0, .inr (11, [.ref st, .int (nI N), .int (nI B), .ref rp, .int vrs, .int vrb, .int vhs, .int vca, .int vxs, .int vxb, .ref tp, .int (nI T), .int vfa, .int vbr, .int vba, .int vsp, .int vhe, .int vtk, .int vva, .ref cu, .ref lt, .ref od, .ref th, .ref be, .ref ln, .int (nI S), .ref ma, .int (nI M), .ref ah, .ref bh, .ref ik, .ref la, .ref lg, .ref ce, .int vto])), (st, .inl (G 0, 196, .inl fst)), (ma, .inl (G 0, 12, .inl fma)), (ah, .inl (G 0, 110, .inl fah)), (bh, .inl (G 0, 110, .inl fbh))] sz) (va_Qv (fun (u : (Nat → Int32) × (Nat → Int32)) => match u with | (oah, obh) => True) (fun (u : (Nat → Int32) × (Nat → Int32)) (t : State) => match u with | (oah, obh) => va_P (dC, dI) vwCl [(h0, .inr (11, [.ref st, .int (nI N), .int (nI B), .ref rp, .int vrs, .int vrb, .int vhs, .int vca, .int vxs, .int vxb, .ref tp, .int (nI T), .int vfa, .int vbr, .int vba, .int vsp, .int vhe, .int vtk, .int vva, .ref cu, .ref lt, .ref od, .ref th, .ref be, .ref ln, .int (nI S), .ref ma, .int (nI M), .ref ah, .ref bh, .ref ik, .ref la, .ref lg, .ref ce, .int vto])), (st, .inl (G 0, 196, .inl fst)), (ma, .inl (G 0, 12, .inl fma)), (ah, .inl (G 0, 110, .inl oah)), (bh, .inl (G 0, 110, .inl obh))] t.heap ∧ va_D (va_A [(h0, .inr (11, [.ref st, .int (nI N), .int (nI B), .ref rp, .int vrs, .int vrb, .int vhs, .int vca, .int vxs, .int vxb, .ref tp, .int (nI T), .int vfa, .int vbr, .int vba, .int vsp, .int vhe, .int vtk, .int vva, .ref cu, .ref lt, .ref od, .ref th, .ref be, .ref ln, .int (nI S), .ref ma, .int (nI M), .ref ah, .ref bh, .ref ik, .ref la, .ref lg, .ref ce, .int vto])), (st, .inl (G 0, 196, .inl fst)), (ma, .inl (G 0, 12, .inl fma)), (ah, .inl (G 0, 110, .inl fah)), (bh, .inl (G 0, 110, .inl fbh))] sz) [(h0, .inr (11, [.ref st, .int (nI N), .int (nI B), .ref rp, .int vrs, .int vrb, .int vhs, .int vca, .int vxs, .int vxb, .ref tp, .int (nI T), .int vfa, .int vbr, .int vba, .int vsp, .int vhe, .int vtk, .int vva, .ref cu, .ref lt, .ref od, .ref th, .ref be, .ref ln, .int (nI S), .ref ma, .int (nI M), .ref ah, .ref bh, .ref ik, .ref la, .ref lg, .ref ce, .int vto])), (st, .inl (G 0, 196, .inl fst)), (ma, .inl (G 0, 12, .inl fma)), (ah, .inl (G 0, 110, .inl oah)), (bh, .inl (G 0, 110, .inl obh))]) (va_A [(h0, .inr (11, [.ref st, .int (nI N), .int (nI B), .ref rp, .int vrs, .int vrb, .int vhs, .int vca, .int vxs, .int vxb, .ref tp, .int (nI T), .int vfa, .int vbr, .int vba, .int vsp, .int vhe, .int vtk, .int vva, .ref cu, .ref lt, .ref od, .ref th, .ref be, .ref ln, .int (nI S), .ref ma, .int (nI M), .ref ah, .ref bh, .ref ik, .ref la, .ref lg, .ref ce, .int vto])), (st, .inl (G 0, 196, .inl fst)), (ma, .inl (G 0, 12, .inl fma)), (ah, .inl (G 0, 110, .inl fah)), (bh, .inl (G 0, 110, .inl fbh))] sz)) 0 0 (va_A [(h0, .inr (11, [.ref st, .int (nI N), .int (nI B), .ref rp, .int vrs, .int vrb, .int vhs, .int vca, .int vxs, .int vxb, .ref tp, .int (nI T), .int vfa, .int vbr, .int vba, .int vsp, .int vhe, .int vtk, .int vva, .ref cu, .ref lt, .ref od, .ref th, .ref be, .ref ln, .int (nI S), .ref ma, .int (nI M), .ref ah, .ref bh, .ref ik, .ref la, .ref lg, .ref ce, .int vto])), (st, .inl (G 0, 196, .inl fst)), (ma, .inl (G 0, 12, .inl fma)), (ah, .inl (G 0, 110, .inl fah)), (bh, .inl (G 0, 110, .inl fbh))] sz) := by
  have hB_ := hB
  have hM_ := hM
  have hT_ := hT
  have tn872_ : nIT N := fun _ => nI_toInt (by omega)
  have tn873_ : nIT B := fun _ => nI_toInt (by omega)
  have tn874_ : nIT T := fun _ => nI_toInt (by omega)
  have tn875_ : nIT S := fun _ => nI_toInt (by omega)
  have tn876_ : nIT M := fun _ => nI_toInt (by omega)
  refine Met.ofW (cc := cX11_layPaths) (maxL := 6) (ret := none) (by decide) rfl ?_
  intro p e s m args below meth c s₁ Bd hml hv
  obtain ⟨rfl, hsz, hP, hK, hD0⟩ := hv
  have hx := Bd.exec
  have hb := Bd.bytes
  have hr := Bd.returns
  have hg : ∀ w ∈ GT, w.before ([.ref h0] : List Value).toArray s = true := fun w h => atoms_spec (ws := Cond.code yX11_layPaths cX11_layPaths 6 none :: GT) Bd.pre w (List.mem_cons_of_mem _ h)
  have hown : s.vm.findClass RX11 = some m.cls := findClass_of_methodNamed Bd.named
  have hlocks := Bd.notSynchronized
  subst hsz
  have hD := hD0.self (sz := s.heap.size)
  generalize hAe : va_A [(h0, .inr (11, [.ref st, .int (nI N), .int (nI B), .ref rp, .int vrs, .int vrb, .int vhs, .int vca, .int vxs, .int vxb, .ref tp, .int (nI T), .int vfa, .int vbr, .int vba, .int vsp, .int vhe, .int vtk, .int vva, .ref cu, .ref lt, .ref od, .ref th, .ref be, .ref ln, .int (nI S), .ref ma, .int (nI M), .ref ah, .ref bh, .ref ik, .ref la, .ref lg, .ref ce, .int vto])), (st, .inl (G 0, 196, .inl fst)), (ma, .inl (G 0, 12, .inl fma)), (ah, .inl (G 0, 110, .inl fah)), (bh, .inl (G 0, 110, .inl fbh))] s.heap.size = A at hD ⊢
  have hA : ∀ q : Nat, s.heap.size ≤ q → A q := fun q h => by rw [← hAe]; exact Or.inr h
  have hS : va_S A s.heap s.heap [] := va_S.rf
  have hl := lv_entry ([.ref h0]) (n := 6) (Nat.le_of_ble_eq_true rfl)
  rw [lg_entry_eq]
  generalize (lg_sl ([.ref h0]) ++ List.replicate (6 - (lg_sl ([.ref h0])).length) Slot.unset).toArray = ls at hl ⊢
  have hl : lv_has ls 6 [(0, .ref h0)] := hl
  refine lv_iconst (v := 0) hx hb dX11_layPaths_0 rfl ?_
  refine lv_istore_n (lv' := [(1, .int 0), (0, .ref h0)]) hx hb dX11_layPaths_1 rfl hl (by decide) rfl (fun ls hl => ?_)
  have loop2_4 : ∀ (nf j1 : Nat), 110 + 1 ≤ j1 + nf → j1 ≤ 110 → ∀ (g2 : Nat → Int32) (g3 : Nat → Int32) (H : Heap) (locs : List Loc), va_P (dC, dI) vwCl [(h0, .inr (11, [.ref st, .int (nI N), .int (nI B), .ref rp, .int vrs, .int vrb, .int vhs, .int vca, .int vxs, .int vxb, .ref tp, .int (nI T), .int vfa, .int vbr, .int vba, .int vsp, .int vhe, .int vtk, .int vva, .ref cu, .ref lt, .ref od, .ref th, .ref be, .ref ln, .int (nI S), .ref ma, .int (nI M), .ref ah, .ref bh, .ref ik, .ref la, .ref lg, .ref ce, .int vto])), (st, .inl (G 0, 196, .inl fst)), (ma, .inl (G 0, 12, .inl fma)), (ah, .inl (G 0, 110, .inl g2)), (bh, .inl (G 0, 110, .inl g3))] H → va_D A [(h0, .inr (11, [.ref st, .int (nI N), .int (nI B), .ref rp, .int vrs, .int vrb, .int vhs, .int vca, .int vxs, .int vxb, .ref tp, .int (nI T), .int vfa, .int vbr, .int vba, .int vsp, .int vhe, .int vtk, .int vva, .ref cu, .ref lt, .ref od, .ref th, .ref be, .ref ln, .int (nI S), .ref ma, .int (nI M), .ref ah, .ref bh, .ref ik, .ref la, .ref lg, .ref ce, .int vto])), (st, .inl (G 0, 196, .inl fst)), (ma, .inl (G 0, 12, .inl fma)), (ah, .inl (G 0, 110, .inl g2)), (bh, .inl (G 0, 110, .inl g3))] → va_S A s.heap H locs → ∀ (ls : Array Slot), lv_has ls 6 [(1, .int (nI j1)), (0, .ref h0)] → W p l e (headSpec (Cond.code yX11_layPaths cX11_layPaths 6 none :: GT) ({ frames := 5, cells := 0, slots := 0, locals := 121 } : Room)).room s m ([.ref h0] : List Value).toArray below meth c H locs 0 0 (MQ below (va_Qv (fun (u : (Nat → Int32) × (Nat → Int32)) => match u with | (oah, obh) => True) (fun (u : (Nat → Int32) × (Nat → Int32)) (t : State) => match u with | (oah, obh) => va_P (dC, dI) vwCl [(h0, .inr (11, [.ref st, .int (nI N), .int (nI B), .ref rp, .int vrs, .int vrb, .int vhs, .int vca, .int vxs, .int vxb, .ref tp, .int (nI T), .int vfa, .int vbr, .int vba, .int vsp, .int vhe, .int vtk, .int vva, .ref cu, .ref lt, .ref od, .ref th, .ref be, .ref ln, .int (nI S), .ref ma, .int (nI M), .ref ah, .ref bh, .ref ik, .ref la, .ref lg, .ref ce, .int vto])), (st, .inl (G 0, 196, .inl fst)), (ma, .inl (G 0, 12, .inl fma)), (ah, .inl (G 0, 110, .inl oah)), (bh, .inl (G 0, 110, .inl obh))] t.heap ∧ va_D A [(h0, .inr (11, [.ref st, .int (nI N), .int (nI B), .ref rp, .int vrs, .int vrb, .int vhs, .int vca, .int vxs, .int vxb, .ref tp, .int (nI T), .int vfa, .int vbr, .int vba, .int vsp, .int vhe, .int vtk, .int vva, .ref cu, .ref lt, .ref od, .ref th, .ref be, .ref ln, .int (nI S), .ref ma, .int (nI M), .ref ah, .ref bh, .ref ik, .ref la, .ref lg, .ref ce, .int vto])), (st, .inl (G 0, 196, .inl fst)), (ma, .inl (G 0, 12, .inl fma)), (ah, .inl (G 0, 110, .inl oah)), (bh, .inl (G 0, 110, .inl obh))]) A) ([.ref h0] : List Value).toArray s 0 0 A) (F0 m 2 ls []) := by
    intro nf
    induction nf with
    | zero => intro j1 h1 h2; exact absurd h1 (by omega)
    | succ nf ih2_4 =>
      intro j1 hn5 hj6 g2 g3 H locs hP hD hS ls hl
      refine lv_iload_n hx hb dX11_layPaths_2 rfl (lv_at hl 0 rfl) ?_
      refine lv_bipush (v := 110) hx hb dX11_layPaths_3 rfl ?_
      refine lv_icmp_ge (tgt := 55) hx hb dX11_layPaths_5 rfl (fun c7 => ?_) (fun c7 => ?_)
      · skip
        have tn877_ : nIT j1 := fun _ => nI_toInt (by first | omega | (have t := leI c7; omega))
        have n8 : 110 ≤ j1 := by have t := leI c7; rw [show (nI (j1)).toInt = ((j1 : Nat) : Int) from tn877_ ()] at t; have : (110 : Int32).toInt = 110 := qI_110; omega
        refine lv_iconst (v := 0) hx hb dX11_layPaths_55 rfl ?_
        refine lv_istore_n (lv' := [(1, .int 0), (0, .ref h0)]) hx hb dX11_layPaths_56 rfl hl (by decide) rfl (fun ls hl => ?_)
        have loop57_11 : ∀ (nf j9 : Nat), N + 1 ≤ j9 + nf → j9 ≤ N → ∀ (g10 : Nat → Int32) (H : Heap) (locs : List Loc), va_P (dC, dI) vwCl [(h0, .inr (11, [.ref st, .int (nI N), .int (nI B), .ref rp, .int vrs, .int vrb, .int vhs, .int vca, .int vxs, .int vxb, .ref tp, .int (nI T), .int vfa, .int vbr, .int vba, .int vsp, .int vhe, .int vtk, .int vva, .ref cu, .ref lt, .ref od, .ref th, .ref be, .ref ln, .int (nI S), .ref ma, .int (nI M), .ref ah, .ref bh, .ref ik, .ref la, .ref lg, .ref ce, .int vto])), (st, .inl (G 0, 196, .inl fst)), (ma, .inl (G 0, 12, .inl fma)), (ah, .inl (G 0, 110, .inl g10)), (bh, .inl (G 0, 110, .inl g3))] H → va_D A [(h0, .inr (11, [.ref st, .int (nI N), .int (nI B), .ref rp, .int vrs, .int vrb, .int vhs, .int vca, .int vxs, .int vxb, .ref tp, .int (nI T), .int vfa, .int vbr, .int vba, .int vsp, .int vhe, .int vtk, .int vva, .ref cu, .ref lt, .ref od, .ref th, .ref be, .ref ln, .int (nI S), .ref ma, .int (nI M), .ref ah, .ref bh, .ref ik, .ref la, .ref lg, .ref ce, .int vto])), (st, .inl (G 0, 196, .inl fst)), (ma, .inl (G 0, 12, .inl fma)), (ah, .inl (G 0, 110, .inl g10)), (bh, .inl (G 0, 110, .inl g3))] → va_S A s.heap H locs → ∀ (ls : Array Slot), lv_has ls 6 [(1, .int (nI j9)), (0, .ref h0)] → W p l e (headSpec (Cond.code yX11_layPaths cX11_layPaths 6 none :: GT) ({ frames := 5, cells := 0, slots := 0, locals := 121 } : Room)).room s m ([.ref h0] : List Value).toArray below meth c H locs 0 0 (MQ below (va_Qv (fun (u : (Nat → Int32) × (Nat → Int32)) => match u with | (oah, obh) => True) (fun (u : (Nat → Int32) × (Nat → Int32)) (t : State) => match u with | (oah, obh) => va_P (dC, dI) vwCl [(h0, .inr (11, [.ref st, .int (nI N), .int (nI B), .ref rp, .int vrs, .int vrb, .int vhs, .int vca, .int vxs, .int vxb, .ref tp, .int (nI T), .int vfa, .int vbr, .int vba, .int vsp, .int vhe, .int vtk, .int vva, .ref cu, .ref lt, .ref od, .ref th, .ref be, .ref ln, .int (nI S), .ref ma, .int (nI M), .ref ah, .ref bh, .ref ik, .ref la, .ref lg, .ref ce, .int vto])), (st, .inl (G 0, 196, .inl fst)), (ma, .inl (G 0, 12, .inl fma)), (ah, .inl (G 0, 110, .inl oah)), (bh, .inl (G 0, 110, .inl obh))] t.heap ∧ va_D A [(h0, .inr (11, [.ref st, .int (nI N), .int (nI B), .ref rp, .int vrs, .int vrb, .int vhs, .int vca, .int vxs, .int vxb, .ref tp, .int (nI T), .int vfa, .int vbr, .int vba, .int vsp, .int vhe, .int vtk, .int vva, .ref cu, .ref lt, .ref od, .ref th, .ref be, .ref ln, .int (nI S), .ref ma, .int (nI M), .ref ah, .ref bh, .ref ik, .ref la, .ref lg, .ref ce, .int vto])), (st, .inl (G 0, 196, .inl fst)), (ma, .inl (G 0, 12, .inl fma)), (ah, .inl (G 0, 110, .inl oah)), (bh, .inl (G 0, 110, .inl obh))]) A) ([.ref h0] : List Value).toArray s 0 0 A) (F0 m 57 ls []) := by
          intro nf
          induction nf with
          | zero => intro j9 h1 h2; exact absurd h1 (by omega)
          | succ nf ih57_11 =>
            intro j9 hn12 hj13 g10 H locs hP hD hS ls hl
            refine lv_iload_n hx hb dX11_layPaths_57 rfl (lv_at hl 0 rfl) ?_
            refine lv_aload_n hx hb dX11_layPaths_58 rfl (lv_at hl 1 rfl) ?_
            refine va_get (D := (dC, dI)) (ci := 11) (v := .int (nI N)) (C := RX11) (T := TX11) (N := 35) hx hb hg inG11 hown hK.1 hP 0 rfl rfl 1 (Nat.le_of_ble_eq_true rfl) (hg _ wt_879) (fun _ h9 => h9) rfl dX11_layPaths_59 ?_
            refine lv_icmp_ge (tgt := 196) hx hb dX11_layPaths_62 rfl (fun c14 => ?_) (fun c14 => ?_)
            · skip
              have tn878_ : nIT j9 := fun _ => nI_toInt (by first | omega | (have t := leI c14; omega))
              have n15 : N ≤ j9 := by have t := leI c14; rw [show (nI (j9)).toInt = ((j9 : Nat) : Int) from tn878_ ()] at t; rw [show (nI (N)).toInt = ((N : Nat) : Int) from tn872_ ()] at t; omega
              refine lv_aload_n hx hb dX11_layPaths_196 rfl (lv_at hl 1 rfl) ?_
              refine va_get (D := (dC, dI)) (ci := 11) (v := .int (nI N)) (C := RX11) (T := TX11) (N := 35) hx hb hg inG11 hown hK.1 hP 0 rfl rfl 1 (Nat.le_of_ble_eq_true rfl) (hg _ wt_879) (fun _ h9 => h9) rfl dX11_layPaths_197 ?_
              refine lv_iconst (v := 1) hx hb dX11_layPaths_200 rfl ?_
              refine lv_isub hx hb dX11_layPaths_201 ?_
              refine lv_istore_n (lv' := [(1, .int ((nI N) - 1)), (0, .ref h0)]) hx hb dX11_layPaths_202 rfl hl (by decide) rfl (fun ls hl => ?_)
              rw [dn_sub] at hl
              have loop203_18 : ∀ (j16 : Nat), j16 ≤ N → ∀ (g17 : Nat → Int32) (H : Heap) (locs : List Loc), va_P (dC, dI) vwCl [(h0, .inr (11, [.ref st, .int (nI N), .int (nI B), .ref rp, .int vrs, .int vrb, .int vhs, .int vca, .int vxs, .int vxb, .ref tp, .int (nI T), .int vfa, .int vbr, .int vba, .int vsp, .int vhe, .int vtk, .int vva, .ref cu, .ref lt, .ref od, .ref th, .ref be, .ref ln, .int (nI S), .ref ma, .int (nI M), .ref ah, .ref bh, .ref ik, .ref la, .ref lg, .ref ce, .int vto])), (st, .inl (G 0, 196, .inl fst)), (ma, .inl (G 0, 12, .inl fma)), (ah, .inl (G 0, 110, .inl g10)), (bh, .inl (G 0, 110, .inl g17))] H → va_D A [(h0, .inr (11, [.ref st, .int (nI N), .int (nI B), .ref rp, .int vrs, .int vrb, .int vhs, .int vca, .int vxs, .int vxb, .ref tp, .int (nI T), .int vfa, .int vbr, .int vba, .int vsp, .int vhe, .int vtk, .int vva, .ref cu, .ref lt, .ref od, .ref th, .ref be, .ref ln, .int (nI S), .ref ma, .int (nI M), .ref ah, .ref bh, .ref ik, .ref la, .ref lg, .ref ce, .int vto])), (st, .inl (G 0, 196, .inl fst)), (ma, .inl (G 0, 12, .inl fma)), (ah, .inl (G 0, 110, .inl g10)), (bh, .inl (G 0, 110, .inl g17))] → va_S A s.heap H locs → ∀ (ls : Array Slot), lv_has ls 6 [(1, .int (dn j16)), (0, .ref h0)] → W p l e (headSpec (Cond.code yX11_layPaths cX11_layPaths 6 none :: GT) ({ frames := 5, cells := 0, slots := 0, locals := 121 } : Room)).room s m ([.ref h0] : List Value).toArray below meth c H locs 0 0 (MQ below (va_Qv (fun (u : (Nat → Int32) × (Nat → Int32)) => match u with | (oah, obh) => True) (fun (u : (Nat → Int32) × (Nat → Int32)) (t : State) => match u with | (oah, obh) => va_P (dC, dI) vwCl [(h0, .inr (11, [.ref st, .int (nI N), .int (nI B), .ref rp, .int vrs, .int vrb, .int vhs, .int vca, .int vxs, .int vxb, .ref tp, .int (nI T), .int vfa, .int vbr, .int vba, .int vsp, .int vhe, .int vtk, .int vva, .ref cu, .ref lt, .ref od, .ref th, .ref be, .ref ln, .int (nI S), .ref ma, .int (nI M), .ref ah, .ref bh, .ref ik, .ref la, .ref lg, .ref ce, .int vto])), (st, .inl (G 0, 196, .inl fst)), (ma, .inl (G 0, 12, .inl fma)), (ah, .inl (G 0, 110, .inl oah)), (bh, .inl (G 0, 110, .inl obh))] t.heap ∧ va_D A [(h0, .inr (11, [.ref st, .int (nI N), .int (nI B), .ref rp, .int vrs, .int vrb, .int vhs, .int vca, .int vxs, .int vxb, .ref tp, .int (nI T), .int vfa, .int vbr, .int vba, .int vsp, .int vhe, .int vtk, .int vva, .ref cu, .ref lt, .ref od, .ref th, .ref be, .ref ln, .int (nI S), .ref ma, .int (nI M), .ref ah, .ref bh, .ref ik, .ref la, .ref lg, .ref ce, .int vto])), (st, .inl (G 0, 196, .inl fst)), (ma, .inl (G 0, 12, .inl fma)), (ah, .inl (G 0, 110, .inl oah)), (bh, .inl (G 0, 110, .inl obh))]) A) ([.ref h0] : List Value).toArray s 0 0 A) (F0 m 203 ls []) := by
                intro j16
                induction j16 with
                | zero =>
                  intro hj19 g17 H locs hP hD hS ls hl
                  have hl : lv_has ls 6 [(1, .int (-1)), (0, .ref h0)] := hl
                  refine lv_iload_n hx hb dX11_layPaths_203 rfl (lv_at hl 0 rfl) ?_
                  refine lv_if_lt (tgt := 281) hx hb dX11_layPaths_204 rfl (fun c20 => ?_) (fun c20 => ?_)
                  · skip
                    obtain ⟨hP9, hD9⟩ := va_sub2 (ws' := [(h0, .inr (11, [.ref st, .int (nI N), .int (nI B), .ref rp, .int vrs, .int vrb, .int vhs, .int vca, .int vxs, .int vxb, .ref tp, .int (nI T), .int vfa, .int vbr, .int vba, .int vsp, .int vhe, .int vtk, .int vva, .ref cu, .ref lt, .ref od, .ref th, .ref be, .ref ln, .int (nI S), .ref ma, .int (nI M), .ref ah, .ref bh, .ref ik, .ref la, .ref lg, .ref ce, .int vto])), (st, .inl (G 0, 196, .inl fst)), (ma, .inl (G 0, 12, .inl fma)), (ah, .inl (G 0, 110, .inl g10)), (bh, .inl (G 0, 110, .inl g17))]) hP hD [0, 1, 2, 3, 4] (by decide) rfl
                    refine W.widen (k := 0) (n := 0) (Nat.le_of_ble_eq_true rfl) (Nat.le_of_ble_eq_true rfl) ?_
                    exact W.vret hx hb hr (fun t ht hW => ⟨⟨(g10, g17), rfl, trivial, ⟨by rw [ht]; exact hP9, hD9⟩⟩, hS.F ht⟩) hS.2.2 dX11_layPaths_281
                  · skip
                    exact absurd c20 (by decide)
                | succ j16 ih203_18 =>
                  intro hj19 g17 H locs hP hD hS ls hl
                  have hl : lv_has ls 6 [(1, .int (nI j16)), (0, .ref h0)] := hl
                  refine lv_iload_n hx hb dX11_layPaths_203 rfl (lv_at hl 0 rfl) ?_
                  refine lv_if_lt (tgt := 281) hx hb dX11_layPaths_204 rfl (fun c21 => ?_) (fun c21 => ?_)
                  · skip
                    have t_hj6 := hj6
                    have t_n8 := n8
                    have t_hj13 := hj13
                    have t_n15 := n15
                    have t_hj19 := hj19
                    have t_c21 := ltI c21
                    have : (0 : Int32).toInt = 0 := qI_0
                    have t_n0 : (nI N).toInt = (N : Int) := tn872_ ()
                    have t_n1 : (nI B).toInt = (B : Int) := tn873_ ()
                    have t_n2 : (nI T).toInt = (T : Int) := tn874_ ()
                    have t_n3 : (nI S).toInt = (S : Int) := tn875_ ()
                    have t_n4 : (nI M).toInt = (M : Int) := tn876_ ()
                    have t_n5 : (nI j1).toInt = (j1 : Int) := tn877_ ()
                    have t_n6 : (nI j9).toInt = (j9 : Int) := tn878_ ()
                    have tn879_ : nIT j16 := fun _ => nI_toInt (by omega)
                    have t_n7 : (nI j16).toInt = (j16 : Int) := tn879_ ()
                    exfalso; omega
                  · skip
                    have tn880_ : nIT j16 := fun _ => nI_toInt (by first | omega | (have t := nltI c21; omega))
                    have n22 : 0 ≤ j16 := by have t := nltI c21; rw [show (nI (j16)).toInt = ((j16 : Nat) : Int) from tn880_ ()] at t; have : (0 : Int32).toInt = 0 := qI_0; omega
                    refine lv_iconst (v := 0) hx hb dX11_layPaths_207 rfl ?_
                    refine lv_istore_n (lv' := [(2, .int 0), (1, .int (nI j16)), (0, .ref h0)]) hx hb dX11_layPaths_208 rfl hl (by decide) rfl (fun ls hl => ?_)
                    have loop209_25 : ∀ (nf j23 : Nat), 10 + 1 ≤ j23 + nf → j23 ≤ 10 → ∀ (g24 : Nat → Int32) (H : Heap) (locs : List Loc), va_P (dC, dI) vwCl [(h0, .inr (11, [.ref st, .int (nI N), .int (nI B), .ref rp, .int vrs, .int vrb, .int vhs, .int vca, .int vxs, .int vxb, .ref tp, .int (nI T), .int vfa, .int vbr, .int vba, .int vsp, .int vhe, .int vtk, .int vva, .ref cu, .ref lt, .ref od, .ref th, .ref be, .ref ln, .int (nI S), .ref ma, .int (nI M), .ref ah, .ref bh, .ref ik, .ref la, .ref lg, .ref ce, .int vto])), (st, .inl (G 0, 196, .inl fst)), (ma, .inl (G 0, 12, .inl fma)), (ah, .inl (G 0, 110, .inl g10)), (bh, .inl (G 0, 110, .inl g24))] H → va_D A [(h0, .inr (11, [.ref st, .int (nI N), .int (nI B), .ref rp, .int vrs, .int vrb, .int vhs, .int vca, .int vxs, .int vxb, .ref tp, .int (nI T), .int vfa, .int vbr, .int vba, .int vsp, .int vhe, .int vtk, .int vva, .ref cu, .ref lt, .ref od, .ref th, .ref be, .ref ln, .int (nI S), .ref ma, .int (nI M), .ref ah, .ref bh, .ref ik, .ref la, .ref lg, .ref ce, .int vto])), (st, .inl (G 0, 196, .inl fst)), (ma, .inl (G 0, 12, .inl fma)), (ah, .inl (G 0, 110, .inl g10)), (bh, .inl (G 0, 110, .inl g24))] → va_S A s.heap H locs → ∀ (ls : Array Slot), lv_has ls 6 [(2, .int (nI j23)), (1, .int (nI j16)), (0, .ref h0)] → W p l e (headSpec (Cond.code yX11_layPaths cX11_layPaths 6 none :: GT) ({ frames := 5, cells := 0, slots := 0, locals := 121 } : Room)).room s m ([.ref h0] : List Value).toArray below meth c H locs 0 0 (MQ below (va_Qv (fun (u : (Nat → Int32) × (Nat → Int32)) => match u with | (oah, obh) => True) (fun (u : (Nat → Int32) × (Nat → Int32)) (t : State) => match u with | (oah, obh) => va_P (dC, dI) vwCl [(h0, .inr (11, [.ref st, .int (nI N), .int (nI B), .ref rp, .int vrs, .int vrb, .int vhs, .int vca, .int vxs, .int vxb, .ref tp, .int (nI T), .int vfa, .int vbr, .int vba, .int vsp, .int vhe, .int vtk, .int vva, .ref cu, .ref lt, .ref od, .ref th, .ref be, .ref ln, .int (nI S), .ref ma, .int (nI M), .ref ah, .ref bh, .ref ik, .ref la, .ref lg, .ref ce, .int vto])), (st, .inl (G 0, 196, .inl fst)), (ma, .inl (G 0, 12, .inl fma)), (ah, .inl (G 0, 110, .inl oah)), (bh, .inl (G 0, 110, .inl obh))] t.heap ∧ va_D A [(h0, .inr (11, [.ref st, .int (nI N), .int (nI B), .ref rp, .int vrs, .int vrb, .int vhs, .int vca, .int vxs, .int vxb, .ref tp, .int (nI T), .int vfa, .int vbr, .int vba, .int vsp, .int vhe, .int vtk, .int vva, .ref cu, .ref lt, .ref od, .ref th, .ref be, .ref ln, .int (nI S), .ref ma, .int (nI M), .ref ah, .ref bh, .ref ik, .ref la, .ref lg, .ref ce, .int vto])), (st, .inl (G 0, 196, .inl fst)), (ma, .inl (G 0, 12, .inl fma)), (ah, .inl (G 0, 110, .inl oah)), (bh, .inl (G 0, 110, .inl obh))]) A) ([.ref h0] : List Value).toArray s 0 0 A) (F0 m 209 ls []) := by
                      intro nf
                      induction nf with
                      | zero => intro j23 h1 h2; exact absurd h1 (by omega)
                      | succ nf ih209_25 =>
                        intro j23 hn26 hj27 g24 H locs hP hD hS ls hl
                        refine lv_iload_n hx hb dX11_layPaths_209 rfl (lv_at hl 0 rfl) ?_
                        refine lv_bipush (v := 10) hx hb dX11_layPaths_210 rfl ?_
                        refine lv_icmp_ge (tgt := 275) hx hb dX11_layPaths_212 rfl (fun c28 => ?_) (fun c28 => ?_)
                        · skip
                          have tn881_ : nIT j23 := fun _ => nI_toInt (by first | omega | (have t := leI c28; omega))
                          have n29 : 10 ≤ j23 := by have t := leI c28; rw [show (nI (j23)).toInt = ((j23 : Nat) : Int) from tn881_ ()] at t; have : (10 : Int32).toInt = 10 := qI_10; omega
                          refine lv_iinc (v := dn j16) (lv' := [(1, .int (dn j16)), (2, .int (nI j23)), (0, .ref h0)]) hx hb dX11_layPaths_275 hl (k := 1) rfl (by exact dn_pred _) (by decide) rfl (fun ls hl => ?_)
                          refine lv_goto (tgt := 203) hx hb dX11_layPaths_278 rfl ?_
                          exact ih203_18 (by omega) g24 _ _ hP hD hS ls (lv_sub hl [0, 2] rfl)
                        · skip
                          have tn882_ : nIT j23 := fun _ => nI_toInt (by first | omega | (have t := nleI c28; omega))
                          have n30 : j23 < 10 := by have t := nleI c28; rw [show (nI (j23)).toInt = ((j23 : Nat) : Int) from tn882_ ()] at t; have : (10 : Int32).toInt = 10 := qI_10; omega
                          refine lv_aload_n hx hb dX11_layPaths_215 rfl (lv_at hl 2 rfl) ?_
                          refine va_get (D := (dC, dI)) (ci := 11) (v := .ref bh) (C := RX11) (T := TX11) (N := 35) hx hb hg inG11 hown hK.1 hP 0 rfl rfl 29 (Nat.le_of_ble_eq_true rfl) (hg _ wt_907) (fun _ h9 => h9) rfl dX11_layPaths_216 ?_
                          refine lv_bipush (v := 10) hx hb dX11_layPaths_219 rfl ?_
                          refine lv_iload_n hx hb dX11_layPaths_221 rfl (lv_at hl 1 rfl) ?_
                          refine lv_imul hx hb dX11_layPaths_222 ?_
                          refine lv_cg (y := nI (10 * j16)) (by rw [show (10 : Int32) = nI 10 from rfl]; exact pk_mul _ _) ?_
                          refine lv_iload_n hx hb dX11_layPaths_223 rfl (lv_at hl 0 rfl) ?_
                          refine lv_iadd hx hb dX11_layPaths_224 ?_
                          refine lv_cg (y := nI ((10 * j16) + j23)) (by exact nI_add _ _) ?_
                          refine lv_iload_n hx hb dX11_layPaths_225 rfl (lv_at hl 0 rfl) ?_
                          have cut268_32 : ∀ (y31 : Int32) (H : Heap) (locs : List Loc), va_P (dC, dI) vwCl [(h0, .inr (11, [.ref st, .int (nI N), .int (nI B), .ref rp, .int vrs, .int vrb, .int vhs, .int vca, .int vxs, .int vxb, .ref tp, .int (nI T), .int vfa, .int vbr, .int vba, .int vsp, .int vhe, .int vtk, .int vva, .ref cu, .ref lt, .ref od, .ref th, .ref be, .ref ln, .int (nI S), .ref ma, .int (nI M), .ref ah, .ref bh, .ref ik, .ref la, .ref lg, .ref ce, .int vto])), (st, .inl (G 0, 196, .inl fst)), (ma, .inl (G 0, 12, .inl fma)), (ah, .inl (G 0, 110, .inl g10)), (bh, .inl (G 0, 110, .inl g24))] H → va_D A [(h0, .inr (11, [.ref st, .int (nI N), .int (nI B), .ref rp, .int vrs, .int vrb, .int vhs, .int vca, .int vxs, .int vxb, .ref tp, .int (nI T), .int vfa, .int vbr, .int vba, .int vsp, .int vhe, .int vtk, .int vva, .ref cu, .ref lt, .ref od, .ref th, .ref be, .ref ln, .int (nI S), .ref ma, .int (nI M), .ref ah, .ref bh, .ref ik, .ref la, .ref lg, .ref ce, .int vto])), (st, .inl (G 0, 196, .inl fst)), (ma, .inl (G 0, 12, .inl fma)), (ah, .inl (G 0, 110, .inl g10)), (bh, .inl (G 0, 110, .inl g24))] → va_S A s.heap H locs → ∀ (ls : Array Slot), lv_has ls 6 [(2, .int (nI j23)), (1, .int (nI j16)), (0, .ref h0)] → W p l e (headSpec (Cond.code yX11_layPaths cX11_layPaths 6 none :: GT) ({ frames := 5, cells := 0, slots := 0, locals := 121 } : Room)).room s m ([.ref h0] : List Value).toArray below meth c H locs 0 0 (MQ below (va_Qv (fun (u : (Nat → Int32) × (Nat → Int32)) => match u with | (oah, obh) => True) (fun (u : (Nat → Int32) × (Nat → Int32)) (t : State) => match u with | (oah, obh) => va_P (dC, dI) vwCl [(h0, .inr (11, [.ref st, .int (nI N), .int (nI B), .ref rp, .int vrs, .int vrb, .int vhs, .int vca, .int vxs, .int vxb, .ref tp, .int (nI T), .int vfa, .int vbr, .int vba, .int vsp, .int vhe, .int vtk, .int vva, .ref cu, .ref lt, .ref od, .ref th, .ref be, .ref ln, .int (nI S), .ref ma, .int (nI M), .ref ah, .ref bh, .ref ik, .ref la, .ref lg, .ref ce, .int vto])), (st, .inl (G 0, 196, .inl fst)), (ma, .inl (G 0, 12, .inl fma)), (ah, .inl (G 0, 110, .inl oah)), (bh, .inl (G 0, 110, .inl obh))] t.heap ∧ va_D A [(h0, .inr (11, [.ref st, .int (nI N), .int (nI B), .ref rp, .int vrs, .int vrb, .int vhs, .int vca, .int vxs, .int vxb, .ref tp, .int (nI T), .int vfa, .int vbr, .int vba, .int vsp, .int vhe, .int vtk, .int vva, .ref cu, .ref lt, .ref od, .ref th, .ref be, .ref ln, .int (nI S), .ref ma, .int (nI M), .ref ah, .ref bh, .ref ik, .ref la, .ref lg, .ref ce, .int vto])), (st, .inl (G 0, 196, .inl fst)), (ma, .inl (G 0, 12, .inl fma)), (ah, .inl (G 0, 110, .inl oah)), (bh, .inl (G 0, 110, .inl obh))]) A) ([.ref h0] : List Value).toArray s 0 0 A) (F0 m 268 ls [.int y31, .int (nI ((10 * j16) + j23)), .ref bh]) := by
                            intro y31 H locs hP hD hS ls hl
                            refine va_iast hx hb hK.1 hP hD hS 4 0 rfl rfl (vp_in_nI (by first | omega | (have t_hj6 := hj6; have t_n8 := n8; have t_hj13 := hj13; have t_n15 := n15; have t_hj19 := hj19; have t_n22 := n22; have t_hj27 := hj27; have t_n30 := n30; have t_n0 : (nI N).toInt = (N : Int) := tn872_ (); have t_n1 : (nI B).toInt = (B : Int) := tn873_ (); have t_n2 : (nI T).toInt = (T : Int) := tn874_ (); have t_n3 : (nI S).toInt = (S : Int) := tn875_ (); have t_n4 : (nI M).toInt = (M : Int) := tn876_ (); have t_n5 : (nI j1).toInt = (j1 : Int) := tn877_ (); have t_n6 : (nI j9).toInt = (j9 : Int) := tn878_ (); have t_n7 : (nI j16).toInt = (j16 : Int) := tn880_ (); have t_n8 : (nI j23).toInt = (j23 : Int) := tn882_ (); omega)) (by decide)) dX11_layPaths_268 (fun H locs hP hD hS => ?_)
                            rw [nI_clamp (by omega)] at hP hD
                            refine lv_iinc (v := nI (j23 + 1)) (lv' := [(2, .int (nI (j23 + 1))), (1, .int (nI j16)), (0, .ref h0)]) hx hb dX11_layPaths_269 hl (k := 0) rfl (by rw [show Int32.ofInt 1 = nI 1 from by decide]; exact nI_add _ _) (by decide) rfl (fun ls hl => ?_)
                            refine lv_goto (tgt := 209) hx hb dX11_layPaths_272 rfl ?_
                            exact ih209_25 (j23 + 1) (by omega) (by omega) (upd g24 ((10 * j16) + j23) y31) _ _ hP hD hS ls (lv_sub hl [0, 1, 2] rfl)
                          have cut253_33 : ∀ (H : Heap) (locs : List Loc), va_P (dC, dI) vwCl [(h0, .inr (11, [.ref st, .int (nI N), .int (nI B), .ref rp, .int vrs, .int vrb, .int vhs, .int vca, .int vxs, .int vxb, .ref tp, .int (nI T), .int vfa, .int vbr, .int vba, .int vsp, .int vhe, .int vtk, .int vva, .ref cu, .ref lt, .ref od, .ref th, .ref be, .ref ln, .int (nI S), .ref ma, .int (nI M), .ref ah, .ref bh, .ref ik, .ref la, .ref lg, .ref ce, .int vto])), (st, .inl (G 0, 196, .inl fst)), (ma, .inl (G 0, 12, .inl fma)), (ah, .inl (G 0, 110, .inl g10)), (bh, .inl (G 0, 110, .inl g24))] H → va_D A [(h0, .inr (11, [.ref st, .int (nI N), .int (nI B), .ref rp, .int vrs, .int vrb, .int vhs, .int vca, .int vxs, .int vxb, .ref tp, .int (nI T), .int vfa, .int vbr, .int vba, .int vsp, .int vhe, .int vtk, .int vva, .ref cu, .ref lt, .ref od, .ref th, .ref be, .ref ln, .int (nI S), .ref ma, .int (nI M), .ref ah, .ref bh, .ref ik, .ref la, .ref lg, .ref ce, .int vto])), (st, .inl (G 0, 196, .inl fst)), (ma, .inl (G 0, 12, .inl fma)), (ah, .inl (G 0, 110, .inl g10)), (bh, .inl (G 0, 110, .inl g24))] → va_S A s.heap H locs → ∀ (ls : Array Slot), lv_has ls 6 [(2, .int (nI j23)), (1, .int (nI j16)), (0, .ref h0)] → W p l e (headSpec (Cond.code yX11_layPaths cX11_layPaths 6 none :: GT) ({ frames := 5, cells := 0, slots := 0, locals := 121 } : Room)).room s m ([.ref h0] : List Value).toArray below meth c H locs 0 0 (MQ below (va_Qv (fun (u : (Nat → Int32) × (Nat → Int32)) => match u with | (oah, obh) => True) (fun (u : (Nat → Int32) × (Nat → Int32)) (t : State) => match u with | (oah, obh) => va_P (dC, dI) vwCl [(h0, .inr (11, [.ref st, .int (nI N), .int (nI B), .ref rp, .int vrs, .int vrb, .int vhs, .int vca, .int vxs, .int vxb, .ref tp, .int (nI T), .int vfa, .int vbr, .int vba, .int vsp, .int vhe, .int vtk, .int vva, .ref cu, .ref lt, .ref od, .ref th, .ref be, .ref ln, .int (nI S), .ref ma, .int (nI M), .ref ah, .ref bh, .ref ik, .ref la, .ref lg, .ref ce, .int vto])), (st, .inl (G 0, 196, .inl fst)), (ma, .inl (G 0, 12, .inl fma)), (ah, .inl (G 0, 110, .inl oah)), (bh, .inl (G 0, 110, .inl obh))] t.heap ∧ va_D A [(h0, .inr (11, [.ref st, .int (nI N), .int (nI B), .ref rp, .int vrs, .int vrb, .int vhs, .int vca, .int vxs, .int vxb, .ref tp, .int (nI T), .int vfa, .int vbr, .int vba, .int vsp, .int vhe, .int vtk, .int vva, .ref cu, .ref lt, .ref od, .ref th, .ref be, .ref ln, .int (nI S), .ref ma, .int (nI M), .ref ah, .ref bh, .ref ik, .ref la, .ref lg, .ref ce, .int vto])), (st, .inl (G 0, 196, .inl fst)), (ma, .inl (G 0, 12, .inl fma)), (ah, .inl (G 0, 110, .inl oah)), (bh, .inl (G 0, 110, .inl obh))]) A) ([.ref h0] : List Value).toArray s 0 0 A) (F0 m 253 ls [.int (nI ((10 * j16) + j23)), .ref bh]) := by
                            intro  H locs hP hD hS ls hl
                            refine lv_aload_n hx hb dX11_layPaths_253 rfl (lv_at hl 2 rfl) ?_
                            refine lv_iload_n hx hb dX11_layPaths_254 rfl (lv_at hl 1 rfl) ?_
                            refine lv_iload_n hx hb dX11_layPaths_255 rfl (lv_at hl 0 rfl) ?_
                            refine lv_iconst (v := 1) hx hb dX11_layPaths_256 rfl ?_
                            have hPc := hP.sub (ws' := [(h0, .inr (11, [.ref st, .int (nI N), .int (nI B), .ref rp, .int vrs, .int vrb, .int vhs, .int vca, .int vxs, .int vxb, .ref tp, .int (nI T), .int vfa, .int vbr, .int vba, .int vsp, .int vhe, .int vtk, .int vva, .ref cu, .ref lt, .ref od, .ref th, .ref be, .ref ln, .int (nI S), .ref ma, .int (nI M), .ref ah, .ref bh, .ref ik, .ref la, .ref lg, .ref ce, .int vto])), (st, .inl (G 0, 196, .inl fst)), (ma, .inl (G 0, 12, .inl fma)), (bh, .inl (G 0, 110, .inl g24))]) [0, 1, 2, 4] rfl
                            refine va_calli (va_runV (As := [.int (nI j16), .int (nI j23), .int 1]) (rest := [.int (nI ((10 * j16) + j23)), .ref bh]) ⟨hx, hb, hml, hown, hg⟩ (c_X11_onward l dC dI G _ h0 j16 j23 st N B rp tp T cu lt od th be ln S ma M ah bh ik la lg ce 1 vrs vrb vhs vca vxs vxb vfa vbr vba vsp vhe vtk vva vto fst fma g24 hN hB_ hT_ hS0 hM_ hst (by first | omega | (have t_hj6 := hj6; have t_n8 := n8; have t_hj13 := hj13; have t_n15 := n15; have t_hj19 := hj19; have t_n22 := n22; have t_hj27 := hj27; have t_n30 := n30; have t_n0 : (nI N).toInt = (N : Int) := tn872_ (); have t_n1 : (nI B).toInt = (B : Int) := tn873_ (); have t_n2 : (nI T).toInt = (T : Int) := tn874_ (); have t_n3 : (nI S).toInt = (S : Int) := tn875_ (); have t_n4 : (nI M).toInt = (M : Int) := tn876_ (); have t_n5 : (nI j1).toInt = (j1 : Int) := tn877_ (); have t_n6 : (nI j9).toInt = (j9 : Int) := tn878_ (); have t_n7 : (nI j16).toInt = (j16 : Int) := tn880_ (); have t_n8 : (nI j23).toInt = (j23 : Int) := tn882_ (); omega)) (by first | omega | (have t_hj6 := hj6; have t_n8 := n8; have t_hj13 := hj13; have t_n15 := n15; have t_hj19 := hj19; have t_n22 := n22; have t_hj27 := hj27; have t_n30 := n30; have t_n0 : (nI N).toInt = (N : Int) := tn872_ (); have t_n1 : (nI B).toInt = (B : Int) := tn873_ (); have t_n2 : (nI T).toInt = (T : Int) := tn874_ (); have t_n3 : (nI S).toInt = (S : Int) := tn875_ (); have t_n4 : (nI M).toInt = (M : Int) := tn876_ (); have t_n5 : (nI j1).toInt = (j1 : Int) := tn877_ (); have t_n6 : (nI j9).toInt = (j9 : Int) := tn878_ (); have t_n7 : (nI j16).toInt = (j16 : Int) := tn880_ (); have t_n8 : (nI j23).toInt = (j23 : Int) := tn882_ (); omega))) (kwV hg mfX11_onward wt_1232 ⟨Nat.le_of_ble_eq_true rfl, Nat.le_of_ble_eq_true rfl⟩) (preVR hK hPc (ci := 11) rfl rfl) rfl rfl hl.1 rfl (lv_room (Nat.le_of_ble_eq_true rfl)) dX11_layPaths_257 ⟨Nat.le_of_ble_eq_true rfl, Nat.le_of_ble_eq_true rfl⟩) hS (fun q h1 h2 => absurd h2 (Nat.not_le.mpr h1)) (fun q h => hA q (Nat.le_trans hS.1 h)) (fun r34 ur34 t H1 locs ht hvm w35 hB hz1 hk1 hS => ?_)
                            have hP := keepR hP hk1
                            obtain ⟨w35, w35x⟩ := w35
                            refine lv_aload_n hx hb dX11_layPaths_260 rfl (lv_at hl 2 rfl) ?_
                            refine lv_iload_n hx hb dX11_layPaths_261 rfl (lv_at hl 1 rfl) ?_
                            refine lv_iload_n hx hb dX11_layPaths_262 rfl (lv_at hl 0 rfl) ?_
                            refine lv_iconst (v := 0) hx hb dX11_layPaths_263 rfl ?_
                            have hPc := hP.sub (ws' := [(h0, .inr (11, [.ref st, .int (nI N), .int (nI B), .ref rp, .int vrs, .int vrb, .int vhs, .int vca, .int vxs, .int vxb, .ref tp, .int (nI T), .int vfa, .int vbr, .int vba, .int vsp, .int vhe, .int vtk, .int vva, .ref cu, .ref lt, .ref od, .ref th, .ref be, .ref ln, .int (nI S), .ref ma, .int (nI M), .ref ah, .ref bh, .ref ik, .ref la, .ref lg, .ref ce, .int vto])), (st, .inl (G 0, 196, .inl fst)), (ma, .inl (G 0, 12, .inl fma)), (bh, .inl (G 0, 110, .inl g24))]) [0, 1, 2, 4] rfl
                            refine va_calli (va_runV (As := [.int (nI j16), .int (nI j23), .int 0]) (rest := [.int r34, .int (nI ((10 * j16) + j23)), .ref bh]) ⟨hx, hb, hml, hown, hg⟩ (c_X11_onward l dC dI G _ h0 j16 j23 st N B rp tp T cu lt od th be ln S ma M ah bh ik la lg ce 0 vrs vrb vhs vca vxs vxb vfa vbr vba vsp vhe vtk vva vto fst fma g24 hN hB_ hT_ hS0 hM_ hst (by first | omega | (have t_hj6 := hj6; have t_n8 := n8; have t_hj13 := hj13; have t_n15 := n15; have t_hj19 := hj19; have t_n22 := n22; have t_hj27 := hj27; have t_n30 := n30; have t_n0 : (nI N).toInt = (N : Int) := tn872_ (); have t_n1 : (nI B).toInt = (B : Int) := tn873_ (); have t_n2 : (nI T).toInt = (T : Int) := tn874_ (); have t_n3 : (nI S).toInt = (S : Int) := tn875_ (); have t_n4 : (nI M).toInt = (M : Int) := tn876_ (); have t_n5 : (nI j1).toInt = (j1 : Int) := tn877_ (); have t_n6 : (nI j9).toInt = (j9 : Int) := tn878_ (); have t_n7 : (nI j16).toInt = (j16 : Int) := tn880_ (); have t_n8 : (nI j23).toInt = (j23 : Int) := tn882_ (); omega)) (by first | omega | (have t_hj6 := hj6; have t_n8 := n8; have t_hj13 := hj13; have t_n15 := n15; have t_hj19 := hj19; have t_n22 := n22; have t_hj27 := hj27; have t_n30 := n30; have t_n0 : (nI N).toInt = (N : Int) := tn872_ (); have t_n1 : (nI B).toInt = (B : Int) := tn873_ (); have t_n2 : (nI T).toInt = (T : Int) := tn874_ (); have t_n3 : (nI S).toInt = (S : Int) := tn875_ (); have t_n4 : (nI M).toInt = (M : Int) := tn876_ (); have t_n5 : (nI j1).toInt = (j1 : Int) := tn877_ (); have t_n6 : (nI j9).toInt = (j9 : Int) := tn878_ (); have t_n7 : (nI j16).toInt = (j16 : Int) := tn880_ (); have t_n8 : (nI j23).toInt = (j23 : Int) := tn882_ (); omega))) (kwV hg mfX11_onward wt_1232 ⟨Nat.le_of_ble_eq_true rfl, Nat.le_of_ble_eq_true rfl⟩) (preVR hK hPc (ci := 11) rfl rfl) rfl rfl hl.1 rfl (lv_room (Nat.le_of_ble_eq_true rfl)) dX11_layPaths_264 ⟨Nat.le_of_ble_eq_true rfl, Nat.le_of_ble_eq_true rfl⟩) hS (fun q h1 h2 => absurd h2 (Nat.not_le.mpr h1)) (fun q h => hA q (Nat.le_trans hS.1 h)) (fun r36 ur36 t H1 locs ht hvm w37 hB hz1 hk1 hS => ?_)
                            have hP := keepR hP hk1
                            obtain ⟨w37, w37x⟩ := w37
                            refine lv_iadd hx hb dX11_layPaths_267 ?_
                            exact cut268_32 (r34 + r36) _ _ hP hD hS ls (lv_sub hl [0, 1, 2] rfl)
                          refine lv_if_ne (tgt := 253) hx hb dX11_layPaths_226 rfl (fun c38 => ?_) (fun c38 => ?_)
                          · skip
                            have n39 : j23 ≠ 0 := by have t := neI c38; rw [show (nI (j23)).toInt = ((j23 : Nat) : Int) from tn882_ ()] at t; have : (0 : Int32).toInt = 0 := qI_0; omega
                            exact cut253_33  _ _ hP hD hS ls (lv_sub hl [0, 1, 2] rfl)
                          · skip
                            have n40 : j23 = 0 := by have t := eqI c38; rw [show (nI (j23)).toInt = ((j23 : Nat) : Int) from tn882_ ()] at t; have : (0 : Int32).toInt = 0 := qI_0; omega
                            refine lv_aload_n hx hb dX11_layPaths_229 rfl (lv_at hl 2 rfl) ?_
                            refine lv_iload_n hx hb dX11_layPaths_230 rfl (lv_at hl 1 rfl) ?_
                            refine lv_iconst (v := 0) hx hb dX11_layPaths_231 rfl ?_
                            have hPc := hP.sub (ws' := [(h0, .inr (11, [.ref st, .int (nI N), .int (nI B), .ref rp, .int vrs, .int vrb, .int vhs, .int vca, .int vxs, .int vxb, .ref tp, .int (nI T), .int vfa, .int vbr, .int vba, .int vsp, .int vhe, .int vtk, .int vva, .ref cu, .ref lt, .ref od, .ref th, .ref be, .ref ln, .int (nI S), .ref ma, .int (nI M), .ref ah, .ref bh, .ref ik, .ref la, .ref lg, .ref ce, .int vto])), (ma, .inl (G 0, 12, .inl fma))]) [0, 2] rfl
                            refine va_calli (va_runV (As := [.int (nI j16), .int 0]) (rest := [.int (nI ((10 * j16) + j23)), .ref bh]) ⟨hx, hb, hml, hown, hg⟩ (c_X11_isMarked l dC dI G _ h0 st N B rp tp T cu lt od th be ln S ma M ah bh ik la lg ce (nI j16) 0 vrs vrb vhs vca vxs vxb vfa vbr vba vsp vhe vtk vva vto fma hN hB_ hT_ hS0 hM_) (kwV hg mfX11_isMarked wt_1228 ⟨Nat.le_of_ble_eq_true rfl, Nat.le_of_ble_eq_true rfl⟩) (preVR hK hPc (ci := 11) rfl rfl) rfl rfl hl.1 rfl (lv_room (Nat.le_of_ble_eq_true rfl)) dX11_layPaths_232 ⟨Nat.le_of_ble_eq_true rfl, Nat.le_of_ble_eq_true rfl⟩) hS (fun q h1 h2 => absurd h2 (Nat.not_le.mpr h1)) (fun q h => hA q (Nat.le_trans hS.1 h)) (fun r41 ur41 t H1 locs ht hvm w42 hB hz1 hk1 hS => ?_)
                            have hP := keepR hP hk1
                            obtain ⟨w42, w42x⟩ := w42
                            refine lv_if_eq (tgt := 253) hx hb dX11_layPaths_235 rfl (fun c43 => ?_) (fun c43 => ?_)
                            · skip
                              exact cut253_33  _ _ hP hD hS ls (lv_sub hl [0, 1, 2] rfl)
                            · skip
                              refine lv_aload_n hx hb dX11_layPaths_238 rfl (lv_at hl 2 rfl) ?_
                              refine va_get (D := (dC, dI)) (ci := 11) (v := .ref bh) (C := RX11) (T := TX11) (N := 35) hx hb hg inG11 hown hK.1 hP 0 rfl rfl 29 (Nat.le_of_ble_eq_true rfl) (hg _ wt_907) (fun _ h9 => h9) rfl dX11_layPaths_239 ?_
                              refine lv_bipush (v := 10) hx hb dX11_layPaths_242 rfl ?_
                              refine lv_iload_n hx hb dX11_layPaths_244 rfl (lv_at hl 1 rfl) ?_
                              refine lv_imul hx hb dX11_layPaths_245 ?_
                              refine lv_cg (y := nI (10 * j16)) (by rw [show (10 : Int32) = nI 10 from rfl]; exact pk_mul _ _) ?_
                              refine lv_bipush (v := 10) hx hb dX11_layPaths_246 rfl ?_
                              refine lv_iadd hx hb dX11_layPaths_248 ?_
                              refine lv_cg (y := nI ((10 * j16) + 10)) (by rw [show (10 : Int32) = nI 10 from rfl]; exact nI_add _ _) ?_
                              refine va_iald hx hb hK.1 hP 4 0 rfl rfl (vp_in_nI (by first | omega | (have t_hj6 := hj6; have t_n8 := n8; have t_hj13 := hj13; have t_n15 := n15; have t_hj19 := hj19; have t_n22 := n22; have t_hj27 := hj27; have t_n30 := n30; have t_n40 := n40; have t_c43 := neI c43; have : (0 : Int32).toInt = 0 := qI_0; have t_n0 : (nI N).toInt = (N : Int) := tn872_ (); have t_n1 : (nI B).toInt = (B : Int) := tn873_ (); have t_n2 : (nI T).toInt = (T : Int) := tn874_ (); have t_n3 : (nI S).toInt = (S : Int) := tn875_ (); have t_n4 : (nI M).toInt = (M : Int) := tn876_ (); have t_n5 : (nI j1).toInt = (j1 : Int) := tn877_ (); have t_n6 : (nI j9).toInt = (j9 : Int) := tn878_ (); have t_n7 : (nI j16).toInt = (j16 : Int) := tn880_ (); have t_n8 : (nI j23).toInt = (j23 : Int) := tn882_ (); omega)) (by decide)) dX11_layPaths_249 ?_
                              refine lv_cg (y := g24 ((10 * j16) + 10)) (by rw [nI_clamp (by omega)]) ?_
                              refine lv_goto (tgt := 268) hx hb dX11_layPaths_250 rfl ?_
                              exact cut268_32 (g24 ((10 * j16) + 10)) _ _ hP hD hS ls (lv_sub hl [0, 1, 2] rfl)
                    exact loop209_25 (10 + 1) 0 (by omega) (by omega) g17 _ _ hP hD hS ls (lv_sub hl [0, 1, 2] rfl)
              exact loop203_18 N (Nat.le_refl _) g3 _ _ hP hD hS ls (lv_sub hl [0, 1] rfl)
            · skip
              have tn883_ : nIT j9 := fun _ => nI_toInt (by first | omega | (have t := nleI c14; omega))
              have n44 : j9 < N := by have t := nleI c14; rw [show (nI (j9)).toInt = ((j9 : Nat) : Int) from tn883_ ()] at t; rw [show (nI (N)).toInt = ((N : Nat) : Int) from tn872_ ()] at t; omega
              refine lv_iconst (v := 0) hx hb dX11_layPaths_65 rfl ?_
              refine lv_istore_n (lv' := [(2, .int 0), (1, .int (nI j9)), (0, .ref h0)]) hx hb dX11_layPaths_66 rfl hl (by decide) rfl (fun ls hl => ?_)
              have loop67_47 : ∀ (nf j45 : Nat), 10 + 1 ≤ j45 + nf → j45 ≤ 10 → ∀ (g46 : Nat → Int32) (H : Heap) (locs : List Loc), va_P (dC, dI) vwCl [(h0, .inr (11, [.ref st, .int (nI N), .int (nI B), .ref rp, .int vrs, .int vrb, .int vhs, .int vca, .int vxs, .int vxb, .ref tp, .int (nI T), .int vfa, .int vbr, .int vba, .int vsp, .int vhe, .int vtk, .int vva, .ref cu, .ref lt, .ref od, .ref th, .ref be, .ref ln, .int (nI S), .ref ma, .int (nI M), .ref ah, .ref bh, .ref ik, .ref la, .ref lg, .ref ce, .int vto])), (st, .inl (G 0, 196, .inl fst)), (ma, .inl (G 0, 12, .inl fma)), (ah, .inl (G 0, 110, .inl g46)), (bh, .inl (G 0, 110, .inl g3))] H → va_D A [(h0, .inr (11, [.ref st, .int (nI N), .int (nI B), .ref rp, .int vrs, .int vrb, .int vhs, .int vca, .int vxs, .int vxb, .ref tp, .int (nI T), .int vfa, .int vbr, .int vba, .int vsp, .int vhe, .int vtk, .int vva, .ref cu, .ref lt, .ref od, .ref th, .ref be, .ref ln, .int (nI S), .ref ma, .int (nI M), .ref ah, .ref bh, .ref ik, .ref la, .ref lg, .ref ce, .int vto])), (st, .inl (G 0, 196, .inl fst)), (ma, .inl (G 0, 12, .inl fma)), (ah, .inl (G 0, 110, .inl g46)), (bh, .inl (G 0, 110, .inl g3))] → va_S A s.heap H locs → ∀ (ls : Array Slot), lv_has ls 6 [(2, .int (nI j45)), (1, .int (nI j9)), (0, .ref h0)] → W p l e (headSpec (Cond.code yX11_layPaths cX11_layPaths 6 none :: GT) ({ frames := 5, cells := 0, slots := 0, locals := 121 } : Room)).room s m ([.ref h0] : List Value).toArray below meth c H locs 0 0 (MQ below (va_Qv (fun (u : (Nat → Int32) × (Nat → Int32)) => match u with | (oah, obh) => True) (fun (u : (Nat → Int32) × (Nat → Int32)) (t : State) => match u with | (oah, obh) => va_P (dC, dI) vwCl [(h0, .inr (11, [.ref st, .int (nI N), .int (nI B), .ref rp, .int vrs, .int vrb, .int vhs, .int vca, .int vxs, .int vxb, .ref tp, .int (nI T), .int vfa, .int vbr, .int vba, .int vsp, .int vhe, .int vtk, .int vva, .ref cu, .ref lt, .ref od, .ref th, .ref be, .ref ln, .int (nI S), .ref ma, .int (nI M), .ref ah, .ref bh, .ref ik, .ref la, .ref lg, .ref ce, .int vto])), (st, .inl (G 0, 196, .inl fst)), (ma, .inl (G 0, 12, .inl fma)), (ah, .inl (G 0, 110, .inl oah)), (bh, .inl (G 0, 110, .inl obh))] t.heap ∧ va_D A [(h0, .inr (11, [.ref st, .int (nI N), .int (nI B), .ref rp, .int vrs, .int vrb, .int vhs, .int vca, .int vxs, .int vxb, .ref tp, .int (nI T), .int vfa, .int vbr, .int vba, .int vsp, .int vhe, .int vtk, .int vva, .ref cu, .ref lt, .ref od, .ref th, .ref be, .ref ln, .int (nI S), .ref ma, .int (nI M), .ref ah, .ref bh, .ref ik, .ref la, .ref lg, .ref ce, .int vto])), (st, .inl (G 0, 196, .inl fst)), (ma, .inl (G 0, 12, .inl fma)), (ah, .inl (G 0, 110, .inl oah)), (bh, .inl (G 0, 110, .inl obh))]) A) ([.ref h0] : List Value).toArray s 0 0 A) (F0 m 67 ls []) := by
                intro nf
                induction nf with
                | zero => intro j45 h1 h2; exact absurd h1 (by omega)
                | succ nf ih67_47 =>
                  intro j45 hn48 hj49 g46 H locs hP hD hS ls hl
                  refine lv_iload_n hx hb dX11_layPaths_67 rfl (lv_at hl 0 rfl) ?_
                  refine lv_bipush (v := 10) hx hb dX11_layPaths_68 rfl ?_
                  refine lv_icmp_ge (tgt := 190) hx hb dX11_layPaths_70 rfl (fun c50 => ?_) (fun c50 => ?_)
                  · skip
                    have tn884_ : nIT j45 := fun _ => nI_toInt (by first | omega | (have t := leI c50; omega))
                    have n51 : 10 ≤ j45 := by have t := leI c50; rw [show (nI (j45)).toInt = ((j45 : Nat) : Int) from tn884_ ()] at t; have : (10 : Int32).toInt = 10 := qI_10; omega
                    refine lv_iinc (v := nI (j9 + 1)) (lv' := [(1, .int (nI (j9 + 1))), (2, .int (nI j45)), (0, .ref h0)]) hx hb dX11_layPaths_190 hl (k := 1) rfl (by rw [show Int32.ofInt 1 = nI 1 from by decide]; exact nI_add _ _) (by decide) rfl (fun ls hl => ?_)
                    refine lv_goto (tgt := 57) hx hb dX11_layPaths_193 rfl ?_
                    exact ih57_11 (j9 + 1) (by omega) (by omega) g46 _ _ hP hD hS ls (lv_sub hl [0, 2] rfl)
                  · skip
                    have tn885_ : nIT j45 := fun _ => nI_toInt (by first | omega | (have t := nleI c50; omega))
                    have n52 : j45 < 10 := by have t := nleI c50; rw [show (nI (j45)).toInt = ((j45 : Nat) : Int) from tn885_ ()] at t; have : (10 : Int32).toInt = 10 := qI_10; omega
                    refine lv_aload_n hx hb dX11_layPaths_73 rfl (lv_at hl 2 rfl) ?_
                    refine va_get (D := (dC, dI)) (ci := 11) (v := .ref ah) (C := RX11) (T := TX11) (N := 35) hx hb hg inG11 hown hK.1 hP 0 rfl rfl 28 (Nat.le_of_ble_eq_true rfl) (hg _ wt_906) (fun _ h9 => h9) rfl dX11_layPaths_74 ?_
                    refine lv_bipush (v := 10) hx hb dX11_layPaths_77 rfl ?_
                    refine lv_iload_n hx hb dX11_layPaths_79 rfl (lv_at hl 1 rfl) ?_
                    refine lv_imul hx hb dX11_layPaths_80 ?_
                    refine lv_cg (y := nI (10 * j9)) (by rw [show (10 : Int32) = nI 10 from rfl]; exact pk_mul _ _) ?_
                    refine lv_iload_n hx hb dX11_layPaths_81 rfl (lv_at hl 0 rfl) ?_
                    refine lv_iadd hx hb dX11_layPaths_82 ?_
                    refine lv_cg (y := nI ((10 * j9) + j45)) (by exact nI_add _ _) ?_
                    refine va_iald hx hb hK.1 hP 3 0 rfl rfl (vp_in_nI (by first | omega | (have t_hj6 := hj6; have t_n8 := n8; have t_hj13 := hj13; have t_n44 := n44; have t_hj49 := hj49; have t_n52 := n52; have t_n0 : (nI N).toInt = (N : Int) := tn872_ (); have t_n1 : (nI B).toInt = (B : Int) := tn873_ (); have t_n2 : (nI T).toInt = (T : Int) := tn874_ (); have t_n3 : (nI S).toInt = (S : Int) := tn875_ (); have t_n4 : (nI M).toInt = (M : Int) := tn876_ (); have t_n5 : (nI j1).toInt = (j1 : Int) := tn877_ (); have t_n6 : (nI j9).toInt = (j9 : Int) := tn883_ (); have t_n7 : (nI j45).toInt = (j45 : Int) := tn885_ (); omega)) (by decide)) dX11_layPaths_83 ?_
                    refine lv_cg (y := g46 ((10 * j9) + j45)) (by rw [nI_clamp (by omega)]) ?_
                    refine lv_istore_n (lv' := [(3, .int (g46 ((10 * j9) + j45))), (2, .int (nI j45)), (1, .int (nI j9)), (0, .ref h0)]) hx hb dX11_layPaths_84 rfl hl (by decide) rfl (fun ls hl => ?_)
                    refine lv_aload_n hx hb dX11_layPaths_85 rfl (lv_at hl 3 rfl) ?_
                    refine lv_iload_n hx hb dX11_layPaths_86 rfl (lv_at hl 2 rfl) ?_
                    refine lv_iload_n hx hb dX11_layPaths_87 rfl (lv_at hl 1 rfl) ?_
                    refine lv_iconst (v := 1) hx hb dX11_layPaths_88 rfl ?_
                    have hPc := hP.sub (ws' := [(h0, .inr (11, [.ref st, .int (nI N), .int (nI B), .ref rp, .int vrs, .int vrb, .int vhs, .int vca, .int vxs, .int vxb, .ref tp, .int (nI T), .int vfa, .int vbr, .int vba, .int vsp, .int vhe, .int vtk, .int vva, .ref cu, .ref lt, .ref od, .ref th, .ref be, .ref ln, .int (nI S), .ref ma, .int (nI M), .ref ah, .ref bh, .ref ik, .ref la, .ref lg, .ref ce, .int vto])), (st, .inl (G 0, 196, .inl fst)), (ma, .inl (G 0, 12, .inl fma))]) [0, 1, 2] rfl
                    refine va_calli (va_runV (As := [.int (nI j9), .int (nI j45), .int 1]) (rest := []) ⟨hx, hb, hml, hown, hg⟩ (c_X11_depthThen l dC dI G _ h0 j9 j45 st N B rp tp T cu lt od th be ln S ma M ah bh ik la lg ce 1 vrs vrb vhs vca vxs vxb vfa vbr vba vsp vhe vtk vva vto fst fma hN hB_ hT_ hS0 hM_ hst (by first | omega | (have t_hj6 := hj6; have t_n8 := n8; have t_hj13 := hj13; have t_n44 := n44; have t_hj49 := hj49; have t_n52 := n52; have t_n0 : (nI N).toInt = (N : Int) := tn872_ (); have t_n1 : (nI B).toInt = (B : Int) := tn873_ (); have t_n2 : (nI T).toInt = (T : Int) := tn874_ (); have t_n3 : (nI S).toInt = (S : Int) := tn875_ (); have t_n4 : (nI M).toInt = (M : Int) := tn876_ (); have t_n5 : (nI j1).toInt = (j1 : Int) := tn877_ (); have t_n6 : (nI j9).toInt = (j9 : Int) := tn883_ (); have t_n7 : (nI j45).toInt = (j45 : Int) := tn885_ (); omega)) (by first | omega | (have t_hj6 := hj6; have t_n8 := n8; have t_hj13 := hj13; have t_n44 := n44; have t_hj49 := hj49; have t_n52 := n52; have t_n0 : (nI N).toInt = (N : Int) := tn872_ (); have t_n1 : (nI B).toInt = (B : Int) := tn873_ (); have t_n2 : (nI T).toInt = (T : Int) := tn874_ (); have t_n3 : (nI S).toInt = (S : Int) := tn875_ (); have t_n4 : (nI M).toInt = (M : Int) := tn876_ (); have t_n5 : (nI j1).toInt = (j1 : Int) := tn877_ (); have t_n6 : (nI j9).toInt = (j9 : Int) := tn883_ (); have t_n7 : (nI j45).toInt = (j45 : Int) := tn885_ (); omega))) (kwV hg mfX11_depthThen wt_1224 ⟨Nat.le_of_ble_eq_true rfl, Nat.le_of_ble_eq_true rfl⟩) (preVR hK hPc (ci := 11) rfl rfl) rfl rfl hl.1 rfl (lv_room (Nat.le_of_ble_eq_true rfl)) dX11_layPaths_89 ⟨Nat.le_of_ble_eq_true rfl, Nat.le_of_ble_eq_true rfl⟩) hS (fun q h1 h2 => absurd h2 (Nat.not_le.mpr h1)) (fun q h => hA q (Nat.le_trans hS.1 h)) (fun r53 ur53 t H1 locs ht hvm w54 hB hz1 hk1 hS => ?_)
                    have hP := keepR hP hk1
                    obtain ⟨w54, w54x⟩ := w54
                    rcases w54 with w541 | ⟨w540, w541, w542⟩
                    · skip
                      refine lv_cg (y := (-4)) w541 ?_
                      refine lv_istore (lv' := [(4, .int (-4)), (3, .int (g46 ((10 * j9) + j45))), (2, .int (nI j45)), (1, .int (nI j9)), (0, .ref h0)]) hx hb dX11_layPaths_92 hl (by decide) rfl (fun ls hl => ?_)
                      refine lv_aload_n hx hb dX11_layPaths_94 rfl (lv_at hl 4 rfl) ?_
                      refine lv_iload_n hx hb dX11_layPaths_95 rfl (lv_at hl 3 rfl) ?_
                      refine lv_iload_n hx hb dX11_layPaths_96 rfl (lv_at hl 2 rfl) ?_
                      refine lv_iconst (v := 0) hx hb dX11_layPaths_97 rfl ?_
                      have hPc := hP.sub (ws' := [(h0, .inr (11, [.ref st, .int (nI N), .int (nI B), .ref rp, .int vrs, .int vrb, .int vhs, .int vca, .int vxs, .int vxb, .ref tp, .int (nI T), .int vfa, .int vbr, .int vba, .int vsp, .int vhe, .int vtk, .int vva, .ref cu, .ref lt, .ref od, .ref th, .ref be, .ref ln, .int (nI S), .ref ma, .int (nI M), .ref ah, .ref bh, .ref ik, .ref la, .ref lg, .ref ce, .int vto])), (st, .inl (G 0, 196, .inl fst)), (ma, .inl (G 0, 12, .inl fma))]) [0, 1, 2] rfl
                      refine va_calli (va_runV (As := [.int (nI j9), .int (nI j45), .int 0]) (rest := []) ⟨hx, hb, hml, hown, hg⟩ (c_X11_depthThen l dC dI G _ h0 j9 j45 st N B rp tp T cu lt od th be ln S ma M ah bh ik la lg ce 0 vrs vrb vhs vca vxs vxb vfa vbr vba vsp vhe vtk vva vto fst fma hN hB_ hT_ hS0 hM_ hst (by first | omega | (have t_hj6 := hj6; have t_n8 := n8; have t_hj13 := hj13; have t_n44 := n44; have t_hj49 := hj49; have t_n52 := n52; have t_n0 : (nI N).toInt = (N : Int) := tn872_ (); have t_n1 : (nI B).toInt = (B : Int) := tn873_ (); have t_n2 : (nI T).toInt = (T : Int) := tn874_ (); have t_n3 : (nI S).toInt = (S : Int) := tn875_ (); have t_n4 : (nI M).toInt = (M : Int) := tn876_ (); have t_n5 : (nI j1).toInt = (j1 : Int) := tn877_ (); have t_n6 : (nI j9).toInt = (j9 : Int) := tn883_ (); have t_n7 : (nI j45).toInt = (j45 : Int) := tn885_ (); omega)) (by first | omega | (have t_hj6 := hj6; have t_n8 := n8; have t_hj13 := hj13; have t_n44 := n44; have t_hj49 := hj49; have t_n52 := n52; have t_n0 : (nI N).toInt = (N : Int) := tn872_ (); have t_n1 : (nI B).toInt = (B : Int) := tn873_ (); have t_n2 : (nI T).toInt = (T : Int) := tn874_ (); have t_n3 : (nI S).toInt = (S : Int) := tn875_ (); have t_n4 : (nI M).toInt = (M : Int) := tn876_ (); have t_n5 : (nI j1).toInt = (j1 : Int) := tn877_ (); have t_n6 : (nI j9).toInt = (j9 : Int) := tn883_ (); have t_n7 : (nI j45).toInt = (j45 : Int) := tn885_ (); omega))) (kwV hg mfX11_depthThen wt_1224 ⟨Nat.le_of_ble_eq_true rfl, Nat.le_of_ble_eq_true rfl⟩) (preVR hK hPc (ci := 11) rfl rfl) rfl rfl hl.1 rfl (lv_room (Nat.le_of_ble_eq_true rfl)) dX11_layPaths_98 ⟨Nat.le_of_ble_eq_true rfl, Nat.le_of_ble_eq_true rfl⟩) hS (fun q h1 h2 => absurd h2 (Nat.not_le.mpr h1)) (fun q h => hA q (Nat.le_trans hS.1 h)) (fun r55 ur55 t H1 locs ht hvm w56 hB hz1 hk1 hS => ?_)
                      have hP := keepR hP hk1
                      obtain ⟨w56, w56x⟩ := w56
                      rcases w56 with w561 | ⟨w560, w561, w562⟩
                      · skip
                        refine lv_cg (y := (-4)) w561 ?_
                        refine lv_istore (lv' := [(5, .int (-4)), (4, .int (-4)), (3, .int (g46 ((10 * j9) + j45))), (2, .int (nI j45)), (1, .int (nI j9)), (0, .ref h0)]) hx hb dX11_layPaths_101 hl (by decide) rfl (fun ls hl => ?_)
                        refine lv_iload_n hx hb dX11_layPaths_103 rfl (lv_at hl 3 rfl) ?_
                        refine lv_if_ne (tgt := 132) hx hb dX11_layPaths_104 rfl (fun c57 => ?_) (fun c57 => ?_)
                        · skip
                          have n58 : j45 ≠ 0 := by have t := neI c57; rw [show (nI (j45)).toInt = ((j45 : Nat) : Int) from tn885_ ()] at t; have : (0 : Int32).toInt = 0 := qI_0; omega
                          refine lv_iload hx hb dX11_layPaths_132 (lv_at hl 1 rfl) ?_
                          refine lv_bipush (v := (-4)) hx hb dX11_layPaths_134 rfl ?_
                          refine lv_icmp_eq (tgt := 158) hx hb dX11_layPaths_136 rfl (fun c59 => ?_) (fun c59 => ?_)
                          · skip
                            refine lv_iload hx hb dX11_layPaths_158 (lv_at hl 0 rfl) ?_
                            refine lv_bipush (v := (-4)) hx hb dX11_layPaths_160 rfl ?_
                            refine lv_icmp_eq (tgt := 184) hx hb dX11_layPaths_162 rfl (fun c60 => ?_) (fun c60 => ?_)
                            · skip
                              refine lv_iinc (v := nI (j45 + 1)) (lv' := [(2, .int (nI (j45 + 1))), (5, .int (-4)), (4, .int (-4)), (3, .int (g46 ((10 * j9) + j45))), (1, .int (nI j9)), (0, .ref h0)]) hx hb dX11_layPaths_184 hl (k := 3) rfl (by rw [show Int32.ofInt 1 = nI 1 from by decide]; exact nI_add _ _) (by decide) rfl (fun ls hl => ?_)
                              refine lv_goto (tgt := 67) hx hb dX11_layPaths_187 rfl ?_
                              exact ih67_47 (j45 + 1) (by omega) (by omega) g46 _ _ hP hD hS ls (lv_sub hl [0, 4, 5] rfl)
                            · skip
                              exact absurd c60 (by decide)
                          · skip
                            exact absurd c59 (by decide)
                        · skip
                          have n61 : j45 = 0 := by have t := eqI c57; rw [show (nI (j45)).toInt = ((j45 : Nat) : Int) from tn885_ ()] at t; have : (0 : Int32).toInt = 0 := qI_0; omega
                          refine lv_aload_n hx hb dX11_layPaths_107 rfl (lv_at hl 5 rfl) ?_
                          refine lv_iload_n hx hb dX11_layPaths_108 rfl (lv_at hl 4 rfl) ?_
                          refine lv_iconst (v := 0) hx hb dX11_layPaths_109 rfl ?_
                          have hPc := hP.sub (ws' := [(h0, .inr (11, [.ref st, .int (nI N), .int (nI B), .ref rp, .int vrs, .int vrb, .int vhs, .int vca, .int vxs, .int vxb, .ref tp, .int (nI T), .int vfa, .int vbr, .int vba, .int vsp, .int vhe, .int vtk, .int vva, .ref cu, .ref lt, .ref od, .ref th, .ref be, .ref ln, .int (nI S), .ref ma, .int (nI M), .ref ah, .ref bh, .ref ik, .ref la, .ref lg, .ref ce, .int vto])), (ma, .inl (G 0, 12, .inl fma))]) [0, 2] rfl
                          refine va_calli (va_runV (As := [.int (nI j9), .int 0]) (rest := []) ⟨hx, hb, hml, hown, hg⟩ (c_X11_isMarked l dC dI G _ h0 st N B rp tp T cu lt od th be ln S ma M ah bh ik la lg ce (nI j9) 0 vrs vrb vhs vca vxs vxb vfa vbr vba vsp vhe vtk vva vto fma hN hB_ hT_ hS0 hM_) (kwV hg mfX11_isMarked wt_1228 ⟨Nat.le_of_ble_eq_true rfl, Nat.le_of_ble_eq_true rfl⟩) (preVR hK hPc (ci := 11) rfl rfl) rfl rfl hl.1 rfl (lv_room (Nat.le_of_ble_eq_true rfl)) dX11_layPaths_110 ⟨Nat.le_of_ble_eq_true rfl, Nat.le_of_ble_eq_true rfl⟩) hS (fun q h1 h2 => absurd h2 (Nat.not_le.mpr h1)) (fun q h => hA q (Nat.le_trans hS.1 h)) (fun r62 ur62 t H1 locs ht hvm w63 hB hz1 hk1 hS => ?_)
                          have hP := keepR hP hk1
                          obtain ⟨w63, w63x⟩ := w63
                          refine lv_if_eq (tgt := 132) hx hb dX11_layPaths_113 rfl (fun c64 => ?_) (fun c64 => ?_)
                          · skip
                            refine lv_iload hx hb dX11_layPaths_132 (lv_at hl 1 rfl) ?_
                            refine lv_bipush (v := (-4)) hx hb dX11_layPaths_134 rfl ?_
                            refine lv_icmp_eq (tgt := 158) hx hb dX11_layPaths_136 rfl (fun c65 => ?_) (fun c65 => ?_)
                            · skip
                              refine lv_iload hx hb dX11_layPaths_158 (lv_at hl 0 rfl) ?_
                              refine lv_bipush (v := (-4)) hx hb dX11_layPaths_160 rfl ?_
                              refine lv_icmp_eq (tgt := 184) hx hb dX11_layPaths_162 rfl (fun c66 => ?_) (fun c66 => ?_)
                              · skip
                                refine lv_iinc (v := nI (j45 + 1)) (lv' := [(2, .int (nI (j45 + 1))), (5, .int (-4)), (4, .int (-4)), (3, .int (g46 ((10 * j9) + j45))), (1, .int (nI j9)), (0, .ref h0)]) hx hb dX11_layPaths_184 hl (k := 3) rfl (by rw [show Int32.ofInt 1 = nI 1 from by decide]; exact nI_add _ _) (by decide) rfl (fun ls hl => ?_)
                                refine lv_goto (tgt := 67) hx hb dX11_layPaths_187 rfl ?_
                                exact ih67_47 (j45 + 1) (by omega) (by omega) g46 _ _ hP hD hS ls (lv_sub hl [0, 4, 5] rfl)
                              · skip
                                exact absurd c66 (by decide)
                            · skip
                              exact absurd c65 (by decide)
                          · skip
                            refine lv_aload_n hx hb dX11_layPaths_116 rfl (lv_at hl 5 rfl) ?_
                            refine va_get (D := (dC, dI)) (ci := 11) (v := .ref ah) (C := RX11) (T := TX11) (N := 35) hx hb hg inG11 hown hK.1 hP 0 rfl rfl 28 (Nat.le_of_ble_eq_true rfl) (hg _ wt_906) (fun _ h9 => h9) rfl dX11_layPaths_117 ?_
                            refine lv_bipush (v := 10) hx hb dX11_layPaths_120 rfl ?_
                            refine lv_iload_n hx hb dX11_layPaths_122 rfl (lv_at hl 4 rfl) ?_
                            refine lv_imul hx hb dX11_layPaths_123 ?_
                            refine lv_cg (y := nI (10 * j9)) (by rw [show (10 : Int32) = nI 10 from rfl]; exact pk_mul _ _) ?_
                            refine lv_bipush (v := 10) hx hb dX11_layPaths_124 rfl ?_
                            refine lv_iadd hx hb dX11_layPaths_126 ?_
                            refine lv_cg (y := nI ((10 * j9) + 10)) (by rw [show (10 : Int32) = nI 10 from rfl]; exact nI_add _ _) ?_
                            refine lv_dup2_11 hx hb dX11_layPaths_127 rfl rfl ?_
                            refine va_iald hx hb hK.1 hP 3 0 rfl rfl (vp_in_nI (by first | omega | (have t_hj6 := hj6; have t_n8 := n8; have t_hj13 := hj13; have t_n44 := n44; have t_hj49 := hj49; have t_n52 := n52; have t_n61 := n61; have t_c64 := neI c64; have : (0 : Int32).toInt = 0 := qI_0; have t_n0 : (nI N).toInt = (N : Int) := tn872_ (); have t_n1 : (nI B).toInt = (B : Int) := tn873_ (); have t_n2 : (nI T).toInt = (T : Int) := tn874_ (); have t_n3 : (nI S).toInt = (S : Int) := tn875_ (); have t_n4 : (nI M).toInt = (M : Int) := tn876_ (); have t_n5 : (nI j1).toInt = (j1 : Int) := tn877_ (); have t_n6 : (nI j9).toInt = (j9 : Int) := tn883_ (); have t_n7 : (nI j45).toInt = (j45 : Int) := tn885_ (); omega)) (by decide)) dX11_layPaths_128 ?_
                            refine lv_cg (y := g46 ((10 * j9) + 10)) (by rw [nI_clamp (by omega)]) ?_
                            refine lv_iload_n hx hb dX11_layPaths_129 rfl (lv_at hl 2 rfl) ?_
                            refine lv_iadd hx hb dX11_layPaths_130 ?_
                            refine lv_topi (fun v67 ev67 => ?_)
                            refine va_iast hx hb hK.1 hP hD hS 3 0 rfl rfl (vp_in_nI (by first | omega | (have t_hj6 := hj6; have t_n8 := n8; have t_hj13 := hj13; have t_n44 := n44; have t_hj49 := hj49; have t_n52 := n52; have t_n61 := n61; have t_c64 := neI c64; have : (0 : Int32).toInt = 0 := qI_0; have t_n0 : (nI N).toInt = (N : Int) := tn872_ (); have t_n1 : (nI B).toInt = (B : Int) := tn873_ (); have t_n2 : (nI T).toInt = (T : Int) := tn874_ (); have t_n3 : (nI S).toInt = (S : Int) := tn875_ (); have t_n4 : (nI M).toInt = (M : Int) := tn876_ (); have t_n5 : (nI j1).toInt = (j1 : Int) := tn877_ (); have t_n6 : (nI j9).toInt = (j9 : Int) := tn883_ (); have t_n7 : (nI j45).toInt = (j45 : Int) := tn885_ (); omega)) (by decide)) dX11_layPaths_131 (fun H locs hP hD hS => ?_)
                            rw [nI_clamp (by omega)] at hP hD
                            refine lv_iload hx hb dX11_layPaths_132 (lv_at hl 1 rfl) ?_
                            refine lv_bipush (v := (-4)) hx hb dX11_layPaths_134 rfl ?_
                            refine lv_icmp_eq (tgt := 158) hx hb dX11_layPaths_136 rfl (fun c68 => ?_) (fun c68 => ?_)
                            · skip
                              refine lv_iload hx hb dX11_layPaths_158 (lv_at hl 0 rfl) ?_
                              refine lv_bipush (v := (-4)) hx hb dX11_layPaths_160 rfl ?_
                              refine lv_icmp_eq (tgt := 184) hx hb dX11_layPaths_162 rfl (fun c69 => ?_) (fun c69 => ?_)
                              · skip
                                refine lv_iinc (v := nI (j45 + 1)) (lv' := [(2, .int (nI (j45 + 1))), (5, .int (-4)), (4, .int (-4)), (3, .int (g46 ((10 * j9) + j45))), (1, .int (nI j9)), (0, .ref h0)]) hx hb dX11_layPaths_184 hl (k := 3) rfl (by rw [show Int32.ofInt 1 = nI 1 from by decide]; exact nI_add _ _) (by decide) rfl (fun ls hl => ?_)
                                refine lv_goto (tgt := 67) hx hb dX11_layPaths_187 rfl ?_
                                exact ih67_47 (j45 + 1) (by omega) (by omega) (upd g46 ((10 * j9) + 10) v67) _ _ hP hD hS ls (lv_sub hl [0, 4, 5] rfl)
                              · skip
                                exact absurd c69 (by decide)
                            · skip
                              exact absurd c68 (by decide)
                      · skip
                        refine lv_cg (y := nI w560) w561 ?_
                        refine lv_istore (lv' := [(5, .int (nI w560)), (4, .int (-4)), (3, .int (g46 ((10 * j9) + j45))), (2, .int (nI j45)), (1, .int (nI j9)), (0, .ref h0)]) hx hb dX11_layPaths_101 hl (by decide) rfl (fun ls hl => ?_)
                        refine lv_iload_n hx hb dX11_layPaths_103 rfl (lv_at hl 3 rfl) ?_
                        refine lv_if_ne (tgt := 132) hx hb dX11_layPaths_104 rfl (fun c70 => ?_) (fun c70 => ?_)
                        · skip
                          have n71 : j45 ≠ 0 := by have t := neI c70; rw [show (nI (j45)).toInt = ((j45 : Nat) : Int) from tn885_ ()] at t; have : (0 : Int32).toInt = 0 := qI_0; omega
                          refine lv_iload hx hb dX11_layPaths_132 (lv_at hl 1 rfl) ?_
                          refine lv_bipush (v := (-4)) hx hb dX11_layPaths_134 rfl ?_
                          refine lv_icmp_eq (tgt := 158) hx hb dX11_layPaths_136 rfl (fun c72 => ?_) (fun c72 => ?_)
                          · skip
                            refine lv_iload hx hb dX11_layPaths_158 (lv_at hl 0 rfl) ?_
                            refine lv_bipush (v := (-4)) hx hb dX11_layPaths_160 rfl ?_
                            refine lv_icmp_eq (tgt := 184) hx hb dX11_layPaths_162 rfl (fun c73 => ?_) (fun c73 => ?_)
                            · skip
                              have t_hj6 := hj6
                              have t_n8 := n8
                              have t_hj13 := hj13
                              have t_n44 := n44
                              have t_hj49 := hj49
                              have t_n52 := n52
                              have t_w562 := w562
                              have t_n71 := n71
                              have t_c72 := eqI c72
                              have t_c73 := eqI c73
                              have : ((-4) : Int32).toInt = -4 := qI_m4
                              have t_n0 : (nI N).toInt = (N : Int) := tn872_ ()
                              have t_n1 : (nI B).toInt = (B : Int) := tn873_ ()
                              have t_n2 : (nI T).toInt = (T : Int) := tn874_ ()
                              have t_n3 : (nI S).toInt = (S : Int) := tn875_ ()
                              have t_n4 : (nI M).toInt = (M : Int) := tn876_ ()
                              have t_n5 : (nI j1).toInt = (j1 : Int) := tn877_ ()
                              have t_n6 : (nI j9).toInt = (j9 : Int) := tn883_ ()
                              have t_n7 : (nI j45).toInt = (j45 : Int) := tn885_ ()
                              have tn886_ : nIT w560 := fun _ => nI_toInt (by omega)
                              have t_n8 : (nI w560).toInt = (w560 : Int) := tn886_ ()
                              exfalso; omega
                            · skip
                              refine lv_aload_n hx hb dX11_layPaths_165 rfl (lv_at hl 5 rfl) ?_
                              refine va_get (D := (dC, dI)) (ci := 11) (v := .ref ah) (C := RX11) (T := TX11) (N := 35) hx hb hg inG11 hown hK.1 hP 0 rfl rfl 28 (Nat.le_of_ble_eq_true rfl) (hg _ wt_906) (fun _ h9 => h9) rfl dX11_layPaths_166 ?_
                              refine lv_bipush (v := 10) hx hb dX11_layPaths_169 rfl ?_
                              refine lv_iload_n hx hb dX11_layPaths_171 rfl (lv_at hl 4 rfl) ?_
                              refine lv_imul hx hb dX11_layPaths_172 ?_
                              refine lv_cg (y := nI (10 * j9)) (by rw [show (10 : Int32) = nI 10 from rfl]; exact pk_mul _ _) ?_
                              refine lv_bipush (v := 10) hx hb dX11_layPaths_173 rfl ?_
                              refine lv_iadd hx hb dX11_layPaths_175 ?_
                              refine lv_cg (y := nI ((10 * j9) + 10)) (by rw [show (10 : Int32) = nI 10 from rfl]; exact nI_add _ _) ?_
                              refine lv_iload hx hb dX11_layPaths_176 (lv_at hl 0 rfl) ?_
                              refine lv_iadd hx hb dX11_layPaths_178 ?_
                              refine lv_cg (y := nI (((10 * j9) + 10) + w560)) (by exact nI_add _ _) ?_
                              refine lv_dup2_11 hx hb dX11_layPaths_179 rfl rfl ?_
                              have tn887_ : nIT w560 := fun _ => nI_toInt (by first | omega | (have t_hj6 := hj6; have t_n8 := n8; have t_hj13 := hj13; have t_n44 := n44; have t_hj49 := hj49; have t_n52 := n52; have t_w562 := w562; have t_n71 := n71; have t_c72 := eqI c72; have t_c73 := neI c73; have : ((-4) : Int32).toInt = -4 := qI_m4; omega))
                              refine va_iald hx hb hK.1 hP 3 0 rfl rfl (vp_in_nI (by first | omega | (have t_hj6 := hj6; have t_n8 := n8; have t_hj13 := hj13; have t_n44 := n44; have t_hj49 := hj49; have t_n52 := n52; have t_w562 := w562; have t_n71 := n71; have t_c72 := eqI c72; have t_c73 := neI c73; have : ((-4) : Int32).toInt = -4 := qI_m4; have t_n0 : (nI N).toInt = (N : Int) := tn872_ (); have t_n1 : (nI B).toInt = (B : Int) := tn873_ (); have t_n2 : (nI T).toInt = (T : Int) := tn874_ (); have t_n3 : (nI S).toInt = (S : Int) := tn875_ (); have t_n4 : (nI M).toInt = (M : Int) := tn876_ (); have t_n5 : (nI j1).toInt = (j1 : Int) := tn877_ (); have t_n6 : (nI j9).toInt = (j9 : Int) := tn883_ (); have t_n7 : (nI j45).toInt = (j45 : Int) := tn885_ (); have t_n8 : (nI w560).toInt = (w560 : Int) := tn887_ (); omega)) (by decide)) dX11_layPaths_180 ?_
                              refine lv_cg (y := g46 (((10 * j9) + 10) + w560)) (by rw [nI_clamp (by omega)]) ?_
                              refine lv_iload_n hx hb dX11_layPaths_181 rfl (lv_at hl 2 rfl) ?_
                              refine lv_iadd hx hb dX11_layPaths_182 ?_
                              refine lv_topi (fun v74 ev74 => ?_)
                              refine va_iast hx hb hK.1 hP hD hS 3 0 rfl rfl (vp_in_nI (by first | omega | (have t_hj6 := hj6; have t_n8 := n8; have t_hj13 := hj13; have t_n44 := n44; have t_hj49 := hj49; have t_n52 := n52; have t_w562 := w562; have t_n71 := n71; have t_c72 := eqI c72; have t_c73 := neI c73; have : ((-4) : Int32).toInt = -4 := qI_m4; have t_n0 : (nI N).toInt = (N : Int) := tn872_ (); have t_n1 : (nI B).toInt = (B : Int) := tn873_ (); have t_n2 : (nI T).toInt = (T : Int) := tn874_ (); have t_n3 : (nI S).toInt = (S : Int) := tn875_ (); have t_n4 : (nI M).toInt = (M : Int) := tn876_ (); have t_n5 : (nI j1).toInt = (j1 : Int) := tn877_ (); have t_n6 : (nI j9).toInt = (j9 : Int) := tn883_ (); have t_n7 : (nI j45).toInt = (j45 : Int) := tn885_ (); have t_n8 : (nI w560).toInt = (w560 : Int) := tn887_ (); omega)) (by decide)) dX11_layPaths_183 (fun H locs hP hD hS => ?_)
                              rw [nI_clamp (by omega)] at hP hD
                              refine lv_iinc (v := nI (j45 + 1)) (lv' := [(2, .int (nI (j45 + 1))), (5, .int (nI w560)), (4, .int (-4)), (3, .int (g46 ((10 * j9) + j45))), (1, .int (nI j9)), (0, .ref h0)]) hx hb dX11_layPaths_184 hl (k := 3) rfl (by rw [show Int32.ofInt 1 = nI 1 from by decide]; exact nI_add _ _) (by decide) rfl (fun ls hl => ?_)
                              refine lv_goto (tgt := 67) hx hb dX11_layPaths_187 rfl ?_
                              exact ih67_47 (j45 + 1) (by omega) (by omega) (upd g46 (((10 * j9) + 10) + w560) v74) _ _ hP hD hS ls (lv_sub hl [0, 4, 5] rfl)
                          · skip
                            exact absurd c72 (by decide)
                        · skip
                          have n75 : j45 = 0 := by have t := eqI c70; rw [show (nI (j45)).toInt = ((j45 : Nat) : Int) from tn885_ ()] at t; have : (0 : Int32).toInt = 0 := qI_0; omega
                          refine lv_aload_n hx hb dX11_layPaths_107 rfl (lv_at hl 5 rfl) ?_
                          refine lv_iload_n hx hb dX11_layPaths_108 rfl (lv_at hl 4 rfl) ?_
                          refine lv_iconst (v := 0) hx hb dX11_layPaths_109 rfl ?_
                          have hPc := hP.sub (ws' := [(h0, .inr (11, [.ref st, .int (nI N), .int (nI B), .ref rp, .int vrs, .int vrb, .int vhs, .int vca, .int vxs, .int vxb, .ref tp, .int (nI T), .int vfa, .int vbr, .int vba, .int vsp, .int vhe, .int vtk, .int vva, .ref cu, .ref lt, .ref od, .ref th, .ref be, .ref ln, .int (nI S), .ref ma, .int (nI M), .ref ah, .ref bh, .ref ik, .ref la, .ref lg, .ref ce, .int vto])), (ma, .inl (G 0, 12, .inl fma))]) [0, 2] rfl
                          have tn888_ : nIT w560 := fun _ => nI_toInt (by first | omega | (have t_hj6 := hj6; have t_n8 := n8; have t_hj13 := hj13; have t_n44 := n44; have t_hj49 := hj49; have t_n52 := n52; have t_w562 := w562; have t_n75 := n75; omega))
                          refine va_calli (va_runV (As := [.int (nI j9), .int 0]) (rest := []) ⟨hx, hb, hml, hown, hg⟩ (c_X11_isMarked l dC dI G _ h0 st N B rp tp T cu lt od th be ln S ma M ah bh ik la lg ce (nI j9) 0 vrs vrb vhs vca vxs vxb vfa vbr vba vsp vhe vtk vva vto fma hN hB_ hT_ hS0 hM_) (kwV hg mfX11_isMarked wt_1228 ⟨Nat.le_of_ble_eq_true rfl, Nat.le_of_ble_eq_true rfl⟩) (preVR hK hPc (ci := 11) rfl rfl) rfl rfl hl.1 rfl (lv_room (Nat.le_of_ble_eq_true rfl)) dX11_layPaths_110 ⟨Nat.le_of_ble_eq_true rfl, Nat.le_of_ble_eq_true rfl⟩) hS (fun q h1 h2 => absurd h2 (Nat.not_le.mpr h1)) (fun q h => hA q (Nat.le_trans hS.1 h)) (fun r76 ur76 t H1 locs ht hvm w77 hB hz1 hk1 hS => ?_)
                          have hP := keepR hP hk1
                          obtain ⟨w77, w77x⟩ := w77
                          refine lv_if_eq (tgt := 132) hx hb dX11_layPaths_113 rfl (fun c78 => ?_) (fun c78 => ?_)
                          · skip
                            refine lv_iload hx hb dX11_layPaths_132 (lv_at hl 1 rfl) ?_
                            refine lv_bipush (v := (-4)) hx hb dX11_layPaths_134 rfl ?_
                            refine lv_icmp_eq (tgt := 158) hx hb dX11_layPaths_136 rfl (fun c79 => ?_) (fun c79 => ?_)
                            · skip
                              refine lv_iload hx hb dX11_layPaths_158 (lv_at hl 0 rfl) ?_
                              refine lv_bipush (v := (-4)) hx hb dX11_layPaths_160 rfl ?_
                              refine lv_icmp_eq (tgt := 184) hx hb dX11_layPaths_162 rfl (fun c80 => ?_) (fun c80 => ?_)
                              · skip
                                have t_hj6 := hj6
                                have t_n8 := n8
                                have t_hj13 := hj13
                                have t_n44 := n44
                                have t_hj49 := hj49
                                have t_n52 := n52
                                have t_w562 := w562
                                have t_n75 := n75
                                have t_c78 := eqI c78
                                have t_c79 := eqI c79
                                have t_c80 := eqI c80
                                have : ((-4) : Int32).toInt = -4 := qI_m4
                                have : (0 : Int32).toInt = 0 := qI_0
                                have t_n0 : (nI N).toInt = (N : Int) := tn872_ ()
                                have t_n1 : (nI B).toInt = (B : Int) := tn873_ ()
                                have t_n2 : (nI T).toInt = (T : Int) := tn874_ ()
                                have t_n3 : (nI S).toInt = (S : Int) := tn875_ ()
                                have t_n4 : (nI M).toInt = (M : Int) := tn876_ ()
                                have t_n5 : (nI j1).toInt = (j1 : Int) := tn877_ ()
                                have t_n6 : (nI j9).toInt = (j9 : Int) := tn883_ ()
                                have t_n7 : (nI j45).toInt = (j45 : Int) := tn885_ ()
                                have t_n8 : (nI w560).toInt = (w560 : Int) := tn888_ ()
                                exfalso; omega
                              · skip
                                refine lv_aload_n hx hb dX11_layPaths_165 rfl (lv_at hl 5 rfl) ?_
                                refine va_get (D := (dC, dI)) (ci := 11) (v := .ref ah) (C := RX11) (T := TX11) (N := 35) hx hb hg inG11 hown hK.1 hP 0 rfl rfl 28 (Nat.le_of_ble_eq_true rfl) (hg _ wt_906) (fun _ h9 => h9) rfl dX11_layPaths_166 ?_
                                refine lv_bipush (v := 10) hx hb dX11_layPaths_169 rfl ?_
                                refine lv_iload_n hx hb dX11_layPaths_171 rfl (lv_at hl 4 rfl) ?_
                                refine lv_imul hx hb dX11_layPaths_172 ?_
                                refine lv_cg (y := nI (10 * j9)) (by rw [show (10 : Int32) = nI 10 from rfl]; exact pk_mul _ _) ?_
                                refine lv_bipush (v := 10) hx hb dX11_layPaths_173 rfl ?_
                                refine lv_iadd hx hb dX11_layPaths_175 ?_
                                refine lv_cg (y := nI ((10 * j9) + 10)) (by rw [show (10 : Int32) = nI 10 from rfl]; exact nI_add _ _) ?_
                                refine lv_iload hx hb dX11_layPaths_176 (lv_at hl 0 rfl) ?_
                                refine lv_iadd hx hb dX11_layPaths_178 ?_
                                refine lv_cg (y := nI (((10 * j9) + 10) + w560)) (by exact nI_add _ _) ?_
                                refine lv_dup2_11 hx hb dX11_layPaths_179 rfl rfl ?_
                                refine va_iald hx hb hK.1 hP 3 0 rfl rfl (vp_in_nI (by first | omega | (have t_hj6 := hj6; have t_n8 := n8; have t_hj13 := hj13; have t_n44 := n44; have t_hj49 := hj49; have t_n52 := n52; have t_w562 := w562; have t_n75 := n75; have t_c78 := eqI c78; have t_c79 := eqI c79; have t_c80 := neI c80; have : ((-4) : Int32).toInt = -4 := qI_m4; have : (0 : Int32).toInt = 0 := qI_0; have t_n0 : (nI N).toInt = (N : Int) := tn872_ (); have t_n1 : (nI B).toInt = (B : Int) := tn873_ (); have t_n2 : (nI T).toInt = (T : Int) := tn874_ (); have t_n3 : (nI S).toInt = (S : Int) := tn875_ (); have t_n4 : (nI M).toInt = (M : Int) := tn876_ (); have t_n5 : (nI j1).toInt = (j1 : Int) := tn877_ (); have t_n6 : (nI j9).toInt = (j9 : Int) := tn883_ (); have t_n7 : (nI j45).toInt = (j45 : Int) := tn885_ (); have t_n8 : (nI w560).toInt = (w560 : Int) := tn888_ (); omega)) (by decide)) dX11_layPaths_180 ?_
                                refine lv_cg (y := g46 (((10 * j9) + 10) + w560)) (by rw [nI_clamp (by omega)]) ?_
                                refine lv_iload_n hx hb dX11_layPaths_181 rfl (lv_at hl 2 rfl) ?_
                                refine lv_iadd hx hb dX11_layPaths_182 ?_
                                refine lv_topi (fun v81 ev81 => ?_)
                                refine va_iast hx hb hK.1 hP hD hS 3 0 rfl rfl (vp_in_nI (by first | omega | (have t_hj6 := hj6; have t_n8 := n8; have t_hj13 := hj13; have t_n44 := n44; have t_hj49 := hj49; have t_n52 := n52; have t_w562 := w562; have t_n75 := n75; have t_c78 := eqI c78; have t_c79 := eqI c79; have t_c80 := neI c80; have : ((-4) : Int32).toInt = -4 := qI_m4; have : (0 : Int32).toInt = 0 := qI_0; have t_n0 : (nI N).toInt = (N : Int) := tn872_ (); have t_n1 : (nI B).toInt = (B : Int) := tn873_ (); have t_n2 : (nI T).toInt = (T : Int) := tn874_ (); have t_n3 : (nI S).toInt = (S : Int) := tn875_ (); have t_n4 : (nI M).toInt = (M : Int) := tn876_ (); have t_n5 : (nI j1).toInt = (j1 : Int) := tn877_ (); have t_n6 : (nI j9).toInt = (j9 : Int) := tn883_ (); have t_n7 : (nI j45).toInt = (j45 : Int) := tn885_ (); have t_n8 : (nI w560).toInt = (w560 : Int) := tn888_ (); omega)) (by decide)) dX11_layPaths_183 (fun H locs hP hD hS => ?_)
                                rw [nI_clamp (by omega)] at hP hD
                                refine lv_iinc (v := nI (j45 + 1)) (lv' := [(2, .int (nI (j45 + 1))), (5, .int (nI w560)), (4, .int (-4)), (3, .int (g46 ((10 * j9) + j45))), (1, .int (nI j9)), (0, .ref h0)]) hx hb dX11_layPaths_184 hl (k := 3) rfl (by rw [show Int32.ofInt 1 = nI 1 from by decide]; exact nI_add _ _) (by decide) rfl (fun ls hl => ?_)
                                refine lv_goto (tgt := 67) hx hb dX11_layPaths_187 rfl ?_
                                exact ih67_47 (j45 + 1) (by omega) (by omega) (upd g46 (((10 * j9) + 10) + w560) v81) _ _ hP hD hS ls (lv_sub hl [0, 4, 5] rfl)
                            · skip
                              exact absurd c79 (by decide)
                          · skip
                            refine lv_aload_n hx hb dX11_layPaths_116 rfl (lv_at hl 5 rfl) ?_
                            refine va_get (D := (dC, dI)) (ci := 11) (v := .ref ah) (C := RX11) (T := TX11) (N := 35) hx hb hg inG11 hown hK.1 hP 0 rfl rfl 28 (Nat.le_of_ble_eq_true rfl) (hg _ wt_906) (fun _ h9 => h9) rfl dX11_layPaths_117 ?_
                            refine lv_bipush (v := 10) hx hb dX11_layPaths_120 rfl ?_
                            refine lv_iload_n hx hb dX11_layPaths_122 rfl (lv_at hl 4 rfl) ?_
                            refine lv_imul hx hb dX11_layPaths_123 ?_
                            refine lv_cg (y := nI (10 * j9)) (by rw [show (10 : Int32) = nI 10 from rfl]; exact pk_mul _ _) ?_
                            refine lv_bipush (v := 10) hx hb dX11_layPaths_124 rfl ?_
                            refine lv_iadd hx hb dX11_layPaths_126 ?_
                            refine lv_cg (y := nI ((10 * j9) + 10)) (by rw [show (10 : Int32) = nI 10 from rfl]; exact nI_add _ _) ?_
                            refine lv_dup2_11 hx hb dX11_layPaths_127 rfl rfl ?_
                            refine va_iald hx hb hK.1 hP 3 0 rfl rfl (vp_in_nI (by first | omega | (have t_hj6 := hj6; have t_n8 := n8; have t_hj13 := hj13; have t_n44 := n44; have t_hj49 := hj49; have t_n52 := n52; have t_w562 := w562; have t_n75 := n75; have t_c78 := neI c78; have : (0 : Int32).toInt = 0 := qI_0; have t_n0 : (nI N).toInt = (N : Int) := tn872_ (); have t_n1 : (nI B).toInt = (B : Int) := tn873_ (); have t_n2 : (nI T).toInt = (T : Int) := tn874_ (); have t_n3 : (nI S).toInt = (S : Int) := tn875_ (); have t_n4 : (nI M).toInt = (M : Int) := tn876_ (); have t_n5 : (nI j1).toInt = (j1 : Int) := tn877_ (); have t_n6 : (nI j9).toInt = (j9 : Int) := tn883_ (); have t_n7 : (nI j45).toInt = (j45 : Int) := tn885_ (); have t_n8 : (nI w560).toInt = (w560 : Int) := tn888_ (); omega)) (by decide)) dX11_layPaths_128 ?_
                            refine lv_cg (y := g46 ((10 * j9) + 10)) (by rw [nI_clamp (by omega)]) ?_
                            refine lv_iload_n hx hb dX11_layPaths_129 rfl (lv_at hl 2 rfl) ?_
                            refine lv_iadd hx hb dX11_layPaths_130 ?_
                            refine lv_topi (fun v82 ev82 => ?_)
                            refine va_iast hx hb hK.1 hP hD hS 3 0 rfl rfl (vp_in_nI (by first | omega | (have t_hj6 := hj6; have t_n8 := n8; have t_hj13 := hj13; have t_n44 := n44; have t_hj49 := hj49; have t_n52 := n52; have t_w562 := w562; have t_n75 := n75; have t_c78 := neI c78; have : (0 : Int32).toInt = 0 := qI_0; have t_n0 : (nI N).toInt = (N : Int) := tn872_ (); have t_n1 : (nI B).toInt = (B : Int) := tn873_ (); have t_n2 : (nI T).toInt = (T : Int) := tn874_ (); have t_n3 : (nI S).toInt = (S : Int) := tn875_ (); have t_n4 : (nI M).toInt = (M : Int) := tn876_ (); have t_n5 : (nI j1).toInt = (j1 : Int) := tn877_ (); have t_n6 : (nI j9).toInt = (j9 : Int) := tn883_ (); have t_n7 : (nI j45).toInt = (j45 : Int) := tn885_ (); have t_n8 : (nI w560).toInt = (w560 : Int) := tn888_ (); omega)) (by decide)) dX11_layPaths_131 (fun H locs hP hD hS => ?_)
                            rw [nI_clamp (by omega)] at hP hD
                            refine lv_iload hx hb dX11_layPaths_132 (lv_at hl 1 rfl) ?_
                            refine lv_bipush (v := (-4)) hx hb dX11_layPaths_134 rfl ?_
                            refine lv_icmp_eq (tgt := 158) hx hb dX11_layPaths_136 rfl (fun c83 => ?_) (fun c83 => ?_)
                            · skip
                              refine lv_iload hx hb dX11_layPaths_158 (lv_at hl 0 rfl) ?_
                              refine lv_bipush (v := (-4)) hx hb dX11_layPaths_160 rfl ?_
                              refine lv_icmp_eq (tgt := 184) hx hb dX11_layPaths_162 rfl (fun c84 => ?_) (fun c84 => ?_)
                              · skip
                                have t_hj6 := hj6
                                have t_n8 := n8
                                have t_hj13 := hj13
                                have t_n44 := n44
                                have t_hj49 := hj49
                                have t_n52 := n52
                                have t_w562 := w562
                                have t_n75 := n75
                                have t_c78 := neI c78
                                have t_c83 := eqI c83
                                have t_c84 := eqI c84
                                have : ((-4) : Int32).toInt = -4 := qI_m4
                                have : (0 : Int32).toInt = 0 := qI_0
                                have t_n0 : (nI N).toInt = (N : Int) := tn872_ ()
                                have t_n1 : (nI B).toInt = (B : Int) := tn873_ ()
                                have t_n2 : (nI T).toInt = (T : Int) := tn874_ ()
                                have t_n3 : (nI S).toInt = (S : Int) := tn875_ ()
                                have t_n4 : (nI M).toInt = (M : Int) := tn876_ ()
                                have t_n5 : (nI j1).toInt = (j1 : Int) := tn877_ ()
                                have t_n6 : (nI j9).toInt = (j9 : Int) := tn883_ ()
                                have t_n7 : (nI j45).toInt = (j45 : Int) := tn885_ ()
                                have t_n8 : (nI w560).toInt = (w560 : Int) := tn888_ ()
                                exfalso; omega
                              · skip
                                refine lv_aload_n hx hb dX11_layPaths_165 rfl (lv_at hl 5 rfl) ?_
                                refine va_get (D := (dC, dI)) (ci := 11) (v := .ref ah) (C := RX11) (T := TX11) (N := 35) hx hb hg inG11 hown hK.1 hP 0 rfl rfl 28 (Nat.le_of_ble_eq_true rfl) (hg _ wt_906) (fun _ h9 => h9) rfl dX11_layPaths_166 ?_
                                refine lv_bipush (v := 10) hx hb dX11_layPaths_169 rfl ?_
                                refine lv_iload_n hx hb dX11_layPaths_171 rfl (lv_at hl 4 rfl) ?_
                                refine lv_imul hx hb dX11_layPaths_172 ?_
                                refine lv_cg (y := nI (10 * j9)) (by rw [show (10 : Int32) = nI 10 from rfl]; exact pk_mul _ _) ?_
                                refine lv_bipush (v := 10) hx hb dX11_layPaths_173 rfl ?_
                                refine lv_iadd hx hb dX11_layPaths_175 ?_
                                refine lv_cg (y := nI ((10 * j9) + 10)) (by rw [show (10 : Int32) = nI 10 from rfl]; exact nI_add _ _) ?_
                                refine lv_iload hx hb dX11_layPaths_176 (lv_at hl 0 rfl) ?_
                                refine lv_iadd hx hb dX11_layPaths_178 ?_
                                refine lv_cg (y := nI (((10 * j9) + 10) + w560)) (by exact nI_add _ _) ?_
                                refine lv_dup2_11 hx hb dX11_layPaths_179 rfl rfl ?_
                                refine va_iald hx hb hK.1 hP 3 0 rfl rfl (vp_in_nI (by first | omega | (have t_hj6 := hj6; have t_n8 := n8; have t_hj13 := hj13; have t_n44 := n44; have t_hj49 := hj49; have t_n52 := n52; have t_w562 := w562; have t_n75 := n75; have t_c78 := neI c78; have t_c83 := eqI c83; have t_c84 := neI c84; have : ((-4) : Int32).toInt = -4 := qI_m4; have : (0 : Int32).toInt = 0 := qI_0; have t_n0 : (nI N).toInt = (N : Int) := tn872_ (); have t_n1 : (nI B).toInt = (B : Int) := tn873_ (); have t_n2 : (nI T).toInt = (T : Int) := tn874_ (); have t_n3 : (nI S).toInt = (S : Int) := tn875_ (); have t_n4 : (nI M).toInt = (M : Int) := tn876_ (); have t_n5 : (nI j1).toInt = (j1 : Int) := tn877_ (); have t_n6 : (nI j9).toInt = (j9 : Int) := tn883_ (); have t_n7 : (nI j45).toInt = (j45 : Int) := tn885_ (); have t_n8 : (nI w560).toInt = (w560 : Int) := tn888_ (); omega)) (by decide)) dX11_layPaths_180 ?_
                                refine lv_cg (y := (upd g46 ((10 * j9) + 10) v82) (((10 * j9) + 10) + w560)) (by rw [nI_clamp (by omega)]) ?_
                                refine lv_iload_n hx hb dX11_layPaths_181 rfl (lv_at hl 2 rfl) ?_
                                refine lv_iadd hx hb dX11_layPaths_182 ?_
                                refine lv_topi (fun v85 ev85 => ?_)
                                refine va_iast hx hb hK.1 hP hD hS 3 0 rfl rfl (vp_in_nI (by first | omega | (have t_hj6 := hj6; have t_n8 := n8; have t_hj13 := hj13; have t_n44 := n44; have t_hj49 := hj49; have t_n52 := n52; have t_w562 := w562; have t_n75 := n75; have t_c78 := neI c78; have t_c83 := eqI c83; have t_c84 := neI c84; have : ((-4) : Int32).toInt = -4 := qI_m4; have : (0 : Int32).toInt = 0 := qI_0; have t_n0 : (nI N).toInt = (N : Int) := tn872_ (); have t_n1 : (nI B).toInt = (B : Int) := tn873_ (); have t_n2 : (nI T).toInt = (T : Int) := tn874_ (); have t_n3 : (nI S).toInt = (S : Int) := tn875_ (); have t_n4 : (nI M).toInt = (M : Int) := tn876_ (); have t_n5 : (nI j1).toInt = (j1 : Int) := tn877_ (); have t_n6 : (nI j9).toInt = (j9 : Int) := tn883_ (); have t_n7 : (nI j45).toInt = (j45 : Int) := tn885_ (); have t_n8 : (nI w560).toInt = (w560 : Int) := tn888_ (); omega)) (by decide)) dX11_layPaths_183 (fun H locs hP hD hS => ?_)
                                rw [nI_clamp (by omega)] at hP hD
                                refine lv_iinc (v := nI (j45 + 1)) (lv' := [(2, .int (nI (j45 + 1))), (5, .int (nI w560)), (4, .int (-4)), (3, .int (g46 ((10 * j9) + j45))), (1, .int (nI j9)), (0, .ref h0)]) hx hb dX11_layPaths_184 hl (k := 3) rfl (by rw [show Int32.ofInt 1 = nI 1 from by decide]; exact nI_add _ _) (by decide) rfl (fun ls hl => ?_)
                                refine lv_goto (tgt := 67) hx hb dX11_layPaths_187 rfl ?_
                                exact ih67_47 (j45 + 1) (by omega) (by omega) (upd (upd g46 ((10 * j9) + 10) v82) (((10 * j9) + 10) + w560) v85) _ _ hP hD hS ls (lv_sub hl [0, 4, 5] rfl)
                            · skip
                              exact absurd c83 (by decide)
                    · skip
                      refine lv_cg (y := nI w540) w541 ?_
                      refine lv_istore (lv' := [(4, .int (nI w540)), (3, .int (g46 ((10 * j9) + j45))), (2, .int (nI j45)), (1, .int (nI j9)), (0, .ref h0)]) hx hb dX11_layPaths_92 hl (by decide) rfl (fun ls hl => ?_)
                      refine lv_aload_n hx hb dX11_layPaths_94 rfl (lv_at hl 4 rfl) ?_
                      refine lv_iload_n hx hb dX11_layPaths_95 rfl (lv_at hl 3 rfl) ?_
                      refine lv_iload_n hx hb dX11_layPaths_96 rfl (lv_at hl 2 rfl) ?_
                      refine lv_iconst (v := 0) hx hb dX11_layPaths_97 rfl ?_
                      have hPc := hP.sub (ws' := [(h0, .inr (11, [.ref st, .int (nI N), .int (nI B), .ref rp, .int vrs, .int vrb, .int vhs, .int vca, .int vxs, .int vxb, .ref tp, .int (nI T), .int vfa, .int vbr, .int vba, .int vsp, .int vhe, .int vtk, .int vva, .ref cu, .ref lt, .ref od, .ref th, .ref be, .ref ln, .int (nI S), .ref ma, .int (nI M), .ref ah, .ref bh, .ref ik, .ref la, .ref lg, .ref ce, .int vto])), (st, .inl (G 0, 196, .inl fst)), (ma, .inl (G 0, 12, .inl fma))]) [0, 1, 2] rfl
                      have tn889_ : nIT w540 := fun _ => nI_toInt (by first | omega | (have t_hj6 := hj6; have t_n8 := n8; have t_hj13 := hj13; have t_n44 := n44; have t_hj49 := hj49; have t_n52 := n52; have t_w542 := w542; omega))
                      refine va_calli (va_runV (As := [.int (nI j9), .int (nI j45), .int 0]) (rest := []) ⟨hx, hb, hml, hown, hg⟩ (c_X11_depthThen l dC dI G _ h0 j9 j45 st N B rp tp T cu lt od th be ln S ma M ah bh ik la lg ce 0 vrs vrb vhs vca vxs vxb vfa vbr vba vsp vhe vtk vva vto fst fma hN hB_ hT_ hS0 hM_ hst (by first | omega | (have t_hj6 := hj6; have t_n8 := n8; have t_hj13 := hj13; have t_n44 := n44; have t_hj49 := hj49; have t_n52 := n52; have t_w542 := w542; have t_n0 : (nI N).toInt = (N : Int) := tn872_ (); have t_n1 : (nI B).toInt = (B : Int) := tn873_ (); have t_n2 : (nI T).toInt = (T : Int) := tn874_ (); have t_n3 : (nI S).toInt = (S : Int) := tn875_ (); have t_n4 : (nI M).toInt = (M : Int) := tn876_ (); have t_n5 : (nI j1).toInt = (j1 : Int) := tn877_ (); have t_n6 : (nI j9).toInt = (j9 : Int) := tn883_ (); have t_n7 : (nI j45).toInt = (j45 : Int) := tn885_ (); have t_n8 : (nI w540).toInt = (w540 : Int) := tn889_ (); omega)) (by first | omega | (have t_hj6 := hj6; have t_n8 := n8; have t_hj13 := hj13; have t_n44 := n44; have t_hj49 := hj49; have t_n52 := n52; have t_w542 := w542; have t_n0 : (nI N).toInt = (N : Int) := tn872_ (); have t_n1 : (nI B).toInt = (B : Int) := tn873_ (); have t_n2 : (nI T).toInt = (T : Int) := tn874_ (); have t_n3 : (nI S).toInt = (S : Int) := tn875_ (); have t_n4 : (nI M).toInt = (M : Int) := tn876_ (); have t_n5 : (nI j1).toInt = (j1 : Int) := tn877_ (); have t_n6 : (nI j9).toInt = (j9 : Int) := tn883_ (); have t_n7 : (nI j45).toInt = (j45 : Int) := tn885_ (); have t_n8 : (nI w540).toInt = (w540 : Int) := tn889_ (); omega))) (kwV hg mfX11_depthThen wt_1224 ⟨Nat.le_of_ble_eq_true rfl, Nat.le_of_ble_eq_true rfl⟩) (preVR hK hPc (ci := 11) rfl rfl) rfl rfl hl.1 rfl (lv_room (Nat.le_of_ble_eq_true rfl)) dX11_layPaths_98 ⟨Nat.le_of_ble_eq_true rfl, Nat.le_of_ble_eq_true rfl⟩) hS (fun q h1 h2 => absurd h2 (Nat.not_le.mpr h1)) (fun q h => hA q (Nat.le_trans hS.1 h)) (fun r86 ur86 t H1 locs ht hvm w87 hB hz1 hk1 hS => ?_)
                      have hP := keepR hP hk1
                      obtain ⟨w87, w87x⟩ := w87
                      rcases w87 with w871 | ⟨w870, w871, w872⟩
                      · skip
                        refine lv_cg (y := (-4)) w871 ?_
                        refine lv_istore (lv' := [(5, .int (-4)), (4, .int (nI w540)), (3, .int (g46 ((10 * j9) + j45))), (2, .int (nI j45)), (1, .int (nI j9)), (0, .ref h0)]) hx hb dX11_layPaths_101 hl (by decide) rfl (fun ls hl => ?_)
                        refine lv_iload_n hx hb dX11_layPaths_103 rfl (lv_at hl 3 rfl) ?_
                        refine lv_if_ne (tgt := 132) hx hb dX11_layPaths_104 rfl (fun c88 => ?_) (fun c88 => ?_)
                        · skip
                          have n89 : j45 ≠ 0 := by have t := neI c88; rw [show (nI (j45)).toInt = ((j45 : Nat) : Int) from tn885_ ()] at t; have : (0 : Int32).toInt = 0 := qI_0; omega
                          refine lv_iload hx hb dX11_layPaths_132 (lv_at hl 1 rfl) ?_
                          refine lv_bipush (v := (-4)) hx hb dX11_layPaths_134 rfl ?_
                          refine lv_icmp_eq (tgt := 158) hx hb dX11_layPaths_136 rfl (fun c90 => ?_) (fun c90 => ?_)
                          · skip
                            have t_hj6 := hj6
                            have t_n8 := n8
                            have t_hj13 := hj13
                            have t_n44 := n44
                            have t_hj49 := hj49
                            have t_n52 := n52
                            have t_w542 := w542
                            have t_n89 := n89
                            have t_c90 := eqI c90
                            have : ((-4) : Int32).toInt = -4 := qI_m4
                            have t_n0 : (nI N).toInt = (N : Int) := tn872_ ()
                            have t_n1 : (nI B).toInt = (B : Int) := tn873_ ()
                            have t_n2 : (nI T).toInt = (T : Int) := tn874_ ()
                            have t_n3 : (nI S).toInt = (S : Int) := tn875_ ()
                            have t_n4 : (nI M).toInt = (M : Int) := tn876_ ()
                            have t_n5 : (nI j1).toInt = (j1 : Int) := tn877_ ()
                            have t_n6 : (nI j9).toInt = (j9 : Int) := tn883_ ()
                            have t_n7 : (nI j45).toInt = (j45 : Int) := tn885_ ()
                            have t_n8 : (nI w540).toInt = (w540 : Int) := tn889_ ()
                            exfalso; omega
                          · skip
                            refine lv_aload_n hx hb dX11_layPaths_139 rfl (lv_at hl 5 rfl) ?_
                            refine va_get (D := (dC, dI)) (ci := 11) (v := .ref ah) (C := RX11) (T := TX11) (N := 35) hx hb hg inG11 hown hK.1 hP 0 rfl rfl 28 (Nat.le_of_ble_eq_true rfl) (hg _ wt_906) (fun _ h9 => h9) rfl dX11_layPaths_140 ?_
                            refine lv_bipush (v := 10) hx hb dX11_layPaths_143 rfl ?_
                            refine lv_iload_n hx hb dX11_layPaths_145 rfl (lv_at hl 4 rfl) ?_
                            refine lv_imul hx hb dX11_layPaths_146 ?_
                            refine lv_cg (y := nI (10 * j9)) (by rw [show (10 : Int32) = nI 10 from rfl]; exact pk_mul _ _) ?_
                            refine lv_bipush (v := 10) hx hb dX11_layPaths_147 rfl ?_
                            refine lv_iadd hx hb dX11_layPaths_149 ?_
                            refine lv_cg (y := nI ((10 * j9) + 10)) (by rw [show (10 : Int32) = nI 10 from rfl]; exact nI_add _ _) ?_
                            refine lv_iload hx hb dX11_layPaths_150 (lv_at hl 1 rfl) ?_
                            refine lv_iadd hx hb dX11_layPaths_152 ?_
                            refine lv_cg (y := nI (((10 * j9) + 10) + w540)) (by exact nI_add _ _) ?_
                            refine lv_dup2_11 hx hb dX11_layPaths_153 rfl rfl ?_
                            refine va_iald hx hb hK.1 hP 3 0 rfl rfl (vp_in_nI (by first | omega | (have t_hj6 := hj6; have t_n8 := n8; have t_hj13 := hj13; have t_n44 := n44; have t_hj49 := hj49; have t_n52 := n52; have t_w542 := w542; have t_n89 := n89; have t_c90 := neI c90; have : ((-4) : Int32).toInt = -4 := qI_m4; have t_n0 : (nI N).toInt = (N : Int) := tn872_ (); have t_n1 : (nI B).toInt = (B : Int) := tn873_ (); have t_n2 : (nI T).toInt = (T : Int) := tn874_ (); have t_n3 : (nI S).toInt = (S : Int) := tn875_ (); have t_n4 : (nI M).toInt = (M : Int) := tn876_ (); have t_n5 : (nI j1).toInt = (j1 : Int) := tn877_ (); have t_n6 : (nI j9).toInt = (j9 : Int) := tn883_ (); have t_n7 : (nI j45).toInt = (j45 : Int) := tn885_ (); have t_n8 : (nI w540).toInt = (w540 : Int) := tn889_ (); omega)) (by decide)) dX11_layPaths_154 ?_
                            refine lv_cg (y := g46 (((10 * j9) + 10) + w540)) (by rw [nI_clamp (by omega)]) ?_
                            refine lv_iload_n hx hb dX11_layPaths_155 rfl (lv_at hl 2 rfl) ?_
                            refine lv_iadd hx hb dX11_layPaths_156 ?_
                            refine lv_topi (fun v91 ev91 => ?_)
                            refine va_iast hx hb hK.1 hP hD hS 3 0 rfl rfl (vp_in_nI (by first | omega | (have t_hj6 := hj6; have t_n8 := n8; have t_hj13 := hj13; have t_n44 := n44; have t_hj49 := hj49; have t_n52 := n52; have t_w542 := w542; have t_n89 := n89; have t_c90 := neI c90; have : ((-4) : Int32).toInt = -4 := qI_m4; have t_n0 : (nI N).toInt = (N : Int) := tn872_ (); have t_n1 : (nI B).toInt = (B : Int) := tn873_ (); have t_n2 : (nI T).toInt = (T : Int) := tn874_ (); have t_n3 : (nI S).toInt = (S : Int) := tn875_ (); have t_n4 : (nI M).toInt = (M : Int) := tn876_ (); have t_n5 : (nI j1).toInt = (j1 : Int) := tn877_ (); have t_n6 : (nI j9).toInt = (j9 : Int) := tn883_ (); have t_n7 : (nI j45).toInt = (j45 : Int) := tn885_ (); have t_n8 : (nI w540).toInt = (w540 : Int) := tn889_ (); omega)) (by decide)) dX11_layPaths_157 (fun H locs hP hD hS => ?_)
                            rw [nI_clamp (by omega)] at hP hD
                            refine lv_iload hx hb dX11_layPaths_158 (lv_at hl 0 rfl) ?_
                            refine lv_bipush (v := (-4)) hx hb dX11_layPaths_160 rfl ?_
                            refine lv_icmp_eq (tgt := 184) hx hb dX11_layPaths_162 rfl (fun c92 => ?_) (fun c92 => ?_)
                            · skip
                              refine lv_iinc (v := nI (j45 + 1)) (lv' := [(2, .int (nI (j45 + 1))), (5, .int (-4)), (4, .int (nI w540)), (3, .int (g46 ((10 * j9) + j45))), (1, .int (nI j9)), (0, .ref h0)]) hx hb dX11_layPaths_184 hl (k := 3) rfl (by rw [show Int32.ofInt 1 = nI 1 from by decide]; exact nI_add _ _) (by decide) rfl (fun ls hl => ?_)
                              refine lv_goto (tgt := 67) hx hb dX11_layPaths_187 rfl ?_
                              exact ih67_47 (j45 + 1) (by omega) (by omega) (upd g46 (((10 * j9) + 10) + w540) v91) _ _ hP hD hS ls (lv_sub hl [0, 4, 5] rfl)
                            · skip
                              exact absurd c92 (by decide)
                        · skip
                          have n93 : j45 = 0 := by have t := eqI c88; rw [show (nI (j45)).toInt = ((j45 : Nat) : Int) from tn885_ ()] at t; have : (0 : Int32).toInt = 0 := qI_0; omega
                          refine lv_aload_n hx hb dX11_layPaths_107 rfl (lv_at hl 5 rfl) ?_
                          refine lv_iload_n hx hb dX11_layPaths_108 rfl (lv_at hl 4 rfl) ?_
                          refine lv_iconst (v := 0) hx hb dX11_layPaths_109 rfl ?_
                          have hPc := hP.sub (ws' := [(h0, .inr (11, [.ref st, .int (nI N), .int (nI B), .ref rp, .int vrs, .int vrb, .int vhs, .int vca, .int vxs, .int vxb, .ref tp, .int (nI T), .int vfa, .int vbr, .int vba, .int vsp, .int vhe, .int vtk, .int vva, .ref cu, .ref lt, .ref od, .ref th, .ref be, .ref ln, .int (nI S), .ref ma, .int (nI M), .ref ah, .ref bh, .ref ik, .ref la, .ref lg, .ref ce, .int vto])), (ma, .inl (G 0, 12, .inl fma))]) [0, 2] rfl
                          refine va_calli (va_runV (As := [.int (nI j9), .int 0]) (rest := []) ⟨hx, hb, hml, hown, hg⟩ (c_X11_isMarked l dC dI G _ h0 st N B rp tp T cu lt od th be ln S ma M ah bh ik la lg ce (nI j9) 0 vrs vrb vhs vca vxs vxb vfa vbr vba vsp vhe vtk vva vto fma hN hB_ hT_ hS0 hM_) (kwV hg mfX11_isMarked wt_1228 ⟨Nat.le_of_ble_eq_true rfl, Nat.le_of_ble_eq_true rfl⟩) (preVR hK hPc (ci := 11) rfl rfl) rfl rfl hl.1 rfl (lv_room (Nat.le_of_ble_eq_true rfl)) dX11_layPaths_110 ⟨Nat.le_of_ble_eq_true rfl, Nat.le_of_ble_eq_true rfl⟩) hS (fun q h1 h2 => absurd h2 (Nat.not_le.mpr h1)) (fun q h => hA q (Nat.le_trans hS.1 h)) (fun r94 ur94 t H1 locs ht hvm w95 hB hz1 hk1 hS => ?_)
                          have hP := keepR hP hk1
                          obtain ⟨w95, w95x⟩ := w95
                          refine lv_if_eq (tgt := 132) hx hb dX11_layPaths_113 rfl (fun c96 => ?_) (fun c96 => ?_)
                          · skip
                            refine lv_iload hx hb dX11_layPaths_132 (lv_at hl 1 rfl) ?_
                            refine lv_bipush (v := (-4)) hx hb dX11_layPaths_134 rfl ?_
                            refine lv_icmp_eq (tgt := 158) hx hb dX11_layPaths_136 rfl (fun c97 => ?_) (fun c97 => ?_)
                            · skip
                              have t_hj6 := hj6
                              have t_n8 := n8
                              have t_hj13 := hj13
                              have t_n44 := n44
                              have t_hj49 := hj49
                              have t_n52 := n52
                              have t_w542 := w542
                              have t_n93 := n93
                              have t_c96 := eqI c96
                              have t_c97 := eqI c97
                              have : ((-4) : Int32).toInt = -4 := qI_m4
                              have : (0 : Int32).toInt = 0 := qI_0
                              have t_n0 : (nI N).toInt = (N : Int) := tn872_ ()
                              have t_n1 : (nI B).toInt = (B : Int) := tn873_ ()
                              have t_n2 : (nI T).toInt = (T : Int) := tn874_ ()
                              have t_n3 : (nI S).toInt = (S : Int) := tn875_ ()
                              have t_n4 : (nI M).toInt = (M : Int) := tn876_ ()
                              have t_n5 : (nI j1).toInt = (j1 : Int) := tn877_ ()
                              have t_n6 : (nI j9).toInt = (j9 : Int) := tn883_ ()
                              have t_n7 : (nI j45).toInt = (j45 : Int) := tn885_ ()
                              have t_n8 : (nI w540).toInt = (w540 : Int) := tn889_ ()
                              exfalso; omega
                            · skip
                              refine lv_aload_n hx hb dX11_layPaths_139 rfl (lv_at hl 5 rfl) ?_
                              refine va_get (D := (dC, dI)) (ci := 11) (v := .ref ah) (C := RX11) (T := TX11) (N := 35) hx hb hg inG11 hown hK.1 hP 0 rfl rfl 28 (Nat.le_of_ble_eq_true rfl) (hg _ wt_906) (fun _ h9 => h9) rfl dX11_layPaths_140 ?_
                              refine lv_bipush (v := 10) hx hb dX11_layPaths_143 rfl ?_
                              refine lv_iload_n hx hb dX11_layPaths_145 rfl (lv_at hl 4 rfl) ?_
                              refine lv_imul hx hb dX11_layPaths_146 ?_
                              refine lv_cg (y := nI (10 * j9)) (by rw [show (10 : Int32) = nI 10 from rfl]; exact pk_mul _ _) ?_
                              refine lv_bipush (v := 10) hx hb dX11_layPaths_147 rfl ?_
                              refine lv_iadd hx hb dX11_layPaths_149 ?_
                              refine lv_cg (y := nI ((10 * j9) + 10)) (by rw [show (10 : Int32) = nI 10 from rfl]; exact nI_add _ _) ?_
                              refine lv_iload hx hb dX11_layPaths_150 (lv_at hl 1 rfl) ?_
                              refine lv_iadd hx hb dX11_layPaths_152 ?_
                              refine lv_cg (y := nI (((10 * j9) + 10) + w540)) (by exact nI_add _ _) ?_
                              refine lv_dup2_11 hx hb dX11_layPaths_153 rfl rfl ?_
                              refine va_iald hx hb hK.1 hP 3 0 rfl rfl (vp_in_nI (by first | omega | (have t_hj6 := hj6; have t_n8 := n8; have t_hj13 := hj13; have t_n44 := n44; have t_hj49 := hj49; have t_n52 := n52; have t_w542 := w542; have t_n93 := n93; have t_c96 := eqI c96; have t_c97 := neI c97; have : ((-4) : Int32).toInt = -4 := qI_m4; have : (0 : Int32).toInt = 0 := qI_0; have t_n0 : (nI N).toInt = (N : Int) := tn872_ (); have t_n1 : (nI B).toInt = (B : Int) := tn873_ (); have t_n2 : (nI T).toInt = (T : Int) := tn874_ (); have t_n3 : (nI S).toInt = (S : Int) := tn875_ (); have t_n4 : (nI M).toInt = (M : Int) := tn876_ (); have t_n5 : (nI j1).toInt = (j1 : Int) := tn877_ (); have t_n6 : (nI j9).toInt = (j9 : Int) := tn883_ (); have t_n7 : (nI j45).toInt = (j45 : Int) := tn885_ (); have t_n8 : (nI w540).toInt = (w540 : Int) := tn889_ (); omega)) (by decide)) dX11_layPaths_154 ?_
                              refine lv_cg (y := g46 (((10 * j9) + 10) + w540)) (by rw [nI_clamp (by omega)]) ?_
                              refine lv_iload_n hx hb dX11_layPaths_155 rfl (lv_at hl 2 rfl) ?_
                              refine lv_iadd hx hb dX11_layPaths_156 ?_
                              refine lv_topi (fun v98 ev98 => ?_)
                              refine va_iast hx hb hK.1 hP hD hS 3 0 rfl rfl (vp_in_nI (by first | omega | (have t_hj6 := hj6; have t_n8 := n8; have t_hj13 := hj13; have t_n44 := n44; have t_hj49 := hj49; have t_n52 := n52; have t_w542 := w542; have t_n93 := n93; have t_c96 := eqI c96; have t_c97 := neI c97; have : ((-4) : Int32).toInt = -4 := qI_m4; have : (0 : Int32).toInt = 0 := qI_0; have t_n0 : (nI N).toInt = (N : Int) := tn872_ (); have t_n1 : (nI B).toInt = (B : Int) := tn873_ (); have t_n2 : (nI T).toInt = (T : Int) := tn874_ (); have t_n3 : (nI S).toInt = (S : Int) := tn875_ (); have t_n4 : (nI M).toInt = (M : Int) := tn876_ (); have t_n5 : (nI j1).toInt = (j1 : Int) := tn877_ (); have t_n6 : (nI j9).toInt = (j9 : Int) := tn883_ (); have t_n7 : (nI j45).toInt = (j45 : Int) := tn885_ (); have t_n8 : (nI w540).toInt = (w540 : Int) := tn889_ (); omega)) (by decide)) dX11_layPaths_157 (fun H locs hP hD hS => ?_)
                              rw [nI_clamp (by omega)] at hP hD
                              refine lv_iload hx hb dX11_layPaths_158 (lv_at hl 0 rfl) ?_
                              refine lv_bipush (v := (-4)) hx hb dX11_layPaths_160 rfl ?_
                              refine lv_icmp_eq (tgt := 184) hx hb dX11_layPaths_162 rfl (fun c99 => ?_) (fun c99 => ?_)
                              · skip
                                refine lv_iinc (v := nI (j45 + 1)) (lv' := [(2, .int (nI (j45 + 1))), (5, .int (-4)), (4, .int (nI w540)), (3, .int (g46 ((10 * j9) + j45))), (1, .int (nI j9)), (0, .ref h0)]) hx hb dX11_layPaths_184 hl (k := 3) rfl (by rw [show Int32.ofInt 1 = nI 1 from by decide]; exact nI_add _ _) (by decide) rfl (fun ls hl => ?_)
                                refine lv_goto (tgt := 67) hx hb dX11_layPaths_187 rfl ?_
                                exact ih67_47 (j45 + 1) (by omega) (by omega) (upd g46 (((10 * j9) + 10) + w540) v98) _ _ hP hD hS ls (lv_sub hl [0, 4, 5] rfl)
                              · skip
                                exact absurd c99 (by decide)
                          · skip
                            refine lv_aload_n hx hb dX11_layPaths_116 rfl (lv_at hl 5 rfl) ?_
                            refine va_get (D := (dC, dI)) (ci := 11) (v := .ref ah) (C := RX11) (T := TX11) (N := 35) hx hb hg inG11 hown hK.1 hP 0 rfl rfl 28 (Nat.le_of_ble_eq_true rfl) (hg _ wt_906) (fun _ h9 => h9) rfl dX11_layPaths_117 ?_
                            refine lv_bipush (v := 10) hx hb dX11_layPaths_120 rfl ?_
                            refine lv_iload_n hx hb dX11_layPaths_122 rfl (lv_at hl 4 rfl) ?_
                            refine lv_imul hx hb dX11_layPaths_123 ?_
                            refine lv_cg (y := nI (10 * j9)) (by rw [show (10 : Int32) = nI 10 from rfl]; exact pk_mul _ _) ?_
                            refine lv_bipush (v := 10) hx hb dX11_layPaths_124 rfl ?_
                            refine lv_iadd hx hb dX11_layPaths_126 ?_
                            refine lv_cg (y := nI ((10 * j9) + 10)) (by rw [show (10 : Int32) = nI 10 from rfl]; exact nI_add _ _) ?_
                            refine lv_dup2_11 hx hb dX11_layPaths_127 rfl rfl ?_
                            refine va_iald hx hb hK.1 hP 3 0 rfl rfl (vp_in_nI (by first | omega | (have t_hj6 := hj6; have t_n8 := n8; have t_hj13 := hj13; have t_n44 := n44; have t_hj49 := hj49; have t_n52 := n52; have t_w542 := w542; have t_n93 := n93; have t_c96 := neI c96; have : (0 : Int32).toInt = 0 := qI_0; have t_n0 : (nI N).toInt = (N : Int) := tn872_ (); have t_n1 : (nI B).toInt = (B : Int) := tn873_ (); have t_n2 : (nI T).toInt = (T : Int) := tn874_ (); have t_n3 : (nI S).toInt = (S : Int) := tn875_ (); have t_n4 : (nI M).toInt = (M : Int) := tn876_ (); have t_n5 : (nI j1).toInt = (j1 : Int) := tn877_ (); have t_n6 : (nI j9).toInt = (j9 : Int) := tn883_ (); have t_n7 : (nI j45).toInt = (j45 : Int) := tn885_ (); have t_n8 : (nI w540).toInt = (w540 : Int) := tn889_ (); omega)) (by decide)) dX11_layPaths_128 ?_
                            refine lv_cg (y := g46 ((10 * j9) + 10)) (by rw [nI_clamp (by omega)]) ?_
                            refine lv_iload_n hx hb dX11_layPaths_129 rfl (lv_at hl 2 rfl) ?_
                            refine lv_iadd hx hb dX11_layPaths_130 ?_
                            refine lv_topi (fun v100 ev100 => ?_)
                            refine va_iast hx hb hK.1 hP hD hS 3 0 rfl rfl (vp_in_nI (by first | omega | (have t_hj6 := hj6; have t_n8 := n8; have t_hj13 := hj13; have t_n44 := n44; have t_hj49 := hj49; have t_n52 := n52; have t_w542 := w542; have t_n93 := n93; have t_c96 := neI c96; have : (0 : Int32).toInt = 0 := qI_0; have t_n0 : (nI N).toInt = (N : Int) := tn872_ (); have t_n1 : (nI B).toInt = (B : Int) := tn873_ (); have t_n2 : (nI T).toInt = (T : Int) := tn874_ (); have t_n3 : (nI S).toInt = (S : Int) := tn875_ (); have t_n4 : (nI M).toInt = (M : Int) := tn876_ (); have t_n5 : (nI j1).toInt = (j1 : Int) := tn877_ (); have t_n6 : (nI j9).toInt = (j9 : Int) := tn883_ (); have t_n7 : (nI j45).toInt = (j45 : Int) := tn885_ (); have t_n8 : (nI w540).toInt = (w540 : Int) := tn889_ (); omega)) (by decide)) dX11_layPaths_131 (fun H locs hP hD hS => ?_)
                            rw [nI_clamp (by omega)] at hP hD
                            refine lv_iload hx hb dX11_layPaths_132 (lv_at hl 1 rfl) ?_
                            refine lv_bipush (v := (-4)) hx hb dX11_layPaths_134 rfl ?_
                            refine lv_icmp_eq (tgt := 158) hx hb dX11_layPaths_136 rfl (fun c101 => ?_) (fun c101 => ?_)
                            · skip
                              have t_hj6 := hj6
                              have t_n8 := n8
                              have t_hj13 := hj13
                              have t_n44 := n44
                              have t_hj49 := hj49
                              have t_n52 := n52
                              have t_w542 := w542
                              have t_n93 := n93
                              have t_c96 := neI c96
                              have t_c101 := eqI c101
                              have : ((-4) : Int32).toInt = -4 := qI_m4
                              have : (0 : Int32).toInt = 0 := qI_0
                              have t_n0 : (nI N).toInt = (N : Int) := tn872_ ()
                              have t_n1 : (nI B).toInt = (B : Int) := tn873_ ()
                              have t_n2 : (nI T).toInt = (T : Int) := tn874_ ()
                              have t_n3 : (nI S).toInt = (S : Int) := tn875_ ()
                              have t_n4 : (nI M).toInt = (M : Int) := tn876_ ()
                              have t_n5 : (nI j1).toInt = (j1 : Int) := tn877_ ()
                              have t_n6 : (nI j9).toInt = (j9 : Int) := tn883_ ()
                              have t_n7 : (nI j45).toInt = (j45 : Int) := tn885_ ()
                              have t_n8 : (nI w540).toInt = (w540 : Int) := tn889_ ()
                              exfalso; omega
                            · skip
                              refine lv_aload_n hx hb dX11_layPaths_139 rfl (lv_at hl 5 rfl) ?_
                              refine va_get (D := (dC, dI)) (ci := 11) (v := .ref ah) (C := RX11) (T := TX11) (N := 35) hx hb hg inG11 hown hK.1 hP 0 rfl rfl 28 (Nat.le_of_ble_eq_true rfl) (hg _ wt_906) (fun _ h9 => h9) rfl dX11_layPaths_140 ?_
                              refine lv_bipush (v := 10) hx hb dX11_layPaths_143 rfl ?_
                              refine lv_iload_n hx hb dX11_layPaths_145 rfl (lv_at hl 4 rfl) ?_
                              refine lv_imul hx hb dX11_layPaths_146 ?_
                              refine lv_cg (y := nI (10 * j9)) (by rw [show (10 : Int32) = nI 10 from rfl]; exact pk_mul _ _) ?_
                              refine lv_bipush (v := 10) hx hb dX11_layPaths_147 rfl ?_
                              refine lv_iadd hx hb dX11_layPaths_149 ?_
                              refine lv_cg (y := nI ((10 * j9) + 10)) (by rw [show (10 : Int32) = nI 10 from rfl]; exact nI_add _ _) ?_
                              refine lv_iload hx hb dX11_layPaths_150 (lv_at hl 1 rfl) ?_
                              refine lv_iadd hx hb dX11_layPaths_152 ?_
                              refine lv_cg (y := nI (((10 * j9) + 10) + w540)) (by exact nI_add _ _) ?_
                              refine lv_dup2_11 hx hb dX11_layPaths_153 rfl rfl ?_
                              refine va_iald hx hb hK.1 hP 3 0 rfl rfl (vp_in_nI (by first | omega | (have t_hj6 := hj6; have t_n8 := n8; have t_hj13 := hj13; have t_n44 := n44; have t_hj49 := hj49; have t_n52 := n52; have t_w542 := w542; have t_n93 := n93; have t_c96 := neI c96; have t_c101 := neI c101; have : ((-4) : Int32).toInt = -4 := qI_m4; have : (0 : Int32).toInt = 0 := qI_0; have t_n0 : (nI N).toInt = (N : Int) := tn872_ (); have t_n1 : (nI B).toInt = (B : Int) := tn873_ (); have t_n2 : (nI T).toInt = (T : Int) := tn874_ (); have t_n3 : (nI S).toInt = (S : Int) := tn875_ (); have t_n4 : (nI M).toInt = (M : Int) := tn876_ (); have t_n5 : (nI j1).toInt = (j1 : Int) := tn877_ (); have t_n6 : (nI j9).toInt = (j9 : Int) := tn883_ (); have t_n7 : (nI j45).toInt = (j45 : Int) := tn885_ (); have t_n8 : (nI w540).toInt = (w540 : Int) := tn889_ (); omega)) (by decide)) dX11_layPaths_154 ?_
                              refine lv_cg (y := (upd g46 ((10 * j9) + 10) v100) (((10 * j9) + 10) + w540)) (by rw [nI_clamp (by omega)]) ?_
                              refine lv_iload_n hx hb dX11_layPaths_155 rfl (lv_at hl 2 rfl) ?_
                              refine lv_iadd hx hb dX11_layPaths_156 ?_
                              refine lv_topi (fun v102 ev102 => ?_)
                              refine va_iast hx hb hK.1 hP hD hS 3 0 rfl rfl (vp_in_nI (by first | omega | (have t_hj6 := hj6; have t_n8 := n8; have t_hj13 := hj13; have t_n44 := n44; have t_hj49 := hj49; have t_n52 := n52; have t_w542 := w542; have t_n93 := n93; have t_c96 := neI c96; have t_c101 := neI c101; have : ((-4) : Int32).toInt = -4 := qI_m4; have : (0 : Int32).toInt = 0 := qI_0; have t_n0 : (nI N).toInt = (N : Int) := tn872_ (); have t_n1 : (nI B).toInt = (B : Int) := tn873_ (); have t_n2 : (nI T).toInt = (T : Int) := tn874_ (); have t_n3 : (nI S).toInt = (S : Int) := tn875_ (); have t_n4 : (nI M).toInt = (M : Int) := tn876_ (); have t_n5 : (nI j1).toInt = (j1 : Int) := tn877_ (); have t_n6 : (nI j9).toInt = (j9 : Int) := tn883_ (); have t_n7 : (nI j45).toInt = (j45 : Int) := tn885_ (); have t_n8 : (nI w540).toInt = (w540 : Int) := tn889_ (); omega)) (by decide)) dX11_layPaths_157 (fun H locs hP hD hS => ?_)
                              rw [nI_clamp (by omega)] at hP hD
                              refine lv_iload hx hb dX11_layPaths_158 (lv_at hl 0 rfl) ?_
                              refine lv_bipush (v := (-4)) hx hb dX11_layPaths_160 rfl ?_
                              refine lv_icmp_eq (tgt := 184) hx hb dX11_layPaths_162 rfl (fun c103 => ?_) (fun c103 => ?_)
                              · skip
                                refine lv_iinc (v := nI (j45 + 1)) (lv' := [(2, .int (nI (j45 + 1))), (5, .int (-4)), (4, .int (nI w540)), (3, .int (g46 ((10 * j9) + j45))), (1, .int (nI j9)), (0, .ref h0)]) hx hb dX11_layPaths_184 hl (k := 3) rfl (by rw [show Int32.ofInt 1 = nI 1 from by decide]; exact nI_add _ _) (by decide) rfl (fun ls hl => ?_)
                                refine lv_goto (tgt := 67) hx hb dX11_layPaths_187 rfl ?_
                                exact ih67_47 (j45 + 1) (by omega) (by omega) (upd (upd g46 ((10 * j9) + 10) v100) (((10 * j9) + 10) + w540) v102) _ _ hP hD hS ls (lv_sub hl [0, 4, 5] rfl)
                              · skip
                                exact absurd c103 (by decide)
                      · skip
                        refine lv_cg (y := nI w870) w871 ?_
                        refine lv_istore (lv' := [(5, .int (nI w870)), (4, .int (nI w540)), (3, .int (g46 ((10 * j9) + j45))), (2, .int (nI j45)), (1, .int (nI j9)), (0, .ref h0)]) hx hb dX11_layPaths_101 hl (by decide) rfl (fun ls hl => ?_)
                        refine lv_iload_n hx hb dX11_layPaths_103 rfl (lv_at hl 3 rfl) ?_
                        refine lv_if_ne (tgt := 132) hx hb dX11_layPaths_104 rfl (fun c104 => ?_) (fun c104 => ?_)
                        · skip
                          have n105 : j45 ≠ 0 := by have t := neI c104; rw [show (nI (j45)).toInt = ((j45 : Nat) : Int) from tn885_ ()] at t; have : (0 : Int32).toInt = 0 := qI_0; omega
                          refine lv_iload hx hb dX11_layPaths_132 (lv_at hl 1 rfl) ?_
                          refine lv_bipush (v := (-4)) hx hb dX11_layPaths_134 rfl ?_
                          refine lv_icmp_eq (tgt := 158) hx hb dX11_layPaths_136 rfl (fun c106 => ?_) (fun c106 => ?_)
                          · skip
                            have t_hj6 := hj6
                            have t_n8 := n8
                            have t_hj13 := hj13
                            have t_n44 := n44
                            have t_hj49 := hj49
                            have t_n52 := n52
                            have t_w542 := w542
                            have t_w872 := w872
                            have t_n105 := n105
                            have t_c106 := eqI c106
                            have : ((-4) : Int32).toInt = -4 := qI_m4
                            have t_n0 : (nI N).toInt = (N : Int) := tn872_ ()
                            have t_n1 : (nI B).toInt = (B : Int) := tn873_ ()
                            have t_n2 : (nI T).toInt = (T : Int) := tn874_ ()
                            have t_n3 : (nI S).toInt = (S : Int) := tn875_ ()
                            have t_n4 : (nI M).toInt = (M : Int) := tn876_ ()
                            have t_n5 : (nI j1).toInt = (j1 : Int) := tn877_ ()
                            have t_n6 : (nI j9).toInt = (j9 : Int) := tn883_ ()
                            have t_n7 : (nI j45).toInt = (j45 : Int) := tn885_ ()
                            have t_n8 : (nI w540).toInt = (w540 : Int) := tn889_ ()
                            have tn890_ : nIT w870 := fun _ => nI_toInt (by omega)
                            have t_n9 : (nI w870).toInt = (w870 : Int) := tn890_ ()
                            exfalso; omega
                          · skip
                            refine lv_aload_n hx hb dX11_layPaths_139 rfl (lv_at hl 5 rfl) ?_
                            refine va_get (D := (dC, dI)) (ci := 11) (v := .ref ah) (C := RX11) (T := TX11) (N := 35) hx hb hg inG11 hown hK.1 hP 0 rfl rfl 28 (Nat.le_of_ble_eq_true rfl) (hg _ wt_906) (fun _ h9 => h9) rfl dX11_layPaths_140 ?_
                            refine lv_bipush (v := 10) hx hb dX11_layPaths_143 rfl ?_
                            refine lv_iload_n hx hb dX11_layPaths_145 rfl (lv_at hl 4 rfl) ?_
                            refine lv_imul hx hb dX11_layPaths_146 ?_
                            refine lv_cg (y := nI (10 * j9)) (by rw [show (10 : Int32) = nI 10 from rfl]; exact pk_mul _ _) ?_
                            refine lv_bipush (v := 10) hx hb dX11_layPaths_147 rfl ?_
                            refine lv_iadd hx hb dX11_layPaths_149 ?_
                            refine lv_cg (y := nI ((10 * j9) + 10)) (by rw [show (10 : Int32) = nI 10 from rfl]; exact nI_add _ _) ?_
                            refine lv_iload hx hb dX11_layPaths_150 (lv_at hl 1 rfl) ?_
                            refine lv_iadd hx hb dX11_layPaths_152 ?_
                            refine lv_cg (y := nI (((10 * j9) + 10) + w540)) (by exact nI_add _ _) ?_
                            refine lv_dup2_11 hx hb dX11_layPaths_153 rfl rfl ?_
                            have tn891_ : nIT w870 := fun _ => nI_toInt (by first | omega | (have t_hj6 := hj6; have t_n8 := n8; have t_hj13 := hj13; have t_n44 := n44; have t_hj49 := hj49; have t_n52 := n52; have t_w542 := w542; have t_w872 := w872; have t_n105 := n105; have t_c106 := neI c106; have : ((-4) : Int32).toInt = -4 := qI_m4; omega))
                            refine va_iald hx hb hK.1 hP 3 0 rfl rfl (vp_in_nI (by first | omega | (have t_hj6 := hj6; have t_n8 := n8; have t_hj13 := hj13; have t_n44 := n44; have t_hj49 := hj49; have t_n52 := n52; have t_w542 := w542; have t_w872 := w872; have t_n105 := n105; have t_c106 := neI c106; have : ((-4) : Int32).toInt = -4 := qI_m4; have t_n0 : (nI N).toInt = (N : Int) := tn872_ (); have t_n1 : (nI B).toInt = (B : Int) := tn873_ (); have t_n2 : (nI T).toInt = (T : Int) := tn874_ (); have t_n3 : (nI S).toInt = (S : Int) := tn875_ (); have t_n4 : (nI M).toInt = (M : Int) := tn876_ (); have t_n5 : (nI j1).toInt = (j1 : Int) := tn877_ (); have t_n6 : (nI j9).toInt = (j9 : Int) := tn883_ (); have t_n7 : (nI j45).toInt = (j45 : Int) := tn885_ (); have t_n8 : (nI w540).toInt = (w540 : Int) := tn889_ (); have t_n9 : (nI w870).toInt = (w870 : Int) := tn891_ (); omega)) (by decide)) dX11_layPaths_154 ?_
                            refine lv_cg (y := g46 (((10 * j9) + 10) + w540)) (by rw [nI_clamp (by omega)]) ?_
                            refine lv_iload_n hx hb dX11_layPaths_155 rfl (lv_at hl 2 rfl) ?_
                            refine lv_iadd hx hb dX11_layPaths_156 ?_
                            refine lv_topi (fun v107 ev107 => ?_)
                            refine va_iast hx hb hK.1 hP hD hS 3 0 rfl rfl (vp_in_nI (by first | omega | (have t_hj6 := hj6; have t_n8 := n8; have t_hj13 := hj13; have t_n44 := n44; have t_hj49 := hj49; have t_n52 := n52; have t_w542 := w542; have t_w872 := w872; have t_n105 := n105; have t_c106 := neI c106; have : ((-4) : Int32).toInt = -4 := qI_m4; have t_n0 : (nI N).toInt = (N : Int) := tn872_ (); have t_n1 : (nI B).toInt = (B : Int) := tn873_ (); have t_n2 : (nI T).toInt = (T : Int) := tn874_ (); have t_n3 : (nI S).toInt = (S : Int) := tn875_ (); have t_n4 : (nI M).toInt = (M : Int) := tn876_ (); have t_n5 : (nI j1).toInt = (j1 : Int) := tn877_ (); have t_n6 : (nI j9).toInt = (j9 : Int) := tn883_ (); have t_n7 : (nI j45).toInt = (j45 : Int) := tn885_ (); have t_n8 : (nI w540).toInt = (w540 : Int) := tn889_ (); have t_n9 : (nI w870).toInt = (w870 : Int) := tn891_ (); omega)) (by decide)) dX11_layPaths_157 (fun H locs hP hD hS => ?_)
                            rw [nI_clamp (by omega)] at hP hD
                            refine lv_iload hx hb dX11_layPaths_158 (lv_at hl 0 rfl) ?_
                            refine lv_bipush (v := (-4)) hx hb dX11_layPaths_160 rfl ?_
                            refine lv_icmp_eq (tgt := 184) hx hb dX11_layPaths_162 rfl (fun c108 => ?_) (fun c108 => ?_)
                            · skip
                              have t_hj6 := hj6
                              have t_n8 := n8
                              have t_hj13 := hj13
                              have t_n44 := n44
                              have t_hj49 := hj49
                              have t_n52 := n52
                              have t_w542 := w542
                              have t_w872 := w872
                              have t_n105 := n105
                              have t_c106 := neI c106
                              have t_c108 := eqI c108
                              have : ((-4) : Int32).toInt = -4 := qI_m4
                              have t_n0 : (nI N).toInt = (N : Int) := tn872_ ()
                              have t_n1 : (nI B).toInt = (B : Int) := tn873_ ()
                              have t_n2 : (nI T).toInt = (T : Int) := tn874_ ()
                              have t_n3 : (nI S).toInt = (S : Int) := tn875_ ()
                              have t_n4 : (nI M).toInt = (M : Int) := tn876_ ()
                              have t_n5 : (nI j1).toInt = (j1 : Int) := tn877_ ()
                              have t_n6 : (nI j9).toInt = (j9 : Int) := tn883_ ()
                              have t_n7 : (nI j45).toInt = (j45 : Int) := tn885_ ()
                              have t_n8 : (nI w540).toInt = (w540 : Int) := tn889_ ()
                              have t_n9 : (nI w870).toInt = (w870 : Int) := tn891_ ()
                              exfalso; omega
                            · skip
                              refine lv_aload_n hx hb dX11_layPaths_165 rfl (lv_at hl 5 rfl) ?_
                              refine va_get (D := (dC, dI)) (ci := 11) (v := .ref ah) (C := RX11) (T := TX11) (N := 35) hx hb hg inG11 hown hK.1 hP 0 rfl rfl 28 (Nat.le_of_ble_eq_true rfl) (hg _ wt_906) (fun _ h9 => h9) rfl dX11_layPaths_166 ?_
                              refine lv_bipush (v := 10) hx hb dX11_layPaths_169 rfl ?_
                              refine lv_iload_n hx hb dX11_layPaths_171 rfl (lv_at hl 4 rfl) ?_
                              refine lv_imul hx hb dX11_layPaths_172 ?_
                              refine lv_cg (y := nI (10 * j9)) (by rw [show (10 : Int32) = nI 10 from rfl]; exact pk_mul _ _) ?_
                              refine lv_bipush (v := 10) hx hb dX11_layPaths_173 rfl ?_
                              refine lv_iadd hx hb dX11_layPaths_175 ?_
                              refine lv_cg (y := nI ((10 * j9) + 10)) (by rw [show (10 : Int32) = nI 10 from rfl]; exact nI_add _ _) ?_
                              refine lv_iload hx hb dX11_layPaths_176 (lv_at hl 0 rfl) ?_
                              refine lv_iadd hx hb dX11_layPaths_178 ?_
                              refine lv_cg (y := nI (((10 * j9) + 10) + w870)) (by exact nI_add _ _) ?_
                              refine lv_dup2_11 hx hb dX11_layPaths_179 rfl rfl ?_
                              refine va_iald hx hb hK.1 hP 3 0 rfl rfl (vp_in_nI (by first | omega | (have t_hj6 := hj6; have t_n8 := n8; have t_hj13 := hj13; have t_n44 := n44; have t_hj49 := hj49; have t_n52 := n52; have t_w542 := w542; have t_w872 := w872; have t_n105 := n105; have t_c106 := neI c106; have t_c108 := neI c108; have : ((-4) : Int32).toInt = -4 := qI_m4; have t_n0 : (nI N).toInt = (N : Int) := tn872_ (); have t_n1 : (nI B).toInt = (B : Int) := tn873_ (); have t_n2 : (nI T).toInt = (T : Int) := tn874_ (); have t_n3 : (nI S).toInt = (S : Int) := tn875_ (); have t_n4 : (nI M).toInt = (M : Int) := tn876_ (); have t_n5 : (nI j1).toInt = (j1 : Int) := tn877_ (); have t_n6 : (nI j9).toInt = (j9 : Int) := tn883_ (); have t_n7 : (nI j45).toInt = (j45 : Int) := tn885_ (); have t_n8 : (nI w540).toInt = (w540 : Int) := tn889_ (); have t_n9 : (nI w870).toInt = (w870 : Int) := tn891_ (); omega)) (by decide)) dX11_layPaths_180 ?_
                              refine lv_cg (y := (upd g46 (((10 * j9) + 10) + w540) v107) (((10 * j9) + 10) + w870)) (by rw [nI_clamp (by omega)]) ?_
                              refine lv_iload_n hx hb dX11_layPaths_181 rfl (lv_at hl 2 rfl) ?_
                              refine lv_iadd hx hb dX11_layPaths_182 ?_
                              refine lv_topi (fun v109 ev109 => ?_)
                              refine va_iast hx hb hK.1 hP hD hS 3 0 rfl rfl (vp_in_nI (by first | omega | (have t_hj6 := hj6; have t_n8 := n8; have t_hj13 := hj13; have t_n44 := n44; have t_hj49 := hj49; have t_n52 := n52; have t_w542 := w542; have t_w872 := w872; have t_n105 := n105; have t_c106 := neI c106; have t_c108 := neI c108; have : ((-4) : Int32).toInt = -4 := qI_m4; have t_n0 : (nI N).toInt = (N : Int) := tn872_ (); have t_n1 : (nI B).toInt = (B : Int) := tn873_ (); have t_n2 : (nI T).toInt = (T : Int) := tn874_ (); have t_n3 : (nI S).toInt = (S : Int) := tn875_ (); have t_n4 : (nI M).toInt = (M : Int) := tn876_ (); have t_n5 : (nI j1).toInt = (j1 : Int) := tn877_ (); have t_n6 : (nI j9).toInt = (j9 : Int) := tn883_ (); have t_n7 : (nI j45).toInt = (j45 : Int) := tn885_ (); have t_n8 : (nI w540).toInt = (w540 : Int) := tn889_ (); have t_n9 : (nI w870).toInt = (w870 : Int) := tn891_ (); omega)) (by decide)) dX11_layPaths_183 (fun H locs hP hD hS => ?_)
                              rw [nI_clamp (by omega)] at hP hD
                              refine lv_iinc (v := nI (j45 + 1)) (lv' := [(2, .int (nI (j45 + 1))), (5, .int (nI w870)), (4, .int (nI w540)), (3, .int (g46 ((10 * j9) + j45))), (1, .int (nI j9)), (0, .ref h0)]) hx hb dX11_layPaths_184 hl (k := 3) rfl (by rw [show Int32.ofInt 1 = nI 1 from by decide]; exact nI_add _ _) (by decide) rfl (fun ls hl => ?_)
                              refine lv_goto (tgt := 67) hx hb dX11_layPaths_187 rfl ?_
                              exact ih67_47 (j45 + 1) (by omega) (by omega) (upd (upd g46 (((10 * j9) + 10) + w540) v107) (((10 * j9) + 10) + w870) v109) _ _ hP hD hS ls (lv_sub hl [0, 4, 5] rfl)
                        · skip
                          have n110 : j45 = 0 := by have t := eqI c104; rw [show (nI (j45)).toInt = ((j45 : Nat) : Int) from tn885_ ()] at t; have : (0 : Int32).toInt = 0 := qI_0; omega
                          refine lv_aload_n hx hb dX11_layPaths_107 rfl (lv_at hl 5 rfl) ?_
                          refine lv_iload_n hx hb dX11_layPaths_108 rfl (lv_at hl 4 rfl) ?_
                          refine lv_iconst (v := 0) hx hb dX11_layPaths_109 rfl ?_
                          have hPc := hP.sub (ws' := [(h0, .inr (11, [.ref st, .int (nI N), .int (nI B), .ref rp, .int vrs, .int vrb, .int vhs, .int vca, .int vxs, .int vxb, .ref tp, .int (nI T), .int vfa, .int vbr, .int vba, .int vsp, .int vhe, .int vtk, .int vva, .ref cu, .ref lt, .ref od, .ref th, .ref be, .ref ln, .int (nI S), .ref ma, .int (nI M), .ref ah, .ref bh, .ref ik, .ref la, .ref lg, .ref ce, .int vto])), (ma, .inl (G 0, 12, .inl fma))]) [0, 2] rfl
                          have tn892_ : nIT w870 := fun _ => nI_toInt (by first | omega | (have t_hj6 := hj6; have t_n8 := n8; have t_hj13 := hj13; have t_n44 := n44; have t_hj49 := hj49; have t_n52 := n52; have t_w542 := w542; have t_w872 := w872; have t_n110 := n110; omega))
                          refine va_calli (va_runV (As := [.int (nI j9), .int 0]) (rest := []) ⟨hx, hb, hml, hown, hg⟩ (c_X11_isMarked l dC dI G _ h0 st N B rp tp T cu lt od th be ln S ma M ah bh ik la lg ce (nI j9) 0 vrs vrb vhs vca vxs vxb vfa vbr vba vsp vhe vtk vva vto fma hN hB_ hT_ hS0 hM_) (kwV hg mfX11_isMarked wt_1228 ⟨Nat.le_of_ble_eq_true rfl, Nat.le_of_ble_eq_true rfl⟩) (preVR hK hPc (ci := 11) rfl rfl) rfl rfl hl.1 rfl (lv_room (Nat.le_of_ble_eq_true rfl)) dX11_layPaths_110 ⟨Nat.le_of_ble_eq_true rfl, Nat.le_of_ble_eq_true rfl⟩) hS (fun q h1 h2 => absurd h2 (Nat.not_le.mpr h1)) (fun q h => hA q (Nat.le_trans hS.1 h)) (fun r111 ur111 t H1 locs ht hvm w112 hB hz1 hk1 hS => ?_)
                          have hP := keepR hP hk1
                          obtain ⟨w112, w112x⟩ := w112
                          refine lv_if_eq (tgt := 132) hx hb dX11_layPaths_113 rfl (fun c113 => ?_) (fun c113 => ?_)
                          · skip
                            refine lv_iload hx hb dX11_layPaths_132 (lv_at hl 1 rfl) ?_
                            refine lv_bipush (v := (-4)) hx hb dX11_layPaths_134 rfl ?_
                            refine lv_icmp_eq (tgt := 158) hx hb dX11_layPaths_136 rfl (fun c114 => ?_) (fun c114 => ?_)
                            · skip
                              have t_hj6 := hj6
                              have t_n8 := n8
                              have t_hj13 := hj13
                              have t_n44 := n44
                              have t_hj49 := hj49
                              have t_n52 := n52
                              have t_w542 := w542
                              have t_w872 := w872
                              have t_n110 := n110
                              have t_c113 := eqI c113
                              have t_c114 := eqI c114
                              have : ((-4) : Int32).toInt = -4 := qI_m4
                              have : (0 : Int32).toInt = 0 := qI_0
                              have t_n0 : (nI N).toInt = (N : Int) := tn872_ ()
                              have t_n1 : (nI B).toInt = (B : Int) := tn873_ ()
                              have t_n2 : (nI T).toInt = (T : Int) := tn874_ ()
                              have t_n3 : (nI S).toInt = (S : Int) := tn875_ ()
                              have t_n4 : (nI M).toInt = (M : Int) := tn876_ ()
                              have t_n5 : (nI j1).toInt = (j1 : Int) := tn877_ ()
                              have t_n6 : (nI j9).toInt = (j9 : Int) := tn883_ ()
                              have t_n7 : (nI j45).toInt = (j45 : Int) := tn885_ ()
                              have t_n8 : (nI w540).toInt = (w540 : Int) := tn889_ ()
                              have t_n9 : (nI w870).toInt = (w870 : Int) := tn892_ ()
                              exfalso; omega
                            · skip
                              refine lv_aload_n hx hb dX11_layPaths_139 rfl (lv_at hl 5 rfl) ?_
                              refine va_get (D := (dC, dI)) (ci := 11) (v := .ref ah) (C := RX11) (T := TX11) (N := 35) hx hb hg inG11 hown hK.1 hP 0 rfl rfl 28 (Nat.le_of_ble_eq_true rfl) (hg _ wt_906) (fun _ h9 => h9) rfl dX11_layPaths_140 ?_
                              refine lv_bipush (v := 10) hx hb dX11_layPaths_143 rfl ?_
                              refine lv_iload_n hx hb dX11_layPaths_145 rfl (lv_at hl 4 rfl) ?_
                              refine lv_imul hx hb dX11_layPaths_146 ?_
                              refine lv_cg (y := nI (10 * j9)) (by rw [show (10 : Int32) = nI 10 from rfl]; exact pk_mul _ _) ?_
                              refine lv_bipush (v := 10) hx hb dX11_layPaths_147 rfl ?_
                              refine lv_iadd hx hb dX11_layPaths_149 ?_
                              refine lv_cg (y := nI ((10 * j9) + 10)) (by rw [show (10 : Int32) = nI 10 from rfl]; exact nI_add _ _) ?_
                              refine lv_iload hx hb dX11_layPaths_150 (lv_at hl 1 rfl) ?_
                              refine lv_iadd hx hb dX11_layPaths_152 ?_
                              refine lv_cg (y := nI (((10 * j9) + 10) + w540)) (by exact nI_add _ _) ?_
                              refine lv_dup2_11 hx hb dX11_layPaths_153 rfl rfl ?_
                              refine va_iald hx hb hK.1 hP 3 0 rfl rfl (vp_in_nI (by first | omega | (have t_hj6 := hj6; have t_n8 := n8; have t_hj13 := hj13; have t_n44 := n44; have t_hj49 := hj49; have t_n52 := n52; have t_w542 := w542; have t_w872 := w872; have t_n110 := n110; have t_c113 := eqI c113; have t_c114 := neI c114; have : ((-4) : Int32).toInt = -4 := qI_m4; have : (0 : Int32).toInt = 0 := qI_0; have t_n0 : (nI N).toInt = (N : Int) := tn872_ (); have t_n1 : (nI B).toInt = (B : Int) := tn873_ (); have t_n2 : (nI T).toInt = (T : Int) := tn874_ (); have t_n3 : (nI S).toInt = (S : Int) := tn875_ (); have t_n4 : (nI M).toInt = (M : Int) := tn876_ (); have t_n5 : (nI j1).toInt = (j1 : Int) := tn877_ (); have t_n6 : (nI j9).toInt = (j9 : Int) := tn883_ (); have t_n7 : (nI j45).toInt = (j45 : Int) := tn885_ (); have t_n8 : (nI w540).toInt = (w540 : Int) := tn889_ (); have t_n9 : (nI w870).toInt = (w870 : Int) := tn892_ (); omega)) (by decide)) dX11_layPaths_154 ?_
                              refine lv_cg (y := g46 (((10 * j9) + 10) + w540)) (by rw [nI_clamp (by omega)]) ?_
                              refine lv_iload_n hx hb dX11_layPaths_155 rfl (lv_at hl 2 rfl) ?_
                              refine lv_iadd hx hb dX11_layPaths_156 ?_
                              refine lv_topi (fun v115 ev115 => ?_)
                              refine va_iast hx hb hK.1 hP hD hS 3 0 rfl rfl (vp_in_nI (by first | omega | (have t_hj6 := hj6; have t_n8 := n8; have t_hj13 := hj13; have t_n44 := n44; have t_hj49 := hj49; have t_n52 := n52; have t_w542 := w542; have t_w872 := w872; have t_n110 := n110; have t_c113 := eqI c113; have t_c114 := neI c114; have : ((-4) : Int32).toInt = -4 := qI_m4; have : (0 : Int32).toInt = 0 := qI_0; have t_n0 : (nI N).toInt = (N : Int) := tn872_ (); have t_n1 : (nI B).toInt = (B : Int) := tn873_ (); have t_n2 : (nI T).toInt = (T : Int) := tn874_ (); have t_n3 : (nI S).toInt = (S : Int) := tn875_ (); have t_n4 : (nI M).toInt = (M : Int) := tn876_ (); have t_n5 : (nI j1).toInt = (j1 : Int) := tn877_ (); have t_n6 : (nI j9).toInt = (j9 : Int) := tn883_ (); have t_n7 : (nI j45).toInt = (j45 : Int) := tn885_ (); have t_n8 : (nI w540).toInt = (w540 : Int) := tn889_ (); have t_n9 : (nI w870).toInt = (w870 : Int) := tn892_ (); omega)) (by decide)) dX11_layPaths_157 (fun H locs hP hD hS => ?_)
                              rw [nI_clamp (by omega)] at hP hD
                              refine lv_iload hx hb dX11_layPaths_158 (lv_at hl 0 rfl) ?_
                              refine lv_bipush (v := (-4)) hx hb dX11_layPaths_160 rfl ?_
                              refine lv_icmp_eq (tgt := 184) hx hb dX11_layPaths_162 rfl (fun c116 => ?_) (fun c116 => ?_)
                              · skip
                                have t_hj6 := hj6
                                have t_n8 := n8
                                have t_hj13 := hj13
                                have t_n44 := n44
                                have t_hj49 := hj49
                                have t_n52 := n52
                                have t_w542 := w542
                                have t_w872 := w872
                                have t_n110 := n110
                                have t_c113 := eqI c113
                                have t_c114 := neI c114
                                have t_c116 := eqI c116
                                have : ((-4) : Int32).toInt = -4 := qI_m4
                                have : (0 : Int32).toInt = 0 := qI_0
                                have t_n0 : (nI N).toInt = (N : Int) := tn872_ ()
                                have t_n1 : (nI B).toInt = (B : Int) := tn873_ ()
                                have t_n2 : (nI T).toInt = (T : Int) := tn874_ ()
                                have t_n3 : (nI S).toInt = (S : Int) := tn875_ ()
                                have t_n4 : (nI M).toInt = (M : Int) := tn876_ ()
                                have t_n5 : (nI j1).toInt = (j1 : Int) := tn877_ ()
                                have t_n6 : (nI j9).toInt = (j9 : Int) := tn883_ ()
                                have t_n7 : (nI j45).toInt = (j45 : Int) := tn885_ ()
                                have t_n8 : (nI w540).toInt = (w540 : Int) := tn889_ ()
                                have t_n9 : (nI w870).toInt = (w870 : Int) := tn892_ ()
                                exfalso; omega
                              · skip
                                refine lv_aload_n hx hb dX11_layPaths_165 rfl (lv_at hl 5 rfl) ?_
                                refine va_get (D := (dC, dI)) (ci := 11) (v := .ref ah) (C := RX11) (T := TX11) (N := 35) hx hb hg inG11 hown hK.1 hP 0 rfl rfl 28 (Nat.le_of_ble_eq_true rfl) (hg _ wt_906) (fun _ h9 => h9) rfl dX11_layPaths_166 ?_
                                refine lv_bipush (v := 10) hx hb dX11_layPaths_169 rfl ?_
                                refine lv_iload_n hx hb dX11_layPaths_171 rfl (lv_at hl 4 rfl) ?_
                                refine lv_imul hx hb dX11_layPaths_172 ?_
                                refine lv_cg (y := nI (10 * j9)) (by rw [show (10 : Int32) = nI 10 from rfl]; exact pk_mul _ _) ?_
                                refine lv_bipush (v := 10) hx hb dX11_layPaths_173 rfl ?_
                                refine lv_iadd hx hb dX11_layPaths_175 ?_
                                refine lv_cg (y := nI ((10 * j9) + 10)) (by rw [show (10 : Int32) = nI 10 from rfl]; exact nI_add _ _) ?_
                                refine lv_iload hx hb dX11_layPaths_176 (lv_at hl 0 rfl) ?_
                                refine lv_iadd hx hb dX11_layPaths_178 ?_
                                refine lv_cg (y := nI (((10 * j9) + 10) + w870)) (by exact nI_add _ _) ?_
                                refine lv_dup2_11 hx hb dX11_layPaths_179 rfl rfl ?_
                                refine va_iald hx hb hK.1 hP 3 0 rfl rfl (vp_in_nI (by first | omega | (have t_hj6 := hj6; have t_n8 := n8; have t_hj13 := hj13; have t_n44 := n44; have t_hj49 := hj49; have t_n52 := n52; have t_w542 := w542; have t_w872 := w872; have t_n110 := n110; have t_c113 := eqI c113; have t_c114 := neI c114; have t_c116 := neI c116; have : ((-4) : Int32).toInt = -4 := qI_m4; have : (0 : Int32).toInt = 0 := qI_0; have t_n0 : (nI N).toInt = (N : Int) := tn872_ (); have t_n1 : (nI B).toInt = (B : Int) := tn873_ (); have t_n2 : (nI T).toInt = (T : Int) := tn874_ (); have t_n3 : (nI S).toInt = (S : Int) := tn875_ (); have t_n4 : (nI M).toInt = (M : Int) := tn876_ (); have t_n5 : (nI j1).toInt = (j1 : Int) := tn877_ (); have t_n6 : (nI j9).toInt = (j9 : Int) := tn883_ (); have t_n7 : (nI j45).toInt = (j45 : Int) := tn885_ (); have t_n8 : (nI w540).toInt = (w540 : Int) := tn889_ (); have t_n9 : (nI w870).toInt = (w870 : Int) := tn892_ (); omega)) (by decide)) dX11_layPaths_180 ?_
                                refine lv_cg (y := (upd g46 (((10 * j9) + 10) + w540) v115) (((10 * j9) + 10) + w870)) (by rw [nI_clamp (by omega)]) ?_
                                refine lv_iload_n hx hb dX11_layPaths_181 rfl (lv_at hl 2 rfl) ?_
                                refine lv_iadd hx hb dX11_layPaths_182 ?_
                                refine lv_topi (fun v117 ev117 => ?_)
                                refine va_iast hx hb hK.1 hP hD hS 3 0 rfl rfl (vp_in_nI (by first | omega | (have t_hj6 := hj6; have t_n8 := n8; have t_hj13 := hj13; have t_n44 := n44; have t_hj49 := hj49; have t_n52 := n52; have t_w542 := w542; have t_w872 := w872; have t_n110 := n110; have t_c113 := eqI c113; have t_c114 := neI c114; have t_c116 := neI c116; have : ((-4) : Int32).toInt = -4 := qI_m4; have : (0 : Int32).toInt = 0 := qI_0; have t_n0 : (nI N).toInt = (N : Int) := tn872_ (); have t_n1 : (nI B).toInt = (B : Int) := tn873_ (); have t_n2 : (nI T).toInt = (T : Int) := tn874_ (); have t_n3 : (nI S).toInt = (S : Int) := tn875_ (); have t_n4 : (nI M).toInt = (M : Int) := tn876_ (); have t_n5 : (nI j1).toInt = (j1 : Int) := tn877_ (); have t_n6 : (nI j9).toInt = (j9 : Int) := tn883_ (); have t_n7 : (nI j45).toInt = (j45 : Int) := tn885_ (); have t_n8 : (nI w540).toInt = (w540 : Int) := tn889_ (); have t_n9 : (nI w870).toInt = (w870 : Int) := tn892_ (); omega)) (by decide)) dX11_layPaths_183 (fun H locs hP hD hS => ?_)
                                rw [nI_clamp (by omega)] at hP hD
                                refine lv_iinc (v := nI (j45 + 1)) (lv' := [(2, .int (nI (j45 + 1))), (5, .int (nI w870)), (4, .int (nI w540)), (3, .int (g46 ((10 * j9) + j45))), (1, .int (nI j9)), (0, .ref h0)]) hx hb dX11_layPaths_184 hl (k := 3) rfl (by rw [show Int32.ofInt 1 = nI 1 from by decide]; exact nI_add _ _) (by decide) rfl (fun ls hl => ?_)
                                refine lv_goto (tgt := 67) hx hb dX11_layPaths_187 rfl ?_
                                exact ih67_47 (j45 + 1) (by omega) (by omega) (upd (upd g46 (((10 * j9) + 10) + w540) v115) (((10 * j9) + 10) + w870) v117) _ _ hP hD hS ls (lv_sub hl [0, 4, 5] rfl)
                          · skip
                            refine lv_aload_n hx hb dX11_layPaths_116 rfl (lv_at hl 5 rfl) ?_
                            refine va_get (D := (dC, dI)) (ci := 11) (v := .ref ah) (C := RX11) (T := TX11) (N := 35) hx hb hg inG11 hown hK.1 hP 0 rfl rfl 28 (Nat.le_of_ble_eq_true rfl) (hg _ wt_906) (fun _ h9 => h9) rfl dX11_layPaths_117 ?_
                            refine lv_bipush (v := 10) hx hb dX11_layPaths_120 rfl ?_
                            refine lv_iload_n hx hb dX11_layPaths_122 rfl (lv_at hl 4 rfl) ?_
                            refine lv_imul hx hb dX11_layPaths_123 ?_
                            refine lv_cg (y := nI (10 * j9)) (by rw [show (10 : Int32) = nI 10 from rfl]; exact pk_mul _ _) ?_
                            refine lv_bipush (v := 10) hx hb dX11_layPaths_124 rfl ?_
                            refine lv_iadd hx hb dX11_layPaths_126 ?_
                            refine lv_cg (y := nI ((10 * j9) + 10)) (by rw [show (10 : Int32) = nI 10 from rfl]; exact nI_add _ _) ?_
                            refine lv_dup2_11 hx hb dX11_layPaths_127 rfl rfl ?_
                            refine va_iald hx hb hK.1 hP 3 0 rfl rfl (vp_in_nI (by first | omega | (have t_hj6 := hj6; have t_n8 := n8; have t_hj13 := hj13; have t_n44 := n44; have t_hj49 := hj49; have t_n52 := n52; have t_w542 := w542; have t_w872 := w872; have t_n110 := n110; have t_c113 := neI c113; have : (0 : Int32).toInt = 0 := qI_0; have t_n0 : (nI N).toInt = (N : Int) := tn872_ (); have t_n1 : (nI B).toInt = (B : Int) := tn873_ (); have t_n2 : (nI T).toInt = (T : Int) := tn874_ (); have t_n3 : (nI S).toInt = (S : Int) := tn875_ (); have t_n4 : (nI M).toInt = (M : Int) := tn876_ (); have t_n5 : (nI j1).toInt = (j1 : Int) := tn877_ (); have t_n6 : (nI j9).toInt = (j9 : Int) := tn883_ (); have t_n7 : (nI j45).toInt = (j45 : Int) := tn885_ (); have t_n8 : (nI w540).toInt = (w540 : Int) := tn889_ (); have t_n9 : (nI w870).toInt = (w870 : Int) := tn892_ (); omega)) (by decide)) dX11_layPaths_128 ?_
                            refine lv_cg (y := g46 ((10 * j9) + 10)) (by rw [nI_clamp (by omega)]) ?_
                            refine lv_iload_n hx hb dX11_layPaths_129 rfl (lv_at hl 2 rfl) ?_
                            refine lv_iadd hx hb dX11_layPaths_130 ?_
                            refine lv_topi (fun v118 ev118 => ?_)
                            refine va_iast hx hb hK.1 hP hD hS 3 0 rfl rfl (vp_in_nI (by first | omega | (have t_hj6 := hj6; have t_n8 := n8; have t_hj13 := hj13; have t_n44 := n44; have t_hj49 := hj49; have t_n52 := n52; have t_w542 := w542; have t_w872 := w872; have t_n110 := n110; have t_c113 := neI c113; have : (0 : Int32).toInt = 0 := qI_0; have t_n0 : (nI N).toInt = (N : Int) := tn872_ (); have t_n1 : (nI B).toInt = (B : Int) := tn873_ (); have t_n2 : (nI T).toInt = (T : Int) := tn874_ (); have t_n3 : (nI S).toInt = (S : Int) := tn875_ (); have t_n4 : (nI M).toInt = (M : Int) := tn876_ (); have t_n5 : (nI j1).toInt = (j1 : Int) := tn877_ (); have t_n6 : (nI j9).toInt = (j9 : Int) := tn883_ (); have t_n7 : (nI j45).toInt = (j45 : Int) := tn885_ (); have t_n8 : (nI w540).toInt = (w540 : Int) := tn889_ (); have t_n9 : (nI w870).toInt = (w870 : Int) := tn892_ (); omega)) (by decide)) dX11_layPaths_131 (fun H locs hP hD hS => ?_)
                            rw [nI_clamp (by omega)] at hP hD
                            refine lv_iload hx hb dX11_layPaths_132 (lv_at hl 1 rfl) ?_
                            refine lv_bipush (v := (-4)) hx hb dX11_layPaths_134 rfl ?_
                            refine lv_icmp_eq (tgt := 158) hx hb dX11_layPaths_136 rfl (fun c119 => ?_) (fun c119 => ?_)
                            · skip
                              have t_hj6 := hj6
                              have t_n8 := n8
                              have t_hj13 := hj13
                              have t_n44 := n44
                              have t_hj49 := hj49
                              have t_n52 := n52
                              have t_w542 := w542
                              have t_w872 := w872
                              have t_n110 := n110
                              have t_c113 := neI c113
                              have t_c119 := eqI c119
                              have : ((-4) : Int32).toInt = -4 := qI_m4
                              have : (0 : Int32).toInt = 0 := qI_0
                              have t_n0 : (nI N).toInt = (N : Int) := tn872_ ()
                              have t_n1 : (nI B).toInt = (B : Int) := tn873_ ()
                              have t_n2 : (nI T).toInt = (T : Int) := tn874_ ()
                              have t_n3 : (nI S).toInt = (S : Int) := tn875_ ()
                              have t_n4 : (nI M).toInt = (M : Int) := tn876_ ()
                              have t_n5 : (nI j1).toInt = (j1 : Int) := tn877_ ()
                              have t_n6 : (nI j9).toInt = (j9 : Int) := tn883_ ()
                              have t_n7 : (nI j45).toInt = (j45 : Int) := tn885_ ()
                              have t_n8 : (nI w540).toInt = (w540 : Int) := tn889_ ()
                              have t_n9 : (nI w870).toInt = (w870 : Int) := tn892_ ()
                              exfalso; omega
                            · skip
                              refine lv_aload_n hx hb dX11_layPaths_139 rfl (lv_at hl 5 rfl) ?_
                              refine va_get (D := (dC, dI)) (ci := 11) (v := .ref ah) (C := RX11) (T := TX11) (N := 35) hx hb hg inG11 hown hK.1 hP 0 rfl rfl 28 (Nat.le_of_ble_eq_true rfl) (hg _ wt_906) (fun _ h9 => h9) rfl dX11_layPaths_140 ?_
                              refine lv_bipush (v := 10) hx hb dX11_layPaths_143 rfl ?_
                              refine lv_iload_n hx hb dX11_layPaths_145 rfl (lv_at hl 4 rfl) ?_
                              refine lv_imul hx hb dX11_layPaths_146 ?_
                              refine lv_cg (y := nI (10 * j9)) (by rw [show (10 : Int32) = nI 10 from rfl]; exact pk_mul _ _) ?_
                              refine lv_bipush (v := 10) hx hb dX11_layPaths_147 rfl ?_
                              refine lv_iadd hx hb dX11_layPaths_149 ?_
                              refine lv_cg (y := nI ((10 * j9) + 10)) (by rw [show (10 : Int32) = nI 10 from rfl]; exact nI_add _ _) ?_
                              refine lv_iload hx hb dX11_layPaths_150 (lv_at hl 1 rfl) ?_
                              refine lv_iadd hx hb dX11_layPaths_152 ?_
                              refine lv_cg (y := nI (((10 * j9) + 10) + w540)) (by exact nI_add _ _) ?_
                              refine lv_dup2_11 hx hb dX11_layPaths_153 rfl rfl ?_
                              refine va_iald hx hb hK.1 hP 3 0 rfl rfl (vp_in_nI (by first | omega | (have t_hj6 := hj6; have t_n8 := n8; have t_hj13 := hj13; have t_n44 := n44; have t_hj49 := hj49; have t_n52 := n52; have t_w542 := w542; have t_w872 := w872; have t_n110 := n110; have t_c113 := neI c113; have t_c119 := neI c119; have : ((-4) : Int32).toInt = -4 := qI_m4; have : (0 : Int32).toInt = 0 := qI_0; have t_n0 : (nI N).toInt = (N : Int) := tn872_ (); have t_n1 : (nI B).toInt = (B : Int) := tn873_ (); have t_n2 : (nI T).toInt = (T : Int) := tn874_ (); have t_n3 : (nI S).toInt = (S : Int) := tn875_ (); have t_n4 : (nI M).toInt = (M : Int) := tn876_ (); have t_n5 : (nI j1).toInt = (j1 : Int) := tn877_ (); have t_n6 : (nI j9).toInt = (j9 : Int) := tn883_ (); have t_n7 : (nI j45).toInt = (j45 : Int) := tn885_ (); have t_n8 : (nI w540).toInt = (w540 : Int) := tn889_ (); have t_n9 : (nI w870).toInt = (w870 : Int) := tn892_ (); omega)) (by decide)) dX11_layPaths_154 ?_
                              refine lv_cg (y := (upd g46 ((10 * j9) + 10) v118) (((10 * j9) + 10) + w540)) (by rw [nI_clamp (by omega)]) ?_
                              refine lv_iload_n hx hb dX11_layPaths_155 rfl (lv_at hl 2 rfl) ?_
                              refine lv_iadd hx hb dX11_layPaths_156 ?_
                              refine lv_topi (fun v120 ev120 => ?_)
                              refine va_iast hx hb hK.1 hP hD hS 3 0 rfl rfl (vp_in_nI (by first | omega | (have t_hj6 := hj6; have t_n8 := n8; have t_hj13 := hj13; have t_n44 := n44; have t_hj49 := hj49; have t_n52 := n52; have t_w542 := w542; have t_w872 := w872; have t_n110 := n110; have t_c113 := neI c113; have t_c119 := neI c119; have : ((-4) : Int32).toInt = -4 := qI_m4; have : (0 : Int32).toInt = 0 := qI_0; have t_n0 : (nI N).toInt = (N : Int) := tn872_ (); have t_n1 : (nI B).toInt = (B : Int) := tn873_ (); have t_n2 : (nI T).toInt = (T : Int) := tn874_ (); have t_n3 : (nI S).toInt = (S : Int) := tn875_ (); have t_n4 : (nI M).toInt = (M : Int) := tn876_ (); have t_n5 : (nI j1).toInt = (j1 : Int) := tn877_ (); have t_n6 : (nI j9).toInt = (j9 : Int) := tn883_ (); have t_n7 : (nI j45).toInt = (j45 : Int) := tn885_ (); have t_n8 : (nI w540).toInt = (w540 : Int) := tn889_ (); have t_n9 : (nI w870).toInt = (w870 : Int) := tn892_ (); omega)) (by decide)) dX11_layPaths_157 (fun H locs hP hD hS => ?_)
                              rw [nI_clamp (by omega)] at hP hD
                              refine lv_iload hx hb dX11_layPaths_158 (lv_at hl 0 rfl) ?_
                              refine lv_bipush (v := (-4)) hx hb dX11_layPaths_160 rfl ?_
                              refine lv_icmp_eq (tgt := 184) hx hb dX11_layPaths_162 rfl (fun c121 => ?_) (fun c121 => ?_)
                              · skip
                                have t_hj6 := hj6
                                have t_n8 := n8
                                have t_hj13 := hj13
                                have t_n44 := n44
                                have t_hj49 := hj49
                                have t_n52 := n52
                                have t_w542 := w542
                                have t_w872 := w872
                                have t_n110 := n110
                                have t_c113 := neI c113
                                have t_c119 := neI c119
                                have t_c121 := eqI c121
                                have : ((-4) : Int32).toInt = -4 := qI_m4
                                have : (0 : Int32).toInt = 0 := qI_0
                                have t_n0 : (nI N).toInt = (N : Int) := tn872_ ()
                                have t_n1 : (nI B).toInt = (B : Int) := tn873_ ()
                                have t_n2 : (nI T).toInt = (T : Int) := tn874_ ()
                                have t_n3 : (nI S).toInt = (S : Int) := tn875_ ()
                                have t_n4 : (nI M).toInt = (M : Int) := tn876_ ()
                                have t_n5 : (nI j1).toInt = (j1 : Int) := tn877_ ()
                                have t_n6 : (nI j9).toInt = (j9 : Int) := tn883_ ()
                                have t_n7 : (nI j45).toInt = (j45 : Int) := tn885_ ()
                                have t_n8 : (nI w540).toInt = (w540 : Int) := tn889_ ()
                                have t_n9 : (nI w870).toInt = (w870 : Int) := tn892_ ()
                                exfalso; omega
                              · skip
                                refine lv_aload_n hx hb dX11_layPaths_165 rfl (lv_at hl 5 rfl) ?_
                                refine va_get (D := (dC, dI)) (ci := 11) (v := .ref ah) (C := RX11) (T := TX11) (N := 35) hx hb hg inG11 hown hK.1 hP 0 rfl rfl 28 (Nat.le_of_ble_eq_true rfl) (hg _ wt_906) (fun _ h9 => h9) rfl dX11_layPaths_166 ?_
                                refine lv_bipush (v := 10) hx hb dX11_layPaths_169 rfl ?_
                                refine lv_iload_n hx hb dX11_layPaths_171 rfl (lv_at hl 4 rfl) ?_
                                refine lv_imul hx hb dX11_layPaths_172 ?_
                                refine lv_cg (y := nI (10 * j9)) (by rw [show (10 : Int32) = nI 10 from rfl]; exact pk_mul _ _) ?_
                                refine lv_bipush (v := 10) hx hb dX11_layPaths_173 rfl ?_
                                refine lv_iadd hx hb dX11_layPaths_175 ?_
                                refine lv_cg (y := nI ((10 * j9) + 10)) (by rw [show (10 : Int32) = nI 10 from rfl]; exact nI_add _ _) ?_
                                refine lv_iload hx hb dX11_layPaths_176 (lv_at hl 0 rfl) ?_
                                refine lv_iadd hx hb dX11_layPaths_178 ?_
                                refine lv_cg (y := nI (((10 * j9) + 10) + w870)) (by exact nI_add _ _) ?_
                                refine lv_dup2_11 hx hb dX11_layPaths_179 rfl rfl ?_
                                refine va_iald hx hb hK.1 hP 3 0 rfl rfl (vp_in_nI (by first | omega | (have t_hj6 := hj6; have t_n8 := n8; have t_hj13 := hj13; have t_n44 := n44; have t_hj49 := hj49; have t_n52 := n52; have t_w542 := w542; have t_w872 := w872; have t_n110 := n110; have t_c113 := neI c113; have t_c119 := neI c119; have t_c121 := neI c121; have : ((-4) : Int32).toInt = -4 := qI_m4; have : (0 : Int32).toInt = 0 := qI_0; have t_n0 : (nI N).toInt = (N : Int) := tn872_ (); have t_n1 : (nI B).toInt = (B : Int) := tn873_ (); have t_n2 : (nI T).toInt = (T : Int) := tn874_ (); have t_n3 : (nI S).toInt = (S : Int) := tn875_ (); have t_n4 : (nI M).toInt = (M : Int) := tn876_ (); have t_n5 : (nI j1).toInt = (j1 : Int) := tn877_ (); have t_n6 : (nI j9).toInt = (j9 : Int) := tn883_ (); have t_n7 : (nI j45).toInt = (j45 : Int) := tn885_ (); have t_n8 : (nI w540).toInt = (w540 : Int) := tn889_ (); have t_n9 : (nI w870).toInt = (w870 : Int) := tn892_ (); omega)) (by decide)) dX11_layPaths_180 ?_
                                refine lv_cg (y := (upd (upd g46 ((10 * j9) + 10) v118) (((10 * j9) + 10) + w540) v120) (((10 * j9) + 10) + w870)) (by rw [nI_clamp (by omega)]) ?_
                                refine lv_iload_n hx hb dX11_layPaths_181 rfl (lv_at hl 2 rfl) ?_
                                refine lv_iadd hx hb dX11_layPaths_182 ?_
                                refine lv_topi (fun v122 ev122 => ?_)
                                refine va_iast hx hb hK.1 hP hD hS 3 0 rfl rfl (vp_in_nI (by first | omega | (have t_hj6 := hj6; have t_n8 := n8; have t_hj13 := hj13; have t_n44 := n44; have t_hj49 := hj49; have t_n52 := n52; have t_w542 := w542; have t_w872 := w872; have t_n110 := n110; have t_c113 := neI c113; have t_c119 := neI c119; have t_c121 := neI c121; have : ((-4) : Int32).toInt = -4 := qI_m4; have : (0 : Int32).toInt = 0 := qI_0; have t_n0 : (nI N).toInt = (N : Int) := tn872_ (); have t_n1 : (nI B).toInt = (B : Int) := tn873_ (); have t_n2 : (nI T).toInt = (T : Int) := tn874_ (); have t_n3 : (nI S).toInt = (S : Int) := tn875_ (); have t_n4 : (nI M).toInt = (M : Int) := tn876_ (); have t_n5 : (nI j1).toInt = (j1 : Int) := tn877_ (); have t_n6 : (nI j9).toInt = (j9 : Int) := tn883_ (); have t_n7 : (nI j45).toInt = (j45 : Int) := tn885_ (); have t_n8 : (nI w540).toInt = (w540 : Int) := tn889_ (); have t_n9 : (nI w870).toInt = (w870 : Int) := tn892_ (); omega)) (by decide)) dX11_layPaths_183 (fun H locs hP hD hS => ?_)
                                rw [nI_clamp (by omega)] at hP hD
                                refine lv_iinc (v := nI (j45 + 1)) (lv' := [(2, .int (nI (j45 + 1))), (5, .int (nI w870)), (4, .int (nI w540)), (3, .int (g46 ((10 * j9) + j45))), (1, .int (nI j9)), (0, .ref h0)]) hx hb dX11_layPaths_184 hl (k := 3) rfl (by rw [show Int32.ofInt 1 = nI 1 from by decide]; exact nI_add _ _) (by decide) rfl (fun ls hl => ?_)
                                refine lv_goto (tgt := 67) hx hb dX11_layPaths_187 rfl ?_
                                exact ih67_47 (j45 + 1) (by omega) (by omega) (upd (upd (upd g46 ((10 * j9) + 10) v118) (((10 * j9) + 10) + w540) v120) (((10 * j9) + 10) + w870) v122) _ _ hP hD hS ls (lv_sub hl [0, 4, 5] rfl)
              exact loop67_47 (10 + 1) 0 (by omega) (by omega) g10 _ _ hP hD hS ls (lv_sub hl [0, 1, 2] rfl)
        exact loop57_11 (N + 1) 0 (by omega) (by omega) g2 _ _ hP hD hS ls (lv_sub hl [0, 1] rfl)
      · skip
        have tn893_ : nIT j1 := fun _ => nI_toInt (by first | omega | (have t := nleI c7; omega))
        have n123 : j1 < 110 := by have t := nleI c7; rw [show (nI (j1)).toInt = ((j1 : Nat) : Int) from tn893_ ()] at t; have : (110 : Int32).toInt = 110 := qI_110; omega
        refine lv_aload_n hx hb dX11_layPaths_8 rfl (lv_at hl 1 rfl) ?_
        refine va_get (D := (dC, dI)) (ci := 11) (v := .ref ah) (C := RX11) (T := TX11) (N := 35) hx hb hg inG11 hown hK.1 hP 0 rfl rfl 28 (Nat.le_of_ble_eq_true rfl) (hg _ wt_906) (fun _ h9 => h9) rfl dX11_layPaths_9 ?_
        refine lv_iload_n hx hb dX11_layPaths_12 rfl (lv_at hl 0 rfl) ?_
        refine lv_iload_n hx hb dX11_layPaths_13 rfl (lv_at hl 0 rfl) ?_
        refine lv_aload_n hx hb dX11_layPaths_14 rfl (lv_at hl 1 rfl) ?_
        have hPc := hP.sub (ws' := [(h0, .inr (11, [.ref st, .int (nI N), .int (nI B), .ref rp, .int vrs, .int vrb, .int vhs, .int vca, .int vxs, .int vxb, .ref tp, .int (nI T), .int vfa, .int vbr, .int vba, .int vsp, .int vhe, .int vtk, .int vva, .ref cu, .ref lt, .ref od, .ref th, .ref be, .ref ln, .int (nI S), .ref ma, .int (nI M), .ref ah, .ref bh, .ref ik, .ref la, .ref lg, .ref ce, .int vto])), (st, .inl (G 0, 196, .inl fst))]) [0, 1] rfl
        refine va_calli (va_runV (As := []) (rest := [.int (nI j1), .int (nI j1), .ref ah]) ⟨hx, hb, hml, hown, hg⟩ (c_X11_startNow l dC dI G _ h0 st N B rp tp T cu lt od th be ln S ma M ah bh ik la lg ce vrs vrb vhs vca vxs vxb vfa vbr vba vsp vhe vtk vva vto fst hN hB_ hT_ hS0 hM_ hst) (kwV hg mfX11_startNow wt_1044 ⟨Nat.le_of_ble_eq_true rfl, Nat.le_of_ble_eq_true rfl⟩) (preVR hK hPc (ci := 11) rfl rfl) rfl rfl hl.1 rfl (lv_room (Nat.le_of_ble_eq_true rfl)) dX11_layPaths_15 ⟨Nat.le_of_ble_eq_true rfl, Nat.le_of_ble_eq_true rfl⟩) hS (fun q h1 h2 => absurd h2 (Nat.not_le.mpr h1)) (fun q h => hA q (Nat.le_trans hS.1 h)) (fun r124 ur124 t H1 locs ht hvm w125 hB hz1 hk1 hS => ?_)
        have hP := keepR hP hk1
        obtain ⟨w125, w125x⟩ := w125
        obtain ⟨k126, w125, w125a, w125b⟩ := w125
        subst w125
        have cut26_128 : ∀ (y127 : Int32) (H : Heap) (locs : List Loc), va_P (dC, dI) vwCl [(h0, .inr (11, [.ref st, .int (nI N), .int (nI B), .ref rp, .int vrs, .int vrb, .int vhs, .int vca, .int vxs, .int vxb, .ref tp, .int (nI T), .int vfa, .int vbr, .int vba, .int vsp, .int vhe, .int vtk, .int vva, .ref cu, .ref lt, .ref od, .ref th, .ref be, .ref ln, .int (nI S), .ref ma, .int (nI M), .ref ah, .ref bh, .ref ik, .ref la, .ref lg, .ref ce, .int vto])), (st, .inl (G 0, 196, .inl fst)), (ma, .inl (G 0, 12, .inl fma)), (ah, .inl (G 0, 110, .inl g2)), (bh, .inl (G 0, 110, .inl g3))] H → va_D A [(h0, .inr (11, [.ref st, .int (nI N), .int (nI B), .ref rp, .int vrs, .int vrb, .int vhs, .int vca, .int vxs, .int vxb, .ref tp, .int (nI T), .int vfa, .int vbr, .int vba, .int vsp, .int vhe, .int vtk, .int vva, .ref cu, .ref lt, .ref od, .ref th, .ref be, .ref ln, .int (nI S), .ref ma, .int (nI M), .ref ah, .ref bh, .ref ik, .ref la, .ref lg, .ref ce, .int vto])), (st, .inl (G 0, 196, .inl fst)), (ma, .inl (G 0, 12, .inl fma)), (ah, .inl (G 0, 110, .inl g2)), (bh, .inl (G 0, 110, .inl g3))] → va_S A s.heap H locs → ∀ (ls : Array Slot), lv_has ls 6 [(1, .int (nI j1)), (0, .ref h0)] → W p l e (headSpec (Cond.code yX11_layPaths cX11_layPaths 6 none :: GT) ({ frames := 5, cells := 0, slots := 0, locals := 121 } : Room)).room s m ([.ref h0] : List Value).toArray below meth c H locs 0 0 (MQ below (va_Qv (fun (u : (Nat → Int32) × (Nat → Int32)) => match u with | (oah, obh) => True) (fun (u : (Nat → Int32) × (Nat → Int32)) (t : State) => match u with | (oah, obh) => va_P (dC, dI) vwCl [(h0, .inr (11, [.ref st, .int (nI N), .int (nI B), .ref rp, .int vrs, .int vrb, .int vhs, .int vca, .int vxs, .int vxb, .ref tp, .int (nI T), .int vfa, .int vbr, .int vba, .int vsp, .int vhe, .int vtk, .int vva, .ref cu, .ref lt, .ref od, .ref th, .ref be, .ref ln, .int (nI S), .ref ma, .int (nI M), .ref ah, .ref bh, .ref ik, .ref la, .ref lg, .ref ce, .int vto])), (st, .inl (G 0, 196, .inl fst)), (ma, .inl (G 0, 12, .inl fma)), (ah, .inl (G 0, 110, .inl oah)), (bh, .inl (G 0, 110, .inl obh))] t.heap ∧ va_D A [(h0, .inr (11, [.ref st, .int (nI N), .int (nI B), .ref rp, .int vrs, .int vrb, .int vhs, .int vca, .int vxs, .int vxb, .ref tp, .int (nI T), .int vfa, .int vbr, .int vba, .int vsp, .int vhe, .int vtk, .int vva, .ref cu, .ref lt, .ref od, .ref th, .ref be, .ref ln, .int (nI S), .ref ma, .int (nI M), .ref ah, .ref bh, .ref ik, .ref la, .ref lg, .ref ce, .int vto])), (st, .inl (G 0, 196, .inl fst)), (ma, .inl (G 0, 12, .inl fma)), (ah, .inl (G 0, 110, .inl oah)), (bh, .inl (G 0, 110, .inl obh))]) A) ([.ref h0] : List Value).toArray s 0 0 A) (F0 m 26 ls [.int y127, .int (nI j1), .ref ah]) := by
          intro y127 H locs hP hD hS ls hl
          have tn894_ : nIT k126 := fun _ => nI_toInt (by first | omega | (have t_hj6 := hj6; have t_n123 := n123; have t_w125a := w125a; have t_w125b := w125b; omega))
          refine va_iast hx hb hK.1 hP hD hS 3 0 rfl rfl (vp_in_nI (by first | omega | (have t_hj6 := hj6; have t_n123 := n123; have t_w125a := w125a; have t_w125b := w125b; have t_n0 : (nI N).toInt = (N : Int) := tn872_ (); have t_n1 : (nI B).toInt = (B : Int) := tn873_ (); have t_n2 : (nI T).toInt = (T : Int) := tn874_ (); have t_n3 : (nI S).toInt = (S : Int) := tn875_ (); have t_n4 : (nI M).toInt = (M : Int) := tn876_ (); have t_n5 : (nI j1).toInt = (j1 : Int) := tn893_ (); have t_n6 : (nI k126).toInt = (k126 : Int) := tn894_ (); omega)) (by decide)) dX11_layPaths_26 (fun H locs hP hD hS => ?_)
          rw [nI_clamp (by omega)] at hP hD
          refine lv_aload_n hx hb dX11_layPaths_27 rfl (lv_at hl 1 rfl) ?_
          refine va_get (D := (dC, dI)) (ci := 11) (v := .ref bh) (C := RX11) (T := TX11) (N := 35) hx hb hg inG11 hown hK.1 hP 0 rfl rfl 29 (Nat.le_of_ble_eq_true rfl) (hg _ wt_907) (fun _ h9 => h9) rfl dX11_layPaths_28 ?_
          refine lv_iload_n hx hb dX11_layPaths_31 rfl (lv_at hl 0 rfl) ?_
          refine lv_iload_n hx hb dX11_layPaths_32 rfl (lv_at hl 0 rfl) ?_
          refine lv_bipush (v := 10) hx hb dX11_layPaths_33 rfl ?_
          refine lv_idiv hx hb dX11_layPaths_35 (by decide) ?_
          refine lv_cg (y := nI (j1 / 10)) (by rw [show (10 : Int32) = nI 10 from rfl]; exact pk_div (by omega) (by omega) (by omega)) ?_
          refine lv_aload_n hx hb dX11_layPaths_36 rfl (lv_at hl 1 rfl) ?_
          refine va_get (D := (dC, dI)) (ci := 11) (v := .int (nI N)) (C := RX11) (T := TX11) (N := 35) hx hb hg inG11 hown hK.1 hP 0 rfl rfl 1 (Nat.le_of_ble_eq_true rfl) (hg _ wt_879) (fun _ h9 => h9) rfl dX11_layPaths_37 ?_
          have cut48_130 : ∀ (y129 : Int32) (H : Heap) (locs : List Loc), va_P (dC, dI) vwCl [(h0, .inr (11, [.ref st, .int (nI N), .int (nI B), .ref rp, .int vrs, .int vrb, .int vhs, .int vca, .int vxs, .int vxb, .ref tp, .int (nI T), .int vfa, .int vbr, .int vba, .int vsp, .int vhe, .int vtk, .int vva, .ref cu, .ref lt, .ref od, .ref th, .ref be, .ref ln, .int (nI S), .ref ma, .int (nI M), .ref ah, .ref bh, .ref ik, .ref la, .ref lg, .ref ce, .int vto])), (st, .inl (G 0, 196, .inl fst)), (ma, .inl (G 0, 12, .inl fma)), (ah, .inl (G 0, 110, .inl (upd g2 j1 y127))), (bh, .inl (G 0, 110, .inl g3))] H → va_D A [(h0, .inr (11, [.ref st, .int (nI N), .int (nI B), .ref rp, .int vrs, .int vrb, .int vhs, .int vca, .int vxs, .int vxb, .ref tp, .int (nI T), .int vfa, .int vbr, .int vba, .int vsp, .int vhe, .int vtk, .int vva, .ref cu, .ref lt, .ref od, .ref th, .ref be, .ref ln, .int (nI S), .ref ma, .int (nI M), .ref ah, .ref bh, .ref ik, .ref la, .ref lg, .ref ce, .int vto])), (st, .inl (G 0, 196, .inl fst)), (ma, .inl (G 0, 12, .inl fma)), (ah, .inl (G 0, 110, .inl (upd g2 j1 y127))), (bh, .inl (G 0, 110, .inl g3))] → va_S A s.heap H locs → ∀ (ls : Array Slot), lv_has ls 6 [(1, .int (nI j1)), (0, .ref h0)] → W p l e (headSpec (Cond.code yX11_layPaths cX11_layPaths 6 none :: GT) ({ frames := 5, cells := 0, slots := 0, locals := 121 } : Room)).room s m ([.ref h0] : List Value).toArray below meth c H locs 0 0 (MQ below (va_Qv (fun (u : (Nat → Int32) × (Nat → Int32)) => match u with | (oah, obh) => True) (fun (u : (Nat → Int32) × (Nat → Int32)) (t : State) => match u with | (oah, obh) => va_P (dC, dI) vwCl [(h0, .inr (11, [.ref st, .int (nI N), .int (nI B), .ref rp, .int vrs, .int vrb, .int vhs, .int vca, .int vxs, .int vxb, .ref tp, .int (nI T), .int vfa, .int vbr, .int vba, .int vsp, .int vhe, .int vtk, .int vva, .ref cu, .ref lt, .ref od, .ref th, .ref be, .ref ln, .int (nI S), .ref ma, .int (nI M), .ref ah, .ref bh, .ref ik, .ref la, .ref lg, .ref ce, .int vto])), (st, .inl (G 0, 196, .inl fst)), (ma, .inl (G 0, 12, .inl fma)), (ah, .inl (G 0, 110, .inl oah)), (bh, .inl (G 0, 110, .inl obh))] t.heap ∧ va_D A [(h0, .inr (11, [.ref st, .int (nI N), .int (nI B), .ref rp, .int vrs, .int vrb, .int vhs, .int vca, .int vxs, .int vxb, .ref tp, .int (nI T), .int vfa, .int vbr, .int vba, .int vsp, .int vhe, .int vtk, .int vva, .ref cu, .ref lt, .ref od, .ref th, .ref be, .ref ln, .int (nI S), .ref ma, .int (nI M), .ref ah, .ref bh, .ref ik, .ref la, .ref lg, .ref ce, .int vto])), (st, .inl (G 0, 196, .inl fst)), (ma, .inl (G 0, 12, .inl fma)), (ah, .inl (G 0, 110, .inl oah)), (bh, .inl (G 0, 110, .inl obh))]) A) ([.ref h0] : List Value).toArray s 0 0 A) (F0 m 48 ls [.int y129, .int (nI j1), .ref bh]) := by
            intro y129 H locs hP hD hS ls hl
            refine va_iast hx hb hK.1 hP hD hS 4 0 rfl rfl (vp_in_nI (by first | omega | (have t_hj6 := hj6; have t_n123 := n123; have t_w125a := w125a; have t_w125b := w125b; have t_n0 : (nI N).toInt = (N : Int) := tn872_ (); have t_n1 : (nI B).toInt = (B : Int) := tn873_ (); have t_n2 : (nI T).toInt = (T : Int) := tn874_ (); have t_n3 : (nI S).toInt = (S : Int) := tn875_ (); have t_n4 : (nI M).toInt = (M : Int) := tn876_ (); have t_n5 : (nI j1).toInt = (j1 : Int) := tn893_ (); have t_n6 : (nI k126).toInt = (k126 : Int) := tn894_ (); omega)) (by decide)) dX11_layPaths_48 (fun H locs hP hD hS => ?_)
            rw [nI_clamp (by omega)] at hP hD
            refine lv_iinc (v := nI (j1 + 1)) (lv' := [(1, .int (nI (j1 + 1))), (0, .ref h0)]) hx hb dX11_layPaths_49 hl (k := 0) rfl (by rw [show Int32.ofInt 1 = nI 1 from by decide]; exact nI_add _ _) (by decide) rfl (fun ls hl => ?_)
            refine lv_goto (tgt := 2) hx hb dX11_layPaths_52 rfl ?_
            exact ih2_4 (j1 + 1) (by omega) (by omega) (upd g2 j1 y127) (upd g3 j1 y129) _ _ hP hD hS ls (lv_sub hl [0, 1] rfl)
          refine lv_icmp_ne (tgt := 47) hx hb dX11_layPaths_40 rfl (fun c131 => ?_) (fun c131 => ?_)
          · skip
            have tn895_ : nIT (j1 / 10) := fun _ => nI_toInt (by first | omega | (have t := neI c131; omega))
            have n132 : (j1 / 10) ≠ N := by have t := neI c131; rw [show (nI (j1 / 10)).toInt = ((j1 / 10 : Nat) : Int) from tn895_ ()] at t; rw [show (nI (N)).toInt = ((N : Nat) : Int) from tn872_ ()] at t; omega
            refine lv_iconst (v := 0) hx hb dX11_layPaths_47 rfl ?_
            exact cut48_130 0 _ _ hP hD hS ls (lv_sub hl [0, 1] rfl)
          · skip
            have tn896_ : nIT (j1 / 10) := fun _ => nI_toInt (by first | omega | (have t := eqI c131; omega))
            have n133 : (j1 / 10) = N := by have t := eqI c131; rw [show (nI (j1 / 10)).toInt = ((j1 / 10 : Nat) : Int) from tn896_ ()] at t; rw [show (nI (N)).toInt = ((N : Nat) : Int) from tn872_ ()] at t; omega
            refine lv_iconst (v := 1) hx hb dX11_layPaths_43 rfl ?_
            refine lv_goto (tgt := 48) hx hb dX11_layPaths_44 rfl ?_
            exact cut48_130 1 _ _ hP hD hS ls (lv_sub hl [0, 1] rfl)
        refine lv_icmp_ne (tgt := 25) hx hb dX11_layPaths_18 rfl (fun c134 => ?_) (fun c134 => ?_)
        · skip
          have tn897_ : nIT k126 := fun _ => nI_toInt (by omega)
          have n135 : j1 ≠ k126 := by have t := neI c134; rw [show (nI (j1)).toInt = ((j1 : Nat) : Int) from tn893_ ()] at t; rw [show (nI (k126)).toInt = ((k126 : Nat) : Int) from tn897_ ()] at t; omega
          refine lv_iconst (v := 0) hx hb dX11_layPaths_25 rfl ?_
          exact cut26_128 0 _ _ hP hD hS ls (lv_sub hl [0, 1] rfl)
        · skip
          have tn898_ : nIT k126 := fun _ => nI_toInt (by omega)
          have n136 : j1 = k126 := by have t := eqI c134; rw [show (nI (j1)).toInt = ((j1 : Nat) : Int) from tn893_ ()] at t; rw [show (nI (k126)).toInt = ((k126 : Nat) : Int) from tn898_ ()] at t; omega
          refine lv_iconst (v := 1) hx hb dX11_layPaths_21 rfl ?_
          refine lv_goto (tgt := 26) hx hb dX11_layPaths_22 rfl ?_
          exact cut26_128 1 _ _ hP hD hS ls (lv_sub hl [0, 1] rfl)
  exact loop2_4 (110 + 1) 0 (by omega) (by omega) fah fbh _ _ hP hD hS ls (lv_sub hl [0, 1] rfl)

set_option maxHeartbeats 1000000 in
set_option maxRecDepth 100000 in
theorem c_X11_paths (l : Launch) (dC : Nat → ClassId) (dI : Nat → Nat → Nat) (G : Nat → ClassId) (sz : Nat) (h0 st N B rp tp T cu lt od th be ln S ma M ah bh ik la lg ce : Nat) (vrs vrb vhs vca vxs vxb vfa vbr vba vsp vhe vtk vva vto : Int32) (fst : Nat → Int32) (fma : Nat → Int32) (fah : Nat → Int32) (fbh : Nat → Int32) (hN : N ≤ 10) (hB : B ≤ 6) (hT : T ≤ 320) (hS0 : S ≤ 8) (hM : M ≤ 6) (hst : OKS fst) : Met l yX11_paths (Cond.code yX11_paths cX11_paths 1 (some .int) :: GT) ({ frames := 6, cells := 0, slots := 0, locals := 146 } : Room) (PcW [.ref h0] dC dI G [(h0, .inr (11, [.ref st, .int (nI N), .int (nI B), .ref rp, .int vrs, .int vrb, .int vhs, .int vca, .int vxs, .int vxb, .ref tp, .int (nI T), .int vfa, .int vbr, .int vba, .int vsp, .int vhe, .int vtk, .int vva, .ref cu, .ref lt, .ref od, .ref th, .ref be, .ref ln, .int (nI S), .ref ma, .int (nI M), .ref ah, .ref bh, .ref ik, .ref la, .ref lg, .ref ce, .int vto])), (st, .inl (G 0, 196, .inl fst)), (ma, .inl (G 0, 12, .inl fma)), (ah, .inl (G 0, 110, .inl fah)), (bh, .inl (G 0, 110, .inl fbh))] sz) (va_Qi (fun (r : Int32) (u : (Nat → Int32) × (Nat → Int32)) => match u with | (oah, obh) => (True) ∧ True) (fun (u : (Nat → Int32) × (Nat → Int32)) (t : State) => match u with | (oah, obh) => va_P (dC, dI) vwCl [(h0, .inr (11, [.ref st, .int (nI N), .int (nI B), .ref rp, .int vrs, .int vrb, .int vhs, .int vca, .int vxs, .int vxb, .ref tp, .int (nI T), .int vfa, .int vbr, .int vba, .int vsp, .int vhe, .int vtk, .int vva, .ref cu, .ref lt, .ref od, .ref th, .ref be, .ref ln, .int (nI S), .ref ma, .int (nI M), .ref ah, .ref bh, .ref ik, .ref la, .ref lg, .ref ce, .int vto])), (st, .inl (G 0, 196, .inl fst)), (ma, .inl (G 0, 12, .inl fma)), (ah, .inl (G 0, 110, .inl oah)), (bh, .inl (G 0, 110, .inl obh))] t.heap ∧ va_D (va_A [(h0, .inr (11, [.ref st, .int (nI N), .int (nI B), .ref rp, .int vrs, .int vrb, .int vhs, .int vca, .int vxs, .int vxb, .ref tp, .int (nI T), .int vfa, .int vbr, .int vba, .int vsp, .int vhe, .int vtk, .int vva, .ref cu, .ref lt, .ref od, .ref th, .ref be, .ref ln, .int (nI S), .ref ma, .int (nI M), .ref ah, .ref bh, .ref ik, .ref la, .ref lg, .ref ce, .int vto])), (st, .inl (G 0, 196, .inl fst)), (ma, .inl (G 0, 12, .inl fma)), (ah, .inl (G 0, 110, .inl fah)), (bh, .inl (G 0, 110, .inl fbh))] sz) [(h0, .inr (11, [.ref st, .int (nI N), .int (nI B), .ref rp, .int vrs, .int vrb, .int vhs, .int vca, .int vxs, .int vxb, .ref tp, .int (nI T), .int vfa, .int vbr, .int vba, .int vsp, .int vhe, .int vtk, .int vva, .ref cu, .ref lt, .ref od, .ref th, .ref be, .ref ln, .int (nI S), .ref ma, .int (nI M), .ref ah, .ref bh, .ref ik, .ref la, .ref lg, .ref ce, .int vto])), (st, .inl (G 0, 196, .inl fst)), (ma, .inl (G 0, 12, .inl fma)), (ah, .inl (G 0, 110, .inl oah)), (bh, .inl (G 0, 110, .inl obh))]) (va_A [(h0, .inr (11, [.ref st, .int (nI N), .int (nI B), .ref rp, .int vrs, .int vrb, .int vhs, .int vca, .int vxs, .int vxb, .ref tp, .int (nI T), .int vfa, .int vbr, .int vba, .int vsp, .int vhe, .int vtk, .int vva, .ref cu, .ref lt, .ref od, .ref th, .ref be, .ref ln, .int (nI S), .ref ma, .int (nI M), .ref ah, .ref bh, .ref ik, .ref la, .ref lg, .ref ce, .int vto])), (st, .inl (G 0, 196, .inl fst)), (ma, .inl (G 0, 12, .inl fma)), (ah, .inl (G 0, 110, .inl fah)), (bh, .inl (G 0, 110, .inl fbh))] sz)) 0 0 (va_A [(h0, .inr (11, [.ref st, .int (nI N), .int (nI B), .ref rp, .int vrs, .int vrb, .int vhs, .int vca, .int vxs, .int vxb, .ref tp, .int (nI T), .int vfa, .int vbr, .int vba, .int vsp, .int vhe, .int vtk, .int vva, .ref cu, .ref lt, .ref od, .ref th, .ref be, .ref ln, .int (nI S), .ref ma, .int (nI M), .ref ah, .ref bh, .ref ik, .ref la, .ref lg, .ref ce, .int vto])), (st, .inl (G 0, 196, .inl fst)), (ma, .inl (G 0, 12, .inl fma)), (ah, .inl (G 0, 110, .inl fah)), (bh, .inl (G 0, 110, .inl fbh))] sz) := by
  have hB_ := hB
  have hM_ := hM
  have hT_ := hT
  have tn899_ : nIT N := fun _ => nI_toInt (by omega)
  have tn900_ : nIT B := fun _ => nI_toInt (by omega)
  have tn901_ : nIT T := fun _ => nI_toInt (by omega)
  have tn902_ : nIT S := fun _ => nI_toInt (by omega)
  have tn903_ : nIT M := fun _ => nI_toInt (by omega)
  refine Met.ofW (cc := cX11_paths) (maxL := 1) (ret := (some .int)) (by decide) rfl ?_
  intro p e s m args below meth c s₁ Bd hml hv
  obtain ⟨rfl, hsz, hP, hK, hD0⟩ := hv
  have hx := Bd.exec
  have hb := Bd.bytes
  have hr := Bd.returns
  have hg : ∀ w ∈ GT, w.before ([.ref h0] : List Value).toArray s = true := fun w h => atoms_spec (ws := Cond.code yX11_paths cX11_paths 1 (some .int) :: GT) Bd.pre w (List.mem_cons_of_mem _ h)
  have hown : s.vm.findClass RX11 = some m.cls := findClass_of_methodNamed Bd.named
  have hlocks := Bd.notSynchronized
  subst hsz
  have hD := hD0.self (sz := s.heap.size)
  generalize hAe : va_A [(h0, .inr (11, [.ref st, .int (nI N), .int (nI B), .ref rp, .int vrs, .int vrb, .int vhs, .int vca, .int vxs, .int vxb, .ref tp, .int (nI T), .int vfa, .int vbr, .int vba, .int vsp, .int vhe, .int vtk, .int vva, .ref cu, .ref lt, .ref od, .ref th, .ref be, .ref ln, .int (nI S), .ref ma, .int (nI M), .ref ah, .ref bh, .ref ik, .ref la, .ref lg, .ref ce, .int vto])), (st, .inl (G 0, 196, .inl fst)), (ma, .inl (G 0, 12, .inl fma)), (ah, .inl (G 0, 110, .inl fah)), (bh, .inl (G 0, 110, .inl fbh))] s.heap.size = A at hD ⊢
  have hA : ∀ q : Nat, s.heap.size ≤ q → A q := fun q h => by rw [← hAe]; exact Or.inr h
  have hS : va_S A s.heap s.heap [] := va_S.rf
  have hl := lv_entry ([.ref h0]) (n := 1) (Nat.le_of_ble_eq_true rfl)
  rw [lg_entry_eq]
  generalize (lg_sl ([.ref h0]) ++ List.replicate (1 - (lg_sl ([.ref h0])).length) Slot.unset).toArray = ls at hl ⊢
  have hl : lv_has ls 1 [(0, .ref h0)] := hl
  refine lv_aload_n hx hb dX11_paths_0 rfl (lv_at hl 0 rfl) ?_
  obtain ⟨hPc, hDc, hFc⟩ := va_sub3 (ws' := [(h0, .inr (11, [.ref st, .int (nI N), .int (nI B), .ref rp, .int vrs, .int vrb, .int vhs, .int vca, .int vxs, .int vxb, .ref tp, .int (nI T), .int vfa, .int vbr, .int vba, .int vsp, .int vhe, .int vtk, .int vva, .ref cu, .ref lt, .ref od, .ref th, .ref be, .ref ln, .int (nI S), .ref ma, .int (nI M), .ref ah, .ref bh, .ref ik, .ref la, .ref lg, .ref ce, .int vto])), (st, .inl (G 0, 196, .inl fst)), (ma, .inl (G 0, 12, .inl fma)), (ah, .inl (G 0, 110, .inl fah)), (bh, .inl (G 0, 110, .inl fbh))]) hP hD hS hA [0, 1, 2, 3, 4] (by decide) rfl
  refine va_callv (va_runV (As := []) (rest := []) ⟨hx, hb, hml, hown, hg⟩ (c_X11_layPaths l dC dI G _ h0 st N B rp tp T cu lt od th be ln S ma M ah bh ik la lg ce vrs vrb vhs vca vxs vxb vfa vbr vba vsp vhe vtk vva vto fst fma fah fbh hN hB_ hT_ hS0 hM_ hst) (kwV hg mfX11_layPaths wt_1220 ⟨Nat.le_of_ble_eq_true rfl, Nat.le_of_ble_eq_true rfl⟩) (preVW hK hPc hDc (ci := 11) rfl rfl) rfl rfl hl.1 rfl (lv_room (Nat.le_of_ble_eq_true rfl)) dX11_paths_1 ⟨Nat.le_of_ble_eq_true rfl, Nat.le_of_ble_eq_true rfl⟩) hS (fun q _ h => hFc q h) hFc (fun ur1 t H1 locs ht hvm w2 hB hz1 hk1 hS => ?_)
  obtain ⟨u3, u4⟩ := ur1
  obtain ⟨hP1, hD1⟩ := hB
  rw [ht] at hP1
  obtain ⟨hP, hD⟩ := va_join (wr := []) (w1 := [(h0, .inr (11, [.ref st, .int (nI N), .int (nI B), .ref rp, .int vrs, .int vrb, .int vhs, .int vca, .int vxs, .int vxb, .ref tp, .int (nI T), .int vfa, .int vbr, .int vba, .int vsp, .int vhe, .int vtk, .int vva, .ref cu, .ref lt, .ref od, .ref th, .ref be, .ref ln, .int (nI S), .ref ma, .int (nI M), .ref ah, .ref bh, .ref ik, .ref la, .ref lg, .ref ce, .int vto])), (st, .inl (G 0, 196, .inl fst)), (ma, .inl (G 0, 12, .inl fma)), (ah, .inl (G 0, 110, .inl u3)), (bh, .inl (G 0, 110, .inl u4))]) hP hD [0, 1, 2, 3, 4] [] rfl rfl (by decide) (by decide) hk1 hFc hP1 hD1
  generalize H1 = H at hP hS ⊢
  refine lv_aload_n hx hb dX11_paths_4 rfl (lv_at hl 0 rfl) ?_
  refine va_get (D := (dC, dI)) (ci := 11) (v := .ref bh) (C := RX11) (T := TX11) (N := 35) hx hb hg inG11 hown hK.1 hP 0 rfl rfl 29 (Nat.le_of_ble_eq_true rfl) (hg _ wt_907) (fun _ h9 => h9) rfl dX11_paths_5 ?_
  refine lv_aload_n hx hb dX11_paths_8 rfl (lv_at hl 0 rfl) ?_
  have hPc := hP.sub (ws' := [(h0, .inr (11, [.ref st, .int (nI N), .int (nI B), .ref rp, .int vrs, .int vrb, .int vhs, .int vca, .int vxs, .int vxb, .ref tp, .int (nI T), .int vfa, .int vbr, .int vba, .int vsp, .int vhe, .int vtk, .int vva, .ref cu, .ref lt, .ref od, .ref th, .ref be, .ref ln, .int (nI S), .ref ma, .int (nI M), .ref ah, .ref bh, .ref ik, .ref la, .ref lg, .ref ce, .int vto])), (st, .inl (G 0, 196, .inl fst))]) [0, 1] rfl
  refine va_calli (va_runV (As := []) (rest := [.ref bh]) ⟨hx, hb, hml, hown, hg⟩ (c_X11_startNow l dC dI G _ h0 st N B rp tp T cu lt od th be ln S ma M ah bh ik la lg ce vrs vrb vhs vca vxs vxb vfa vbr vba vsp vhe vtk vva vto fst hN hB_ hT_ hS0 hM_ hst) (kwV hg mfX11_startNow wt_1044 ⟨Nat.le_of_ble_eq_true rfl, Nat.le_of_ble_eq_true rfl⟩) (preVR hK hPc (ci := 11) rfl rfl) rfl rfl hl.1 rfl (lv_room (Nat.le_of_ble_eq_true rfl)) dX11_paths_9 ⟨Nat.le_of_ble_eq_true rfl, Nat.le_of_ble_eq_true rfl⟩) hS (fun q h1 h2 => absurd h2 (Nat.not_le.mpr h1)) (fun q h => hA q (Nat.le_trans hS.1 h)) (fun r5 ur5 t H1 locs ht hvm w6 hB hz1 hk1 hS => ?_)
  have hP := keepR hP hk1
  obtain ⟨w6, w6x⟩ := w6
  obtain ⟨k7, w6, w6a, w6b⟩ := w6
  subst w6
  have tn904_ : nIT k7 := fun _ => nI_toInt (by first | omega | (have t_w6a := w6a; have t_w6b := w6b; omega))
  refine va_iald hx hb hK.1 hP 4 0 rfl rfl (vp_in_nI (by first | omega | (have t_w6a := w6a; have t_w6b := w6b; have t_n0 : (nI N).toInt = (N : Int) := tn899_ (); have t_n1 : (nI B).toInt = (B : Int) := tn900_ (); have t_n2 : (nI T).toInt = (T : Int) := tn901_ (); have t_n3 : (nI S).toInt = (S : Int) := tn902_ (); have t_n4 : (nI M).toInt = (M : Int) := tn903_ (); have t_n5 : (nI k7).toInt = (k7 : Int) := tn904_ (); omega)) (by decide)) dX11_paths_12 ?_
  refine lv_cg (y := u4 k7) (by rw [nI_clamp (by omega)]) ?_
  have hpost : True := by
    trivial
  obtain ⟨hP9, hD9⟩ := va_sub2 (ws' := [(h0, .inr (11, [.ref st, .int (nI N), .int (nI B), .ref rp, .int vrs, .int vrb, .int vhs, .int vca, .int vxs, .int vxb, .ref tp, .int (nI T), .int vfa, .int vbr, .int vba, .int vsp, .int vhe, .int vtk, .int vva, .ref cu, .ref lt, .ref od, .ref th, .ref be, .ref ln, .int (nI S), .ref ma, .int (nI M), .ref ah, .ref bh, .ref ik, .ref la, .ref lg, .ref ce, .int vto])), (st, .inl (G 0, 196, .inl fst)), (ma, .inl (G 0, 12, .inl fma)), (ah, .inl (G 0, 110, .inl u3)), (bh, .inl (G 0, 110, .inl u4))]) hP hD [0, 1, 2, 3, 4] (by decide) rfl
  refine W.widen (k := 0) (n := 0) (Nat.le_of_ble_eq_true rfl) (Nat.le_of_ble_eq_true rfl) ?_
  exact W.iret (v := u4 k7) hx hb hr (fun t ht hW => ⟨⟨u4 k7, (u3, u4), rfl, ⟨hpost, trivial⟩, ⟨by rw [ht]; exact hP9, hD9⟩⟩, hS.F ht⟩) hS.2.2 dX11_paths_13

set_option maxHeartbeats 1000000 in
set_option maxRecDepth 100000 in
theorem c_X11_eye (l : Launch) (dC : Nat → ClassId) (dI : Nat → Nat → Nat) (G : Nat → ClassId) (sz : Nat) (h0 st N B rp tp T cu lt od th be ln S ma M ah bh ik la lg ce : Nat) (d vrs vrb vhs vca vxs vxb vfa vbr vba vsp vhe vtk vva vto : Int32) (fst : Nat → Int32) (fma : Nat → Int32) (fah : Nat → Int32) (fbh : Nat → Int32) (hN : N ≤ 10) (hB : B ≤ 6) (hT : T ≤ 320) (hS0 : S ≤ 8) (hM : M ≤ 6) (hst : OKS fst) : Met l yX11_eye (Cond.code yX11_eye cX11_eye 4 (some .int) :: GT) ({ frames := 6, cells := 0, slots := 0, locals := 146 } : Room) (PcW [.ref h0, .int d] dC dI G [(h0, .inr (11, [.ref st, .int (nI N), .int (nI B), .ref rp, .int vrs, .int vrb, .int vhs, .int vca, .int vxs, .int vxb, .ref tp, .int (nI T), .int vfa, .int vbr, .int vba, .int vsp, .int vhe, .int vtk, .int vva, .ref cu, .ref lt, .ref od, .ref th, .ref be, .ref ln, .int (nI S), .ref ma, .int (nI M), .ref ah, .ref bh, .ref ik, .ref la, .ref lg, .ref ce, .int vto])), (st, .inl (G 0, 196, .inl fst)), (ma, .inl (G 0, 12, .inl fma)), (ah, .inl (G 0, 110, .inl fah)), (bh, .inl (G 0, 110, .inl fbh))] sz) (va_Qi (fun (r : Int32) (u : (Nat → Int32) × (Nat → Int32)) => match u with | (oah, obh) => (True) ∧ True) (fun (u : (Nat → Int32) × (Nat → Int32)) (t : State) => match u with | (oah, obh) => va_P (dC, dI) vwCl [(h0, .inr (11, [.ref st, .int (nI N), .int (nI B), .ref rp, .int vrs, .int vrb, .int vhs, .int vca, .int vxs, .int vxb, .ref tp, .int (nI T), .int vfa, .int vbr, .int vba, .int vsp, .int vhe, .int vtk, .int vva, .ref cu, .ref lt, .ref od, .ref th, .ref be, .ref ln, .int (nI S), .ref ma, .int (nI M), .ref ah, .ref bh, .ref ik, .ref la, .ref lg, .ref ce, .int vto])), (st, .inl (G 0, 196, .inl fst)), (ma, .inl (G 0, 12, .inl fma)), (ah, .inl (G 0, 110, .inl oah)), (bh, .inl (G 0, 110, .inl obh))] t.heap ∧ va_D (va_A [(h0, .inr (11, [.ref st, .int (nI N), .int (nI B), .ref rp, .int vrs, .int vrb, .int vhs, .int vca, .int vxs, .int vxb, .ref tp, .int (nI T), .int vfa, .int vbr, .int vba, .int vsp, .int vhe, .int vtk, .int vva, .ref cu, .ref lt, .ref od, .ref th, .ref be, .ref ln, .int (nI S), .ref ma, .int (nI M), .ref ah, .ref bh, .ref ik, .ref la, .ref lg, .ref ce, .int vto])), (st, .inl (G 0, 196, .inl fst)), (ma, .inl (G 0, 12, .inl fma)), (ah, .inl (G 0, 110, .inl fah)), (bh, .inl (G 0, 110, .inl fbh))] sz) [(h0, .inr (11, [.ref st, .int (nI N), .int (nI B), .ref rp, .int vrs, .int vrb, .int vhs, .int vca, .int vxs, .int vxb, .ref tp, .int (nI T), .int vfa, .int vbr, .int vba, .int vsp, .int vhe, .int vtk, .int vva, .ref cu, .ref lt, .ref od, .ref th, .ref be, .ref ln, .int (nI S), .ref ma, .int (nI M), .ref ah, .ref bh, .ref ik, .ref la, .ref lg, .ref ce, .int vto])), (st, .inl (G 0, 196, .inl fst)), (ma, .inl (G 0, 12, .inl fma)), (ah, .inl (G 0, 110, .inl oah)), (bh, .inl (G 0, 110, .inl obh))]) (va_A [(h0, .inr (11, [.ref st, .int (nI N), .int (nI B), .ref rp, .int vrs, .int vrb, .int vhs, .int vca, .int vxs, .int vxb, .ref tp, .int (nI T), .int vfa, .int vbr, .int vba, .int vsp, .int vhe, .int vtk, .int vva, .ref cu, .ref lt, .ref od, .ref th, .ref be, .ref ln, .int (nI S), .ref ma, .int (nI M), .ref ah, .ref bh, .ref ik, .ref la, .ref lg, .ref ce, .int vto])), (st, .inl (G 0, 196, .inl fst)), (ma, .inl (G 0, 12, .inl fma)), (ah, .inl (G 0, 110, .inl fah)), (bh, .inl (G 0, 110, .inl fbh))] sz)) 0 0 (va_A [(h0, .inr (11, [.ref st, .int (nI N), .int (nI B), .ref rp, .int vrs, .int vrb, .int vhs, .int vca, .int vxs, .int vxb, .ref tp, .int (nI T), .int vfa, .int vbr, .int vba, .int vsp, .int vhe, .int vtk, .int vva, .ref cu, .ref lt, .ref od, .ref th, .ref be, .ref ln, .int (nI S), .ref ma, .int (nI M), .ref ah, .ref bh, .ref ik, .ref la, .ref lg, .ref ce, .int vto])), (st, .inl (G 0, 196, .inl fst)), (ma, .inl (G 0, 12, .inl fma)), (ah, .inl (G 0, 110, .inl fah)), (bh, .inl (G 0, 110, .inl fbh))] sz) := by
  have hB_ := hB
  have hM_ := hM
  have hT_ := hT
  have tn905_ : nIT N := fun _ => nI_toInt (by omega)
  have tn906_ : nIT B := fun _ => nI_toInt (by omega)
  have tn907_ : nIT T := fun _ => nI_toInt (by omega)
  have tn908_ : nIT S := fun _ => nI_toInt (by omega)
  have tn909_ : nIT M := fun _ => nI_toInt (by omega)
  refine Met.ofW (cc := cX11_eye) (maxL := 4) (ret := (some .int)) (by decide) rfl ?_
  intro p e s m args below meth c s₁ Bd hml hv
  obtain ⟨rfl, hsz, hP, hK, hD0⟩ := hv
  have hx := Bd.exec
  have hb := Bd.bytes
  have hr := Bd.returns
  have hg : ∀ w ∈ GT, w.before ([.ref h0, .int d] : List Value).toArray s = true := fun w h => atoms_spec (ws := Cond.code yX11_eye cX11_eye 4 (some .int) :: GT) Bd.pre w (List.mem_cons_of_mem _ h)
  have hown : s.vm.findClass RX11 = some m.cls := findClass_of_methodNamed Bd.named
  have hlocks := Bd.notSynchronized
  subst hsz
  have hD := hD0.self (sz := s.heap.size)
  generalize hAe : va_A [(h0, .inr (11, [.ref st, .int (nI N), .int (nI B), .ref rp, .int vrs, .int vrb, .int vhs, .int vca, .int vxs, .int vxb, .ref tp, .int (nI T), .int vfa, .int vbr, .int vba, .int vsp, .int vhe, .int vtk, .int vva, .ref cu, .ref lt, .ref od, .ref th, .ref be, .ref ln, .int (nI S), .ref ma, .int (nI M), .ref ah, .ref bh, .ref ik, .ref la, .ref lg, .ref ce, .int vto])), (st, .inl (G 0, 196, .inl fst)), (ma, .inl (G 0, 12, .inl fma)), (ah, .inl (G 0, 110, .inl fah)), (bh, .inl (G 0, 110, .inl fbh))] s.heap.size = A at hD ⊢
  have hA : ∀ q : Nat, s.heap.size ≤ q → A q := fun q h => by rw [← hAe]; exact Or.inr h
  have hS : va_S A s.heap s.heap [] := va_S.rf
  have hl := lv_entry ([.ref h0, .int d]) (n := 4) (Nat.le_of_ble_eq_true rfl)
  rw [lg_entry_eq]
  generalize (lg_sl ([.ref h0, .int d]) ++ List.replicate (4 - (lg_sl ([.ref h0, .int d])).length) Slot.unset).toArray = ls at hl ⊢
  have hl : lv_has ls 4 [(0, .ref h0), (1, .int d)] := hl
  refine lv_iload_n hx hb dX11_eye_0 rfl (lv_at hl 1 rfl) ?_
  refine lv_i2l (v := d.toInt64) hx hb dX11_eye_1 rfl ?_
  refine lv_lconst (v := 0) hx hb dX11_eye_2 (by decide) ?_
  refine lv_ldc2 (v := 9) hx hb hown (hg _ wt_1069) dX11_eye_3 ?_
  have hPc := hP.sub (ws' := []) [] rfl
  refine va_calli (va_runS (As := [.long d.toInt64, .long 0, .long 9]) (rest := []) ⟨hx, hb, hml, hown, hg⟩ (c_X11_in l dC dI G _ d.toInt64 0 9) (kwS hg mfX11_in wt_992 ⟨Nat.le_of_ble_eq_true rfl, Nat.le_of_ble_eq_true rfl⟩) (preSR hK hPc) rfl rfl hl.1 rfl (lv_room (Nat.le_of_ble_eq_true rfl)) dX11_eye_6 ⟨Nat.le_of_ble_eq_true rfl, Nat.le_of_ble_eq_true rfl⟩) hS (fun q h1 h2 => absurd h2 (Nat.not_le.mpr h1)) (fun q h => hA q (Nat.le_trans hS.1 h)) (fun r1 ur1 t H1 locs ht hvm w2 hB hz1 hk1 hS => ?_)
  have hP := keepR hP hk1
  obtain ⟨w2, w2x⟩ := w2
  try simp only [l_ii, show (0 : Int64).toInt = 0 from by decide, show (9 : Int64).toInt = 9 from by decide] at w2
  subst w2
  refine lv_if_ne (tgt := 14) hx hb dX11_eye_9 rfl (fun c3 => ?_) (fun c3 => ?_)
  · skip
    have b4 := if10_p c3
    obtain ⟨dd, hdd, rfl⟩ : ∃ j : Nat, j < 10 ∧ d = nI j := by
      have t_b4 := b4
      have t_n0 : (nI N).toInt = (N : Int) := tn905_ ()
      have t_n1 : (nI B).toInt = (B : Int) := tn906_ ()
      have t_n2 : (nI T).toInt = (T : Int) := tn907_ ()
      have t_n3 : (nI S).toInt = (S : Int) := tn908_ ()
      have t_n4 : (nI M).toInt = (M : Int) := tn909_ ()
      exact i32_nat (by omega) (by omega)
    refine lv_aload_n hx hb dX11_eye_14 rfl (lv_at hl 0 rfl) ?_
    obtain ⟨hPc, hDc, hFc⟩ := va_sub3 (ws' := [(h0, .inr (11, [.ref st, .int (nI N), .int (nI B), .ref rp, .int vrs, .int vrb, .int vhs, .int vca, .int vxs, .int vxb, .ref tp, .int (nI T), .int vfa, .int vbr, .int vba, .int vsp, .int vhe, .int vtk, .int vva, .ref cu, .ref lt, .ref od, .ref th, .ref be, .ref ln, .int (nI S), .ref ma, .int (nI M), .ref ah, .ref bh, .ref ik, .ref la, .ref lg, .ref ce, .int vto])), (st, .inl (G 0, 196, .inl fst)), (ma, .inl (G 0, 12, .inl fma)), (ah, .inl (G 0, 110, .inl fah)), (bh, .inl (G 0, 110, .inl fbh))]) hP hD hS hA [0, 1, 2, 3, 4] (by decide) rfl
    have tn910_ : nIT dd := fun _ => nI_toInt (by first | omega | (have t_b4 := b4; have t_hdd := hdd; omega))
    refine va_callv (va_runV (As := []) (rest := []) ⟨hx, hb, hml, hown, hg⟩ (c_X11_layPaths l dC dI G _ h0 st N B rp tp T cu lt od th be ln S ma M ah bh ik la lg ce vrs vrb vhs vca vxs vxb vfa vbr vba vsp vhe vtk vva vto fst fma fah fbh hN hB_ hT_ hS0 hM_ hst) (kwV hg mfX11_layPaths wt_1220 ⟨Nat.le_of_ble_eq_true rfl, Nat.le_of_ble_eq_true rfl⟩) (preVW hK hPc hDc (ci := 11) rfl rfl) rfl rfl hl.1 rfl (lv_room (Nat.le_of_ble_eq_true rfl)) dX11_eye_15 ⟨Nat.le_of_ble_eq_true rfl, Nat.le_of_ble_eq_true rfl⟩) hS (fun q _ h => hFc q h) hFc (fun ur5 t H1 locs ht hvm w6 hB hz1 hk1 hS => ?_)
    obtain ⟨u7, u8⟩ := ur5
    obtain ⟨hP1, hD1⟩ := hB
    rw [ht] at hP1
    obtain ⟨hP, hD⟩ := va_join (wr := []) (w1 := [(h0, .inr (11, [.ref st, .int (nI N), .int (nI B), .ref rp, .int vrs, .int vrb, .int vhs, .int vca, .int vxs, .int vxb, .ref tp, .int (nI T), .int vfa, .int vbr, .int vba, .int vsp, .int vhe, .int vtk, .int vva, .ref cu, .ref lt, .ref od, .ref th, .ref be, .ref ln, .int (nI S), .ref ma, .int (nI M), .ref ah, .ref bh, .ref ik, .ref la, .ref lg, .ref ce, .int vto])), (st, .inl (G 0, 196, .inl fst)), (ma, .inl (G 0, 12, .inl fma)), (ah, .inl (G 0, 110, .inl u7)), (bh, .inl (G 0, 110, .inl u8))]) hP hD [0, 1, 2, 3, 4] [] rfl rfl (by decide) (by decide) hk1 hFc hP1 hD1
    generalize H1 = H at hP hS ⊢
    refine lv_iconst (v := 0) hx hb dX11_eye_18 rfl ?_
    refine lv_istore_n (lv' := [(2, .int 0), (0, .ref h0), (1, .int (nI dd))]) hx hb dX11_eye_19 rfl hl (by decide) rfl (fun ls hl => ?_)
    refine lv_iconst (v := 0) hx hb dX11_eye_20 rfl ?_
    refine lv_istore_n (lv' := [(3, .int 0), (2, .int 0), (0, .ref h0), (1, .int (nI dd))]) hx hb dX11_eye_21 rfl hl (by decide) rfl (fun ls hl => ?_)
    have loop22_11 : ∀ (nf j9 : Nat), N + 1 ≤ j9 + nf → j9 ≤ N → ∀ (y10 : Int32) (H : Heap) (locs : List Loc), va_P (dC, dI) vwCl [(h0, .inr (11, [.ref st, .int (nI N), .int (nI B), .ref rp, .int vrs, .int vrb, .int vhs, .int vca, .int vxs, .int vxb, .ref tp, .int (nI T), .int vfa, .int vbr, .int vba, .int vsp, .int vhe, .int vtk, .int vva, .ref cu, .ref lt, .ref od, .ref th, .ref be, .ref ln, .int (nI S), .ref ma, .int (nI M), .ref ah, .ref bh, .ref ik, .ref la, .ref lg, .ref ce, .int vto])), (st, .inl (G 0, 196, .inl fst)), (ma, .inl (G 0, 12, .inl fma)), (ah, .inl (G 0, 110, .inl u7)), (bh, .inl (G 0, 110, .inl u8))] H → va_D A [(h0, .inr (11, [.ref st, .int (nI N), .int (nI B), .ref rp, .int vrs, .int vrb, .int vhs, .int vca, .int vxs, .int vxb, .ref tp, .int (nI T), .int vfa, .int vbr, .int vba, .int vsp, .int vhe, .int vtk, .int vva, .ref cu, .ref lt, .ref od, .ref th, .ref be, .ref ln, .int (nI S), .ref ma, .int (nI M), .ref ah, .ref bh, .ref ik, .ref la, .ref lg, .ref ce, .int vto])), (st, .inl (G 0, 196, .inl fst)), (ma, .inl (G 0, 12, .inl fma)), (ah, .inl (G 0, 110, .inl u7)), (bh, .inl (G 0, 110, .inl u8))] → va_S A s.heap H locs → ∀ (ls : Array Slot), lv_has ls 4 [(3, .int (nI j9)), (2, .int y10), (0, .ref h0), (1, .int (nI dd))] → W p l e (headSpec (Cond.code yX11_eye cX11_eye 4 (some .int) :: GT) ({ frames := 6, cells := 0, slots := 0, locals := 146 } : Room)).room s m ([.ref h0, .int (nI dd)] : List Value).toArray below meth c H locs 0 0 (MQ below (va_Qi (fun (r : Int32) (u : (Nat → Int32) × (Nat → Int32)) => match u with | (oah, obh) => (True) ∧ True) (fun (u : (Nat → Int32) × (Nat → Int32)) (t : State) => match u with | (oah, obh) => va_P (dC, dI) vwCl [(h0, .inr (11, [.ref st, .int (nI N), .int (nI B), .ref rp, .int vrs, .int vrb, .int vhs, .int vca, .int vxs, .int vxb, .ref tp, .int (nI T), .int vfa, .int vbr, .int vba, .int vsp, .int vhe, .int vtk, .int vva, .ref cu, .ref lt, .ref od, .ref th, .ref be, .ref ln, .int (nI S), .ref ma, .int (nI M), .ref ah, .ref bh, .ref ik, .ref la, .ref lg, .ref ce, .int vto])), (st, .inl (G 0, 196, .inl fst)), (ma, .inl (G 0, 12, .inl fma)), (ah, .inl (G 0, 110, .inl oah)), (bh, .inl (G 0, 110, .inl obh))] t.heap ∧ va_D A [(h0, .inr (11, [.ref st, .int (nI N), .int (nI B), .ref rp, .int vrs, .int vrb, .int vhs, .int vca, .int vxs, .int vxb, .ref tp, .int (nI T), .int vfa, .int vbr, .int vba, .int vsp, .int vhe, .int vtk, .int vva, .ref cu, .ref lt, .ref od, .ref th, .ref be, .ref ln, .int (nI S), .ref ma, .int (nI M), .ref ah, .ref bh, .ref ik, .ref la, .ref lg, .ref ce, .int vto])), (st, .inl (G 0, 196, .inl fst)), (ma, .inl (G 0, 12, .inl fma)), (ah, .inl (G 0, 110, .inl oah)), (bh, .inl (G 0, 110, .inl obh))]) A) ([.ref h0, .int (nI dd)] : List Value).toArray s 0 0 A) (F0 m 22 ls []) := by
      intro nf
      induction nf with
      | zero => intro j9 h1 h2; exact absurd h1 (by omega)
      | succ nf ih22_11 =>
        intro j9 hn12 hj13 y10 H locs hP hD hS ls hl
        refine lv_iload_n hx hb dX11_eye_22 rfl (lv_at hl 0 rfl) ?_
        refine lv_aload_n hx hb dX11_eye_23 rfl (lv_at hl 2 rfl) ?_
        refine va_get (D := (dC, dI)) (ci := 11) (v := .int (nI N)) (C := RX11) (T := TX11) (N := 35) hx hb hg inG11 hown hK.1 hP 0 rfl rfl 1 (Nat.le_of_ble_eq_true rfl) (hg _ wt_879) (fun _ h9 => h9) rfl dX11_eye_24 ?_
        refine lv_icmp_ge (tgt := 80) hx hb dX11_eye_27 rfl (fun c14 => ?_) (fun c14 => ?_)
        · skip
          have tn911_ : nIT j9 := fun _ => nI_toInt (by first | omega | (have t := leI c14; omega))
          have n15 : N ≤ j9 := by have t := leI c14; rw [show (nI (j9)).toInt = ((j9 : Nat) : Int) from tn911_ ()] at t; rw [show (nI (N)).toInt = ((N : Nat) : Int) from tn905_ ()] at t; omega
          refine lv_iload_n hx hb dX11_eye_80 rfl (lv_at hl 1 rfl) ?_
          have hpost : True := by
            trivial
          obtain ⟨hP9, hD9⟩ := va_sub2 (ws' := [(h0, .inr (11, [.ref st, .int (nI N), .int (nI B), .ref rp, .int vrs, .int vrb, .int vhs, .int vca, .int vxs, .int vxb, .ref tp, .int (nI T), .int vfa, .int vbr, .int vba, .int vsp, .int vhe, .int vtk, .int vva, .ref cu, .ref lt, .ref od, .ref th, .ref be, .ref ln, .int (nI S), .ref ma, .int (nI M), .ref ah, .ref bh, .ref ik, .ref la, .ref lg, .ref ce, .int vto])), (st, .inl (G 0, 196, .inl fst)), (ma, .inl (G 0, 12, .inl fma)), (ah, .inl (G 0, 110, .inl u7)), (bh, .inl (G 0, 110, .inl u8))]) hP hD [0, 1, 2, 3, 4] (by decide) rfl
          refine W.widen (k := 0) (n := 0) (Nat.le_of_ble_eq_true rfl) (Nat.le_of_ble_eq_true rfl) ?_
          exact W.iret (v := y10) hx hb hr (fun t ht hW => ⟨⟨y10, (u7, u8), rfl, ⟨hpost, trivial⟩, ⟨by rw [ht]; exact hP9, hD9⟩⟩, hS.F ht⟩) hS.2.2 dX11_eye_81
        · skip
          have tn912_ : nIT j9 := fun _ => nI_toInt (by first | omega | (have t := nleI c14; omega))
          have n16 : j9 < N := by have t := nleI c14; rw [show (nI (j9)).toInt = ((j9 : Nat) : Int) from tn912_ ()] at t; rw [show (nI (N)).toInt = ((N : Nat) : Int) from tn905_ ()] at t; omega
          refine lv_iload_n hx hb dX11_eye_30 rfl (lv_at hl 1 rfl) ?_
          refine lv_aload_n hx hb dX11_eye_31 rfl (lv_at hl 2 rfl) ?_
          refine va_get (D := (dC, dI)) (ci := 11) (v := .ref ah) (C := RX11) (T := TX11) (N := 35) hx hb hg inG11 hown hK.1 hP 0 rfl rfl 28 (Nat.le_of_ble_eq_true rfl) (hg _ wt_906) (fun _ h9 => h9) rfl dX11_eye_32 ?_
          refine lv_bipush (v := 10) hx hb dX11_eye_35 rfl ?_
          refine lv_iload_n hx hb dX11_eye_37 rfl (lv_at hl 0 rfl) ?_
          refine lv_imul hx hb dX11_eye_38 ?_
          refine lv_cg (y := nI (10 * j9)) (by rw [show (10 : Int32) = nI 10 from rfl]; exact pk_mul _ _) ?_
          refine lv_bipush (v := 10) hx hb dX11_eye_39 rfl ?_
          refine lv_iadd hx hb dX11_eye_41 ?_
          refine lv_cg (y := nI ((10 * j9) + 10)) (by rw [show (10 : Int32) = nI 10 from rfl]; exact nI_add _ _) ?_
          refine lv_iload_n hx hb dX11_eye_42 rfl (lv_at hl 3 rfl) ?_
          refine lv_iadd hx hb dX11_eye_43 ?_
          refine lv_cg (y := nI (((10 * j9) + 10) + dd)) (by exact nI_add _ _) ?_
          refine va_iald hx hb hK.1 hP 3 0 rfl rfl (vp_in_nI (by first | omega | (have t_b4 := b4; have t_hdd := hdd; have t_hj13 := hj13; have t_n16 := n16; have t_n0 : (nI N).toInt = (N : Int) := tn905_ (); have t_n1 : (nI B).toInt = (B : Int) := tn906_ (); have t_n2 : (nI T).toInt = (T : Int) := tn907_ (); have t_n3 : (nI S).toInt = (S : Int) := tn908_ (); have t_n4 : (nI M).toInt = (M : Int) := tn909_ (); have t_n5 : (nI dd).toInt = (dd : Int) := tn910_ (); have t_n6 : (nI j9).toInt = (j9 : Int) := tn912_ (); omega)) (by decide)) dX11_eye_44 ?_
          refine lv_cg (y := u7 (((10 * j9) + 10) + dd)) (by rw [nI_clamp (by omega)]) ?_
          have cut72_18 : ∀ (y17 : Int32) (H : Heap) (locs : List Loc), va_P (dC, dI) vwCl [(h0, .inr (11, [.ref st, .int (nI N), .int (nI B), .ref rp, .int vrs, .int vrb, .int vhs, .int vca, .int vxs, .int vxb, .ref tp, .int (nI T), .int vfa, .int vbr, .int vba, .int vsp, .int vhe, .int vtk, .int vva, .ref cu, .ref lt, .ref od, .ref th, .ref be, .ref ln, .int (nI S), .ref ma, .int (nI M), .ref ah, .ref bh, .ref ik, .ref la, .ref lg, .ref ce, .int vto])), (st, .inl (G 0, 196, .inl fst)), (ma, .inl (G 0, 12, .inl fma)), (ah, .inl (G 0, 110, .inl u7)), (bh, .inl (G 0, 110, .inl u8))] H → va_D A [(h0, .inr (11, [.ref st, .int (nI N), .int (nI B), .ref rp, .int vrs, .int vrb, .int vhs, .int vca, .int vxs, .int vxb, .ref tp, .int (nI T), .int vfa, .int vbr, .int vba, .int vsp, .int vhe, .int vtk, .int vva, .ref cu, .ref lt, .ref od, .ref th, .ref be, .ref ln, .int (nI S), .ref ma, .int (nI M), .ref ah, .ref bh, .ref ik, .ref la, .ref lg, .ref ce, .int vto])), (st, .inl (G 0, 196, .inl fst)), (ma, .inl (G 0, 12, .inl fma)), (ah, .inl (G 0, 110, .inl u7)), (bh, .inl (G 0, 110, .inl u8))] → va_S A s.heap H locs → ∀ (ls : Array Slot), lv_has ls 4 [(3, .int (nI j9)), (2, .int y10), (0, .ref h0), (1, .int (nI dd))] → W p l e (headSpec (Cond.code yX11_eye cX11_eye 4 (some .int) :: GT) ({ frames := 6, cells := 0, slots := 0, locals := 146 } : Room)).room s m ([.ref h0, .int (nI dd)] : List Value).toArray below meth c H locs 0 0 (MQ below (va_Qi (fun (r : Int32) (u : (Nat → Int32) × (Nat → Int32)) => match u with | (oah, obh) => (True) ∧ True) (fun (u : (Nat → Int32) × (Nat → Int32)) (t : State) => match u with | (oah, obh) => va_P (dC, dI) vwCl [(h0, .inr (11, [.ref st, .int (nI N), .int (nI B), .ref rp, .int vrs, .int vrb, .int vhs, .int vca, .int vxs, .int vxb, .ref tp, .int (nI T), .int vfa, .int vbr, .int vba, .int vsp, .int vhe, .int vtk, .int vva, .ref cu, .ref lt, .ref od, .ref th, .ref be, .ref ln, .int (nI S), .ref ma, .int (nI M), .ref ah, .ref bh, .ref ik, .ref la, .ref lg, .ref ce, .int vto])), (st, .inl (G 0, 196, .inl fst)), (ma, .inl (G 0, 12, .inl fma)), (ah, .inl (G 0, 110, .inl oah)), (bh, .inl (G 0, 110, .inl obh))] t.heap ∧ va_D A [(h0, .inr (11, [.ref st, .int (nI N), .int (nI B), .ref rp, .int vrs, .int vrb, .int vhs, .int vca, .int vxs, .int vxb, .ref tp, .int (nI T), .int vfa, .int vbr, .int vba, .int vsp, .int vhe, .int vtk, .int vva, .ref cu, .ref lt, .ref od, .ref th, .ref be, .ref ln, .int (nI S), .ref ma, .int (nI M), .ref ah, .ref bh, .ref ik, .ref la, .ref lg, .ref ce, .int vto])), (st, .inl (G 0, 196, .inl fst)), (ma, .inl (G 0, 12, .inl fma)), (ah, .inl (G 0, 110, .inl oah)), (bh, .inl (G 0, 110, .inl obh))]) A) ([.ref h0, .int (nI dd)] : List Value).toArray s 0 0 A) (F0 m 72 ls [.int y17, .int y10]) := by
            intro y17 H locs hP hD hS ls hl
            refine lv_ior hx hb dX11_eye_72 ?_
            refine lv_istore_n (lv' := [(2, .int (y10 ||| y17)), (3, .int (nI j9)), (0, .ref h0), (1, .int (nI dd))]) hx hb dX11_eye_73 rfl hl (by decide) rfl (fun ls hl => ?_)
            refine lv_iinc (v := nI (j9 + 1)) (lv' := [(3, .int (nI (j9 + 1))), (2, .int (y10 ||| y17)), (0, .ref h0), (1, .int (nI dd))]) hx hb dX11_eye_74 hl (k := 1) rfl (by rw [show Int32.ofInt 1 = nI 1 from by decide]; exact nI_add _ _) (by decide) rfl (fun ls hl => ?_)
            refine lv_goto (tgt := 22) hx hb dX11_eye_77 rfl ?_
            exact ih22_11 (j9 + 1) (by omega) (by omega) (y10 ||| y17) _ _ hP hD hS ls (lv_sub hl [0, 1, 2, 3] rfl)
          have cut71_19 : ∀ (H : Heap) (locs : List Loc), va_P (dC, dI) vwCl [(h0, .inr (11, [.ref st, .int (nI N), .int (nI B), .ref rp, .int vrs, .int vrb, .int vhs, .int vca, .int vxs, .int vxb, .ref tp, .int (nI T), .int vfa, .int vbr, .int vba, .int vsp, .int vhe, .int vtk, .int vva, .ref cu, .ref lt, .ref od, .ref th, .ref be, .ref ln, .int (nI S), .ref ma, .int (nI M), .ref ah, .ref bh, .ref ik, .ref la, .ref lg, .ref ce, .int vto])), (st, .inl (G 0, 196, .inl fst)), (ma, .inl (G 0, 12, .inl fma)), (ah, .inl (G 0, 110, .inl u7)), (bh, .inl (G 0, 110, .inl u8))] H → va_D A [(h0, .inr (11, [.ref st, .int (nI N), .int (nI B), .ref rp, .int vrs, .int vrb, .int vhs, .int vca, .int vxs, .int vxb, .ref tp, .int (nI T), .int vfa, .int vbr, .int vba, .int vsp, .int vhe, .int vtk, .int vva, .ref cu, .ref lt, .ref od, .ref th, .ref be, .ref ln, .int (nI S), .ref ma, .int (nI M), .ref ah, .ref bh, .ref ik, .ref la, .ref lg, .ref ce, .int vto])), (st, .inl (G 0, 196, .inl fst)), (ma, .inl (G 0, 12, .inl fma)), (ah, .inl (G 0, 110, .inl u7)), (bh, .inl (G 0, 110, .inl u8))] → va_S A s.heap H locs → ∀ (ls : Array Slot), lv_has ls 4 [(3, .int (nI j9)), (2, .int y10), (0, .ref h0), (1, .int (nI dd))] → W p l e (headSpec (Cond.code yX11_eye cX11_eye 4 (some .int) :: GT) ({ frames := 6, cells := 0, slots := 0, locals := 146 } : Room)).room s m ([.ref h0, .int (nI dd)] : List Value).toArray below meth c H locs 0 0 (MQ below (va_Qi (fun (r : Int32) (u : (Nat → Int32) × (Nat → Int32)) => match u with | (oah, obh) => (True) ∧ True) (fun (u : (Nat → Int32) × (Nat → Int32)) (t : State) => match u with | (oah, obh) => va_P (dC, dI) vwCl [(h0, .inr (11, [.ref st, .int (nI N), .int (nI B), .ref rp, .int vrs, .int vrb, .int vhs, .int vca, .int vxs, .int vxb, .ref tp, .int (nI T), .int vfa, .int vbr, .int vba, .int vsp, .int vhe, .int vtk, .int vva, .ref cu, .ref lt, .ref od, .ref th, .ref be, .ref ln, .int (nI S), .ref ma, .int (nI M), .ref ah, .ref bh, .ref ik, .ref la, .ref lg, .ref ce, .int vto])), (st, .inl (G 0, 196, .inl fst)), (ma, .inl (G 0, 12, .inl fma)), (ah, .inl (G 0, 110, .inl oah)), (bh, .inl (G 0, 110, .inl obh))] t.heap ∧ va_D A [(h0, .inr (11, [.ref st, .int (nI N), .int (nI B), .ref rp, .int vrs, .int vrb, .int vhs, .int vca, .int vxs, .int vxb, .ref tp, .int (nI T), .int vfa, .int vbr, .int vba, .int vsp, .int vhe, .int vtk, .int vva, .ref cu, .ref lt, .ref od, .ref th, .ref be, .ref ln, .int (nI S), .ref ma, .int (nI M), .ref ah, .ref bh, .ref ik, .ref la, .ref lg, .ref ce, .int vto])), (st, .inl (G 0, 196, .inl fst)), (ma, .inl (G 0, 12, .inl fma)), (ah, .inl (G 0, 110, .inl oah)), (bh, .inl (G 0, 110, .inl obh))]) A) ([.ref h0, .int (nI dd)] : List Value).toArray s 0 0 A) (F0 m 71 ls [.int y10]) := by
            intro  H locs hP hD hS ls hl
            refine lv_iconst (v := 0) hx hb dX11_eye_71 rfl ?_
            exact cut72_18 0 _ _ hP hD hS ls (lv_sub hl [0, 1, 2, 3] rfl)
          refine lv_if_le (tgt := 71) hx hb dX11_eye_45 rfl (fun c20 => ?_) (fun c20 => ?_)
          · skip
            exact cut71_19  _ _ hP hD hS ls (lv_sub hl [0, 1, 2, 3] rfl)
          · skip
            refine lv_aload_n hx hb dX11_eye_48 rfl (lv_at hl 2 rfl) ?_
            refine va_get (D := (dC, dI)) (ci := 11) (v := .ref bh) (C := RX11) (T := TX11) (N := 35) hx hb hg inG11 hown hK.1 hP 0 rfl rfl 29 (Nat.le_of_ble_eq_true rfl) (hg _ wt_907) (fun _ h9 => h9) rfl dX11_eye_49 ?_
            refine lv_bipush (v := 10) hx hb dX11_eye_52 rfl ?_
            refine lv_iload_n hx hb dX11_eye_54 rfl (lv_at hl 0 rfl) ?_
            refine lv_imul hx hb dX11_eye_55 ?_
            refine lv_cg (y := nI (10 * j9)) (by rw [show (10 : Int32) = nI 10 from rfl]; exact pk_mul _ _) ?_
            refine lv_bipush (v := 10) hx hb dX11_eye_56 rfl ?_
            refine lv_iadd hx hb dX11_eye_58 ?_
            refine lv_cg (y := nI ((10 * j9) + 10)) (by rw [show (10 : Int32) = nI 10 from rfl]; exact nI_add _ _) ?_
            refine lv_iload_n hx hb dX11_eye_59 rfl (lv_at hl 3 rfl) ?_
            refine lv_iadd hx hb dX11_eye_60 ?_
            refine lv_cg (y := nI (((10 * j9) + 10) + dd)) (by exact nI_add _ _) ?_
            refine va_iald hx hb hK.1 hP 4 0 rfl rfl (vp_in_nI (by first | omega | (have t_b4 := b4; have t_hdd := hdd; have t_hj13 := hj13; have t_n16 := n16; have t_c20 := nleI c20; have : (0 : Int32).toInt = 0 := qI_0; have t_n0 : (nI N).toInt = (N : Int) := tn905_ (); have t_n1 : (nI B).toInt = (B : Int) := tn906_ (); have t_n2 : (nI T).toInt = (T : Int) := tn907_ (); have t_n3 : (nI S).toInt = (S : Int) := tn908_ (); have t_n4 : (nI M).toInt = (M : Int) := tn909_ (); have t_n5 : (nI dd).toInt = (dd : Int) := tn910_ (); have t_n6 : (nI j9).toInt = (j9 : Int) := tn912_ (); omega)) (by decide)) dX11_eye_61 ?_
            refine lv_cg (y := u8 (((10 * j9) + 10) + dd)) (by rw [nI_clamp (by omega)]) ?_
            refine lv_if_le (tgt := 71) hx hb dX11_eye_62 rfl (fun c21 => ?_) (fun c21 => ?_)
            · skip
              exact cut71_19  _ _ hP hD hS ls (lv_sub hl [0, 1, 2, 3] rfl)
            · skip
              refine lv_iconst (v := 1) hx hb dX11_eye_65 rfl ?_
              refine lv_iload_n hx hb dX11_eye_66 rfl (lv_at hl 0 rfl) ?_
              refine lv_ishl hx hb dX11_eye_67 ?_
              refine lv_goto (tgt := 72) hx hb dX11_eye_68 rfl ?_
              exact cut72_18 (1 <<< ((nI j9) &&& 31)) _ _ hP hD hS ls (lv_sub hl [0, 1, 2, 3] rfl)
    exact loop22_11 (N + 1) 0 (by omega) (by omega) 0 _ _ hP hD hS ls (lv_sub hl [0, 1, 2, 3] rfl)
  · skip
    have b22 := if10_n c3
    refine lv_iconst (v := (-1)) hx hb dX11_eye_12 rfl ?_
    have hpost : True := by
      trivial
    obtain ⟨hP9, hD9⟩ := va_sub2 (ws' := [(h0, .inr (11, [.ref st, .int (nI N), .int (nI B), .ref rp, .int vrs, .int vrb, .int vhs, .int vca, .int vxs, .int vxb, .ref tp, .int (nI T), .int vfa, .int vbr, .int vba, .int vsp, .int vhe, .int vtk, .int vva, .ref cu, .ref lt, .ref od, .ref th, .ref be, .ref ln, .int (nI S), .ref ma, .int (nI M), .ref ah, .ref bh, .ref ik, .ref la, .ref lg, .ref ce, .int vto])), (st, .inl (G 0, 196, .inl fst)), (ma, .inl (G 0, 12, .inl fma)), (ah, .inl (G 0, 110, .inl fah)), (bh, .inl (G 0, 110, .inl fbh))]) hP hD [0, 1, 2, 3, 4] (by decide) rfl
    refine W.widen (k := 0) (n := 0) (Nat.le_of_ble_eq_true rfl) (Nat.le_of_ble_eq_true rfl) ?_
    exact W.iret (v := (-1)) hx hb hr (fun t ht hW => ⟨⟨(-1), (fah, fbh), rfl, ⟨hpost, trivial⟩, ⟨by rw [ht]; exact hP9, hD9⟩⟩, hS.F ht⟩) hS.2.2 dX11_eye_13

set_option maxHeartbeats 1000000 in
set_option maxRecDepth 100000 in
theorem c_X11_sure (l : Launch) (dC : Nat → ClassId) (dI : Nat → Nat → Nat) (G : Nat → ClassId) (sz : Nat) (h0 st N B rp tp T cu lt od th be ln S ma M ah bh ik la lg ce : Nat) (what vrs vrb vhs vca vxs vxb vfa vbr vba vsp vhe vtk vva vto : Int32) (fst : Nat → Int32) (fma : Nat → Int32) (fah : Nat → Int32) (fbh : Nat → Int32) (hN : N ≤ 10) (hB : B ≤ 6) (hT : T ≤ 320) (hS0 : S ≤ 8) (hM : M ≤ 6) (hst : OKS fst) : Met l yX11_sure (Cond.code yX11_sure cX11_sure 7 (some .int) :: GT) ({ frames := 6, cells := 0, slots := 0, locals := 146 } : Room) (PcW [.ref h0, .int what] dC dI G [(h0, .inr (11, [.ref st, .int (nI N), .int (nI B), .ref rp, .int vrs, .int vrb, .int vhs, .int vca, .int vxs, .int vxb, .ref tp, .int (nI T), .int vfa, .int vbr, .int vba, .int vsp, .int vhe, .int vtk, .int vva, .ref cu, .ref lt, .ref od, .ref th, .ref be, .ref ln, .int (nI S), .ref ma, .int (nI M), .ref ah, .ref bh, .ref ik, .ref la, .ref lg, .ref ce, .int vto])), (st, .inl (G 0, 196, .inl fst)), (ma, .inl (G 0, 12, .inl fma)), (ah, .inl (G 0, 110, .inl fah)), (bh, .inl (G 0, 110, .inl fbh))] sz) (va_Qi (fun (r : Int32) (u : (Nat → Int32) × (Nat → Int32)) => match u with | (oah, obh) => (True) ∧ True) (fun (u : (Nat → Int32) × (Nat → Int32)) (t : State) => match u with | (oah, obh) => va_P (dC, dI) vwCl [(h0, .inr (11, [.ref st, .int (nI N), .int (nI B), .ref rp, .int vrs, .int vrb, .int vhs, .int vca, .int vxs, .int vxb, .ref tp, .int (nI T), .int vfa, .int vbr, .int vba, .int vsp, .int vhe, .int vtk, .int vva, .ref cu, .ref lt, .ref od, .ref th, .ref be, .ref ln, .int (nI S), .ref ma, .int (nI M), .ref ah, .ref bh, .ref ik, .ref la, .ref lg, .ref ce, .int vto])), (st, .inl (G 0, 196, .inl fst)), (ma, .inl (G 0, 12, .inl fma)), (ah, .inl (G 0, 110, .inl oah)), (bh, .inl (G 0, 110, .inl obh))] t.heap ∧ va_D (va_A [(h0, .inr (11, [.ref st, .int (nI N), .int (nI B), .ref rp, .int vrs, .int vrb, .int vhs, .int vca, .int vxs, .int vxb, .ref tp, .int (nI T), .int vfa, .int vbr, .int vba, .int vsp, .int vhe, .int vtk, .int vva, .ref cu, .ref lt, .ref od, .ref th, .ref be, .ref ln, .int (nI S), .ref ma, .int (nI M), .ref ah, .ref bh, .ref ik, .ref la, .ref lg, .ref ce, .int vto])), (st, .inl (G 0, 196, .inl fst)), (ma, .inl (G 0, 12, .inl fma)), (ah, .inl (G 0, 110, .inl fah)), (bh, .inl (G 0, 110, .inl fbh))] sz) [(h0, .inr (11, [.ref st, .int (nI N), .int (nI B), .ref rp, .int vrs, .int vrb, .int vhs, .int vca, .int vxs, .int vxb, .ref tp, .int (nI T), .int vfa, .int vbr, .int vba, .int vsp, .int vhe, .int vtk, .int vva, .ref cu, .ref lt, .ref od, .ref th, .ref be, .ref ln, .int (nI S), .ref ma, .int (nI M), .ref ah, .ref bh, .ref ik, .ref la, .ref lg, .ref ce, .int vto])), (st, .inl (G 0, 196, .inl fst)), (ma, .inl (G 0, 12, .inl fma)), (ah, .inl (G 0, 110, .inl oah)), (bh, .inl (G 0, 110, .inl obh))]) (va_A [(h0, .inr (11, [.ref st, .int (nI N), .int (nI B), .ref rp, .int vrs, .int vrb, .int vhs, .int vca, .int vxs, .int vxb, .ref tp, .int (nI T), .int vfa, .int vbr, .int vba, .int vsp, .int vhe, .int vtk, .int vva, .ref cu, .ref lt, .ref od, .ref th, .ref be, .ref ln, .int (nI S), .ref ma, .int (nI M), .ref ah, .ref bh, .ref ik, .ref la, .ref lg, .ref ce, .int vto])), (st, .inl (G 0, 196, .inl fst)), (ma, .inl (G 0, 12, .inl fma)), (ah, .inl (G 0, 110, .inl fah)), (bh, .inl (G 0, 110, .inl fbh))] sz)) 0 0 (va_A [(h0, .inr (11, [.ref st, .int (nI N), .int (nI B), .ref rp, .int vrs, .int vrb, .int vhs, .int vca, .int vxs, .int vxb, .ref tp, .int (nI T), .int vfa, .int vbr, .int vba, .int vsp, .int vhe, .int vtk, .int vva, .ref cu, .ref lt, .ref od, .ref th, .ref be, .ref ln, .int (nI S), .ref ma, .int (nI M), .ref ah, .ref bh, .ref ik, .ref la, .ref lg, .ref ce, .int vto])), (st, .inl (G 0, 196, .inl fst)), (ma, .inl (G 0, 12, .inl fma)), (ah, .inl (G 0, 110, .inl fah)), (bh, .inl (G 0, 110, .inl fbh))] sz) := by
  have hB_ := hB
  have hM_ := hM
  have hT_ := hT
  have tn913_ : nIT N := fun _ => nI_toInt (by omega)
  have tn914_ : nIT B := fun _ => nI_toInt (by omega)
  have tn915_ : nIT T := fun _ => nI_toInt (by omega)
  have tn916_ : nIT S := fun _ => nI_toInt (by omega)
  have tn917_ : nIT M := fun _ => nI_toInt (by omega)
  refine Met.ofW (cc := cX11_sure) (maxL := 7) (ret := (some .int)) (by decide) rfl ?_
  intro p e s m args below meth c s₁ Bd hml hv
  obtain ⟨rfl, hsz, hP, hK, hD0⟩ := hv
  have hx := Bd.exec
  have hb := Bd.bytes
  have hr := Bd.returns
  have hg : ∀ w ∈ GT, w.before ([.ref h0, .int what] : List Value).toArray s = true := fun w h => atoms_spec (ws := Cond.code yX11_sure cX11_sure 7 (some .int) :: GT) Bd.pre w (List.mem_cons_of_mem _ h)
  have hown : s.vm.findClass RX11 = some m.cls := findClass_of_methodNamed Bd.named
  have hlocks := Bd.notSynchronized
  subst hsz
  have hD := hD0.self (sz := s.heap.size)
  generalize hAe : va_A [(h0, .inr (11, [.ref st, .int (nI N), .int (nI B), .ref rp, .int vrs, .int vrb, .int vhs, .int vca, .int vxs, .int vxb, .ref tp, .int (nI T), .int vfa, .int vbr, .int vba, .int vsp, .int vhe, .int vtk, .int vva, .ref cu, .ref lt, .ref od, .ref th, .ref be, .ref ln, .int (nI S), .ref ma, .int (nI M), .ref ah, .ref bh, .ref ik, .ref la, .ref lg, .ref ce, .int vto])), (st, .inl (G 0, 196, .inl fst)), (ma, .inl (G 0, 12, .inl fma)), (ah, .inl (G 0, 110, .inl fah)), (bh, .inl (G 0, 110, .inl fbh))] s.heap.size = A at hD ⊢
  have hA : ∀ q : Nat, s.heap.size ≤ q → A q := fun q h => by rw [← hAe]; exact Or.inr h
  have hS : va_S A s.heap s.heap [] := va_S.rf
  have hl := lv_entry ([.ref h0, .int what]) (n := 7) (Nat.le_of_ble_eq_true rfl)
  rw [lg_entry_eq]
  generalize (lg_sl ([.ref h0, .int what]) ++ List.replicate (7 - (lg_sl ([.ref h0, .int what])).length) Slot.unset).toArray = ls at hl ⊢
  have hl : lv_has ls 7 [(0, .ref h0), (1, .int what)] := hl
  refine lv_iload_n hx hb dX11_sure_0 rfl (lv_at hl 1 rfl) ?_
  refine lv_i2l (v := what.toInt64) hx hb dX11_sure_1 rfl ?_
  refine lv_lconst (v := 0) hx hb dX11_sure_2 (by decide) ?_
  refine lv_lconst (v := 1) hx hb dX11_sure_3 (by decide) ?_
  have hPc := hP.sub (ws' := []) [] rfl
  refine va_calli (va_runS (As := [.long what.toInt64, .long 0, .long 1]) (rest := []) ⟨hx, hb, hml, hown, hg⟩ (c_X11_in l dC dI G _ what.toInt64 0 1) (kwS hg mfX11_in wt_992 ⟨Nat.le_of_ble_eq_true rfl, Nat.le_of_ble_eq_true rfl⟩) (preSR hK hPc) rfl rfl hl.1 rfl (lv_room (Nat.le_of_ble_eq_true rfl)) dX11_sure_4 ⟨Nat.le_of_ble_eq_true rfl, Nat.le_of_ble_eq_true rfl⟩) hS (fun q h1 h2 => absurd h2 (Nat.not_le.mpr h1)) (fun q h => hA q (Nat.le_trans hS.1 h)) (fun r1 ur1 t H1 locs ht hvm w2 hB hz1 hk1 hS => ?_)
  have hP := keepR hP hk1
  obtain ⟨w2, w2x⟩ := w2
  try simp only [l_ii, show (0 : Int64).toInt = 0 from by decide, show (1 : Int64).toInt = 1 from by decide] at w2
  subst w2
  refine lv_if_ne (tgt := 12) hx hb dX11_sure_7 rfl (fun c3 => ?_) (fun c3 => ?_)
  · skip
    have b4 := if10_p c3
    refine lv_aload_n hx hb dX11_sure_12 rfl (lv_at hl 0 rfl) ?_
    obtain ⟨hPc, hDc, hFc⟩ := va_sub3 (ws' := [(h0, .inr (11, [.ref st, .int (nI N), .int (nI B), .ref rp, .int vrs, .int vrb, .int vhs, .int vca, .int vxs, .int vxb, .ref tp, .int (nI T), .int vfa, .int vbr, .int vba, .int vsp, .int vhe, .int vtk, .int vva, .ref cu, .ref lt, .ref od, .ref th, .ref be, .ref ln, .int (nI S), .ref ma, .int (nI M), .ref ah, .ref bh, .ref ik, .ref la, .ref lg, .ref ce, .int vto])), (st, .inl (G 0, 196, .inl fst)), (ma, .inl (G 0, 12, .inl fma)), (ah, .inl (G 0, 110, .inl fah)), (bh, .inl (G 0, 110, .inl fbh))]) hP hD hS hA [0, 1, 2, 3, 4] (by decide) rfl
    refine va_callv (va_runV (As := []) (rest := []) ⟨hx, hb, hml, hown, hg⟩ (c_X11_layPaths l dC dI G _ h0 st N B rp tp T cu lt od th be ln S ma M ah bh ik la lg ce vrs vrb vhs vca vxs vxb vfa vbr vba vsp vhe vtk vva vto fst fma fah fbh hN hB_ hT_ hS0 hM_ hst) (kwV hg mfX11_layPaths wt_1220 ⟨Nat.le_of_ble_eq_true rfl, Nat.le_of_ble_eq_true rfl⟩) (preVW hK hPc hDc (ci := 11) rfl rfl) rfl rfl hl.1 rfl (lv_room (Nat.le_of_ble_eq_true rfl)) dX11_sure_13 ⟨Nat.le_of_ble_eq_true rfl, Nat.le_of_ble_eq_true rfl⟩) hS (fun q _ h => hFc q h) hFc (fun ur5 t H1 locs ht hvm w6 hB hz1 hk1 hS => ?_)
    obtain ⟨u7, u8⟩ := ur5
    obtain ⟨hP1, hD1⟩ := hB
    rw [ht] at hP1
    obtain ⟨hP, hD⟩ := va_join (wr := []) (w1 := [(h0, .inr (11, [.ref st, .int (nI N), .int (nI B), .ref rp, .int vrs, .int vrb, .int vhs, .int vca, .int vxs, .int vxb, .ref tp, .int (nI T), .int vfa, .int vbr, .int vba, .int vsp, .int vhe, .int vtk, .int vva, .ref cu, .ref lt, .ref od, .ref th, .ref be, .ref ln, .int (nI S), .ref ma, .int (nI M), .ref ah, .ref bh, .ref ik, .ref la, .ref lg, .ref ce, .int vto])), (st, .inl (G 0, 196, .inl fst)), (ma, .inl (G 0, 12, .inl fma)), (ah, .inl (G 0, 110, .inl u7)), (bh, .inl (G 0, 110, .inl u8))]) hP hD [0, 1, 2, 3, 4] [] rfl rfl (by decide) (by decide) hk1 hFc hP1 hD1
    generalize H1 = H at hP hS ⊢
    refine lv_aload_n hx hb dX11_sure_16 rfl (lv_at hl 0 rfl) ?_
    refine va_get (D := (dC, dI)) (ci := 11) (v := .ref bh) (C := RX11) (T := TX11) (N := 35) hx hb hg inG11 hown hK.1 hP 0 rfl rfl 29 (Nat.le_of_ble_eq_true rfl) (hg _ wt_907) (fun _ h9 => h9) rfl dX11_sure_17 ?_
    refine lv_aload_n hx hb dX11_sure_20 rfl (lv_at hl 0 rfl) ?_
    have hPc := hP.sub (ws' := [(h0, .inr (11, [.ref st, .int (nI N), .int (nI B), .ref rp, .int vrs, .int vrb, .int vhs, .int vca, .int vxs, .int vxb, .ref tp, .int (nI T), .int vfa, .int vbr, .int vba, .int vsp, .int vhe, .int vtk, .int vva, .ref cu, .ref lt, .ref od, .ref th, .ref be, .ref ln, .int (nI S), .ref ma, .int (nI M), .ref ah, .ref bh, .ref ik, .ref la, .ref lg, .ref ce, .int vto])), (st, .inl (G 0, 196, .inl fst))]) [0, 1] rfl
    refine va_calli (va_runV (As := []) (rest := [.ref bh]) ⟨hx, hb, hml, hown, hg⟩ (c_X11_startNow l dC dI G _ h0 st N B rp tp T cu lt od th be ln S ma M ah bh ik la lg ce vrs vrb vhs vca vxs vxb vfa vbr vba vsp vhe vtk vva vto fst hN hB_ hT_ hS0 hM_ hst) (kwV hg mfX11_startNow wt_1044 ⟨Nat.le_of_ble_eq_true rfl, Nat.le_of_ble_eq_true rfl⟩) (preVR hK hPc (ci := 11) rfl rfl) rfl rfl hl.1 rfl (lv_room (Nat.le_of_ble_eq_true rfl)) dX11_sure_21 ⟨Nat.le_of_ble_eq_true rfl, Nat.le_of_ble_eq_true rfl⟩) hS (fun q h1 h2 => absurd h2 (Nat.not_le.mpr h1)) (fun q h => hA q (Nat.le_trans hS.1 h)) (fun r9 ur9 t H1 locs ht hvm w10 hB hz1 hk1 hS => ?_)
    have hP := keepR hP hk1
    obtain ⟨w10, w10x⟩ := w10
    obtain ⟨k11, w10, w10a, w10b⟩ := w10
    subst w10
    have tn918_ : nIT k11 := fun _ => nI_toInt (by first | omega | (have t_b4 := b4; have t_w10a := w10a; have t_w10b := w10b; omega))
    refine va_iald hx hb hK.1 hP 4 0 rfl rfl (vp_in_nI (by first | omega | (have t_b4 := b4; have t_w10a := w10a; have t_w10b := w10b; have t_n0 : (nI N).toInt = (N : Int) := tn913_ (); have t_n1 : (nI B).toInt = (B : Int) := tn914_ (); have t_n2 : (nI T).toInt = (T : Int) := tn915_ (); have t_n3 : (nI S).toInt = (S : Int) := tn916_ (); have t_n4 : (nI M).toInt = (M : Int) := tn917_ (); have t_n5 : (nI k11).toInt = (k11 : Int) := tn918_ (); omega)) (by decide)) dX11_sure_24 ?_
    refine lv_cg (y := u8 k11) (by rw [nI_clamp (by omega)]) ?_
    refine lv_istore_n (lv' := [(2, .int (u8 k11)), (0, .ref h0), (1, .int what)]) hx hb dX11_sure_25 rfl hl (by decide) rfl (fun ls hl => ?_)
    refine lv_iload_n hx hb dX11_sure_26 rfl (lv_at hl 0 rfl) ?_
    refine lv_if_ne (tgt := 33) hx hb dX11_sure_27 rfl (fun c12 => ?_) (fun c12 => ?_)
    · skip
      refine lv_iconst (v := 0) hx hb dX11_sure_33 rfl ?_
      refine lv_istore_n (lv' := [(3, .int 0), (2, .int (u8 k11)), (0, .ref h0), (1, .int what)]) hx hb dX11_sure_34 rfl hl (by decide) rfl (fun ls hl => ?_)
      refine lv_iconst (v := 0) hx hb dX11_sure_35 rfl ?_
      refine lv_istore (lv' := [(4, .int 0), (3, .int 0), (2, .int (u8 k11)), (0, .ref h0), (1, .int what)]) hx hb dX11_sure_36 hl (by decide) rfl (fun ls hl => ?_)
      have loop38_15 : ∀ (nf j13 : Nat), N + 1 ≤ j13 + nf → j13 ≤ N → ∀ (y14 : Int32) (H : Heap) (locs : List Loc), va_P (dC, dI) vwCl [(h0, .inr (11, [.ref st, .int (nI N), .int (nI B), .ref rp, .int vrs, .int vrb, .int vhs, .int vca, .int vxs, .int vxb, .ref tp, .int (nI T), .int vfa, .int vbr, .int vba, .int vsp, .int vhe, .int vtk, .int vva, .ref cu, .ref lt, .ref od, .ref th, .ref be, .ref ln, .int (nI S), .ref ma, .int (nI M), .ref ah, .ref bh, .ref ik, .ref la, .ref lg, .ref ce, .int vto])), (st, .inl (G 0, 196, .inl fst)), (ma, .inl (G 0, 12, .inl fma)), (ah, .inl (G 0, 110, .inl u7)), (bh, .inl (G 0, 110, .inl u8))] H → va_D A [(h0, .inr (11, [.ref st, .int (nI N), .int (nI B), .ref rp, .int vrs, .int vrb, .int vhs, .int vca, .int vxs, .int vxb, .ref tp, .int (nI T), .int vfa, .int vbr, .int vba, .int vsp, .int vhe, .int vtk, .int vva, .ref cu, .ref lt, .ref od, .ref th, .ref be, .ref ln, .int (nI S), .ref ma, .int (nI M), .ref ah, .ref bh, .ref ik, .ref la, .ref lg, .ref ce, .int vto])), (st, .inl (G 0, 196, .inl fst)), (ma, .inl (G 0, 12, .inl fma)), (ah, .inl (G 0, 110, .inl u7)), (bh, .inl (G 0, 110, .inl u8))] → va_S A s.heap H locs → ∀ (ls : Array Slot), lv_has ls 7 [(4, .int (nI j13)), (3, .int y14), (2, .int (u8 k11)), (0, .ref h0), (1, .int what)] → W p l e (headSpec (Cond.code yX11_sure cX11_sure 7 (some .int) :: GT) ({ frames := 6, cells := 0, slots := 0, locals := 146 } : Room)).room s m ([.ref h0, .int what] : List Value).toArray below meth c H locs 0 0 (MQ below (va_Qi (fun (r : Int32) (u : (Nat → Int32) × (Nat → Int32)) => match u with | (oah, obh) => (True) ∧ True) (fun (u : (Nat → Int32) × (Nat → Int32)) (t : State) => match u with | (oah, obh) => va_P (dC, dI) vwCl [(h0, .inr (11, [.ref st, .int (nI N), .int (nI B), .ref rp, .int vrs, .int vrb, .int vhs, .int vca, .int vxs, .int vxb, .ref tp, .int (nI T), .int vfa, .int vbr, .int vba, .int vsp, .int vhe, .int vtk, .int vva, .ref cu, .ref lt, .ref od, .ref th, .ref be, .ref ln, .int (nI S), .ref ma, .int (nI M), .ref ah, .ref bh, .ref ik, .ref la, .ref lg, .ref ce, .int vto])), (st, .inl (G 0, 196, .inl fst)), (ma, .inl (G 0, 12, .inl fma)), (ah, .inl (G 0, 110, .inl oah)), (bh, .inl (G 0, 110, .inl obh))] t.heap ∧ va_D A [(h0, .inr (11, [.ref st, .int (nI N), .int (nI B), .ref rp, .int vrs, .int vrb, .int vhs, .int vca, .int vxs, .int vxb, .ref tp, .int (nI T), .int vfa, .int vbr, .int vba, .int vsp, .int vhe, .int vtk, .int vva, .ref cu, .ref lt, .ref od, .ref th, .ref be, .ref ln, .int (nI S), .ref ma, .int (nI M), .ref ah, .ref bh, .ref ik, .ref la, .ref lg, .ref ce, .int vto])), (st, .inl (G 0, 196, .inl fst)), (ma, .inl (G 0, 12, .inl fma)), (ah, .inl (G 0, 110, .inl oah)), (bh, .inl (G 0, 110, .inl obh))]) A) ([.ref h0, .int what] : List Value).toArray s 0 0 A) (F0 m 38 ls []) := by
        intro nf
        induction nf with
        | zero => intro j13 h1 h2; exact absurd h1 (by omega)
        | succ nf ih38_15 =>
          intro j13 hn16 hj17 y14 H locs hP hD hS ls hl
          refine lv_iload hx hb dX11_sure_38 (lv_at hl 0 rfl) ?_
          refine lv_aload_n hx hb dX11_sure_40 rfl (lv_at hl 3 rfl) ?_
          refine va_get (D := (dC, dI)) (ci := 11) (v := .int (nI N)) (C := RX11) (T := TX11) (N := 35) hx hb hg inG11 hown hK.1 hP 0 rfl rfl 1 (Nat.le_of_ble_eq_true rfl) (hg _ wt_879) (fun _ h9 => h9) rfl dX11_sure_41 ?_
          refine lv_icmp_ge (tgt := 125) hx hb dX11_sure_44 rfl (fun c18 => ?_) (fun c18 => ?_)
          · skip
            have tn919_ : nIT j13 := fun _ => nI_toInt (by first | omega | (have t := leI c18; omega))
            have n19 : N ≤ j13 := by have t := leI c18; rw [show (nI (j13)).toInt = ((j13 : Nat) : Int) from tn919_ ()] at t; rw [show (nI (N)).toInt = ((N : Nat) : Int) from tn913_ ()] at t; omega
            refine lv_iload_n hx hb dX11_sure_125 rfl (lv_at hl 1 rfl) ?_
            have hpost : True := by
              trivial
            obtain ⟨hP9, hD9⟩ := va_sub2 (ws' := [(h0, .inr (11, [.ref st, .int (nI N), .int (nI B), .ref rp, .int vrs, .int vrb, .int vhs, .int vca, .int vxs, .int vxb, .ref tp, .int (nI T), .int vfa, .int vbr, .int vba, .int vsp, .int vhe, .int vtk, .int vva, .ref cu, .ref lt, .ref od, .ref th, .ref be, .ref ln, .int (nI S), .ref ma, .int (nI M), .ref ah, .ref bh, .ref ik, .ref la, .ref lg, .ref ce, .int vto])), (st, .inl (G 0, 196, .inl fst)), (ma, .inl (G 0, 12, .inl fma)), (ah, .inl (G 0, 110, .inl u7)), (bh, .inl (G 0, 110, .inl u8))]) hP hD [0, 1, 2, 3, 4] (by decide) rfl
            refine W.widen (k := 0) (n := 0) (Nat.le_of_ble_eq_true rfl) (Nat.le_of_ble_eq_true rfl) ?_
            exact W.iret (v := y14) hx hb hr (fun t ht hW => ⟨⟨y14, (u7, u8), rfl, ⟨hpost, trivial⟩, ⟨by rw [ht]; exact hP9, hD9⟩⟩, hS.F ht⟩) hS.2.2 dX11_sure_126
          · skip
            have tn920_ : nIT j13 := fun _ => nI_toInt (by first | omega | (have t := nleI c18; omega))
            have n20 : j13 < N := by have t := nleI c18; rw [show (nI (j13)).toInt = ((j13 : Nat) : Int) from tn920_ ()] at t; rw [show (nI (N)).toInt = ((N : Nat) : Int) from tn913_ ()] at t; omega
            refine lv_iconst (v := 0) hx hb dX11_sure_47 rfl ?_
            refine lv_istore (lv' := [(5, .int 0), (4, .int (nI j13)), (3, .int y14), (2, .int (u8 k11)), (0, .ref h0), (1, .int what)]) hx hb dX11_sure_48 hl (by decide) rfl (fun ls hl => ?_)
            refine lv_iconst (v := 0) hx hb dX11_sure_50 rfl ?_
            refine lv_istore (lv' := [(6, .int 0), (5, .int 0), (4, .int (nI j13)), (3, .int y14), (2, .int (u8 k11)), (0, .ref h0), (1, .int what)]) hx hb dX11_sure_51 hl (by decide) rfl (fun ls hl => ?_)
            have loop53_23 : ∀ (nf j21 : Nat), 10 + 1 ≤ j21 + nf → j21 ≤ 10 → ∀ (y22 : Int32) (H : Heap) (locs : List Loc), va_P (dC, dI) vwCl [(h0, .inr (11, [.ref st, .int (nI N), .int (nI B), .ref rp, .int vrs, .int vrb, .int vhs, .int vca, .int vxs, .int vxb, .ref tp, .int (nI T), .int vfa, .int vbr, .int vba, .int vsp, .int vhe, .int vtk, .int vva, .ref cu, .ref lt, .ref od, .ref th, .ref be, .ref ln, .int (nI S), .ref ma, .int (nI M), .ref ah, .ref bh, .ref ik, .ref la, .ref lg, .ref ce, .int vto])), (st, .inl (G 0, 196, .inl fst)), (ma, .inl (G 0, 12, .inl fma)), (ah, .inl (G 0, 110, .inl u7)), (bh, .inl (G 0, 110, .inl u8))] H → va_D A [(h0, .inr (11, [.ref st, .int (nI N), .int (nI B), .ref rp, .int vrs, .int vrb, .int vhs, .int vca, .int vxs, .int vxb, .ref tp, .int (nI T), .int vfa, .int vbr, .int vba, .int vsp, .int vhe, .int vtk, .int vva, .ref cu, .ref lt, .ref od, .ref th, .ref be, .ref ln, .int (nI S), .ref ma, .int (nI M), .ref ah, .ref bh, .ref ik, .ref la, .ref lg, .ref ce, .int vto])), (st, .inl (G 0, 196, .inl fst)), (ma, .inl (G 0, 12, .inl fma)), (ah, .inl (G 0, 110, .inl u7)), (bh, .inl (G 0, 110, .inl u8))] → va_S A s.heap H locs → ∀ (ls : Array Slot), lv_has ls 7 [(6, .int (nI j21)), (5, .int y22), (4, .int (nI j13)), (3, .int y14), (2, .int (u8 k11)), (0, .ref h0), (1, .int what)] → W p l e (headSpec (Cond.code yX11_sure cX11_sure 7 (some .int) :: GT) ({ frames := 6, cells := 0, slots := 0, locals := 146 } : Room)).room s m ([.ref h0, .int what] : List Value).toArray below meth c H locs 0 0 (MQ below (va_Qi (fun (r : Int32) (u : (Nat → Int32) × (Nat → Int32)) => match u with | (oah, obh) => (True) ∧ True) (fun (u : (Nat → Int32) × (Nat → Int32)) (t : State) => match u with | (oah, obh) => va_P (dC, dI) vwCl [(h0, .inr (11, [.ref st, .int (nI N), .int (nI B), .ref rp, .int vrs, .int vrb, .int vhs, .int vca, .int vxs, .int vxb, .ref tp, .int (nI T), .int vfa, .int vbr, .int vba, .int vsp, .int vhe, .int vtk, .int vva, .ref cu, .ref lt, .ref od, .ref th, .ref be, .ref ln, .int (nI S), .ref ma, .int (nI M), .ref ah, .ref bh, .ref ik, .ref la, .ref lg, .ref ce, .int vto])), (st, .inl (G 0, 196, .inl fst)), (ma, .inl (G 0, 12, .inl fma)), (ah, .inl (G 0, 110, .inl oah)), (bh, .inl (G 0, 110, .inl obh))] t.heap ∧ va_D A [(h0, .inr (11, [.ref st, .int (nI N), .int (nI B), .ref rp, .int vrs, .int vrb, .int vhs, .int vca, .int vxs, .int vxb, .ref tp, .int (nI T), .int vfa, .int vbr, .int vba, .int vsp, .int vhe, .int vtk, .int vva, .ref cu, .ref lt, .ref od, .ref th, .ref be, .ref ln, .int (nI S), .ref ma, .int (nI M), .ref ah, .ref bh, .ref ik, .ref la, .ref lg, .ref ce, .int vto])), (st, .inl (G 0, 196, .inl fst)), (ma, .inl (G 0, 12, .inl fma)), (ah, .inl (G 0, 110, .inl oah)), (bh, .inl (G 0, 110, .inl obh))]) A) ([.ref h0, .int what] : List Value).toArray s 0 0 A) (F0 m 53 ls []) := by
              intro nf
              induction nf with
              | zero => intro j21 h1 h2; exact absurd h1 (by omega)
              | succ nf ih53_23 =>
                intro j21 hn24 hj25 y22 H locs hP hD hS ls hl
                refine lv_iload hx hb dX11_sure_53 (lv_at hl 0 rfl) ?_
                refine lv_bipush (v := 10) hx hb dX11_sure_55 rfl ?_
                refine lv_icmp_ge (tgt := 102) hx hb dX11_sure_57 rfl (fun c26 => ?_) (fun c26 => ?_)
                · skip
                  have tn921_ : nIT j21 := fun _ => nI_toInt (by first | omega | (have t := leI c26; omega))
                  have n27 : 10 ≤ j21 := by have t := leI c26; rw [show (nI (j21)).toInt = ((j21 : Nat) : Int) from tn921_ ()] at t; have : (10 : Int32).toInt = 10 := qI_10; omega
                  refine lv_iload_n hx hb dX11_sure_102 rfl (lv_at hl 3 rfl) ?_
                  refine lv_iload hx hb dX11_sure_103 (lv_at hl 1 rfl) ?_
                  refine lv_iload_n hx hb dX11_sure_105 rfl (lv_at hl 4 rfl) ?_
                  have cut117_29 : ∀ (y28 : Int32) (H : Heap) (locs : List Loc), va_P (dC, dI) vwCl [(h0, .inr (11, [.ref st, .int (nI N), .int (nI B), .ref rp, .int vrs, .int vrb, .int vhs, .int vca, .int vxs, .int vxb, .ref tp, .int (nI T), .int vfa, .int vbr, .int vba, .int vsp, .int vhe, .int vtk, .int vva, .ref cu, .ref lt, .ref od, .ref th, .ref be, .ref ln, .int (nI S), .ref ma, .int (nI M), .ref ah, .ref bh, .ref ik, .ref la, .ref lg, .ref ce, .int vto])), (st, .inl (G 0, 196, .inl fst)), (ma, .inl (G 0, 12, .inl fma)), (ah, .inl (G 0, 110, .inl u7)), (bh, .inl (G 0, 110, .inl u8))] H → va_D A [(h0, .inr (11, [.ref st, .int (nI N), .int (nI B), .ref rp, .int vrs, .int vrb, .int vhs, .int vca, .int vxs, .int vxb, .ref tp, .int (nI T), .int vfa, .int vbr, .int vba, .int vsp, .int vhe, .int vtk, .int vva, .ref cu, .ref lt, .ref od, .ref th, .ref be, .ref ln, .int (nI S), .ref ma, .int (nI M), .ref ah, .ref bh, .ref ik, .ref la, .ref lg, .ref ce, .int vto])), (st, .inl (G 0, 196, .inl fst)), (ma, .inl (G 0, 12, .inl fma)), (ah, .inl (G 0, 110, .inl u7)), (bh, .inl (G 0, 110, .inl u8))] → va_S A s.heap H locs → ∀ (ls : Array Slot), lv_has ls 7 [(6, .int (nI j21)), (5, .int y22), (4, .int (nI j13)), (3, .int y14), (2, .int (u8 k11)), (0, .ref h0), (1, .int what)] → W p l e (headSpec (Cond.code yX11_sure cX11_sure 7 (some .int) :: GT) ({ frames := 6, cells := 0, slots := 0, locals := 146 } : Room)).room s m ([.ref h0, .int what] : List Value).toArray below meth c H locs 0 0 (MQ below (va_Qi (fun (r : Int32) (u : (Nat → Int32) × (Nat → Int32)) => match u with | (oah, obh) => (True) ∧ True) (fun (u : (Nat → Int32) × (Nat → Int32)) (t : State) => match u with | (oah, obh) => va_P (dC, dI) vwCl [(h0, .inr (11, [.ref st, .int (nI N), .int (nI B), .ref rp, .int vrs, .int vrb, .int vhs, .int vca, .int vxs, .int vxb, .ref tp, .int (nI T), .int vfa, .int vbr, .int vba, .int vsp, .int vhe, .int vtk, .int vva, .ref cu, .ref lt, .ref od, .ref th, .ref be, .ref ln, .int (nI S), .ref ma, .int (nI M), .ref ah, .ref bh, .ref ik, .ref la, .ref lg, .ref ce, .int vto])), (st, .inl (G 0, 196, .inl fst)), (ma, .inl (G 0, 12, .inl fma)), (ah, .inl (G 0, 110, .inl oah)), (bh, .inl (G 0, 110, .inl obh))] t.heap ∧ va_D A [(h0, .inr (11, [.ref st, .int (nI N), .int (nI B), .ref rp, .int vrs, .int vrb, .int vhs, .int vca, .int vxs, .int vxb, .ref tp, .int (nI T), .int vfa, .int vbr, .int vba, .int vsp, .int vhe, .int vtk, .int vva, .ref cu, .ref lt, .ref od, .ref th, .ref be, .ref ln, .int (nI S), .ref ma, .int (nI M), .ref ah, .ref bh, .ref ik, .ref la, .ref lg, .ref ce, .int vto])), (st, .inl (G 0, 196, .inl fst)), (ma, .inl (G 0, 12, .inl fma)), (ah, .inl (G 0, 110, .inl oah)), (bh, .inl (G 0, 110, .inl obh))]) A) ([.ref h0, .int what] : List Value).toArray s 0 0 A) (F0 m 117 ls [.int y28, .int y14]) := by
                    intro y28 H locs hP hD hS ls hl
                    refine lv_ior hx hb dX11_sure_117 ?_
                    refine lv_istore_n (lv' := [(3, .int (y14 ||| y28)), (6, .int (nI j21)), (5, .int y22), (4, .int (nI j13)), (2, .int (u8 k11)), (0, .ref h0), (1, .int what)]) hx hb dX11_sure_118 rfl hl (by decide) rfl (fun ls hl => ?_)
                    refine lv_iinc (v := nI (j13 + 1)) (lv' := [(4, .int (nI (j13 + 1))), (3, .int (y14 ||| y28)), (6, .int (nI j21)), (5, .int y22), (2, .int (u8 k11)), (0, .ref h0), (1, .int what)]) hx hb dX11_sure_119 hl (k := 3) rfl (by rw [show Int32.ofInt 1 = nI 1 from by decide]; exact nI_add _ _) (by decide) rfl (fun ls hl => ?_)
                    refine lv_goto (tgt := 38) hx hb dX11_sure_122 rfl ?_
                    exact ih38_15 (j13 + 1) (by omega) (by omega) (y14 ||| y28) _ _ hP hD hS ls (lv_sub hl [0, 1, 4, 5, 6] rfl)
                  refine lv_icmp_ne (tgt := 116) hx hb dX11_sure_106 rfl (fun c30 => ?_) (fun c30 => ?_)
                  · skip
                    refine lv_iconst (v := 0) hx hb dX11_sure_116 rfl ?_
                    exact cut117_29 0 _ _ hP hD hS ls (lv_sub hl [0, 1, 2, 3, 4, 5, 6] rfl)
                  · skip
                    refine lv_iconst (v := 1) hx hb dX11_sure_109 rfl ?_
                    refine lv_iload hx hb dX11_sure_110 (lv_at hl 2 rfl) ?_
                    refine lv_ishl hx hb dX11_sure_112 ?_
                    refine lv_goto (tgt := 117) hx hb dX11_sure_113 rfl ?_
                    exact cut117_29 (1 <<< ((nI j13) &&& 31)) _ _ hP hD hS ls (lv_sub hl [0, 1, 2, 3, 4, 5, 6] rfl)
                · skip
                  have tn922_ : nIT j21 := fun _ => nI_toInt (by first | omega | (have t := nleI c26; omega))
                  have n31 : j21 < 10 := by have t := nleI c26; rw [show (nI (j21)).toInt = ((j21 : Nat) : Int) from tn922_ ()] at t; have : (10 : Int32).toInt = 10 := qI_10; omega
                  refine lv_iload hx hb dX11_sure_60 (lv_at hl 1 rfl) ?_
                  refine lv_aload_n hx hb dX11_sure_62 rfl (lv_at hl 5 rfl) ?_
                  refine va_get (D := (dC, dI)) (ci := 11) (v := .ref ah) (C := RX11) (T := TX11) (N := 35) hx hb hg inG11 hown hK.1 hP 0 rfl rfl 28 (Nat.le_of_ble_eq_true rfl) (hg _ wt_906) (fun _ h9 => h9) rfl dX11_sure_63 ?_
                  refine lv_bipush (v := 10) hx hb dX11_sure_66 rfl ?_
                  refine lv_iload hx hb dX11_sure_68 (lv_at hl 2 rfl) ?_
                  refine lv_imul hx hb dX11_sure_70 ?_
                  refine lv_cg (y := nI (10 * j13)) (by rw [show (10 : Int32) = nI 10 from rfl]; exact pk_mul _ _) ?_
                  refine lv_iload hx hb dX11_sure_71 (lv_at hl 0 rfl) ?_
                  refine lv_iadd hx hb dX11_sure_73 ?_
                  refine lv_cg (y := nI ((10 * j13) + j21)) (by exact nI_add _ _) ?_
                  refine va_iald hx hb hK.1 hP 3 0 rfl rfl (vp_in_nI (by first | omega | (have t_b4 := b4; have t_w10a := w10a; have t_w10b := w10b; have t_c12 := neI c12; have t_hj17 := hj17; have t_n20 := n20; have t_hj25 := hj25; have t_n31 := n31; have : (0 : Int32).toInt = 0 := qI_0; have t_n0 : (nI N).toInt = (N : Int) := tn913_ (); have t_n1 : (nI B).toInt = (B : Int) := tn914_ (); have t_n2 : (nI T).toInt = (T : Int) := tn915_ (); have t_n3 : (nI S).toInt = (S : Int) := tn916_ (); have t_n4 : (nI M).toInt = (M : Int) := tn917_ (); have t_n5 : (nI k11).toInt = (k11 : Int) := tn918_ (); have t_n6 : (nI j13).toInt = (j13 : Int) := tn920_ (); have t_n7 : (nI j21).toInt = (j21 : Int) := tn922_ (); omega)) (by decide)) dX11_sure_74 ?_
                  refine lv_cg (y := u7 ((10 * j13) + j21)) (by rw [nI_clamp (by omega)]) ?_
                  refine lv_aload_n hx hb dX11_sure_75 rfl (lv_at hl 5 rfl) ?_
                  refine lv_iload hx hb dX11_sure_76 (lv_at hl 2 rfl) ?_
                  refine lv_iload hx hb dX11_sure_78 (lv_at hl 0 rfl) ?_
                  refine lv_iload_n hx hb dX11_sure_80 rfl (lv_at hl 6 rfl) ?_
                  have cut89_33 : ∀ (y32 : Int32) (H : Heap) (locs : List Loc), va_P (dC, dI) vwCl [(h0, .inr (11, [.ref st, .int (nI N), .int (nI B), .ref rp, .int vrs, .int vrb, .int vhs, .int vca, .int vxs, .int vxb, .ref tp, .int (nI T), .int vfa, .int vbr, .int vba, .int vsp, .int vhe, .int vtk, .int vva, .ref cu, .ref lt, .ref od, .ref th, .ref be, .ref ln, .int (nI S), .ref ma, .int (nI M), .ref ah, .ref bh, .ref ik, .ref la, .ref lg, .ref ce, .int vto])), (st, .inl (G 0, 196, .inl fst)), (ma, .inl (G 0, 12, .inl fma)), (ah, .inl (G 0, 110, .inl u7)), (bh, .inl (G 0, 110, .inl u8))] H → va_D A [(h0, .inr (11, [.ref st, .int (nI N), .int (nI B), .ref rp, .int vrs, .int vrb, .int vhs, .int vca, .int vxs, .int vxb, .ref tp, .int (nI T), .int vfa, .int vbr, .int vba, .int vsp, .int vhe, .int vtk, .int vva, .ref cu, .ref lt, .ref od, .ref th, .ref be, .ref ln, .int (nI S), .ref ma, .int (nI M), .ref ah, .ref bh, .ref ik, .ref la, .ref lg, .ref ce, .int vto])), (st, .inl (G 0, 196, .inl fst)), (ma, .inl (G 0, 12, .inl fma)), (ah, .inl (G 0, 110, .inl u7)), (bh, .inl (G 0, 110, .inl u8))] → va_S A s.heap H locs → ∀ (ls : Array Slot), lv_has ls 7 [(6, .int (nI j21)), (5, .int y22), (4, .int (nI j13)), (3, .int y14), (2, .int (u8 k11)), (0, .ref h0), (1, .int what)] → W p l e (headSpec (Cond.code yX11_sure cX11_sure 7 (some .int) :: GT) ({ frames := 6, cells := 0, slots := 0, locals := 146 } : Room)).room s m ([.ref h0, .int what] : List Value).toArray below meth c H locs 0 0 (MQ below (va_Qi (fun (r : Int32) (u : (Nat → Int32) × (Nat → Int32)) => match u with | (oah, obh) => (True) ∧ True) (fun (u : (Nat → Int32) × (Nat → Int32)) (t : State) => match u with | (oah, obh) => va_P (dC, dI) vwCl [(h0, .inr (11, [.ref st, .int (nI N), .int (nI B), .ref rp, .int vrs, .int vrb, .int vhs, .int vca, .int vxs, .int vxb, .ref tp, .int (nI T), .int vfa, .int vbr, .int vba, .int vsp, .int vhe, .int vtk, .int vva, .ref cu, .ref lt, .ref od, .ref th, .ref be, .ref ln, .int (nI S), .ref ma, .int (nI M), .ref ah, .ref bh, .ref ik, .ref la, .ref lg, .ref ce, .int vto])), (st, .inl (G 0, 196, .inl fst)), (ma, .inl (G 0, 12, .inl fma)), (ah, .inl (G 0, 110, .inl oah)), (bh, .inl (G 0, 110, .inl obh))] t.heap ∧ va_D A [(h0, .inr (11, [.ref st, .int (nI N), .int (nI B), .ref rp, .int vrs, .int vrb, .int vhs, .int vca, .int vxs, .int vxb, .ref tp, .int (nI T), .int vfa, .int vbr, .int vba, .int vsp, .int vhe, .int vtk, .int vva, .ref cu, .ref lt, .ref od, .ref th, .ref be, .ref ln, .int (nI S), .ref ma, .int (nI M), .ref ah, .ref bh, .ref ik, .ref la, .ref lg, .ref ce, .int vto])), (st, .inl (G 0, 196, .inl fst)), (ma, .inl (G 0, 12, .inl fma)), (ah, .inl (G 0, 110, .inl oah)), (bh, .inl (G 0, 110, .inl obh))]) A) ([.ref h0, .int what] : List Value).toArray s 0 0 A) (F0 m 89 ls [.int y32, .int (nI j21), .int (nI j13), .ref h0, .int (u7 ((10 * j13) + j21)), .int y22]) := by
                    intro y32 H locs hP hD hS ls hl
                    have hPc := hP.sub (ws' := [(h0, .inr (11, [.ref st, .int (nI N), .int (nI B), .ref rp, .int vrs, .int vrb, .int vhs, .int vca, .int vxs, .int vxb, .ref tp, .int (nI T), .int vfa, .int vbr, .int vba, .int vsp, .int vhe, .int vtk, .int vva, .ref cu, .ref lt, .ref od, .ref th, .ref be, .ref ln, .int (nI S), .ref ma, .int (nI M), .ref ah, .ref bh, .ref ik, .ref la, .ref lg, .ref ce, .int vto])), (st, .inl (G 0, 196, .inl fst)), (ma, .inl (G 0, 12, .inl fma)), (bh, .inl (G 0, 110, .inl u8))]) [0, 1, 2, 4] rfl
                    refine va_calli (va_runV (As := [.int (nI j13), .int (nI j21), .int y32]) (rest := [.int (u7 ((10 * j13) + j21)), .int y22]) ⟨hx, hb, hml, hown, hg⟩ (c_X11_onward l dC dI G _ h0 j13 j21 st N B rp tp T cu lt od th be ln S ma M ah bh ik la lg ce y32 vrs vrb vhs vca vxs vxb vfa vbr vba vsp vhe vtk vva vto fst fma u8 hN hB_ hT_ hS0 hM_ hst (by first | omega | (have t_b4 := b4; have t_w10a := w10a; have t_w10b := w10b; have t_c12 := neI c12; have t_hj17 := hj17; have t_n20 := n20; have t_hj25 := hj25; have t_n31 := n31; have : (0 : Int32).toInt = 0 := qI_0; have t_n0 : (nI N).toInt = (N : Int) := tn913_ (); have t_n1 : (nI B).toInt = (B : Int) := tn914_ (); have t_n2 : (nI T).toInt = (T : Int) := tn915_ (); have t_n3 : (nI S).toInt = (S : Int) := tn916_ (); have t_n4 : (nI M).toInt = (M : Int) := tn917_ (); have t_n5 : (nI k11).toInt = (k11 : Int) := tn918_ (); have t_n6 : (nI j13).toInt = (j13 : Int) := tn920_ (); have t_n7 : (nI j21).toInt = (j21 : Int) := tn922_ (); omega)) (by first | omega | (have t_b4 := b4; have t_w10a := w10a; have t_w10b := w10b; have t_c12 := neI c12; have t_hj17 := hj17; have t_n20 := n20; have t_hj25 := hj25; have t_n31 := n31; have : (0 : Int32).toInt = 0 := qI_0; have t_n0 : (nI N).toInt = (N : Int) := tn913_ (); have t_n1 : (nI B).toInt = (B : Int) := tn914_ (); have t_n2 : (nI T).toInt = (T : Int) := tn915_ (); have t_n3 : (nI S).toInt = (S : Int) := tn916_ (); have t_n4 : (nI M).toInt = (M : Int) := tn917_ (); have t_n5 : (nI k11).toInt = (k11 : Int) := tn918_ (); have t_n6 : (nI j13).toInt = (j13 : Int) := tn920_ (); have t_n7 : (nI j21).toInt = (j21 : Int) := tn922_ (); omega))) (kwV hg mfX11_onward wt_1232 ⟨Nat.le_of_ble_eq_true rfl, Nat.le_of_ble_eq_true rfl⟩) (preVR hK hPc (ci := 11) rfl rfl) rfl rfl hl.1 rfl (lv_room (Nat.le_of_ble_eq_true rfl)) dX11_sure_89 ⟨Nat.le_of_ble_eq_true rfl, Nat.le_of_ble_eq_true rfl⟩) hS (fun q h1 h2 => absurd h2 (Nat.not_le.mpr h1)) (fun q h => hA q (Nat.le_trans hS.1 h)) (fun r34 ur34 t H1 locs ht hvm w35 hB hz1 hk1 hS => ?_)
                    have hP := keepR hP hk1
                    obtain ⟨w35, w35x⟩ := w35
                    refine lv_imul hx hb dX11_sure_92 ?_
                    refine lv_topi (fun v36 ev36 => ?_)
                    refine lv_iadd hx hb dX11_sure_93 ?_
                    refine lv_istore (lv' := [(5, .int (y22 + v36)), (6, .int (nI j21)), (4, .int (nI j13)), (3, .int y14), (2, .int (u8 k11)), (0, .ref h0), (1, .int what)]) hx hb dX11_sure_94 hl (by decide) rfl (fun ls hl => ?_)
                    refine lv_iinc (v := nI (j21 + 1)) (lv' := [(6, .int (nI (j21 + 1))), (5, .int (y22 + v36)), (4, .int (nI j13)), (3, .int y14), (2, .int (u8 k11)), (0, .ref h0), (1, .int what)]) hx hb dX11_sure_96 hl (k := 1) rfl (by rw [show Int32.ofInt 1 = nI 1 from by decide]; exact nI_add _ _) (by decide) rfl (fun ls hl => ?_)
                    refine lv_goto (tgt := 53) hx hb dX11_sure_99 rfl ?_
                    exact ih53_23 (j21 + 1) (by omega) (by omega) (y22 + v36) _ _ hP hD hS ls (lv_sub hl [0, 1, 2, 3, 4, 5, 6] rfl)
                  refine lv_if_ne (tgt := 88) hx hb dX11_sure_81 rfl (fun c37 => ?_) (fun c37 => ?_)
                  · skip
                    refine lv_iconst (v := 0) hx hb dX11_sure_88 rfl ?_
                    exact cut89_33 0 _ _ hP hD hS ls (lv_sub hl [0, 1, 2, 3, 4, 5, 6] rfl)
                  · skip
                    refine lv_iconst (v := 1) hx hb dX11_sure_84 rfl ?_
                    refine lv_goto (tgt := 89) hx hb dX11_sure_85 rfl ?_
                    exact cut89_33 1 _ _ hP hD hS ls (lv_sub hl [0, 1, 2, 3, 4, 5, 6] rfl)
            exact loop53_23 (10 + 1) 0 (by omega) (by omega) 0 _ _ hP hD hS ls (lv_sub hl [0, 1, 2, 3, 4, 5, 6] rfl)
      exact loop38_15 (N + 1) 0 (by omega) (by omega) 0 _ _ hP hD hS ls (lv_sub hl [0, 1, 2, 3, 4] rfl)
    · skip
      refine lv_bipush (v := (-4)) hx hb dX11_sure_30 rfl ?_
      have hpost : True := by
        trivial
      obtain ⟨hP9, hD9⟩ := va_sub2 (ws' := [(h0, .inr (11, [.ref st, .int (nI N), .int (nI B), .ref rp, .int vrs, .int vrb, .int vhs, .int vca, .int vxs, .int vxb, .ref tp, .int (nI T), .int vfa, .int vbr, .int vba, .int vsp, .int vhe, .int vtk, .int vva, .ref cu, .ref lt, .ref od, .ref th, .ref be, .ref ln, .int (nI S), .ref ma, .int (nI M), .ref ah, .ref bh, .ref ik, .ref la, .ref lg, .ref ce, .int vto])), (st, .inl (G 0, 196, .inl fst)), (ma, .inl (G 0, 12, .inl fma)), (ah, .inl (G 0, 110, .inl u7)), (bh, .inl (G 0, 110, .inl u8))]) hP hD [0, 1, 2, 3, 4] (by decide) rfl
      refine W.widen (k := 0) (n := 0) (Nat.le_of_ble_eq_true rfl) (Nat.le_of_ble_eq_true rfl) ?_
      exact W.iret (v := (-4)) hx hb hr (fun t ht hW => ⟨⟨(-4), (u7, u8), rfl, ⟨hpost, trivial⟩, ⟨by rw [ht]; exact hP9, hD9⟩⟩, hS.F ht⟩) hS.2.2 dX11_sure_32
  · skip
    have b38 := if10_n c3
    refine lv_iconst (v := (-1)) hx hb dX11_sure_10 rfl ?_
    have hpost : True := by
      trivial
    obtain ⟨hP9, hD9⟩ := va_sub2 (ws' := [(h0, .inr (11, [.ref st, .int (nI N), .int (nI B), .ref rp, .int vrs, .int vrb, .int vhs, .int vca, .int vxs, .int vxb, .ref tp, .int (nI T), .int vfa, .int vbr, .int vba, .int vsp, .int vhe, .int vtk, .int vva, .ref cu, .ref lt, .ref od, .ref th, .ref be, .ref ln, .int (nI S), .ref ma, .int (nI M), .ref ah, .ref bh, .ref ik, .ref la, .ref lg, .ref ce, .int vto])), (st, .inl (G 0, 196, .inl fst)), (ma, .inl (G 0, 12, .inl fma)), (ah, .inl (G 0, 110, .inl fah)), (bh, .inl (G 0, 110, .inl fbh))]) hP hD [0, 1, 2, 3, 4] (by decide) rfl
    refine W.widen (k := 0) (n := 0) (Nat.le_of_ble_eq_true rfl) (Nat.le_of_ble_eq_true rfl) ?_
    exact W.iret (v := (-1)) hx hb hr (fun t ht hW => ⟨⟨(-1), (fah, fbh), rfl, ⟨hpost, trivial⟩, ⟨by rw [ht]; exact hP9, hD9⟩⟩, hS.F ht⟩) hS.2.2 dX11_sure_11

set_option maxHeartbeats 1000000 in
set_option maxRecDepth 100000 in
theorem c_X11_sheet (l : Launch) (dC : Nat → ClassId) (dI : Nat → Nat → Nat) (G : Nat → ClassId) (sz : Nat) (h0 st N B rp tp T cu lt od th be ln S ma M ah bh ik la lg ce : Nat) (k lane n vrs vrb vhs vca vxs vxb vfa vbr vba vsp vhe vtk vva vto : Int32) (fla : Nat → Int32) (flg : Nat → Int32) (fce : Nat → Int32) (hN : N ≤ 10) (hB : B ≤ 6) (hT : T ≤ 320) (hS0 : S ≤ 8) (hM : M ≤ 6) (hz : ∀ q : Nat, q < 4 → 0 ≤ (flg q).toInt ∧ (flg q).toInt ≤ 40) : Met l yX11_sheet (Cond.code yX11_sheet cX11_sheet 5 (some .int) :: GT) ({ frames := 1, cells := 0, slots := 0, locals := 25 } : Room) (PcW [.ref h0, .int k, .int lane, .int n] dC dI G [(h0, .inr (11, [.ref st, .int (nI N), .int (nI B), .ref rp, .int vrs, .int vrb, .int vhs, .int vca, .int vxs, .int vxb, .ref tp, .int (nI T), .int vfa, .int vbr, .int vba, .int vsp, .int vhe, .int vtk, .int vva, .ref cu, .ref lt, .ref od, .ref th, .ref be, .ref ln, .int (nI S), .ref ma, .int (nI M), .ref ah, .ref bh, .ref ik, .ref la, .ref lg, .ref ce, .int vto])), (la, .inl (G 0, 4, .inl fla)), (lg, .inl (G 0, 4, .inl flg)), (ce, .inl (G 0, 160, .inl fce))] sz) (va_Qi (fun (r : Int32) (u : (Nat → Int32) × (Nat → Int32) × (Nat → Int32)) => match u with | (ola, olg, oce) => (r = if (0 ≤ k.toInt ∧ k.toInt < 4) ∧ (0 ≤ lane.toInt ∧ lane.toInt ≤ 2) ∧ n.toInt ≤ 40 then (if n.toInt < 0 then -14 else 1) else -1) ∧ (ola = (if ((0 ≤ k.toInt ∧ k.toInt < 4) ∧ (0 ≤ lane.toInt ∧ lane.toInt ≤ 2) ∧ n.toInt ≤ 40 ∧ 0 ≤ n.toInt) then upd fla k.toNatClampNeg lane else fla) ∧ olg = (if ((0 ≤ k.toInt ∧ k.toInt < 4) ∧ (0 ≤ lane.toInt ∧ lane.toInt ≤ 2) ∧ n.toInt ≤ 40 ∧ 0 ≤ n.toInt) then upd flg k.toNatClampNeg n else flg)) ∧ ∀ q : Nat, q < 4 → 0 ≤ (olg q).toInt ∧ (olg q).toInt ≤ 40) (fun (u : (Nat → Int32) × (Nat → Int32) × (Nat → Int32)) (t : State) => match u with | (ola, olg, oce) => va_P (dC, dI) vwCl [(h0, .inr (11, [.ref st, .int (nI N), .int (nI B), .ref rp, .int vrs, .int vrb, .int vhs, .int vca, .int vxs, .int vxb, .ref tp, .int (nI T), .int vfa, .int vbr, .int vba, .int vsp, .int vhe, .int vtk, .int vva, .ref cu, .ref lt, .ref od, .ref th, .ref be, .ref ln, .int (nI S), .ref ma, .int (nI M), .ref ah, .ref bh, .ref ik, .ref la, .ref lg, .ref ce, .int vto])), (la, .inl (G 0, 4, .inl ola)), (lg, .inl (G 0, 4, .inl olg)), (ce, .inl (G 0, 160, .inl oce))] t.heap ∧ va_D (va_A [(h0, .inr (11, [.ref st, .int (nI N), .int (nI B), .ref rp, .int vrs, .int vrb, .int vhs, .int vca, .int vxs, .int vxb, .ref tp, .int (nI T), .int vfa, .int vbr, .int vba, .int vsp, .int vhe, .int vtk, .int vva, .ref cu, .ref lt, .ref od, .ref th, .ref be, .ref ln, .int (nI S), .ref ma, .int (nI M), .ref ah, .ref bh, .ref ik, .ref la, .ref lg, .ref ce, .int vto])), (la, .inl (G 0, 4, .inl fla)), (lg, .inl (G 0, 4, .inl flg)), (ce, .inl (G 0, 160, .inl fce))] sz) [(h0, .inr (11, [.ref st, .int (nI N), .int (nI B), .ref rp, .int vrs, .int vrb, .int vhs, .int vca, .int vxs, .int vxb, .ref tp, .int (nI T), .int vfa, .int vbr, .int vba, .int vsp, .int vhe, .int vtk, .int vva, .ref cu, .ref lt, .ref od, .ref th, .ref be, .ref ln, .int (nI S), .ref ma, .int (nI M), .ref ah, .ref bh, .ref ik, .ref la, .ref lg, .ref ce, .int vto])), (la, .inl (G 0, 4, .inl ola)), (lg, .inl (G 0, 4, .inl olg)), (ce, .inl (G 0, 160, .inl oce))]) (va_A [(h0, .inr (11, [.ref st, .int (nI N), .int (nI B), .ref rp, .int vrs, .int vrb, .int vhs, .int vca, .int vxs, .int vxb, .ref tp, .int (nI T), .int vfa, .int vbr, .int vba, .int vsp, .int vhe, .int vtk, .int vva, .ref cu, .ref lt, .ref od, .ref th, .ref be, .ref ln, .int (nI S), .ref ma, .int (nI M), .ref ah, .ref bh, .ref ik, .ref la, .ref lg, .ref ce, .int vto])), (la, .inl (G 0, 4, .inl fla)), (lg, .inl (G 0, 4, .inl flg)), (ce, .inl (G 0, 160, .inl fce))] sz)) 0 0 (va_A [(h0, .inr (11, [.ref st, .int (nI N), .int (nI B), .ref rp, .int vrs, .int vrb, .int vhs, .int vca, .int vxs, .int vxb, .ref tp, .int (nI T), .int vfa, .int vbr, .int vba, .int vsp, .int vhe, .int vtk, .int vva, .ref cu, .ref lt, .ref od, .ref th, .ref be, .ref ln, .int (nI S), .ref ma, .int (nI M), .ref ah, .ref bh, .ref ik, .ref la, .ref lg, .ref ce, .int vto])), (la, .inl (G 0, 4, .inl fla)), (lg, .inl (G 0, 4, .inl flg)), (ce, .inl (G 0, 160, .inl fce))] sz) := by
  have tn944_ : nIT N := fun _ => nI_toInt (by omega)
  have tn945_ : nIT B := fun _ => nI_toInt (by omega)
  have tn946_ : nIT T := fun _ => nI_toInt (by omega)
  have tn947_ : nIT S := fun _ => nI_toInt (by omega)
  have tn948_ : nIT M := fun _ => nI_toInt (by omega)
  refine Met.ofW (cc := cX11_sheet) (maxL := 5) (ret := (some .int)) (by decide) rfl ?_
  intro p e s m args below meth c s₁ Bd hml hv
  obtain ⟨rfl, hsz, hP, hK, hD0⟩ := hv
  have hx := Bd.exec
  have hb := Bd.bytes
  have hr := Bd.returns
  have hg : ∀ w ∈ GT, w.before ([.ref h0, .int k, .int lane, .int n] : List Value).toArray s = true := fun w h => atoms_spec (ws := Cond.code yX11_sheet cX11_sheet 5 (some .int) :: GT) Bd.pre w (List.mem_cons_of_mem _ h)
  have hown : s.vm.findClass RX11 = some m.cls := findClass_of_methodNamed Bd.named
  have hlocks := Bd.notSynchronized
  subst hsz
  have hD := hD0.self (sz := s.heap.size)
  generalize hAe : va_A [(h0, .inr (11, [.ref st, .int (nI N), .int (nI B), .ref rp, .int vrs, .int vrb, .int vhs, .int vca, .int vxs, .int vxb, .ref tp, .int (nI T), .int vfa, .int vbr, .int vba, .int vsp, .int vhe, .int vtk, .int vva, .ref cu, .ref lt, .ref od, .ref th, .ref be, .ref ln, .int (nI S), .ref ma, .int (nI M), .ref ah, .ref bh, .ref ik, .ref la, .ref lg, .ref ce, .int vto])), (la, .inl (G 0, 4, .inl fla)), (lg, .inl (G 0, 4, .inl flg)), (ce, .inl (G 0, 160, .inl fce))] s.heap.size = A at hD ⊢
  have hA : ∀ q : Nat, s.heap.size ≤ q → A q := fun q h => by rw [← hAe]; exact Or.inr h
  have hS : va_S A s.heap s.heap [] := va_S.rf
  have hl := lv_entry ([.ref h0, .int k, .int lane, .int n]) (n := 5) (Nat.le_of_ble_eq_true rfl)
  rw [lg_entry_eq]
  generalize (lg_sl ([.ref h0, .int k, .int lane, .int n]) ++ List.replicate (5 - (lg_sl ([.ref h0, .int k, .int lane, .int n])).length) Slot.unset).toArray = ls at hl ⊢
  have hl : lv_has ls 5 [(0, .ref h0), (1, .int k), (2, .int lane), (3, .int n)] := hl
  refine lv_iload_n hx hb dX11_sheet_0 rfl (lv_at hl 1 rfl) ?_
  refine lv_i2l (v := k.toInt64) hx hb dX11_sheet_1 rfl ?_
  refine lv_lconst (v := 0) hx hb dX11_sheet_2 (by decide) ?_
  refine lv_ldc2 (v := 3) hx hb hown (hg _ wt_1023) dX11_sheet_3 ?_
  have hPc := hP.sub (ws' := []) [] rfl
  refine va_calli (va_runS (As := [.long k.toInt64, .long 0, .long 3]) (rest := []) ⟨hx, hb, hml, hown, hg⟩ (c_X11_in l dC dI G _ k.toInt64 0 3) (kwS hg mfX11_in wt_992 ⟨Nat.le_of_ble_eq_true rfl, Nat.le_of_ble_eq_true rfl⟩) (preSR hK hPc) rfl rfl hl.1 rfl (lv_room (Nat.le_of_ble_eq_true rfl)) dX11_sheet_6 ⟨Nat.le_of_ble_eq_true rfl, Nat.le_of_ble_eq_true rfl⟩) hS (fun q h1 h2 => absurd h2 (Nat.not_le.mpr h1)) (fun q h => hA q (Nat.le_trans hS.1 h)) (fun r1 ur1 t H1 locs ht hvm w2 hB hz1 hk1 hS => ?_)
  have hP := keepR hP hk1
  obtain ⟨w2, w2x⟩ := w2
  try simp only [l_ii, show (0 : Int64).toInt = 0 from by decide, show (3 : Int64).toInt = 3 from by decide] at w2
  subst w2
  refine lv_if_eq (tgt := 30) hx hb dX11_sheet_9 rfl (fun c3 => ?_) (fun c3 => ?_)
  · skip
    have b4 := if10_n c3
    refine lv_iconst (v := (-1)) hx hb dX11_sheet_30 rfl ?_
    have hpost : ((-1) : Int32) = if (0 ≤ k.toInt ∧ k.toInt < 4) ∧ (0 ≤ lane.toInt ∧ lane.toInt ≤ 2) ∧ n.toInt ≤ 40 then (if n.toInt < 0 then -14 else 1) else -1 := by
      have t_b4 := b4
      have t_n0 : (nI N).toInt = (N : Int) := tn944_ ()
      have t_n1 : (nI B).toInt = (B : Int) := tn945_ ()
      have t_n2 : (nI T).toInt = (T : Int) := tn946_ ()
      have t_n3 : (nI S).toInt = (S : Int) := tn947_ ()
      have t_n4 : (nI M).toInt = (M : Int) := tn948_ ()
      first | rfl | ((repeat' split) <;> first | rfl | omega)
    obtain ⟨hP9, hD9⟩ := va_sub2 (ws' := [(h0, .inr (11, [.ref st, .int (nI N), .int (nI B), .ref rp, .int vrs, .int vrb, .int vhs, .int vca, .int vxs, .int vxb, .ref tp, .int (nI T), .int vfa, .int vbr, .int vba, .int vsp, .int vhe, .int vtk, .int vva, .ref cu, .ref lt, .ref od, .ref th, .ref be, .ref ln, .int (nI S), .ref ma, .int (nI M), .ref ah, .ref bh, .ref ik, .ref la, .ref lg, .ref ce, .int vto])), (la, .inl (G 0, 4, .inl fla)), (lg, .inl (G 0, 4, .inl flg)), (ce, .inl (G 0, 160, .inl fce))]) hP hD [0, 1, 2, 3] (by decide) rfl
    refine W.widen (k := 0) (n := 0) (Nat.le_of_ble_eq_true rfl) (Nat.le_of_ble_eq_true rfl) ?_
    exact W.iret (v := (-1)) hx hb hr (fun t ht hW => ⟨⟨(-1), (fla, flg, fce), rfl, ⟨hpost, (by have t_b4 := b4; have t_n0 : (nI N).toInt = (N : Int) := tn944_ (); have t_n1 : (nI B).toInt = (B : Int) := tn945_ (); have t_n2 : (nI T).toInt = (T : Int) := tn946_ (); have t_n3 : (nI S).toInt = (S : Int) := tn947_ (); have t_n4 : (nI M).toInt = (M : Int) := tn948_ (); refine ⟨⟨?_, ?_⟩, hz⟩ <;> rw [if_neg (by omega)])⟩, ⟨by rw [ht]; exact hP9, hD9⟩⟩, hS.F ht⟩) hS.2.2 dX11_sheet_31
  · skip
    have b5 := if10_p c3
    refine lv_iload_n hx hb dX11_sheet_12 rfl (lv_at hl 2 rfl) ?_
    refine lv_i2l (v := lane.toInt64) hx hb dX11_sheet_13 rfl ?_
    refine lv_lconst (v := 0) hx hb dX11_sheet_14 (by decide) ?_
    refine lv_ldc2 (v := 2) hx hb hown (hg _ wt_1056) dX11_sheet_15 ?_
    have hPc := hP.sub (ws' := []) [] rfl
    refine va_calli (va_runS (As := [.long lane.toInt64, .long 0, .long 2]) (rest := []) ⟨hx, hb, hml, hown, hg⟩ (c_X11_in l dC dI G _ lane.toInt64 0 2) (kwS hg mfX11_in wt_992 ⟨Nat.le_of_ble_eq_true rfl, Nat.le_of_ble_eq_true rfl⟩) (preSR hK hPc) rfl rfl hl.1 rfl (lv_room (Nat.le_of_ble_eq_true rfl)) dX11_sheet_18 ⟨Nat.le_of_ble_eq_true rfl, Nat.le_of_ble_eq_true rfl⟩) hS (fun q h1 h2 => absurd h2 (Nat.not_le.mpr h1)) (fun q h => hA q (Nat.le_trans hS.1 h)) (fun r6 ur6 t H1 locs ht hvm w7 hB hz1 hk1 hS => ?_)
    have hP := keepR hP hk1
    obtain ⟨w7, w7x⟩ := w7
    try simp only [l_ii, show (0 : Int64).toInt = 0 from by decide, show (2 : Int64).toInt = 2 from by decide] at w7
    subst w7
    refine lv_if_eq (tgt := 30) hx hb dX11_sheet_21 rfl (fun c8 => ?_) (fun c8 => ?_)
    · skip
      have b9 := if10_n c8
      refine lv_iconst (v := (-1)) hx hb dX11_sheet_30 rfl ?_
      have hpost : ((-1) : Int32) = if (0 ≤ k.toInt ∧ k.toInt < 4) ∧ (0 ≤ lane.toInt ∧ lane.toInt ≤ 2) ∧ n.toInt ≤ 40 then (if n.toInt < 0 then -14 else 1) else -1 := by
        have t_b5 := b5
        have t_b9 := b9
        have t_n0 : (nI N).toInt = (N : Int) := tn944_ ()
        have t_n1 : (nI B).toInt = (B : Int) := tn945_ ()
        have t_n2 : (nI T).toInt = (T : Int) := tn946_ ()
        have t_n3 : (nI S).toInt = (S : Int) := tn947_ ()
        have t_n4 : (nI M).toInt = (M : Int) := tn948_ ()
        first | rfl | ((repeat' split) <;> first | rfl | omega)
      obtain ⟨hP9, hD9⟩ := va_sub2 (ws' := [(h0, .inr (11, [.ref st, .int (nI N), .int (nI B), .ref rp, .int vrs, .int vrb, .int vhs, .int vca, .int vxs, .int vxb, .ref tp, .int (nI T), .int vfa, .int vbr, .int vba, .int vsp, .int vhe, .int vtk, .int vva, .ref cu, .ref lt, .ref od, .ref th, .ref be, .ref ln, .int (nI S), .ref ma, .int (nI M), .ref ah, .ref bh, .ref ik, .ref la, .ref lg, .ref ce, .int vto])), (la, .inl (G 0, 4, .inl fla)), (lg, .inl (G 0, 4, .inl flg)), (ce, .inl (G 0, 160, .inl fce))]) hP hD [0, 1, 2, 3] (by decide) rfl
      refine W.widen (k := 0) (n := 0) (Nat.le_of_ble_eq_true rfl) (Nat.le_of_ble_eq_true rfl) ?_
      exact W.iret (v := (-1)) hx hb hr (fun t ht hW => ⟨⟨(-1), (fla, flg, fce), rfl, ⟨hpost, (by have t_b5 := b5; have t_b9 := b9; have t_n0 : (nI N).toInt = (N : Int) := tn944_ (); have t_n1 : (nI B).toInt = (B : Int) := tn945_ (); have t_n2 : (nI T).toInt = (T : Int) := tn946_ (); have t_n3 : (nI S).toInt = (S : Int) := tn947_ (); have t_n4 : (nI M).toInt = (M : Int) := tn948_ (); refine ⟨⟨?_, ?_⟩, hz⟩ <;> rw [if_neg (by omega)])⟩, ⟨by rw [ht]; exact hP9, hD9⟩⟩, hS.F ht⟩) hS.2.2 dX11_sheet_31
    · skip
      have b10 := if10_p c8
      refine lv_iload_n hx hb dX11_sheet_24 rfl (lv_at hl 3 rfl) ?_
      refine lv_bipush (v := 40) hx hb dX11_sheet_25 rfl ?_
      refine lv_icmp_le (tgt := 32) hx hb dX11_sheet_27 rfl (fun c11 => ?_) (fun c11 => ?_)
      · skip
        refine lv_iload_n hx hb dX11_sheet_32 rfl (lv_at hl 3 rfl) ?_
        refine lv_if_ge (tgt := 39) hx hb dX11_sheet_33 rfl (fun c12 => ?_) (fun c12 => ?_)
        · skip
          obtain ⟨kk, hkk, rfl⟩ : ∃ j : Nat, j < 4 ∧ k = nI j := by
            have t_b5 := b5
            have t_b10 := b10
            have t_c11 := leI c11
            have t_c12 := leI c12
            have : (0 : Int32).toInt = 0 := qI_0
            have : (40 : Int32).toInt = 40 := qI_40
            have t_n0 : (nI N).toInt = (N : Int) := tn944_ ()
            have t_n1 : (nI B).toInt = (B : Int) := tn945_ ()
            have t_n2 : (nI T).toInt = (T : Int) := tn946_ ()
            have t_n3 : (nI S).toInt = (S : Int) := tn947_ ()
            have t_n4 : (nI M).toInt = (M : Int) := tn948_ ()
            exact i32_nat (by omega) (by omega)
          obtain ⟨nn, hnn, rfl⟩ : ∃ j : Nat, j < 41 ∧ n = nI j := by
            have t_b5 := b5
            have t_b10 := b10
            have t_c11 := leI c11
            have t_c12 := leI c12
            have t_hkk := hkk
            have : (0 : Int32).toInt = 0 := qI_0
            have : (40 : Int32).toInt = 40 := qI_40
            have t_n0 : (nI N).toInt = (N : Int) := tn944_ ()
            have t_n1 : (nI B).toInt = (B : Int) := tn945_ ()
            have t_n2 : (nI T).toInt = (T : Int) := tn946_ ()
            have t_n3 : (nI S).toInt = (S : Int) := tn947_ ()
            have t_n4 : (nI M).toInt = (M : Int) := tn948_ ()
            have tn949_ : nIT kk := fun _ => nI_toInt (by omega)
            have t_n5 : (nI kk).toInt = (kk : Int) := tn949_ ()
            exact i32_nat (by omega) (by omega)
          refine lv_aload_n hx hb dX11_sheet_39 rfl (lv_at hl 0 rfl) ?_
          refine va_get (D := (dC, dI)) (ci := 11) (v := .ref la) (C := RX11) (T := TX11) (N := 35) hx hb hg inG11 hown hK.1 hP 0 rfl rfl 31 (Nat.le_of_ble_eq_true rfl) (hg _ wt_909) (fun _ h9 => h9) rfl dX11_sheet_40 ?_
          refine lv_iload_n hx hb dX11_sheet_43 rfl (lv_at hl 1 rfl) ?_
          refine lv_iload_n hx hb dX11_sheet_44 rfl (lv_at hl 2 rfl) ?_
          have tn950_ : nIT kk := fun _ => nI_toInt (by first | omega | (have t_b5 := b5; have t_b10 := b10; have t_c11 := leI c11; have t_c12 := leI c12; have t_hkk := hkk; have t_hnn := hnn; have : (0 : Int32).toInt = 0 := qI_0; have : (40 : Int32).toInt = 40 := qI_40; omega))
          have tn951_ : nIT nn := fun _ => nI_toInt (by first | omega | (have t_b5 := b5; have t_b10 := b10; have t_c11 := leI c11; have t_c12 := leI c12; have t_hkk := hkk; have t_hnn := hnn; have : (0 : Int32).toInt = 0 := qI_0; have : (40 : Int32).toInt = 40 := qI_40; omega))
          refine va_iast hx hb hK.1 hP hD hS 1 0 rfl rfl (vp_in_nI (by first | omega | (have t_b5 := b5; have t_b10 := b10; have t_c11 := leI c11; have t_c12 := leI c12; have t_hkk := hkk; have t_hnn := hnn; have : (0 : Int32).toInt = 0 := qI_0; have : (40 : Int32).toInt = 40 := qI_40; have t_n0 : (nI N).toInt = (N : Int) := tn944_ (); have t_n1 : (nI B).toInt = (B : Int) := tn945_ (); have t_n2 : (nI T).toInt = (T : Int) := tn946_ (); have t_n3 : (nI S).toInt = (S : Int) := tn947_ (); have t_n4 : (nI M).toInt = (M : Int) := tn948_ (); have t_n5 : (nI kk).toInt = (kk : Int) := tn950_ (); have t_n6 : (nI nn).toInt = (nn : Int) := tn951_ (); omega)) (by decide)) dX11_sheet_45 (fun H locs hP hD hS => ?_)
          rw [nI_clamp (by omega)] at hP hD
          refine lv_aload_n hx hb dX11_sheet_46 rfl (lv_at hl 0 rfl) ?_
          refine va_get (D := (dC, dI)) (ci := 11) (v := .ref lg) (C := RX11) (T := TX11) (N := 35) hx hb hg inG11 hown hK.1 hP 0 rfl rfl 32 (Nat.le_of_ble_eq_true rfl) (hg _ wt_910) (fun _ h9 => h9) rfl dX11_sheet_47 ?_
          refine lv_iload_n hx hb dX11_sheet_50 rfl (lv_at hl 1 rfl) ?_
          refine lv_iload_n hx hb dX11_sheet_51 rfl (lv_at hl 3 rfl) ?_
          refine va_iast hx hb hK.1 hP hD hS 2 0 rfl rfl (vp_in_nI (by first | omega | (have t_b5 := b5; have t_b10 := b10; have t_c11 := leI c11; have t_c12 := leI c12; have t_hkk := hkk; have t_hnn := hnn; have : (0 : Int32).toInt = 0 := qI_0; have : (40 : Int32).toInt = 40 := qI_40; have t_n0 : (nI N).toInt = (N : Int) := tn944_ (); have t_n1 : (nI B).toInt = (B : Int) := tn945_ (); have t_n2 : (nI T).toInt = (T : Int) := tn946_ (); have t_n3 : (nI S).toInt = (S : Int) := tn947_ (); have t_n4 : (nI M).toInt = (M : Int) := tn948_ (); have t_n5 : (nI kk).toInt = (kk : Int) := tn950_ (); have t_n6 : (nI nn).toInt = (nn : Int) := tn951_ (); omega)) (by decide)) dX11_sheet_52 (fun H locs hP hD hS => ?_)
          rw [nI_clamp (by omega)] at hP hD
          refine lv_iconst (v := 0) hx hb dX11_sheet_53 rfl ?_
          refine lv_istore (lv' := [(4, .int 0), (0, .ref h0), (1, .int (nI kk)), (2, .int lane), (3, .int (nI nn))]) hx hb dX11_sheet_54 hl (by decide) rfl (fun ls hl => ?_)
          have loop56_15 : ∀ (nf j13 : Nat), 40 + 1 ≤ j13 + nf → j13 ≤ 40 → ∀ (g14 : Nat → Int32) (H : Heap) (locs : List Loc), va_P (dC, dI) vwCl [(h0, .inr (11, [.ref st, .int (nI N), .int (nI B), .ref rp, .int vrs, .int vrb, .int vhs, .int vca, .int vxs, .int vxb, .ref tp, .int (nI T), .int vfa, .int vbr, .int vba, .int vsp, .int vhe, .int vtk, .int vva, .ref cu, .ref lt, .ref od, .ref th, .ref be, .ref ln, .int (nI S), .ref ma, .int (nI M), .ref ah, .ref bh, .ref ik, .ref la, .ref lg, .ref ce, .int vto])), (la, .inl (G 0, 4, .inl (upd fla kk lane))), (lg, .inl (G 0, 4, .inl (upd flg kk (nI nn)))), (ce, .inl (G 0, 160, .inl g14))] H → va_D A [(h0, .inr (11, [.ref st, .int (nI N), .int (nI B), .ref rp, .int vrs, .int vrb, .int vhs, .int vca, .int vxs, .int vxb, .ref tp, .int (nI T), .int vfa, .int vbr, .int vba, .int vsp, .int vhe, .int vtk, .int vva, .ref cu, .ref lt, .ref od, .ref th, .ref be, .ref ln, .int (nI S), .ref ma, .int (nI M), .ref ah, .ref bh, .ref ik, .ref la, .ref lg, .ref ce, .int vto])), (la, .inl (G 0, 4, .inl (upd fla kk lane))), (lg, .inl (G 0, 4, .inl (upd flg kk (nI nn)))), (ce, .inl (G 0, 160, .inl g14))] → va_S A s.heap H locs → ∀ (ls : Array Slot), lv_has ls 5 [(4, .int (nI j13)), (0, .ref h0), (1, .int (nI kk)), (2, .int lane), (3, .int (nI nn))] → W p l e (headSpec (Cond.code yX11_sheet cX11_sheet 5 (some .int) :: GT) ({ frames := 1, cells := 0, slots := 0, locals := 25 } : Room)).room s m ([.ref h0, .int (nI kk), .int lane, .int (nI nn)] : List Value).toArray below meth c H locs 0 0 (MQ below (va_Qi (fun (r : Int32) (u : (Nat → Int32) × (Nat → Int32) × (Nat → Int32)) => match u with | (ola, olg, oce) => (r = if (0 ≤ (nI kk).toInt ∧ (nI kk).toInt < 4) ∧ (0 ≤ lane.toInt ∧ lane.toInt ≤ 2) ∧ (nI nn).toInt ≤ 40 then (if (nI nn).toInt < 0 then -14 else 1) else -1) ∧ (ola = (if ((0 ≤ (nI kk).toInt ∧ (nI kk).toInt < 4) ∧ (0 ≤ lane.toInt ∧ lane.toInt ≤ 2) ∧ (nI nn).toInt ≤ 40 ∧ 0 ≤ (nI nn).toInt) then upd fla (nI kk).toNatClampNeg lane else fla) ∧ olg = (if ((0 ≤ (nI kk).toInt ∧ (nI kk).toInt < 4) ∧ (0 ≤ lane.toInt ∧ lane.toInt ≤ 2) ∧ (nI nn).toInt ≤ 40 ∧ 0 ≤ (nI nn).toInt) then upd flg (nI kk).toNatClampNeg (nI nn) else flg)) ∧ ∀ q : Nat, q < 4 → 0 ≤ (olg q).toInt ∧ (olg q).toInt ≤ 40) (fun (u : (Nat → Int32) × (Nat → Int32) × (Nat → Int32)) (t : State) => match u with | (ola, olg, oce) => va_P (dC, dI) vwCl [(h0, .inr (11, [.ref st, .int (nI N), .int (nI B), .ref rp, .int vrs, .int vrb, .int vhs, .int vca, .int vxs, .int vxb, .ref tp, .int (nI T), .int vfa, .int vbr, .int vba, .int vsp, .int vhe, .int vtk, .int vva, .ref cu, .ref lt, .ref od, .ref th, .ref be, .ref ln, .int (nI S), .ref ma, .int (nI M), .ref ah, .ref bh, .ref ik, .ref la, .ref lg, .ref ce, .int vto])), (la, .inl (G 0, 4, .inl ola)), (lg, .inl (G 0, 4, .inl olg)), (ce, .inl (G 0, 160, .inl oce))] t.heap ∧ va_D A [(h0, .inr (11, [.ref st, .int (nI N), .int (nI B), .ref rp, .int vrs, .int vrb, .int vhs, .int vca, .int vxs, .int vxb, .ref tp, .int (nI T), .int vfa, .int vbr, .int vba, .int vsp, .int vhe, .int vtk, .int vva, .ref cu, .ref lt, .ref od, .ref th, .ref be, .ref ln, .int (nI S), .ref ma, .int (nI M), .ref ah, .ref bh, .ref ik, .ref la, .ref lg, .ref ce, .int vto])), (la, .inl (G 0, 4, .inl ola)), (lg, .inl (G 0, 4, .inl olg)), (ce, .inl (G 0, 160, .inl oce))]) A) ([.ref h0, .int (nI kk), .int lane, .int (nI nn)] : List Value).toArray s 0 0 A) (F0 m 56 ls []) := by
            intro nf
            induction nf with
            | zero => intro j13 h1 h2; exact absurd h1 (by omega)
            | succ nf ih56_15 =>
              intro j13 hn16 hj17 g14 H locs hP hD hS ls hl
              refine lv_iload hx hb dX11_sheet_56 (lv_at hl 0 rfl) ?_
              refine lv_bipush (v := 40) hx hb dX11_sheet_58 rfl ?_
              refine lv_icmp_ge (tgt := 82) hx hb dX11_sheet_60 rfl (fun c18 => ?_) (fun c18 => ?_)
              · skip
                have tn952_ : nIT j13 := fun _ => nI_toInt (by first | omega | (have t := leI c18; omega))
                have n19 : 40 ≤ j13 := by have t := leI c18; rw [show (nI (j13)).toInt = ((j13 : Nat) : Int) from tn952_ ()] at t; have : (40 : Int32).toInt = 40 := qI_40; omega
                refine lv_iconst (v := 1) hx hb dX11_sheet_82 rfl ?_
                have hpost : (1 : Int32) = if (0 ≤ (nI kk).toInt ∧ (nI kk).toInt < 4) ∧ (0 ≤ lane.toInt ∧ lane.toInt ≤ 2) ∧ (nI nn).toInt ≤ 40 then (if (nI nn).toInt < 0 then -14 else 1) else -1 := by
                  have t_b5 := b5
                  have t_b10 := b10
                  have t_c11 := leI c11
                  have t_c12 := leI c12
                  have t_hkk := hkk
                  have t_hnn := hnn
                  have t_hj17 := hj17
                  have t_n19 := n19
                  have : (0 : Int32).toInt = 0 := qI_0
                  have : (40 : Int32).toInt = 40 := qI_40
                  have t_n0 : (nI N).toInt = (N : Int) := tn944_ ()
                  have t_n1 : (nI B).toInt = (B : Int) := tn945_ ()
                  have t_n2 : (nI T).toInt = (T : Int) := tn946_ ()
                  have t_n3 : (nI S).toInt = (S : Int) := tn947_ ()
                  have t_n4 : (nI M).toInt = (M : Int) := tn948_ ()
                  have t_n5 : (nI kk).toInt = (kk : Int) := tn950_ ()
                  have t_n6 : (nI nn).toInt = (nn : Int) := tn951_ ()
                  have t_n7 : (nI j13).toInt = (j13 : Int) := tn952_ ()
                  first | rfl | ((repeat' split) <;> first | rfl | omega)
                obtain ⟨hP9, hD9⟩ := va_sub2 (ws' := [(h0, .inr (11, [.ref st, .int (nI N), .int (nI B), .ref rp, .int vrs, .int vrb, .int vhs, .int vca, .int vxs, .int vxb, .ref tp, .int (nI T), .int vfa, .int vbr, .int vba, .int vsp, .int vhe, .int vtk, .int vva, .ref cu, .ref lt, .ref od, .ref th, .ref be, .ref ln, .int (nI S), .ref ma, .int (nI M), .ref ah, .ref bh, .ref ik, .ref la, .ref lg, .ref ce, .int vto])), (la, .inl (G 0, 4, .inl (upd fla kk lane))), (lg, .inl (G 0, 4, .inl (upd flg kk (nI nn)))), (ce, .inl (G 0, 160, .inl g14))]) hP hD [0, 1, 2, 3] (by decide) rfl
                refine W.widen (k := 0) (n := 0) (Nat.le_of_ble_eq_true rfl) (Nat.le_of_ble_eq_true rfl) ?_
                exact W.iret (v := 1) hx hb hr (fun t ht hW => ⟨⟨1, ((upd fla kk lane), (upd flg kk (nI nn)), g14), rfl, ⟨hpost, (by have t_b5 := b5; have t_b10 := b10; have t_c11 := leI c11; have t_c12 := leI c12; have t_hkk := hkk; have t_hnn := hnn; have t_hj17 := hj17; have t_n19 := n19; have : (0 : Int32).toInt = 0 := qI_0; have : (40 : Int32).toInt = 40 := qI_40; have t_n0 : (nI N).toInt = (N : Int) := tn944_ (); have t_n1 : (nI B).toInt = (B : Int) := tn945_ (); have t_n2 : (nI T).toInt = (T : Int) := tn946_ (); have t_n3 : (nI S).toInt = (S : Int) := tn947_ (); have t_n4 : (nI M).toInt = (M : Int) := tn948_ (); have t_n5 : (nI kk).toInt = (kk : Int) := tn950_ (); have t_n6 : (nI nn).toInt = (nn : Int) := tn951_ (); have t_n7 : (nI j13).toInt = (j13 : Int) := tn952_ (); refine ⟨⟨?_, ?_⟩, hz_upd hz (by omega)⟩ <;> rw [if_pos (by omega), nI_clamp (by omega)])⟩, ⟨by rw [ht]; exact hP9, hD9⟩⟩, hS.F ht⟩) hS.2.2 dX11_sheet_83
              · skip
                have tn953_ : nIT j13 := fun _ => nI_toInt (by first | omega | (have t := nleI c18; omega))
                have n20 : j13 < 40 := by have t := nleI c18; rw [show (nI (j13)).toInt = ((j13 : Nat) : Int) from tn953_ ()] at t; have : (40 : Int32).toInt = 40 := qI_40; omega
                refine lv_aload_n hx hb dX11_sheet_63 rfl (lv_at hl 1 rfl) ?_
                refine va_get (D := (dC, dI)) (ci := 11) (v := .ref ce) (C := RX11) (T := TX11) (N := 35) hx hb hg inG11 hown hK.1 hP 0 rfl rfl 33 (Nat.le_of_ble_eq_true rfl) (hg _ wt_911) (fun _ h9 => h9) rfl dX11_sheet_64 ?_
                refine lv_bipush (v := 40) hx hb dX11_sheet_67 rfl ?_
                refine lv_iload_n hx hb dX11_sheet_69 rfl (lv_at hl 2 rfl) ?_
                refine lv_imul hx hb dX11_sheet_70 ?_
                refine lv_cg (y := nI (40 * kk)) (by rw [show (40 : Int32) = nI 40 from rfl]; exact pk_mul _ _) ?_
                refine lv_iload hx hb dX11_sheet_71 (lv_at hl 0 rfl) ?_
                refine lv_iadd hx hb dX11_sheet_73 ?_
                refine lv_cg (y := nI ((40 * kk) + j13)) (by exact nI_add _ _) ?_
                refine lv_iconst (v := 0) hx hb dX11_sheet_74 rfl ?_
                refine va_iast hx hb hK.1 hP hD hS 3 0 rfl rfl (vp_in_nI (by first | omega | (have t_b5 := b5; have t_b10 := b10; have t_c11 := leI c11; have t_c12 := leI c12; have t_hkk := hkk; have t_hnn := hnn; have t_hj17 := hj17; have t_n20 := n20; have : (0 : Int32).toInt = 0 := qI_0; have : (40 : Int32).toInt = 40 := qI_40; have t_n0 : (nI N).toInt = (N : Int) := tn944_ (); have t_n1 : (nI B).toInt = (B : Int) := tn945_ (); have t_n2 : (nI T).toInt = (T : Int) := tn946_ (); have t_n3 : (nI S).toInt = (S : Int) := tn947_ (); have t_n4 : (nI M).toInt = (M : Int) := tn948_ (); have t_n5 : (nI kk).toInt = (kk : Int) := tn950_ (); have t_n6 : (nI nn).toInt = (nn : Int) := tn951_ (); have t_n7 : (nI j13).toInt = (j13 : Int) := tn953_ (); omega)) (by decide)) dX11_sheet_75 (fun H locs hP hD hS => ?_)
                rw [nI_clamp (by omega)] at hP hD
                refine lv_iinc (v := nI (j13 + 1)) (lv' := [(4, .int (nI (j13 + 1))), (0, .ref h0), (1, .int (nI kk)), (2, .int lane), (3, .int (nI nn))]) hx hb dX11_sheet_76 hl (k := 0) rfl (by rw [show Int32.ofInt 1 = nI 1 from by decide]; exact nI_add _ _) (by decide) rfl (fun ls hl => ?_)
                refine lv_goto (tgt := 56) hx hb dX11_sheet_79 rfl ?_
                exact ih56_15 (j13 + 1) (by omega) (by omega) (upd g14 ((40 * kk) + j13) 0) _ _ hP hD hS ls (lv_sub hl [0, 1, 2, 3, 4] rfl)
          exact loop56_15 (40 + 1) 0 (by omega) (by omega) fce _ _ hP hD hS ls (lv_sub hl [0, 1, 2, 3, 4] rfl)
        · skip
          refine lv_bipush (v := (-14)) hx hb dX11_sheet_36 rfl ?_
          have hpost : ((-14) : Int32) = if (0 ≤ k.toInt ∧ k.toInt < 4) ∧ (0 ≤ lane.toInt ∧ lane.toInt ≤ 2) ∧ n.toInt ≤ 40 then (if n.toInt < 0 then -14 else 1) else -1 := by
            have t_b5 := b5
            have t_b10 := b10
            have t_c11 := leI c11
            have t_c12 := nleI c12
            have : (0 : Int32).toInt = 0 := qI_0
            have : (40 : Int32).toInt = 40 := qI_40
            have t_n0 : (nI N).toInt = (N : Int) := tn944_ ()
            have t_n1 : (nI B).toInt = (B : Int) := tn945_ ()
            have t_n2 : (nI T).toInt = (T : Int) := tn946_ ()
            have t_n3 : (nI S).toInt = (S : Int) := tn947_ ()
            have t_n4 : (nI M).toInt = (M : Int) := tn948_ ()
            first | rfl | ((repeat' split) <;> first | rfl | omega)
          obtain ⟨hP9, hD9⟩ := va_sub2 (ws' := [(h0, .inr (11, [.ref st, .int (nI N), .int (nI B), .ref rp, .int vrs, .int vrb, .int vhs, .int vca, .int vxs, .int vxb, .ref tp, .int (nI T), .int vfa, .int vbr, .int vba, .int vsp, .int vhe, .int vtk, .int vva, .ref cu, .ref lt, .ref od, .ref th, .ref be, .ref ln, .int (nI S), .ref ma, .int (nI M), .ref ah, .ref bh, .ref ik, .ref la, .ref lg, .ref ce, .int vto])), (la, .inl (G 0, 4, .inl fla)), (lg, .inl (G 0, 4, .inl flg)), (ce, .inl (G 0, 160, .inl fce))]) hP hD [0, 1, 2, 3] (by decide) rfl
          refine W.widen (k := 0) (n := 0) (Nat.le_of_ble_eq_true rfl) (Nat.le_of_ble_eq_true rfl) ?_
          exact W.iret (v := (-14)) hx hb hr (fun t ht hW => ⟨⟨(-14), (fla, flg, fce), rfl, ⟨hpost, (by have t_b5 := b5; have t_b10 := b10; have t_c11 := leI c11; have t_c12 := nleI c12; have : (0 : Int32).toInt = 0 := qI_0; have : (40 : Int32).toInt = 40 := qI_40; have t_n0 : (nI N).toInt = (N : Int) := tn944_ (); have t_n1 : (nI B).toInt = (B : Int) := tn945_ (); have t_n2 : (nI T).toInt = (T : Int) := tn946_ (); have t_n3 : (nI S).toInt = (S : Int) := tn947_ (); have t_n4 : (nI M).toInt = (M : Int) := tn948_ (); refine ⟨⟨?_, ?_⟩, hz⟩ <;> rw [if_neg (by omega)])⟩, ⟨by rw [ht]; exact hP9, hD9⟩⟩, hS.F ht⟩) hS.2.2 dX11_sheet_38
      · skip
        refine lv_iconst (v := (-1)) hx hb dX11_sheet_30 rfl ?_
        have hpost : ((-1) : Int32) = if (0 ≤ k.toInt ∧ k.toInt < 4) ∧ (0 ≤ lane.toInt ∧ lane.toInt ≤ 2) ∧ n.toInt ≤ 40 then (if n.toInt < 0 then -14 else 1) else -1 := by
          have t_b5 := b5
          have t_b10 := b10
          have t_c11 := nleI c11
          have : (40 : Int32).toInt = 40 := qI_40
          have t_n0 : (nI N).toInt = (N : Int) := tn944_ ()
          have t_n1 : (nI B).toInt = (B : Int) := tn945_ ()
          have t_n2 : (nI T).toInt = (T : Int) := tn946_ ()
          have t_n3 : (nI S).toInt = (S : Int) := tn947_ ()
          have t_n4 : (nI M).toInt = (M : Int) := tn948_ ()
          first | rfl | ((repeat' split) <;> first | rfl | omega)
        obtain ⟨hP9, hD9⟩ := va_sub2 (ws' := [(h0, .inr (11, [.ref st, .int (nI N), .int (nI B), .ref rp, .int vrs, .int vrb, .int vhs, .int vca, .int vxs, .int vxb, .ref tp, .int (nI T), .int vfa, .int vbr, .int vba, .int vsp, .int vhe, .int vtk, .int vva, .ref cu, .ref lt, .ref od, .ref th, .ref be, .ref ln, .int (nI S), .ref ma, .int (nI M), .ref ah, .ref bh, .ref ik, .ref la, .ref lg, .ref ce, .int vto])), (la, .inl (G 0, 4, .inl fla)), (lg, .inl (G 0, 4, .inl flg)), (ce, .inl (G 0, 160, .inl fce))]) hP hD [0, 1, 2, 3] (by decide) rfl
        refine W.widen (k := 0) (n := 0) (Nat.le_of_ble_eq_true rfl) (Nat.le_of_ble_eq_true rfl) ?_
        exact W.iret (v := (-1)) hx hb hr (fun t ht hW => ⟨⟨(-1), (fla, flg, fce), rfl, ⟨hpost, (by have t_b5 := b5; have t_b10 := b10; have t_c11 := nleI c11; have : (40 : Int32).toInt = 40 := qI_40; have t_n0 : (nI N).toInt = (N : Int) := tn944_ (); have t_n1 : (nI B).toInt = (B : Int) := tn945_ (); have t_n2 : (nI T).toInt = (T : Int) := tn946_ (); have t_n3 : (nI S).toInt = (S : Int) := tn947_ (); have t_n4 : (nI M).toInt = (M : Int) := tn948_ (); refine ⟨⟨?_, ?_⟩, hz⟩ <;> rw [if_neg (by omega)])⟩, ⟨by rw [ht]; exact hP9, hD9⟩⟩, hS.F ht⟩) hS.2.2 dX11_sheet_31

set_option maxHeartbeats 1000000 in
set_option maxRecDepth 100000 in
theorem c_X11_lay (l : Launch) (dC : Nat → ClassId) (dI : Nat → Nat → Nat) (G : Nat → ClassId) (sz : Nat) (h0 st N B rp tp T cu lt od th be ln S ma M ah bh ik la lg ce : Nat) (k i v vrs vrb vhs vca vxs vxb vfa vbr vba vsp vhe vtk vva vto : Int32) (fla : Nat → Int32) (flg : Nat → Int32) (fce : Nat → Int32) (hN : N ≤ 10) (hB : B ≤ 6) (hT : T ≤ 320) (hS0 : S ≤ 8) (hM : M ≤ 6) (hz : ∀ q : Nat, q < 4 → 0 ≤ (flg q).toInt ∧ (flg q).toInt ≤ 40) : Met l yX11_lay (Cond.code yX11_lay cX11_lay 4 (some .int) :: GT) ({ frames := 1, cells := 0, slots := 0, locals := 25 } : Room) (PcW [.ref h0, .int k, .int i, .int v] dC dI G [(h0, .inr (11, [.ref st, .int (nI N), .int (nI B), .ref rp, .int vrs, .int vrb, .int vhs, .int vca, .int vxs, .int vxb, .ref tp, .int (nI T), .int vfa, .int vbr, .int vba, .int vsp, .int vhe, .int vtk, .int vva, .ref cu, .ref lt, .ref od, .ref th, .ref be, .ref ln, .int (nI S), .ref ma, .int (nI M), .ref ah, .ref bh, .ref ik, .ref la, .ref lg, .ref ce, .int vto])), (la, .inl (G 0, 4, .inl fla)), (lg, .inl (G 0, 4, .inl flg)), (ce, .inl (G 0, 160, .inl fce))] sz) (va_Qi (fun (r : Int32) (u : (Nat → Int32)) => match u with | oce => (r = if 0 ≤ k.toInt ∧ k.toInt < 4 then (if fla k.toNatClampNeg = -4 then -11 else if 0 ≤ i.toInt ∧ i.toInt < (flg k.toNatClampNeg).toInt then 1 else -12) else -1) ∧ True) (fun (u : (Nat → Int32)) (t : State) => match u with | oce => va_P (dC, dI) vwCl [(h0, .inr (11, [.ref st, .int (nI N), .int (nI B), .ref rp, .int vrs, .int vrb, .int vhs, .int vca, .int vxs, .int vxb, .ref tp, .int (nI T), .int vfa, .int vbr, .int vba, .int vsp, .int vhe, .int vtk, .int vva, .ref cu, .ref lt, .ref od, .ref th, .ref be, .ref ln, .int (nI S), .ref ma, .int (nI M), .ref ah, .ref bh, .ref ik, .ref la, .ref lg, .ref ce, .int vto])), (la, .inl (G 0, 4, .inl fla)), (lg, .inl (G 0, 4, .inl flg)), (ce, .inl (G 0, 160, .inl oce))] t.heap ∧ va_D (va_A [(h0, .inr (11, [.ref st, .int (nI N), .int (nI B), .ref rp, .int vrs, .int vrb, .int vhs, .int vca, .int vxs, .int vxb, .ref tp, .int (nI T), .int vfa, .int vbr, .int vba, .int vsp, .int vhe, .int vtk, .int vva, .ref cu, .ref lt, .ref od, .ref th, .ref be, .ref ln, .int (nI S), .ref ma, .int (nI M), .ref ah, .ref bh, .ref ik, .ref la, .ref lg, .ref ce, .int vto])), (la, .inl (G 0, 4, .inl fla)), (lg, .inl (G 0, 4, .inl flg)), (ce, .inl (G 0, 160, .inl fce))] sz) [(h0, .inr (11, [.ref st, .int (nI N), .int (nI B), .ref rp, .int vrs, .int vrb, .int vhs, .int vca, .int vxs, .int vxb, .ref tp, .int (nI T), .int vfa, .int vbr, .int vba, .int vsp, .int vhe, .int vtk, .int vva, .ref cu, .ref lt, .ref od, .ref th, .ref be, .ref ln, .int (nI S), .ref ma, .int (nI M), .ref ah, .ref bh, .ref ik, .ref la, .ref lg, .ref ce, .int vto])), (la, .inl (G 0, 4, .inl fla)), (lg, .inl (G 0, 4, .inl flg)), (ce, .inl (G 0, 160, .inl oce))]) (va_A [(h0, .inr (11, [.ref st, .int (nI N), .int (nI B), .ref rp, .int vrs, .int vrb, .int vhs, .int vca, .int vxs, .int vxb, .ref tp, .int (nI T), .int vfa, .int vbr, .int vba, .int vsp, .int vhe, .int vtk, .int vva, .ref cu, .ref lt, .ref od, .ref th, .ref be, .ref ln, .int (nI S), .ref ma, .int (nI M), .ref ah, .ref bh, .ref ik, .ref la, .ref lg, .ref ce, .int vto])), (la, .inl (G 0, 4, .inl fla)), (lg, .inl (G 0, 4, .inl flg)), (ce, .inl (G 0, 160, .inl fce))] sz)) 0 0 (va_A [(h0, .inr (11, [.ref st, .int (nI N), .int (nI B), .ref rp, .int vrs, .int vrb, .int vhs, .int vca, .int vxs, .int vxb, .ref tp, .int (nI T), .int vfa, .int vbr, .int vba, .int vsp, .int vhe, .int vtk, .int vva, .ref cu, .ref lt, .ref od, .ref th, .ref be, .ref ln, .int (nI S), .ref ma, .int (nI M), .ref ah, .ref bh, .ref ik, .ref la, .ref lg, .ref ce, .int vto])), (la, .inl (G 0, 4, .inl fla)), (lg, .inl (G 0, 4, .inl flg)), (ce, .inl (G 0, 160, .inl fce))] sz) := by
  have tn954_ : nIT N := fun _ => nI_toInt (by omega)
  have tn955_ : nIT B := fun _ => nI_toInt (by omega)
  have tn956_ : nIT T := fun _ => nI_toInt (by omega)
  have tn957_ : nIT S := fun _ => nI_toInt (by omega)
  have tn958_ : nIT M := fun _ => nI_toInt (by omega)
  refine Met.ofW (cc := cX11_lay) (maxL := 4) (ret := (some .int)) (by decide) rfl ?_
  intro p e s m args below meth c s₁ Bd hml hv
  obtain ⟨rfl, hsz, hP, hK, hD0⟩ := hv
  have hx := Bd.exec
  have hb := Bd.bytes
  have hr := Bd.returns
  have hg : ∀ w ∈ GT, w.before ([.ref h0, .int k, .int i, .int v] : List Value).toArray s = true := fun w h => atoms_spec (ws := Cond.code yX11_lay cX11_lay 4 (some .int) :: GT) Bd.pre w (List.mem_cons_of_mem _ h)
  have hown : s.vm.findClass RX11 = some m.cls := findClass_of_methodNamed Bd.named
  have hlocks := Bd.notSynchronized
  subst hsz
  have hD := hD0.self (sz := s.heap.size)
  generalize hAe : va_A [(h0, .inr (11, [.ref st, .int (nI N), .int (nI B), .ref rp, .int vrs, .int vrb, .int vhs, .int vca, .int vxs, .int vxb, .ref tp, .int (nI T), .int vfa, .int vbr, .int vba, .int vsp, .int vhe, .int vtk, .int vva, .ref cu, .ref lt, .ref od, .ref th, .ref be, .ref ln, .int (nI S), .ref ma, .int (nI M), .ref ah, .ref bh, .ref ik, .ref la, .ref lg, .ref ce, .int vto])), (la, .inl (G 0, 4, .inl fla)), (lg, .inl (G 0, 4, .inl flg)), (ce, .inl (G 0, 160, .inl fce))] s.heap.size = A at hD ⊢
  have hA : ∀ q : Nat, s.heap.size ≤ q → A q := fun q h => by rw [← hAe]; exact Or.inr h
  have hS : va_S A s.heap s.heap [] := va_S.rf
  have hl := lv_entry ([.ref h0, .int k, .int i, .int v]) (n := 4) (Nat.le_of_ble_eq_true rfl)
  rw [lg_entry_eq]
  generalize (lg_sl ([.ref h0, .int k, .int i, .int v]) ++ List.replicate (4 - (lg_sl ([.ref h0, .int k, .int i, .int v])).length) Slot.unset).toArray = ls at hl ⊢
  have hl : lv_has ls 4 [(0, .ref h0), (1, .int k), (2, .int i), (3, .int v)] := hl
  refine lv_iload_n hx hb dX11_lay_0 rfl (lv_at hl 1 rfl) ?_
  refine lv_i2l (v := k.toInt64) hx hb dX11_lay_1 rfl ?_
  refine lv_lconst (v := 0) hx hb dX11_lay_2 (by decide) ?_
  refine lv_ldc2 (v := 3) hx hb hown (hg _ wt_1023) dX11_lay_3 ?_
  have hPc := hP.sub (ws' := []) [] rfl
  refine va_calli (va_runS (As := [.long k.toInt64, .long 0, .long 3]) (rest := []) ⟨hx, hb, hml, hown, hg⟩ (c_X11_in l dC dI G _ k.toInt64 0 3) (kwS hg mfX11_in wt_992 ⟨Nat.le_of_ble_eq_true rfl, Nat.le_of_ble_eq_true rfl⟩) (preSR hK hPc) rfl rfl hl.1 rfl (lv_room (Nat.le_of_ble_eq_true rfl)) dX11_lay_6 ⟨Nat.le_of_ble_eq_true rfl, Nat.le_of_ble_eq_true rfl⟩) hS (fun q h1 h2 => absurd h2 (Nat.not_le.mpr h1)) (fun q h => hA q (Nat.le_trans hS.1 h)) (fun r1 ur1 t H1 locs ht hvm w2 hB hz1 hk1 hS => ?_)
  have hP := keepR hP hk1
  obtain ⟨w2, w2x⟩ := w2
  try simp only [l_ii, show (0 : Int64).toInt = 0 from by decide, show (3 : Int64).toInt = 3 from by decide] at w2
  subst w2
  refine lv_if_ne (tgt := 14) hx hb dX11_lay_9 rfl (fun c3 => ?_) (fun c3 => ?_)
  · skip
    have b4 := if10_p c3
    obtain ⟨kk, hkk, rfl⟩ : ∃ j : Nat, j < 4 ∧ k = nI j := by
      have t_b4 := b4
      have t_n0 : (nI N).toInt = (N : Int) := tn954_ ()
      have t_n1 : (nI B).toInt = (B : Int) := tn955_ ()
      have t_n2 : (nI T).toInt = (T : Int) := tn956_ ()
      have t_n3 : (nI S).toInt = (S : Int) := tn957_ ()
      have t_n4 : (nI M).toInt = (M : Int) := tn958_ ()
      exact i32_nat (by omega) (by omega)
    refine lv_aload_n hx hb dX11_lay_14 rfl (lv_at hl 0 rfl) ?_
    refine va_get (D := (dC, dI)) (ci := 11) (v := .ref la) (C := RX11) (T := TX11) (N := 35) hx hb hg inG11 hown hK.1 hP 0 rfl rfl 31 (Nat.le_of_ble_eq_true rfl) (hg _ wt_909) (fun _ h9 => h9) rfl dX11_lay_15 ?_
    refine lv_iload_n hx hb dX11_lay_18 rfl (lv_at hl 1 rfl) ?_
    have tn959_ : nIT kk := fun _ => nI_toInt (by first | omega | (have t_b4 := b4; have t_hkk := hkk; omega))
    refine va_iald hx hb hK.1 hP 1 0 rfl rfl (vp_in_nI (by first | omega | (have t_b4 := b4; have t_hkk := hkk; have t_n0 : (nI N).toInt = (N : Int) := tn954_ (); have t_n1 : (nI B).toInt = (B : Int) := tn955_ (); have t_n2 : (nI T).toInt = (T : Int) := tn956_ (); have t_n3 : (nI S).toInt = (S : Int) := tn957_ (); have t_n4 : (nI M).toInt = (M : Int) := tn958_ (); have t_n5 : (nI kk).toInt = (kk : Int) := tn959_ (); omega)) (by decide)) dX11_lay_19 ?_
    refine lv_cg (y := fla kk) (by rw [nI_clamp (by omega)]) ?_
    refine lv_bipush (v := (-4)) hx hb dX11_lay_20 rfl ?_
    refine lv_icmp_ne (tgt := 28) hx hb dX11_lay_22 rfl (fun c5 => ?_) (fun c5 => ?_)
    · skip
      refine lv_iload_n hx hb dX11_lay_28 rfl (lv_at hl 2 rfl) ?_
      refine lv_i2l (v := i.toInt64) hx hb dX11_lay_29 rfl ?_
      refine lv_lconst (v := 0) hx hb dX11_lay_30 (by decide) ?_
      refine lv_aload_n hx hb dX11_lay_31 rfl (lv_at hl 0 rfl) ?_
      refine va_get (D := (dC, dI)) (ci := 11) (v := .ref lg) (C := RX11) (T := TX11) (N := 35) hx hb hg inG11 hown hK.1 hP 0 rfl rfl 32 (Nat.le_of_ble_eq_true rfl) (hg _ wt_910) (fun _ h9 => h9) rfl dX11_lay_32 ?_
      refine lv_iload_n hx hb dX11_lay_35 rfl (lv_at hl 1 rfl) ?_
      refine va_iald hx hb hK.1 hP 2 0 rfl rfl (vp_in_nI (by first | omega | (have t_b4 := b4; have t_hkk := hkk; have t_c5 := neI c5; have : ((-4) : Int32).toInt = -4 := qI_m4; have t_n0 : (nI N).toInt = (N : Int) := tn954_ (); have t_n1 : (nI B).toInt = (B : Int) := tn955_ (); have t_n2 : (nI T).toInt = (T : Int) := tn956_ (); have t_n3 : (nI S).toInt = (S : Int) := tn957_ (); have t_n4 : (nI M).toInt = (M : Int) := tn958_ (); have t_n5 : (nI kk).toInt = (kk : Int) := tn959_ (); omega)) (by decide)) dX11_lay_36 ?_
      refine lv_cg (y := flg kk) (by rw [nI_clamp (by omega)]) ?_
      refine lv_iconst (v := 1) hx hb dX11_lay_37 rfl ?_
      refine lv_isub hx hb dX11_lay_38 ?_
      refine lv_i2l (v := ((flg kk) - 1).toInt64) hx hb dX11_lay_39 rfl ?_
      have hPc := hP.sub (ws' := []) [] rfl
      refine va_calli (va_runS (As := [.long i.toInt64, .long 0, .long (((flg kk) - 1).toInt64)]) (rest := []) ⟨hx, hb, hml, hown, hg⟩ (c_X11_in l dC dI G _ i.toInt64 0 (((flg kk) - 1).toInt64)) (kwS hg mfX11_in wt_992 ⟨Nat.le_of_ble_eq_true rfl, Nat.le_of_ble_eq_true rfl⟩) (preSR hK hPc) rfl rfl hl.1 rfl (lv_room (Nat.le_of_ble_eq_true rfl)) dX11_lay_40 ⟨Nat.le_of_ble_eq_true rfl, Nat.le_of_ble_eq_true rfl⟩) hS (fun q h1 h2 => absurd h2 (Nat.not_le.mpr h1)) (fun q h => hA q (Nat.le_trans hS.1 h)) (fun r6 ur6 t H1 locs ht hvm w7 hB hz1 hk1 hS => ?_)
      have hP := keepR hP hk1
      obtain ⟨w7, w7x⟩ := w7
      try simp only [l_ii, show (0 : Int64).toInt = 0 from by decide] at w7
      subst w7
      refine lv_if_ne (tgt := 49) hx hb dX11_lay_43 rfl (fun c8 => ?_) (fun c8 => ?_)
      · skip
        have b9 := if10_p c8
        have hzk := hz kk (by omega)
        have e9 := im1 (x := flg kk) hzk.1 hzk.2
        obtain ⟨ii, hii, rfl⟩ : ∃ j : Nat, j < 40 ∧ i = nI j := by
          have t_b4 := b4
          have t_hkk := hkk
          have t_c5 := neI c5
          have t_b9 := b9
          have : ((-4) : Int32).toInt = -4 := qI_m4
          have t_n0 : (nI N).toInt = (N : Int) := tn954_ ()
          have t_n1 : (nI B).toInt = (B : Int) := tn955_ ()
          have t_n2 : (nI T).toInt = (T : Int) := tn956_ ()
          have t_n3 : (nI S).toInt = (S : Int) := tn957_ ()
          have t_n4 : (nI M).toInt = (M : Int) := tn958_ ()
          have t_n5 : (nI kk).toInt = (kk : Int) := tn959_ ()
          exact i32_nat (by omega) (by omega)
        refine lv_aload_n hx hb dX11_lay_49 rfl (lv_at hl 0 rfl) ?_
        refine va_get (D := (dC, dI)) (ci := 11) (v := .ref ce) (C := RX11) (T := TX11) (N := 35) hx hb hg inG11 hown hK.1 hP 0 rfl rfl 33 (Nat.le_of_ble_eq_true rfl) (hg _ wt_911) (fun _ h9 => h9) rfl dX11_lay_50 ?_
        refine lv_bipush (v := 40) hx hb dX11_lay_53 rfl ?_
        refine lv_iload_n hx hb dX11_lay_55 rfl (lv_at hl 1 rfl) ?_
        refine lv_imul hx hb dX11_lay_56 ?_
        refine lv_cg (y := nI (40 * kk)) (by rw [show (40 : Int32) = nI 40 from rfl]; exact pk_mul _ _) ?_
        refine lv_iload_n hx hb dX11_lay_57 rfl (lv_at hl 2 rfl) ?_
        refine lv_iadd hx hb dX11_lay_58 ?_
        refine lv_cg (y := nI ((40 * kk) + ii)) (by exact nI_add _ _) ?_
        refine lv_aload_n hx hb dX11_lay_59 rfl (lv_at hl 0 rfl) ?_
        refine va_get (D := (dC, dI)) (ci := 11) (v := .ref la) (C := RX11) (T := TX11) (N := 35) hx hb hg inG11 hown hK.1 hP 0 rfl rfl 31 (Nat.le_of_ble_eq_true rfl) (hg _ wt_909) (fun _ h9 => h9) rfl dX11_lay_60 ?_
        refine lv_iload_n hx hb dX11_lay_63 rfl (lv_at hl 1 rfl) ?_
        have tn960_ : nIT ii := fun _ => nI_toInt (by first | omega | (have t_b4 := b4; have t_hkk := hkk; have t_c5 := neI c5; have t_b9 := b9; have t_hii := hii; have : ((-4) : Int32).toInt = -4 := qI_m4; omega))
        refine va_iald hx hb hK.1 hP 1 0 rfl rfl (vp_in_nI (by first | omega | (have t_b4 := b4; have t_hkk := hkk; have t_c5 := neI c5; have t_b9 := b9; have t_hii := hii; have : ((-4) : Int32).toInt = -4 := qI_m4; have t_n0 : (nI N).toInt = (N : Int) := tn954_ (); have t_n1 : (nI B).toInt = (B : Int) := tn955_ (); have t_n2 : (nI T).toInt = (T : Int) := tn956_ (); have t_n3 : (nI S).toInt = (S : Int) := tn957_ (); have t_n4 : (nI M).toInt = (M : Int) := tn958_ (); have t_n5 : (nI kk).toInt = (kk : Int) := tn959_ (); have t_n6 : (nI ii).toInt = (ii : Int) := tn960_ (); omega)) (by decide)) dX11_lay_64 ?_
        refine lv_cg (y := fla kk) (by rw [nI_clamp (by omega)]) ?_
        refine lv_if_ne (tgt := 78) hx hb dX11_lay_65 rfl (fun c10 => ?_) (fun c10 => ?_)
        · skip
          refine lv_aload_n hx hb dX11_lay_78 rfl (lv_at hl 0 rfl) ?_
          refine va_get (D := (dC, dI)) (ci := 11) (v := .ref la) (C := RX11) (T := TX11) (N := 35) hx hb hg inG11 hown hK.1 hP 0 rfl rfl 31 (Nat.le_of_ble_eq_true rfl) (hg _ wt_909) (fun _ h9 => h9) rfl dX11_lay_79 ?_
          refine lv_iload_n hx hb dX11_lay_82 rfl (lv_at hl 1 rfl) ?_
          refine va_iald hx hb hK.1 hP 1 0 rfl rfl (vp_in_nI (by first | omega | (have t_b4 := b4; have t_hkk := hkk; have t_c5 := neI c5; have t_b9 := b9; have t_hii := hii; have t_c10 := neI c10; have : ((-4) : Int32).toInt = -4 := qI_m4; have : (0 : Int32).toInt = 0 := qI_0; have t_n0 : (nI N).toInt = (N : Int) := tn954_ (); have t_n1 : (nI B).toInt = (B : Int) := tn955_ (); have t_n2 : (nI T).toInt = (T : Int) := tn956_ (); have t_n3 : (nI S).toInt = (S : Int) := tn957_ (); have t_n4 : (nI M).toInt = (M : Int) := tn958_ (); have t_n5 : (nI kk).toInt = (kk : Int) := tn959_ (); have t_n6 : (nI ii).toInt = (ii : Int) := tn960_ (); omega)) (by decide)) dX11_lay_83 ?_
          refine lv_cg (y := fla kk) (by rw [nI_clamp (by omega)]) ?_
          refine lv_iconst (v := 1) hx hb dX11_lay_84 rfl ?_
          refine lv_icmp_ne (tgt := 98) hx hb dX11_lay_85 rfl (fun c11 => ?_) (fun c11 => ?_)
          · skip
            refine lv_iload_n hx hb dX11_lay_98 rfl (lv_at hl 3 rfl) ?_
            refine va_iast hx hb hK.1 hP hD hS 3 0 rfl rfl (vp_in_nI (by first | omega | (have t_b4 := b4; have t_hkk := hkk; have t_c5 := neI c5; have t_b9 := b9; have t_hii := hii; have t_c10 := neI c10; have t_c11 := neI c11; have : ((-4) : Int32).toInt = -4 := qI_m4; have : (0 : Int32).toInt = 0 := qI_0; have : (1 : Int32).toInt = 1 := qI_1; have t_n0 : (nI N).toInt = (N : Int) := tn954_ (); have t_n1 : (nI B).toInt = (B : Int) := tn955_ (); have t_n2 : (nI T).toInt = (T : Int) := tn956_ (); have t_n3 : (nI S).toInt = (S : Int) := tn957_ (); have t_n4 : (nI M).toInt = (M : Int) := tn958_ (); have t_n5 : (nI kk).toInt = (kk : Int) := tn959_ (); have t_n6 : (nI ii).toInt = (ii : Int) := tn960_ (); omega)) (by decide)) dX11_lay_99 (fun H locs hP hD hS => ?_)
            rw [nI_clamp (by omega)] at hP hD
            refine lv_iconst (v := 1) hx hb dX11_lay_100 rfl ?_
            have hpost : (1 : Int32) = if 0 ≤ (nI kk).toInt ∧ (nI kk).toInt < 4 then (if fla (nI kk).toNatClampNeg = -4 then -11 else if 0 ≤ (nI ii).toInt ∧ (nI ii).toInt < (flg (nI kk).toNatClampNeg).toInt then 1 else -12) else -1 := by
              rw [nI_clamp (by (have t_b4 := b4; have t_hkk := hkk; have t_c5 := neI c5; have t_b9 := b9; have t_hii := hii; have t_c10 := neI c10; have t_c11 := neI c11; have : ((-4) : Int32).toInt = -4 := qI_m4; have : (0 : Int32).toInt = 0 := qI_0; have : (1 : Int32).toInt = 1 := qI_1; have t_n0 : (nI N).toInt = (N : Int) := tn954_ (); have t_n1 : (nI B).toInt = (B : Int) := tn955_ (); have t_n2 : (nI T).toInt = (T : Int) := tn956_ (); have t_n3 : (nI S).toInt = (S : Int) := tn957_ (); have t_n4 : (nI M).toInt = (M : Int) := tn958_ (); have t_n5 : (nI kk).toInt = (kk : Int) := tn959_ (); have t_n6 : (nI ii).toInt = (ii : Int) := tn960_ (); omega)), if_pos (by (have t_b4 := b4; have t_hkk := hkk; have t_c5 := neI c5; have t_b9 := b9; have t_hii := hii; have t_c10 := neI c10; have t_c11 := neI c11; have : ((-4) : Int32).toInt = -4 := qI_m4; have : (0 : Int32).toInt = 0 := qI_0; have : (1 : Int32).toInt = 1 := qI_1; have t_n0 : (nI N).toInt = (N : Int) := tn954_ (); have t_n1 : (nI B).toInt = (B : Int) := tn955_ (); have t_n2 : (nI T).toInt = (T : Int) := tn956_ (); have t_n3 : (nI S).toInt = (S : Int) := tn957_ (); have t_n4 : (nI M).toInt = (M : Int) := tn958_ (); have t_n5 : (nI kk).toInt = (kk : Int) := tn959_ (); have t_n6 : (nI ii).toInt = (ii : Int) := tn960_ (); omega)), if_neg (by assumption), if_pos (by (have t_b4 := b4; have t_hkk := hkk; have t_c5 := neI c5; have t_b9 := b9; have t_hii := hii; have t_c10 := neI c10; have t_c11 := neI c11; have : ((-4) : Int32).toInt = -4 := qI_m4; have : (0 : Int32).toInt = 0 := qI_0; have : (1 : Int32).toInt = 1 := qI_1; have t_n0 : (nI N).toInt = (N : Int) := tn954_ (); have t_n1 : (nI B).toInt = (B : Int) := tn955_ (); have t_n2 : (nI T).toInt = (T : Int) := tn956_ (); have t_n3 : (nI S).toInt = (S : Int) := tn957_ (); have t_n4 : (nI M).toInt = (M : Int) := tn958_ (); have t_n5 : (nI kk).toInt = (kk : Int) := tn959_ (); have t_n6 : (nI ii).toInt = (ii : Int) := tn960_ (); omega))]
            obtain ⟨hP9, hD9⟩ := va_sub2 (ws' := [(h0, .inr (11, [.ref st, .int (nI N), .int (nI B), .ref rp, .int vrs, .int vrb, .int vhs, .int vca, .int vxs, .int vxb, .ref tp, .int (nI T), .int vfa, .int vbr, .int vba, .int vsp, .int vhe, .int vtk, .int vva, .ref cu, .ref lt, .ref od, .ref th, .ref be, .ref ln, .int (nI S), .ref ma, .int (nI M), .ref ah, .ref bh, .ref ik, .ref la, .ref lg, .ref ce, .int vto])), (la, .inl (G 0, 4, .inl fla)), (lg, .inl (G 0, 4, .inl flg)), (ce, .inl (G 0, 160, .inl (upd fce ((40 * kk) + ii) v)))]) hP hD [0, 1, 2, 3] (by decide) rfl
            refine W.widen (k := 0) (n := 0) (Nat.le_of_ble_eq_true rfl) (Nat.le_of_ble_eq_true rfl) ?_
            exact W.iret (v := 1) hx hb hr (fun t ht hW => ⟨⟨1, (upd fce ((40 * kk) + ii) v), rfl, ⟨hpost, trivial⟩, ⟨by rw [ht]; exact hP9, hD9⟩⟩, hS.F ht⟩) hS.2.2 dX11_lay_101
          · skip
            refine lv_iload_n hx hb dX11_lay_88 rfl (lv_at hl 3 rfl) ?_
            refine lv_bipush (v := 16) hx hb dX11_lay_89 rfl ?_
            refine lv_ishl hx hb dX11_lay_91 ?_
            refine lv_bipush (v := 16) hx hb dX11_lay_92 rfl ?_
            refine lv_ishr hx hb dX11_lay_94 ?_
            refine lv_goto (tgt := 99) hx hb dX11_lay_95 rfl ?_
            refine va_iast hx hb hK.1 hP hD hS 3 0 rfl rfl (vp_in_nI (by first | omega | (have t_b4 := b4; have t_hkk := hkk; have t_c5 := neI c5; have t_b9 := b9; have t_hii := hii; have t_c10 := neI c10; have t_c11 := eqI c11; have : ((-4) : Int32).toInt = -4 := qI_m4; have : (0 : Int32).toInt = 0 := qI_0; have : (1 : Int32).toInt = 1 := qI_1; have t_n0 : (nI N).toInt = (N : Int) := tn954_ (); have t_n1 : (nI B).toInt = (B : Int) := tn955_ (); have t_n2 : (nI T).toInt = (T : Int) := tn956_ (); have t_n3 : (nI S).toInt = (S : Int) := tn957_ (); have t_n4 : (nI M).toInt = (M : Int) := tn958_ (); have t_n5 : (nI kk).toInt = (kk : Int) := tn959_ (); have t_n6 : (nI ii).toInt = (ii : Int) := tn960_ (); omega)) (by decide)) dX11_lay_99 (fun H locs hP hD hS => ?_)
            rw [nI_clamp (by omega)] at hP hD
            refine lv_iconst (v := 1) hx hb dX11_lay_100 rfl ?_
            have hpost : (1 : Int32) = if 0 ≤ (nI kk).toInt ∧ (nI kk).toInt < 4 then (if fla (nI kk).toNatClampNeg = -4 then -11 else if 0 ≤ (nI ii).toInt ∧ (nI ii).toInt < (flg (nI kk).toNatClampNeg).toInt then 1 else -12) else -1 := by
              rw [nI_clamp (by (have t_b4 := b4; have t_hkk := hkk; have t_c5 := neI c5; have t_b9 := b9; have t_hii := hii; have t_c10 := neI c10; have t_c11 := eqI c11; have : ((-4) : Int32).toInt = -4 := qI_m4; have : (0 : Int32).toInt = 0 := qI_0; have : (1 : Int32).toInt = 1 := qI_1; have t_n0 : (nI N).toInt = (N : Int) := tn954_ (); have t_n1 : (nI B).toInt = (B : Int) := tn955_ (); have t_n2 : (nI T).toInt = (T : Int) := tn956_ (); have t_n3 : (nI S).toInt = (S : Int) := tn957_ (); have t_n4 : (nI M).toInt = (M : Int) := tn958_ (); have t_n5 : (nI kk).toInt = (kk : Int) := tn959_ (); have t_n6 : (nI ii).toInt = (ii : Int) := tn960_ (); omega)), if_pos (by (have t_b4 := b4; have t_hkk := hkk; have t_c5 := neI c5; have t_b9 := b9; have t_hii := hii; have t_c10 := neI c10; have t_c11 := eqI c11; have : ((-4) : Int32).toInt = -4 := qI_m4; have : (0 : Int32).toInt = 0 := qI_0; have : (1 : Int32).toInt = 1 := qI_1; have t_n0 : (nI N).toInt = (N : Int) := tn954_ (); have t_n1 : (nI B).toInt = (B : Int) := tn955_ (); have t_n2 : (nI T).toInt = (T : Int) := tn956_ (); have t_n3 : (nI S).toInt = (S : Int) := tn957_ (); have t_n4 : (nI M).toInt = (M : Int) := tn958_ (); have t_n5 : (nI kk).toInt = (kk : Int) := tn959_ (); have t_n6 : (nI ii).toInt = (ii : Int) := tn960_ (); omega)), if_neg (by assumption), if_pos (by (have t_b4 := b4; have t_hkk := hkk; have t_c5 := neI c5; have t_b9 := b9; have t_hii := hii; have t_c10 := neI c10; have t_c11 := eqI c11; have : ((-4) : Int32).toInt = -4 := qI_m4; have : (0 : Int32).toInt = 0 := qI_0; have : (1 : Int32).toInt = 1 := qI_1; have t_n0 : (nI N).toInt = (N : Int) := tn954_ (); have t_n1 : (nI B).toInt = (B : Int) := tn955_ (); have t_n2 : (nI T).toInt = (T : Int) := tn956_ (); have t_n3 : (nI S).toInt = (S : Int) := tn957_ (); have t_n4 : (nI M).toInt = (M : Int) := tn958_ (); have t_n5 : (nI kk).toInt = (kk : Int) := tn959_ (); have t_n6 : (nI ii).toInt = (ii : Int) := tn960_ (); omega))]
            obtain ⟨hP9, hD9⟩ := va_sub2 (ws' := [(h0, .inr (11, [.ref st, .int (nI N), .int (nI B), .ref rp, .int vrs, .int vrb, .int vhs, .int vca, .int vxs, .int vxb, .ref tp, .int (nI T), .int vfa, .int vbr, .int vba, .int vsp, .int vhe, .int vtk, .int vva, .ref cu, .ref lt, .ref od, .ref th, .ref be, .ref ln, .int (nI S), .ref ma, .int (nI M), .ref ah, .ref bh, .ref ik, .ref la, .ref lg, .ref ce, .int vto])), (la, .inl (G 0, 4, .inl fla)), (lg, .inl (G 0, 4, .inl flg)), (ce, .inl (G 0, 160, .inl (upd fce ((40 * kk) + ii) ((v <<< ((16 : Int32) &&& 31)) >>> ((16 : Int32) &&& 31)))))]) hP hD [0, 1, 2, 3] (by decide) rfl
            refine W.widen (k := 0) (n := 0) (Nat.le_of_ble_eq_true rfl) (Nat.le_of_ble_eq_true rfl) ?_
            exact W.iret (v := 1) hx hb hr (fun t ht hW => ⟨⟨1, (upd fce ((40 * kk) + ii) ((v <<< ((16 : Int32) &&& 31)) >>> ((16 : Int32) &&& 31))), rfl, ⟨hpost, trivial⟩, ⟨by rw [ht]; exact hP9, hD9⟩⟩, hS.F ht⟩) hS.2.2 dX11_lay_101
        · skip
          refine lv_iload_n hx hb dX11_lay_68 rfl (lv_at hl 3 rfl) ?_
          refine lv_bipush (v := 24) hx hb dX11_lay_69 rfl ?_
          refine lv_ishl hx hb dX11_lay_71 ?_
          refine lv_bipush (v := 24) hx hb dX11_lay_72 rfl ?_
          refine lv_ishr hx hb dX11_lay_74 ?_
          refine lv_goto (tgt := 99) hx hb dX11_lay_75 rfl ?_
          refine va_iast hx hb hK.1 hP hD hS 3 0 rfl rfl (vp_in_nI (by first | omega | (have t_b4 := b4; have t_hkk := hkk; have t_c5 := neI c5; have t_b9 := b9; have t_hii := hii; have t_c10 := eqI c10; have : ((-4) : Int32).toInt = -4 := qI_m4; have : (0 : Int32).toInt = 0 := qI_0; have t_n0 : (nI N).toInt = (N : Int) := tn954_ (); have t_n1 : (nI B).toInt = (B : Int) := tn955_ (); have t_n2 : (nI T).toInt = (T : Int) := tn956_ (); have t_n3 : (nI S).toInt = (S : Int) := tn957_ (); have t_n4 : (nI M).toInt = (M : Int) := tn958_ (); have t_n5 : (nI kk).toInt = (kk : Int) := tn959_ (); have t_n6 : (nI ii).toInt = (ii : Int) := tn960_ (); omega)) (by decide)) dX11_lay_99 (fun H locs hP hD hS => ?_)
          rw [nI_clamp (by omega)] at hP hD
          refine lv_iconst (v := 1) hx hb dX11_lay_100 rfl ?_
          have hpost : (1 : Int32) = if 0 ≤ (nI kk).toInt ∧ (nI kk).toInt < 4 then (if fla (nI kk).toNatClampNeg = -4 then -11 else if 0 ≤ (nI ii).toInt ∧ (nI ii).toInt < (flg (nI kk).toNatClampNeg).toInt then 1 else -12) else -1 := by
            rw [nI_clamp (by (have t_b4 := b4; have t_hkk := hkk; have t_c5 := neI c5; have t_b9 := b9; have t_hii := hii; have t_c10 := eqI c10; have : ((-4) : Int32).toInt = -4 := qI_m4; have : (0 : Int32).toInt = 0 := qI_0; have t_n0 : (nI N).toInt = (N : Int) := tn954_ (); have t_n1 : (nI B).toInt = (B : Int) := tn955_ (); have t_n2 : (nI T).toInt = (T : Int) := tn956_ (); have t_n3 : (nI S).toInt = (S : Int) := tn957_ (); have t_n4 : (nI M).toInt = (M : Int) := tn958_ (); have t_n5 : (nI kk).toInt = (kk : Int) := tn959_ (); have t_n6 : (nI ii).toInt = (ii : Int) := tn960_ (); omega)), if_pos (by (have t_b4 := b4; have t_hkk := hkk; have t_c5 := neI c5; have t_b9 := b9; have t_hii := hii; have t_c10 := eqI c10; have : ((-4) : Int32).toInt = -4 := qI_m4; have : (0 : Int32).toInt = 0 := qI_0; have t_n0 : (nI N).toInt = (N : Int) := tn954_ (); have t_n1 : (nI B).toInt = (B : Int) := tn955_ (); have t_n2 : (nI T).toInt = (T : Int) := tn956_ (); have t_n3 : (nI S).toInt = (S : Int) := tn957_ (); have t_n4 : (nI M).toInt = (M : Int) := tn958_ (); have t_n5 : (nI kk).toInt = (kk : Int) := tn959_ (); have t_n6 : (nI ii).toInt = (ii : Int) := tn960_ (); omega)), if_neg (by assumption), if_pos (by (have t_b4 := b4; have t_hkk := hkk; have t_c5 := neI c5; have t_b9 := b9; have t_hii := hii; have t_c10 := eqI c10; have : ((-4) : Int32).toInt = -4 := qI_m4; have : (0 : Int32).toInt = 0 := qI_0; have t_n0 : (nI N).toInt = (N : Int) := tn954_ (); have t_n1 : (nI B).toInt = (B : Int) := tn955_ (); have t_n2 : (nI T).toInt = (T : Int) := tn956_ (); have t_n3 : (nI S).toInt = (S : Int) := tn957_ (); have t_n4 : (nI M).toInt = (M : Int) := tn958_ (); have t_n5 : (nI kk).toInt = (kk : Int) := tn959_ (); have t_n6 : (nI ii).toInt = (ii : Int) := tn960_ (); omega))]
          obtain ⟨hP9, hD9⟩ := va_sub2 (ws' := [(h0, .inr (11, [.ref st, .int (nI N), .int (nI B), .ref rp, .int vrs, .int vrb, .int vhs, .int vca, .int vxs, .int vxb, .ref tp, .int (nI T), .int vfa, .int vbr, .int vba, .int vsp, .int vhe, .int vtk, .int vva, .ref cu, .ref lt, .ref od, .ref th, .ref be, .ref ln, .int (nI S), .ref ma, .int (nI M), .ref ah, .ref bh, .ref ik, .ref la, .ref lg, .ref ce, .int vto])), (la, .inl (G 0, 4, .inl fla)), (lg, .inl (G 0, 4, .inl flg)), (ce, .inl (G 0, 160, .inl (upd fce ((40 * kk) + ii) ((v <<< ((24 : Int32) &&& 31)) >>> ((24 : Int32) &&& 31)))))]) hP hD [0, 1, 2, 3] (by decide) rfl
          refine W.widen (k := 0) (n := 0) (Nat.le_of_ble_eq_true rfl) (Nat.le_of_ble_eq_true rfl) ?_
          exact W.iret (v := 1) hx hb hr (fun t ht hW => ⟨⟨1, (upd fce ((40 * kk) + ii) ((v <<< ((24 : Int32) &&& 31)) >>> ((24 : Int32) &&& 31))), rfl, ⟨hpost, trivial⟩, ⟨by rw [ht]; exact hP9, hD9⟩⟩, hS.F ht⟩) hS.2.2 dX11_lay_101
      · skip
        have b12 := if10_n c8
        refine lv_bipush (v := (-12)) hx hb dX11_lay_46 rfl ?_
        have hpost : ((-12) : Int32) = if 0 ≤ (nI kk).toInt ∧ (nI kk).toInt < 4 then (if fla (nI kk).toNatClampNeg = -4 then -11 else if 0 ≤ i.toInt ∧ i.toInt < (flg (nI kk).toNatClampNeg).toInt then 1 else -12) else -1 := by
          have hzk := hz kk (by (have t_b4 := b4; have t_hkk := hkk; have t_c5 := neI c5; have t_b12 := b12; have : ((-4) : Int32).toInt = -4 := qI_m4; have t_n0 : (nI N).toInt = (N : Int) := tn954_ (); have t_n1 : (nI B).toInt = (B : Int) := tn955_ (); have t_n2 : (nI T).toInt = (T : Int) := tn956_ (); have t_n3 : (nI S).toInt = (S : Int) := tn957_ (); have t_n4 : (nI M).toInt = (M : Int) := tn958_ (); have t_n5 : (nI kk).toInt = (kk : Int) := tn959_ (); omega))
          have e9 := im1 (x := flg kk) hzk.1 hzk.2
          rw [nI_clamp (by (have t_b4 := b4; have t_hkk := hkk; have t_c5 := neI c5; have t_b12 := b12; have : ((-4) : Int32).toInt = -4 := qI_m4; have t_n0 : (nI N).toInt = (N : Int) := tn954_ (); have t_n1 : (nI B).toInt = (B : Int) := tn955_ (); have t_n2 : (nI T).toInt = (T : Int) := tn956_ (); have t_n3 : (nI S).toInt = (S : Int) := tn957_ (); have t_n4 : (nI M).toInt = (M : Int) := tn958_ (); have t_n5 : (nI kk).toInt = (kk : Int) := tn959_ (); omega)), if_pos (by (have t_b4 := b4; have t_hkk := hkk; have t_c5 := neI c5; have t_b12 := b12; have : ((-4) : Int32).toInt = -4 := qI_m4; have t_n0 : (nI N).toInt = (N : Int) := tn954_ (); have t_n1 : (nI B).toInt = (B : Int) := tn955_ (); have t_n2 : (nI T).toInt = (T : Int) := tn956_ (); have t_n3 : (nI S).toInt = (S : Int) := tn957_ (); have t_n4 : (nI M).toInt = (M : Int) := tn958_ (); have t_n5 : (nI kk).toInt = (kk : Int) := tn959_ (); omega)), if_neg (by assumption), if_neg (by (have t_b4 := b4; have t_hkk := hkk; have t_c5 := neI c5; have t_b12 := b12; have : ((-4) : Int32).toInt = -4 := qI_m4; have t_n0 : (nI N).toInt = (N : Int) := tn954_ (); have t_n1 : (nI B).toInt = (B : Int) := tn955_ (); have t_n2 : (nI T).toInt = (T : Int) := tn956_ (); have t_n3 : (nI S).toInt = (S : Int) := tn957_ (); have t_n4 : (nI M).toInt = (M : Int) := tn958_ (); have t_n5 : (nI kk).toInt = (kk : Int) := tn959_ (); omega))]
        obtain ⟨hP9, hD9⟩ := va_sub2 (ws' := [(h0, .inr (11, [.ref st, .int (nI N), .int (nI B), .ref rp, .int vrs, .int vrb, .int vhs, .int vca, .int vxs, .int vxb, .ref tp, .int (nI T), .int vfa, .int vbr, .int vba, .int vsp, .int vhe, .int vtk, .int vva, .ref cu, .ref lt, .ref od, .ref th, .ref be, .ref ln, .int (nI S), .ref ma, .int (nI M), .ref ah, .ref bh, .ref ik, .ref la, .ref lg, .ref ce, .int vto])), (la, .inl (G 0, 4, .inl fla)), (lg, .inl (G 0, 4, .inl flg)), (ce, .inl (G 0, 160, .inl fce))]) hP hD [0, 1, 2, 3] (by decide) rfl
        refine W.widen (k := 0) (n := 0) (Nat.le_of_ble_eq_true rfl) (Nat.le_of_ble_eq_true rfl) ?_
        exact W.iret (v := (-12)) hx hb hr (fun t ht hW => ⟨⟨(-12), fce, rfl, ⟨hpost, trivial⟩, ⟨by rw [ht]; exact hP9, hD9⟩⟩, hS.F ht⟩) hS.2.2 dX11_lay_48
    · skip
      refine lv_bipush (v := (-11)) hx hb dX11_lay_25 rfl ?_
      have hpost : ((-11) : Int32) = if 0 ≤ (nI kk).toInt ∧ (nI kk).toInt < 4 then (if fla (nI kk).toNatClampNeg = -4 then -11 else if 0 ≤ i.toInt ∧ i.toInt < (flg (nI kk).toNatClampNeg).toInt then 1 else -12) else -1 := by
        rw [nI_clamp (by (have t_b4 := b4; have t_hkk := hkk; have t_c5 := eqI c5; have : ((-4) : Int32).toInt = -4 := qI_m4; have t_n0 : (nI N).toInt = (N : Int) := tn954_ (); have t_n1 : (nI B).toInt = (B : Int) := tn955_ (); have t_n2 : (nI T).toInt = (T : Int) := tn956_ (); have t_n3 : (nI S).toInt = (S : Int) := tn957_ (); have t_n4 : (nI M).toInt = (M : Int) := tn958_ (); have t_n5 : (nI kk).toInt = (kk : Int) := tn959_ (); omega)), if_pos (by (have t_b4 := b4; have t_hkk := hkk; have t_c5 := eqI c5; have : ((-4) : Int32).toInt = -4 := qI_m4; have t_n0 : (nI N).toInt = (N : Int) := tn954_ (); have t_n1 : (nI B).toInt = (B : Int) := tn955_ (); have t_n2 : (nI T).toInt = (T : Int) := tn956_ (); have t_n3 : (nI S).toInt = (S : Int) := tn957_ (); have t_n4 : (nI M).toInt = (M : Int) := tn958_ (); have t_n5 : (nI kk).toInt = (kk : Int) := tn959_ (); omega)), if_pos (by assumption)]
      obtain ⟨hP9, hD9⟩ := va_sub2 (ws' := [(h0, .inr (11, [.ref st, .int (nI N), .int (nI B), .ref rp, .int vrs, .int vrb, .int vhs, .int vca, .int vxs, .int vxb, .ref tp, .int (nI T), .int vfa, .int vbr, .int vba, .int vsp, .int vhe, .int vtk, .int vva, .ref cu, .ref lt, .ref od, .ref th, .ref be, .ref ln, .int (nI S), .ref ma, .int (nI M), .ref ah, .ref bh, .ref ik, .ref la, .ref lg, .ref ce, .int vto])), (la, .inl (G 0, 4, .inl fla)), (lg, .inl (G 0, 4, .inl flg)), (ce, .inl (G 0, 160, .inl fce))]) hP hD [0, 1, 2, 3] (by decide) rfl
      refine W.widen (k := 0) (n := 0) (Nat.le_of_ble_eq_true rfl) (Nat.le_of_ble_eq_true rfl) ?_
      exact W.iret (v := (-11)) hx hb hr (fun t ht hW => ⟨⟨(-11), fce, rfl, ⟨hpost, trivial⟩, ⟨by rw [ht]; exact hP9, hD9⟩⟩, hS.F ht⟩) hS.2.2 dX11_lay_27
  · skip
    have b13 := if10_n c3
    refine lv_iconst (v := (-1)) hx hb dX11_lay_12 rfl ?_
    have hpost : ((-1) : Int32) = if 0 ≤ k.toInt ∧ k.toInt < 4 then (if fla k.toNatClampNeg = -4 then -11 else if 0 ≤ i.toInt ∧ i.toInt < (flg k.toNatClampNeg).toInt then 1 else -12) else -1 := by
      have t_b13 := b13
      have t_n0 : (nI N).toInt = (N : Int) := tn954_ ()
      have t_n1 : (nI B).toInt = (B : Int) := tn955_ ()
      have t_n2 : (nI T).toInt = (T : Int) := tn956_ ()
      have t_n3 : (nI S).toInt = (S : Int) := tn957_ ()
      have t_n4 : (nI M).toInt = (M : Int) := tn958_ ()
      rw [if_neg (by omega)]
    obtain ⟨hP9, hD9⟩ := va_sub2 (ws' := [(h0, .inr (11, [.ref st, .int (nI N), .int (nI B), .ref rp, .int vrs, .int vrb, .int vhs, .int vca, .int vxs, .int vxb, .ref tp, .int (nI T), .int vfa, .int vbr, .int vba, .int vsp, .int vhe, .int vtk, .int vva, .ref cu, .ref lt, .ref od, .ref th, .ref be, .ref ln, .int (nI S), .ref ma, .int (nI M), .ref ah, .ref bh, .ref ik, .ref la, .ref lg, .ref ce, .int vto])), (la, .inl (G 0, 4, .inl fla)), (lg, .inl (G 0, 4, .inl flg)), (ce, .inl (G 0, 160, .inl fce))]) hP hD [0, 1, 2, 3] (by decide) rfl
    refine W.widen (k := 0) (n := 0) (Nat.le_of_ble_eq_true rfl) (Nat.le_of_ble_eq_true rfl) ?_
    exact W.iret (v := (-1)) hx hb hr (fun t ht hW => ⟨⟨(-1), fce, rfl, ⟨hpost, trivial⟩, ⟨by rw [ht]; exact hP9, hD9⟩⟩, hS.F ht⟩) hS.2.2 dX11_lay_13

set_option maxHeartbeats 1000000 in
set_option maxRecDepth 100000 in
theorem c_X11_count (l : Launch) (dC : Nat → ClassId) (dI : Nat → Nat → Nat) (G : Nat → ClassId) (sz : Nat) (h0 st N B rp tp T cu lt od th be ln S ma M ah bh ik la lg ce : Nat) (what vrs vrb vhs vca vxs vxb vfa vbr vba vsp vhe vtk vva vto : Int32) (fst : Nat → Int32) (fik : Nat → Int32) (fla : Nat → Int32) (flg : Nat → Int32) (hN : N ≤ 10) (hB : B ≤ 6) (hT : T ≤ 320) (hS0 : S ≤ 8) (hM : M ≤ 6) : Met l yX11_count (Cond.code yX11_count cX11_count 4 (some .int) :: GT) ({ frames := 0, cells := 0, slots := 0, locals := 0 } : Room) (PcR [.ref h0, .int what] dC dI G [(h0, .inr (11, [.ref st, .int (nI N), .int (nI B), .ref rp, .int vrs, .int vrb, .int vhs, .int vca, .int vxs, .int vxb, .ref tp, .int (nI T), .int vfa, .int vbr, .int vba, .int vsp, .int vhe, .int vtk, .int vva, .ref cu, .ref lt, .ref od, .ref th, .ref be, .ref ln, .int (nI S), .ref ma, .int (nI M), .ref ah, .ref bh, .ref ik, .ref la, .ref lg, .ref ce, .int vto])), (st, .inl (G 0, 196, .inl fst)), (ik, .inl (G 2, 2, .inl fik)), (la, .inl (G 0, 4, .inl fla)), (lg, .inl (G 0, 4, .inl flg))] sz) (va_Qi (fun (r : Int32) (u : Unit) => match u with | _ => (True) ∧ True) (fun _ _ => True) (fun q : Nat => sz ≤ q)) 0 0 (fun q : Nat => sz ≤ q) := by
  have tn976_ : nIT N := fun _ => nI_toInt (by omega)
  have tn977_ : nIT B := fun _ => nI_toInt (by omega)
  have tn978_ : nIT T := fun _ => nI_toInt (by omega)
  have tn979_ : nIT S := fun _ => nI_toInt (by omega)
  have tn980_ : nIT M := fun _ => nI_toInt (by omega)
  refine Met.ofW (cc := cX11_count) (maxL := 4) (ret := (some .int)) (by decide) rfl ?_
  intro p e s m args below meth c s₁ Bd hml hv
  obtain ⟨rfl, hsz, hP, hK⟩ := hv
  have hx := Bd.exec
  have hb := Bd.bytes
  have hr := Bd.returns
  have hg : ∀ w ∈ GT, w.before ([.ref h0, .int what] : List Value).toArray s = true := fun w h => atoms_spec (ws := Cond.code yX11_count cX11_count 4 (some .int) :: GT) Bd.pre w (List.mem_cons_of_mem _ h)
  have hown : s.vm.findClass RX11 = some m.cls := findClass_of_methodNamed Bd.named
  have hlocks := Bd.notSynchronized
  subst hsz
  have hA : ∀ q : Nat, s.heap.size ≤ q → (fun q : Nat => s.heap.size ≤ q) q := fun _ h => h
  have hS : va_S (fun q : Nat => s.heap.size ≤ q) s.heap s.heap [] := va_S.rf
  have hl := lv_entry ([.ref h0, .int what]) (n := 4) (Nat.le_of_ble_eq_true rfl)
  rw [lg_entry_eq]
  generalize (lg_sl ([.ref h0, .int what]) ++ List.replicate (4 - (lg_sl ([.ref h0, .int what])).length) Slot.unset).toArray = ls at hl ⊢
  have hl : lv_has ls 4 [(0, .ref h0), (1, .int what)] := hl
  refine lv_iconst (v := 0) hx hb dX11_count_0 rfl ?_
  refine lv_istore_n (lv' := [(2, .int 0), (0, .ref h0), (1, .int what)]) hx hb dX11_count_1 rfl hl (by decide) rfl (fun ls hl => ?_)
  refine lv_iconst (v := 1) hx hb dX11_count_2 rfl ?_
  refine lv_istore_n (lv' := [(3, .int 1), (2, .int 0), (0, .ref h0), (1, .int what)]) hx hb dX11_count_3 rfl hl (by decide) rfl (fun ls hl => ?_)
  have loop4_3 : ∀ (nf j1 : Nat), 10 + 1 ≤ j1 + nf → j1 ≤ 10 → 1 ≤ j1 → ∀ (y2 : Int32) (H : Heap) (locs : List Loc), va_P (dC, dI) vwCl [(h0, .inr (11, [.ref st, .int (nI N), .int (nI B), .ref rp, .int vrs, .int vrb, .int vhs, .int vca, .int vxs, .int vxb, .ref tp, .int (nI T), .int vfa, .int vbr, .int vba, .int vsp, .int vhe, .int vtk, .int vva, .ref cu, .ref lt, .ref od, .ref th, .ref be, .ref ln, .int (nI S), .ref ma, .int (nI M), .ref ah, .ref bh, .ref ik, .ref la, .ref lg, .ref ce, .int vto])), (st, .inl (G 0, 196, .inl fst)), (ik, .inl (G 2, 2, .inl fik)), (la, .inl (G 0, 4, .inl fla)), (lg, .inl (G 0, 4, .inl flg))] H → va_S (fun q : Nat => s.heap.size ≤ q) s.heap H locs → ∀ (ls : Array Slot), lv_has ls 4 [(3, .int (nI j1)), (2, .int y2), (0, .ref h0), (1, .int what)] → W p l e (headSpec (Cond.code yX11_count cX11_count 4 (some .int) :: GT) ({ frames := 0, cells := 0, slots := 0, locals := 0 } : Room)).room s m ([.ref h0, .int what] : List Value).toArray below meth c H locs 0 0 (MQ below (va_Qi (fun (r : Int32) (u : Unit) => match u with | _ => (True) ∧ True) (fun _ _ => True) (fun q : Nat => s.heap.size ≤ q)) ([.ref h0, .int what] : List Value).toArray s 0 0 (fun q : Nat => s.heap.size ≤ q)) (F0 m 4 ls []) := by
    intro nf
    induction nf with
    | zero => intro j1 h1 h2; exact absurd h1 (by omega)
    | succ nf ih4_3 =>
      intro j1 hn4 hj5 hlo_j1 y2 H locs hP hS ls hl
      refine lv_iload_n hx hb dX11_count_4 rfl (lv_at hl 0 rfl) ?_
      refine lv_aload_n hx hb dX11_count_5 rfl (lv_at hl 2 rfl) ?_
      refine va_get (D := (dC, dI)) (ci := 11) (v := .int (nI N)) (C := RX11) (T := TX11) (N := 35) hx hb hg inG11 hown hK.1 hP 0 rfl rfl 1 (Nat.le_of_ble_eq_true rfl) (hg _ wt_879) (fun _ h9 => h9) rfl dX11_count_6 ?_
      refine lv_icmp_ge (tgt := 49) hx hb dX11_count_9 rfl (fun c6 => ?_) (fun c6 => ?_)
      · skip
        have tn981_ : nIT j1 := fun _ => nI_toInt (by first | omega | (have t := leI c6; omega))
        have n7 : N ≤ j1 := by have t := leI c6; rw [show (nI (j1)).toInt = ((j1 : Nat) : Int) from tn981_ ()] at t; rw [show (nI (N)).toInt = ((N : Nat) : Int) from tn976_ ()] at t; omega
        refine lv_iload_n hx hb dX11_count_49 rfl (lv_at hl 3 rfl) ?_
        by_cases c8 : what = 0
        · skip
          refine lv_cg c8 ?_
          refine lv_tableIn (tgt := 88) hx hb dX11_count_50 (by decide) (by decide) rfl (by decide) ?_
          refine lv_aload_n hx hb dX11_count_88 rfl (lv_at hl 2 rfl) ?_
          refine va_get (D := (dC, dI)) (ci := 11) (v := .int (nI S)) (C := RX11) (T := TX11) (N := 35) hx hb hg inG11 hown hK.1 hP 0 rfl rfl 25 (Nat.le_of_ble_eq_true rfl) (hg _ wt_903) (fun _ h9 => h9) rfl dX11_count_89 ?_
          have hpost : True := by
            trivial
          refine W.widen (k := 0) (n := 0) (Nat.le_of_ble_eq_true rfl) (Nat.le_of_ble_eq_true rfl) ?_
          exact W.iret (v := nI S) hx hb hr (fun t ht hW => ⟨⟨nI S, (), rfl, ⟨hpost, trivial⟩, trivial⟩, hS.F ht⟩) hS.2.2 dX11_count_92
        · skip
          by_cases c9 : what = 1
          · skip
            refine lv_cg c9 ?_
            refine lv_tableIn (tgt := 93) hx hb dX11_count_50 (by decide) (by decide) rfl (by decide) ?_
            refine lv_aload_n hx hb dX11_count_93 rfl (lv_at hl 2 rfl) ?_
            refine va_get (D := (dC, dI)) (ci := 11) (v := .int (nI M)) (C := RX11) (T := TX11) (N := 35) hx hb hg inG11 hown hK.1 hP 0 rfl rfl 27 (Nat.le_of_ble_eq_true rfl) (hg _ wt_905) (fun _ h9 => h9) rfl dX11_count_94 ?_
            have hpost : True := by
              trivial
            refine W.widen (k := 0) (n := 0) (Nat.le_of_ble_eq_true rfl) (Nat.le_of_ble_eq_true rfl) ?_
            exact W.iret (v := nI M) hx hb hr (fun t ht hW => ⟨⟨nI M, (), rfl, ⟨hpost, trivial⟩, trivial⟩, hS.F ht⟩) hS.2.2 dX11_count_97
          · skip
            by_cases c10 : what = 2
            · skip
              refine lv_cg c10 ?_
              refine lv_tableIn (tgt := 98) hx hb dX11_count_50 (by decide) (by decide) rfl (by decide) ?_
              refine lv_aload_n hx hb dX11_count_98 rfl (lv_at hl 2 rfl) ?_
              refine va_get (D := (dC, dI)) (ci := 11) (v := .ref ik) (C := RX11) (T := TX11) (N := 35) hx hb hg inG11 hown hK.1 hP 0 rfl rfl 30 (Nat.le_of_ble_eq_true rfl) (hg _ wt_908) (fun _ h9 => h9) rfl dX11_count_99 ?_
              refine lv_iconst (v := 0) hx hb dX11_count_102 rfl ?_
              refine va_zald hx hb hK.1 hP 2 2 rfl rfl (vp_in_iff.mpr ⟨by decide, by decide⟩) dX11_count_103 ?_
              refine lv_cg (y := fik 0) (by rfl) ?_
              have cut112_13 : ∀ (k12 : Nat) (H : Heap) (locs : List Loc), k12 ≤ 1 → va_P (dC, dI) vwCl [(h0, .inr (11, [.ref st, .int (nI N), .int (nI B), .ref rp, .int vrs, .int vrb, .int vhs, .int vca, .int vxs, .int vxb, .ref tp, .int (nI T), .int vfa, .int vbr, .int vba, .int vsp, .int vhe, .int vtk, .int vva, .ref cu, .ref lt, .ref od, .ref th, .ref be, .ref ln, .int (nI S), .ref ma, .int (nI M), .ref ah, .ref bh, .ref ik, .ref la, .ref lg, .ref ce, .int vto])), (st, .inl (G 0, 196, .inl fst)), (ik, .inl (G 2, 2, .inl fik)), (la, .inl (G 0, 4, .inl fla)), (lg, .inl (G 0, 4, .inl flg))] H → va_S (fun q : Nat => s.heap.size ≤ q) s.heap H locs → ∀ (ls : Array Slot), lv_has ls 4 [(3, .int (nI j1)), (2, .int y2), (0, .ref h0), (1, .int what)] → W p l e (headSpec (Cond.code yX11_count cX11_count 4 (some .int) :: GT) ({ frames := 0, cells := 0, slots := 0, locals := 0 } : Room)).room s m ([.ref h0, .int what] : List Value).toArray below meth c H locs 0 0 (MQ below (va_Qi (fun (r : Int32) (u : Unit) => match u with | _ => (True) ∧ True) (fun _ _ => True) (fun q : Nat => s.heap.size ≤ q)) ([.ref h0, .int what] : List Value).toArray s 0 0 (fun q : Nat => s.heap.size ≤ q)) (F0 m 112 ls [.int (nI k12)]) := by
                intro k12 H locs hb_k12 hP hS ls hl
                refine lv_aload_n hx hb dX11_count_112 rfl (lv_at hl 2 rfl) ?_
                refine va_get (D := (dC, dI)) (ci := 11) (v := .ref ik) (C := RX11) (T := TX11) (N := 35) hx hb hg inG11 hown hK.1 hP 0 rfl rfl 30 (Nat.le_of_ble_eq_true rfl) (hg _ wt_908) (fun _ h9 => h9) rfl dX11_count_113 ?_
                refine lv_iconst (v := 1) hx hb dX11_count_116 rfl ?_
                refine va_zald hx hb hK.1 hP 2 2 rfl rfl (vp_in_iff.mpr ⟨by decide, by decide⟩) dX11_count_117 ?_
                refine lv_cg (y := fik 1) (by rfl) ?_
                have cut126_16 : ∀ (k15 : Nat) (H : Heap) (locs : List Loc), k15 ≤ 1 → va_P (dC, dI) vwCl [(h0, .inr (11, [.ref st, .int (nI N), .int (nI B), .ref rp, .int vrs, .int vrb, .int vhs, .int vca, .int vxs, .int vxb, .ref tp, .int (nI T), .int vfa, .int vbr, .int vba, .int vsp, .int vhe, .int vtk, .int vva, .ref cu, .ref lt, .ref od, .ref th, .ref be, .ref ln, .int (nI S), .ref ma, .int (nI M), .ref ah, .ref bh, .ref ik, .ref la, .ref lg, .ref ce, .int vto])), (st, .inl (G 0, 196, .inl fst)), (ik, .inl (G 2, 2, .inl fik)), (la, .inl (G 0, 4, .inl fla)), (lg, .inl (G 0, 4, .inl flg))] H → va_S (fun q : Nat => s.heap.size ≤ q) s.heap H locs → ∀ (ls : Array Slot), lv_has ls 4 [(3, .int (nI j1)), (2, .int y2), (0, .ref h0), (1, .int what)] → W p l e (headSpec (Cond.code yX11_count cX11_count 4 (some .int) :: GT) ({ frames := 0, cells := 0, slots := 0, locals := 0 } : Room)).room s m ([.ref h0, .int what] : List Value).toArray below meth c H locs 0 0 (MQ below (va_Qi (fun (r : Int32) (u : Unit) => match u with | _ => (True) ∧ True) (fun _ _ => True) (fun q : Nat => s.heap.size ≤ q)) ([.ref h0, .int what] : List Value).toArray s 0 0 (fun q : Nat => s.heap.size ≤ q)) (F0 m 126 ls [.int (nI k15), .int (nI k12)]) := by
                  intro k15 H locs hb_k15 hP hS ls hl
                  refine lv_iadd hx hb dX11_count_126 ?_
                  refine lv_cg (y := nI (k12 + k15)) (by exact nI_add _ _) ?_
                  have hpost : True := by
                    trivial
                  refine W.widen (k := 0) (n := 0) (Nat.le_of_ble_eq_true rfl) (Nat.le_of_ble_eq_true rfl) ?_
                  exact W.iret (v := nI (k12 + k15)) hx hb hr (fun t ht hW => ⟨⟨nI (k12 + k15), (), rfl, ⟨hpost, trivial⟩, trivial⟩, hS.F ht⟩) hS.2.2 dX11_count_127
                refine lv_if_eq (tgt := 125) hx hb dX11_count_118 rfl (fun c17 => ?_) (fun c17 => ?_)
                · skip
                  refine lv_iconst (v := 0) hx hb dX11_count_125 rfl ?_
                  exact cut126_16 0 _ _ (by omega) hP hS ls (lv_sub hl [0, 1, 2, 3] rfl)
                · skip
                  refine lv_iconst (v := 1) hx hb dX11_count_121 rfl ?_
                  refine lv_goto (tgt := 126) hx hb dX11_count_122 rfl ?_
                  exact cut126_16 1 _ _ (by omega) hP hS ls (lv_sub hl [0, 1, 2, 3] rfl)
              refine lv_if_eq (tgt := 111) hx hb dX11_count_104 rfl (fun c18 => ?_) (fun c18 => ?_)
              · skip
                refine lv_iconst (v := 0) hx hb dX11_count_111 rfl ?_
                exact cut112_13 0 _ _ (by omega) hP hS ls (lv_sub hl [0, 1, 2, 3] rfl)
              · skip
                refine lv_iconst (v := 1) hx hb dX11_count_107 rfl ?_
                refine lv_goto (tgt := 112) hx hb dX11_count_108 rfl ?_
                exact cut112_13 1 _ _ (by omega) hP hS ls (lv_sub hl [0, 1, 2, 3] rfl)
            · skip
              by_cases c19 : what = 3
              · skip
                refine lv_cg c19 ?_
                refine lv_tableIn (tgt := 128) hx hb dX11_count_50 (by decide) (by decide) rfl (by decide) ?_
                refine lv_aload_n hx hb dX11_count_128 rfl (lv_at hl 2 rfl) ?_
                refine va_get (D := (dC, dI)) (ci := 11) (v := .int (nI T)) (C := RX11) (T := TX11) (N := 35) hx hb hg inG11 hown hK.1 hP 0 rfl rfl 11 (Nat.le_of_ble_eq_true rfl) (hg _ wt_889) (fun _ h9 => h9) rfl dX11_count_129 ?_
                have hpost : True := by
                  trivial
                refine W.widen (k := 0) (n := 0) (Nat.le_of_ble_eq_true rfl) (Nat.le_of_ble_eq_true rfl) ?_
                exact W.iret (v := nI T) hx hb hr (fun t ht hW => ⟨⟨nI T, (), rfl, ⟨hpost, trivial⟩, trivial⟩, hS.F ht⟩) hS.2.2 dX11_count_132
              · skip
                by_cases c20 : what = 4
                · skip
                  refine lv_cg c20 ?_
                  refine lv_tableIn (tgt := 133) hx hb dX11_count_50 (by decide) (by decide) rfl (by decide) ?_
                  refine lv_aload_n hx hb dX11_count_133 rfl (lv_at hl 2 rfl) ?_
                  refine va_get (D := (dC, dI)) (ci := 11) (v := .ref la) (C := RX11) (T := TX11) (N := 35) hx hb hg inG11 hown hK.1 hP 0 rfl rfl 31 (Nat.le_of_ble_eq_true rfl) (hg _ wt_909) (fun _ h9 => h9) rfl dX11_count_134 ?_
                  refine lv_iconst (v := 0) hx hb dX11_count_137 rfl ?_
                  refine va_iald hx hb hK.1 hP 3 0 rfl rfl (vp_in_iff.mpr ⟨by decide, by decide⟩) dX11_count_138 ?_
                  refine lv_cg (y := fla 0) (by rfl) ?_
                  refine lv_bipush (v := (-4)) hx hb dX11_count_139 rfl ?_
                  have cut155_22 : ∀ (y21 : Int32) (H : Heap) (locs : List Loc), va_P (dC, dI) vwCl [(h0, .inr (11, [.ref st, .int (nI N), .int (nI B), .ref rp, .int vrs, .int vrb, .int vhs, .int vca, .int vxs, .int vxb, .ref tp, .int (nI T), .int vfa, .int vbr, .int vba, .int vsp, .int vhe, .int vtk, .int vva, .ref cu, .ref lt, .ref od, .ref th, .ref be, .ref ln, .int (nI S), .ref ma, .int (nI M), .ref ah, .ref bh, .ref ik, .ref la, .ref lg, .ref ce, .int vto])), (st, .inl (G 0, 196, .inl fst)), (ik, .inl (G 2, 2, .inl fik)), (la, .inl (G 0, 4, .inl fla)), (lg, .inl (G 0, 4, .inl flg))] H → va_S (fun q : Nat => s.heap.size ≤ q) s.heap H locs → ∀ (ls : Array Slot), lv_has ls 4 [(3, .int (nI j1)), (2, .int y2), (0, .ref h0), (1, .int what)] → W p l e (headSpec (Cond.code yX11_count cX11_count 4 (some .int) :: GT) ({ frames := 0, cells := 0, slots := 0, locals := 0 } : Room)).room s m ([.ref h0, .int what] : List Value).toArray below meth c H locs 0 0 (MQ below (va_Qi (fun (r : Int32) (u : Unit) => match u with | _ => (True) ∧ True) (fun _ _ => True) (fun q : Nat => s.heap.size ≤ q)) ([.ref h0, .int what] : List Value).toArray s 0 0 (fun q : Nat => s.heap.size ≤ q)) (F0 m 155 ls [.int y21]) := by
                    intro y21 H locs hP hS ls hl
                    have hpost : True := by
                      trivial
                    refine W.widen (k := 0) (n := 0) (Nat.le_of_ble_eq_true rfl) (Nat.le_of_ble_eq_true rfl) ?_
                    exact W.iret (v := y21) hx hb hr (fun t ht hW => ⟨⟨y21, (), rfl, ⟨hpost, trivial⟩, trivial⟩, hS.F ht⟩) hS.2.2 dX11_count_155
                  refine lv_icmp_ne (tgt := 149) hx hb dX11_count_141 rfl (fun c23 => ?_) (fun c23 => ?_)
                  · skip
                    refine lv_aload_n hx hb dX11_count_149 rfl (lv_at hl 2 rfl) ?_
                    refine va_get (D := (dC, dI)) (ci := 11) (v := .ref lg) (C := RX11) (T := TX11) (N := 35) hx hb hg inG11 hown hK.1 hP 0 rfl rfl 32 (Nat.le_of_ble_eq_true rfl) (hg _ wt_910) (fun _ h9 => h9) rfl dX11_count_150 ?_
                    refine lv_iconst (v := 0) hx hb dX11_count_153 rfl ?_
                    refine va_iald hx hb hK.1 hP 4 0 rfl rfl (vp_in_iff.mpr ⟨by decide, by decide⟩) dX11_count_154 ?_
                    refine lv_cg (y := flg 0) (by rfl) ?_
                    exact cut155_22 (flg 0) _ _ hP hS ls (lv_sub hl [0, 1, 2, 3] rfl)
                  · skip
                    refine lv_bipush (v := (-4)) hx hb dX11_count_144 rfl ?_
                    refine lv_goto (tgt := 155) hx hb dX11_count_146 rfl ?_
                    exact cut155_22 (-4) _ _ hP hS ls (lv_sub hl [0, 1, 2, 3] rfl)
                · skip
                  by_cases c24 : what = 5
                  · skip
                    refine lv_cg c24 ?_
                    refine lv_tableIn (tgt := 156) hx hb dX11_count_50 (by decide) (by decide) rfl (by decide) ?_
                    refine lv_iload_n hx hb dX11_count_156 rfl (lv_at hl 1 rfl) ?_
                    have hpost : True := by
                      trivial
                    refine W.widen (k := 0) (n := 0) (Nat.le_of_ble_eq_true rfl) (Nat.le_of_ble_eq_true rfl) ?_
                    exact W.iret (v := y2) hx hb hr (fun t ht hW => ⟨⟨y2, (), rfl, ⟨hpost, trivial⟩, trivial⟩, hS.F ht⟩) hS.2.2 dX11_count_157
                  · skip
                    refine lv_tableOut (tgt := 158) hx hb dX11_count_50 (by have t_hj5 := hj5; have t_hlo_j1 := hlo_j1; have t_n7 := n7; have t_c8 := neI c8; have t_c9 := neI c9; have t_c10 := neI c10; have t_c19 := neI c19; have t_c20 := neI c20; have t_c24 := neI c24; have : (0 : Int32).toInt = 0 := qI_0; have : (1 : Int32).toInt = 1 := qI_1; have : (2 : Int32).toInt = 2 := qI_2; have : (3 : Int32).toInt = 3 := qI_3; have : (4 : Int32).toInt = 4 := qI_4; have : (5 : Int32).toInt = 5 := qI_5; have t_n0 : (nI N).toInt = (N : Int) := tn976_ (); have t_n1 : (nI B).toInt = (B : Int) := tn977_ (); have t_n2 : (nI T).toInt = (T : Int) := tn978_ (); have t_n3 : (nI S).toInt = (S : Int) := tn979_ (); have t_n4 : (nI M).toInt = (M : Int) := tn980_ (); have t_n5 : (nI j1).toInt = (j1 : Int) := tn981_ (); omega) (by decide) ?_
                    refine lv_iconst (v := (-1)) hx hb dX11_count_158 rfl ?_
                    have hpost : True := by
                      trivial
                    refine W.widen (k := 0) (n := 0) (Nat.le_of_ble_eq_true rfl) (Nat.le_of_ble_eq_true rfl) ?_
                    exact W.iret (v := (-1)) hx hb hr (fun t ht hW => ⟨⟨(-1), (), rfl, ⟨hpost, trivial⟩, trivial⟩, hS.F ht⟩) hS.2.2 dX11_count_159
      · skip
        have tn982_ : nIT j1 := fun _ => nI_toInt (by first | omega | (have t := nleI c6; omega))
        have n25 : j1 < N := by have t := nleI c6; rw [show (nI (j1)).toInt = ((j1 : Nat) : Int) from tn982_ ()] at t; rw [show (nI (N)).toInt = ((N : Nat) : Int) from tn976_ ()] at t; omega
        refine lv_iload_n hx hb dX11_count_12 rfl (lv_at hl 1 rfl) ?_
        refine lv_aload_n hx hb dX11_count_13 rfl (lv_at hl 2 rfl) ?_
        refine va_get (D := (dC, dI)) (ci := 11) (v := .ref st) (C := RX11) (T := TX11) (N := 35) hx hb hg inG11 hown hK.1 hP 0 rfl rfl 0 (Nat.le_of_ble_eq_true rfl) (hg _ wt_878) (fun _ h9 => h9) rfl dX11_count_14 ?_
        refine lv_bipush (v := 38) hx hb dX11_count_17 rfl ?_
        refine lv_iload_n hx hb dX11_count_19 rfl (lv_at hl 0 rfl) ?_
        refine lv_iadd hx hb dX11_count_20 ?_
        refine lv_cg (y := nI (38 + j1)) (by rw [show (38 : Int32) = nI 38 from rfl]; exact nI_add _ _) ?_
        refine va_iald hx hb hK.1 hP 1 0 rfl rfl (vp_in_nI (by first | omega | (have t_hj5 := hj5; have t_hlo_j1 := hlo_j1; have t_n25 := n25; have t_n0 : (nI N).toInt = (N : Int) := tn976_ (); have t_n1 : (nI B).toInt = (B : Int) := tn977_ (); have t_n2 : (nI T).toInt = (T : Int) := tn978_ (); have t_n3 : (nI S).toInt = (S : Int) := tn979_ (); have t_n4 : (nI M).toInt = (M : Int) := tn980_ (); have t_n5 : (nI j1).toInt = (j1 : Int) := tn982_ (); omega)) (by decide)) dX11_count_21 ?_
        refine lv_cg (y := fst (38 + j1)) (by rw [nI_clamp (by omega)]) ?_
        refine lv_aload_n hx hb dX11_count_22 rfl (lv_at hl 2 rfl) ?_
        refine va_get (D := (dC, dI)) (ci := 11) (v := .ref st) (C := RX11) (T := TX11) (N := 35) hx hb hg inG11 hown hK.1 hP 0 rfl rfl 0 (Nat.le_of_ble_eq_true rfl) (hg _ wt_878) (fun _ h9 => h9) rfl dX11_count_23 ?_
        refine lv_bipush (v := 38) hx hb dX11_count_26 rfl ?_
        refine lv_iload_n hx hb dX11_count_28 rfl (lv_at hl 0 rfl) ?_
        refine lv_iadd hx hb dX11_count_29 ?_
        refine lv_cg (y := nI (38 + j1)) (by rw [show (38 : Int32) = nI 38 from rfl]; exact nI_add _ _) ?_
        refine lv_iconst (v := 1) hx hb dX11_count_30 rfl ?_
        refine lv_isub hx hb dX11_count_31 ?_
        refine lv_cg (y := nI ((38 + j1) - 1)) (by rw [show (1 : Int32) = nI 1 from rfl]; exact pk_sub (by have t_hj5 := hj5; have t_hlo_j1 := hlo_j1; have t_n25 := n25; have t_n0 : (nI N).toInt = (N : Int) := tn976_ (); have t_n1 : (nI B).toInt = (B : Int) := tn977_ (); have t_n2 : (nI T).toInt = (T : Int) := tn978_ (); have t_n3 : (nI S).toInt = (S : Int) := tn979_ (); have t_n4 : (nI M).toInt = (M : Int) := tn980_ (); have t_n5 : (nI j1).toInt = (j1 : Int) := tn982_ (); omega)) ?_
        refine va_iald hx hb hK.1 hP 1 0 rfl rfl (vp_in_nI (by first | omega | (have t_hj5 := hj5; have t_hlo_j1 := hlo_j1; have t_n25 := n25; have t_n0 : (nI N).toInt = (N : Int) := tn976_ (); have t_n1 : (nI B).toInt = (B : Int) := tn977_ (); have t_n2 : (nI T).toInt = (T : Int) := tn978_ (); have t_n3 : (nI S).toInt = (S : Int) := tn979_ (); have t_n4 : (nI M).toInt = (M : Int) := tn980_ (); have t_n5 : (nI j1).toInt = (j1 : Int) := tn982_ (); omega)) (by decide)) dX11_count_32 ?_
        refine lv_cg (y := fst ((38 + j1) - 1)) (by rw [nI_clamp (by omega)]) ?_
        have cut41_28 : ∀ (k27 : Nat) (H : Heap) (locs : List Loc), k27 ≤ 1 → va_P (dC, dI) vwCl [(h0, .inr (11, [.ref st, .int (nI N), .int (nI B), .ref rp, .int vrs, .int vrb, .int vhs, .int vca, .int vxs, .int vxb, .ref tp, .int (nI T), .int vfa, .int vbr, .int vba, .int vsp, .int vhe, .int vtk, .int vva, .ref cu, .ref lt, .ref od, .ref th, .ref be, .ref ln, .int (nI S), .ref ma, .int (nI M), .ref ah, .ref bh, .ref ik, .ref la, .ref lg, .ref ce, .int vto])), (st, .inl (G 0, 196, .inl fst)), (ik, .inl (G 2, 2, .inl fik)), (la, .inl (G 0, 4, .inl fla)), (lg, .inl (G 0, 4, .inl flg))] H → va_S (fun q : Nat => s.heap.size ≤ q) s.heap H locs → ∀ (ls : Array Slot), lv_has ls 4 [(3, .int (nI j1)), (2, .int y2), (0, .ref h0), (1, .int what)] → W p l e (headSpec (Cond.code yX11_count cX11_count 4 (some .int) :: GT) ({ frames := 0, cells := 0, slots := 0, locals := 0 } : Room)).room s m ([.ref h0, .int what] : List Value).toArray below meth c H locs 0 0 (MQ below (va_Qi (fun (r : Int32) (u : Unit) => match u with | _ => (True) ∧ True) (fun _ _ => True) (fun q : Nat => s.heap.size ≤ q)) ([.ref h0, .int what] : List Value).toArray s 0 0 (fun q : Nat => s.heap.size ≤ q)) (F0 m 41 ls [.int (nI k27), .int y2]) := by
          intro k27 H locs hb_k27 hP hS ls hl
          refine lv_iadd hx hb dX11_count_41 ?_
          refine lv_istore_n (lv' := [(2, .int (y2 + (nI k27))), (3, .int (nI j1)), (0, .ref h0), (1, .int what)]) hx hb dX11_count_42 rfl hl (by decide) rfl (fun ls hl => ?_)
          refine lv_iinc (v := nI (j1 + 1)) (lv' := [(3, .int (nI (j1 + 1))), (2, .int (y2 + (nI k27))), (0, .ref h0), (1, .int what)]) hx hb dX11_count_43 hl (k := 1) rfl (by rw [show Int32.ofInt 1 = nI 1 from by decide]; exact nI_add _ _) (by decide) rfl (fun ls hl => ?_)
          refine lv_goto (tgt := 4) hx hb dX11_count_46 rfl ?_
          exact ih4_3 (j1 + 1) (by omega) (by omega) (by omega) (y2 + (nI k27)) _ _ hP hS ls (lv_sub hl [0, 1, 2, 3] rfl)
        refine lv_icmp_eq (tgt := 40) hx hb dX11_count_33 rfl (fun c29 => ?_) (fun c29 => ?_)
        · skip
          refine lv_iconst (v := 0) hx hb dX11_count_40 rfl ?_
          exact cut41_28 0 _ _ (by omega) hP hS ls (lv_sub hl [0, 1, 2, 3] rfl)
        · skip
          refine lv_iconst (v := 1) hx hb dX11_count_36 rfl ?_
          refine lv_goto (tgt := 41) hx hb dX11_count_37 rfl ?_
          exact cut41_28 1 _ _ (by omega) hP hS ls (lv_sub hl [0, 1, 2, 3] rfl)
  exact loop4_3 (10 + 1) 1 (by omega) (by omega) (by omega) 0 _ _ hP hS ls (lv_sub hl [0, 1, 2, 3] rfl)

def cutL : List Nat := [0, 5, 12, 18, 23, 28, 34, 42, 46, 50, 54]
theorem cut_mono {n : Nat} (h : n < 10) : cutL.getD n 0 ≤ cutL.getD (n + 1) 0 ∧ cutL.getD (n + 1) 0 ≤ 54 := by
  rcases (show n = 0 ∨ n = 1 ∨ n = 2 ∨ n = 3 ∨ n = 4 ∨ n = 5 ∨ n = 6 ∨ n = 7 ∨ n = 8 ∨ n = 9 by omega) with q|q|q|q|q|q|q|q|q|q <;> subst q <;> decide
theorem nIm4 {n : Nat} (h : n ≤ 9) : (nI n - 4).toInt = (n : Int) - 4 := by
  rcases (show n = 0 ∨ n = 1 ∨ n = 2 ∨ n = 3 ∨ n = 4 ∨ n = 5 ∨ n = 6 ∨ n = 7 ∨ n = 8 ∨ n = 9 by omega) with q|q|q|q|q|q|q|q|q|q <;> subst q <;> decide
theorem OKP.zero {f : Nat → Int32} (h : ∀ q : Nat, q < 49 → f q = 0) : OKP f := by
  intro q hq
  rw [h q hq]
  have e : (0 : Int32).toInt = 0 := by decide
  exact ⟨fun _ => by omega, fun _ _ => by omega, fun _ => by omega⟩

theorem addI {x y : Int32} (h : -2147483648 ≤ x.toInt + y.toInt) (h' : x.toInt + y.toInt < 2147483648) : (x + y).toInt = x.toInt + y.toInt := by
  have e0 : (x + y).toInt = (x.toInt + y.toInt).bmod (2 ^ 32) := Int32.toInt_add x y
  rw [Int.bmod_eq_of_le (by omega) (by omega)] at e0
  exact e0
theorem subI {x y : Int32} (h : -2147483648 ≤ x.toInt - y.toInt) (h' : x.toInt - y.toInt < 2147483648) : (x - y).toInt = x.toInt - y.toInt := by
  have e0 : (x - y).toInt = (x.toInt - y.toInt).bmod (2 ^ 32) := Int32.toInt_sub x y
  rw [Int.bmod_eq_of_le (by omega) (by omega)] at e0
  exact e0
theorem hKb (x : Int32) : 0 ≤ (hK' x).toInt ∧ (hK' x).toInt ≤ 2 := by
  unfold hK'
  split
  · decide
  · split <;> decide
theorem hTrb (x y : Int32) : 0 ≤ (hTr x y).toInt ∧ (hTr x y).toInt ≤ 1 := by
  unfold hTr
  split <;> decide
theorem hPosb (x : Int32) : 0 ≤ (hPos x).toInt ∧ ((hPos x).toInt = 0 ∨ (hPos x).toInt = x.toInt) := by
  have z0 : (0 : Int32).toInt = 0 := by decide
  unfold hPos
  split
  · rw [z0]; exact ⟨by omega, Or.inl rfl⟩
  · rename_i h
    have t := nleI h
    exact ⟨by omega, Or.inr rfl⟩
theorem hTopb {x : Int32} (h : 0 ≤ x.toInt) : 0 ≤ (hTop x).toInt ∧ (hTop x).toInt ≤ 20 := by
  have z0 : (20 : Int32).toInt = 20 := by decide
  unfold hTop
  split
  · rename_i h1
    have t := leI h1
    exact ⟨h, by omega⟩
  · rw [z0]; exact ⟨by omega, by omega⟩
theorem hAbsb {x : Int32} (h : -9 ≤ x.toInt) (h' : x.toInt ≤ 9) : 0 ≤ (hAbs x).toInt ∧ (hAbs x).toInt ≤ 9 := by
  have z0 : (0 : Int32).toInt = 0 := by decide
  unfold hAbs
  split
  · rename_i h1
    have t := leI h1
    exact ⟨by omega, h'⟩
  · rename_i h1
    have t := nleI h1
    have e0 : (-x).toInt = (-x.toInt).bmod (2 ^ 32) := Int32.toInt_neg x
    rw [Int.bmod_eq_of_le (by omega) (by omega)] at e0
    exact ⟨by omega, by omega⟩
theorem hJob {q x : Int32} (h : 0 ≤ x.toInt) (h' : x.toInt ≤ 9) : 0 ≤ (hJo q x).toInt ∧ (hJo q x).toInt ≤ 9 := by
  unfold hJo
  split
  · obtain ⟨j, hj, rfl⟩ := i32_nat (x := x) (n := 10) h (by omega)
    rcases (show j = 0 ∨ j = 1 ∨ j = 2 ∨ j = 3 ∨ j = 4 ∨ j = 5 ∨ j = 6 ∨ j = 7 ∨ j = 8 ∨ j = 9 by omega) with q|q|q|q|q|q|q|q|q|q <;> subst q <;> decide
  · exact ⟨h, h'⟩
theorem rhSb {fs : Nat → Int32} (h : OKS fs) {i b : Nat} (hi : i < 10) (hb : b < 6) : 0 ≤ (rhS fs i b 0).toInt ∧ (rhS fs i b 0).toInt ≤ 19 := by
  have a1 := (h (2 * i) (by omega)).1 (by rw [Nat.mod_eq_of_lt (by omega)]; omega)
  have a2 := (h (2 * i + 1) (by omega)).1 (by rw [Nat.mod_eq_of_lt (by omega)]; omega)
  have a3 := (h (20 + 3 * b + 2) (by omega)).1 (by rw [Nat.mod_eq_of_lt (by omega)]; omega)
  have e0 : hQt fs i 0 = fs (2 * i) := if_pos rfl
  have k := hKb (fs (20 + 3 * b))
  have t := hTrb (fs (20 + 3 * b)) (fs (2 * i + 1))
  have s1 := subI (x := fs (2 * i)) (y := hK' (fs (20 + 3 * b))) (by omega) (by omega)
  have s2 := subI (x := fs (2 * i + 1)) (y := fs (20 + 3 * b + 2)) (by omega) (by omega)
  have p1 := hPosb (fs (2 * i) - hK' (fs (20 + 3 * b)))
  have p2 := hPosb (fs (2 * i + 1) - fs (20 + 3 * b + 2))
  unfold rhS
  rw [e0]
  generalize hPos (fs (2 * i) - hK' (fs (20 + 3 * b))) = A at p1 ⊢
  generalize hPos (fs (2 * i + 1) - fs (20 + 3 * b + 2)) = B at p2 ⊢
  generalize hTr (fs (20 + 3 * b)) (fs (2 * i + 1)) = C at t ⊢
  have u1 := addI (x := A) (y := B) (by omega) (by omega)
  have u2 := addI (x := A + B) (y := C) (by omega) (by omega)
  rw [u2, u1]
  exact ⟨by omega, by omega⟩
theorem rhNb {fs : Nat → Int32} (h : OKS fs) {i b : Nat} (hi : i < 10) (hb : b < 6) : 0 ≤ (rhN fs i b 0).toInt ∧ (rhN fs i b 0).toInt ≤ 20 := hTopb (rhSb h hi hb).1
theorem rhBb {fs : Nat → Int32} (h : OKS fs) {i a b : Nat} (hi : i < 10) (ha : a < 6) (hb : b < 6) : 0 ≤ (rhB fs i a b 0).toInt ∧ (rhB fs i a b 0).toInt ≤ 20 := by
  have k := rhSb h hi hb
  have a1 := (h (20 + 3 * a + 1) (by omega)).1 (by rw [Nat.mod_eq_of_lt (by omega)]; omega)
  have a2 := (h (20 + 3 * b + 1) (by omega)).1 (by rw [Nat.mod_eq_of_lt (by omega)]; omega)
  have s1 := subI (x := fs (20 + 3 * a + 1)) (y := fs (20 + 3 * b + 1)) (by omega) (by omega)
  have p1 := hAbsb (x := fs (20 + 3 * a + 1) - fs (20 + 3 * b + 1)) (by omega) (by omega)
  have p2 := hJob (q := fs (20 + 3 * b)) p1.1 p1.2
  unfold rhB
  refine hTopb ?_
  split
  · exact k.1
  · generalize hJo (fs (20 + 3 * b)) (hAbs (fs (20 + 3 * a + 1) - fs (20 + 3 * b + 1))) = J at p2 ⊢
    have u1 := addI (x := rhS fs i b 0) (y := J) (by omega) (by omega)
    omega
def pwI : Nat → Int
  | 0 => 1
  | n + 1 => pwI n * 20
theorem pwI_b {n : Nat} (h : n ≤ 9) : 1 ≤ pwI n ∧ pwI n ≤ 512000000000 := by
  rcases (show n = 0 ∨ n = 1 ∨ n = 2 ∨ n = 3 ∨ n = 4 ∨ n = 5 ∨ n = 6 ∨ n = 7 ∨ n = 8 ∨ n = 9 by omega) with h|h|h|h|h|h|h|h|h|h <;> subst h <;> decide
theorem pwI_t {n : Nat} (h : n ≤ 10) : (powF n).toInt = pwI n := by
  rcases (show n = 0 ∨ n = 1 ∨ n = 2 ∨ n = 3 ∨ n = 4 ∨ n = 5 ∨ n = 6 ∨ n = 7 ∨ n = 8 ∨ n = 9 ∨ n = 10 by omega) with h|h|h|h|h|h|h|h|h|h|h <;> subst h <;> decide
theorem mulL {x y : Int64} (h : 0 ≤ x.toInt * y.toInt) (h' : x.toInt * y.toInt < 9000000000000000000) : (x * y).toInt = x.toInt * y.toInt := by
  have e0 : (x * y).toInt = (x.toInt * y.toInt).bmod (2 ^ 64) := Int64.toInt_mul x y
  rw [Int.bmod_eq_of_le (by omega) (by omega)] at e0
  exact e0
theorem addL {x y : Int64} (h : 0 ≤ x.toInt + y.toInt) (h' : x.toInt + y.toInt < 9000000000000000000) : (x + y).toInt = x.toInt + y.toInt := by
  have e0 : (x + y).toInt = (x.toInt + y.toInt).bmod (2 ^ 64) := Int64.toInt_add x y
  rw [Int.bmod_eq_of_le (by omega) (by omega)] at e0
  exact e0
theorem mixB {a : Int32} {x y : Int64} {M : Int} (h0 : 0 ≤ a.toInt) (h1 : a.toInt ≤ 20) (hM : M ≤ 512000000000) (hx0 : 0 ≤ x.toInt) (hx : x.toInt ≤ M) (hy0 : 0 ≤ y.toInt) (hy : y.toInt ≤ M) : 0 ≤ (a.toInt64 * x + (20 - a).toInt64 * y).toInt ∧ (a.toInt64 * x + (20 - a).toInt64 * y).toInt ≤ M * 20 := by
  have z : (20 : Int32).toInt = 20 := by decide
  have s1 := subI (x := 20) (y := a) (by omega) (by omega)
  have e1 : a.toInt64.toInt = a.toInt := l_ii a
  have e2 : (20 - a).toInt64.toInt = 20 - a.toInt := by rw [l_ii, s1, z]
  have p1 : 0 ≤ a.toInt * x.toInt := Int.mul_nonneg h0 hx0
  have p2 : a.toInt * x.toInt ≤ a.toInt * M := Int.mul_le_mul_of_nonneg_left hx h0
  have q1 : 0 ≤ (20 - a.toInt) * y.toInt := Int.mul_nonneg (by omega) hy0
  have q2 : (20 - a.toInt) * y.toInt ≤ (20 - a.toInt) * M := Int.mul_le_mul_of_nonneg_left hy (by omega)
  have r1 : 0 ≤ a.toInt * M := Int.mul_nonneg h0 (by omega)
  have r2 : 0 ≤ (20 - a.toInt) * M := Int.mul_nonneg (by omega) (by omega)
  have s : a.toInt * M + (20 - a.toInt) * M = M * 20 := by
    rw [← Int.add_mul, show a.toInt + (20 - a.toInt) = 20 by omega, Int.mul_comm]
  have m1 := mulL (x := a.toInt64) (y := x) (by rw [e1]; exact p1) (by rw [e1]; omega)
  have m2 := mulL (x := (20 - a).toInt64) (y := y) (by rw [e2]; exact q1) (by rw [e2]; omega)
  rw [e1] at m1
  rw [e2] at m2
  have t := addL (x := a.toInt64 * x) (y := (20 - a).toInt64 * y) (by rw [m1, m2]; omega) (by rw [m1, m2]; omega)
  rw [t, m1, m2]
  exact ⟨by omega, by omega⟩
def b1N (fs : Nat → Int32) (f : Nat → Int64) (i d b : Nat) : Int64 := (rhN fs i b 0).toInt64 * f (70 * (i + 1) + 10 * (b + 1) + (d - 1)) + (20 - rhN fs i b 0).toInt64 * f (70 * (i + 1) + 10 * (b + 1) + min 9 (d + 1))
def b1B (fs : Nat → Int32) (f : Nat → Int64) (i a d b : Nat) : Int64 := (rhB fs i a b 0).toInt64 * f (70 * (i + 1) + 10 * (b + 1) + (d - 1)) + (20 - rhB fs i a b 0).toInt64 * f (70 * (i + 1) + 10 * (b + 1) + min 9 (d + 1))
def b1 (fs : Nat → Int32) (f : Nat → Int64) (i k b : Nat) : Int64 := if k < 10 then b1N fs f i (k % 10) b else b1B fs f i (k / 10 - 1) (k % 10) b
theorem b1_cg {fs : Nat → Int32} {f g : Nat → Int64} {i k b : Nat} (h : ∀ q : Nat, 70 * (i + 1) ≤ q → f q = g q) : b1 fs f i k b = b1 fs g i k b := by
  unfold b1 b1N b1B
  rw [h (70 * (i + 1) + 10 * (b + 1) + (k % 10 - 1)) (by omega), h (70 * (i + 1) + 10 * (b + 1) + min 9 (k % 10 + 1)) (by omega)]
def okv (N i : Nat) (x : Int64) : Prop := 0 ≤ x.toInt ∧ x.toInt ≤ pwI (N - i)
def sOK (fs : Nat → Int32) (N B : Nat) (f : Nat → Int64) (i k : Nat) : Prop := (k % 10 = 0 ∨ k < 10 ∨ k / 10 ≤ B) → okv N i (f (70 * i + k)) ∧ (i < N → k % 10 ≠ 0 → ∃ b : Nat, b < B ∧ f (70 * i + k) = b1 fs f i k b)
def RI (fs : Nat → Int32) (N B j : Nat) (f : Nat → Int64) : Prop := ∀ i k : Nat, j ≤ i → i ≤ N → k < 70 → sOK fs N B f i k
def KI (fs : Nat → Int32) (N B i k : Nat) (f : Nat → Int64) : Prop := RI fs N B (i + 1) f ∧ ∀ k' : Nat, k' < k → sOK fs N B f i k'
def BI (fs : Nat → Int32) (N B i k b : Nat) (f : Nat → Int64) : Prop := KI fs N B i k f ∧ ((k % 10 = 0 ∧ f (70 * i + k) = powF (N - i)) ∨ (k % 10 ≠ 0 ∧ ((b = 0 ∧ f (70 * i + k) = 4000000000000000000) ∨ (okv N i (f (70 * i + k)) ∧ ∃ b' : Nat, b' < b ∧ f (70 * i + k) = b1 fs f i k b'))))
def FI (N j : Nat) (f : Nat → Int64) : Prop := ∀ k : Nat, k < j → 0 ≤ (f (70 * N + k)).toInt ∧ (f (70 * N + k)).toInt ≤ 1
theorem upL_ne {f : Nat → Int64} {k q : Nat} {v : Int64} (h : q ≠ k) : vp_updL f k v q = f q := if_neg h
theorem upL_eq {f : Nat → Int64} {k : Nat} {v : Int64} : vp_updL f k v k = v := if_pos rfl
theorem sOK_cg {fs : Nat → Int32} {N B : Nat} {f g : Nat → Int64} {i k : Nat} (h1 : ∀ q : Nat, 70 * (i + 1) ≤ q → f q = g q) (h2 : f (70 * i + k) = g (70 * i + k)) (h : sOK fs N B f i k) : sOK fs N B g i k := by
  intro hk
  obtain ⟨p, q⟩ := h hk
  refine ⟨by rw [← h2]; exact p, fun a c => ?_⟩
  obtain ⟨b, hb, e⟩ := q a c
  exact ⟨b, hb, by rw [← h2, ← b1_cg h1]; exact e⟩
theorem KI.put {fs : Nat → Int32} {N B i k : Nat} {f : Nat → Int64} {v : Int64} (hk : k < 70) (h : KI fs N B i k f) : KI fs N B i k (vp_updL f (70 * i + k) v) :=
  ⟨fun i' k' h1 h2 h3 => sOK_cg (fun q hq => (upL_ne (by omega)).symm) (upL_ne (by omega)).symm (h.1 i' k' h1 h2 h3), fun k' hk' => sOK_cg (fun q hq => (upL_ne (by omega)).symm) (upL_ne (by omega)).symm (h.2 k' hk')⟩
theorem BI.ini {fs : Nat → Int32} {N B i k : Nat} {f : Nat → Int64} {y : Int64} (h : KI fs N B i k f) (hk : k < 70) (hc : (k % 10 = 0 ∧ y = powF (N - i)) ∨ (k % 10 ≠ 0 ∧ y = 4000000000000000000)) : BI fs N B i k 0 (vp_updL f (70 * i + k) y) := by
  refine ⟨h.put hk, ?_⟩
  rw [upL_eq]
  rcases hc with hc | hc
  · exact Or.inl hc
  · exact Or.inr ⟨hc.1, Or.inl ⟨rfl, hc.2⟩⟩
theorem b1_ok {fs : Nat → Int32} {N B i k b : Nat} {f : Nat → Int64} (ho : OKS fs) (h : RI fs N B (i + 1) f) (hN : N ≤ 10) (hB : B ≤ 6) (hi : i < N) (hb : b < B) (hk : k < 70) : okv N i (b1 fs f i k b) := by
  have row : ∀ d : Nat, d ≤ 9 → okv N (i + 1) (f (70 * (i + 1) + 10 * (b + 1) + d)) := fun d hd => by
    have t := (h (i + 1) (10 * (b + 1) + d) (Nat.le_refl _) (by omega) (by omega) (Or.inr (Or.inr (by omega)))).1
    rw [show 70 * (i + 1) + 10 * (b + 1) + d = 70 * (i + 1) + (10 * (b + 1) + d) by omega]
    exact t
  have r1 := row (k % 10 - 1) (by omega)
  have r2 := row (min 9 (k % 10 + 1)) (by omega)
  have hp := pwI_b (n := N - (i + 1)) (by omega)
  have e : pwI (N - i) = pwI (N - (i + 1)) * 20 := by
    rw [show N - i = (N - (i + 1)) + 1 by omega]
    rfl
  unfold okv
  rw [e]
  unfold b1
  split
  · have hh := rhNb ho (i := i) (b := b) (by omega) (by omega)
    exact mixB hh.1 hh.2 hp.2 r1.1 r1.2 r2.1 r2.2
  · have hh := rhBb ho (i := i) (a := k / 10 - 1) (b := b) (by omega) (by omega) (by omega)
    exact mixB hh.1 hh.2 hp.2 r1.1 r1.2 r2.1 r2.2
theorem BI.lt {fs : Nat → Int32} {N B i k b : Nat} {f : Nat → Int64} {v : Int64} (ho : OKS fs) (hN : N ≤ 10) (hB : B ≤ 6) (hi : i < N) (hb : b < B) (hk : k < 70) (hk0 : k % 10 ≠ 0) (hv : v = b1 fs f i k b) (h : BI fs N B i k b f) : BI fs N B i k (b + 1) (vp_updL f (70 * i + k) v) := by
  refine ⟨h.1.put hk, Or.inr ⟨hk0, Or.inr ?_⟩⟩
  rw [upL_eq]
  refine ⟨by rw [hv]; exact b1_ok ho h.1.1 hN hB hi hb hk, b, by omega, ?_⟩
  rw [hv]
  exact b1_cg (fun q hq => (upL_ne (by omega)).symm)
theorem BI.ge {fs : Nat → Int32} {N B i k b : Nat} {f : Nat → Int64} {v : Int64} (ho : OKS fs) (hN : N ≤ 10) (hB : B ≤ 6) (hi : i < N) (hb : b < B) (hk : k < 70) (hk0 : k % 10 ≠ 0) (hv : v = b1 fs f i k b) (hc : (f (70 * i + k)).toInt ≤ v.toInt) (h : BI fs N B i k b f) : BI fs N B i k (b + 1) (vp_updL f (70 * i + k) (f (70 * i + k))) := by
  refine ⟨h.1.put hk, Or.inr ⟨hk0, Or.inr ?_⟩⟩
  rw [upL_eq]
  have o := b1_ok ho h.1.1 hN hB hi hb hk
  rw [← hv] at o
  have hp := pwI_b (n := N - (i + 1)) (by omega)
  have e : pwI (N - i) = pwI (N - (i + 1)) * 20 := by
    rw [show N - i = (N - (i + 1)) + 1 by omega]
    rfl
  have z : (4000000000000000000 : Int64).toInt = 4000000000000000000 := by decide
  have o2 := o.2
  rcases h.2 with c | ⟨-, c | c⟩
  · exact absurd c.1 hk0
  · rw [c.2] at hc
    exfalso
    omega
  · obtain ⟨b', h1, h2⟩ := c.2
    exact ⟨c.1, b', by omega, by rw [h2]; exact (b1_cg (fun q hq => (upL_ne (by omega)).symm))⟩
theorem BI.out {fs : Nat → Int32} {N B i k b : Nat} {f : Nat → Int64} (hN : N ≤ 10) (hi : i < N) (hB : 0 < B) (hc : b = B ∨ k % 10 = 0 ∨ (10 ≤ k ∧ B < k / 10)) (h : BI fs N B i k b f) : KI fs N B i (k + 1) f := by
  refine ⟨h.1.1, fun k' hk' => ?_⟩
  by_cases e : k' < k
  · exact h.1.2 k' e
  · have e2 : k' = k := by omega
    subst e2
    intro hv
    rcases h.2 with c | ⟨c0, c | c⟩
    · have t := pwI_t (n := N - i) (by omega)
      have hp : 0 ≤ pwI (N - i) := by
        rw [show N - i = (N - (i + 1)) + 1 by omega]
        have := pwI_b (n := N - (i + 1)) (by omega)
        show 0 ≤ pwI (N - (i + 1)) * 20
        omega
      refine ⟨⟨by rw [c.2, t]; exact hp, by rw [c.2, t]; exact Int.le_refl _⟩, fun _ h2 => absurd c.1 h2⟩
    · exfalso
      omega
    · obtain ⟨b', h1, h2⟩ := c.2
      exact ⟨c.1, fun _ _ => ⟨b', by omega, h2⟩⟩
theorem KI.out {fs : Nat → Int32} {N B i k : Nat} {f : Nat → Int64} (hk : 70 ≤ k) (h : KI fs N B i k f) : RI fs N B i f := fun i' k' h1 h2 h3 => by
  by_cases e : i' = i
  · subst e; exact h.2 k' (by omega)
  · exact h.1 i' k' (by omega) h2 h3
theorem RI.k0 {fs : Nat → Int32} {N B i : Nat} {f : Nat → Int64} (h : RI fs N B (i + 1) f) : KI fs N B i 0 f := ⟨h, fun k' hk' => absurd hk' (Nat.not_lt_zero _)⟩
theorem FI.put {N j : Nat} {f : Nat → Int64} {y : Int64} (h : FI N j f) (hy : 0 ≤ y.toInt ∧ y.toInt ≤ 1) : FI N (j + 1) (vp_updL f (70 * N + j) y) := fun k hk => by
  by_cases e : k = j
  · subst e; rw [upL_eq]; exact hy
  · rw [upL_ne (by omega)]; exact h k (by omega)
theorem FI.out {fs : Nat → Int32} {N B j : Nat} {f : Nat → Int64} (hj : 70 ≤ j) (h : FI N j f) : RI fs N B N f := fun i k h1 h2 h3 hk => by
  have e : i = N := by omega
  subst e
  have t := h k (by omega)
  refine ⟨⟨t.1, ?_⟩, fun h4 => absurd h4 (Nat.lt_irrefl _)⟩
  rw [Nat.sub_self]
  exact t.2
theorem RI.getN {fs : Nat → Int32} {N B i d : Nat} {f : Nat → Int64} (h : RI fs N B 0 f) (hi : i < N) (h1 : 1 ≤ d) (h2 : d ≤ 9) : ∃ b9 : Nat, 0 ≤ b9 ∧ b9 < B ∧ b1N fs f i d b9 = f (70 * i + d) := by
  obtain ⟨b, hb, e⟩ := (h i d (by omega) (by omega) (by omega) (Or.inr (Or.inl (by omega)))).2 hi (by omega)
  refine ⟨b, Nat.zero_le _, hb, ?_⟩
  unfold b1 at e
  rw [if_pos (by omega), Nat.mod_eq_of_lt (by omega)] at e
  exact e.symm
theorem RI.getB {fs : Nat → Int32} {N B i a d : Nat} {f : Nat → Int64} (h : RI fs N B 0 f) (hi : i < N) (ha : a < B) (hB : B ≤ 6) (h1 : 1 ≤ d) (h2 : d ≤ 9) : ∃ b9 : Nat, 0 ≤ b9 ∧ b9 < B ∧ b1B fs f i a d b9 = f (70 * i + 10 * (a + 1) + d) := by
  obtain ⟨b, hb, e⟩ := (h i (10 * (a + 1) + d) (by omega) (by omega) (by omega) (Or.inr (Or.inr (by omega)))).2 hi (by omega)
  refine ⟨b, Nat.zero_le _, hb, ?_⟩
  unfold b1 at e
  rw [if_neg (by omega), show (10 * (a + 1) + d) % 10 = d by omega, show (10 * (a + 1) + d) / 10 - 1 = a by omega] at e
  rw [show 70 * i + 10 * (a + 1) + d = 70 * i + (10 * (a + 1) + d) by omega]
  exact e.symm
theorem nx_lt {P : Nat → Prop} {j B : Nat} (h : ∃ b9 : Nat, j ≤ b9 ∧ b9 < B ∧ P b9) : j < B := by
  obtain ⟨b, h1, h2, -⟩ := h
  omega
theorem nx_step {P : Nat → Int64} {y : Int64} {j B : Nat} (h : ∃ b9 : Nat, j ≤ b9 ∧ b9 < B ∧ P b9 = y) (hn : ¬ (P j).toInt = y.toInt) : ∃ b9 : Nat, j + 1 ≤ b9 ∧ b9 < B ∧ P b9 = y := by
  obtain ⟨b, h1, h2, h3⟩ := h
  refine ⟨b, ?_, h2, h3⟩
  by_cases e : b = j
  · subst e; exact absurd (congrArg Int64.toInt h3) hn
  · omega
set_option maxHeartbeats 1000000 in
set_option maxRecDepth 100000 in
theorem c_X11_bestAtN (l : Launch) (dC : Nat → ClassId) (dI : Nat → Nat → Nat) (G : Nat → ClassId) (sz : Nat) (i d : Nat) (hi10 : i ≤ 10) (hdd : d ≤ 9) : Met l yX11_bestAt (Cond.code yX11_bestAt cX11_bestAt 3 (some .int) :: GT) ({ frames := 0, cells := 0, slots := 0, locals := 0 } : Room) (PcR [.int (nI i), .int (-4), .int (nI d)] dC dI G [] sz) (va_Qi (fun (r : Int32) (u : Unit) => match u with | _ => (r = nI (70 * i + d)) ∧ True) (fun _ _ => True) (fun q : Nat => sz ≤ q)) 0 0 (fun q : Nat => sz ≤ q) := by
  refine Met.ofW (cc := cX11_bestAt) (maxL := 3) (ret := (some .int)) (by decide) rfl ?_
  intro p e s m args below meth c s₁ Bd hml hv
  obtain ⟨rfl, hsz, hP, hK⟩ := hv
  have hx := Bd.exec
  have hb := Bd.bytes
  have hr := Bd.returns
  have hg : ∀ w ∈ GT, w.before ([.int (nI i), .int (-4), .int (nI d)] : List Value).toArray s = true := fun w h => atoms_spec (ws := Cond.code yX11_bestAt cX11_bestAt 3 (some .int) :: GT) Bd.pre w (List.mem_cons_of_mem _ h)
  have hown : s.vm.findClass RX11 = some m.cls := findClass_of_methodNamed Bd.named
  have hlocks := Bd.notSynchronized
  subst hsz
  have hA : ∀ q : Nat, s.heap.size ≤ q → (fun q : Nat => s.heap.size ≤ q) q := fun _ h => h
  have hS : va_S (fun q : Nat => s.heap.size ≤ q) s.heap s.heap [] := va_S.rf
  have hl := lv_entry ([.int (nI i), .int (-4), .int (nI d)]) (n := 3) (Nat.le_of_ble_eq_true rfl)
  rw [lg_entry_eq]
  generalize (lg_sl ([.int (nI i), .int (-4), .int (nI d)]) ++ List.replicate (3 - (lg_sl ([.int (nI i), .int (-4), .int (nI d)])).length) Slot.unset).toArray = ls at hl ⊢
  have hl : lv_has ls 3 [(0, .int (nI i)), (1, .int (-4)), (2, .int (nI d))] := hl
  refine lv_bipush (v := 70) hx hb dX11_bestAt_0 rfl ?_
  refine lv_iload_n hx hb dX11_bestAt_2 rfl (lv_at hl 0 rfl) ?_
  refine lv_imul hx hb dX11_bestAt_3 ?_
  refine lv_cg (y := nI (70 * i)) (by rw [show (70 : Int32) = nI 70 from rfl]; exact pk_mul _ _) ?_
  refine lv_bipush (v := 10) hx hb dX11_bestAt_4 rfl ?_
  refine lv_iload_n hx hb dX11_bestAt_6 rfl (lv_at hl 1 rfl) ?_
  refine lv_bipush (v := (-4)) hx hb dX11_bestAt_7 rfl ?_
  refine lv_icmp_ne (tgt := 16) hx hb dX11_bestAt_9 rfl (fun c1 => ?_) (fun c1 => ?_)
  · skip
    exact absurd c1 (by decide)
  · skip
    refine lv_iconst (v := 0) hx hb dX11_bestAt_12 rfl ?_
    refine lv_goto (tgt := 19) hx hb dX11_bestAt_13 rfl ?_
    refine lv_imul hx hb dX11_bestAt_19 ?_
    refine lv_cg (y := 0) (by decide) ?_
    refine lv_iadd hx hb dX11_bestAt_20 ?_
    refine lv_cg (y := nI (70 * i)) (by rw [show (0 : Int32) = nI 0 from rfl, nI_add, Nat.add_zero]) ?_
    refine lv_iload_n hx hb dX11_bestAt_21 rfl (lv_at hl 2 rfl) ?_
    refine lv_iadd hx hb dX11_bestAt_22 ?_
    refine lv_cg (y := nI ((70 * i) + d)) (by exact nI_add _ _) ?_
    have hpost : (nI ((70 * i) + d) : Int32) = nI (70 * i + d) := by
      have t_c1 := eqI c1
      have : ((-4) : Int32).toInt = -4 := qI_m4
      have tn1143_ : nIT i := fun _ => nI_toInt (by omega)
      have t_n0 : (nI i).toInt = (i : Int) := tn1143_ ()
      have tn1144_ : nIT d := fun _ => nI_toInt (by omega)
      have t_n1 : (nI d).toInt = (d : Int) := tn1144_ ()
      have t_n0 : (nI i).toInt = (i : Int) := tn1143_ ()
      first | rfl | ((repeat' split) <;> first | rfl | omega)
    refine W.widen (k := 0) (n := 0) (Nat.le_of_ble_eq_true rfl) (Nat.le_of_ble_eq_true rfl) ?_
    exact W.iret (v := nI ((70 * i) + d)) hx hb hr (fun t ht hW => ⟨⟨nI ((70 * i) + d), (), rfl, ⟨hpost, trivial⟩, trivial⟩, hS.F ht⟩) hS.2.2 dX11_bestAt_23

set_option maxHeartbeats 1000000 in
set_option maxRecDepth 100000 in
theorem c_X11_bestAtB (l : Launch) (dC : Nat → ClassId) (dI : Nat → Nat → Nat) (G : Nat → ClassId) (sz : Nat) (i a d : Nat) (hi10 : i ≤ 10) (hka : a < 6) (hdd : d ≤ 9) : Met l yX11_bestAt (Cond.code yX11_bestAt cX11_bestAt 3 (some .int) :: GT) ({ frames := 0, cells := 0, slots := 0, locals := 0 } : Room) (PcR [.int (nI i), .int (nI a), .int (nI d)] dC dI G [] sz) (va_Qi (fun (r : Int32) (u : Unit) => match u with | _ => (r = nI (70 * i + 10 * (a + 1) + d)) ∧ True) (fun _ _ => True) (fun q : Nat => sz ≤ q)) 0 0 (fun q : Nat => sz ≤ q) := by
  refine Met.ofW (cc := cX11_bestAt) (maxL := 3) (ret := (some .int)) (by decide) rfl ?_
  intro p e s m args below meth c s₁ Bd hml hv
  obtain ⟨rfl, hsz, hP, hK⟩ := hv
  have hx := Bd.exec
  have hb := Bd.bytes
  have hr := Bd.returns
  have hg : ∀ w ∈ GT, w.before ([.int (nI i), .int (nI a), .int (nI d)] : List Value).toArray s = true := fun w h => atoms_spec (ws := Cond.code yX11_bestAt cX11_bestAt 3 (some .int) :: GT) Bd.pre w (List.mem_cons_of_mem _ h)
  have hown : s.vm.findClass RX11 = some m.cls := findClass_of_methodNamed Bd.named
  have hlocks := Bd.notSynchronized
  subst hsz
  have hA : ∀ q : Nat, s.heap.size ≤ q → (fun q : Nat => s.heap.size ≤ q) q := fun _ h => h
  have hS : va_S (fun q : Nat => s.heap.size ≤ q) s.heap s.heap [] := va_S.rf
  have hl := lv_entry ([.int (nI i), .int (nI a), .int (nI d)]) (n := 3) (Nat.le_of_ble_eq_true rfl)
  rw [lg_entry_eq]
  generalize (lg_sl ([.int (nI i), .int (nI a), .int (nI d)]) ++ List.replicate (3 - (lg_sl ([.int (nI i), .int (nI a), .int (nI d)])).length) Slot.unset).toArray = ls at hl ⊢
  have hl : lv_has ls 3 [(0, .int (nI i)), (1, .int (nI a)), (2, .int (nI d))] := hl
  refine lv_bipush (v := 70) hx hb dX11_bestAt_0 rfl ?_
  refine lv_iload_n hx hb dX11_bestAt_2 rfl (lv_at hl 0 rfl) ?_
  refine lv_imul hx hb dX11_bestAt_3 ?_
  refine lv_cg (y := nI (70 * i)) (by rw [show (70 : Int32) = nI 70 from rfl]; exact pk_mul _ _) ?_
  refine lv_bipush (v := 10) hx hb dX11_bestAt_4 rfl ?_
  refine lv_iload_n hx hb dX11_bestAt_6 rfl (lv_at hl 1 rfl) ?_
  refine lv_bipush (v := (-4)) hx hb dX11_bestAt_7 rfl ?_
  refine lv_icmp_ne (tgt := 16) hx hb dX11_bestAt_9 rfl (fun c1 => ?_) (fun c1 => ?_)
  · skip
    refine lv_iload_n hx hb dX11_bestAt_16 rfl (lv_at hl 1 rfl) ?_
    refine lv_iconst (v := 1) hx hb dX11_bestAt_17 rfl ?_
    refine lv_iadd hx hb dX11_bestAt_18 ?_
    refine lv_cg (y := nI (a + 1)) (by rw [show (1 : Int32) = nI 1 from rfl]; exact nI_add _ _) ?_
    refine lv_imul hx hb dX11_bestAt_19 ?_
    refine lv_cg (y := nI (10 * (a + 1))) (by rw [show (10 : Int32) = nI 10 from rfl]; exact pk_mul _ _) ?_
    refine lv_iadd hx hb dX11_bestAt_20 ?_
    refine lv_cg (y := nI ((70 * i) + (10 * (a + 1)))) (by exact nI_add _ _) ?_
    refine lv_iload_n hx hb dX11_bestAt_21 rfl (lv_at hl 2 rfl) ?_
    refine lv_iadd hx hb dX11_bestAt_22 ?_
    refine lv_cg (y := nI (((70 * i) + (10 * (a + 1))) + d)) (by exact nI_add _ _) ?_
    have hpost : (nI (((70 * i) + (10 * (a + 1))) + d) : Int32) = nI (70 * i + 10 * (a + 1) + d) := by
      have t_c1 := neI c1
      have : ((-4) : Int32).toInt = -4 := qI_m4
      have tn1145_ : nIT i := fun _ => nI_toInt (by omega)
      have t_n0 : (nI i).toInt = (i : Int) := tn1145_ ()
      have tn1146_ : nIT a := fun _ => nI_toInt (by omega)
      have t_n1 : (nI a).toInt = (a : Int) := tn1146_ ()
      have tn1147_ : nIT d := fun _ => nI_toInt (by omega)
      have t_n2 : (nI d).toInt = (d : Int) := tn1147_ ()
      have t_n0 : (nI i).toInt = (i : Int) := tn1145_ ()
      have t_n1 : (nI a).toInt = (a : Int) := tn1146_ ()
      first | rfl | ((repeat' split) <;> first | rfl | omega)
    refine W.widen (k := 0) (n := 0) (Nat.le_of_ble_eq_true rfl) (Nat.le_of_ble_eq_true rfl) ?_
    exact W.iret (v := nI (((70 * i) + (10 * (a + 1))) + d)) hx hb hr (fun t ht hW => ⟨⟨nI (((70 * i) + (10 * (a + 1))) + d), (), rfl, ⟨hpost, trivial⟩, trivial⟩, hS.F ht⟩) hS.2.2 dX11_bestAt_23
  · skip
    have t_c1 := eqI c1
    have : ((-4) : Int32).toInt = -4 := qI_m4
    have tn1148_ : nIT i := fun _ => nI_toInt (by omega)
    have t_n0 : (nI i).toInt = (i : Int) := tn1148_ ()
    have tn1149_ : nIT a := fun _ => nI_toInt (by omega)
    have t_n1 : (nI a).toInt = (a : Int) := tn1149_ ()
    have tn1150_ : nIT d := fun _ => nI_toInt (by omega)
    have t_n2 : (nI d).toInt = (d : Int) := tn1150_ ()
    exfalso; omega

set_option maxHeartbeats 1000000 in
set_option maxRecDepth 100000 in
theorem c_X11_byOneN (l : Launch) (dC : Nat → ClassId) (dI : Nat → Nat → Nat) (G : Nat → ClassId) (sz : Nat) (h0 i d b st N B rp tp T cu lt od th be ln S ma M ah bh ik la lg ce : Nat) (vrs vrb vhs vca vxs vxb vfa vbr vba vsp vhe vtk vva vto : Int32) (fst : Nat → Int32) (fbe : Nat → Int64) (hN : N ≤ 10) (hB : B ≤ 6) (hT : T ≤ 320) (hS0 : S ≤ 8) (hM : M ≤ 6) (hi : i < 10) (hkb : b < 6) (hd1 : 1 ≤ d ∧ d ≤ 9) : Met l yX11_byOne (Cond.code yX11_byOne cX11_byOne 6 (some .long) :: GT) ({ frames := 2, cells := 0, slots := 0, locals := 50 } : Room) (PcR [.ref h0, .int (nI i), .int (-4), .int (nI d), .int (nI b)] dC dI G [(h0, .inr (11, [.ref st, .int (nI N), .int (nI B), .ref rp, .int vrs, .int vrb, .int vhs, .int vca, .int vxs, .int vxb, .ref tp, .int (nI T), .int vfa, .int vbr, .int vba, .int vsp, .int vhe, .int vtk, .int vva, .ref cu, .ref lt, .ref od, .ref th, .ref be, .ref ln, .int (nI S), .ref ma, .int (nI M), .ref ah, .ref bh, .ref ik, .ref la, .ref lg, .ref ce, .int vto])), (st, .inl (G 0, 196, .inl fst)), (be, .inl (G 1, 770, .inr (.inl fbe)))] sz) (va_Ql (fun (r : Int64) (u : Unit) => match u with | _ => (r = b1N fst fbe i d b) ∧ True) (fun _ _ => True) (fun q : Nat => sz ≤ q)) 0 0 (fun q : Nat => sz ≤ q) := by
  have hB_ := hB
  have hM_ := hM
  have hT_ := hT
  have tn1151_ : nIT N := fun _ => nI_toInt (by omega)
  have tn1152_ : nIT B := fun _ => nI_toInt (by omega)
  have tn1153_ : nIT T := fun _ => nI_toInt (by omega)
  have tn1154_ : nIT S := fun _ => nI_toInt (by omega)
  have tn1155_ : nIT M := fun _ => nI_toInt (by omega)
  refine Met.ofW (cc := cX11_byOne) (maxL := 6) (ret := (some .long)) (by decide) rfl ?_
  intro p e s m args below meth c s₁ Bd hml hv
  obtain ⟨rfl, hsz, hP, hK⟩ := hv
  have hx := Bd.exec
  have hb := Bd.bytes
  have hr := Bd.returns
  have hg : ∀ w ∈ GT, w.before ([.ref h0, .int (nI i), .int (-4), .int (nI d), .int (nI b)] : List Value).toArray s = true := fun w h => atoms_spec (ws := Cond.code yX11_byOne cX11_byOne 6 (some .long) :: GT) Bd.pre w (List.mem_cons_of_mem _ h)
  have hown : s.vm.findClass RX11 = some m.cls := findClass_of_methodNamed Bd.named
  have hlocks := Bd.notSynchronized
  subst hsz
  have hA : ∀ q : Nat, s.heap.size ≤ q → (fun q : Nat => s.heap.size ≤ q) q := fun _ h => h
  have hS : va_S (fun q : Nat => s.heap.size ≤ q) s.heap s.heap [] := va_S.rf
  have hl := lv_entry ([.ref h0, .int (nI i), .int (-4), .int (nI d), .int (nI b)]) (n := 6) (Nat.le_of_ble_eq_true rfl)
  rw [lg_entry_eq]
  generalize (lg_sl ([.ref h0, .int (nI i), .int (-4), .int (nI d), .int (nI b)]) ++ List.replicate (6 - (lg_sl ([.ref h0, .int (nI i), .int (-4), .int (nI d), .int (nI b)])).length) Slot.unset).toArray = ls at hl ⊢
  have hl : lv_has ls 6 [(0, .ref h0), (1, .int (nI i)), (2, .int (-4)), (3, .int (nI d)), (4, .int (nI b))] := hl
  refine lv_aload_n hx hb dX11_byOne_0 rfl (lv_at hl 0 rfl) ?_
  refine lv_iload_n hx hb dX11_byOne_1 rfl (lv_at hl 1 rfl) ?_
  refine lv_iload_n hx hb dX11_byOne_2 rfl (lv_at hl 2 rfl) ?_
  refine lv_iload hx hb dX11_byOne_3 (lv_at hl 4 rfl) ?_
  refine lv_iconst (v := 0) hx hb dX11_byOne_5 rfl ?_
  have hPc := hP.sub (ws' := [(h0, .inr (11, [.ref st, .int (nI N), .int (nI B), .ref rp, .int vrs, .int vrb, .int vhs, .int vca, .int vxs, .int vxb, .ref tp, .int (nI T), .int vfa, .int vbr, .int vba, .int vsp, .int vhe, .int vtk, .int vva, .ref cu, .ref lt, .ref od, .ref th, .ref be, .ref ln, .int (nI S), .ref ma, .int (nI M), .ref ah, .ref bh, .ref ik, .ref la, .ref lg, .ref ce, .int vto])), (st, .inl (G 0, 196, .inl fst))]) [0, 1] rfl
  have tn1156_ : nIT i := fun _ => nI_toInt (by omega)
  have tn1157_ : nIT d := fun _ => nI_toInt (by omega)
  have tn1158_ : nIT b := fun _ => nI_toInt (by omega)
  refine va_calli (va_runV (As := [.int (nI i), .int (-4), .int (nI b), .int 0]) (rest := []) ⟨hx, hb, hml, hown, hg⟩ (c_X11_harmOfN l dC dI G _ h0 i b st N B rp tp T cu lt od th be ln S ma M ah bh ik la lg ce 0 vrs vrb vhs vca vxs vxb vfa vbr vba vsp vhe vtk vva vto fst hN hB_ hT_ hS0 hM_ hi hkb) (kwV hg mfX11_harmOf wt_1106 ⟨Nat.le_of_ble_eq_true rfl, Nat.le_of_ble_eq_true rfl⟩) (preVR hK hPc (ci := 11) rfl rfl) rfl rfl hl.1 rfl (lv_room (Nat.le_of_ble_eq_true rfl)) dX11_byOne_6 ⟨Nat.le_of_ble_eq_true rfl, Nat.le_of_ble_eq_true rfl⟩) hS (fun q h1 h2 => absurd h2 (Nat.not_le.mpr h1)) (fun q h => hA q (Nat.le_trans hS.1 h)) (fun r1 ur1 t H1 locs ht hvm w2 hB hz1 hk1 hS => ?_)
  have hP := keepR hP hk1
  obtain ⟨w2, w2x⟩ := w2
  subst w2
  refine lv_istore (lv' := [(5, .int (rhN fst i b 0)), (0, .ref h0), (1, .int (nI i)), (2, .int (-4)), (3, .int (nI d)), (4, .int (nI b))]) hx hb dX11_byOne_9 hl (by decide) rfl (fun ls hl => ?_)
  refine lv_iload hx hb dX11_byOne_11 (lv_at hl 0 rfl) ?_
  refine lv_i2l (v := (rhN fst i b 0).toInt64) hx hb dX11_byOne_13 rfl ?_
  refine lv_aload_n hx hb dX11_byOne_14 rfl (lv_at hl 1 rfl) ?_
  refine va_get (D := (dC, dI)) (ci := 11) (v := .ref be) (C := RX11) (T := TX11) (N := 35) hx hb hg inG11 hown hK.1 hP 0 rfl rfl 23 (Nat.le_of_ble_eq_true rfl) (hg _ wt_901) (fun _ h9 => h9) rfl dX11_byOne_15 ?_
  refine lv_iload_n hx hb dX11_byOne_18 rfl (lv_at hl 2 rfl) ?_
  refine lv_iconst (v := 1) hx hb dX11_byOne_19 rfl ?_
  refine lv_iadd hx hb dX11_byOne_20 ?_
  refine lv_cg (y := nI (i + 1)) (by rw [show (1 : Int32) = nI 1 from rfl]; exact nI_add _ _) ?_
  refine lv_iload hx hb dX11_byOne_21 (lv_at hl 5 rfl) ?_
  refine lv_iload_n hx hb dX11_byOne_23 rfl (lv_at hl 4 rfl) ?_
  refine lv_iconst (v := 1) hx hb dX11_byOne_24 rfl ?_
  refine lv_isub hx hb dX11_byOne_25 ?_
  refine lv_cg (y := nI (d - 1)) (by rw [show (1 : Int32) = nI 1 from rfl]; exact pk_sub (by have t_n0 : (nI i).toInt = (i : Int) := tn1156_ (); have t_n1 : (nI d).toInt = (d : Int) := tn1157_ (); have t_n2 : (nI b).toInt = (b : Int) := tn1158_ (); have t_n3 : (nI N).toInt = (N : Int) := tn1151_ (); have t_n4 : (nI B).toInt = (B : Int) := tn1152_ (); have t_n5 : (nI T).toInt = (T : Int) := tn1153_ (); have t_n6 : (nI S).toInt = (S : Int) := tn1154_ (); have t_n7 : (nI M).toInt = (M : Int) := tn1155_ (); omega)) ?_
  have hPc := hP.sub (ws' := []) [] rfl
  refine va_calli (va_runS (As := [.int (nI (i + 1)), .int (nI b), .int (nI (d - 1))]) (rest := [.ref be, .long ((rhN fst i b 0).toInt64)]) ⟨hx, hb, hml, hown, hg⟩ (c_X11_bestAtB l dC dI G _ (i + 1) b (d - 1) (by first | omega | (have t_n0 : (nI i).toInt = (i : Int) := tn1156_ (); have t_n1 : (nI d).toInt = (d : Int) := tn1157_ (); have t_n2 : (nI b).toInt = (b : Int) := tn1158_ (); have t_n3 : (nI N).toInt = (N : Int) := tn1151_ (); have t_n4 : (nI B).toInt = (B : Int) := tn1152_ (); have t_n5 : (nI T).toInt = (T : Int) := tn1153_ (); have t_n6 : (nI S).toInt = (S : Int) := tn1154_ (); have t_n7 : (nI M).toInt = (M : Int) := tn1155_ (); omega)) hkb (by first | omega | (have t_n0 : (nI i).toInt = (i : Int) := tn1156_ (); have t_n1 : (nI d).toInt = (d : Int) := tn1157_ (); have t_n2 : (nI b).toInt = (b : Int) := tn1158_ (); have t_n3 : (nI N).toInt = (N : Int) := tn1151_ (); have t_n4 : (nI B).toInt = (B : Int) := tn1152_ (); have t_n5 : (nI T).toInt = (T : Int) := tn1153_ (); have t_n6 : (nI S).toInt = (S : Int) := tn1154_ (); have t_n7 : (nI M).toInt = (M : Int) := tn1155_ (); omega))) (kwS hg mfX11_bestAt wt_1159 ⟨Nat.le_of_ble_eq_true rfl, Nat.le_of_ble_eq_true rfl⟩) (preSR hK hPc) rfl rfl hl.1 rfl (lv_room (Nat.le_of_ble_eq_true rfl)) dX11_byOne_26 ⟨Nat.le_of_ble_eq_true rfl, Nat.le_of_ble_eq_true rfl⟩) hS (fun q h1 h2 => absurd h2 (Nat.not_le.mpr h1)) (fun q h => hA q (Nat.le_trans hS.1 h)) (fun r3 ur3 t H1 locs ht hvm w4 hB hz1 hk1 hS => ?_)
  have hP := keepR hP hk1
  obtain ⟨w4, w4x⟩ := w4
  subst w4
  refine va_lald hx hb hK.1 hP 2 1 rfl rfl (vp_in_nI (by first | omega | (have t_n0 : (nI i).toInt = (i : Int) := tn1156_ (); have t_n1 : (nI d).toInt = (d : Int) := tn1157_ (); have t_n2 : (nI b).toInt = (b : Int) := tn1158_ (); have t_n3 : (nI N).toInt = (N : Int) := tn1151_ (); have t_n4 : (nI B).toInt = (B : Int) := tn1152_ (); have t_n5 : (nI T).toInt = (T : Int) := tn1153_ (); have t_n6 : (nI S).toInt = (S : Int) := tn1154_ (); have t_n7 : (nI M).toInt = (M : Int) := tn1155_ (); omega)) (by decide)) dX11_byOne_29 ?_
  refine lv_cgl (y := fbe (70 * (i + 1) + 10 * (b + 1) + (d - 1))) (by rw [nI_clamp (by omega)]) ?_
  refine lv_lmul hx hb dX11_byOne_30 ?_
  refine lv_bipush (v := 20) hx hb dX11_byOne_31 rfl ?_
  refine lv_iload hx hb dX11_byOne_33 (lv_at hl 0 rfl) ?_
  refine lv_isub hx hb dX11_byOne_35 ?_
  refine lv_i2l (v := (20 - (rhN fst i b 0)).toInt64) hx hb dX11_byOne_36 rfl ?_
  refine lv_aload_n hx hb dX11_byOne_37 rfl (lv_at hl 1 rfl) ?_
  refine va_get (D := (dC, dI)) (ci := 11) (v := .ref be) (C := RX11) (T := TX11) (N := 35) hx hb hg inG11 hown hK.1 hP 0 rfl rfl 23 (Nat.le_of_ble_eq_true rfl) (hg _ wt_901) (fun _ h9 => h9) rfl dX11_byOne_38 ?_
  refine lv_iload_n hx hb dX11_byOne_41 rfl (lv_at hl 2 rfl) ?_
  refine lv_iconst (v := 1) hx hb dX11_byOne_42 rfl ?_
  refine lv_iadd hx hb dX11_byOne_43 ?_
  refine lv_cg (y := nI (i + 1)) (by rw [show (1 : Int32) = nI 1 from rfl]; exact nI_add _ _) ?_
  refine lv_iload hx hb dX11_byOne_44 (lv_at hl 5 rfl) ?_
  refine lv_iload_n hx hb dX11_byOne_46 rfl (lv_at hl 4 rfl) ?_
  refine lv_iconst (v := 1) hx hb dX11_byOne_47 rfl ?_
  have hPc := hP.sub (ws' := []) [] rfl
  refine va_calli (va_runS (As := [.int (nI d), .int 1]) (rest := [.int (nI b), .int (nI (i + 1)), .ref be, .long ((20 - (rhN fst i b 0)).toInt64), .long (((rhN fst i b 0).toInt64) * (fbe (70 * (i + 1) + 10 * (b + 1) + (d - 1))))]) ⟨hx, hb, hml, hown, hg⟩ (c_X11_deeper l dC dI G _ d 1 (by first | omega | (have t_n0 : (nI i).toInt = (i : Int) := tn1156_ (); have t_n1 : (nI d).toInt = (d : Int) := tn1157_ (); have t_n2 : (nI b).toInt = (b : Int) := tn1158_ (); have t_n3 : (nI N).toInt = (N : Int) := tn1151_ (); have t_n4 : (nI B).toInt = (B : Int) := tn1152_ (); have t_n5 : (nI T).toInt = (T : Int) := tn1153_ (); have t_n6 : (nI S).toInt = (S : Int) := tn1154_ (); have t_n7 : (nI M).toInt = (M : Int) := tn1155_ (); have : (1 : Int32).toInt = 1 := qI_1; omega)) (by first | omega | (have t_n0 : (nI i).toInt = (i : Int) := tn1156_ (); have t_n1 : (nI d).toInt = (d : Int) := tn1157_ (); have t_n2 : (nI b).toInt = (b : Int) := tn1158_ (); have t_n3 : (nI N).toInt = (N : Int) := tn1151_ (); have t_n4 : (nI B).toInt = (B : Int) := tn1152_ (); have t_n5 : (nI T).toInt = (T : Int) := tn1153_ (); have t_n6 : (nI S).toInt = (S : Int) := tn1154_ (); have t_n7 : (nI M).toInt = (M : Int) := tn1155_ (); have : (1 : Int32).toInt = 1 := qI_1; omega))) (kwS hg mfX11_deeper wt_1128 ⟨Nat.le_of_ble_eq_true rfl, Nat.le_of_ble_eq_true rfl⟩) (preSR hK hPc) rfl rfl hl.1 rfl (lv_room (Nat.le_of_ble_eq_true rfl)) dX11_byOne_48 ⟨Nat.le_of_ble_eq_true rfl, Nat.le_of_ble_eq_true rfl⟩) hS (fun q h1 h2 => absurd h2 (Nat.not_le.mpr h1)) (fun q h => hA q (Nat.le_trans hS.1 h)) (fun r5 ur5 t H1 locs ht hvm w6 hB hz1 hk1 hS => ?_)
  have hP := keepR hP hk1
  obtain ⟨w6, w6x⟩ := w6
  have hs7 : d ≤ (min 9 (d + 1)) ∧ (min 9 (d + 1)) ≤ 9 := (by omega)
  subst w6
  have hPc := hP.sub (ws' := []) [] rfl
  refine va_calli (va_runS (As := [.int (nI (i + 1)), .int (nI b), .int (nI (min 9 (d + 1)))]) (rest := [.ref be, .long ((20 - (rhN fst i b 0)).toInt64), .long (((rhN fst i b 0).toInt64) * (fbe (70 * (i + 1) + 10 * (b + 1) + (d - 1))))]) ⟨hx, hb, hml, hown, hg⟩ (c_X11_bestAtB l dC dI G _ (i + 1) b (min 9 (d + 1)) (by first | omega | (have t_hs7 := hs7; have t_n0 : (nI i).toInt = (i : Int) := tn1156_ (); have t_n1 : (nI d).toInt = (d : Int) := tn1157_ (); have t_n2 : (nI b).toInt = (b : Int) := tn1158_ (); have t_n3 : (nI N).toInt = (N : Int) := tn1151_ (); have t_n4 : (nI B).toInt = (B : Int) := tn1152_ (); have t_n5 : (nI T).toInt = (T : Int) := tn1153_ (); have t_n6 : (nI S).toInt = (S : Int) := tn1154_ (); have t_n7 : (nI M).toInt = (M : Int) := tn1155_ (); omega)) hkb (by first | omega | (have t_hs7 := hs7; have t_n0 : (nI i).toInt = (i : Int) := tn1156_ (); have t_n1 : (nI d).toInt = (d : Int) := tn1157_ (); have t_n2 : (nI b).toInt = (b : Int) := tn1158_ (); have t_n3 : (nI N).toInt = (N : Int) := tn1151_ (); have t_n4 : (nI B).toInt = (B : Int) := tn1152_ (); have t_n5 : (nI T).toInt = (T : Int) := tn1153_ (); have t_n6 : (nI S).toInt = (S : Int) := tn1154_ (); have t_n7 : (nI M).toInt = (M : Int) := tn1155_ (); omega))) (kwS hg mfX11_bestAt wt_1159 ⟨Nat.le_of_ble_eq_true rfl, Nat.le_of_ble_eq_true rfl⟩) (preSR hK hPc) rfl rfl hl.1 rfl (lv_room (Nat.le_of_ble_eq_true rfl)) dX11_byOne_51 ⟨Nat.le_of_ble_eq_true rfl, Nat.le_of_ble_eq_true rfl⟩) hS (fun q h1 h2 => absurd h2 (Nat.not_le.mpr h1)) (fun q h => hA q (Nat.le_trans hS.1 h)) (fun r8 ur8 t H1 locs ht hvm w9 hB hz1 hk1 hS => ?_)
  have hP := keepR hP hk1
  obtain ⟨w9, w9x⟩ := w9
  subst w9
  refine va_lald hx hb hK.1 hP 2 1 rfl rfl (vp_in_nI (by first | omega | (have t_hs7 := hs7; have t_n0 : (nI i).toInt = (i : Int) := tn1156_ (); have t_n1 : (nI d).toInt = (d : Int) := tn1157_ (); have t_n2 : (nI b).toInt = (b : Int) := tn1158_ (); have t_n3 : (nI N).toInt = (N : Int) := tn1151_ (); have t_n4 : (nI B).toInt = (B : Int) := tn1152_ (); have t_n5 : (nI T).toInt = (T : Int) := tn1153_ (); have t_n6 : (nI S).toInt = (S : Int) := tn1154_ (); have t_n7 : (nI M).toInt = (M : Int) := tn1155_ (); omega)) (by decide)) dX11_byOne_54 ?_
  refine lv_cgl (y := fbe (70 * (i + 1) + 10 * (b + 1) + (min 9 (d + 1)))) (by rw [nI_clamp (by omega)]) ?_
  refine lv_lmul hx hb dX11_byOne_55 ?_
  refine lv_ladd hx hb dX11_byOne_56 ?_
  have hpost : ((((rhN fst i b 0).toInt64) * (fbe (70 * (i + 1) + 10 * (b + 1) + (d - 1)))) + (((20 - (rhN fst i b 0)).toInt64) * (fbe (70 * (i + 1) + 10 * (b + 1) + (min 9 (d + 1))))) : Int64) = b1N fst fbe i d b := by
    rfl
  refine W.widen (k := 0) (n := 0) (Nat.le_of_ble_eq_true rfl) (Nat.le_of_ble_eq_true rfl) ?_
  exact W.lret (v := (((rhN fst i b 0).toInt64) * (fbe (70 * (i + 1) + 10 * (b + 1) + (d - 1)))) + (((20 - (rhN fst i b 0)).toInt64) * (fbe (70 * (i + 1) + 10 * (b + 1) + (min 9 (d + 1)))))) hx hb hr (fun t ht hW => ⟨⟨(((rhN fst i b 0).toInt64) * (fbe (70 * (i + 1) + 10 * (b + 1) + (d - 1)))) + (((20 - (rhN fst i b 0)).toInt64) * (fbe (70 * (i + 1) + 10 * (b + 1) + (min 9 (d + 1))))), (), rfl, ⟨hpost, trivial⟩, trivial⟩, hS.F ht⟩) hS.2.2 dX11_byOne_57

set_option maxHeartbeats 1000000 in
set_option maxRecDepth 100000 in
theorem c_X11_byOneB (l : Launch) (dC : Nat → ClassId) (dI : Nat → Nat → Nat) (G : Nat → ClassId) (sz : Nat) (h0 i a d b st N B rp tp T cu lt od th be ln S ma M ah bh ik la lg ce : Nat) (vrs vrb vhs vca vxs vxb vfa vbr vba vsp vhe vtk vva vto : Int32) (fst : Nat → Int32) (fbe : Nat → Int64) (hN : N ≤ 10) (hB : B ≤ 6) (hT : T ≤ 320) (hS0 : S ≤ 8) (hM : M ≤ 6) (hi : i < 10) (hka : a < 6) (hkb : b < 6) (hd1 : 1 ≤ d ∧ d ≤ 9) : Met l yX11_byOne (Cond.code yX11_byOne cX11_byOne 6 (some .long) :: GT) ({ frames := 2, cells := 0, slots := 0, locals := 50 } : Room) (PcR [.ref h0, .int (nI i), .int (nI a), .int (nI d), .int (nI b)] dC dI G [(h0, .inr (11, [.ref st, .int (nI N), .int (nI B), .ref rp, .int vrs, .int vrb, .int vhs, .int vca, .int vxs, .int vxb, .ref tp, .int (nI T), .int vfa, .int vbr, .int vba, .int vsp, .int vhe, .int vtk, .int vva, .ref cu, .ref lt, .ref od, .ref th, .ref be, .ref ln, .int (nI S), .ref ma, .int (nI M), .ref ah, .ref bh, .ref ik, .ref la, .ref lg, .ref ce, .int vto])), (st, .inl (G 0, 196, .inl fst)), (be, .inl (G 1, 770, .inr (.inl fbe)))] sz) (va_Ql (fun (r : Int64) (u : Unit) => match u with | _ => (r = b1B fst fbe i a d b) ∧ True) (fun _ _ => True) (fun q : Nat => sz ≤ q)) 0 0 (fun q : Nat => sz ≤ q) := by
  have hB_ := hB
  have hM_ := hM
  have hT_ := hT
  have tn1159_ : nIT N := fun _ => nI_toInt (by omega)
  have tn1160_ : nIT B := fun _ => nI_toInt (by omega)
  have tn1161_ : nIT T := fun _ => nI_toInt (by omega)
  have tn1162_ : nIT S := fun _ => nI_toInt (by omega)
  have tn1163_ : nIT M := fun _ => nI_toInt (by omega)
  refine Met.ofW (cc := cX11_byOne) (maxL := 6) (ret := (some .long)) (by decide) rfl ?_
  intro p e s m args below meth c s₁ Bd hml hv
  obtain ⟨rfl, hsz, hP, hK⟩ := hv
  have hx := Bd.exec
  have hb := Bd.bytes
  have hr := Bd.returns
  have hg : ∀ w ∈ GT, w.before ([.ref h0, .int (nI i), .int (nI a), .int (nI d), .int (nI b)] : List Value).toArray s = true := fun w h => atoms_spec (ws := Cond.code yX11_byOne cX11_byOne 6 (some .long) :: GT) Bd.pre w (List.mem_cons_of_mem _ h)
  have hown : s.vm.findClass RX11 = some m.cls := findClass_of_methodNamed Bd.named
  have hlocks := Bd.notSynchronized
  subst hsz
  have hA : ∀ q : Nat, s.heap.size ≤ q → (fun q : Nat => s.heap.size ≤ q) q := fun _ h => h
  have hS : va_S (fun q : Nat => s.heap.size ≤ q) s.heap s.heap [] := va_S.rf
  have hl := lv_entry ([.ref h0, .int (nI i), .int (nI a), .int (nI d), .int (nI b)]) (n := 6) (Nat.le_of_ble_eq_true rfl)
  rw [lg_entry_eq]
  generalize (lg_sl ([.ref h0, .int (nI i), .int (nI a), .int (nI d), .int (nI b)]) ++ List.replicate (6 - (lg_sl ([.ref h0, .int (nI i), .int (nI a), .int (nI d), .int (nI b)])).length) Slot.unset).toArray = ls at hl ⊢
  have hl : lv_has ls 6 [(0, .ref h0), (1, .int (nI i)), (2, .int (nI a)), (3, .int (nI d)), (4, .int (nI b))] := hl
  refine lv_aload_n hx hb dX11_byOne_0 rfl (lv_at hl 0 rfl) ?_
  refine lv_iload_n hx hb dX11_byOne_1 rfl (lv_at hl 1 rfl) ?_
  refine lv_iload_n hx hb dX11_byOne_2 rfl (lv_at hl 2 rfl) ?_
  refine lv_iload hx hb dX11_byOne_3 (lv_at hl 4 rfl) ?_
  refine lv_iconst (v := 0) hx hb dX11_byOne_5 rfl ?_
  have hPc := hP.sub (ws' := [(h0, .inr (11, [.ref st, .int (nI N), .int (nI B), .ref rp, .int vrs, .int vrb, .int vhs, .int vca, .int vxs, .int vxb, .ref tp, .int (nI T), .int vfa, .int vbr, .int vba, .int vsp, .int vhe, .int vtk, .int vva, .ref cu, .ref lt, .ref od, .ref th, .ref be, .ref ln, .int (nI S), .ref ma, .int (nI M), .ref ah, .ref bh, .ref ik, .ref la, .ref lg, .ref ce, .int vto])), (st, .inl (G 0, 196, .inl fst))]) [0, 1] rfl
  have tn1164_ : nIT i := fun _ => nI_toInt (by omega)
  have tn1165_ : nIT a := fun _ => nI_toInt (by omega)
  have tn1166_ : nIT d := fun _ => nI_toInt (by omega)
  have tn1167_ : nIT b := fun _ => nI_toInt (by omega)
  refine va_calli (va_runV (As := [.int (nI i), .int (nI a), .int (nI b), .int 0]) (rest := []) ⟨hx, hb, hml, hown, hg⟩ (c_X11_harmOfB l dC dI G _ h0 i a b st N B rp tp T cu lt od th be ln S ma M ah bh ik la lg ce 0 vrs vrb vhs vca vxs vxb vfa vbr vba vsp vhe vtk vva vto fst hN hB_ hT_ hS0 hM_ hi hkb hka) (kwV hg mfX11_harmOf wt_1106 ⟨Nat.le_of_ble_eq_true rfl, Nat.le_of_ble_eq_true rfl⟩) (preVR hK hPc (ci := 11) rfl rfl) rfl rfl hl.1 rfl (lv_room (Nat.le_of_ble_eq_true rfl)) dX11_byOne_6 ⟨Nat.le_of_ble_eq_true rfl, Nat.le_of_ble_eq_true rfl⟩) hS (fun q h1 h2 => absurd h2 (Nat.not_le.mpr h1)) (fun q h => hA q (Nat.le_trans hS.1 h)) (fun r1 ur1 t H1 locs ht hvm w2 hB hz1 hk1 hS => ?_)
  have hP := keepR hP hk1
  obtain ⟨w2, w2x⟩ := w2
  subst w2
  refine lv_istore (lv' := [(5, .int (rhB fst i a b 0)), (0, .ref h0), (1, .int (nI i)), (2, .int (nI a)), (3, .int (nI d)), (4, .int (nI b))]) hx hb dX11_byOne_9 hl (by decide) rfl (fun ls hl => ?_)
  refine lv_iload hx hb dX11_byOne_11 (lv_at hl 0 rfl) ?_
  refine lv_i2l (v := (rhB fst i a b 0).toInt64) hx hb dX11_byOne_13 rfl ?_
  refine lv_aload_n hx hb dX11_byOne_14 rfl (lv_at hl 1 rfl) ?_
  refine va_get (D := (dC, dI)) (ci := 11) (v := .ref be) (C := RX11) (T := TX11) (N := 35) hx hb hg inG11 hown hK.1 hP 0 rfl rfl 23 (Nat.le_of_ble_eq_true rfl) (hg _ wt_901) (fun _ h9 => h9) rfl dX11_byOne_15 ?_
  refine lv_iload_n hx hb dX11_byOne_18 rfl (lv_at hl 2 rfl) ?_
  refine lv_iconst (v := 1) hx hb dX11_byOne_19 rfl ?_
  refine lv_iadd hx hb dX11_byOne_20 ?_
  refine lv_cg (y := nI (i + 1)) (by rw [show (1 : Int32) = nI 1 from rfl]; exact nI_add _ _) ?_
  refine lv_iload hx hb dX11_byOne_21 (lv_at hl 5 rfl) ?_
  refine lv_iload_n hx hb dX11_byOne_23 rfl (lv_at hl 4 rfl) ?_
  refine lv_iconst (v := 1) hx hb dX11_byOne_24 rfl ?_
  refine lv_isub hx hb dX11_byOne_25 ?_
  refine lv_cg (y := nI (d - 1)) (by rw [show (1 : Int32) = nI 1 from rfl]; exact pk_sub (by have t_n0 : (nI i).toInt = (i : Int) := tn1164_ (); have t_n1 : (nI a).toInt = (a : Int) := tn1165_ (); have t_n2 : (nI d).toInt = (d : Int) := tn1166_ (); have t_n3 : (nI b).toInt = (b : Int) := tn1167_ (); have t_n4 : (nI N).toInt = (N : Int) := tn1159_ (); have t_n5 : (nI B).toInt = (B : Int) := tn1160_ (); have t_n6 : (nI T).toInt = (T : Int) := tn1161_ (); have t_n7 : (nI S).toInt = (S : Int) := tn1162_ (); have t_n8 : (nI M).toInt = (M : Int) := tn1163_ (); omega)) ?_
  have hPc := hP.sub (ws' := []) [] rfl
  refine va_calli (va_runS (As := [.int (nI (i + 1)), .int (nI b), .int (nI (d - 1))]) (rest := [.ref be, .long ((rhB fst i a b 0).toInt64)]) ⟨hx, hb, hml, hown, hg⟩ (c_X11_bestAtB l dC dI G _ (i + 1) b (d - 1) (by first | omega | (have t_n0 : (nI i).toInt = (i : Int) := tn1164_ (); have t_n1 : (nI a).toInt = (a : Int) := tn1165_ (); have t_n2 : (nI d).toInt = (d : Int) := tn1166_ (); have t_n3 : (nI b).toInt = (b : Int) := tn1167_ (); have t_n4 : (nI N).toInt = (N : Int) := tn1159_ (); have t_n5 : (nI B).toInt = (B : Int) := tn1160_ (); have t_n6 : (nI T).toInt = (T : Int) := tn1161_ (); have t_n7 : (nI S).toInt = (S : Int) := tn1162_ (); have t_n8 : (nI M).toInt = (M : Int) := tn1163_ (); omega)) hkb (by first | omega | (have t_n0 : (nI i).toInt = (i : Int) := tn1164_ (); have t_n1 : (nI a).toInt = (a : Int) := tn1165_ (); have t_n2 : (nI d).toInt = (d : Int) := tn1166_ (); have t_n3 : (nI b).toInt = (b : Int) := tn1167_ (); have t_n4 : (nI N).toInt = (N : Int) := tn1159_ (); have t_n5 : (nI B).toInt = (B : Int) := tn1160_ (); have t_n6 : (nI T).toInt = (T : Int) := tn1161_ (); have t_n7 : (nI S).toInt = (S : Int) := tn1162_ (); have t_n8 : (nI M).toInt = (M : Int) := tn1163_ (); omega))) (kwS hg mfX11_bestAt wt_1159 ⟨Nat.le_of_ble_eq_true rfl, Nat.le_of_ble_eq_true rfl⟩) (preSR hK hPc) rfl rfl hl.1 rfl (lv_room (Nat.le_of_ble_eq_true rfl)) dX11_byOne_26 ⟨Nat.le_of_ble_eq_true rfl, Nat.le_of_ble_eq_true rfl⟩) hS (fun q h1 h2 => absurd h2 (Nat.not_le.mpr h1)) (fun q h => hA q (Nat.le_trans hS.1 h)) (fun r3 ur3 t H1 locs ht hvm w4 hB hz1 hk1 hS => ?_)
  have hP := keepR hP hk1
  obtain ⟨w4, w4x⟩ := w4
  subst w4
  refine va_lald hx hb hK.1 hP 2 1 rfl rfl (vp_in_nI (by first | omega | (have t_n0 : (nI i).toInt = (i : Int) := tn1164_ (); have t_n1 : (nI a).toInt = (a : Int) := tn1165_ (); have t_n2 : (nI d).toInt = (d : Int) := tn1166_ (); have t_n3 : (nI b).toInt = (b : Int) := tn1167_ (); have t_n4 : (nI N).toInt = (N : Int) := tn1159_ (); have t_n5 : (nI B).toInt = (B : Int) := tn1160_ (); have t_n6 : (nI T).toInt = (T : Int) := tn1161_ (); have t_n7 : (nI S).toInt = (S : Int) := tn1162_ (); have t_n8 : (nI M).toInt = (M : Int) := tn1163_ (); omega)) (by decide)) dX11_byOne_29 ?_
  refine lv_cgl (y := fbe (70 * (i + 1) + 10 * (b + 1) + (d - 1))) (by rw [nI_clamp (by omega)]) ?_
  refine lv_lmul hx hb dX11_byOne_30 ?_
  refine lv_bipush (v := 20) hx hb dX11_byOne_31 rfl ?_
  refine lv_iload hx hb dX11_byOne_33 (lv_at hl 0 rfl) ?_
  refine lv_isub hx hb dX11_byOne_35 ?_
  refine lv_i2l (v := (20 - (rhB fst i a b 0)).toInt64) hx hb dX11_byOne_36 rfl ?_
  refine lv_aload_n hx hb dX11_byOne_37 rfl (lv_at hl 1 rfl) ?_
  refine va_get (D := (dC, dI)) (ci := 11) (v := .ref be) (C := RX11) (T := TX11) (N := 35) hx hb hg inG11 hown hK.1 hP 0 rfl rfl 23 (Nat.le_of_ble_eq_true rfl) (hg _ wt_901) (fun _ h9 => h9) rfl dX11_byOne_38 ?_
  refine lv_iload_n hx hb dX11_byOne_41 rfl (lv_at hl 2 rfl) ?_
  refine lv_iconst (v := 1) hx hb dX11_byOne_42 rfl ?_
  refine lv_iadd hx hb dX11_byOne_43 ?_
  refine lv_cg (y := nI (i + 1)) (by rw [show (1 : Int32) = nI 1 from rfl]; exact nI_add _ _) ?_
  refine lv_iload hx hb dX11_byOne_44 (lv_at hl 5 rfl) ?_
  refine lv_iload_n hx hb dX11_byOne_46 rfl (lv_at hl 4 rfl) ?_
  refine lv_iconst (v := 1) hx hb dX11_byOne_47 rfl ?_
  have hPc := hP.sub (ws' := []) [] rfl
  refine va_calli (va_runS (As := [.int (nI d), .int 1]) (rest := [.int (nI b), .int (nI (i + 1)), .ref be, .long ((20 - (rhB fst i a b 0)).toInt64), .long (((rhB fst i a b 0).toInt64) * (fbe (70 * (i + 1) + 10 * (b + 1) + (d - 1))))]) ⟨hx, hb, hml, hown, hg⟩ (c_X11_deeper l dC dI G _ d 1 (by first | omega | (have t_n0 : (nI i).toInt = (i : Int) := tn1164_ (); have t_n1 : (nI a).toInt = (a : Int) := tn1165_ (); have t_n2 : (nI d).toInt = (d : Int) := tn1166_ (); have t_n3 : (nI b).toInt = (b : Int) := tn1167_ (); have t_n4 : (nI N).toInt = (N : Int) := tn1159_ (); have t_n5 : (nI B).toInt = (B : Int) := tn1160_ (); have t_n6 : (nI T).toInt = (T : Int) := tn1161_ (); have t_n7 : (nI S).toInt = (S : Int) := tn1162_ (); have t_n8 : (nI M).toInt = (M : Int) := tn1163_ (); have : (1 : Int32).toInt = 1 := qI_1; omega)) (by first | omega | (have t_n0 : (nI i).toInt = (i : Int) := tn1164_ (); have t_n1 : (nI a).toInt = (a : Int) := tn1165_ (); have t_n2 : (nI d).toInt = (d : Int) := tn1166_ (); have t_n3 : (nI b).toInt = (b : Int) := tn1167_ (); have t_n4 : (nI N).toInt = (N : Int) := tn1159_ (); have t_n5 : (nI B).toInt = (B : Int) := tn1160_ (); have t_n6 : (nI T).toInt = (T : Int) := tn1161_ (); have t_n7 : (nI S).toInt = (S : Int) := tn1162_ (); have t_n8 : (nI M).toInt = (M : Int) := tn1163_ (); have : (1 : Int32).toInt = 1 := qI_1; omega))) (kwS hg mfX11_deeper wt_1128 ⟨Nat.le_of_ble_eq_true rfl, Nat.le_of_ble_eq_true rfl⟩) (preSR hK hPc) rfl rfl hl.1 rfl (lv_room (Nat.le_of_ble_eq_true rfl)) dX11_byOne_48 ⟨Nat.le_of_ble_eq_true rfl, Nat.le_of_ble_eq_true rfl⟩) hS (fun q h1 h2 => absurd h2 (Nat.not_le.mpr h1)) (fun q h => hA q (Nat.le_trans hS.1 h)) (fun r5 ur5 t H1 locs ht hvm w6 hB hz1 hk1 hS => ?_)
  have hP := keepR hP hk1
  obtain ⟨w6, w6x⟩ := w6
  have hs7 : d ≤ (min 9 (d + 1)) ∧ (min 9 (d + 1)) ≤ 9 := (by omega)
  subst w6
  have hPc := hP.sub (ws' := []) [] rfl
  refine va_calli (va_runS (As := [.int (nI (i + 1)), .int (nI b), .int (nI (min 9 (d + 1)))]) (rest := [.ref be, .long ((20 - (rhB fst i a b 0)).toInt64), .long (((rhB fst i a b 0).toInt64) * (fbe (70 * (i + 1) + 10 * (b + 1) + (d - 1))))]) ⟨hx, hb, hml, hown, hg⟩ (c_X11_bestAtB l dC dI G _ (i + 1) b (min 9 (d + 1)) (by first | omega | (have t_hs7 := hs7; have t_n0 : (nI i).toInt = (i : Int) := tn1164_ (); have t_n1 : (nI a).toInt = (a : Int) := tn1165_ (); have t_n2 : (nI d).toInt = (d : Int) := tn1166_ (); have t_n3 : (nI b).toInt = (b : Int) := tn1167_ (); have t_n4 : (nI N).toInt = (N : Int) := tn1159_ (); have t_n5 : (nI B).toInt = (B : Int) := tn1160_ (); have t_n6 : (nI T).toInt = (T : Int) := tn1161_ (); have t_n7 : (nI S).toInt = (S : Int) := tn1162_ (); have t_n8 : (nI M).toInt = (M : Int) := tn1163_ (); omega)) hkb (by first | omega | (have t_hs7 := hs7; have t_n0 : (nI i).toInt = (i : Int) := tn1164_ (); have t_n1 : (nI a).toInt = (a : Int) := tn1165_ (); have t_n2 : (nI d).toInt = (d : Int) := tn1166_ (); have t_n3 : (nI b).toInt = (b : Int) := tn1167_ (); have t_n4 : (nI N).toInt = (N : Int) := tn1159_ (); have t_n5 : (nI B).toInt = (B : Int) := tn1160_ (); have t_n6 : (nI T).toInt = (T : Int) := tn1161_ (); have t_n7 : (nI S).toInt = (S : Int) := tn1162_ (); have t_n8 : (nI M).toInt = (M : Int) := tn1163_ (); omega))) (kwS hg mfX11_bestAt wt_1159 ⟨Nat.le_of_ble_eq_true rfl, Nat.le_of_ble_eq_true rfl⟩) (preSR hK hPc) rfl rfl hl.1 rfl (lv_room (Nat.le_of_ble_eq_true rfl)) dX11_byOne_51 ⟨Nat.le_of_ble_eq_true rfl, Nat.le_of_ble_eq_true rfl⟩) hS (fun q h1 h2 => absurd h2 (Nat.not_le.mpr h1)) (fun q h => hA q (Nat.le_trans hS.1 h)) (fun r8 ur8 t H1 locs ht hvm w9 hB hz1 hk1 hS => ?_)
  have hP := keepR hP hk1
  obtain ⟨w9, w9x⟩ := w9
  subst w9
  refine va_lald hx hb hK.1 hP 2 1 rfl rfl (vp_in_nI (by first | omega | (have t_hs7 := hs7; have t_n0 : (nI i).toInt = (i : Int) := tn1164_ (); have t_n1 : (nI a).toInt = (a : Int) := tn1165_ (); have t_n2 : (nI d).toInt = (d : Int) := tn1166_ (); have t_n3 : (nI b).toInt = (b : Int) := tn1167_ (); have t_n4 : (nI N).toInt = (N : Int) := tn1159_ (); have t_n5 : (nI B).toInt = (B : Int) := tn1160_ (); have t_n6 : (nI T).toInt = (T : Int) := tn1161_ (); have t_n7 : (nI S).toInt = (S : Int) := tn1162_ (); have t_n8 : (nI M).toInt = (M : Int) := tn1163_ (); omega)) (by decide)) dX11_byOne_54 ?_
  refine lv_cgl (y := fbe (70 * (i + 1) + 10 * (b + 1) + (min 9 (d + 1)))) (by rw [nI_clamp (by omega)]) ?_
  refine lv_lmul hx hb dX11_byOne_55 ?_
  refine lv_ladd hx hb dX11_byOne_56 ?_
  have hpost : ((((rhB fst i a b 0).toInt64) * (fbe (70 * (i + 1) + 10 * (b + 1) + (d - 1)))) + (((20 - (rhB fst i a b 0)).toInt64) * (fbe (70 * (i + 1) + 10 * (b + 1) + (min 9 (d + 1))))) : Int64) = b1B fst fbe i a d b := by
    rfl
  refine W.widen (k := 0) (n := 0) (Nat.le_of_ble_eq_true rfl) (Nat.le_of_ble_eq_true rfl) ?_
  exact W.lret (v := (((rhB fst i a b 0).toInt64) * (fbe (70 * (i + 1) + 10 * (b + 1) + (d - 1)))) + (((20 - (rhB fst i a b 0)).toInt64) * (fbe (70 * (i + 1) + 10 * (b + 1) + (min 9 (d + 1)))))) hx hb hr (fun t ht hW => ⟨⟨(((rhB fst i a b 0).toInt64) * (fbe (70 * (i + 1) + 10 * (b + 1) + (d - 1)))) + (((20 - (rhB fst i a b 0)).toInt64) * (fbe (70 * (i + 1) + 10 * (b + 1) + (min 9 (d + 1))))), (), rfl, ⟨hpost, trivial⟩, trivial⟩, hS.F ht⟩) hS.2.2 dX11_byOne_57

set_option maxHeartbeats 1000000 in
set_option maxRecDepth 100000 in
theorem c_X11_layBestN (l : Launch) (dC : Nat → ClassId) (dI : Nat → Nat → Nat) (G : Nat → ClassId) (sz : Nat) (h0 st N B rp tp T cu lt od th be ln S ma M ah bh ik la lg ce : Nat) (vrs vrb vhs vca vxs vxb vfa vbr vba vsp vhe vtk vva vto : Int32) (fst : Nat → Int32) (fbe : Nat → Int64) (hN : N ≤ 10) (hB : B ≤ 6) (hT : T ≤ 320) (hS0 : S ≤ 8) (hM : M ≤ 6) (hst : OKS fst) (hNB : N = 0 ∨ 0 < B) : Met l yX11_layBest (Cond.code yX11_layBest cX11_layBest 8 none :: GT) ({ frames := 3, cells := 0, slots := 0, locals := 75 } : Room) (PcW [.ref h0, .int (-4)] dC dI G [(h0, .inr (11, [.ref st, .int (nI N), .int (nI B), .ref rp, .int vrs, .int vrb, .int vhs, .int vca, .int vxs, .int vxb, .ref tp, .int (nI T), .int vfa, .int vbr, .int vba, .int vsp, .int vhe, .int vtk, .int vva, .ref cu, .ref lt, .ref od, .ref th, .ref be, .ref ln, .int (nI S), .ref ma, .int (nI M), .ref ah, .ref bh, .ref ik, .ref la, .ref lg, .ref ce, .int vto])), (st, .inl (G 0, 196, .inl fst)), (be, .inl (G 1, 770, .inr (.inl fbe)))] sz) (va_Qv (fun (u : (Nat → Int64)) => match u with | obe => RI fst N B 0 obe) (fun (u : (Nat → Int64)) (t : State) => match u with | obe => va_P (dC, dI) vwCl [(h0, .inr (11, [.ref st, .int (nI N), .int (nI B), .ref rp, .int vrs, .int vrb, .int vhs, .int vca, .int vxs, .int vxb, .ref tp, .int (nI T), .int vfa, .int vbr, .int vba, .int vsp, .int vhe, .int vtk, .int vva, .ref cu, .ref lt, .ref od, .ref th, .ref be, .ref ln, .int (nI S), .ref ma, .int (nI M), .ref ah, .ref bh, .ref ik, .ref la, .ref lg, .ref ce, .int vto])), (st, .inl (G 0, 196, .inl fst)), (be, .inl (G 1, 770, .inr (.inl obe)))] t.heap ∧ va_D (va_A [(h0, .inr (11, [.ref st, .int (nI N), .int (nI B), .ref rp, .int vrs, .int vrb, .int vhs, .int vca, .int vxs, .int vxb, .ref tp, .int (nI T), .int vfa, .int vbr, .int vba, .int vsp, .int vhe, .int vtk, .int vva, .ref cu, .ref lt, .ref od, .ref th, .ref be, .ref ln, .int (nI S), .ref ma, .int (nI M), .ref ah, .ref bh, .ref ik, .ref la, .ref lg, .ref ce, .int vto])), (st, .inl (G 0, 196, .inl fst)), (be, .inl (G 1, 770, .inr (.inl fbe)))] sz) [(h0, .inr (11, [.ref st, .int (nI N), .int (nI B), .ref rp, .int vrs, .int vrb, .int vhs, .int vca, .int vxs, .int vxb, .ref tp, .int (nI T), .int vfa, .int vbr, .int vba, .int vsp, .int vhe, .int vtk, .int vva, .ref cu, .ref lt, .ref od, .ref th, .ref be, .ref ln, .int (nI S), .ref ma, .int (nI M), .ref ah, .ref bh, .ref ik, .ref la, .ref lg, .ref ce, .int vto])), (st, .inl (G 0, 196, .inl fst)), (be, .inl (G 1, 770, .inr (.inl obe)))]) (va_A [(h0, .inr (11, [.ref st, .int (nI N), .int (nI B), .ref rp, .int vrs, .int vrb, .int vhs, .int vca, .int vxs, .int vxb, .ref tp, .int (nI T), .int vfa, .int vbr, .int vba, .int vsp, .int vhe, .int vtk, .int vva, .ref cu, .ref lt, .ref od, .ref th, .ref be, .ref ln, .int (nI S), .ref ma, .int (nI M), .ref ah, .ref bh, .ref ik, .ref la, .ref lg, .ref ce, .int vto])), (st, .inl (G 0, 196, .inl fst)), (be, .inl (G 1, 770, .inr (.inl fbe)))] sz)) 0 0 (va_A [(h0, .inr (11, [.ref st, .int (nI N), .int (nI B), .ref rp, .int vrs, .int vrb, .int vhs, .int vca, .int vxs, .int vxb, .ref tp, .int (nI T), .int vfa, .int vbr, .int vba, .int vsp, .int vhe, .int vtk, .int vva, .ref cu, .ref lt, .ref od, .ref th, .ref be, .ref ln, .int (nI S), .ref ma, .int (nI M), .ref ah, .ref bh, .ref ik, .ref la, .ref lg, .ref ce, .int vto])), (st, .inl (G 0, 196, .inl fst)), (be, .inl (G 1, 770, .inr (.inl fbe)))] sz) := by
  have hB_ := hB
  have hM_ := hM
  have hT_ := hT
  have tn1168_ : nIT N := fun _ => nI_toInt (by omega)
  have tn1169_ : nIT B := fun _ => nI_toInt (by omega)
  have tn1170_ : nIT T := fun _ => nI_toInt (by omega)
  have tn1171_ : nIT S := fun _ => nI_toInt (by omega)
  have tn1172_ : nIT M := fun _ => nI_toInt (by omega)
  refine Met.ofW (cc := cX11_layBest) (maxL := 8) (ret := none) (by decide) rfl ?_
  intro p e s m args below meth c s₁ Bd hml hv
  obtain ⟨rfl, hsz, hP, hK, hD0⟩ := hv
  have hx := Bd.exec
  have hb := Bd.bytes
  have hr := Bd.returns
  have hg : ∀ w ∈ GT, w.before ([.ref h0, .int (-4)] : List Value).toArray s = true := fun w h => atoms_spec (ws := Cond.code yX11_layBest cX11_layBest 8 none :: GT) Bd.pre w (List.mem_cons_of_mem _ h)
  have hown : s.vm.findClass RX11 = some m.cls := findClass_of_methodNamed Bd.named
  have hlocks := Bd.notSynchronized
  subst hsz
  have hD := hD0.self (sz := s.heap.size)
  generalize hAe : va_A [(h0, .inr (11, [.ref st, .int (nI N), .int (nI B), .ref rp, .int vrs, .int vrb, .int vhs, .int vca, .int vxs, .int vxb, .ref tp, .int (nI T), .int vfa, .int vbr, .int vba, .int vsp, .int vhe, .int vtk, .int vva, .ref cu, .ref lt, .ref od, .ref th, .ref be, .ref ln, .int (nI S), .ref ma, .int (nI M), .ref ah, .ref bh, .ref ik, .ref la, .ref lg, .ref ce, .int vto])), (st, .inl (G 0, 196, .inl fst)), (be, .inl (G 1, 770, .inr (.inl fbe)))] s.heap.size = A at hD ⊢
  have hA : ∀ q : Nat, s.heap.size ≤ q → A q := fun q h => by rw [← hAe]; exact Or.inr h
  have hS : va_S A s.heap s.heap [] := va_S.rf
  have hl := lv_entry ([.ref h0, .int (-4)]) (n := 8) (Nat.le_of_ble_eq_true rfl)
  rw [lg_entry_eq]
  generalize (lg_sl ([.ref h0, .int (-4)]) ++ List.replicate (8 - (lg_sl ([.ref h0, .int (-4)])).length) Slot.unset).toArray = ls at hl ⊢
  have hl : lv_has ls 8 [(0, .ref h0), (1, .int (-4))] := hl
  refine lv_iconst (v := 0) hx hb dX11_layBest_0 rfl ?_
  refine lv_istore_n (lv' := [(2, .int 0), (0, .ref h0), (1, .int (-4))]) hx hb dX11_layBest_1 rfl hl (by decide) rfl (fun ls hl => ?_)
  have loop2_3 : ∀ (nf j1 : Nat), 70 + 1 ≤ j1 + nf → j1 ≤ 70 → ∀ (g2 : Nat → Int64) (H : Heap) (locs : List Loc), FI N j1 g2 → va_P (dC, dI) vwCl [(h0, .inr (11, [.ref st, .int (nI N), .int (nI B), .ref rp, .int vrs, .int vrb, .int vhs, .int vca, .int vxs, .int vxb, .ref tp, .int (nI T), .int vfa, .int vbr, .int vba, .int vsp, .int vhe, .int vtk, .int vva, .ref cu, .ref lt, .ref od, .ref th, .ref be, .ref ln, .int (nI S), .ref ma, .int (nI M), .ref ah, .ref bh, .ref ik, .ref la, .ref lg, .ref ce, .int vto])), (st, .inl (G 0, 196, .inl fst)), (be, .inl (G 1, 770, .inr (.inl g2)))] H → va_D A [(h0, .inr (11, [.ref st, .int (nI N), .int (nI B), .ref rp, .int vrs, .int vrb, .int vhs, .int vca, .int vxs, .int vxb, .ref tp, .int (nI T), .int vfa, .int vbr, .int vba, .int vsp, .int vhe, .int vtk, .int vva, .ref cu, .ref lt, .ref od, .ref th, .ref be, .ref ln, .int (nI S), .ref ma, .int (nI M), .ref ah, .ref bh, .ref ik, .ref la, .ref lg, .ref ce, .int vto])), (st, .inl (G 0, 196, .inl fst)), (be, .inl (G 1, 770, .inr (.inl g2)))] → va_S A s.heap H locs → ∀ (ls : Array Slot), lv_has ls 8 [(2, .int (nI j1)), (0, .ref h0), (1, .int (-4))] → W p l e (headSpec (Cond.code yX11_layBest cX11_layBest 8 none :: GT) ({ frames := 3, cells := 0, slots := 0, locals := 75 } : Room)).room s m ([.ref h0, .int (-4)] : List Value).toArray below meth c H locs 0 0 (MQ below (va_Qv (fun (u : (Nat → Int64)) => match u with | obe => RI fst N B 0 obe) (fun (u : (Nat → Int64)) (t : State) => match u with | obe => va_P (dC, dI) vwCl [(h0, .inr (11, [.ref st, .int (nI N), .int (nI B), .ref rp, .int vrs, .int vrb, .int vhs, .int vca, .int vxs, .int vxb, .ref tp, .int (nI T), .int vfa, .int vbr, .int vba, .int vsp, .int vhe, .int vtk, .int vva, .ref cu, .ref lt, .ref od, .ref th, .ref be, .ref ln, .int (nI S), .ref ma, .int (nI M), .ref ah, .ref bh, .ref ik, .ref la, .ref lg, .ref ce, .int vto])), (st, .inl (G 0, 196, .inl fst)), (be, .inl (G 1, 770, .inr (.inl obe)))] t.heap ∧ va_D A [(h0, .inr (11, [.ref st, .int (nI N), .int (nI B), .ref rp, .int vrs, .int vrb, .int vhs, .int vca, .int vxs, .int vxb, .ref tp, .int (nI T), .int vfa, .int vbr, .int vba, .int vsp, .int vhe, .int vtk, .int vva, .ref cu, .ref lt, .ref od, .ref th, .ref be, .ref ln, .int (nI S), .ref ma, .int (nI M), .ref ah, .ref bh, .ref ik, .ref la, .ref lg, .ref ce, .int vto])), (st, .inl (G 0, 196, .inl fst)), (be, .inl (G 1, 770, .inr (.inl obe)))]) A) ([.ref h0, .int (-4)] : List Value).toArray s 0 0 A) (F0 m 2 ls []) := by
    intro nf
    induction nf with
    | zero => intro j1 h1 h2; exact absurd h1 (by omega)
    | succ nf ih2_3 =>
      intro j1 hn4 hj5 g2 H locs hinv hP hD hS ls hl
      refine lv_iload_n hx hb dX11_layBest_2 rfl (lv_at hl 0 rfl) ?_
      refine lv_bipush (v := 70) hx hb dX11_layBest_3 rfl ?_
      refine lv_icmp_ge (tgt := 40) hx hb dX11_layBest_5 rfl (fun c6 => ?_) (fun c6 => ?_)
      · skip
        have tn1173_ : nIT j1 := fun _ => nI_toInt (by first | omega | (have t := leI c6; omega))
        have n7 : 70 ≤ j1 := by have t := leI c6; rw [show (nI (j1)).toInt = ((j1 : Nat) : Int) from tn1173_ ()] at t; have : (70 : Int32).toInt = 70 := qI_70; omega
        refine lv_aload_n hx hb dX11_layBest_40 rfl (lv_at hl 1 rfl) ?_
        refine va_get (D := (dC, dI)) (ci := 11) (v := .int (nI N)) (C := RX11) (T := TX11) (N := 35) hx hb hg inG11 hown hK.1 hP 0 rfl rfl 1 (Nat.le_of_ble_eq_true rfl) (hg _ wt_879) (fun _ h9 => h9) rfl dX11_layBest_41 ?_
        refine lv_iconst (v := 1) hx hb dX11_layBest_44 rfl ?_
        refine lv_isub hx hb dX11_layBest_45 ?_
        refine lv_istore_n (lv' := [(2, .int ((nI N) - 1)), (0, .ref h0), (1, .int (-4))]) hx hb dX11_layBest_46 rfl hl (by decide) rfl (fun ls hl => ?_)
        rw [dn_sub] at hl
        have loop47_10 : ∀ (j8 : Nat), j8 ≤ N → ∀ (g9 : Nat → Int64) (H : Heap) (locs : List Loc), RI fst N B j8 g9 → va_P (dC, dI) vwCl [(h0, .inr (11, [.ref st, .int (nI N), .int (nI B), .ref rp, .int vrs, .int vrb, .int vhs, .int vca, .int vxs, .int vxb, .ref tp, .int (nI T), .int vfa, .int vbr, .int vba, .int vsp, .int vhe, .int vtk, .int vva, .ref cu, .ref lt, .ref od, .ref th, .ref be, .ref ln, .int (nI S), .ref ma, .int (nI M), .ref ah, .ref bh, .ref ik, .ref la, .ref lg, .ref ce, .int vto])), (st, .inl (G 0, 196, .inl fst)), (be, .inl (G 1, 770, .inr (.inl g9)))] H → va_D A [(h0, .inr (11, [.ref st, .int (nI N), .int (nI B), .ref rp, .int vrs, .int vrb, .int vhs, .int vca, .int vxs, .int vxb, .ref tp, .int (nI T), .int vfa, .int vbr, .int vba, .int vsp, .int vhe, .int vtk, .int vva, .ref cu, .ref lt, .ref od, .ref th, .ref be, .ref ln, .int (nI S), .ref ma, .int (nI M), .ref ah, .ref bh, .ref ik, .ref la, .ref lg, .ref ce, .int vto])), (st, .inl (G 0, 196, .inl fst)), (be, .inl (G 1, 770, .inr (.inl g9)))] → va_S A s.heap H locs → ∀ (ls : Array Slot), lv_has ls 8 [(2, .int (dn j8)), (0, .ref h0), (1, .int (-4))] → W p l e (headSpec (Cond.code yX11_layBest cX11_layBest 8 none :: GT) ({ frames := 3, cells := 0, slots := 0, locals := 75 } : Room)).room s m ([.ref h0, .int (-4)] : List Value).toArray below meth c H locs 0 0 (MQ below (va_Qv (fun (u : (Nat → Int64)) => match u with | obe => RI fst N B 0 obe) (fun (u : (Nat → Int64)) (t : State) => match u with | obe => va_P (dC, dI) vwCl [(h0, .inr (11, [.ref st, .int (nI N), .int (nI B), .ref rp, .int vrs, .int vrb, .int vhs, .int vca, .int vxs, .int vxb, .ref tp, .int (nI T), .int vfa, .int vbr, .int vba, .int vsp, .int vhe, .int vtk, .int vva, .ref cu, .ref lt, .ref od, .ref th, .ref be, .ref ln, .int (nI S), .ref ma, .int (nI M), .ref ah, .ref bh, .ref ik, .ref la, .ref lg, .ref ce, .int vto])), (st, .inl (G 0, 196, .inl fst)), (be, .inl (G 1, 770, .inr (.inl obe)))] t.heap ∧ va_D A [(h0, .inr (11, [.ref st, .int (nI N), .int (nI B), .ref rp, .int vrs, .int vrb, .int vhs, .int vca, .int vxs, .int vxb, .ref tp, .int (nI T), .int vfa, .int vbr, .int vba, .int vsp, .int vhe, .int vtk, .int vva, .ref cu, .ref lt, .ref od, .ref th, .ref be, .ref ln, .int (nI S), .ref ma, .int (nI M), .ref ah, .ref bh, .ref ik, .ref la, .ref lg, .ref ce, .int vto])), (st, .inl (G 0, 196, .inl fst)), (be, .inl (G 1, 770, .inr (.inl obe)))]) A) ([.ref h0, .int (-4)] : List Value).toArray s 0 0 A) (F0 m 47 ls []) := by
          intro j8
          induction j8 with
          | zero =>
            intro hj11 g9 H locs hinv hP hD hS ls hl
            have hl : lv_has ls 8 [(2, .int (-1)), (0, .ref h0), (1, .int (-4))] := hl
            refine lv_iload_n hx hb dX11_layBest_47 rfl (lv_at hl 0 rfl) ?_
            refine lv_if_lt (tgt := 235) hx hb dX11_layBest_48 rfl (fun c12 => ?_) (fun c12 => ?_)
            · skip
              obtain ⟨hP9, hD9⟩ := va_sub2 (ws' := [(h0, .inr (11, [.ref st, .int (nI N), .int (nI B), .ref rp, .int vrs, .int vrb, .int vhs, .int vca, .int vxs, .int vxb, .ref tp, .int (nI T), .int vfa, .int vbr, .int vba, .int vsp, .int vhe, .int vtk, .int vva, .ref cu, .ref lt, .ref od, .ref th, .ref be, .ref ln, .int (nI S), .ref ma, .int (nI M), .ref ah, .ref bh, .ref ik, .ref la, .ref lg, .ref ce, .int vto])), (st, .inl (G 0, 196, .inl fst)), (be, .inl (G 1, 770, .inr (.inl g9)))]) hP hD [0, 1, 2] (by decide) rfl
              refine W.widen (k := 0) (n := 0) (Nat.le_of_ble_eq_true rfl) (Nat.le_of_ble_eq_true rfl) ?_
              exact W.vret hx hb hr (fun t ht hW => ⟨⟨g9, rfl, hinv, ⟨by rw [ht]; exact hP9, hD9⟩⟩, hS.F ht⟩) hS.2.2 dX11_layBest_235
            · skip
              exact absurd c12 (by decide)
          | succ j8 ih47_10 =>
            intro hj11 g9 H locs hinv hP hD hS ls hl
            have hl : lv_has ls 8 [(2, .int (nI j8)), (0, .ref h0), (1, .int (-4))] := hl
            refine lv_iload_n hx hb dX11_layBest_47 rfl (lv_at hl 0 rfl) ?_
            refine lv_if_lt (tgt := 235) hx hb dX11_layBest_48 rfl (fun c13 => ?_) (fun c13 => ?_)
            · skip
              have t_hj5 := hj5
              have t_n7 := n7
              have t_hj11 := hj11
              have t_c13 := ltI c13
              have : (0 : Int32).toInt = 0 := qI_0
              have t_n0 : (nI N).toInt = (N : Int) := tn1168_ ()
              have t_n1 : (nI B).toInt = (B : Int) := tn1169_ ()
              have t_n2 : (nI T).toInt = (T : Int) := tn1170_ ()
              have t_n3 : (nI S).toInt = (S : Int) := tn1171_ ()
              have t_n4 : (nI M).toInt = (M : Int) := tn1172_ ()
              have t_n5 : (nI j1).toInt = (j1 : Int) := tn1173_ ()
              have tn1174_ : nIT j8 := fun _ => nI_toInt (by omega)
              have t_n6 : (nI j8).toInt = (j8 : Int) := tn1174_ ()
              exfalso; omega
            · skip
              have tn1175_ : nIT j8 := fun _ => nI_toInt (by first | omega | (have t := nltI c13; omega))
              have n14 : 0 ≤ j8 := by have t := nltI c13; rw [show (nI (j8)).toInt = ((j8 : Nat) : Int) from tn1175_ ()] at t; have : (0 : Int32).toInt = 0 := qI_0; omega
              refine lv_iconst (v := 0) hx hb dX11_layBest_51 rfl ?_
              refine lv_istore_n (lv' := [(3, .int 0), (2, .int (nI j8)), (0, .ref h0), (1, .int (-4))]) hx hb dX11_layBest_52 rfl hl (by decide) rfl (fun ls hl => ?_)
              have loop53_17 : ∀ (nf j15 : Nat), 70 + 1 ≤ j15 + nf → j15 ≤ 70 → ∀ (g16 : Nat → Int64) (H : Heap) (locs : List Loc), KI fst N B j8 j15 g16 → va_P (dC, dI) vwCl [(h0, .inr (11, [.ref st, .int (nI N), .int (nI B), .ref rp, .int vrs, .int vrb, .int vhs, .int vca, .int vxs, .int vxb, .ref tp, .int (nI T), .int vfa, .int vbr, .int vba, .int vsp, .int vhe, .int vtk, .int vva, .ref cu, .ref lt, .ref od, .ref th, .ref be, .ref ln, .int (nI S), .ref ma, .int (nI M), .ref ah, .ref bh, .ref ik, .ref la, .ref lg, .ref ce, .int vto])), (st, .inl (G 0, 196, .inl fst)), (be, .inl (G 1, 770, .inr (.inl g16)))] H → va_D A [(h0, .inr (11, [.ref st, .int (nI N), .int (nI B), .ref rp, .int vrs, .int vrb, .int vhs, .int vca, .int vxs, .int vxb, .ref tp, .int (nI T), .int vfa, .int vbr, .int vba, .int vsp, .int vhe, .int vtk, .int vva, .ref cu, .ref lt, .ref od, .ref th, .ref be, .ref ln, .int (nI S), .ref ma, .int (nI M), .ref ah, .ref bh, .ref ik, .ref la, .ref lg, .ref ce, .int vto])), (st, .inl (G 0, 196, .inl fst)), (be, .inl (G 1, 770, .inr (.inl g16)))] → va_S A s.heap H locs → ∀ (ls : Array Slot), lv_has ls 8 [(3, .int (nI j15)), (2, .int (nI j8)), (0, .ref h0), (1, .int (-4))] → W p l e (headSpec (Cond.code yX11_layBest cX11_layBest 8 none :: GT) ({ frames := 3, cells := 0, slots := 0, locals := 75 } : Room)).room s m ([.ref h0, .int (-4)] : List Value).toArray below meth c H locs 0 0 (MQ below (va_Qv (fun (u : (Nat → Int64)) => match u with | obe => RI fst N B 0 obe) (fun (u : (Nat → Int64)) (t : State) => match u with | obe => va_P (dC, dI) vwCl [(h0, .inr (11, [.ref st, .int (nI N), .int (nI B), .ref rp, .int vrs, .int vrb, .int vhs, .int vca, .int vxs, .int vxb, .ref tp, .int (nI T), .int vfa, .int vbr, .int vba, .int vsp, .int vhe, .int vtk, .int vva, .ref cu, .ref lt, .ref od, .ref th, .ref be, .ref ln, .int (nI S), .ref ma, .int (nI M), .ref ah, .ref bh, .ref ik, .ref la, .ref lg, .ref ce, .int vto])), (st, .inl (G 0, 196, .inl fst)), (be, .inl (G 1, 770, .inr (.inl obe)))] t.heap ∧ va_D A [(h0, .inr (11, [.ref st, .int (nI N), .int (nI B), .ref rp, .int vrs, .int vrb, .int vhs, .int vca, .int vxs, .int vxb, .ref tp, .int (nI T), .int vfa, .int vbr, .int vba, .int vsp, .int vhe, .int vtk, .int vva, .ref cu, .ref lt, .ref od, .ref th, .ref be, .ref ln, .int (nI S), .ref ma, .int (nI M), .ref ah, .ref bh, .ref ik, .ref la, .ref lg, .ref ce, .int vto])), (st, .inl (G 0, 196, .inl fst)), (be, .inl (G 1, 770, .inr (.inl obe)))]) A) ([.ref h0, .int (-4)] : List Value).toArray s 0 0 A) (F0 m 53 ls []) := by
                intro nf
                induction nf with
                | zero => intro j15 h1 h2; exact absurd h1 (by omega)
                | succ nf ih53_17 =>
                  intro j15 hn18 hj19 g16 H locs hinv hP hD hS ls hl
                  refine lv_iload_n hx hb dX11_layBest_53 rfl (lv_at hl 0 rfl) ?_
                  refine lv_bipush (v := 70) hx hb dX11_layBest_54 rfl ?_
                  refine lv_icmp_ge (tgt := 229) hx hb dX11_layBest_56 rfl (fun c20 => ?_) (fun c20 => ?_)
                  · skip
                    have tn1176_ : nIT j15 := fun _ => nI_toInt (by first | omega | (have t := leI c20; omega))
                    have n21 : 70 ≤ j15 := by have t := leI c20; rw [show (nI (j15)).toInt = ((j15 : Nat) : Int) from tn1176_ ()] at t; have : (70 : Int32).toInt = 70 := qI_70; omega
                    refine lv_iinc (v := dn j8) (lv' := [(2, .int (dn j8)), (3, .int (nI j15)), (0, .ref h0), (1, .int (-4))]) hx hb dX11_layBest_229 hl (k := 1) rfl (by exact dn_pred _) (by decide) rfl (fun ls hl => ?_)
                    refine lv_goto (tgt := 47) hx hb dX11_layBest_232 rfl ?_
                    exact ih47_10 (by omega) g16 _ _ (KI.out (by have t_hj5 := hj5; have t_n7 := n7; have t_hj11 := hj11; have t_n14 := n14; have t_hj19 := hj19; have t_n21 := n21; have t_n0 : (nI N).toInt = (N : Int) := tn1168_ (); have t_n1 : (nI B).toInt = (B : Int) := tn1169_ (); have t_n2 : (nI T).toInt = (T : Int) := tn1170_ (); have t_n3 : (nI S).toInt = (S : Int) := tn1171_ (); have t_n4 : (nI M).toInt = (M : Int) := tn1172_ (); have t_n5 : (nI j1).toInt = (j1 : Int) := tn1173_ (); have t_n6 : (nI j8).toInt = (j8 : Int) := tn1175_ (); have t_n7 : (nI j15).toInt = (j15 : Int) := tn1176_ (); omega) hinv) hP hD hS ls (lv_sub hl [0, 2, 3] rfl)
                  · skip
                    have tn1177_ : nIT j15 := fun _ => nI_toInt (by first | omega | (have t := nleI c20; omega))
                    have n22 : j15 < 70 := by have t := nleI c20; rw [show (nI (j15)).toInt = ((j15 : Nat) : Int) from tn1177_ ()] at t; have : (70 : Int32).toInt = 70 := qI_70; omega
                    refine lv_iload_n hx hb dX11_layBest_59 rfl (lv_at hl 0 rfl) ?_
                    refine lv_bipush (v := 10) hx hb dX11_layBest_60 rfl ?_
                    refine lv_icmp_ge (tgt := 70) hx hb dX11_layBest_62 rfl (fun c23 => ?_) (fun c23 => ?_)
                    · skip
                      have n24 : 10 ≤ j15 := by have t := leI c23; rw [show (nI (j15)).toInt = ((j15 : Nat) : Int) from tn1177_ ()] at t; have : (10 : Int32).toInt = 10 := qI_10; omega
                      refine lv_iload_n hx hb dX11_layBest_70 rfl (lv_at hl 0 rfl) ?_
                      refine lv_bipush (v := 10) hx hb dX11_layBest_71 rfl ?_
                      refine lv_idiv hx hb dX11_layBest_73 (by decide) ?_
                      refine lv_cg (y := nI (j15 / 10)) (by rw [show (10 : Int32) = nI 10 from rfl]; exact pk_div (by omega) (by omega) (by omega)) ?_
                      refine lv_iconst (v := 1) hx hb dX11_layBest_74 rfl ?_
                      refine lv_isub hx hb dX11_layBest_75 ?_
                      refine lv_cg (y := nI ((j15 / 10) - 1)) (by rw [show (1 : Int32) = nI 1 from rfl]; exact pk_sub (by omega)) ?_
                      refine lv_istore (lv' := [(4, .int (nI ((j15 / 10) - 1))), (3, .int (nI j15)), (2, .int (nI j8)), (0, .ref h0), (1, .int (-4))]) hx hb dX11_layBest_76 hl (by decide) rfl (fun ls hl => ?_)
                      refine lv_aload_n hx hb dX11_layBest_78 rfl (lv_at hl 3 rfl) ?_
                      refine va_get (D := (dC, dI)) (ci := 11) (v := .ref be) (C := RX11) (T := TX11) (N := 35) hx hb hg inG11 hown hK.1 hP 0 rfl rfl 23 (Nat.le_of_ble_eq_true rfl) (hg _ wt_901) (fun _ h9 => h9) rfl dX11_layBest_79 ?_
                      refine lv_bipush (v := 70) hx hb dX11_layBest_82 rfl ?_
                      refine lv_iload_n hx hb dX11_layBest_84 rfl (lv_at hl 2 rfl) ?_
                      refine lv_imul hx hb dX11_layBest_85 ?_
                      refine lv_cg (y := nI (70 * j8)) (by rw [show (70 : Int32) = nI 70 from rfl]; exact pk_mul _ _) ?_
                      refine lv_iload_n hx hb dX11_layBest_86 rfl (lv_at hl 1 rfl) ?_
                      refine lv_iadd hx hb dX11_layBest_87 ?_
                      refine lv_cg (y := nI ((70 * j8) + j15)) (by exact nI_add _ _) ?_
                      refine lv_iload_n hx hb dX11_layBest_88 rfl (lv_at hl 1 rfl) ?_
                      refine lv_bipush (v := 10) hx hb dX11_layBest_89 rfl ?_
                      refine lv_irem hx hb dX11_layBest_91 (by decide) ?_
                      refine lv_cg (y := nI (j15 % 10)) (by rw [show (10 : Int32) = nI 10 from rfl]; exact pk_rem (by omega) (by omega) (by omega)) ?_
                      have cut110_26 : ∀ (y25 : Int64) (H : Heap) (locs : List Loc), ((j15 % 10 = 0 ∧ y25 = powF (N - j8)) ∨ (j15 % 10 ≠ 0 ∧ y25 = 4000000000000000000)) → va_P (dC, dI) vwCl [(h0, .inr (11, [.ref st, .int (nI N), .int (nI B), .ref rp, .int vrs, .int vrb, .int vhs, .int vca, .int vxs, .int vxb, .ref tp, .int (nI T), .int vfa, .int vbr, .int vba, .int vsp, .int vhe, .int vtk, .int vva, .ref cu, .ref lt, .ref od, .ref th, .ref be, .ref ln, .int (nI S), .ref ma, .int (nI M), .ref ah, .ref bh, .ref ik, .ref la, .ref lg, .ref ce, .int vto])), (st, .inl (G 0, 196, .inl fst)), (be, .inl (G 1, 770, .inr (.inl g16)))] H → va_D A [(h0, .inr (11, [.ref st, .int (nI N), .int (nI B), .ref rp, .int vrs, .int vrb, .int vhs, .int vca, .int vxs, .int vxb, .ref tp, .int (nI T), .int vfa, .int vbr, .int vba, .int vsp, .int vhe, .int vtk, .int vva, .ref cu, .ref lt, .ref od, .ref th, .ref be, .ref ln, .int (nI S), .ref ma, .int (nI M), .ref ah, .ref bh, .ref ik, .ref la, .ref lg, .ref ce, .int vto])), (st, .inl (G 0, 196, .inl fst)), (be, .inl (G 1, 770, .inr (.inl g16)))] → va_S A s.heap H locs → ∀ (ls : Array Slot), lv_has ls 8 [(4, .int (nI ((j15 / 10) - 1))), (3, .int (nI j15)), (2, .int (nI j8)), (0, .ref h0), (1, .int (-4))] → W p l e (headSpec (Cond.code yX11_layBest cX11_layBest 8 none :: GT) ({ frames := 3, cells := 0, slots := 0, locals := 75 } : Room)).room s m ([.ref h0, .int (-4)] : List Value).toArray below meth c H locs 0 0 (MQ below (va_Qv (fun (u : (Nat → Int64)) => match u with | obe => RI fst N B 0 obe) (fun (u : (Nat → Int64)) (t : State) => match u with | obe => va_P (dC, dI) vwCl [(h0, .inr (11, [.ref st, .int (nI N), .int (nI B), .ref rp, .int vrs, .int vrb, .int vhs, .int vca, .int vxs, .int vxb, .ref tp, .int (nI T), .int vfa, .int vbr, .int vba, .int vsp, .int vhe, .int vtk, .int vva, .ref cu, .ref lt, .ref od, .ref th, .ref be, .ref ln, .int (nI S), .ref ma, .int (nI M), .ref ah, .ref bh, .ref ik, .ref la, .ref lg, .ref ce, .int vto])), (st, .inl (G 0, 196, .inl fst)), (be, .inl (G 1, 770, .inr (.inl obe)))] t.heap ∧ va_D A [(h0, .inr (11, [.ref st, .int (nI N), .int (nI B), .ref rp, .int vrs, .int vrb, .int vhs, .int vca, .int vxs, .int vxb, .ref tp, .int (nI T), .int vfa, .int vbr, .int vba, .int vsp, .int vhe, .int vtk, .int vva, .ref cu, .ref lt, .ref od, .ref th, .ref be, .ref ln, .int (nI S), .ref ma, .int (nI M), .ref ah, .ref bh, .ref ik, .ref la, .ref lg, .ref ce, .int vto])), (st, .inl (G 0, 196, .inl fst)), (be, .inl (G 1, 770, .inr (.inl obe)))]) A) ([.ref h0, .int (-4)] : List Value).toArray s 0 0 A) (F0 m 110 ls [.long y25, .int (nI ((70 * j8) + j15)), .ref be]) := by
                        intro y25 H locs hcut hP hD hS ls hl
                        refine va_last hx hb hK.1 hP hD hS 2 1 rfl rfl (vp_in_nI (by first | omega | (have t_hj5 := hj5; have t_n7 := n7; have t_hj11 := hj11; have t_n14 := n14; have t_hj19 := hj19; have t_n22 := n22; have t_n24 := n24; have t_n0 : (nI N).toInt = (N : Int) := tn1168_ (); have t_n1 : (nI B).toInt = (B : Int) := tn1169_ (); have t_n2 : (nI T).toInt = (T : Int) := tn1170_ (); have t_n3 : (nI S).toInt = (S : Int) := tn1171_ (); have t_n4 : (nI M).toInt = (M : Int) := tn1172_ (); have t_n5 : (nI j1).toInt = (j1 : Int) := tn1173_ (); have t_n6 : (nI j8).toInt = (j8 : Int) := tn1175_ (); have t_n7 : (nI j15).toInt = (j15 : Int) := tn1177_ (); have t_n8 : (nI ((j15 / 10) - 1)).toInt = ((((j15 / 10) - 1) : Nat) : Int) := nI_toInt (by omega); omega)) (by decide)) dX11_layBest_110 (fun H locs hP hD hS => ?_)
                        rw [nI_clamp (by omega)] at hP hD
                        refine lv_iconst (v := 0) hx hb dX11_layBest_111 rfl ?_
                        refine lv_istore (lv' := [(5, .int 0), (4, .int (nI ((j15 / 10) - 1))), (3, .int (nI j15)), (2, .int (nI j8)), (0, .ref h0), (1, .int (-4))]) hx hb dX11_layBest_112 hl (by decide) rfl (fun ls hl => ?_)
                        have loop114_29 : ∀ (nf j27 : Nat), B + 1 ≤ j27 + nf → j27 ≤ B → ∀ (g28 : Nat → Int64) (H : Heap) (locs : List Loc), BI fst N B j8 j15 j27 g28 → va_P (dC, dI) vwCl [(h0, .inr (11, [.ref st, .int (nI N), .int (nI B), .ref rp, .int vrs, .int vrb, .int vhs, .int vca, .int vxs, .int vxb, .ref tp, .int (nI T), .int vfa, .int vbr, .int vba, .int vsp, .int vhe, .int vtk, .int vva, .ref cu, .ref lt, .ref od, .ref th, .ref be, .ref ln, .int (nI S), .ref ma, .int (nI M), .ref ah, .ref bh, .ref ik, .ref la, .ref lg, .ref ce, .int vto])), (st, .inl (G 0, 196, .inl fst)), (be, .inl (G 1, 770, .inr (.inl g28)))] H → va_D A [(h0, .inr (11, [.ref st, .int (nI N), .int (nI B), .ref rp, .int vrs, .int vrb, .int vhs, .int vca, .int vxs, .int vxb, .ref tp, .int (nI T), .int vfa, .int vbr, .int vba, .int vsp, .int vhe, .int vtk, .int vva, .ref cu, .ref lt, .ref od, .ref th, .ref be, .ref ln, .int (nI S), .ref ma, .int (nI M), .ref ah, .ref bh, .ref ik, .ref la, .ref lg, .ref ce, .int vto])), (st, .inl (G 0, 196, .inl fst)), (be, .inl (G 1, 770, .inr (.inl g28)))] → va_S A s.heap H locs → ∀ (ls : Array Slot), lv_has ls 8 [(5, .int (nI j27)), (4, .int (nI ((j15 / 10) - 1))), (3, .int (nI j15)), (2, .int (nI j8)), (0, .ref h0), (1, .int (-4))] → W p l e (headSpec (Cond.code yX11_layBest cX11_layBest 8 none :: GT) ({ frames := 3, cells := 0, slots := 0, locals := 75 } : Room)).room s m ([.ref h0, .int (-4)] : List Value).toArray below meth c H locs 0 0 (MQ below (va_Qv (fun (u : (Nat → Int64)) => match u with | obe => RI fst N B 0 obe) (fun (u : (Nat → Int64)) (t : State) => match u with | obe => va_P (dC, dI) vwCl [(h0, .inr (11, [.ref st, .int (nI N), .int (nI B), .ref rp, .int vrs, .int vrb, .int vhs, .int vca, .int vxs, .int vxb, .ref tp, .int (nI T), .int vfa, .int vbr, .int vba, .int vsp, .int vhe, .int vtk, .int vva, .ref cu, .ref lt, .ref od, .ref th, .ref be, .ref ln, .int (nI S), .ref ma, .int (nI M), .ref ah, .ref bh, .ref ik, .ref la, .ref lg, .ref ce, .int vto])), (st, .inl (G 0, 196, .inl fst)), (be, .inl (G 1, 770, .inr (.inl obe)))] t.heap ∧ va_D A [(h0, .inr (11, [.ref st, .int (nI N), .int (nI B), .ref rp, .int vrs, .int vrb, .int vhs, .int vca, .int vxs, .int vxb, .ref tp, .int (nI T), .int vfa, .int vbr, .int vba, .int vsp, .int vhe, .int vtk, .int vva, .ref cu, .ref lt, .ref od, .ref th, .ref be, .ref ln, .int (nI S), .ref ma, .int (nI M), .ref ah, .ref bh, .ref ik, .ref la, .ref lg, .ref ce, .int vto])), (st, .inl (G 0, 196, .inl fst)), (be, .inl (G 1, 770, .inr (.inl obe)))]) A) ([.ref h0, .int (-4)] : List Value).toArray s 0 0 A) (F0 m 114 ls []) := by
                          intro nf
                          induction nf with
                          | zero => intro j27 h1 h2; exact absurd h1 (by omega)
                          | succ nf ih114_29 =>
                            intro j27 hn30 hj31 g28 H locs hinv hP hD hS ls hl
                            refine lv_iload hx hb dX11_layBest_114 (lv_at hl 0 rfl) ?_
                            refine lv_aload_n hx hb dX11_layBest_116 rfl (lv_at hl 4 rfl) ?_
                            refine va_get (D := (dC, dI)) (ci := 11) (v := .int (nI B)) (C := RX11) (T := TX11) (N := 35) hx hb hg inG11 hown hK.1 hP 0 rfl rfl 2 (Nat.le_of_ble_eq_true rfl) (hg _ wt_880) (fun _ h9 => h9) rfl dX11_layBest_117 ?_
                            refine lv_icmp_ge (tgt := 223) hx hb dX11_layBest_120 rfl (fun c32 => ?_) (fun c32 => ?_)
                            · skip
                              have tn1178_ : nIT j27 := fun _ => nI_toInt (by first | omega | (have t := leI c32; omega))
                              have n33 : B ≤ j27 := by have t := leI c32; rw [show (nI (j27)).toInt = ((j27 : Nat) : Int) from tn1178_ ()] at t; rw [show (nI (B)).toInt = ((B : Nat) : Int) from tn1169_ ()] at t; omega
                              refine lv_iinc (v := nI (j15 + 1)) (lv' := [(3, .int (nI (j15 + 1))), (5, .int (nI j27)), (4, .int (nI ((j15 / 10) - 1))), (2, .int (nI j8)), (0, .ref h0), (1, .int (-4))]) hx hb dX11_layBest_223 hl (k := 2) rfl (by rw [show Int32.ofInt 1 = nI 1 from by decide]; exact nI_add _ _) (by decide) rfl (fun ls hl => ?_)
                              refine lv_goto (tgt := 53) hx hb dX11_layBest_226 rfl ?_
                              exact ih53_17 (j15 + 1) (by omega) (by omega) g28 _ _ (BI.out (by have t_hj5 := hj5; have t_n7 := n7; have t_hj11 := hj11; have t_n14 := n14; have t_hj19 := hj19; have t_n22 := n22; have t_n24 := n24; have t_hj31 := hj31; have t_n33 := n33; have t_n0 : (nI N).toInt = (N : Int) := tn1168_ (); have t_n1 : (nI B).toInt = (B : Int) := tn1169_ (); have t_n2 : (nI T).toInt = (T : Int) := tn1170_ (); have t_n3 : (nI S).toInt = (S : Int) := tn1171_ (); have t_n4 : (nI M).toInt = (M : Int) := tn1172_ (); have t_n5 : (nI j1).toInt = (j1 : Int) := tn1173_ (); have t_n6 : (nI j8).toInt = (j8 : Int) := tn1175_ (); have t_n7 : (nI j15).toInt = (j15 : Int) := tn1177_ (); have t_n8 : (nI ((j15 / 10) - 1)).toInt = ((((j15 / 10) - 1) : Nat) : Int) := nI_toInt (by omega); have t_n9 : (nI j27).toInt = (j27 : Int) := tn1178_ (); omega) (by have t_hj5 := hj5; have t_n7 := n7; have t_hj11 := hj11; have t_n14 := n14; have t_hj19 := hj19; have t_n22 := n22; have t_n24 := n24; have t_hj31 := hj31; have t_n33 := n33; have t_n0 : (nI N).toInt = (N : Int) := tn1168_ (); have t_n1 : (nI B).toInt = (B : Int) := tn1169_ (); have t_n2 : (nI T).toInt = (T : Int) := tn1170_ (); have t_n3 : (nI S).toInt = (S : Int) := tn1171_ (); have t_n4 : (nI M).toInt = (M : Int) := tn1172_ (); have t_n5 : (nI j1).toInt = (j1 : Int) := tn1173_ (); have t_n6 : (nI j8).toInt = (j8 : Int) := tn1175_ (); have t_n7 : (nI j15).toInt = (j15 : Int) := tn1177_ (); have t_n8 : (nI ((j15 / 10) - 1)).toInt = ((((j15 / 10) - 1) : Nat) : Int) := nI_toInt (by omega); have t_n9 : (nI j27).toInt = (j27 : Int) := tn1178_ (); omega) (by have t_hj5 := hj5; have t_n7 := n7; have t_hj11 := hj11; have t_n14 := n14; have t_hj19 := hj19; have t_n22 := n22; have t_n24 := n24; have t_hj31 := hj31; have t_n33 := n33; have t_n0 : (nI N).toInt = (N : Int) := tn1168_ (); have t_n1 : (nI B).toInt = (B : Int) := tn1169_ (); have t_n2 : (nI T).toInt = (T : Int) := tn1170_ (); have t_n3 : (nI S).toInt = (S : Int) := tn1171_ (); have t_n4 : (nI M).toInt = (M : Int) := tn1172_ (); have t_n5 : (nI j1).toInt = (j1 : Int) := tn1173_ (); have t_n6 : (nI j8).toInt = (j8 : Int) := tn1175_ (); have t_n7 : (nI j15).toInt = (j15 : Int) := tn1177_ (); have t_n8 : (nI ((j15 / 10) - 1)).toInt = ((((j15 / 10) - 1) : Nat) : Int) := nI_toInt (by omega); have t_n9 : (nI j27).toInt = (j27 : Int) := tn1178_ (); omega) (by have t_hj5 := hj5; have t_n7 := n7; have t_hj11 := hj11; have t_n14 := n14; have t_hj19 := hj19; have t_n22 := n22; have t_n24 := n24; have t_hj31 := hj31; have t_n33 := n33; have t_n0 : (nI N).toInt = (N : Int) := tn1168_ (); have t_n1 : (nI B).toInt = (B : Int) := tn1169_ (); have t_n2 : (nI T).toInt = (T : Int) := tn1170_ (); have t_n3 : (nI S).toInt = (S : Int) := tn1171_ (); have t_n4 : (nI M).toInt = (M : Int) := tn1172_ (); have t_n5 : (nI j1).toInt = (j1 : Int) := tn1173_ (); have t_n6 : (nI j8).toInt = (j8 : Int) := tn1175_ (); have t_n7 : (nI j15).toInt = (j15 : Int) := tn1177_ (); have t_n8 : (nI ((j15 / 10) - 1)).toInt = ((((j15 / 10) - 1) : Nat) : Int) := nI_toInt (by omega); have t_n9 : (nI j27).toInt = (j27 : Int) := tn1178_ (); omega) hinv) hP hD hS ls (lv_sub hl [0, 3, 4, 5] rfl)
                            · skip
                              have tn1179_ : nIT j27 := fun _ => nI_toInt (by first | omega | (have t := nleI c32; omega))
                              have n34 : j27 < B := by have t := nleI c32; rw [show (nI (j27)).toInt = ((j27 : Nat) : Int) from tn1179_ ()] at t; rw [show (nI (B)).toInt = ((B : Nat) : Int) from tn1169_ ()] at t; omega
                              refine lv_iload_n hx hb dX11_layBest_123 rfl (lv_at hl 2 rfl) ?_
                              refine lv_bipush (v := 10) hx hb dX11_layBest_124 rfl ?_
                              refine lv_irem hx hb dX11_layBest_126 (by decide) ?_
                              refine lv_cg (y := nI (j15 % 10)) (by rw [show (10 : Int32) = nI 10 from rfl]; exact pk_rem (by omega) (by omega) (by omega)) ?_
                              refine lv_if_le (tgt := 223) hx hb dX11_layBest_127 rfl (fun c35 => ?_) (fun c35 => ?_)
                              · skip
                                have tn1180_ : nIT (j15 % 10) := fun _ => nI_toInt (by first | omega | (have t := leI c35; omega))
                                have n36 : (j15 % 10) ≤ 0 := by have t := leI c35; rw [show (nI (j15 % 10)).toInt = ((j15 % 10 : Nat) : Int) from tn1180_ ()] at t; have : (0 : Int32).toInt = 0 := qI_0; omega
                                refine lv_iinc (v := nI (j15 + 1)) (lv' := [(3, .int (nI (j15 + 1))), (5, .int (nI j27)), (4, .int (nI ((j15 / 10) - 1))), (2, .int (nI j8)), (0, .ref h0), (1, .int (-4))]) hx hb dX11_layBest_223 hl (k := 2) rfl (by rw [show Int32.ofInt 1 = nI 1 from by decide]; exact nI_add _ _) (by decide) rfl (fun ls hl => ?_)
                                refine lv_goto (tgt := 53) hx hb dX11_layBest_226 rfl ?_
                                exact ih53_17 (j15 + 1) (by omega) (by omega) g28 _ _ (BI.out (by have t_hj5 := hj5; have t_n7 := n7; have t_hj11 := hj11; have t_n14 := n14; have t_hj19 := hj19; have t_n22 := n22; have t_n24 := n24; have t_hj31 := hj31; have t_n34 := n34; have t_n36 := n36; have t_n0 : (nI N).toInt = (N : Int) := tn1168_ (); have t_n1 : (nI B).toInt = (B : Int) := tn1169_ (); have t_n2 : (nI T).toInt = (T : Int) := tn1170_ (); have t_n3 : (nI S).toInt = (S : Int) := tn1171_ (); have t_n4 : (nI M).toInt = (M : Int) := tn1172_ (); have t_n5 : (nI j1).toInt = (j1 : Int) := tn1173_ (); have t_n6 : (nI j8).toInt = (j8 : Int) := tn1175_ (); have t_n7 : (nI j15).toInt = (j15 : Int) := tn1177_ (); have t_n8 : (nI ((j15 / 10) - 1)).toInt = ((((j15 / 10) - 1) : Nat) : Int) := nI_toInt (by omega); have t_n9 : (nI j27).toInt = (j27 : Int) := tn1179_ (); omega) (by have t_hj5 := hj5; have t_n7 := n7; have t_hj11 := hj11; have t_n14 := n14; have t_hj19 := hj19; have t_n22 := n22; have t_n24 := n24; have t_hj31 := hj31; have t_n34 := n34; have t_n36 := n36; have t_n0 : (nI N).toInt = (N : Int) := tn1168_ (); have t_n1 : (nI B).toInt = (B : Int) := tn1169_ (); have t_n2 : (nI T).toInt = (T : Int) := tn1170_ (); have t_n3 : (nI S).toInt = (S : Int) := tn1171_ (); have t_n4 : (nI M).toInt = (M : Int) := tn1172_ (); have t_n5 : (nI j1).toInt = (j1 : Int) := tn1173_ (); have t_n6 : (nI j8).toInt = (j8 : Int) := tn1175_ (); have t_n7 : (nI j15).toInt = (j15 : Int) := tn1177_ (); have t_n8 : (nI ((j15 / 10) - 1)).toInt = ((((j15 / 10) - 1) : Nat) : Int) := nI_toInt (by omega); have t_n9 : (nI j27).toInt = (j27 : Int) := tn1179_ (); omega) (by have t_hj5 := hj5; have t_n7 := n7; have t_hj11 := hj11; have t_n14 := n14; have t_hj19 := hj19; have t_n22 := n22; have t_n24 := n24; have t_hj31 := hj31; have t_n34 := n34; have t_n36 := n36; have t_n0 : (nI N).toInt = (N : Int) := tn1168_ (); have t_n1 : (nI B).toInt = (B : Int) := tn1169_ (); have t_n2 : (nI T).toInt = (T : Int) := tn1170_ (); have t_n3 : (nI S).toInt = (S : Int) := tn1171_ (); have t_n4 : (nI M).toInt = (M : Int) := tn1172_ (); have t_n5 : (nI j1).toInt = (j1 : Int) := tn1173_ (); have t_n6 : (nI j8).toInt = (j8 : Int) := tn1175_ (); have t_n7 : (nI j15).toInt = (j15 : Int) := tn1177_ (); have t_n8 : (nI ((j15 / 10) - 1)).toInt = ((((j15 / 10) - 1) : Nat) : Int) := nI_toInt (by omega); have t_n9 : (nI j27).toInt = (j27 : Int) := tn1179_ (); omega) (by have t_hj5 := hj5; have t_n7 := n7; have t_hj11 := hj11; have t_n14 := n14; have t_hj19 := hj19; have t_n22 := n22; have t_n24 := n24; have t_hj31 := hj31; have t_n34 := n34; have t_n36 := n36; have t_n0 : (nI N).toInt = (N : Int) := tn1168_ (); have t_n1 : (nI B).toInt = (B : Int) := tn1169_ (); have t_n2 : (nI T).toInt = (T : Int) := tn1170_ (); have t_n3 : (nI S).toInt = (S : Int) := tn1171_ (); have t_n4 : (nI M).toInt = (M : Int) := tn1172_ (); have t_n5 : (nI j1).toInt = (j1 : Int) := tn1173_ (); have t_n6 : (nI j8).toInt = (j8 : Int) := tn1175_ (); have t_n7 : (nI j15).toInt = (j15 : Int) := tn1177_ (); have t_n8 : (nI ((j15 / 10) - 1)).toInt = ((((j15 / 10) - 1) : Nat) : Int) := nI_toInt (by omega); have t_n9 : (nI j27).toInt = (j27 : Int) := tn1179_ (); omega) hinv) hP hD hS ls (lv_sub hl [0, 3, 4, 5] rfl)
                              · skip
                                have tn1181_ : nIT (j15 % 10) := fun _ => nI_toInt (by first | omega | (have t := nleI c35; omega))
                                have n37 : 0 < (j15 % 10) := by have t := nleI c35; rw [show (nI (j15 % 10)).toInt = ((j15 % 10 : Nat) : Int) from tn1181_ ()] at t; have : (0 : Int32).toInt = 0 := qI_0; omega
                                refine lv_iload hx hb dX11_layBest_130 (lv_at hl 1 rfl) ?_
                                refine lv_bipush (v := (-4)) hx hb dX11_layBest_132 rfl ?_
                                refine lv_icmp_eq (tgt := 146) hx hb dX11_layBest_134 rfl (fun c38 => ?_) (fun c38 => ?_)
                                · skip
                                  have t_hj5 := hj5
                                  have t_n7 := n7
                                  have t_hj11 := hj11
                                  have t_n14 := n14
                                  have t_hj19 := hj19
                                  have t_n22 := n22
                                  have t_n24 := n24
                                  have t_hj31 := hj31
                                  have t_n34 := n34
                                  have t_n37 := n37
                                  have t_c38 := eqI c38
                                  have : ((-4) : Int32).toInt = -4 := qI_m4
                                  have t_n0 : (nI N).toInt = (N : Int) := tn1168_ ()
                                  have t_n1 : (nI B).toInt = (B : Int) := tn1169_ ()
                                  have t_n2 : (nI T).toInt = (T : Int) := tn1170_ ()
                                  have t_n3 : (nI S).toInt = (S : Int) := tn1171_ ()
                                  have t_n4 : (nI M).toInt = (M : Int) := tn1172_ ()
                                  have t_n5 : (nI j1).toInt = (j1 : Int) := tn1173_ ()
                                  have t_n6 : (nI j8).toInt = (j8 : Int) := tn1175_ ()
                                  have t_n7 : (nI j15).toInt = (j15 : Int) := tn1177_ ()
                                  have t_n8 : (nI ((j15 / 10) - 1)).toInt = ((((j15 / 10) - 1) : Nat) : Int) := nI_toInt (by omega)
                                  have t_n9 : (nI j27).toInt = (j27 : Int) := tn1179_ ()
                                  exfalso; omega
                                · skip
                                  refine lv_aload_n hx hb dX11_layBest_137 rfl (lv_at hl 4 rfl) ?_
                                  refine lv_iload hx hb dX11_layBest_138 (lv_at hl 1 rfl) ?_
                                  have hPc := hP.sub (ws' := [(h0, .inr (11, [.ref st, .int (nI N), .int (nI B), .ref rp, .int vrs, .int vrb, .int vhs, .int vca, .int vxs, .int vxb, .ref tp, .int (nI T), .int vfa, .int vbr, .int vba, .int vsp, .int vhe, .int vtk, .int vva, .ref cu, .ref lt, .ref od, .ref th, .ref be, .ref ln, .int (nI S), .ref ma, .int (nI M), .ref ah, .ref bh, .ref ik, .ref la, .ref lg, .ref ce, .int vto]))]) [0] rfl
                                  refine va_calli (va_runV (As := [.int (nI ((j15 / 10) - 1))]) (rest := []) ⟨hx, hb, hml, hown, hg⟩ (c_X11_isBearer l dC dI G _ h0 st N B rp tp T cu lt od th be ln S ma M ah bh ik la lg ce (nI ((j15 / 10) - 1)) vrs vrb vhs vca vxs vxb vfa vbr vba vsp vhe vtk vva vto hN hB_ hT_ hS0 hM_) (kwV hg mfX11_isBearer wt_1061 ⟨Nat.le_of_ble_eq_true rfl, Nat.le_of_ble_eq_true rfl⟩) (preVR hK hPc (ci := 11) rfl rfl) rfl rfl hl.1 rfl (lv_room (Nat.le_of_ble_eq_true rfl)) dX11_layBest_140 ⟨Nat.le_of_ble_eq_true rfl, Nat.le_of_ble_eq_true rfl⟩) hS (fun q h1 h2 => absurd h2 (Nat.not_le.mpr h1)) (fun q h => hA q (Nat.le_trans hS.1 h)) (fun r39 ur39 t H1 locs ht hvm w40 hB hz1 hk1 hS => ?_)
                                  have hP := keepR hP hk1
                                  obtain ⟨w40, w40x⟩ := w40
                                  try simp only [l_ii, show (0 : Int32).toInt = 0 from by decide] at w40
                                  have tn1182_ : nIT ((j15 / 10) - 1) := fun _ => nI_toInt (by omega)
                                  try rw [show (nI ((j15 / 10) - 1)).toInt = (((j15 / 10) - 1 : Nat) : Int) from tn1182_ ()] at w40
                                  try rw [show (nI (B)).toInt = ((B : Nat) : Int) from tn1169_ ()] at w40
                                  subst w40
                                  refine lv_if_eq (tgt := 223) hx hb dX11_layBest_143 rfl (fun c41 => ?_) (fun c41 => ?_)
                                  · skip
                                    have b42 := if10_n c41
                                    refine lv_iinc (v := nI (j15 + 1)) (lv' := [(3, .int (nI (j15 + 1))), (5, .int (nI j27)), (4, .int (nI ((j15 / 10) - 1))), (2, .int (nI j8)), (0, .ref h0), (1, .int (-4))]) hx hb dX11_layBest_223 hl (k := 2) rfl (by rw [show Int32.ofInt 1 = nI 1 from by decide]; exact nI_add _ _) (by decide) rfl (fun ls hl => ?_)
                                    refine lv_goto (tgt := 53) hx hb dX11_layBest_226 rfl ?_
                                    exact ih53_17 (j15 + 1) (by omega) (by omega) g28 _ _ (BI.out (by have t_hj5 := hj5; have t_n7 := n7; have t_hj11 := hj11; have t_n14 := n14; have t_hj19 := hj19; have t_n22 := n22; have t_n24 := n24; have t_hj31 := hj31; have t_n34 := n34; have t_n37 := n37; have t_c38 := neI c38; have t_b42 := b42; have : ((-4) : Int32).toInt = -4 := qI_m4; have t_n0 : (nI N).toInt = (N : Int) := tn1168_ (); have t_n1 : (nI B).toInt = (B : Int) := tn1169_ (); have t_n2 : (nI T).toInt = (T : Int) := tn1170_ (); have t_n3 : (nI S).toInt = (S : Int) := tn1171_ (); have t_n4 : (nI M).toInt = (M : Int) := tn1172_ (); have t_n5 : (nI j1).toInt = (j1 : Int) := tn1173_ (); have t_n6 : (nI j8).toInt = (j8 : Int) := tn1175_ (); have t_n7 : (nI j15).toInt = (j15 : Int) := tn1177_ (); have t_n8 : (nI ((j15 / 10) - 1)).toInt = ((((j15 / 10) - 1) : Nat) : Int) := nI_toInt (by omega); have t_n9 : (nI j27).toInt = (j27 : Int) := tn1179_ (); omega) (by have t_hj5 := hj5; have t_n7 := n7; have t_hj11 := hj11; have t_n14 := n14; have t_hj19 := hj19; have t_n22 := n22; have t_n24 := n24; have t_hj31 := hj31; have t_n34 := n34; have t_n37 := n37; have t_c38 := neI c38; have t_b42 := b42; have : ((-4) : Int32).toInt = -4 := qI_m4; have t_n0 : (nI N).toInt = (N : Int) := tn1168_ (); have t_n1 : (nI B).toInt = (B : Int) := tn1169_ (); have t_n2 : (nI T).toInt = (T : Int) := tn1170_ (); have t_n3 : (nI S).toInt = (S : Int) := tn1171_ (); have t_n4 : (nI M).toInt = (M : Int) := tn1172_ (); have t_n5 : (nI j1).toInt = (j1 : Int) := tn1173_ (); have t_n6 : (nI j8).toInt = (j8 : Int) := tn1175_ (); have t_n7 : (nI j15).toInt = (j15 : Int) := tn1177_ (); have t_n8 : (nI ((j15 / 10) - 1)).toInt = ((((j15 / 10) - 1) : Nat) : Int) := nI_toInt (by omega); have t_n9 : (nI j27).toInt = (j27 : Int) := tn1179_ (); omega) (by have t_hj5 := hj5; have t_n7 := n7; have t_hj11 := hj11; have t_n14 := n14; have t_hj19 := hj19; have t_n22 := n22; have t_n24 := n24; have t_hj31 := hj31; have t_n34 := n34; have t_n37 := n37; have t_c38 := neI c38; have t_b42 := b42; have : ((-4) : Int32).toInt = -4 := qI_m4; have t_n0 : (nI N).toInt = (N : Int) := tn1168_ (); have t_n1 : (nI B).toInt = (B : Int) := tn1169_ (); have t_n2 : (nI T).toInt = (T : Int) := tn1170_ (); have t_n3 : (nI S).toInt = (S : Int) := tn1171_ (); have t_n4 : (nI M).toInt = (M : Int) := tn1172_ (); have t_n5 : (nI j1).toInt = (j1 : Int) := tn1173_ (); have t_n6 : (nI j8).toInt = (j8 : Int) := tn1175_ (); have t_n7 : (nI j15).toInt = (j15 : Int) := tn1177_ (); have t_n8 : (nI ((j15 / 10) - 1)).toInt = ((((j15 / 10) - 1) : Nat) : Int) := nI_toInt (by omega); have t_n9 : (nI j27).toInt = (j27 : Int) := tn1179_ (); omega) (by have t_hj5 := hj5; have t_n7 := n7; have t_hj11 := hj11; have t_n14 := n14; have t_hj19 := hj19; have t_n22 := n22; have t_n24 := n24; have t_hj31 := hj31; have t_n34 := n34; have t_n37 := n37; have t_c38 := neI c38; have t_b42 := b42; have : ((-4) : Int32).toInt = -4 := qI_m4; have t_n0 : (nI N).toInt = (N : Int) := tn1168_ (); have t_n1 : (nI B).toInt = (B : Int) := tn1169_ (); have t_n2 : (nI T).toInt = (T : Int) := tn1170_ (); have t_n3 : (nI S).toInt = (S : Int) := tn1171_ (); have t_n4 : (nI M).toInt = (M : Int) := tn1172_ (); have t_n5 : (nI j1).toInt = (j1 : Int) := tn1173_ (); have t_n6 : (nI j8).toInt = (j8 : Int) := tn1175_ (); have t_n7 : (nI j15).toInt = (j15 : Int) := tn1177_ (); have t_n8 : (nI ((j15 / 10) - 1)).toInt = ((((j15 / 10) - 1) : Nat) : Int) := nI_toInt (by omega); have t_n9 : (nI j27).toInt = (j27 : Int) := tn1179_ (); omega) hinv) hP hD hS ls (lv_sub hl [0, 3, 4, 5] rfl)
                                  · skip
                                    have b43 := if10_p c41
                                    refine lv_iload hx hb dX11_layBest_146 (lv_at hl 0 rfl) ?_
                                    refine lv_iload_n hx hb dX11_layBest_148 rfl (lv_at hl 5 rfl) ?_
                                    refine lv_icmp_ne (tgt := 158) hx hb dX11_layBest_149 rfl (fun c44 => ?_) (fun c44 => ?_)
                                    · skip
                                      refine lv_aload_n hx hb dX11_layBest_158 rfl (lv_at hl 4 rfl) ?_
                                      refine lv_iload_n hx hb dX11_layBest_159 rfl (lv_at hl 3 rfl) ?_
                                      refine lv_iload hx hb dX11_layBest_160 (lv_at hl 1 rfl) ?_
                                      refine lv_iload_n hx hb dX11_layBest_162 rfl (lv_at hl 2 rfl) ?_
                                      refine lv_bipush (v := 10) hx hb dX11_layBest_163 rfl ?_
                                      refine lv_irem hx hb dX11_layBest_165 (by decide) ?_
                                      refine lv_cg (y := nI (j15 % 10)) (by rw [show (10 : Int32) = nI 10 from rfl]; exact pk_rem (by omega) (by omega) (by omega)) ?_
                                      refine lv_iload hx hb dX11_layBest_166 (lv_at hl 0 rfl) ?_
                                      have hPc := hP.sub (ws' := [(h0, .inr (11, [.ref st, .int (nI N), .int (nI B), .ref rp, .int vrs, .int vrb, .int vhs, .int vca, .int vxs, .int vxb, .ref tp, .int (nI T), .int vfa, .int vbr, .int vba, .int vsp, .int vhe, .int vtk, .int vva, .ref cu, .ref lt, .ref od, .ref th, .ref be, .ref ln, .int (nI S), .ref ma, .int (nI M), .ref ah, .ref bh, .ref ik, .ref la, .ref lg, .ref ce, .int vto])), (st, .inl (G 0, 196, .inl fst)), (be, .inl (G 1, 770, .inr (.inl g28)))]) [0, 1, 2] rfl
                                      refine va_calll (va_runV (As := [.int (nI j8), .int (nI ((j15 / 10) - 1)), .int (nI (j15 % 10)), .int (nI j27)]) (rest := []) ⟨hx, hb, hml, hown, hg⟩ (c_X11_byOneB l dC dI G _ h0 j8 ((j15 / 10) - 1) (j15 % 10) j27 st N B rp tp T cu lt od th be ln S ma M ah bh ik la lg ce vrs vrb vhs vca vxs vxb vfa vbr vba vsp vhe vtk vva vto fst g28 hN hB_ hT_ hS0 hM_ (by first | omega | (have t_hj5 := hj5; have t_n7 := n7; have t_hj11 := hj11; have t_n14 := n14; have t_hj19 := hj19; have t_n22 := n22; have t_n24 := n24; have t_hj31 := hj31; have t_n34 := n34; have t_n37 := n37; have t_c38 := neI c38; have t_b43 := b43; have t_c44 := neI c44; have : ((-4) : Int32).toInt = -4 := qI_m4; have t_n0 : (nI N).toInt = (N : Int) := tn1168_ (); have t_n1 : (nI B).toInt = (B : Int) := tn1169_ (); have t_n2 : (nI T).toInt = (T : Int) := tn1170_ (); have t_n3 : (nI S).toInt = (S : Int) := tn1171_ (); have t_n4 : (nI M).toInt = (M : Int) := tn1172_ (); have t_n5 : (nI j1).toInt = (j1 : Int) := tn1173_ (); have t_n6 : (nI j8).toInt = (j8 : Int) := tn1175_ (); have t_n7 : (nI j15).toInt = (j15 : Int) := tn1177_ (); have t_n8 : (nI ((j15 / 10) - 1)).toInt = ((((j15 / 10) - 1) : Nat) : Int) := nI_toInt (by omega); have t_n9 : (nI j27).toInt = (j27 : Int) := tn1179_ (); omega)) (by first | omega | (have t_hj5 := hj5; have t_n7 := n7; have t_hj11 := hj11; have t_n14 := n14; have t_hj19 := hj19; have t_n22 := n22; have t_n24 := n24; have t_hj31 := hj31; have t_n34 := n34; have t_n37 := n37; have t_c38 := neI c38; have t_b43 := b43; have t_c44 := neI c44; have : ((-4) : Int32).toInt = -4 := qI_m4; have t_n0 : (nI N).toInt = (N : Int) := tn1168_ (); have t_n1 : (nI B).toInt = (B : Int) := tn1169_ (); have t_n2 : (nI T).toInt = (T : Int) := tn1170_ (); have t_n3 : (nI S).toInt = (S : Int) := tn1171_ (); have t_n4 : (nI M).toInt = (M : Int) := tn1172_ (); have t_n5 : (nI j1).toInt = (j1 : Int) := tn1173_ (); have t_n6 : (nI j8).toInt = (j8 : Int) := tn1175_ (); have t_n7 : (nI j15).toInt = (j15 : Int) := tn1177_ (); have t_n8 : (nI ((j15 / 10) - 1)).toInt = ((((j15 / 10) - 1) : Nat) : Int) := nI_toInt (by omega); have t_n9 : (nI j27).toInt = (j27 : Int) := tn1179_ (); omega)) (by first | omega | (have t_hj5 := hj5; have t_n7 := n7; have t_hj11 := hj11; have t_n14 := n14; have t_hj19 := hj19; have t_n22 := n22; have t_n24 := n24; have t_hj31 := hj31; have t_n34 := n34; have t_n37 := n37; have t_c38 := neI c38; have t_b43 := b43; have t_c44 := neI c44; have : ((-4) : Int32).toInt = -4 := qI_m4; have t_n0 : (nI N).toInt = (N : Int) := tn1168_ (); have t_n1 : (nI B).toInt = (B : Int) := tn1169_ (); have t_n2 : (nI T).toInt = (T : Int) := tn1170_ (); have t_n3 : (nI S).toInt = (S : Int) := tn1171_ (); have t_n4 : (nI M).toInt = (M : Int) := tn1172_ (); have t_n5 : (nI j1).toInt = (j1 : Int) := tn1173_ (); have t_n6 : (nI j8).toInt = (j8 : Int) := tn1175_ (); have t_n7 : (nI j15).toInt = (j15 : Int) := tn1177_ (); have t_n8 : (nI ((j15 / 10) - 1)).toInt = ((((j15 / 10) - 1) : Nat) : Int) := nI_toInt (by omega); have t_n9 : (nI j27).toInt = (j27 : Int) := tn1179_ (); omega)) (by first | omega | (have t_hj5 := hj5; have t_n7 := n7; have t_hj11 := hj11; have t_n14 := n14; have t_hj19 := hj19; have t_n22 := n22; have t_n24 := n24; have t_hj31 := hj31; have t_n34 := n34; have t_n37 := n37; have t_c38 := neI c38; have t_b43 := b43; have t_c44 := neI c44; have : ((-4) : Int32).toInt = -4 := qI_m4; have t_n0 : (nI N).toInt = (N : Int) := tn1168_ (); have t_n1 : (nI B).toInt = (B : Int) := tn1169_ (); have t_n2 : (nI T).toInt = (T : Int) := tn1170_ (); have t_n3 : (nI S).toInt = (S : Int) := tn1171_ (); have t_n4 : (nI M).toInt = (M : Int) := tn1172_ (); have t_n5 : (nI j1).toInt = (j1 : Int) := tn1173_ (); have t_n6 : (nI j8).toInt = (j8 : Int) := tn1175_ (); have t_n7 : (nI j15).toInt = (j15 : Int) := tn1177_ (); have t_n8 : (nI ((j15 / 10) - 1)).toInt = ((((j15 / 10) - 1) : Nat) : Int) := nI_toInt (by omega); have t_n9 : (nI j27).toInt = (j27 : Int) := tn1179_ (); omega))) (kwV hg mfX11_byOne wt_1155 ⟨Nat.le_of_ble_eq_true rfl, Nat.le_of_ble_eq_true rfl⟩) (preVR hK hPc (ci := 11) rfl rfl) rfl rfl hl.1 rfl (lv_room (Nat.le_of_ble_eq_true rfl)) dX11_layBest_168 ⟨Nat.le_of_ble_eq_true rfl, Nat.le_of_ble_eq_true rfl⟩) hS (fun q h1 h2 => absurd h2 (Nat.not_le.mpr h1)) (fun q h => hA q (Nat.le_trans hS.1 h)) (fun r45 ur45 t H1 locs ht hvm w46 hB hz1 hk1 hS => ?_)
                                      have hP := keepR hP hk1
                                      obtain ⟨w46, w46x⟩ := w46
                                      subst w46
                                      refine lv_lstore (lv' := [(6, .long (b1B fst g28 j8 ((j15 / 10) - 1) (j15 % 10) j27)), (5, .int (nI j27)), (4, .int (nI ((j15 / 10) - 1))), (3, .int (nI j15)), (2, .int (nI j8)), (0, .ref h0), (1, .int (-4))]) hx hb dX11_layBest_171 hl (by decide) rfl (fun ls hl => ?_)
                                      refine lv_aload_n hx hb dX11_layBest_173 rfl (lv_at hl 5 rfl) ?_
                                      refine va_get (D := (dC, dI)) (ci := 11) (v := .ref be) (C := RX11) (T := TX11) (N := 35) hx hb hg inG11 hown hK.1 hP 0 rfl rfl 23 (Nat.le_of_ble_eq_true rfl) (hg _ wt_901) (fun _ h9 => h9) rfl dX11_layBest_174 ?_
                                      refine lv_bipush (v := 70) hx hb dX11_layBest_177 rfl ?_
                                      refine lv_iload_n hx hb dX11_layBest_179 rfl (lv_at hl 4 rfl) ?_
                                      refine lv_imul hx hb dX11_layBest_180 ?_
                                      refine lv_cg (y := nI (70 * j8)) (by rw [show (70 : Int32) = nI 70 from rfl]; exact pk_mul _ _) ?_
                                      refine lv_iload_n hx hb dX11_layBest_181 rfl (lv_at hl 3 rfl) ?_
                                      refine lv_iadd hx hb dX11_layBest_182 ?_
                                      refine lv_cg (y := nI ((70 * j8) + j15)) (by exact nI_add _ _) ?_
                                      refine lv_lload hx hb dX11_layBest_183 (lv_at hl 0 rfl) ?_
                                      refine lv_aload_n hx hb dX11_layBest_185 rfl (lv_at hl 5 rfl) ?_
                                      refine va_get (D := (dC, dI)) (ci := 11) (v := .ref be) (C := RX11) (T := TX11) (N := 35) hx hb hg inG11 hown hK.1 hP 0 rfl rfl 23 (Nat.le_of_ble_eq_true rfl) (hg _ wt_901) (fun _ h9 => h9) rfl dX11_layBest_186 ?_
                                      refine lv_bipush (v := 70) hx hb dX11_layBest_189 rfl ?_
                                      refine lv_iload_n hx hb dX11_layBest_191 rfl (lv_at hl 4 rfl) ?_
                                      refine lv_imul hx hb dX11_layBest_192 ?_
                                      refine lv_cg (y := nI (70 * j8)) (by rw [show (70 : Int32) = nI 70 from rfl]; exact pk_mul _ _) ?_
                                      refine lv_iload_n hx hb dX11_layBest_193 rfl (lv_at hl 3 rfl) ?_
                                      refine lv_iadd hx hb dX11_layBest_194 ?_
                                      refine lv_cg (y := nI ((70 * j8) + j15)) (by exact nI_add _ _) ?_
                                      refine va_lald hx hb hK.1 hP 2 1 rfl rfl (vp_in_nI (by first | omega | (have t_hj5 := hj5; have t_n7 := n7; have t_hj11 := hj11; have t_n14 := n14; have t_hj19 := hj19; have t_n22 := n22; have t_n24 := n24; have t_hj31 := hj31; have t_n34 := n34; have t_n37 := n37; have t_c38 := neI c38; have t_b43 := b43; have t_c44 := neI c44; have : ((-4) : Int32).toInt = -4 := qI_m4; have t_n0 : (nI N).toInt = (N : Int) := tn1168_ (); have t_n1 : (nI B).toInt = (B : Int) := tn1169_ (); have t_n2 : (nI T).toInt = (T : Int) := tn1170_ (); have t_n3 : (nI S).toInt = (S : Int) := tn1171_ (); have t_n4 : (nI M).toInt = (M : Int) := tn1172_ (); have t_n5 : (nI j1).toInt = (j1 : Int) := tn1173_ (); have t_n6 : (nI j8).toInt = (j8 : Int) := tn1175_ (); have t_n7 : (nI j15).toInt = (j15 : Int) := tn1177_ (); have t_n8 : (nI ((j15 / 10) - 1)).toInt = ((((j15 / 10) - 1) : Nat) : Int) := nI_toInt (by omega); have t_n9 : (nI j27).toInt = (j27 : Int) := tn1179_ (); omega)) (by decide)) dX11_layBest_195 ?_
                                      refine lv_cgl (y := g28 ((70 * j8) + j15)) (by rw [nI_clamp (by omega)]) ?_
                                      refine W.lcmp hx hb dX11_layBest_196 ?_
                                      refine lv_if_ge (tgt := 205) hx hb dX11_layBest_197 rfl (fun c47 => ?_) (fun c47 => ?_)
                                      · skip
                                        refine lv_aload_n hx hb dX11_layBest_205 rfl (lv_at hl 5 rfl) ?_
                                        refine va_get (D := (dC, dI)) (ci := 11) (v := .ref be) (C := RX11) (T := TX11) (N := 35) hx hb hg inG11 hown hK.1 hP 0 rfl rfl 23 (Nat.le_of_ble_eq_true rfl) (hg _ wt_901) (fun _ h9 => h9) rfl dX11_layBest_206 ?_
                                        refine lv_bipush (v := 70) hx hb dX11_layBest_209 rfl ?_
                                        refine lv_iload_n hx hb dX11_layBest_211 rfl (lv_at hl 4 rfl) ?_
                                        refine lv_imul hx hb dX11_layBest_212 ?_
                                        refine lv_cg (y := nI (70 * j8)) (by rw [show (70 : Int32) = nI 70 from rfl]; exact pk_mul _ _) ?_
                                        refine lv_iload_n hx hb dX11_layBest_213 rfl (lv_at hl 3 rfl) ?_
                                        refine lv_iadd hx hb dX11_layBest_214 ?_
                                        refine lv_cg (y := nI ((70 * j8) + j15)) (by exact nI_add _ _) ?_
                                        refine va_lald hx hb hK.1 hP 2 1 rfl rfl (vp_in_nI (by first | omega | (have t_hj5 := hj5; have t_n7 := n7; have t_hj11 := hj11; have t_n14 := n14; have t_hj19 := hj19; have t_n22 := n22; have t_n24 := n24; have t_hj31 := hj31; have t_n34 := n34; have t_n37 := n37; have t_c38 := neI c38; have t_b43 := b43; have t_c44 := neI c44; have t_c47 := lcm_ge_t c47; have : ((-4) : Int32).toInt = -4 := qI_m4; have t_n0 : (nI N).toInt = (N : Int) := tn1168_ (); have t_n1 : (nI B).toInt = (B : Int) := tn1169_ (); have t_n2 : (nI T).toInt = (T : Int) := tn1170_ (); have t_n3 : (nI S).toInt = (S : Int) := tn1171_ (); have t_n4 : (nI M).toInt = (M : Int) := tn1172_ (); have t_n5 : (nI j1).toInt = (j1 : Int) := tn1173_ (); have t_n6 : (nI j8).toInt = (j8 : Int) := tn1175_ (); have t_n7 : (nI j15).toInt = (j15 : Int) := tn1177_ (); have t_n8 : (nI ((j15 / 10) - 1)).toInt = ((((j15 / 10) - 1) : Nat) : Int) := nI_toInt (by omega); have t_n9 : (nI j27).toInt = (j27 : Int) := tn1179_ (); omega)) (by decide)) dX11_layBest_215 ?_
                                        refine lv_cgl (y := g28 ((70 * j8) + j15)) (by rw [nI_clamp (by omega)]) ?_
                                        refine va_last hx hb hK.1 hP hD hS 2 1 rfl rfl (vp_in_nI (by first | omega | (have t_hj5 := hj5; have t_n7 := n7; have t_hj11 := hj11; have t_n14 := n14; have t_hj19 := hj19; have t_n22 := n22; have t_n24 := n24; have t_hj31 := hj31; have t_n34 := n34; have t_n37 := n37; have t_c38 := neI c38; have t_b43 := b43; have t_c44 := neI c44; have t_c47 := lcm_ge_t c47; have : ((-4) : Int32).toInt = -4 := qI_m4; have t_n0 : (nI N).toInt = (N : Int) := tn1168_ (); have t_n1 : (nI B).toInt = (B : Int) := tn1169_ (); have t_n2 : (nI T).toInt = (T : Int) := tn1170_ (); have t_n3 : (nI S).toInt = (S : Int) := tn1171_ (); have t_n4 : (nI M).toInt = (M : Int) := tn1172_ (); have t_n5 : (nI j1).toInt = (j1 : Int) := tn1173_ (); have t_n6 : (nI j8).toInt = (j8 : Int) := tn1175_ (); have t_n7 : (nI j15).toInt = (j15 : Int) := tn1177_ (); have t_n8 : (nI ((j15 / 10) - 1)).toInt = ((((j15 / 10) - 1) : Nat) : Int) := nI_toInt (by omega); have t_n9 : (nI j27).toInt = (j27 : Int) := tn1179_ (); omega)) (by decide)) dX11_layBest_216 (fun H locs hP hD hS => ?_)
                                        rw [nI_clamp (by omega)] at hP hD
                                        refine lv_iinc (v := nI (j27 + 1)) (lv' := [(5, .int (nI (j27 + 1))), (6, .long (b1B fst g28 j8 ((j15 / 10) - 1) (j15 % 10) j27)), (4, .int (nI ((j15 / 10) - 1))), (3, .int (nI j15)), (2, .int (nI j8)), (0, .ref h0), (1, .int (-4))]) hx hb dX11_layBest_217 hl (k := 1) rfl (by rw [show Int32.ofInt 1 = nI 1 from by decide]; exact nI_add _ _) (by decide) rfl (fun ls hl => ?_)
                                        refine lv_goto (tgt := 114) hx hb dX11_layBest_220 rfl ?_
                                        exact ih114_29 (j27 + 1) (by omega) (by omega) (vp_updL g28 ((70 * j8) + j15) (g28 ((70 * j8) + j15))) _ _ (BI.ge hst (by have t_hj5 := hj5; have t_n7 := n7; have t_hj11 := hj11; have t_n14 := n14; have t_hj19 := hj19; have t_n22 := n22; have t_n24 := n24; have t_hj31 := hj31; have t_n34 := n34; have t_n37 := n37; have t_c38 := neI c38; have t_b43 := b43; have t_c44 := neI c44; have t_c47 := lcm_ge_t c47; have : ((-4) : Int32).toInt = -4 := qI_m4; have t_n0 : (nI N).toInt = (N : Int) := tn1168_ (); have t_n1 : (nI B).toInt = (B : Int) := tn1169_ (); have t_n2 : (nI T).toInt = (T : Int) := tn1170_ (); have t_n3 : (nI S).toInt = (S : Int) := tn1171_ (); have t_n4 : (nI M).toInt = (M : Int) := tn1172_ (); have t_n5 : (nI j1).toInt = (j1 : Int) := tn1173_ (); have t_n6 : (nI j8).toInt = (j8 : Int) := tn1175_ (); have t_n7 : (nI j15).toInt = (j15 : Int) := tn1177_ (); have t_n8 : (nI ((j15 / 10) - 1)).toInt = ((((j15 / 10) - 1) : Nat) : Int) := nI_toInt (by omega); have t_n9 : (nI j27).toInt = (j27 : Int) := tn1179_ (); omega) (by have t_hj5 := hj5; have t_n7 := n7; have t_hj11 := hj11; have t_n14 := n14; have t_hj19 := hj19; have t_n22 := n22; have t_n24 := n24; have t_hj31 := hj31; have t_n34 := n34; have t_n37 := n37; have t_c38 := neI c38; have t_b43 := b43; have t_c44 := neI c44; have t_c47 := lcm_ge_t c47; have : ((-4) : Int32).toInt = -4 := qI_m4; have t_n0 : (nI N).toInt = (N : Int) := tn1168_ (); have t_n1 : (nI B).toInt = (B : Int) := tn1169_ (); have t_n2 : (nI T).toInt = (T : Int) := tn1170_ (); have t_n3 : (nI S).toInt = (S : Int) := tn1171_ (); have t_n4 : (nI M).toInt = (M : Int) := tn1172_ (); have t_n5 : (nI j1).toInt = (j1 : Int) := tn1173_ (); have t_n6 : (nI j8).toInt = (j8 : Int) := tn1175_ (); have t_n7 : (nI j15).toInt = (j15 : Int) := tn1177_ (); have t_n8 : (nI ((j15 / 10) - 1)).toInt = ((((j15 / 10) - 1) : Nat) : Int) := nI_toInt (by omega); have t_n9 : (nI j27).toInt = (j27 : Int) := tn1179_ (); omega) (by have t_hj5 := hj5; have t_n7 := n7; have t_hj11 := hj11; have t_n14 := n14; have t_hj19 := hj19; have t_n22 := n22; have t_n24 := n24; have t_hj31 := hj31; have t_n34 := n34; have t_n37 := n37; have t_c38 := neI c38; have t_b43 := b43; have t_c44 := neI c44; have t_c47 := lcm_ge_t c47; have : ((-4) : Int32).toInt = -4 := qI_m4; have t_n0 : (nI N).toInt = (N : Int) := tn1168_ (); have t_n1 : (nI B).toInt = (B : Int) := tn1169_ (); have t_n2 : (nI T).toInt = (T : Int) := tn1170_ (); have t_n3 : (nI S).toInt = (S : Int) := tn1171_ (); have t_n4 : (nI M).toInt = (M : Int) := tn1172_ (); have t_n5 : (nI j1).toInt = (j1 : Int) := tn1173_ (); have t_n6 : (nI j8).toInt = (j8 : Int) := tn1175_ (); have t_n7 : (nI j15).toInt = (j15 : Int) := tn1177_ (); have t_n8 : (nI ((j15 / 10) - 1)).toInt = ((((j15 / 10) - 1) : Nat) : Int) := nI_toInt (by omega); have t_n9 : (nI j27).toInt = (j27 : Int) := tn1179_ (); omega) (by have t_hj5 := hj5; have t_n7 := n7; have t_hj11 := hj11; have t_n14 := n14; have t_hj19 := hj19; have t_n22 := n22; have t_n24 := n24; have t_hj31 := hj31; have t_n34 := n34; have t_n37 := n37; have t_c38 := neI c38; have t_b43 := b43; have t_c44 := neI c44; have t_c47 := lcm_ge_t c47; have : ((-4) : Int32).toInt = -4 := qI_m4; have t_n0 : (nI N).toInt = (N : Int) := tn1168_ (); have t_n1 : (nI B).toInt = (B : Int) := tn1169_ (); have t_n2 : (nI T).toInt = (T : Int) := tn1170_ (); have t_n3 : (nI S).toInt = (S : Int) := tn1171_ (); have t_n4 : (nI M).toInt = (M : Int) := tn1172_ (); have t_n5 : (nI j1).toInt = (j1 : Int) := tn1173_ (); have t_n6 : (nI j8).toInt = (j8 : Int) := tn1175_ (); have t_n7 : (nI j15).toInt = (j15 : Int) := tn1177_ (); have t_n8 : (nI ((j15 / 10) - 1)).toInt = ((((j15 / 10) - 1) : Nat) : Int) := nI_toInt (by omega); have t_n9 : (nI j27).toInt = (j27 : Int) := tn1179_ (); omega) (by have t_hj5 := hj5; have t_n7 := n7; have t_hj11 := hj11; have t_n14 := n14; have t_hj19 := hj19; have t_n22 := n22; have t_n24 := n24; have t_hj31 := hj31; have t_n34 := n34; have t_n37 := n37; have t_c38 := neI c38; have t_b43 := b43; have t_c44 := neI c44; have t_c47 := lcm_ge_t c47; have : ((-4) : Int32).toInt = -4 := qI_m4; have t_n0 : (nI N).toInt = (N : Int) := tn1168_ (); have t_n1 : (nI B).toInt = (B : Int) := tn1169_ (); have t_n2 : (nI T).toInt = (T : Int) := tn1170_ (); have t_n3 : (nI S).toInt = (S : Int) := tn1171_ (); have t_n4 : (nI M).toInt = (M : Int) := tn1172_ (); have t_n5 : (nI j1).toInt = (j1 : Int) := tn1173_ (); have t_n6 : (nI j8).toInt = (j8 : Int) := tn1175_ (); have t_n7 : (nI j15).toInt = (j15 : Int) := tn1177_ (); have t_n8 : (nI ((j15 / 10) - 1)).toInt = ((((j15 / 10) - 1) : Nat) : Int) := nI_toInt (by omega); have t_n9 : (nI j27).toInt = (j27 : Int) := tn1179_ (); omega) (by have t_hj5 := hj5; have t_n7 := n7; have t_hj11 := hj11; have t_n14 := n14; have t_hj19 := hj19; have t_n22 := n22; have t_n24 := n24; have t_hj31 := hj31; have t_n34 := n34; have t_n37 := n37; have t_c38 := neI c38; have t_b43 := b43; have t_c44 := neI c44; have t_c47 := lcm_ge_t c47; have : ((-4) : Int32).toInt = -4 := qI_m4; have t_n0 : (nI N).toInt = (N : Int) := tn1168_ (); have t_n1 : (nI B).toInt = (B : Int) := tn1169_ (); have t_n2 : (nI T).toInt = (T : Int) := tn1170_ (); have t_n3 : (nI S).toInt = (S : Int) := tn1171_ (); have t_n4 : (nI M).toInt = (M : Int) := tn1172_ (); have t_n5 : (nI j1).toInt = (j1 : Int) := tn1173_ (); have t_n6 : (nI j8).toInt = (j8 : Int) := tn1175_ (); have t_n7 : (nI j15).toInt = (j15 : Int) := tn1177_ (); have t_n8 : (nI ((j15 / 10) - 1)).toInt = ((((j15 / 10) - 1) : Nat) : Int) := nI_toInt (by omega); have t_n9 : (nI j27).toInt = (j27 : Int) := tn1179_ (); omega) (by unfold b1; first | (rw [if_pos (by omega)]) | (rw [if_neg (by omega)])) (lcm_ge_t c47) hinv) hP hD hS ls (lv_sub hl [0, 2, 3, 4, 5, 6] rfl)
                                      · skip
                                        refine lv_lload hx hb dX11_layBest_200 (lv_at hl 0 rfl) ?_
                                        refine lv_goto (tgt := 216) hx hb dX11_layBest_202 rfl ?_
                                        refine va_last hx hb hK.1 hP hD hS 2 1 rfl rfl (vp_in_nI (by first | omega | (have t_hj5 := hj5; have t_n7 := n7; have t_hj11 := hj11; have t_n14 := n14; have t_hj19 := hj19; have t_n22 := n22; have t_n24 := n24; have t_hj31 := hj31; have t_n34 := n34; have t_n37 := n37; have t_c38 := neI c38; have t_b43 := b43; have t_c44 := neI c44; have t_c47 := lcm_ge_f c47; have : ((-4) : Int32).toInt = -4 := qI_m4; have t_n0 : (nI N).toInt = (N : Int) := tn1168_ (); have t_n1 : (nI B).toInt = (B : Int) := tn1169_ (); have t_n2 : (nI T).toInt = (T : Int) := tn1170_ (); have t_n3 : (nI S).toInt = (S : Int) := tn1171_ (); have t_n4 : (nI M).toInt = (M : Int) := tn1172_ (); have t_n5 : (nI j1).toInt = (j1 : Int) := tn1173_ (); have t_n6 : (nI j8).toInt = (j8 : Int) := tn1175_ (); have t_n7 : (nI j15).toInt = (j15 : Int) := tn1177_ (); have t_n8 : (nI ((j15 / 10) - 1)).toInt = ((((j15 / 10) - 1) : Nat) : Int) := nI_toInt (by omega); have t_n9 : (nI j27).toInt = (j27 : Int) := tn1179_ (); omega)) (by decide)) dX11_layBest_216 (fun H locs hP hD hS => ?_)
                                        rw [nI_clamp (by omega)] at hP hD
                                        refine lv_iinc (v := nI (j27 + 1)) (lv' := [(5, .int (nI (j27 + 1))), (6, .long (b1B fst g28 j8 ((j15 / 10) - 1) (j15 % 10) j27)), (4, .int (nI ((j15 / 10) - 1))), (3, .int (nI j15)), (2, .int (nI j8)), (0, .ref h0), (1, .int (-4))]) hx hb dX11_layBest_217 hl (k := 1) rfl (by rw [show Int32.ofInt 1 = nI 1 from by decide]; exact nI_add _ _) (by decide) rfl (fun ls hl => ?_)
                                        refine lv_goto (tgt := 114) hx hb dX11_layBest_220 rfl ?_
                                        exact ih114_29 (j27 + 1) (by omega) (by omega) (vp_updL g28 ((70 * j8) + j15) (b1B fst g28 j8 ((j15 / 10) - 1) (j15 % 10) j27)) _ _ (BI.lt hst (by have t_hj5 := hj5; have t_n7 := n7; have t_hj11 := hj11; have t_n14 := n14; have t_hj19 := hj19; have t_n22 := n22; have t_n24 := n24; have t_hj31 := hj31; have t_n34 := n34; have t_n37 := n37; have t_c38 := neI c38; have t_b43 := b43; have t_c44 := neI c44; have t_c47 := lcm_ge_f c47; have : ((-4) : Int32).toInt = -4 := qI_m4; have t_n0 : (nI N).toInt = (N : Int) := tn1168_ (); have t_n1 : (nI B).toInt = (B : Int) := tn1169_ (); have t_n2 : (nI T).toInt = (T : Int) := tn1170_ (); have t_n3 : (nI S).toInt = (S : Int) := tn1171_ (); have t_n4 : (nI M).toInt = (M : Int) := tn1172_ (); have t_n5 : (nI j1).toInt = (j1 : Int) := tn1173_ (); have t_n6 : (nI j8).toInt = (j8 : Int) := tn1175_ (); have t_n7 : (nI j15).toInt = (j15 : Int) := tn1177_ (); have t_n8 : (nI ((j15 / 10) - 1)).toInt = ((((j15 / 10) - 1) : Nat) : Int) := nI_toInt (by omega); have t_n9 : (nI j27).toInt = (j27 : Int) := tn1179_ (); omega) (by have t_hj5 := hj5; have t_n7 := n7; have t_hj11 := hj11; have t_n14 := n14; have t_hj19 := hj19; have t_n22 := n22; have t_n24 := n24; have t_hj31 := hj31; have t_n34 := n34; have t_n37 := n37; have t_c38 := neI c38; have t_b43 := b43; have t_c44 := neI c44; have t_c47 := lcm_ge_f c47; have : ((-4) : Int32).toInt = -4 := qI_m4; have t_n0 : (nI N).toInt = (N : Int) := tn1168_ (); have t_n1 : (nI B).toInt = (B : Int) := tn1169_ (); have t_n2 : (nI T).toInt = (T : Int) := tn1170_ (); have t_n3 : (nI S).toInt = (S : Int) := tn1171_ (); have t_n4 : (nI M).toInt = (M : Int) := tn1172_ (); have t_n5 : (nI j1).toInt = (j1 : Int) := tn1173_ (); have t_n6 : (nI j8).toInt = (j8 : Int) := tn1175_ (); have t_n7 : (nI j15).toInt = (j15 : Int) := tn1177_ (); have t_n8 : (nI ((j15 / 10) - 1)).toInt = ((((j15 / 10) - 1) : Nat) : Int) := nI_toInt (by omega); have t_n9 : (nI j27).toInt = (j27 : Int) := tn1179_ (); omega) (by have t_hj5 := hj5; have t_n7 := n7; have t_hj11 := hj11; have t_n14 := n14; have t_hj19 := hj19; have t_n22 := n22; have t_n24 := n24; have t_hj31 := hj31; have t_n34 := n34; have t_n37 := n37; have t_c38 := neI c38; have t_b43 := b43; have t_c44 := neI c44; have t_c47 := lcm_ge_f c47; have : ((-4) : Int32).toInt = -4 := qI_m4; have t_n0 : (nI N).toInt = (N : Int) := tn1168_ (); have t_n1 : (nI B).toInt = (B : Int) := tn1169_ (); have t_n2 : (nI T).toInt = (T : Int) := tn1170_ (); have t_n3 : (nI S).toInt = (S : Int) := tn1171_ (); have t_n4 : (nI M).toInt = (M : Int) := tn1172_ (); have t_n5 : (nI j1).toInt = (j1 : Int) := tn1173_ (); have t_n6 : (nI j8).toInt = (j8 : Int) := tn1175_ (); have t_n7 : (nI j15).toInt = (j15 : Int) := tn1177_ (); have t_n8 : (nI ((j15 / 10) - 1)).toInt = ((((j15 / 10) - 1) : Nat) : Int) := nI_toInt (by omega); have t_n9 : (nI j27).toInt = (j27 : Int) := tn1179_ (); omega) (by have t_hj5 := hj5; have t_n7 := n7; have t_hj11 := hj11; have t_n14 := n14; have t_hj19 := hj19; have t_n22 := n22; have t_n24 := n24; have t_hj31 := hj31; have t_n34 := n34; have t_n37 := n37; have t_c38 := neI c38; have t_b43 := b43; have t_c44 := neI c44; have t_c47 := lcm_ge_f c47; have : ((-4) : Int32).toInt = -4 := qI_m4; have t_n0 : (nI N).toInt = (N : Int) := tn1168_ (); have t_n1 : (nI B).toInt = (B : Int) := tn1169_ (); have t_n2 : (nI T).toInt = (T : Int) := tn1170_ (); have t_n3 : (nI S).toInt = (S : Int) := tn1171_ (); have t_n4 : (nI M).toInt = (M : Int) := tn1172_ (); have t_n5 : (nI j1).toInt = (j1 : Int) := tn1173_ (); have t_n6 : (nI j8).toInt = (j8 : Int) := tn1175_ (); have t_n7 : (nI j15).toInt = (j15 : Int) := tn1177_ (); have t_n8 : (nI ((j15 / 10) - 1)).toInt = ((((j15 / 10) - 1) : Nat) : Int) := nI_toInt (by omega); have t_n9 : (nI j27).toInt = (j27 : Int) := tn1179_ (); omega) (by have t_hj5 := hj5; have t_n7 := n7; have t_hj11 := hj11; have t_n14 := n14; have t_hj19 := hj19; have t_n22 := n22; have t_n24 := n24; have t_hj31 := hj31; have t_n34 := n34; have t_n37 := n37; have t_c38 := neI c38; have t_b43 := b43; have t_c44 := neI c44; have t_c47 := lcm_ge_f c47; have : ((-4) : Int32).toInt = -4 := qI_m4; have t_n0 : (nI N).toInt = (N : Int) := tn1168_ (); have t_n1 : (nI B).toInt = (B : Int) := tn1169_ (); have t_n2 : (nI T).toInt = (T : Int) := tn1170_ (); have t_n3 : (nI S).toInt = (S : Int) := tn1171_ (); have t_n4 : (nI M).toInt = (M : Int) := tn1172_ (); have t_n5 : (nI j1).toInt = (j1 : Int) := tn1173_ (); have t_n6 : (nI j8).toInt = (j8 : Int) := tn1175_ (); have t_n7 : (nI j15).toInt = (j15 : Int) := tn1177_ (); have t_n8 : (nI ((j15 / 10) - 1)).toInt = ((((j15 / 10) - 1) : Nat) : Int) := nI_toInt (by omega); have t_n9 : (nI j27).toInt = (j27 : Int) := tn1179_ (); omega) (by have t_hj5 := hj5; have t_n7 := n7; have t_hj11 := hj11; have t_n14 := n14; have t_hj19 := hj19; have t_n22 := n22; have t_n24 := n24; have t_hj31 := hj31; have t_n34 := n34; have t_n37 := n37; have t_c38 := neI c38; have t_b43 := b43; have t_c44 := neI c44; have t_c47 := lcm_ge_f c47; have : ((-4) : Int32).toInt = -4 := qI_m4; have t_n0 : (nI N).toInt = (N : Int) := tn1168_ (); have t_n1 : (nI B).toInt = (B : Int) := tn1169_ (); have t_n2 : (nI T).toInt = (T : Int) := tn1170_ (); have t_n3 : (nI S).toInt = (S : Int) := tn1171_ (); have t_n4 : (nI M).toInt = (M : Int) := tn1172_ (); have t_n5 : (nI j1).toInt = (j1 : Int) := tn1173_ (); have t_n6 : (nI j8).toInt = (j8 : Int) := tn1175_ (); have t_n7 : (nI j15).toInt = (j15 : Int) := tn1177_ (); have t_n8 : (nI ((j15 / 10) - 1)).toInt = ((((j15 / 10) - 1) : Nat) : Int) := nI_toInt (by omega); have t_n9 : (nI j27).toInt = (j27 : Int) := tn1179_ (); omega) (by unfold b1; first | (rw [if_pos (by omega)]) | (rw [if_neg (by omega)])) hinv) hP hD hS ls (lv_sub hl [0, 2, 3, 4, 5, 6] rfl)
                                    · skip
                                      have t_hj5 := hj5
                                      have t_n7 := n7
                                      have t_hj11 := hj11
                                      have t_n14 := n14
                                      have t_hj19 := hj19
                                      have t_n22 := n22
                                      have t_n24 := n24
                                      have t_hj31 := hj31
                                      have t_n34 := n34
                                      have t_n37 := n37
                                      have t_c38 := neI c38
                                      have t_b43 := b43
                                      have t_c44 := eqI c44
                                      have : ((-4) : Int32).toInt = -4 := qI_m4
                                      have t_n0 : (nI N).toInt = (N : Int) := tn1168_ ()
                                      have t_n1 : (nI B).toInt = (B : Int) := tn1169_ ()
                                      have t_n2 : (nI T).toInt = (T : Int) := tn1170_ ()
                                      have t_n3 : (nI S).toInt = (S : Int) := tn1171_ ()
                                      have t_n4 : (nI M).toInt = (M : Int) := tn1172_ ()
                                      have t_n5 : (nI j1).toInt = (j1 : Int) := tn1173_ ()
                                      have t_n6 : (nI j8).toInt = (j8 : Int) := tn1175_ ()
                                      have t_n7 : (nI j15).toInt = (j15 : Int) := tn1177_ ()
                                      have t_n8 : (nI ((j15 / 10) - 1)).toInt = ((((j15 / 10) - 1) : Nat) : Int) := nI_toInt (by omega)
                                      have t_n9 : (nI j27).toInt = (j27 : Int) := tn1179_ ()
                                      exfalso; omega
                        exact loop114_29 (B + 1) 0 (by omega) (by omega) (vp_updL g16 ((70 * j8) + j15) y25) _ _ (BI.ini hinv (by have t_hj5 := hj5; have t_n7 := n7; have t_hj11 := hj11; have t_n14 := n14; have t_hj19 := hj19; have t_n22 := n22; have t_n24 := n24; have t_n0 : (nI N).toInt = (N : Int) := tn1168_ (); have t_n1 : (nI B).toInt = (B : Int) := tn1169_ (); have t_n2 : (nI T).toInt = (T : Int) := tn1170_ (); have t_n3 : (nI S).toInt = (S : Int) := tn1171_ (); have t_n4 : (nI M).toInt = (M : Int) := tn1172_ (); have t_n5 : (nI j1).toInt = (j1 : Int) := tn1173_ (); have t_n6 : (nI j8).toInt = (j8 : Int) := tn1175_ (); have t_n7 : (nI j15).toInt = (j15 : Int) := tn1177_ (); have t_n8 : (nI ((j15 / 10) - 1)).toInt = ((((j15 / 10) - 1) : Nat) : Int) := nI_toInt (by omega); omega) hcut) hP hD hS ls (lv_sub hl [0, 1, 2, 3, 4, 5] rfl)
                      refine lv_if_ne (tgt := 107) hx hb dX11_layBest_92 rfl (fun c48 => ?_) (fun c48 => ?_)
                      · skip
                        have tn1183_ : nIT (j15 % 10) := fun _ => nI_toInt (by first | omega | (have t := neI c48; omega))
                        have n49 : (j15 % 10) ≠ 0 := by have t := neI c48; rw [show (nI (j15 % 10)).toInt = ((j15 % 10 : Nat) : Int) from tn1183_ ()] at t; have : (0 : Int32).toInt = 0 := qI_0; omega
                        refine lv_ldc2 (v := 4000000000000000000) hx hb hown (hg _ wt_1154) dX11_layBest_107 ?_
                        exact cut110_26 4000000000000000000 _ _ (by first | exact Or.inl ⟨by omega, rfl⟩ | exact Or.inr ⟨by omega, rfl⟩) hP hD hS ls (lv_sub hl [0, 1, 2, 3, 4] rfl)
                      · skip
                        have tn1184_ : nIT (j15 % 10) := fun _ => nI_toInt (by first | omega | (have t := eqI c48; omega))
                        have n50 : (j15 % 10) = 0 := by have t := eqI c48; rw [show (nI (j15 % 10)).toInt = ((j15 % 10 : Nat) : Int) from tn1184_ ()] at t; have : (0 : Int32).toInt = 0 := qI_0; omega
                        refine lv_aload_n hx hb dX11_layBest_95 rfl (lv_at hl 3 rfl) ?_
                        refine va_get (D := (dC, dI)) (ci := 11) (v := .int (nI N)) (C := RX11) (T := TX11) (N := 35) hx hb hg inG11 hown hK.1 hP 0 rfl rfl 1 (Nat.le_of_ble_eq_true rfl) (hg _ wt_879) (fun _ h9 => h9) rfl dX11_layBest_96 ?_
                        refine lv_iload_n hx hb dX11_layBest_99 rfl (lv_at hl 2 rfl) ?_
                        refine lv_isub hx hb dX11_layBest_100 ?_
                        refine lv_cg (y := nI (N - j8)) (by exact pk_sub (by have t_hj5 := hj5; have t_n7 := n7; have t_hj11 := hj11; have t_n14 := n14; have t_hj19 := hj19; have t_n22 := n22; have t_n24 := n24; have t_n50 := n50; have t_n0 : (nI N).toInt = (N : Int) := tn1168_ (); have t_n1 : (nI B).toInt = (B : Int) := tn1169_ (); have t_n2 : (nI T).toInt = (T : Int) := tn1170_ (); have t_n3 : (nI S).toInt = (S : Int) := tn1171_ (); have t_n4 : (nI M).toInt = (M : Int) := tn1172_ (); have t_n5 : (nI j1).toInt = (j1 : Int) := tn1173_ (); have t_n6 : (nI j8).toInt = (j8 : Int) := tn1175_ (); have t_n7 : (nI j15).toInt = (j15 : Int) := tn1177_ (); have t_n8 : (nI ((j15 / 10) - 1)).toInt = ((((j15 / 10) - 1) : Nat) : Int) := nI_toInt (by omega); omega)) ?_
                        have hPc := hP.sub (ws' := []) [] rfl
                        refine va_calll (va_runS (As := [.int (nI (N - j8))]) (rest := [.int (nI ((70 * j8) + j15)), .ref be]) ⟨hx, hb, hml, hown, hg⟩ (c_X11_power l dC dI G _ (N - j8) (by first | omega | (have t_hj5 := hj5; have t_n7 := n7; have t_hj11 := hj11; have t_n14 := n14; have t_hj19 := hj19; have t_n22 := n22; have t_n24 := n24; have t_n50 := n50; have t_n0 : (nI N).toInt = (N : Int) := tn1168_ (); have t_n1 : (nI B).toInt = (B : Int) := tn1169_ (); have t_n2 : (nI T).toInt = (T : Int) := tn1170_ (); have t_n3 : (nI S).toInt = (S : Int) := tn1171_ (); have t_n4 : (nI M).toInt = (M : Int) := tn1172_ (); have t_n5 : (nI j1).toInt = (j1 : Int) := tn1173_ (); have t_n6 : (nI j8).toInt = (j8 : Int) := tn1175_ (); have t_n7 : (nI j15).toInt = (j15 : Int) := tn1177_ (); have t_n8 : (nI ((j15 / 10) - 1)).toInt = ((((j15 / 10) - 1) : Nat) : Int) := nI_toInt (by omega); omega))) (kwS hg mfX11_power wt_1131 ⟨Nat.le_of_ble_eq_true rfl, Nat.le_of_ble_eq_true rfl⟩) (preSR hK hPc) rfl rfl hl.1 rfl (lv_room (Nat.le_of_ble_eq_true rfl)) dX11_layBest_101 ⟨Nat.le_of_ble_eq_true rfl, Nat.le_of_ble_eq_true rfl⟩) hS (fun q h1 h2 => absurd h2 (Nat.not_le.mpr h1)) (fun q h => hA q (Nat.le_trans hS.1 h)) (fun r51 ur51 t H1 locs ht hvm w52 hB hz1 hk1 hS => ?_)
                        have hP := keepR hP hk1
                        obtain ⟨w52, w52x⟩ := w52
                        subst w52
                        refine lv_goto (tgt := 110) hx hb dX11_layBest_104 rfl ?_
                        exact cut110_26 (powF (N - j8)) _ _ (by first | exact Or.inl ⟨by omega, rfl⟩ | exact Or.inr ⟨by omega, rfl⟩) hP hD hS ls (lv_sub hl [0, 1, 2, 3, 4] rfl)
                    · skip
                      have n53 : j15 < 10 := by have t := nleI c23; rw [show (nI (j15)).toInt = ((j15 : Nat) : Int) from tn1177_ ()] at t; have : (10 : Int32).toInt = 10 := qI_10; omega
                      refine lv_bipush (v := (-4)) hx hb dX11_layBest_65 rfl ?_
                      refine lv_goto (tgt := 76) hx hb dX11_layBest_67 rfl ?_
                      refine lv_istore (lv' := [(4, .int (-4)), (3, .int (nI j15)), (2, .int (nI j8)), (0, .ref h0), (1, .int (-4))]) hx hb dX11_layBest_76 hl (by decide) rfl (fun ls hl => ?_)
                      refine lv_aload_n hx hb dX11_layBest_78 rfl (lv_at hl 3 rfl) ?_
                      refine va_get (D := (dC, dI)) (ci := 11) (v := .ref be) (C := RX11) (T := TX11) (N := 35) hx hb hg inG11 hown hK.1 hP 0 rfl rfl 23 (Nat.le_of_ble_eq_true rfl) (hg _ wt_901) (fun _ h9 => h9) rfl dX11_layBest_79 ?_
                      refine lv_bipush (v := 70) hx hb dX11_layBest_82 rfl ?_
                      refine lv_iload_n hx hb dX11_layBest_84 rfl (lv_at hl 2 rfl) ?_
                      refine lv_imul hx hb dX11_layBest_85 ?_
                      refine lv_cg (y := nI (70 * j8)) (by rw [show (70 : Int32) = nI 70 from rfl]; exact pk_mul _ _) ?_
                      refine lv_iload_n hx hb dX11_layBest_86 rfl (lv_at hl 1 rfl) ?_
                      refine lv_iadd hx hb dX11_layBest_87 ?_
                      refine lv_cg (y := nI ((70 * j8) + j15)) (by exact nI_add _ _) ?_
                      refine lv_iload_n hx hb dX11_layBest_88 rfl (lv_at hl 1 rfl) ?_
                      refine lv_bipush (v := 10) hx hb dX11_layBest_89 rfl ?_
                      refine lv_irem hx hb dX11_layBest_91 (by decide) ?_
                      refine lv_cg (y := nI (j15 % 10)) (by rw [show (10 : Int32) = nI 10 from rfl]; exact pk_rem (by omega) (by omega) (by omega)) ?_
                      have cut110_55 : ∀ (y54 : Int64) (H : Heap) (locs : List Loc), ((j15 % 10 = 0 ∧ y54 = powF (N - j8)) ∨ (j15 % 10 ≠ 0 ∧ y54 = 4000000000000000000)) → va_P (dC, dI) vwCl [(h0, .inr (11, [.ref st, .int (nI N), .int (nI B), .ref rp, .int vrs, .int vrb, .int vhs, .int vca, .int vxs, .int vxb, .ref tp, .int (nI T), .int vfa, .int vbr, .int vba, .int vsp, .int vhe, .int vtk, .int vva, .ref cu, .ref lt, .ref od, .ref th, .ref be, .ref ln, .int (nI S), .ref ma, .int (nI M), .ref ah, .ref bh, .ref ik, .ref la, .ref lg, .ref ce, .int vto])), (st, .inl (G 0, 196, .inl fst)), (be, .inl (G 1, 770, .inr (.inl g16)))] H → va_D A [(h0, .inr (11, [.ref st, .int (nI N), .int (nI B), .ref rp, .int vrs, .int vrb, .int vhs, .int vca, .int vxs, .int vxb, .ref tp, .int (nI T), .int vfa, .int vbr, .int vba, .int vsp, .int vhe, .int vtk, .int vva, .ref cu, .ref lt, .ref od, .ref th, .ref be, .ref ln, .int (nI S), .ref ma, .int (nI M), .ref ah, .ref bh, .ref ik, .ref la, .ref lg, .ref ce, .int vto])), (st, .inl (G 0, 196, .inl fst)), (be, .inl (G 1, 770, .inr (.inl g16)))] → va_S A s.heap H locs → ∀ (ls : Array Slot), lv_has ls 8 [(4, .int (-4)), (3, .int (nI j15)), (2, .int (nI j8)), (0, .ref h0), (1, .int (-4))] → W p l e (headSpec (Cond.code yX11_layBest cX11_layBest 8 none :: GT) ({ frames := 3, cells := 0, slots := 0, locals := 75 } : Room)).room s m ([.ref h0, .int (-4)] : List Value).toArray below meth c H locs 0 0 (MQ below (va_Qv (fun (u : (Nat → Int64)) => match u with | obe => RI fst N B 0 obe) (fun (u : (Nat → Int64)) (t : State) => match u with | obe => va_P (dC, dI) vwCl [(h0, .inr (11, [.ref st, .int (nI N), .int (nI B), .ref rp, .int vrs, .int vrb, .int vhs, .int vca, .int vxs, .int vxb, .ref tp, .int (nI T), .int vfa, .int vbr, .int vba, .int vsp, .int vhe, .int vtk, .int vva, .ref cu, .ref lt, .ref od, .ref th, .ref be, .ref ln, .int (nI S), .ref ma, .int (nI M), .ref ah, .ref bh, .ref ik, .ref la, .ref lg, .ref ce, .int vto])), (st, .inl (G 0, 196, .inl fst)), (be, .inl (G 1, 770, .inr (.inl obe)))] t.heap ∧ va_D A [(h0, .inr (11, [.ref st, .int (nI N), .int (nI B), .ref rp, .int vrs, .int vrb, .int vhs, .int vca, .int vxs, .int vxb, .ref tp, .int (nI T), .int vfa, .int vbr, .int vba, .int vsp, .int vhe, .int vtk, .int vva, .ref cu, .ref lt, .ref od, .ref th, .ref be, .ref ln, .int (nI S), .ref ma, .int (nI M), .ref ah, .ref bh, .ref ik, .ref la, .ref lg, .ref ce, .int vto])), (st, .inl (G 0, 196, .inl fst)), (be, .inl (G 1, 770, .inr (.inl obe)))]) A) ([.ref h0, .int (-4)] : List Value).toArray s 0 0 A) (F0 m 110 ls [.long y54, .int (nI ((70 * j8) + j15)), .ref be]) := by
                        intro y54 H locs hcut hP hD hS ls hl
                        refine va_last hx hb hK.1 hP hD hS 2 1 rfl rfl (vp_in_nI (by first | omega | (have t_hj5 := hj5; have t_n7 := n7; have t_hj11 := hj11; have t_n14 := n14; have t_hj19 := hj19; have t_n22 := n22; have t_n53 := n53; have t_n0 : (nI N).toInt = (N : Int) := tn1168_ (); have t_n1 : (nI B).toInt = (B : Int) := tn1169_ (); have t_n2 : (nI T).toInt = (T : Int) := tn1170_ (); have t_n3 : (nI S).toInt = (S : Int) := tn1171_ (); have t_n4 : (nI M).toInt = (M : Int) := tn1172_ (); have t_n5 : (nI j1).toInt = (j1 : Int) := tn1173_ (); have t_n6 : (nI j8).toInt = (j8 : Int) := tn1175_ (); have t_n7 : (nI j15).toInt = (j15 : Int) := tn1177_ (); omega)) (by decide)) dX11_layBest_110 (fun H locs hP hD hS => ?_)
                        rw [nI_clamp (by omega)] at hP hD
                        refine lv_iconst (v := 0) hx hb dX11_layBest_111 rfl ?_
                        refine lv_istore (lv' := [(5, .int 0), (4, .int (-4)), (3, .int (nI j15)), (2, .int (nI j8)), (0, .ref h0), (1, .int (-4))]) hx hb dX11_layBest_112 hl (by decide) rfl (fun ls hl => ?_)
                        have loop114_58 : ∀ (nf j56 : Nat), B + 1 ≤ j56 + nf → j56 ≤ B → ∀ (g57 : Nat → Int64) (H : Heap) (locs : List Loc), BI fst N B j8 j15 j56 g57 → va_P (dC, dI) vwCl [(h0, .inr (11, [.ref st, .int (nI N), .int (nI B), .ref rp, .int vrs, .int vrb, .int vhs, .int vca, .int vxs, .int vxb, .ref tp, .int (nI T), .int vfa, .int vbr, .int vba, .int vsp, .int vhe, .int vtk, .int vva, .ref cu, .ref lt, .ref od, .ref th, .ref be, .ref ln, .int (nI S), .ref ma, .int (nI M), .ref ah, .ref bh, .ref ik, .ref la, .ref lg, .ref ce, .int vto])), (st, .inl (G 0, 196, .inl fst)), (be, .inl (G 1, 770, .inr (.inl g57)))] H → va_D A [(h0, .inr (11, [.ref st, .int (nI N), .int (nI B), .ref rp, .int vrs, .int vrb, .int vhs, .int vca, .int vxs, .int vxb, .ref tp, .int (nI T), .int vfa, .int vbr, .int vba, .int vsp, .int vhe, .int vtk, .int vva, .ref cu, .ref lt, .ref od, .ref th, .ref be, .ref ln, .int (nI S), .ref ma, .int (nI M), .ref ah, .ref bh, .ref ik, .ref la, .ref lg, .ref ce, .int vto])), (st, .inl (G 0, 196, .inl fst)), (be, .inl (G 1, 770, .inr (.inl g57)))] → va_S A s.heap H locs → ∀ (ls : Array Slot), lv_has ls 8 [(5, .int (nI j56)), (4, .int (-4)), (3, .int (nI j15)), (2, .int (nI j8)), (0, .ref h0), (1, .int (-4))] → W p l e (headSpec (Cond.code yX11_layBest cX11_layBest 8 none :: GT) ({ frames := 3, cells := 0, slots := 0, locals := 75 } : Room)).room s m ([.ref h0, .int (-4)] : List Value).toArray below meth c H locs 0 0 (MQ below (va_Qv (fun (u : (Nat → Int64)) => match u with | obe => RI fst N B 0 obe) (fun (u : (Nat → Int64)) (t : State) => match u with | obe => va_P (dC, dI) vwCl [(h0, .inr (11, [.ref st, .int (nI N), .int (nI B), .ref rp, .int vrs, .int vrb, .int vhs, .int vca, .int vxs, .int vxb, .ref tp, .int (nI T), .int vfa, .int vbr, .int vba, .int vsp, .int vhe, .int vtk, .int vva, .ref cu, .ref lt, .ref od, .ref th, .ref be, .ref ln, .int (nI S), .ref ma, .int (nI M), .ref ah, .ref bh, .ref ik, .ref la, .ref lg, .ref ce, .int vto])), (st, .inl (G 0, 196, .inl fst)), (be, .inl (G 1, 770, .inr (.inl obe)))] t.heap ∧ va_D A [(h0, .inr (11, [.ref st, .int (nI N), .int (nI B), .ref rp, .int vrs, .int vrb, .int vhs, .int vca, .int vxs, .int vxb, .ref tp, .int (nI T), .int vfa, .int vbr, .int vba, .int vsp, .int vhe, .int vtk, .int vva, .ref cu, .ref lt, .ref od, .ref th, .ref be, .ref ln, .int (nI S), .ref ma, .int (nI M), .ref ah, .ref bh, .ref ik, .ref la, .ref lg, .ref ce, .int vto])), (st, .inl (G 0, 196, .inl fst)), (be, .inl (G 1, 770, .inr (.inl obe)))]) A) ([.ref h0, .int (-4)] : List Value).toArray s 0 0 A) (F0 m 114 ls []) := by
                          intro nf
                          induction nf with
                          | zero => intro j56 h1 h2; exact absurd h1 (by omega)
                          | succ nf ih114_58 =>
                            intro j56 hn59 hj60 g57 H locs hinv hP hD hS ls hl
                            refine lv_iload hx hb dX11_layBest_114 (lv_at hl 0 rfl) ?_
                            refine lv_aload_n hx hb dX11_layBest_116 rfl (lv_at hl 4 rfl) ?_
                            refine va_get (D := (dC, dI)) (ci := 11) (v := .int (nI B)) (C := RX11) (T := TX11) (N := 35) hx hb hg inG11 hown hK.1 hP 0 rfl rfl 2 (Nat.le_of_ble_eq_true rfl) (hg _ wt_880) (fun _ h9 => h9) rfl dX11_layBest_117 ?_
                            refine lv_icmp_ge (tgt := 223) hx hb dX11_layBest_120 rfl (fun c61 => ?_) (fun c61 => ?_)
                            · skip
                              have tn1185_ : nIT j56 := fun _ => nI_toInt (by first | omega | (have t := leI c61; omega))
                              have n62 : B ≤ j56 := by have t := leI c61; rw [show (nI (j56)).toInt = ((j56 : Nat) : Int) from tn1185_ ()] at t; rw [show (nI (B)).toInt = ((B : Nat) : Int) from tn1169_ ()] at t; omega
                              refine lv_iinc (v := nI (j15 + 1)) (lv' := [(3, .int (nI (j15 + 1))), (5, .int (nI j56)), (4, .int (-4)), (2, .int (nI j8)), (0, .ref h0), (1, .int (-4))]) hx hb dX11_layBest_223 hl (k := 2) rfl (by rw [show Int32.ofInt 1 = nI 1 from by decide]; exact nI_add _ _) (by decide) rfl (fun ls hl => ?_)
                              refine lv_goto (tgt := 53) hx hb dX11_layBest_226 rfl ?_
                              exact ih53_17 (j15 + 1) (by omega) (by omega) g57 _ _ (BI.out (by have t_hj5 := hj5; have t_n7 := n7; have t_hj11 := hj11; have t_n14 := n14; have t_hj19 := hj19; have t_n22 := n22; have t_n53 := n53; have t_hj60 := hj60; have t_n62 := n62; have t_n0 : (nI N).toInt = (N : Int) := tn1168_ (); have t_n1 : (nI B).toInt = (B : Int) := tn1169_ (); have t_n2 : (nI T).toInt = (T : Int) := tn1170_ (); have t_n3 : (nI S).toInt = (S : Int) := tn1171_ (); have t_n4 : (nI M).toInt = (M : Int) := tn1172_ (); have t_n5 : (nI j1).toInt = (j1 : Int) := tn1173_ (); have t_n6 : (nI j8).toInt = (j8 : Int) := tn1175_ (); have t_n7 : (nI j15).toInt = (j15 : Int) := tn1177_ (); have t_n8 : (nI j56).toInt = (j56 : Int) := tn1185_ (); omega) (by have t_hj5 := hj5; have t_n7 := n7; have t_hj11 := hj11; have t_n14 := n14; have t_hj19 := hj19; have t_n22 := n22; have t_n53 := n53; have t_hj60 := hj60; have t_n62 := n62; have t_n0 : (nI N).toInt = (N : Int) := tn1168_ (); have t_n1 : (nI B).toInt = (B : Int) := tn1169_ (); have t_n2 : (nI T).toInt = (T : Int) := tn1170_ (); have t_n3 : (nI S).toInt = (S : Int) := tn1171_ (); have t_n4 : (nI M).toInt = (M : Int) := tn1172_ (); have t_n5 : (nI j1).toInt = (j1 : Int) := tn1173_ (); have t_n6 : (nI j8).toInt = (j8 : Int) := tn1175_ (); have t_n7 : (nI j15).toInt = (j15 : Int) := tn1177_ (); have t_n8 : (nI j56).toInt = (j56 : Int) := tn1185_ (); omega) (by have t_hj5 := hj5; have t_n7 := n7; have t_hj11 := hj11; have t_n14 := n14; have t_hj19 := hj19; have t_n22 := n22; have t_n53 := n53; have t_hj60 := hj60; have t_n62 := n62; have t_n0 : (nI N).toInt = (N : Int) := tn1168_ (); have t_n1 : (nI B).toInt = (B : Int) := tn1169_ (); have t_n2 : (nI T).toInt = (T : Int) := tn1170_ (); have t_n3 : (nI S).toInt = (S : Int) := tn1171_ (); have t_n4 : (nI M).toInt = (M : Int) := tn1172_ (); have t_n5 : (nI j1).toInt = (j1 : Int) := tn1173_ (); have t_n6 : (nI j8).toInt = (j8 : Int) := tn1175_ (); have t_n7 : (nI j15).toInt = (j15 : Int) := tn1177_ (); have t_n8 : (nI j56).toInt = (j56 : Int) := tn1185_ (); omega) (by have t_hj5 := hj5; have t_n7 := n7; have t_hj11 := hj11; have t_n14 := n14; have t_hj19 := hj19; have t_n22 := n22; have t_n53 := n53; have t_hj60 := hj60; have t_n62 := n62; have t_n0 : (nI N).toInt = (N : Int) := tn1168_ (); have t_n1 : (nI B).toInt = (B : Int) := tn1169_ (); have t_n2 : (nI T).toInt = (T : Int) := tn1170_ (); have t_n3 : (nI S).toInt = (S : Int) := tn1171_ (); have t_n4 : (nI M).toInt = (M : Int) := tn1172_ (); have t_n5 : (nI j1).toInt = (j1 : Int) := tn1173_ (); have t_n6 : (nI j8).toInt = (j8 : Int) := tn1175_ (); have t_n7 : (nI j15).toInt = (j15 : Int) := tn1177_ (); have t_n8 : (nI j56).toInt = (j56 : Int) := tn1185_ (); omega) hinv) hP hD hS ls (lv_sub hl [0, 3, 4, 5] rfl)
                            · skip
                              have tn1186_ : nIT j56 := fun _ => nI_toInt (by first | omega | (have t := nleI c61; omega))
                              have n63 : j56 < B := by have t := nleI c61; rw [show (nI (j56)).toInt = ((j56 : Nat) : Int) from tn1186_ ()] at t; rw [show (nI (B)).toInt = ((B : Nat) : Int) from tn1169_ ()] at t; omega
                              refine lv_iload_n hx hb dX11_layBest_123 rfl (lv_at hl 2 rfl) ?_
                              refine lv_bipush (v := 10) hx hb dX11_layBest_124 rfl ?_
                              refine lv_irem hx hb dX11_layBest_126 (by decide) ?_
                              refine lv_cg (y := nI (j15 % 10)) (by rw [show (10 : Int32) = nI 10 from rfl]; exact pk_rem (by omega) (by omega) (by omega)) ?_
                              refine lv_if_le (tgt := 223) hx hb dX11_layBest_127 rfl (fun c64 => ?_) (fun c64 => ?_)
                              · skip
                                have tn1187_ : nIT (j15 % 10) := fun _ => nI_toInt (by first | omega | (have t := leI c64; omega))
                                have n65 : (j15 % 10) ≤ 0 := by have t := leI c64; rw [show (nI (j15 % 10)).toInt = ((j15 % 10 : Nat) : Int) from tn1187_ ()] at t; have : (0 : Int32).toInt = 0 := qI_0; omega
                                refine lv_iinc (v := nI (j15 + 1)) (lv' := [(3, .int (nI (j15 + 1))), (5, .int (nI j56)), (4, .int (-4)), (2, .int (nI j8)), (0, .ref h0), (1, .int (-4))]) hx hb dX11_layBest_223 hl (k := 2) rfl (by rw [show Int32.ofInt 1 = nI 1 from by decide]; exact nI_add _ _) (by decide) rfl (fun ls hl => ?_)
                                refine lv_goto (tgt := 53) hx hb dX11_layBest_226 rfl ?_
                                exact ih53_17 (j15 + 1) (by omega) (by omega) g57 _ _ (BI.out (by have t_hj5 := hj5; have t_n7 := n7; have t_hj11 := hj11; have t_n14 := n14; have t_hj19 := hj19; have t_n22 := n22; have t_n53 := n53; have t_hj60 := hj60; have t_n63 := n63; have t_n65 := n65; have t_n0 : (nI N).toInt = (N : Int) := tn1168_ (); have t_n1 : (nI B).toInt = (B : Int) := tn1169_ (); have t_n2 : (nI T).toInt = (T : Int) := tn1170_ (); have t_n3 : (nI S).toInt = (S : Int) := tn1171_ (); have t_n4 : (nI M).toInt = (M : Int) := tn1172_ (); have t_n5 : (nI j1).toInt = (j1 : Int) := tn1173_ (); have t_n6 : (nI j8).toInt = (j8 : Int) := tn1175_ (); have t_n7 : (nI j15).toInt = (j15 : Int) := tn1177_ (); have t_n8 : (nI j56).toInt = (j56 : Int) := tn1186_ (); omega) (by have t_hj5 := hj5; have t_n7 := n7; have t_hj11 := hj11; have t_n14 := n14; have t_hj19 := hj19; have t_n22 := n22; have t_n53 := n53; have t_hj60 := hj60; have t_n63 := n63; have t_n65 := n65; have t_n0 : (nI N).toInt = (N : Int) := tn1168_ (); have t_n1 : (nI B).toInt = (B : Int) := tn1169_ (); have t_n2 : (nI T).toInt = (T : Int) := tn1170_ (); have t_n3 : (nI S).toInt = (S : Int) := tn1171_ (); have t_n4 : (nI M).toInt = (M : Int) := tn1172_ (); have t_n5 : (nI j1).toInt = (j1 : Int) := tn1173_ (); have t_n6 : (nI j8).toInt = (j8 : Int) := tn1175_ (); have t_n7 : (nI j15).toInt = (j15 : Int) := tn1177_ (); have t_n8 : (nI j56).toInt = (j56 : Int) := tn1186_ (); omega) (by have t_hj5 := hj5; have t_n7 := n7; have t_hj11 := hj11; have t_n14 := n14; have t_hj19 := hj19; have t_n22 := n22; have t_n53 := n53; have t_hj60 := hj60; have t_n63 := n63; have t_n65 := n65; have t_n0 : (nI N).toInt = (N : Int) := tn1168_ (); have t_n1 : (nI B).toInt = (B : Int) := tn1169_ (); have t_n2 : (nI T).toInt = (T : Int) := tn1170_ (); have t_n3 : (nI S).toInt = (S : Int) := tn1171_ (); have t_n4 : (nI M).toInt = (M : Int) := tn1172_ (); have t_n5 : (nI j1).toInt = (j1 : Int) := tn1173_ (); have t_n6 : (nI j8).toInt = (j8 : Int) := tn1175_ (); have t_n7 : (nI j15).toInt = (j15 : Int) := tn1177_ (); have t_n8 : (nI j56).toInt = (j56 : Int) := tn1186_ (); omega) (by have t_hj5 := hj5; have t_n7 := n7; have t_hj11 := hj11; have t_n14 := n14; have t_hj19 := hj19; have t_n22 := n22; have t_n53 := n53; have t_hj60 := hj60; have t_n63 := n63; have t_n65 := n65; have t_n0 : (nI N).toInt = (N : Int) := tn1168_ (); have t_n1 : (nI B).toInt = (B : Int) := tn1169_ (); have t_n2 : (nI T).toInt = (T : Int) := tn1170_ (); have t_n3 : (nI S).toInt = (S : Int) := tn1171_ (); have t_n4 : (nI M).toInt = (M : Int) := tn1172_ (); have t_n5 : (nI j1).toInt = (j1 : Int) := tn1173_ (); have t_n6 : (nI j8).toInt = (j8 : Int) := tn1175_ (); have t_n7 : (nI j15).toInt = (j15 : Int) := tn1177_ (); have t_n8 : (nI j56).toInt = (j56 : Int) := tn1186_ (); omega) hinv) hP hD hS ls (lv_sub hl [0, 3, 4, 5] rfl)
                              · skip
                                have tn1188_ : nIT (j15 % 10) := fun _ => nI_toInt (by first | omega | (have t := nleI c64; omega))
                                have n66 : 0 < (j15 % 10) := by have t := nleI c64; rw [show (nI (j15 % 10)).toInt = ((j15 % 10 : Nat) : Int) from tn1188_ ()] at t; have : (0 : Int32).toInt = 0 := qI_0; omega
                                refine lv_iload hx hb dX11_layBest_130 (lv_at hl 1 rfl) ?_
                                refine lv_bipush (v := (-4)) hx hb dX11_layBest_132 rfl ?_
                                refine lv_icmp_eq (tgt := 146) hx hb dX11_layBest_134 rfl (fun c67 => ?_) (fun c67 => ?_)
                                · skip
                                  refine lv_iload hx hb dX11_layBest_146 (lv_at hl 0 rfl) ?_
                                  refine lv_iload_n hx hb dX11_layBest_148 rfl (lv_at hl 5 rfl) ?_
                                  refine lv_icmp_ne (tgt := 158) hx hb dX11_layBest_149 rfl (fun c68 => ?_) (fun c68 => ?_)
                                  · skip
                                    refine lv_aload_n hx hb dX11_layBest_158 rfl (lv_at hl 4 rfl) ?_
                                    refine lv_iload_n hx hb dX11_layBest_159 rfl (lv_at hl 3 rfl) ?_
                                    refine lv_iload hx hb dX11_layBest_160 (lv_at hl 1 rfl) ?_
                                    refine lv_iload_n hx hb dX11_layBest_162 rfl (lv_at hl 2 rfl) ?_
                                    refine lv_bipush (v := 10) hx hb dX11_layBest_163 rfl ?_
                                    refine lv_irem hx hb dX11_layBest_165 (by decide) ?_
                                    refine lv_cg (y := nI (j15 % 10)) (by rw [show (10 : Int32) = nI 10 from rfl]; exact pk_rem (by omega) (by omega) (by omega)) ?_
                                    refine lv_iload hx hb dX11_layBest_166 (lv_at hl 0 rfl) ?_
                                    have hPc := hP.sub (ws' := [(h0, .inr (11, [.ref st, .int (nI N), .int (nI B), .ref rp, .int vrs, .int vrb, .int vhs, .int vca, .int vxs, .int vxb, .ref tp, .int (nI T), .int vfa, .int vbr, .int vba, .int vsp, .int vhe, .int vtk, .int vva, .ref cu, .ref lt, .ref od, .ref th, .ref be, .ref ln, .int (nI S), .ref ma, .int (nI M), .ref ah, .ref bh, .ref ik, .ref la, .ref lg, .ref ce, .int vto])), (st, .inl (G 0, 196, .inl fst)), (be, .inl (G 1, 770, .inr (.inl g57)))]) [0, 1, 2] rfl
                                    refine va_calll (va_runV (As := [.int (nI j8), .int (-4), .int (nI (j15 % 10)), .int (nI j56)]) (rest := []) ⟨hx, hb, hml, hown, hg⟩ (c_X11_byOneN l dC dI G _ h0 j8 (j15 % 10) j56 st N B rp tp T cu lt od th be ln S ma M ah bh ik la lg ce vrs vrb vhs vca vxs vxb vfa vbr vba vsp vhe vtk vva vto fst g57 hN hB_ hT_ hS0 hM_ (by first | omega | (have t_hj5 := hj5; have t_n7 := n7; have t_hj11 := hj11; have t_n14 := n14; have t_hj19 := hj19; have t_n22 := n22; have t_n53 := n53; have t_hj60 := hj60; have t_n63 := n63; have t_n66 := n66; have t_c67 := eqI c67; have t_c68 := neI c68; have : ((-4) : Int32).toInt = -4 := qI_m4; have t_n0 : (nI N).toInt = (N : Int) := tn1168_ (); have t_n1 : (nI B).toInt = (B : Int) := tn1169_ (); have t_n2 : (nI T).toInt = (T : Int) := tn1170_ (); have t_n3 : (nI S).toInt = (S : Int) := tn1171_ (); have t_n4 : (nI M).toInt = (M : Int) := tn1172_ (); have t_n5 : (nI j1).toInt = (j1 : Int) := tn1173_ (); have t_n6 : (nI j8).toInt = (j8 : Int) := tn1175_ (); have t_n7 : (nI j15).toInt = (j15 : Int) := tn1177_ (); have t_n8 : (nI j56).toInt = (j56 : Int) := tn1186_ (); have : ((-4) : Int32).toInt = -4 := qI_m4; omega)) (by first | omega | (have t_hj5 := hj5; have t_n7 := n7; have t_hj11 := hj11; have t_n14 := n14; have t_hj19 := hj19; have t_n22 := n22; have t_n53 := n53; have t_hj60 := hj60; have t_n63 := n63; have t_n66 := n66; have t_c67 := eqI c67; have t_c68 := neI c68; have : ((-4) : Int32).toInt = -4 := qI_m4; have t_n0 : (nI N).toInt = (N : Int) := tn1168_ (); have t_n1 : (nI B).toInt = (B : Int) := tn1169_ (); have t_n2 : (nI T).toInt = (T : Int) := tn1170_ (); have t_n3 : (nI S).toInt = (S : Int) := tn1171_ (); have t_n4 : (nI M).toInt = (M : Int) := tn1172_ (); have t_n5 : (nI j1).toInt = (j1 : Int) := tn1173_ (); have t_n6 : (nI j8).toInt = (j8 : Int) := tn1175_ (); have t_n7 : (nI j15).toInt = (j15 : Int) := tn1177_ (); have t_n8 : (nI j56).toInt = (j56 : Int) := tn1186_ (); have : ((-4) : Int32).toInt = -4 := qI_m4; omega)) (by first | omega | (have t_hj5 := hj5; have t_n7 := n7; have t_hj11 := hj11; have t_n14 := n14; have t_hj19 := hj19; have t_n22 := n22; have t_n53 := n53; have t_hj60 := hj60; have t_n63 := n63; have t_n66 := n66; have t_c67 := eqI c67; have t_c68 := neI c68; have : ((-4) : Int32).toInt = -4 := qI_m4; have t_n0 : (nI N).toInt = (N : Int) := tn1168_ (); have t_n1 : (nI B).toInt = (B : Int) := tn1169_ (); have t_n2 : (nI T).toInt = (T : Int) := tn1170_ (); have t_n3 : (nI S).toInt = (S : Int) := tn1171_ (); have t_n4 : (nI M).toInt = (M : Int) := tn1172_ (); have t_n5 : (nI j1).toInt = (j1 : Int) := tn1173_ (); have t_n6 : (nI j8).toInt = (j8 : Int) := tn1175_ (); have t_n7 : (nI j15).toInt = (j15 : Int) := tn1177_ (); have t_n8 : (nI j56).toInt = (j56 : Int) := tn1186_ (); have : ((-4) : Int32).toInt = -4 := qI_m4; omega))) (kwV hg mfX11_byOne wt_1155 ⟨Nat.le_of_ble_eq_true rfl, Nat.le_of_ble_eq_true rfl⟩) (preVR hK hPc (ci := 11) rfl rfl) rfl rfl hl.1 rfl (lv_room (Nat.le_of_ble_eq_true rfl)) dX11_layBest_168 ⟨Nat.le_of_ble_eq_true rfl, Nat.le_of_ble_eq_true rfl⟩) hS (fun q h1 h2 => absurd h2 (Nat.not_le.mpr h1)) (fun q h => hA q (Nat.le_trans hS.1 h)) (fun r69 ur69 t H1 locs ht hvm w70 hB hz1 hk1 hS => ?_)
                                    have hP := keepR hP hk1
                                    obtain ⟨w70, w70x⟩ := w70
                                    subst w70
                                    refine lv_lstore (lv' := [(6, .long (b1N fst g57 j8 (j15 % 10) j56)), (5, .int (nI j56)), (4, .int (-4)), (3, .int (nI j15)), (2, .int (nI j8)), (0, .ref h0), (1, .int (-4))]) hx hb dX11_layBest_171 hl (by decide) rfl (fun ls hl => ?_)
                                    refine lv_aload_n hx hb dX11_layBest_173 rfl (lv_at hl 5 rfl) ?_
                                    refine va_get (D := (dC, dI)) (ci := 11) (v := .ref be) (C := RX11) (T := TX11) (N := 35) hx hb hg inG11 hown hK.1 hP 0 rfl rfl 23 (Nat.le_of_ble_eq_true rfl) (hg _ wt_901) (fun _ h9 => h9) rfl dX11_layBest_174 ?_
                                    refine lv_bipush (v := 70) hx hb dX11_layBest_177 rfl ?_
                                    refine lv_iload_n hx hb dX11_layBest_179 rfl (lv_at hl 4 rfl) ?_
                                    refine lv_imul hx hb dX11_layBest_180 ?_
                                    refine lv_cg (y := nI (70 * j8)) (by rw [show (70 : Int32) = nI 70 from rfl]; exact pk_mul _ _) ?_
                                    refine lv_iload_n hx hb dX11_layBest_181 rfl (lv_at hl 3 rfl) ?_
                                    refine lv_iadd hx hb dX11_layBest_182 ?_
                                    refine lv_cg (y := nI ((70 * j8) + j15)) (by exact nI_add _ _) ?_
                                    refine lv_lload hx hb dX11_layBest_183 (lv_at hl 0 rfl) ?_
                                    refine lv_aload_n hx hb dX11_layBest_185 rfl (lv_at hl 5 rfl) ?_
                                    refine va_get (D := (dC, dI)) (ci := 11) (v := .ref be) (C := RX11) (T := TX11) (N := 35) hx hb hg inG11 hown hK.1 hP 0 rfl rfl 23 (Nat.le_of_ble_eq_true rfl) (hg _ wt_901) (fun _ h9 => h9) rfl dX11_layBest_186 ?_
                                    refine lv_bipush (v := 70) hx hb dX11_layBest_189 rfl ?_
                                    refine lv_iload_n hx hb dX11_layBest_191 rfl (lv_at hl 4 rfl) ?_
                                    refine lv_imul hx hb dX11_layBest_192 ?_
                                    refine lv_cg (y := nI (70 * j8)) (by rw [show (70 : Int32) = nI 70 from rfl]; exact pk_mul _ _) ?_
                                    refine lv_iload_n hx hb dX11_layBest_193 rfl (lv_at hl 3 rfl) ?_
                                    refine lv_iadd hx hb dX11_layBest_194 ?_
                                    refine lv_cg (y := nI ((70 * j8) + j15)) (by exact nI_add _ _) ?_
                                    refine va_lald hx hb hK.1 hP 2 1 rfl rfl (vp_in_nI (by first | omega | (have t_hj5 := hj5; have t_n7 := n7; have t_hj11 := hj11; have t_n14 := n14; have t_hj19 := hj19; have t_n22 := n22; have t_n53 := n53; have t_hj60 := hj60; have t_n63 := n63; have t_n66 := n66; have t_c67 := eqI c67; have t_c68 := neI c68; have : ((-4) : Int32).toInt = -4 := qI_m4; have t_n0 : (nI N).toInt = (N : Int) := tn1168_ (); have t_n1 : (nI B).toInt = (B : Int) := tn1169_ (); have t_n2 : (nI T).toInt = (T : Int) := tn1170_ (); have t_n3 : (nI S).toInt = (S : Int) := tn1171_ (); have t_n4 : (nI M).toInt = (M : Int) := tn1172_ (); have t_n5 : (nI j1).toInt = (j1 : Int) := tn1173_ (); have t_n6 : (nI j8).toInt = (j8 : Int) := tn1175_ (); have t_n7 : (nI j15).toInt = (j15 : Int) := tn1177_ (); have t_n8 : (nI j56).toInt = (j56 : Int) := tn1186_ (); omega)) (by decide)) dX11_layBest_195 ?_
                                    refine lv_cgl (y := g57 ((70 * j8) + j15)) (by rw [nI_clamp (by omega)]) ?_
                                    refine W.lcmp hx hb dX11_layBest_196 ?_
                                    refine lv_if_ge (tgt := 205) hx hb dX11_layBest_197 rfl (fun c71 => ?_) (fun c71 => ?_)
                                    · skip
                                      refine lv_aload_n hx hb dX11_layBest_205 rfl (lv_at hl 5 rfl) ?_
                                      refine va_get (D := (dC, dI)) (ci := 11) (v := .ref be) (C := RX11) (T := TX11) (N := 35) hx hb hg inG11 hown hK.1 hP 0 rfl rfl 23 (Nat.le_of_ble_eq_true rfl) (hg _ wt_901) (fun _ h9 => h9) rfl dX11_layBest_206 ?_
                                      refine lv_bipush (v := 70) hx hb dX11_layBest_209 rfl ?_
                                      refine lv_iload_n hx hb dX11_layBest_211 rfl (lv_at hl 4 rfl) ?_
                                      refine lv_imul hx hb dX11_layBest_212 ?_
                                      refine lv_cg (y := nI (70 * j8)) (by rw [show (70 : Int32) = nI 70 from rfl]; exact pk_mul _ _) ?_
                                      refine lv_iload_n hx hb dX11_layBest_213 rfl (lv_at hl 3 rfl) ?_
                                      refine lv_iadd hx hb dX11_layBest_214 ?_
                                      refine lv_cg (y := nI ((70 * j8) + j15)) (by exact nI_add _ _) ?_
                                      refine va_lald hx hb hK.1 hP 2 1 rfl rfl (vp_in_nI (by first | omega | (have t_hj5 := hj5; have t_n7 := n7; have t_hj11 := hj11; have t_n14 := n14; have t_hj19 := hj19; have t_n22 := n22; have t_n53 := n53; have t_hj60 := hj60; have t_n63 := n63; have t_n66 := n66; have t_c67 := eqI c67; have t_c68 := neI c68; have t_c71 := lcm_ge_t c71; have : ((-4) : Int32).toInt = -4 := qI_m4; have t_n0 : (nI N).toInt = (N : Int) := tn1168_ (); have t_n1 : (nI B).toInt = (B : Int) := tn1169_ (); have t_n2 : (nI T).toInt = (T : Int) := tn1170_ (); have t_n3 : (nI S).toInt = (S : Int) := tn1171_ (); have t_n4 : (nI M).toInt = (M : Int) := tn1172_ (); have t_n5 : (nI j1).toInt = (j1 : Int) := tn1173_ (); have t_n6 : (nI j8).toInt = (j8 : Int) := tn1175_ (); have t_n7 : (nI j15).toInt = (j15 : Int) := tn1177_ (); have t_n8 : (nI j56).toInt = (j56 : Int) := tn1186_ (); omega)) (by decide)) dX11_layBest_215 ?_
                                      refine lv_cgl (y := g57 ((70 * j8) + j15)) (by rw [nI_clamp (by omega)]) ?_
                                      refine va_last hx hb hK.1 hP hD hS 2 1 rfl rfl (vp_in_nI (by first | omega | (have t_hj5 := hj5; have t_n7 := n7; have t_hj11 := hj11; have t_n14 := n14; have t_hj19 := hj19; have t_n22 := n22; have t_n53 := n53; have t_hj60 := hj60; have t_n63 := n63; have t_n66 := n66; have t_c67 := eqI c67; have t_c68 := neI c68; have t_c71 := lcm_ge_t c71; have : ((-4) : Int32).toInt = -4 := qI_m4; have t_n0 : (nI N).toInt = (N : Int) := tn1168_ (); have t_n1 : (nI B).toInt = (B : Int) := tn1169_ (); have t_n2 : (nI T).toInt = (T : Int) := tn1170_ (); have t_n3 : (nI S).toInt = (S : Int) := tn1171_ (); have t_n4 : (nI M).toInt = (M : Int) := tn1172_ (); have t_n5 : (nI j1).toInt = (j1 : Int) := tn1173_ (); have t_n6 : (nI j8).toInt = (j8 : Int) := tn1175_ (); have t_n7 : (nI j15).toInt = (j15 : Int) := tn1177_ (); have t_n8 : (nI j56).toInt = (j56 : Int) := tn1186_ (); omega)) (by decide)) dX11_layBest_216 (fun H locs hP hD hS => ?_)
                                      rw [nI_clamp (by omega)] at hP hD
                                      refine lv_iinc (v := nI (j56 + 1)) (lv' := [(5, .int (nI (j56 + 1))), (6, .long (b1N fst g57 j8 (j15 % 10) j56)), (4, .int (-4)), (3, .int (nI j15)), (2, .int (nI j8)), (0, .ref h0), (1, .int (-4))]) hx hb dX11_layBest_217 hl (k := 1) rfl (by rw [show Int32.ofInt 1 = nI 1 from by decide]; exact nI_add _ _) (by decide) rfl (fun ls hl => ?_)
                                      refine lv_goto (tgt := 114) hx hb dX11_layBest_220 rfl ?_
                                      exact ih114_58 (j56 + 1) (by omega) (by omega) (vp_updL g57 ((70 * j8) + j15) (g57 ((70 * j8) + j15))) _ _ (BI.ge hst (by have t_hj5 := hj5; have t_n7 := n7; have t_hj11 := hj11; have t_n14 := n14; have t_hj19 := hj19; have t_n22 := n22; have t_n53 := n53; have t_hj60 := hj60; have t_n63 := n63; have t_n66 := n66; have t_c67 := eqI c67; have t_c68 := neI c68; have t_c71 := lcm_ge_t c71; have : ((-4) : Int32).toInt = -4 := qI_m4; have t_n0 : (nI N).toInt = (N : Int) := tn1168_ (); have t_n1 : (nI B).toInt = (B : Int) := tn1169_ (); have t_n2 : (nI T).toInt = (T : Int) := tn1170_ (); have t_n3 : (nI S).toInt = (S : Int) := tn1171_ (); have t_n4 : (nI M).toInt = (M : Int) := tn1172_ (); have t_n5 : (nI j1).toInt = (j1 : Int) := tn1173_ (); have t_n6 : (nI j8).toInt = (j8 : Int) := tn1175_ (); have t_n7 : (nI j15).toInt = (j15 : Int) := tn1177_ (); have t_n8 : (nI j56).toInt = (j56 : Int) := tn1186_ (); omega) (by have t_hj5 := hj5; have t_n7 := n7; have t_hj11 := hj11; have t_n14 := n14; have t_hj19 := hj19; have t_n22 := n22; have t_n53 := n53; have t_hj60 := hj60; have t_n63 := n63; have t_n66 := n66; have t_c67 := eqI c67; have t_c68 := neI c68; have t_c71 := lcm_ge_t c71; have : ((-4) : Int32).toInt = -4 := qI_m4; have t_n0 : (nI N).toInt = (N : Int) := tn1168_ (); have t_n1 : (nI B).toInt = (B : Int) := tn1169_ (); have t_n2 : (nI T).toInt = (T : Int) := tn1170_ (); have t_n3 : (nI S).toInt = (S : Int) := tn1171_ (); have t_n4 : (nI M).toInt = (M : Int) := tn1172_ (); have t_n5 : (nI j1).toInt = (j1 : Int) := tn1173_ (); have t_n6 : (nI j8).toInt = (j8 : Int) := tn1175_ (); have t_n7 : (nI j15).toInt = (j15 : Int) := tn1177_ (); have t_n8 : (nI j56).toInt = (j56 : Int) := tn1186_ (); omega) (by have t_hj5 := hj5; have t_n7 := n7; have t_hj11 := hj11; have t_n14 := n14; have t_hj19 := hj19; have t_n22 := n22; have t_n53 := n53; have t_hj60 := hj60; have t_n63 := n63; have t_n66 := n66; have t_c67 := eqI c67; have t_c68 := neI c68; have t_c71 := lcm_ge_t c71; have : ((-4) : Int32).toInt = -4 := qI_m4; have t_n0 : (nI N).toInt = (N : Int) := tn1168_ (); have t_n1 : (nI B).toInt = (B : Int) := tn1169_ (); have t_n2 : (nI T).toInt = (T : Int) := tn1170_ (); have t_n3 : (nI S).toInt = (S : Int) := tn1171_ (); have t_n4 : (nI M).toInt = (M : Int) := tn1172_ (); have t_n5 : (nI j1).toInt = (j1 : Int) := tn1173_ (); have t_n6 : (nI j8).toInt = (j8 : Int) := tn1175_ (); have t_n7 : (nI j15).toInt = (j15 : Int) := tn1177_ (); have t_n8 : (nI j56).toInt = (j56 : Int) := tn1186_ (); omega) (by have t_hj5 := hj5; have t_n7 := n7; have t_hj11 := hj11; have t_n14 := n14; have t_hj19 := hj19; have t_n22 := n22; have t_n53 := n53; have t_hj60 := hj60; have t_n63 := n63; have t_n66 := n66; have t_c67 := eqI c67; have t_c68 := neI c68; have t_c71 := lcm_ge_t c71; have : ((-4) : Int32).toInt = -4 := qI_m4; have t_n0 : (nI N).toInt = (N : Int) := tn1168_ (); have t_n1 : (nI B).toInt = (B : Int) := tn1169_ (); have t_n2 : (nI T).toInt = (T : Int) := tn1170_ (); have t_n3 : (nI S).toInt = (S : Int) := tn1171_ (); have t_n4 : (nI M).toInt = (M : Int) := tn1172_ (); have t_n5 : (nI j1).toInt = (j1 : Int) := tn1173_ (); have t_n6 : (nI j8).toInt = (j8 : Int) := tn1175_ (); have t_n7 : (nI j15).toInt = (j15 : Int) := tn1177_ (); have t_n8 : (nI j56).toInt = (j56 : Int) := tn1186_ (); omega) (by have t_hj5 := hj5; have t_n7 := n7; have t_hj11 := hj11; have t_n14 := n14; have t_hj19 := hj19; have t_n22 := n22; have t_n53 := n53; have t_hj60 := hj60; have t_n63 := n63; have t_n66 := n66; have t_c67 := eqI c67; have t_c68 := neI c68; have t_c71 := lcm_ge_t c71; have : ((-4) : Int32).toInt = -4 := qI_m4; have t_n0 : (nI N).toInt = (N : Int) := tn1168_ (); have t_n1 : (nI B).toInt = (B : Int) := tn1169_ (); have t_n2 : (nI T).toInt = (T : Int) := tn1170_ (); have t_n3 : (nI S).toInt = (S : Int) := tn1171_ (); have t_n4 : (nI M).toInt = (M : Int) := tn1172_ (); have t_n5 : (nI j1).toInt = (j1 : Int) := tn1173_ (); have t_n6 : (nI j8).toInt = (j8 : Int) := tn1175_ (); have t_n7 : (nI j15).toInt = (j15 : Int) := tn1177_ (); have t_n8 : (nI j56).toInt = (j56 : Int) := tn1186_ (); omega) (by have t_hj5 := hj5; have t_n7 := n7; have t_hj11 := hj11; have t_n14 := n14; have t_hj19 := hj19; have t_n22 := n22; have t_n53 := n53; have t_hj60 := hj60; have t_n63 := n63; have t_n66 := n66; have t_c67 := eqI c67; have t_c68 := neI c68; have t_c71 := lcm_ge_t c71; have : ((-4) : Int32).toInt = -4 := qI_m4; have t_n0 : (nI N).toInt = (N : Int) := tn1168_ (); have t_n1 : (nI B).toInt = (B : Int) := tn1169_ (); have t_n2 : (nI T).toInt = (T : Int) := tn1170_ (); have t_n3 : (nI S).toInt = (S : Int) := tn1171_ (); have t_n4 : (nI M).toInt = (M : Int) := tn1172_ (); have t_n5 : (nI j1).toInt = (j1 : Int) := tn1173_ (); have t_n6 : (nI j8).toInt = (j8 : Int) := tn1175_ (); have t_n7 : (nI j15).toInt = (j15 : Int) := tn1177_ (); have t_n8 : (nI j56).toInt = (j56 : Int) := tn1186_ (); omega) (by unfold b1; first | (rw [if_pos (by omega)]) | (rw [if_neg (by omega)])) (lcm_ge_t c71) hinv) hP hD hS ls (lv_sub hl [0, 2, 3, 4, 5, 6] rfl)
                                    · skip
                                      refine lv_lload hx hb dX11_layBest_200 (lv_at hl 0 rfl) ?_
                                      refine lv_goto (tgt := 216) hx hb dX11_layBest_202 rfl ?_
                                      refine va_last hx hb hK.1 hP hD hS 2 1 rfl rfl (vp_in_nI (by first | omega | (have t_hj5 := hj5; have t_n7 := n7; have t_hj11 := hj11; have t_n14 := n14; have t_hj19 := hj19; have t_n22 := n22; have t_n53 := n53; have t_hj60 := hj60; have t_n63 := n63; have t_n66 := n66; have t_c67 := eqI c67; have t_c68 := neI c68; have t_c71 := lcm_ge_f c71; have : ((-4) : Int32).toInt = -4 := qI_m4; have t_n0 : (nI N).toInt = (N : Int) := tn1168_ (); have t_n1 : (nI B).toInt = (B : Int) := tn1169_ (); have t_n2 : (nI T).toInt = (T : Int) := tn1170_ (); have t_n3 : (nI S).toInt = (S : Int) := tn1171_ (); have t_n4 : (nI M).toInt = (M : Int) := tn1172_ (); have t_n5 : (nI j1).toInt = (j1 : Int) := tn1173_ (); have t_n6 : (nI j8).toInt = (j8 : Int) := tn1175_ (); have t_n7 : (nI j15).toInt = (j15 : Int) := tn1177_ (); have t_n8 : (nI j56).toInt = (j56 : Int) := tn1186_ (); omega)) (by decide)) dX11_layBest_216 (fun H locs hP hD hS => ?_)
                                      rw [nI_clamp (by omega)] at hP hD
                                      refine lv_iinc (v := nI (j56 + 1)) (lv' := [(5, .int (nI (j56 + 1))), (6, .long (b1N fst g57 j8 (j15 % 10) j56)), (4, .int (-4)), (3, .int (nI j15)), (2, .int (nI j8)), (0, .ref h0), (1, .int (-4))]) hx hb dX11_layBest_217 hl (k := 1) rfl (by rw [show Int32.ofInt 1 = nI 1 from by decide]; exact nI_add _ _) (by decide) rfl (fun ls hl => ?_)
                                      refine lv_goto (tgt := 114) hx hb dX11_layBest_220 rfl ?_
                                      exact ih114_58 (j56 + 1) (by omega) (by omega) (vp_updL g57 ((70 * j8) + j15) (b1N fst g57 j8 (j15 % 10) j56)) _ _ (BI.lt hst (by have t_hj5 := hj5; have t_n7 := n7; have t_hj11 := hj11; have t_n14 := n14; have t_hj19 := hj19; have t_n22 := n22; have t_n53 := n53; have t_hj60 := hj60; have t_n63 := n63; have t_n66 := n66; have t_c67 := eqI c67; have t_c68 := neI c68; have t_c71 := lcm_ge_f c71; have : ((-4) : Int32).toInt = -4 := qI_m4; have t_n0 : (nI N).toInt = (N : Int) := tn1168_ (); have t_n1 : (nI B).toInt = (B : Int) := tn1169_ (); have t_n2 : (nI T).toInt = (T : Int) := tn1170_ (); have t_n3 : (nI S).toInt = (S : Int) := tn1171_ (); have t_n4 : (nI M).toInt = (M : Int) := tn1172_ (); have t_n5 : (nI j1).toInt = (j1 : Int) := tn1173_ (); have t_n6 : (nI j8).toInt = (j8 : Int) := tn1175_ (); have t_n7 : (nI j15).toInt = (j15 : Int) := tn1177_ (); have t_n8 : (nI j56).toInt = (j56 : Int) := tn1186_ (); omega) (by have t_hj5 := hj5; have t_n7 := n7; have t_hj11 := hj11; have t_n14 := n14; have t_hj19 := hj19; have t_n22 := n22; have t_n53 := n53; have t_hj60 := hj60; have t_n63 := n63; have t_n66 := n66; have t_c67 := eqI c67; have t_c68 := neI c68; have t_c71 := lcm_ge_f c71; have : ((-4) : Int32).toInt = -4 := qI_m4; have t_n0 : (nI N).toInt = (N : Int) := tn1168_ (); have t_n1 : (nI B).toInt = (B : Int) := tn1169_ (); have t_n2 : (nI T).toInt = (T : Int) := tn1170_ (); have t_n3 : (nI S).toInt = (S : Int) := tn1171_ (); have t_n4 : (nI M).toInt = (M : Int) := tn1172_ (); have t_n5 : (nI j1).toInt = (j1 : Int) := tn1173_ (); have t_n6 : (nI j8).toInt = (j8 : Int) := tn1175_ (); have t_n7 : (nI j15).toInt = (j15 : Int) := tn1177_ (); have t_n8 : (nI j56).toInt = (j56 : Int) := tn1186_ (); omega) (by have t_hj5 := hj5; have t_n7 := n7; have t_hj11 := hj11; have t_n14 := n14; have t_hj19 := hj19; have t_n22 := n22; have t_n53 := n53; have t_hj60 := hj60; have t_n63 := n63; have t_n66 := n66; have t_c67 := eqI c67; have t_c68 := neI c68; have t_c71 := lcm_ge_f c71; have : ((-4) : Int32).toInt = -4 := qI_m4; have t_n0 : (nI N).toInt = (N : Int) := tn1168_ (); have t_n1 : (nI B).toInt = (B : Int) := tn1169_ (); have t_n2 : (nI T).toInt = (T : Int) := tn1170_ (); have t_n3 : (nI S).toInt = (S : Int) := tn1171_ (); have t_n4 : (nI M).toInt = (M : Int) := tn1172_ (); have t_n5 : (nI j1).toInt = (j1 : Int) := tn1173_ (); have t_n6 : (nI j8).toInt = (j8 : Int) := tn1175_ (); have t_n7 : (nI j15).toInt = (j15 : Int) := tn1177_ (); have t_n8 : (nI j56).toInt = (j56 : Int) := tn1186_ (); omega) (by have t_hj5 := hj5; have t_n7 := n7; have t_hj11 := hj11; have t_n14 := n14; have t_hj19 := hj19; have t_n22 := n22; have t_n53 := n53; have t_hj60 := hj60; have t_n63 := n63; have t_n66 := n66; have t_c67 := eqI c67; have t_c68 := neI c68; have t_c71 := lcm_ge_f c71; have : ((-4) : Int32).toInt = -4 := qI_m4; have t_n0 : (nI N).toInt = (N : Int) := tn1168_ (); have t_n1 : (nI B).toInt = (B : Int) := tn1169_ (); have t_n2 : (nI T).toInt = (T : Int) := tn1170_ (); have t_n3 : (nI S).toInt = (S : Int) := tn1171_ (); have t_n4 : (nI M).toInt = (M : Int) := tn1172_ (); have t_n5 : (nI j1).toInt = (j1 : Int) := tn1173_ (); have t_n6 : (nI j8).toInt = (j8 : Int) := tn1175_ (); have t_n7 : (nI j15).toInt = (j15 : Int) := tn1177_ (); have t_n8 : (nI j56).toInt = (j56 : Int) := tn1186_ (); omega) (by have t_hj5 := hj5; have t_n7 := n7; have t_hj11 := hj11; have t_n14 := n14; have t_hj19 := hj19; have t_n22 := n22; have t_n53 := n53; have t_hj60 := hj60; have t_n63 := n63; have t_n66 := n66; have t_c67 := eqI c67; have t_c68 := neI c68; have t_c71 := lcm_ge_f c71; have : ((-4) : Int32).toInt = -4 := qI_m4; have t_n0 : (nI N).toInt = (N : Int) := tn1168_ (); have t_n1 : (nI B).toInt = (B : Int) := tn1169_ (); have t_n2 : (nI T).toInt = (T : Int) := tn1170_ (); have t_n3 : (nI S).toInt = (S : Int) := tn1171_ (); have t_n4 : (nI M).toInt = (M : Int) := tn1172_ (); have t_n5 : (nI j1).toInt = (j1 : Int) := tn1173_ (); have t_n6 : (nI j8).toInt = (j8 : Int) := tn1175_ (); have t_n7 : (nI j15).toInt = (j15 : Int) := tn1177_ (); have t_n8 : (nI j56).toInt = (j56 : Int) := tn1186_ (); omega) (by have t_hj5 := hj5; have t_n7 := n7; have t_hj11 := hj11; have t_n14 := n14; have t_hj19 := hj19; have t_n22 := n22; have t_n53 := n53; have t_hj60 := hj60; have t_n63 := n63; have t_n66 := n66; have t_c67 := eqI c67; have t_c68 := neI c68; have t_c71 := lcm_ge_f c71; have : ((-4) : Int32).toInt = -4 := qI_m4; have t_n0 : (nI N).toInt = (N : Int) := tn1168_ (); have t_n1 : (nI B).toInt = (B : Int) := tn1169_ (); have t_n2 : (nI T).toInt = (T : Int) := tn1170_ (); have t_n3 : (nI S).toInt = (S : Int) := tn1171_ (); have t_n4 : (nI M).toInt = (M : Int) := tn1172_ (); have t_n5 : (nI j1).toInt = (j1 : Int) := tn1173_ (); have t_n6 : (nI j8).toInt = (j8 : Int) := tn1175_ (); have t_n7 : (nI j15).toInt = (j15 : Int) := tn1177_ (); have t_n8 : (nI j56).toInt = (j56 : Int) := tn1186_ (); omega) (by unfold b1; first | (rw [if_pos (by omega)]) | (rw [if_neg (by omega)])) hinv) hP hD hS ls (lv_sub hl [0, 2, 3, 4, 5, 6] rfl)
                                  · skip
                                    have t_hj5 := hj5
                                    have t_n7 := n7
                                    have t_hj11 := hj11
                                    have t_n14 := n14
                                    have t_hj19 := hj19
                                    have t_n22 := n22
                                    have t_n53 := n53
                                    have t_hj60 := hj60
                                    have t_n63 := n63
                                    have t_n66 := n66
                                    have t_c67 := eqI c67
                                    have t_c68 := eqI c68
                                    have : ((-4) : Int32).toInt = -4 := qI_m4
                                    have t_n0 : (nI N).toInt = (N : Int) := tn1168_ ()
                                    have t_n1 : (nI B).toInt = (B : Int) := tn1169_ ()
                                    have t_n2 : (nI T).toInt = (T : Int) := tn1170_ ()
                                    have t_n3 : (nI S).toInt = (S : Int) := tn1171_ ()
                                    have t_n4 : (nI M).toInt = (M : Int) := tn1172_ ()
                                    have t_n5 : (nI j1).toInt = (j1 : Int) := tn1173_ ()
                                    have t_n6 : (nI j8).toInt = (j8 : Int) := tn1175_ ()
                                    have t_n7 : (nI j15).toInt = (j15 : Int) := tn1177_ ()
                                    have t_n8 : (nI j56).toInt = (j56 : Int) := tn1186_ ()
                                    exfalso; omega
                                · skip
                                  exact absurd c67 (by decide)
                        exact loop114_58 (B + 1) 0 (by omega) (by omega) (vp_updL g16 ((70 * j8) + j15) y54) _ _ (BI.ini hinv (by have t_hj5 := hj5; have t_n7 := n7; have t_hj11 := hj11; have t_n14 := n14; have t_hj19 := hj19; have t_n22 := n22; have t_n53 := n53; have t_n0 : (nI N).toInt = (N : Int) := tn1168_ (); have t_n1 : (nI B).toInt = (B : Int) := tn1169_ (); have t_n2 : (nI T).toInt = (T : Int) := tn1170_ (); have t_n3 : (nI S).toInt = (S : Int) := tn1171_ (); have t_n4 : (nI M).toInt = (M : Int) := tn1172_ (); have t_n5 : (nI j1).toInt = (j1 : Int) := tn1173_ (); have t_n6 : (nI j8).toInt = (j8 : Int) := tn1175_ (); have t_n7 : (nI j15).toInt = (j15 : Int) := tn1177_ (); omega) hcut) hP hD hS ls (lv_sub hl [0, 1, 2, 3, 4, 5] rfl)
                      refine lv_if_ne (tgt := 107) hx hb dX11_layBest_92 rfl (fun c72 => ?_) (fun c72 => ?_)
                      · skip
                        have tn1189_ : nIT (j15 % 10) := fun _ => nI_toInt (by first | omega | (have t := neI c72; omega))
                        have n73 : (j15 % 10) ≠ 0 := by have t := neI c72; rw [show (nI (j15 % 10)).toInt = ((j15 % 10 : Nat) : Int) from tn1189_ ()] at t; have : (0 : Int32).toInt = 0 := qI_0; omega
                        refine lv_ldc2 (v := 4000000000000000000) hx hb hown (hg _ wt_1154) dX11_layBest_107 ?_
                        exact cut110_55 4000000000000000000 _ _ (by first | exact Or.inl ⟨by omega, rfl⟩ | exact Or.inr ⟨by omega, rfl⟩) hP hD hS ls (lv_sub hl [0, 1, 2, 3, 4] rfl)
                      · skip
                        have tn1190_ : nIT (j15 % 10) := fun _ => nI_toInt (by first | omega | (have t := eqI c72; omega))
                        have n74 : (j15 % 10) = 0 := by have t := eqI c72; rw [show (nI (j15 % 10)).toInt = ((j15 % 10 : Nat) : Int) from tn1190_ ()] at t; have : (0 : Int32).toInt = 0 := qI_0; omega
                        refine lv_aload_n hx hb dX11_layBest_95 rfl (lv_at hl 3 rfl) ?_
                        refine va_get (D := (dC, dI)) (ci := 11) (v := .int (nI N)) (C := RX11) (T := TX11) (N := 35) hx hb hg inG11 hown hK.1 hP 0 rfl rfl 1 (Nat.le_of_ble_eq_true rfl) (hg _ wt_879) (fun _ h9 => h9) rfl dX11_layBest_96 ?_
                        refine lv_iload_n hx hb dX11_layBest_99 rfl (lv_at hl 2 rfl) ?_
                        refine lv_isub hx hb dX11_layBest_100 ?_
                        refine lv_cg (y := nI (N - j8)) (by exact pk_sub (by have t_hj5 := hj5; have t_n7 := n7; have t_hj11 := hj11; have t_n14 := n14; have t_hj19 := hj19; have t_n22 := n22; have t_n53 := n53; have t_n74 := n74; have t_n0 : (nI N).toInt = (N : Int) := tn1168_ (); have t_n1 : (nI B).toInt = (B : Int) := tn1169_ (); have t_n2 : (nI T).toInt = (T : Int) := tn1170_ (); have t_n3 : (nI S).toInt = (S : Int) := tn1171_ (); have t_n4 : (nI M).toInt = (M : Int) := tn1172_ (); have t_n5 : (nI j1).toInt = (j1 : Int) := tn1173_ (); have t_n6 : (nI j8).toInt = (j8 : Int) := tn1175_ (); have t_n7 : (nI j15).toInt = (j15 : Int) := tn1177_ (); omega)) ?_
                        have hPc := hP.sub (ws' := []) [] rfl
                        refine va_calll (va_runS (As := [.int (nI (N - j8))]) (rest := [.int (nI ((70 * j8) + j15)), .ref be]) ⟨hx, hb, hml, hown, hg⟩ (c_X11_power l dC dI G _ (N - j8) (by first | omega | (have t_hj5 := hj5; have t_n7 := n7; have t_hj11 := hj11; have t_n14 := n14; have t_hj19 := hj19; have t_n22 := n22; have t_n53 := n53; have t_n74 := n74; have t_n0 : (nI N).toInt = (N : Int) := tn1168_ (); have t_n1 : (nI B).toInt = (B : Int) := tn1169_ (); have t_n2 : (nI T).toInt = (T : Int) := tn1170_ (); have t_n3 : (nI S).toInt = (S : Int) := tn1171_ (); have t_n4 : (nI M).toInt = (M : Int) := tn1172_ (); have t_n5 : (nI j1).toInt = (j1 : Int) := tn1173_ (); have t_n6 : (nI j8).toInt = (j8 : Int) := tn1175_ (); have t_n7 : (nI j15).toInt = (j15 : Int) := tn1177_ (); omega))) (kwS hg mfX11_power wt_1131 ⟨Nat.le_of_ble_eq_true rfl, Nat.le_of_ble_eq_true rfl⟩) (preSR hK hPc) rfl rfl hl.1 rfl (lv_room (Nat.le_of_ble_eq_true rfl)) dX11_layBest_101 ⟨Nat.le_of_ble_eq_true rfl, Nat.le_of_ble_eq_true rfl⟩) hS (fun q h1 h2 => absurd h2 (Nat.not_le.mpr h1)) (fun q h => hA q (Nat.le_trans hS.1 h)) (fun r75 ur75 t H1 locs ht hvm w76 hB hz1 hk1 hS => ?_)
                        have hP := keepR hP hk1
                        obtain ⟨w76, w76x⟩ := w76
                        subst w76
                        refine lv_goto (tgt := 110) hx hb dX11_layBest_104 rfl ?_
                        exact cut110_55 (powF (N - j8)) _ _ (by first | exact Or.inl ⟨by omega, rfl⟩ | exact Or.inr ⟨by omega, rfl⟩) hP hD hS ls (lv_sub hl [0, 1, 2, 3, 4] rfl)
              exact loop53_17 (70 + 1) 0 (by omega) (by omega) g9 _ _ hinv.k0 hP hD hS ls (lv_sub hl [0, 1, 2, 3] rfl)
        exact loop47_10 N (Nat.le_refl _) g2 _ _ (FI.out (by have t_hj5 := hj5; have t_n7 := n7; have t_n0 : (nI N).toInt = (N : Int) := tn1168_ (); have t_n1 : (nI B).toInt = (B : Int) := tn1169_ (); have t_n2 : (nI T).toInt = (T : Int) := tn1170_ (); have t_n3 : (nI S).toInt = (S : Int) := tn1171_ (); have t_n4 : (nI M).toInt = (M : Int) := tn1172_ (); have t_n5 : (nI j1).toInt = (j1 : Int) := tn1173_ (); omega) hinv) hP hD hS ls (lv_sub hl [0, 1, 2] rfl)
      · skip
        have tn1191_ : nIT j1 := fun _ => nI_toInt (by first | omega | (have t := nleI c6; omega))
        have n77 : j1 < 70 := by have t := nleI c6; rw [show (nI (j1)).toInt = ((j1 : Nat) : Int) from tn1191_ ()] at t; have : (70 : Int32).toInt = 70 := qI_70; omega
        refine lv_aload_n hx hb dX11_layBest_8 rfl (lv_at hl 1 rfl) ?_
        refine va_get (D := (dC, dI)) (ci := 11) (v := .ref be) (C := RX11) (T := TX11) (N := 35) hx hb hg inG11 hown hK.1 hP 0 rfl rfl 23 (Nat.le_of_ble_eq_true rfl) (hg _ wt_901) (fun _ h9 => h9) rfl dX11_layBest_9 ?_
        refine lv_bipush (v := 70) hx hb dX11_layBest_12 rfl ?_
        refine lv_aload_n hx hb dX11_layBest_14 rfl (lv_at hl 1 rfl) ?_
        refine va_get (D := (dC, dI)) (ci := 11) (v := .int (nI N)) (C := RX11) (T := TX11) (N := 35) hx hb hg inG11 hown hK.1 hP 0 rfl rfl 1 (Nat.le_of_ble_eq_true rfl) (hg _ wt_879) (fun _ h9 => h9) rfl dX11_layBest_15 ?_
        refine lv_imul hx hb dX11_layBest_18 ?_
        refine lv_cg (y := nI (70 * N)) (by rw [show (70 : Int32) = nI 70 from rfl]; exact pk_mul _ _) ?_
        refine lv_iload_n hx hb dX11_layBest_19 rfl (lv_at hl 0 rfl) ?_
        refine lv_iadd hx hb dX11_layBest_20 ?_
        refine lv_cg (y := nI ((70 * N) + j1)) (by exact nI_add _ _) ?_
        refine lv_iload_n hx hb dX11_layBest_21 rfl (lv_at hl 0 rfl) ?_
        refine lv_bipush (v := 10) hx hb dX11_layBest_22 rfl ?_
        refine lv_irem hx hb dX11_layBest_24 (by decide) ?_
        refine lv_cg (y := nI (j1 % 10)) (by rw [show (10 : Int32) = nI 10 from rfl]; exact pk_rem (by omega) (by omega) (by omega)) ?_
        refine lv_if_ne (tgt := 32) hx hb dX11_layBest_25 rfl (fun c78 => ?_) (fun c78 => ?_)
        · skip
          have tn1192_ : nIT (j1 % 10) := fun _ => nI_toInt (by first | omega | (have t := neI c78; omega))
          have n79 : (j1 % 10) ≠ 0 := by have t := neI c78; rw [show (nI (j1 % 10)).toInt = ((j1 % 10 : Nat) : Int) from tn1192_ ()] at t; have : (0 : Int32).toInt = 0 := qI_0; omega
          refine lv_lconst (v := 0) hx hb dX11_layBest_32 (by decide) ?_
          refine va_last hx hb hK.1 hP hD hS 2 1 rfl rfl (vp_in_nI (by first | omega | (have t_hj5 := hj5; have t_n77 := n77; have t_n79 := n79; have t_n0 : (nI N).toInt = (N : Int) := tn1168_ (); have t_n1 : (nI B).toInt = (B : Int) := tn1169_ (); have t_n2 : (nI T).toInt = (T : Int) := tn1170_ (); have t_n3 : (nI S).toInt = (S : Int) := tn1171_ (); have t_n4 : (nI M).toInt = (M : Int) := tn1172_ (); have t_n5 : (nI j1).toInt = (j1 : Int) := tn1191_ (); omega)) (by decide)) dX11_layBest_33 (fun H locs hP hD hS => ?_)
          rw [nI_clamp (by omega)] at hP hD
          refine lv_iinc (v := nI (j1 + 1)) (lv' := [(2, .int (nI (j1 + 1))), (0, .ref h0), (1, .int (-4))]) hx hb dX11_layBest_34 hl (k := 0) rfl (by rw [show Int32.ofInt 1 = nI 1 from by decide]; exact nI_add _ _) (by decide) rfl (fun ls hl => ?_)
          refine lv_goto (tgt := 2) hx hb dX11_layBest_37 rfl ?_
          exact ih2_3 (j1 + 1) (by omega) (by omega) (vp_updL g2 ((70 * N) + j1) 0) _ _ (FI.put hinv (by decide)) hP hD hS ls (lv_sub hl [0, 1, 2] rfl)
        · skip
          have tn1193_ : nIT (j1 % 10) := fun _ => nI_toInt (by first | omega | (have t := eqI c78; omega))
          have n80 : (j1 % 10) = 0 := by have t := eqI c78; rw [show (nI (j1 % 10)).toInt = ((j1 % 10 : Nat) : Int) from tn1193_ ()] at t; have : (0 : Int32).toInt = 0 := qI_0; omega
          refine lv_lconst (v := 1) hx hb dX11_layBest_28 (by decide) ?_
          refine lv_goto (tgt := 33) hx hb dX11_layBest_29 rfl ?_
          refine va_last hx hb hK.1 hP hD hS 2 1 rfl rfl (vp_in_nI (by first | omega | (have t_hj5 := hj5; have t_n77 := n77; have t_n80 := n80; have t_n0 : (nI N).toInt = (N : Int) := tn1168_ (); have t_n1 : (nI B).toInt = (B : Int) := tn1169_ (); have t_n2 : (nI T).toInt = (T : Int) := tn1170_ (); have t_n3 : (nI S).toInt = (S : Int) := tn1171_ (); have t_n4 : (nI M).toInt = (M : Int) := tn1172_ (); have t_n5 : (nI j1).toInt = (j1 : Int) := tn1191_ (); omega)) (by decide)) dX11_layBest_33 (fun H locs hP hD hS => ?_)
          rw [nI_clamp (by omega)] at hP hD
          refine lv_iinc (v := nI (j1 + 1)) (lv' := [(2, .int (nI (j1 + 1))), (0, .ref h0), (1, .int (-4))]) hx hb dX11_layBest_34 hl (k := 0) rfl (by rw [show Int32.ofInt 1 = nI 1 from by decide]; exact nI_add _ _) (by decide) rfl (fun ls hl => ?_)
          refine lv_goto (tgt := 2) hx hb dX11_layBest_37 rfl ?_
          exact ih2_3 (j1 + 1) (by omega) (by omega) (vp_updL g2 ((70 * N) + j1) 1) _ _ (FI.put hinv (by decide)) hP hD hS ls (lv_sub hl [0, 1, 2] rfl)
  exact loop2_3 (70 + 1) 0 (by omega) (by omega) fbe _ _ (fun k9 h9 => absurd h9 (Nat.not_lt_zero _)) hP hD hS ls (lv_sub hl [0, 1, 2] rfl)

set_option maxHeartbeats 1000000 in
set_option maxRecDepth 100000 in
theorem c_X11_layBestS (l : Launch) (dC : Nat → ClassId) (dI : Nat → Nat → Nat) (G : Nat → ClassId) (sz : Nat) (h0 st N B rp tp T cu lt od th be ln S ma M ah bh ik la lg ce : Nat) (wo vrs vrb vhs vca vxs vxb vfa vbr vba vsp vhe vtk vva vto : Int32) (fst : Nat → Int32) (fbe : Nat → Int64) (hN : N ≤ 10) (hB : B ≤ 6) (hT : T ≤ 320) (hS0 : S ≤ 8) (hM : M ≤ 6) : Met l yX11_layBest (Cond.code yX11_layBest cX11_layBest 8 none :: GT) ({ frames := 3, cells := 0, slots := 0, locals := 75 } : Room) (PcW [.ref h0, .int wo] dC dI G [(h0, .inr (11, [.ref st, .int (nI N), .int (nI B), .ref rp, .int vrs, .int vrb, .int vhs, .int vca, .int vxs, .int vxb, .ref tp, .int (nI T), .int vfa, .int vbr, .int vba, .int vsp, .int vhe, .int vtk, .int vva, .ref cu, .ref lt, .ref od, .ref th, .ref be, .ref ln, .int (nI S), .ref ma, .int (nI M), .ref ah, .ref bh, .ref ik, .ref la, .ref lg, .ref ce, .int vto])), (st, .inl (G 0, 196, .inl fst)), (be, .inl (G 1, 770, .inr (.inl fbe)))] sz) (va_Qv (fun (u : (Nat → Int64)) => match u with | obe => True) (fun (u : (Nat → Int64)) (t : State) => match u with | obe => va_P (dC, dI) vwCl [(h0, .inr (11, [.ref st, .int (nI N), .int (nI B), .ref rp, .int vrs, .int vrb, .int vhs, .int vca, .int vxs, .int vxb, .ref tp, .int (nI T), .int vfa, .int vbr, .int vba, .int vsp, .int vhe, .int vtk, .int vva, .ref cu, .ref lt, .ref od, .ref th, .ref be, .ref ln, .int (nI S), .ref ma, .int (nI M), .ref ah, .ref bh, .ref ik, .ref la, .ref lg, .ref ce, .int vto])), (st, .inl (G 0, 196, .inl fst)), (be, .inl (G 1, 770, .inr (.inl obe)))] t.heap ∧ va_D (va_A [(h0, .inr (11, [.ref st, .int (nI N), .int (nI B), .ref rp, .int vrs, .int vrb, .int vhs, .int vca, .int vxs, .int vxb, .ref tp, .int (nI T), .int vfa, .int vbr, .int vba, .int vsp, .int vhe, .int vtk, .int vva, .ref cu, .ref lt, .ref od, .ref th, .ref be, .ref ln, .int (nI S), .ref ma, .int (nI M), .ref ah, .ref bh, .ref ik, .ref la, .ref lg, .ref ce, .int vto])), (st, .inl (G 0, 196, .inl fst)), (be, .inl (G 1, 770, .inr (.inl fbe)))] sz) [(h0, .inr (11, [.ref st, .int (nI N), .int (nI B), .ref rp, .int vrs, .int vrb, .int vhs, .int vca, .int vxs, .int vxb, .ref tp, .int (nI T), .int vfa, .int vbr, .int vba, .int vsp, .int vhe, .int vtk, .int vva, .ref cu, .ref lt, .ref od, .ref th, .ref be, .ref ln, .int (nI S), .ref ma, .int (nI M), .ref ah, .ref bh, .ref ik, .ref la, .ref lg, .ref ce, .int vto])), (st, .inl (G 0, 196, .inl fst)), (be, .inl (G 1, 770, .inr (.inl obe)))]) (va_A [(h0, .inr (11, [.ref st, .int (nI N), .int (nI B), .ref rp, .int vrs, .int vrb, .int vhs, .int vca, .int vxs, .int vxb, .ref tp, .int (nI T), .int vfa, .int vbr, .int vba, .int vsp, .int vhe, .int vtk, .int vva, .ref cu, .ref lt, .ref od, .ref th, .ref be, .ref ln, .int (nI S), .ref ma, .int (nI M), .ref ah, .ref bh, .ref ik, .ref la, .ref lg, .ref ce, .int vto])), (st, .inl (G 0, 196, .inl fst)), (be, .inl (G 1, 770, .inr (.inl fbe)))] sz)) 0 0 (va_A [(h0, .inr (11, [.ref st, .int (nI N), .int (nI B), .ref rp, .int vrs, .int vrb, .int vhs, .int vca, .int vxs, .int vxb, .ref tp, .int (nI T), .int vfa, .int vbr, .int vba, .int vsp, .int vhe, .int vtk, .int vva, .ref cu, .ref lt, .ref od, .ref th, .ref be, .ref ln, .int (nI S), .ref ma, .int (nI M), .ref ah, .ref bh, .ref ik, .ref la, .ref lg, .ref ce, .int vto])), (st, .inl (G 0, 196, .inl fst)), (be, .inl (G 1, 770, .inr (.inl fbe)))] sz) := by
  have hB_ := hB
  have hM_ := hM
  have hT_ := hT
  have tn1194_ : nIT N := fun _ => nI_toInt (by omega)
  have tn1195_ : nIT B := fun _ => nI_toInt (by omega)
  have tn1196_ : nIT T := fun _ => nI_toInt (by omega)
  have tn1197_ : nIT S := fun _ => nI_toInt (by omega)
  have tn1198_ : nIT M := fun _ => nI_toInt (by omega)
  refine Met.ofW (cc := cX11_layBest) (maxL := 8) (ret := none) (by decide) rfl ?_
  intro p e s m args below meth c s₁ Bd hml hv
  obtain ⟨rfl, hsz, hP, hK, hD0⟩ := hv
  have hx := Bd.exec
  have hb := Bd.bytes
  have hr := Bd.returns
  have hg : ∀ w ∈ GT, w.before ([.ref h0, .int wo] : List Value).toArray s = true := fun w h => atoms_spec (ws := Cond.code yX11_layBest cX11_layBest 8 none :: GT) Bd.pre w (List.mem_cons_of_mem _ h)
  have hown : s.vm.findClass RX11 = some m.cls := findClass_of_methodNamed Bd.named
  have hlocks := Bd.notSynchronized
  subst hsz
  have hD := hD0.self (sz := s.heap.size)
  generalize hAe : va_A [(h0, .inr (11, [.ref st, .int (nI N), .int (nI B), .ref rp, .int vrs, .int vrb, .int vhs, .int vca, .int vxs, .int vxb, .ref tp, .int (nI T), .int vfa, .int vbr, .int vba, .int vsp, .int vhe, .int vtk, .int vva, .ref cu, .ref lt, .ref od, .ref th, .ref be, .ref ln, .int (nI S), .ref ma, .int (nI M), .ref ah, .ref bh, .ref ik, .ref la, .ref lg, .ref ce, .int vto])), (st, .inl (G 0, 196, .inl fst)), (be, .inl (G 1, 770, .inr (.inl fbe)))] s.heap.size = A at hD ⊢
  have hA : ∀ q : Nat, s.heap.size ≤ q → A q := fun q h => by rw [← hAe]; exact Or.inr h
  have hS : va_S A s.heap s.heap [] := va_S.rf
  have hl := lv_entry ([.ref h0, .int wo]) (n := 8) (Nat.le_of_ble_eq_true rfl)
  rw [lg_entry_eq]
  generalize (lg_sl ([.ref h0, .int wo]) ++ List.replicate (8 - (lg_sl ([.ref h0, .int wo])).length) Slot.unset).toArray = ls at hl ⊢
  have hl : lv_has ls 8 [(0, .ref h0), (1, .int wo)] := hl
  refine lv_iconst (v := 0) hx hb dX11_layBest_0 rfl ?_
  refine lv_istore_n (lv' := [(2, .int 0), (0, .ref h0), (1, .int wo)]) hx hb dX11_layBest_1 rfl hl (by decide) rfl (fun ls hl => ?_)
  have loop2_3 : ∀ (nf j1 : Nat), 70 + 1 ≤ j1 + nf → j1 ≤ 70 → ∀ (g2 : Nat → Int64) (H : Heap) (locs : List Loc), va_P (dC, dI) vwCl [(h0, .inr (11, [.ref st, .int (nI N), .int (nI B), .ref rp, .int vrs, .int vrb, .int vhs, .int vca, .int vxs, .int vxb, .ref tp, .int (nI T), .int vfa, .int vbr, .int vba, .int vsp, .int vhe, .int vtk, .int vva, .ref cu, .ref lt, .ref od, .ref th, .ref be, .ref ln, .int (nI S), .ref ma, .int (nI M), .ref ah, .ref bh, .ref ik, .ref la, .ref lg, .ref ce, .int vto])), (st, .inl (G 0, 196, .inl fst)), (be, .inl (G 1, 770, .inr (.inl g2)))] H → va_D A [(h0, .inr (11, [.ref st, .int (nI N), .int (nI B), .ref rp, .int vrs, .int vrb, .int vhs, .int vca, .int vxs, .int vxb, .ref tp, .int (nI T), .int vfa, .int vbr, .int vba, .int vsp, .int vhe, .int vtk, .int vva, .ref cu, .ref lt, .ref od, .ref th, .ref be, .ref ln, .int (nI S), .ref ma, .int (nI M), .ref ah, .ref bh, .ref ik, .ref la, .ref lg, .ref ce, .int vto])), (st, .inl (G 0, 196, .inl fst)), (be, .inl (G 1, 770, .inr (.inl g2)))] → va_S A s.heap H locs → ∀ (ls : Array Slot), lv_has ls 8 [(2, .int (nI j1)), (0, .ref h0), (1, .int wo)] → W p l e (headSpec (Cond.code yX11_layBest cX11_layBest 8 none :: GT) ({ frames := 3, cells := 0, slots := 0, locals := 75 } : Room)).room s m ([.ref h0, .int wo] : List Value).toArray below meth c H locs 0 0 (MQ below (va_Qv (fun (u : (Nat → Int64)) => match u with | obe => True) (fun (u : (Nat → Int64)) (t : State) => match u with | obe => va_P (dC, dI) vwCl [(h0, .inr (11, [.ref st, .int (nI N), .int (nI B), .ref rp, .int vrs, .int vrb, .int vhs, .int vca, .int vxs, .int vxb, .ref tp, .int (nI T), .int vfa, .int vbr, .int vba, .int vsp, .int vhe, .int vtk, .int vva, .ref cu, .ref lt, .ref od, .ref th, .ref be, .ref ln, .int (nI S), .ref ma, .int (nI M), .ref ah, .ref bh, .ref ik, .ref la, .ref lg, .ref ce, .int vto])), (st, .inl (G 0, 196, .inl fst)), (be, .inl (G 1, 770, .inr (.inl obe)))] t.heap ∧ va_D A [(h0, .inr (11, [.ref st, .int (nI N), .int (nI B), .ref rp, .int vrs, .int vrb, .int vhs, .int vca, .int vxs, .int vxb, .ref tp, .int (nI T), .int vfa, .int vbr, .int vba, .int vsp, .int vhe, .int vtk, .int vva, .ref cu, .ref lt, .ref od, .ref th, .ref be, .ref ln, .int (nI S), .ref ma, .int (nI M), .ref ah, .ref bh, .ref ik, .ref la, .ref lg, .ref ce, .int vto])), (st, .inl (G 0, 196, .inl fst)), (be, .inl (G 1, 770, .inr (.inl obe)))]) A) ([.ref h0, .int wo] : List Value).toArray s 0 0 A) (F0 m 2 ls []) := by
    intro nf
    induction nf with
    | zero => intro j1 h1 h2; exact absurd h1 (by omega)
    | succ nf ih2_3 =>
      intro j1 hn4 hj5 g2 H locs hP hD hS ls hl
      refine lv_iload_n hx hb dX11_layBest_2 rfl (lv_at hl 0 rfl) ?_
      refine lv_bipush (v := 70) hx hb dX11_layBest_3 rfl ?_
      refine lv_icmp_ge (tgt := 40) hx hb dX11_layBest_5 rfl (fun c6 => ?_) (fun c6 => ?_)
      · skip
        have tn1199_ : nIT j1 := fun _ => nI_toInt (by first | omega | (have t := leI c6; omega))
        have n7 : 70 ≤ j1 := by have t := leI c6; rw [show (nI (j1)).toInt = ((j1 : Nat) : Int) from tn1199_ ()] at t; have : (70 : Int32).toInt = 70 := qI_70; omega
        refine lv_aload_n hx hb dX11_layBest_40 rfl (lv_at hl 1 rfl) ?_
        refine va_get (D := (dC, dI)) (ci := 11) (v := .int (nI N)) (C := RX11) (T := TX11) (N := 35) hx hb hg inG11 hown hK.1 hP 0 rfl rfl 1 (Nat.le_of_ble_eq_true rfl) (hg _ wt_879) (fun _ h9 => h9) rfl dX11_layBest_41 ?_
        refine lv_iconst (v := 1) hx hb dX11_layBest_44 rfl ?_
        refine lv_isub hx hb dX11_layBest_45 ?_
        refine lv_istore_n (lv' := [(2, .int ((nI N) - 1)), (0, .ref h0), (1, .int wo)]) hx hb dX11_layBest_46 rfl hl (by decide) rfl (fun ls hl => ?_)
        rw [dn_sub] at hl
        have loop47_10 : ∀ (j8 : Nat), j8 ≤ N → ∀ (g9 : Nat → Int64) (H : Heap) (locs : List Loc), va_P (dC, dI) vwCl [(h0, .inr (11, [.ref st, .int (nI N), .int (nI B), .ref rp, .int vrs, .int vrb, .int vhs, .int vca, .int vxs, .int vxb, .ref tp, .int (nI T), .int vfa, .int vbr, .int vba, .int vsp, .int vhe, .int vtk, .int vva, .ref cu, .ref lt, .ref od, .ref th, .ref be, .ref ln, .int (nI S), .ref ma, .int (nI M), .ref ah, .ref bh, .ref ik, .ref la, .ref lg, .ref ce, .int vto])), (st, .inl (G 0, 196, .inl fst)), (be, .inl (G 1, 770, .inr (.inl g9)))] H → va_D A [(h0, .inr (11, [.ref st, .int (nI N), .int (nI B), .ref rp, .int vrs, .int vrb, .int vhs, .int vca, .int vxs, .int vxb, .ref tp, .int (nI T), .int vfa, .int vbr, .int vba, .int vsp, .int vhe, .int vtk, .int vva, .ref cu, .ref lt, .ref od, .ref th, .ref be, .ref ln, .int (nI S), .ref ma, .int (nI M), .ref ah, .ref bh, .ref ik, .ref la, .ref lg, .ref ce, .int vto])), (st, .inl (G 0, 196, .inl fst)), (be, .inl (G 1, 770, .inr (.inl g9)))] → va_S A s.heap H locs → ∀ (ls : Array Slot), lv_has ls 8 [(2, .int (dn j8)), (0, .ref h0), (1, .int wo)] → W p l e (headSpec (Cond.code yX11_layBest cX11_layBest 8 none :: GT) ({ frames := 3, cells := 0, slots := 0, locals := 75 } : Room)).room s m ([.ref h0, .int wo] : List Value).toArray below meth c H locs 0 0 (MQ below (va_Qv (fun (u : (Nat → Int64)) => match u with | obe => True) (fun (u : (Nat → Int64)) (t : State) => match u with | obe => va_P (dC, dI) vwCl [(h0, .inr (11, [.ref st, .int (nI N), .int (nI B), .ref rp, .int vrs, .int vrb, .int vhs, .int vca, .int vxs, .int vxb, .ref tp, .int (nI T), .int vfa, .int vbr, .int vba, .int vsp, .int vhe, .int vtk, .int vva, .ref cu, .ref lt, .ref od, .ref th, .ref be, .ref ln, .int (nI S), .ref ma, .int (nI M), .ref ah, .ref bh, .ref ik, .ref la, .ref lg, .ref ce, .int vto])), (st, .inl (G 0, 196, .inl fst)), (be, .inl (G 1, 770, .inr (.inl obe)))] t.heap ∧ va_D A [(h0, .inr (11, [.ref st, .int (nI N), .int (nI B), .ref rp, .int vrs, .int vrb, .int vhs, .int vca, .int vxs, .int vxb, .ref tp, .int (nI T), .int vfa, .int vbr, .int vba, .int vsp, .int vhe, .int vtk, .int vva, .ref cu, .ref lt, .ref od, .ref th, .ref be, .ref ln, .int (nI S), .ref ma, .int (nI M), .ref ah, .ref bh, .ref ik, .ref la, .ref lg, .ref ce, .int vto])), (st, .inl (G 0, 196, .inl fst)), (be, .inl (G 1, 770, .inr (.inl obe)))]) A) ([.ref h0, .int wo] : List Value).toArray s 0 0 A) (F0 m 47 ls []) := by
          intro j8
          induction j8 with
          | zero =>
            intro hj11 g9 H locs hP hD hS ls hl
            have hl : lv_has ls 8 [(2, .int (-1)), (0, .ref h0), (1, .int wo)] := hl
            refine lv_iload_n hx hb dX11_layBest_47 rfl (lv_at hl 0 rfl) ?_
            refine lv_if_lt (tgt := 235) hx hb dX11_layBest_48 rfl (fun c12 => ?_) (fun c12 => ?_)
            · skip
              obtain ⟨hP9, hD9⟩ := va_sub2 (ws' := [(h0, .inr (11, [.ref st, .int (nI N), .int (nI B), .ref rp, .int vrs, .int vrb, .int vhs, .int vca, .int vxs, .int vxb, .ref tp, .int (nI T), .int vfa, .int vbr, .int vba, .int vsp, .int vhe, .int vtk, .int vva, .ref cu, .ref lt, .ref od, .ref th, .ref be, .ref ln, .int (nI S), .ref ma, .int (nI M), .ref ah, .ref bh, .ref ik, .ref la, .ref lg, .ref ce, .int vto])), (st, .inl (G 0, 196, .inl fst)), (be, .inl (G 1, 770, .inr (.inl g9)))]) hP hD [0, 1, 2] (by decide) rfl
              refine W.widen (k := 0) (n := 0) (Nat.le_of_ble_eq_true rfl) (Nat.le_of_ble_eq_true rfl) ?_
              exact W.vret hx hb hr (fun t ht hW => ⟨⟨g9, rfl, trivial, ⟨by rw [ht]; exact hP9, hD9⟩⟩, hS.F ht⟩) hS.2.2 dX11_layBest_235
            · skip
              exact absurd c12 (by decide)
          | succ j8 ih47_10 =>
            intro hj11 g9 H locs hP hD hS ls hl
            have hl : lv_has ls 8 [(2, .int (nI j8)), (0, .ref h0), (1, .int wo)] := hl
            refine lv_iload_n hx hb dX11_layBest_47 rfl (lv_at hl 0 rfl) ?_
            refine lv_if_lt (tgt := 235) hx hb dX11_layBest_48 rfl (fun c13 => ?_) (fun c13 => ?_)
            · skip
              have t_hj5 := hj5
              have t_n7 := n7
              have t_hj11 := hj11
              have t_c13 := ltI c13
              have : (0 : Int32).toInt = 0 := qI_0
              have t_n0 : (nI N).toInt = (N : Int) := tn1194_ ()
              have t_n1 : (nI B).toInt = (B : Int) := tn1195_ ()
              have t_n2 : (nI T).toInt = (T : Int) := tn1196_ ()
              have t_n3 : (nI S).toInt = (S : Int) := tn1197_ ()
              have t_n4 : (nI M).toInt = (M : Int) := tn1198_ ()
              have t_n5 : (nI j1).toInt = (j1 : Int) := tn1199_ ()
              have tn1200_ : nIT j8 := fun _ => nI_toInt (by omega)
              have t_n6 : (nI j8).toInt = (j8 : Int) := tn1200_ ()
              exfalso; omega
            · skip
              have tn1201_ : nIT j8 := fun _ => nI_toInt (by first | omega | (have t := nltI c13; omega))
              have n14 : 0 ≤ j8 := by have t := nltI c13; rw [show (nI (j8)).toInt = ((j8 : Nat) : Int) from tn1201_ ()] at t; have : (0 : Int32).toInt = 0 := qI_0; omega
              refine lv_iconst (v := 0) hx hb dX11_layBest_51 rfl ?_
              refine lv_istore_n (lv' := [(3, .int 0), (2, .int (nI j8)), (0, .ref h0), (1, .int wo)]) hx hb dX11_layBest_52 rfl hl (by decide) rfl (fun ls hl => ?_)
              have loop53_17 : ∀ (nf j15 : Nat), 70 + 1 ≤ j15 + nf → j15 ≤ 70 → ∀ (g16 : Nat → Int64) (H : Heap) (locs : List Loc), va_P (dC, dI) vwCl [(h0, .inr (11, [.ref st, .int (nI N), .int (nI B), .ref rp, .int vrs, .int vrb, .int vhs, .int vca, .int vxs, .int vxb, .ref tp, .int (nI T), .int vfa, .int vbr, .int vba, .int vsp, .int vhe, .int vtk, .int vva, .ref cu, .ref lt, .ref od, .ref th, .ref be, .ref ln, .int (nI S), .ref ma, .int (nI M), .ref ah, .ref bh, .ref ik, .ref la, .ref lg, .ref ce, .int vto])), (st, .inl (G 0, 196, .inl fst)), (be, .inl (G 1, 770, .inr (.inl g16)))] H → va_D A [(h0, .inr (11, [.ref st, .int (nI N), .int (nI B), .ref rp, .int vrs, .int vrb, .int vhs, .int vca, .int vxs, .int vxb, .ref tp, .int (nI T), .int vfa, .int vbr, .int vba, .int vsp, .int vhe, .int vtk, .int vva, .ref cu, .ref lt, .ref od, .ref th, .ref be, .ref ln, .int (nI S), .ref ma, .int (nI M), .ref ah, .ref bh, .ref ik, .ref la, .ref lg, .ref ce, .int vto])), (st, .inl (G 0, 196, .inl fst)), (be, .inl (G 1, 770, .inr (.inl g16)))] → va_S A s.heap H locs → ∀ (ls : Array Slot), lv_has ls 8 [(3, .int (nI j15)), (2, .int (nI j8)), (0, .ref h0), (1, .int wo)] → W p l e (headSpec (Cond.code yX11_layBest cX11_layBest 8 none :: GT) ({ frames := 3, cells := 0, slots := 0, locals := 75 } : Room)).room s m ([.ref h0, .int wo] : List Value).toArray below meth c H locs 0 0 (MQ below (va_Qv (fun (u : (Nat → Int64)) => match u with | obe => True) (fun (u : (Nat → Int64)) (t : State) => match u with | obe => va_P (dC, dI) vwCl [(h0, .inr (11, [.ref st, .int (nI N), .int (nI B), .ref rp, .int vrs, .int vrb, .int vhs, .int vca, .int vxs, .int vxb, .ref tp, .int (nI T), .int vfa, .int vbr, .int vba, .int vsp, .int vhe, .int vtk, .int vva, .ref cu, .ref lt, .ref od, .ref th, .ref be, .ref ln, .int (nI S), .ref ma, .int (nI M), .ref ah, .ref bh, .ref ik, .ref la, .ref lg, .ref ce, .int vto])), (st, .inl (G 0, 196, .inl fst)), (be, .inl (G 1, 770, .inr (.inl obe)))] t.heap ∧ va_D A [(h0, .inr (11, [.ref st, .int (nI N), .int (nI B), .ref rp, .int vrs, .int vrb, .int vhs, .int vca, .int vxs, .int vxb, .ref tp, .int (nI T), .int vfa, .int vbr, .int vba, .int vsp, .int vhe, .int vtk, .int vva, .ref cu, .ref lt, .ref od, .ref th, .ref be, .ref ln, .int (nI S), .ref ma, .int (nI M), .ref ah, .ref bh, .ref ik, .ref la, .ref lg, .ref ce, .int vto])), (st, .inl (G 0, 196, .inl fst)), (be, .inl (G 1, 770, .inr (.inl obe)))]) A) ([.ref h0, .int wo] : List Value).toArray s 0 0 A) (F0 m 53 ls []) := by
                intro nf
                induction nf with
                | zero => intro j15 h1 h2; exact absurd h1 (by omega)
                | succ nf ih53_17 =>
                  intro j15 hn18 hj19 g16 H locs hP hD hS ls hl
                  refine lv_iload_n hx hb dX11_layBest_53 rfl (lv_at hl 0 rfl) ?_
                  refine lv_bipush (v := 70) hx hb dX11_layBest_54 rfl ?_
                  refine lv_icmp_ge (tgt := 229) hx hb dX11_layBest_56 rfl (fun c20 => ?_) (fun c20 => ?_)
                  · skip
                    have tn1202_ : nIT j15 := fun _ => nI_toInt (by first | omega | (have t := leI c20; omega))
                    have n21 : 70 ≤ j15 := by have t := leI c20; rw [show (nI (j15)).toInt = ((j15 : Nat) : Int) from tn1202_ ()] at t; have : (70 : Int32).toInt = 70 := qI_70; omega
                    refine lv_iinc (v := dn j8) (lv' := [(2, .int (dn j8)), (3, .int (nI j15)), (0, .ref h0), (1, .int wo)]) hx hb dX11_layBest_229 hl (k := 1) rfl (by exact dn_pred _) (by decide) rfl (fun ls hl => ?_)
                    refine lv_goto (tgt := 47) hx hb dX11_layBest_232 rfl ?_
                    exact ih47_10 (by omega) g16 _ _ hP hD hS ls (lv_sub hl [0, 2, 3] rfl)
                  · skip
                    have tn1203_ : nIT j15 := fun _ => nI_toInt (by first | omega | (have t := nleI c20; omega))
                    have n22 : j15 < 70 := by have t := nleI c20; rw [show (nI (j15)).toInt = ((j15 : Nat) : Int) from tn1203_ ()] at t; have : (70 : Int32).toInt = 70 := qI_70; omega
                    refine lv_iload_n hx hb dX11_layBest_59 rfl (lv_at hl 0 rfl) ?_
                    refine lv_bipush (v := 10) hx hb dX11_layBest_60 rfl ?_
                    refine lv_icmp_ge (tgt := 70) hx hb dX11_layBest_62 rfl (fun c23 => ?_) (fun c23 => ?_)
                    · skip
                      have n24 : 10 ≤ j15 := by have t := leI c23; rw [show (nI (j15)).toInt = ((j15 : Nat) : Int) from tn1203_ ()] at t; have : (10 : Int32).toInt = 10 := qI_10; omega
                      refine lv_iload_n hx hb dX11_layBest_70 rfl (lv_at hl 0 rfl) ?_
                      refine lv_bipush (v := 10) hx hb dX11_layBest_71 rfl ?_
                      refine lv_idiv hx hb dX11_layBest_73 (by decide) ?_
                      refine lv_cg (y := nI (j15 / 10)) (by rw [show (10 : Int32) = nI 10 from rfl]; exact pk_div (by omega) (by omega) (by omega)) ?_
                      refine lv_iconst (v := 1) hx hb dX11_layBest_74 rfl ?_
                      refine lv_isub hx hb dX11_layBest_75 ?_
                      refine lv_cg (y := nI ((j15 / 10) - 1)) (by rw [show (1 : Int32) = nI 1 from rfl]; exact pk_sub (by omega)) ?_
                      refine lv_istore (lv' := [(4, .int (nI ((j15 / 10) - 1))), (3, .int (nI j15)), (2, .int (nI j8)), (0, .ref h0), (1, .int wo)]) hx hb dX11_layBest_76 hl (by decide) rfl (fun ls hl => ?_)
                      refine lv_aload_n hx hb dX11_layBest_78 rfl (lv_at hl 3 rfl) ?_
                      refine va_get (D := (dC, dI)) (ci := 11) (v := .ref be) (C := RX11) (T := TX11) (N := 35) hx hb hg inG11 hown hK.1 hP 0 rfl rfl 23 (Nat.le_of_ble_eq_true rfl) (hg _ wt_901) (fun _ h9 => h9) rfl dX11_layBest_79 ?_
                      refine lv_bipush (v := 70) hx hb dX11_layBest_82 rfl ?_
                      refine lv_iload_n hx hb dX11_layBest_84 rfl (lv_at hl 2 rfl) ?_
                      refine lv_imul hx hb dX11_layBest_85 ?_
                      refine lv_cg (y := nI (70 * j8)) (by rw [show (70 : Int32) = nI 70 from rfl]; exact pk_mul _ _) ?_
                      refine lv_iload_n hx hb dX11_layBest_86 rfl (lv_at hl 1 rfl) ?_
                      refine lv_iadd hx hb dX11_layBest_87 ?_
                      refine lv_cg (y := nI ((70 * j8) + j15)) (by exact nI_add _ _) ?_
                      refine lv_iload_n hx hb dX11_layBest_88 rfl (lv_at hl 1 rfl) ?_
                      refine lv_bipush (v := 10) hx hb dX11_layBest_89 rfl ?_
                      refine lv_irem hx hb dX11_layBest_91 (by decide) ?_
                      refine lv_cg (y := nI (j15 % 10)) (by rw [show (10 : Int32) = nI 10 from rfl]; exact pk_rem (by omega) (by omega) (by omega)) ?_
                      have cut110_26 : ∀ (y25 : Int64) (H : Heap) (locs : List Loc), va_P (dC, dI) vwCl [(h0, .inr (11, [.ref st, .int (nI N), .int (nI B), .ref rp, .int vrs, .int vrb, .int vhs, .int vca, .int vxs, .int vxb, .ref tp, .int (nI T), .int vfa, .int vbr, .int vba, .int vsp, .int vhe, .int vtk, .int vva, .ref cu, .ref lt, .ref od, .ref th, .ref be, .ref ln, .int (nI S), .ref ma, .int (nI M), .ref ah, .ref bh, .ref ik, .ref la, .ref lg, .ref ce, .int vto])), (st, .inl (G 0, 196, .inl fst)), (be, .inl (G 1, 770, .inr (.inl g16)))] H → va_D A [(h0, .inr (11, [.ref st, .int (nI N), .int (nI B), .ref rp, .int vrs, .int vrb, .int vhs, .int vca, .int vxs, .int vxb, .ref tp, .int (nI T), .int vfa, .int vbr, .int vba, .int vsp, .int vhe, .int vtk, .int vva, .ref cu, .ref lt, .ref od, .ref th, .ref be, .ref ln, .int (nI S), .ref ma, .int (nI M), .ref ah, .ref bh, .ref ik, .ref la, .ref lg, .ref ce, .int vto])), (st, .inl (G 0, 196, .inl fst)), (be, .inl (G 1, 770, .inr (.inl g16)))] → va_S A s.heap H locs → ∀ (ls : Array Slot), lv_has ls 8 [(4, .int (nI ((j15 / 10) - 1))), (3, .int (nI j15)), (2, .int (nI j8)), (0, .ref h0), (1, .int wo)] → W p l e (headSpec (Cond.code yX11_layBest cX11_layBest 8 none :: GT) ({ frames := 3, cells := 0, slots := 0, locals := 75 } : Room)).room s m ([.ref h0, .int wo] : List Value).toArray below meth c H locs 0 0 (MQ below (va_Qv (fun (u : (Nat → Int64)) => match u with | obe => True) (fun (u : (Nat → Int64)) (t : State) => match u with | obe => va_P (dC, dI) vwCl [(h0, .inr (11, [.ref st, .int (nI N), .int (nI B), .ref rp, .int vrs, .int vrb, .int vhs, .int vca, .int vxs, .int vxb, .ref tp, .int (nI T), .int vfa, .int vbr, .int vba, .int vsp, .int vhe, .int vtk, .int vva, .ref cu, .ref lt, .ref od, .ref th, .ref be, .ref ln, .int (nI S), .ref ma, .int (nI M), .ref ah, .ref bh, .ref ik, .ref la, .ref lg, .ref ce, .int vto])), (st, .inl (G 0, 196, .inl fst)), (be, .inl (G 1, 770, .inr (.inl obe)))] t.heap ∧ va_D A [(h0, .inr (11, [.ref st, .int (nI N), .int (nI B), .ref rp, .int vrs, .int vrb, .int vhs, .int vca, .int vxs, .int vxb, .ref tp, .int (nI T), .int vfa, .int vbr, .int vba, .int vsp, .int vhe, .int vtk, .int vva, .ref cu, .ref lt, .ref od, .ref th, .ref be, .ref ln, .int (nI S), .ref ma, .int (nI M), .ref ah, .ref bh, .ref ik, .ref la, .ref lg, .ref ce, .int vto])), (st, .inl (G 0, 196, .inl fst)), (be, .inl (G 1, 770, .inr (.inl obe)))]) A) ([.ref h0, .int wo] : List Value).toArray s 0 0 A) (F0 m 110 ls [.long y25, .int (nI ((70 * j8) + j15)), .ref be]) := by
                        intro y25 H locs hP hD hS ls hl
                        refine va_last hx hb hK.1 hP hD hS 2 1 rfl rfl (vp_in_nI (by first | omega | (have t_hj5 := hj5; have t_n7 := n7; have t_hj11 := hj11; have t_n14 := n14; have t_hj19 := hj19; have t_n22 := n22; have t_n24 := n24; have t_n0 : (nI N).toInt = (N : Int) := tn1194_ (); have t_n1 : (nI B).toInt = (B : Int) := tn1195_ (); have t_n2 : (nI T).toInt = (T : Int) := tn1196_ (); have t_n3 : (nI S).toInt = (S : Int) := tn1197_ (); have t_n4 : (nI M).toInt = (M : Int) := tn1198_ (); have t_n5 : (nI j1).toInt = (j1 : Int) := tn1199_ (); have t_n6 : (nI j8).toInt = (j8 : Int) := tn1201_ (); have t_n7 : (nI j15).toInt = (j15 : Int) := tn1203_ (); have t_n8 : (nI ((j15 / 10) - 1)).toInt = ((((j15 / 10) - 1) : Nat) : Int) := nI_toInt (by omega); omega)) (by decide)) dX11_layBest_110 (fun H locs hP hD hS => ?_)
                        rw [nI_clamp (by omega)] at hP hD
                        refine lv_iconst (v := 0) hx hb dX11_layBest_111 rfl ?_
                        refine lv_istore (lv' := [(5, .int 0), (4, .int (nI ((j15 / 10) - 1))), (3, .int (nI j15)), (2, .int (nI j8)), (0, .ref h0), (1, .int wo)]) hx hb dX11_layBest_112 hl (by decide) rfl (fun ls hl => ?_)
                        have loop114_29 : ∀ (nf j27 : Nat), B + 1 ≤ j27 + nf → j27 ≤ B → ∀ (g28 : Nat → Int64) (H : Heap) (locs : List Loc), va_P (dC, dI) vwCl [(h0, .inr (11, [.ref st, .int (nI N), .int (nI B), .ref rp, .int vrs, .int vrb, .int vhs, .int vca, .int vxs, .int vxb, .ref tp, .int (nI T), .int vfa, .int vbr, .int vba, .int vsp, .int vhe, .int vtk, .int vva, .ref cu, .ref lt, .ref od, .ref th, .ref be, .ref ln, .int (nI S), .ref ma, .int (nI M), .ref ah, .ref bh, .ref ik, .ref la, .ref lg, .ref ce, .int vto])), (st, .inl (G 0, 196, .inl fst)), (be, .inl (G 1, 770, .inr (.inl g28)))] H → va_D A [(h0, .inr (11, [.ref st, .int (nI N), .int (nI B), .ref rp, .int vrs, .int vrb, .int vhs, .int vca, .int vxs, .int vxb, .ref tp, .int (nI T), .int vfa, .int vbr, .int vba, .int vsp, .int vhe, .int vtk, .int vva, .ref cu, .ref lt, .ref od, .ref th, .ref be, .ref ln, .int (nI S), .ref ma, .int (nI M), .ref ah, .ref bh, .ref ik, .ref la, .ref lg, .ref ce, .int vto])), (st, .inl (G 0, 196, .inl fst)), (be, .inl (G 1, 770, .inr (.inl g28)))] → va_S A s.heap H locs → ∀ (ls : Array Slot), lv_has ls 8 [(5, .int (nI j27)), (4, .int (nI ((j15 / 10) - 1))), (3, .int (nI j15)), (2, .int (nI j8)), (0, .ref h0), (1, .int wo)] → W p l e (headSpec (Cond.code yX11_layBest cX11_layBest 8 none :: GT) ({ frames := 3, cells := 0, slots := 0, locals := 75 } : Room)).room s m ([.ref h0, .int wo] : List Value).toArray below meth c H locs 0 0 (MQ below (va_Qv (fun (u : (Nat → Int64)) => match u with | obe => True) (fun (u : (Nat → Int64)) (t : State) => match u with | obe => va_P (dC, dI) vwCl [(h0, .inr (11, [.ref st, .int (nI N), .int (nI B), .ref rp, .int vrs, .int vrb, .int vhs, .int vca, .int vxs, .int vxb, .ref tp, .int (nI T), .int vfa, .int vbr, .int vba, .int vsp, .int vhe, .int vtk, .int vva, .ref cu, .ref lt, .ref od, .ref th, .ref be, .ref ln, .int (nI S), .ref ma, .int (nI M), .ref ah, .ref bh, .ref ik, .ref la, .ref lg, .ref ce, .int vto])), (st, .inl (G 0, 196, .inl fst)), (be, .inl (G 1, 770, .inr (.inl obe)))] t.heap ∧ va_D A [(h0, .inr (11, [.ref st, .int (nI N), .int (nI B), .ref rp, .int vrs, .int vrb, .int vhs, .int vca, .int vxs, .int vxb, .ref tp, .int (nI T), .int vfa, .int vbr, .int vba, .int vsp, .int vhe, .int vtk, .int vva, .ref cu, .ref lt, .ref od, .ref th, .ref be, .ref ln, .int (nI S), .ref ma, .int (nI M), .ref ah, .ref bh, .ref ik, .ref la, .ref lg, .ref ce, .int vto])), (st, .inl (G 0, 196, .inl fst)), (be, .inl (G 1, 770, .inr (.inl obe)))]) A) ([.ref h0, .int wo] : List Value).toArray s 0 0 A) (F0 m 114 ls []) := by
                          intro nf
                          induction nf with
                          | zero => intro j27 h1 h2; exact absurd h1 (by omega)
                          | succ nf ih114_29 =>
                            intro j27 hn30 hj31 g28 H locs hP hD hS ls hl
                            refine lv_iload hx hb dX11_layBest_114 (lv_at hl 0 rfl) ?_
                            refine lv_aload_n hx hb dX11_layBest_116 rfl (lv_at hl 4 rfl) ?_
                            refine va_get (D := (dC, dI)) (ci := 11) (v := .int (nI B)) (C := RX11) (T := TX11) (N := 35) hx hb hg inG11 hown hK.1 hP 0 rfl rfl 2 (Nat.le_of_ble_eq_true rfl) (hg _ wt_880) (fun _ h9 => h9) rfl dX11_layBest_117 ?_
                            have cut223_32 : ∀ (H : Heap) (locs : List Loc), va_P (dC, dI) vwCl [(h0, .inr (11, [.ref st, .int (nI N), .int (nI B), .ref rp, .int vrs, .int vrb, .int vhs, .int vca, .int vxs, .int vxb, .ref tp, .int (nI T), .int vfa, .int vbr, .int vba, .int vsp, .int vhe, .int vtk, .int vva, .ref cu, .ref lt, .ref od, .ref th, .ref be, .ref ln, .int (nI S), .ref ma, .int (nI M), .ref ah, .ref bh, .ref ik, .ref la, .ref lg, .ref ce, .int vto])), (st, .inl (G 0, 196, .inl fst)), (be, .inl (G 1, 770, .inr (.inl g28)))] H → va_D A [(h0, .inr (11, [.ref st, .int (nI N), .int (nI B), .ref rp, .int vrs, .int vrb, .int vhs, .int vca, .int vxs, .int vxb, .ref tp, .int (nI T), .int vfa, .int vbr, .int vba, .int vsp, .int vhe, .int vtk, .int vva, .ref cu, .ref lt, .ref od, .ref th, .ref be, .ref ln, .int (nI S), .ref ma, .int (nI M), .ref ah, .ref bh, .ref ik, .ref la, .ref lg, .ref ce, .int vto])), (st, .inl (G 0, 196, .inl fst)), (be, .inl (G 1, 770, .inr (.inl g28)))] → va_S A s.heap H locs → ∀ (ls : Array Slot), lv_has ls 8 [(5, .int (nI j27)), (4, .int (nI ((j15 / 10) - 1))), (3, .int (nI j15)), (2, .int (nI j8)), (0, .ref h0), (1, .int wo)] → W p l e (headSpec (Cond.code yX11_layBest cX11_layBest 8 none :: GT) ({ frames := 3, cells := 0, slots := 0, locals := 75 } : Room)).room s m ([.ref h0, .int wo] : List Value).toArray below meth c H locs 0 0 (MQ below (va_Qv (fun (u : (Nat → Int64)) => match u with | obe => True) (fun (u : (Nat → Int64)) (t : State) => match u with | obe => va_P (dC, dI) vwCl [(h0, .inr (11, [.ref st, .int (nI N), .int (nI B), .ref rp, .int vrs, .int vrb, .int vhs, .int vca, .int vxs, .int vxb, .ref tp, .int (nI T), .int vfa, .int vbr, .int vba, .int vsp, .int vhe, .int vtk, .int vva, .ref cu, .ref lt, .ref od, .ref th, .ref be, .ref ln, .int (nI S), .ref ma, .int (nI M), .ref ah, .ref bh, .ref ik, .ref la, .ref lg, .ref ce, .int vto])), (st, .inl (G 0, 196, .inl fst)), (be, .inl (G 1, 770, .inr (.inl obe)))] t.heap ∧ va_D A [(h0, .inr (11, [.ref st, .int (nI N), .int (nI B), .ref rp, .int vrs, .int vrb, .int vhs, .int vca, .int vxs, .int vxb, .ref tp, .int (nI T), .int vfa, .int vbr, .int vba, .int vsp, .int vhe, .int vtk, .int vva, .ref cu, .ref lt, .ref od, .ref th, .ref be, .ref ln, .int (nI S), .ref ma, .int (nI M), .ref ah, .ref bh, .ref ik, .ref la, .ref lg, .ref ce, .int vto])), (st, .inl (G 0, 196, .inl fst)), (be, .inl (G 1, 770, .inr (.inl obe)))]) A) ([.ref h0, .int wo] : List Value).toArray s 0 0 A) (F0 m 223 ls []) := by
                              intro  H locs hP hD hS ls hl
                              refine lv_iinc (v := nI (j15 + 1)) (lv' := [(3, .int (nI (j15 + 1))), (5, .int (nI j27)), (4, .int (nI ((j15 / 10) - 1))), (2, .int (nI j8)), (0, .ref h0), (1, .int wo)]) hx hb dX11_layBest_223 hl (k := 2) rfl (by rw [show Int32.ofInt 1 = nI 1 from by decide]; exact nI_add _ _) (by decide) rfl (fun ls hl => ?_)
                              refine lv_goto (tgt := 53) hx hb dX11_layBest_226 rfl ?_
                              exact ih53_17 (j15 + 1) (by omega) (by omega) g28 _ _ hP hD hS ls (lv_sub hl [0, 3, 4, 5] rfl)
                            refine lv_icmp_ge (tgt := 223) hx hb dX11_layBest_120 rfl (fun c33 => ?_) (fun c33 => ?_)
                            · skip
                              have tn1204_ : nIT j27 := fun _ => nI_toInt (by first | omega | (have t := leI c33; omega))
                              have n34 : B ≤ j27 := by have t := leI c33; rw [show (nI (j27)).toInt = ((j27 : Nat) : Int) from tn1204_ ()] at t; rw [show (nI (B)).toInt = ((B : Nat) : Int) from tn1195_ ()] at t; omega
                              exact cut223_32  _ _ hP hD hS ls (lv_sub hl [0, 1, 2, 3, 4, 5] rfl)
                            · skip
                              have tn1205_ : nIT j27 := fun _ => nI_toInt (by first | omega | (have t := nleI c33; omega))
                              have n35 : j27 < B := by have t := nleI c33; rw [show (nI (j27)).toInt = ((j27 : Nat) : Int) from tn1205_ ()] at t; rw [show (nI (B)).toInt = ((B : Nat) : Int) from tn1195_ ()] at t; omega
                              refine lv_iload_n hx hb dX11_layBest_123 rfl (lv_at hl 2 rfl) ?_
                              refine lv_bipush (v := 10) hx hb dX11_layBest_124 rfl ?_
                              refine lv_irem hx hb dX11_layBest_126 (by decide) ?_
                              refine lv_cg (y := nI (j15 % 10)) (by rw [show (10 : Int32) = nI 10 from rfl]; exact pk_rem (by omega) (by omega) (by omega)) ?_
                              refine lv_if_le (tgt := 223) hx hb dX11_layBest_127 rfl (fun c36 => ?_) (fun c36 => ?_)
                              · skip
                                have tn1206_ : nIT (j15 % 10) := fun _ => nI_toInt (by first | omega | (have t := leI c36; omega))
                                have n37 : (j15 % 10) ≤ 0 := by have t := leI c36; rw [show (nI (j15 % 10)).toInt = ((j15 % 10 : Nat) : Int) from tn1206_ ()] at t; have : (0 : Int32).toInt = 0 := qI_0; omega
                                exact cut223_32  _ _ hP hD hS ls (lv_sub hl [0, 1, 2, 3, 4, 5] rfl)
                              · skip
                                have tn1207_ : nIT (j15 % 10) := fun _ => nI_toInt (by first | omega | (have t := nleI c36; omega))
                                have n38 : 0 < (j15 % 10) := by have t := nleI c36; rw [show (nI (j15 % 10)).toInt = ((j15 % 10 : Nat) : Int) from tn1207_ ()] at t; have : (0 : Int32).toInt = 0 := qI_0; omega
                                refine lv_iload hx hb dX11_layBest_130 (lv_at hl 1 rfl) ?_
                                refine lv_bipush (v := (-4)) hx hb dX11_layBest_132 rfl ?_
                                refine lv_icmp_eq (tgt := 146) hx hb dX11_layBest_134 rfl (fun c39 => ?_) (fun c39 => ?_)
                                · skip
                                  have t_hj5 := hj5
                                  have t_n7 := n7
                                  have t_hj11 := hj11
                                  have t_n14 := n14
                                  have t_hj19 := hj19
                                  have t_n22 := n22
                                  have t_n24 := n24
                                  have t_hj31 := hj31
                                  have t_n35 := n35
                                  have t_n38 := n38
                                  have t_c39 := eqI c39
                                  have : ((-4) : Int32).toInt = -4 := qI_m4
                                  have t_n0 : (nI N).toInt = (N : Int) := tn1194_ ()
                                  have t_n1 : (nI B).toInt = (B : Int) := tn1195_ ()
                                  have t_n2 : (nI T).toInt = (T : Int) := tn1196_ ()
                                  have t_n3 : (nI S).toInt = (S : Int) := tn1197_ ()
                                  have t_n4 : (nI M).toInt = (M : Int) := tn1198_ ()
                                  have t_n5 : (nI j1).toInt = (j1 : Int) := tn1199_ ()
                                  have t_n6 : (nI j8).toInt = (j8 : Int) := tn1201_ ()
                                  have t_n7 : (nI j15).toInt = (j15 : Int) := tn1203_ ()
                                  have t_n8 : (nI ((j15 / 10) - 1)).toInt = ((((j15 / 10) - 1) : Nat) : Int) := nI_toInt (by omega)
                                  have t_n9 : (nI j27).toInt = (j27 : Int) := tn1205_ ()
                                  exfalso; omega
                                · skip
                                  refine lv_aload_n hx hb dX11_layBest_137 rfl (lv_at hl 4 rfl) ?_
                                  refine lv_iload hx hb dX11_layBest_138 (lv_at hl 1 rfl) ?_
                                  have hPc := hP.sub (ws' := [(h0, .inr (11, [.ref st, .int (nI N), .int (nI B), .ref rp, .int vrs, .int vrb, .int vhs, .int vca, .int vxs, .int vxb, .ref tp, .int (nI T), .int vfa, .int vbr, .int vba, .int vsp, .int vhe, .int vtk, .int vva, .ref cu, .ref lt, .ref od, .ref th, .ref be, .ref ln, .int (nI S), .ref ma, .int (nI M), .ref ah, .ref bh, .ref ik, .ref la, .ref lg, .ref ce, .int vto]))]) [0] rfl
                                  refine va_calli (va_runV (As := [.int (nI ((j15 / 10) - 1))]) (rest := []) ⟨hx, hb, hml, hown, hg⟩ (c_X11_isBearer l dC dI G _ h0 st N B rp tp T cu lt od th be ln S ma M ah bh ik la lg ce (nI ((j15 / 10) - 1)) vrs vrb vhs vca vxs vxb vfa vbr vba vsp vhe vtk vva vto hN hB_ hT_ hS0 hM_) (kwV hg mfX11_isBearer wt_1061 ⟨Nat.le_of_ble_eq_true rfl, Nat.le_of_ble_eq_true rfl⟩) (preVR hK hPc (ci := 11) rfl rfl) rfl rfl hl.1 rfl (lv_room (Nat.le_of_ble_eq_true rfl)) dX11_layBest_140 ⟨Nat.le_of_ble_eq_true rfl, Nat.le_of_ble_eq_true rfl⟩) hS (fun q h1 h2 => absurd h2 (Nat.not_le.mpr h1)) (fun q h => hA q (Nat.le_trans hS.1 h)) (fun r40 ur40 t H1 locs ht hvm w41 hB hz1 hk1 hS => ?_)
                                  have hP := keepR hP hk1
                                  obtain ⟨w41, w41x⟩ := w41
                                  try simp only [l_ii, show (0 : Int32).toInt = 0 from by decide] at w41
                                  have tn1208_ : nIT ((j15 / 10) - 1) := fun _ => nI_toInt (by omega)
                                  try rw [show (nI ((j15 / 10) - 1)).toInt = (((j15 / 10) - 1 : Nat) : Int) from tn1208_ ()] at w41
                                  try rw [show (nI (B)).toInt = ((B : Nat) : Int) from tn1195_ ()] at w41
                                  subst w41
                                  refine lv_if_eq (tgt := 223) hx hb dX11_layBest_143 rfl (fun c42 => ?_) (fun c42 => ?_)
                                  · skip
                                    have b43 := if10_n c42
                                    exact cut223_32  _ _ hP hD hS ls (lv_sub hl [0, 1, 2, 3, 4, 5] rfl)
                                  · skip
                                    have b44 := if10_p c42
                                    refine lv_iload hx hb dX11_layBest_146 (lv_at hl 0 rfl) ?_
                                    refine lv_iload_n hx hb dX11_layBest_148 rfl (lv_at hl 5 rfl) ?_
                                    have cut171_46 : ∀ (y45 : Int64) (H : Heap) (locs : List Loc), va_P (dC, dI) vwCl [(h0, .inr (11, [.ref st, .int (nI N), .int (nI B), .ref rp, .int vrs, .int vrb, .int vhs, .int vca, .int vxs, .int vxb, .ref tp, .int (nI T), .int vfa, .int vbr, .int vba, .int vsp, .int vhe, .int vtk, .int vva, .ref cu, .ref lt, .ref od, .ref th, .ref be, .ref ln, .int (nI S), .ref ma, .int (nI M), .ref ah, .ref bh, .ref ik, .ref la, .ref lg, .ref ce, .int vto])), (st, .inl (G 0, 196, .inl fst)), (be, .inl (G 1, 770, .inr (.inl g28)))] H → va_D A [(h0, .inr (11, [.ref st, .int (nI N), .int (nI B), .ref rp, .int vrs, .int vrb, .int vhs, .int vca, .int vxs, .int vxb, .ref tp, .int (nI T), .int vfa, .int vbr, .int vba, .int vsp, .int vhe, .int vtk, .int vva, .ref cu, .ref lt, .ref od, .ref th, .ref be, .ref ln, .int (nI S), .ref ma, .int (nI M), .ref ah, .ref bh, .ref ik, .ref la, .ref lg, .ref ce, .int vto])), (st, .inl (G 0, 196, .inl fst)), (be, .inl (G 1, 770, .inr (.inl g28)))] → va_S A s.heap H locs → ∀ (ls : Array Slot), lv_has ls 8 [(5, .int (nI j27)), (4, .int (nI ((j15 / 10) - 1))), (3, .int (nI j15)), (2, .int (nI j8)), (0, .ref h0), (1, .int wo)] → W p l e (headSpec (Cond.code yX11_layBest cX11_layBest 8 none :: GT) ({ frames := 3, cells := 0, slots := 0, locals := 75 } : Room)).room s m ([.ref h0, .int wo] : List Value).toArray below meth c H locs 0 0 (MQ below (va_Qv (fun (u : (Nat → Int64)) => match u with | obe => True) (fun (u : (Nat → Int64)) (t : State) => match u with | obe => va_P (dC, dI) vwCl [(h0, .inr (11, [.ref st, .int (nI N), .int (nI B), .ref rp, .int vrs, .int vrb, .int vhs, .int vca, .int vxs, .int vxb, .ref tp, .int (nI T), .int vfa, .int vbr, .int vba, .int vsp, .int vhe, .int vtk, .int vva, .ref cu, .ref lt, .ref od, .ref th, .ref be, .ref ln, .int (nI S), .ref ma, .int (nI M), .ref ah, .ref bh, .ref ik, .ref la, .ref lg, .ref ce, .int vto])), (st, .inl (G 0, 196, .inl fst)), (be, .inl (G 1, 770, .inr (.inl obe)))] t.heap ∧ va_D A [(h0, .inr (11, [.ref st, .int (nI N), .int (nI B), .ref rp, .int vrs, .int vrb, .int vhs, .int vca, .int vxs, .int vxb, .ref tp, .int (nI T), .int vfa, .int vbr, .int vba, .int vsp, .int vhe, .int vtk, .int vva, .ref cu, .ref lt, .ref od, .ref th, .ref be, .ref ln, .int (nI S), .ref ma, .int (nI M), .ref ah, .ref bh, .ref ik, .ref la, .ref lg, .ref ce, .int vto])), (st, .inl (G 0, 196, .inl fst)), (be, .inl (G 1, 770, .inr (.inl obe)))]) A) ([.ref h0, .int wo] : List Value).toArray s 0 0 A) (F0 m 171 ls [.long y45]) := by
                                      intro y45 H locs hP hD hS ls hl
                                      refine lv_lstore (lv' := [(6, .long y45), (5, .int (nI j27)), (4, .int (nI ((j15 / 10) - 1))), (3, .int (nI j15)), (2, .int (nI j8)), (0, .ref h0), (1, .int wo)]) hx hb dX11_layBest_171 hl (by decide) rfl (fun ls hl => ?_)
                                      refine lv_aload_n hx hb dX11_layBest_173 rfl (lv_at hl 5 rfl) ?_
                                      refine va_get (D := (dC, dI)) (ci := 11) (v := .ref be) (C := RX11) (T := TX11) (N := 35) hx hb hg inG11 hown hK.1 hP 0 rfl rfl 23 (Nat.le_of_ble_eq_true rfl) (hg _ wt_901) (fun _ h9 => h9) rfl dX11_layBest_174 ?_
                                      refine lv_bipush (v := 70) hx hb dX11_layBest_177 rfl ?_
                                      refine lv_iload_n hx hb dX11_layBest_179 rfl (lv_at hl 4 rfl) ?_
                                      refine lv_imul hx hb dX11_layBest_180 ?_
                                      refine lv_cg (y := nI (70 * j8)) (by rw [show (70 : Int32) = nI 70 from rfl]; exact pk_mul _ _) ?_
                                      refine lv_iload_n hx hb dX11_layBest_181 rfl (lv_at hl 3 rfl) ?_
                                      refine lv_iadd hx hb dX11_layBest_182 ?_
                                      refine lv_cg (y := nI ((70 * j8) + j15)) (by exact nI_add _ _) ?_
                                      refine lv_lload hx hb dX11_layBest_183 (lv_at hl 0 rfl) ?_
                                      refine lv_aload_n hx hb dX11_layBest_185 rfl (lv_at hl 5 rfl) ?_
                                      refine va_get (D := (dC, dI)) (ci := 11) (v := .ref be) (C := RX11) (T := TX11) (N := 35) hx hb hg inG11 hown hK.1 hP 0 rfl rfl 23 (Nat.le_of_ble_eq_true rfl) (hg _ wt_901) (fun _ h9 => h9) rfl dX11_layBest_186 ?_
                                      refine lv_bipush (v := 70) hx hb dX11_layBest_189 rfl ?_
                                      refine lv_iload_n hx hb dX11_layBest_191 rfl (lv_at hl 4 rfl) ?_
                                      refine lv_imul hx hb dX11_layBest_192 ?_
                                      refine lv_cg (y := nI (70 * j8)) (by rw [show (70 : Int32) = nI 70 from rfl]; exact pk_mul _ _) ?_
                                      refine lv_iload_n hx hb dX11_layBest_193 rfl (lv_at hl 3 rfl) ?_
                                      refine lv_iadd hx hb dX11_layBest_194 ?_
                                      refine lv_cg (y := nI ((70 * j8) + j15)) (by exact nI_add _ _) ?_
                                      refine va_lald hx hb hK.1 hP 2 1 rfl rfl (vp_in_nI (by first | omega | (have t_hj5 := hj5; have t_n7 := n7; have t_hj11 := hj11; have t_n14 := n14; have t_hj19 := hj19; have t_n22 := n22; have t_n24 := n24; have t_hj31 := hj31; have t_n35 := n35; have t_n38 := n38; have t_c39 := neI c39; have t_b44 := b44; have : ((-4) : Int32).toInt = -4 := qI_m4; have t_n0 : (nI N).toInt = (N : Int) := tn1194_ (); have t_n1 : (nI B).toInt = (B : Int) := tn1195_ (); have t_n2 : (nI T).toInt = (T : Int) := tn1196_ (); have t_n3 : (nI S).toInt = (S : Int) := tn1197_ (); have t_n4 : (nI M).toInt = (M : Int) := tn1198_ (); have t_n5 : (nI j1).toInt = (j1 : Int) := tn1199_ (); have t_n6 : (nI j8).toInt = (j8 : Int) := tn1201_ (); have t_n7 : (nI j15).toInt = (j15 : Int) := tn1203_ (); have t_n8 : (nI ((j15 / 10) - 1)).toInt = ((((j15 / 10) - 1) : Nat) : Int) := nI_toInt (by omega); have t_n9 : (nI j27).toInt = (j27 : Int) := tn1205_ (); omega)) (by decide)) dX11_layBest_195 ?_
                                      refine lv_cgl (y := g28 ((70 * j8) + j15)) (by rw [nI_clamp (by omega)]) ?_
                                      refine W.lcmp hx hb dX11_layBest_196 ?_
                                      have cut216_48 : ∀ (y47 : Int64) (H : Heap) (locs : List Loc), va_P (dC, dI) vwCl [(h0, .inr (11, [.ref st, .int (nI N), .int (nI B), .ref rp, .int vrs, .int vrb, .int vhs, .int vca, .int vxs, .int vxb, .ref tp, .int (nI T), .int vfa, .int vbr, .int vba, .int vsp, .int vhe, .int vtk, .int vva, .ref cu, .ref lt, .ref od, .ref th, .ref be, .ref ln, .int (nI S), .ref ma, .int (nI M), .ref ah, .ref bh, .ref ik, .ref la, .ref lg, .ref ce, .int vto])), (st, .inl (G 0, 196, .inl fst)), (be, .inl (G 1, 770, .inr (.inl g28)))] H → va_D A [(h0, .inr (11, [.ref st, .int (nI N), .int (nI B), .ref rp, .int vrs, .int vrb, .int vhs, .int vca, .int vxs, .int vxb, .ref tp, .int (nI T), .int vfa, .int vbr, .int vba, .int vsp, .int vhe, .int vtk, .int vva, .ref cu, .ref lt, .ref od, .ref th, .ref be, .ref ln, .int (nI S), .ref ma, .int (nI M), .ref ah, .ref bh, .ref ik, .ref la, .ref lg, .ref ce, .int vto])), (st, .inl (G 0, 196, .inl fst)), (be, .inl (G 1, 770, .inr (.inl g28)))] → va_S A s.heap H locs → ∀ (ls : Array Slot), lv_has ls 8 [(6, .long y45), (5, .int (nI j27)), (4, .int (nI ((j15 / 10) - 1))), (3, .int (nI j15)), (2, .int (nI j8)), (0, .ref h0), (1, .int wo)] → W p l e (headSpec (Cond.code yX11_layBest cX11_layBest 8 none :: GT) ({ frames := 3, cells := 0, slots := 0, locals := 75 } : Room)).room s m ([.ref h0, .int wo] : List Value).toArray below meth c H locs 0 0 (MQ below (va_Qv (fun (u : (Nat → Int64)) => match u with | obe => True) (fun (u : (Nat → Int64)) (t : State) => match u with | obe => va_P (dC, dI) vwCl [(h0, .inr (11, [.ref st, .int (nI N), .int (nI B), .ref rp, .int vrs, .int vrb, .int vhs, .int vca, .int vxs, .int vxb, .ref tp, .int (nI T), .int vfa, .int vbr, .int vba, .int vsp, .int vhe, .int vtk, .int vva, .ref cu, .ref lt, .ref od, .ref th, .ref be, .ref ln, .int (nI S), .ref ma, .int (nI M), .ref ah, .ref bh, .ref ik, .ref la, .ref lg, .ref ce, .int vto])), (st, .inl (G 0, 196, .inl fst)), (be, .inl (G 1, 770, .inr (.inl obe)))] t.heap ∧ va_D A [(h0, .inr (11, [.ref st, .int (nI N), .int (nI B), .ref rp, .int vrs, .int vrb, .int vhs, .int vca, .int vxs, .int vxb, .ref tp, .int (nI T), .int vfa, .int vbr, .int vba, .int vsp, .int vhe, .int vtk, .int vva, .ref cu, .ref lt, .ref od, .ref th, .ref be, .ref ln, .int (nI S), .ref ma, .int (nI M), .ref ah, .ref bh, .ref ik, .ref la, .ref lg, .ref ce, .int vto])), (st, .inl (G 0, 196, .inl fst)), (be, .inl (G 1, 770, .inr (.inl obe)))]) A) ([.ref h0, .int wo] : List Value).toArray s 0 0 A) (F0 m 216 ls [.long y47, .int (nI ((70 * j8) + j15)), .ref be]) := by
                                        intro y47 H locs hP hD hS ls hl
                                        refine va_last hx hb hK.1 hP hD hS 2 1 rfl rfl (vp_in_nI (by first | omega | (have t_hj5 := hj5; have t_n7 := n7; have t_hj11 := hj11; have t_n14 := n14; have t_hj19 := hj19; have t_n22 := n22; have t_n24 := n24; have t_hj31 := hj31; have t_n35 := n35; have t_n38 := n38; have t_c39 := neI c39; have t_b44 := b44; have : ((-4) : Int32).toInt = -4 := qI_m4; have t_n0 : (nI N).toInt = (N : Int) := tn1194_ (); have t_n1 : (nI B).toInt = (B : Int) := tn1195_ (); have t_n2 : (nI T).toInt = (T : Int) := tn1196_ (); have t_n3 : (nI S).toInt = (S : Int) := tn1197_ (); have t_n4 : (nI M).toInt = (M : Int) := tn1198_ (); have t_n5 : (nI j1).toInt = (j1 : Int) := tn1199_ (); have t_n6 : (nI j8).toInt = (j8 : Int) := tn1201_ (); have t_n7 : (nI j15).toInt = (j15 : Int) := tn1203_ (); have t_n8 : (nI ((j15 / 10) - 1)).toInt = ((((j15 / 10) - 1) : Nat) : Int) := nI_toInt (by omega); have t_n9 : (nI j27).toInt = (j27 : Int) := tn1205_ (); omega)) (by decide)) dX11_layBest_216 (fun H locs hP hD hS => ?_)
                                        rw [nI_clamp (by omega)] at hP hD
                                        refine lv_iinc (v := nI (j27 + 1)) (lv' := [(5, .int (nI (j27 + 1))), (6, .long y45), (4, .int (nI ((j15 / 10) - 1))), (3, .int (nI j15)), (2, .int (nI j8)), (0, .ref h0), (1, .int wo)]) hx hb dX11_layBest_217 hl (k := 1) rfl (by rw [show Int32.ofInt 1 = nI 1 from by decide]; exact nI_add _ _) (by decide) rfl (fun ls hl => ?_)
                                        refine lv_goto (tgt := 114) hx hb dX11_layBest_220 rfl ?_
                                        exact ih114_29 (j27 + 1) (by omega) (by omega) (vp_updL g28 ((70 * j8) + j15) y47) _ _ hP hD hS ls (lv_sub hl [0, 2, 3, 4, 5, 6] rfl)
                                      refine lv_if_ge (tgt := 205) hx hb dX11_layBest_197 rfl (fun c49 => ?_) (fun c49 => ?_)
                                      · skip
                                        refine lv_aload_n hx hb dX11_layBest_205 rfl (lv_at hl 5 rfl) ?_
                                        refine va_get (D := (dC, dI)) (ci := 11) (v := .ref be) (C := RX11) (T := TX11) (N := 35) hx hb hg inG11 hown hK.1 hP 0 rfl rfl 23 (Nat.le_of_ble_eq_true rfl) (hg _ wt_901) (fun _ h9 => h9) rfl dX11_layBest_206 ?_
                                        refine lv_bipush (v := 70) hx hb dX11_layBest_209 rfl ?_
                                        refine lv_iload_n hx hb dX11_layBest_211 rfl (lv_at hl 4 rfl) ?_
                                        refine lv_imul hx hb dX11_layBest_212 ?_
                                        refine lv_cg (y := nI (70 * j8)) (by rw [show (70 : Int32) = nI 70 from rfl]; exact pk_mul _ _) ?_
                                        refine lv_iload_n hx hb dX11_layBest_213 rfl (lv_at hl 3 rfl) ?_
                                        refine lv_iadd hx hb dX11_layBest_214 ?_
                                        refine lv_cg (y := nI ((70 * j8) + j15)) (by exact nI_add _ _) ?_
                                        refine va_lald hx hb hK.1 hP 2 1 rfl rfl (vp_in_nI (by first | omega | (have t_hj5 := hj5; have t_n7 := n7; have t_hj11 := hj11; have t_n14 := n14; have t_hj19 := hj19; have t_n22 := n22; have t_n24 := n24; have t_hj31 := hj31; have t_n35 := n35; have t_n38 := n38; have t_c39 := neI c39; have t_b44 := b44; have t_c49 := lcm_ge_t c49; have : ((-4) : Int32).toInt = -4 := qI_m4; have t_n0 : (nI N).toInt = (N : Int) := tn1194_ (); have t_n1 : (nI B).toInt = (B : Int) := tn1195_ (); have t_n2 : (nI T).toInt = (T : Int) := tn1196_ (); have t_n3 : (nI S).toInt = (S : Int) := tn1197_ (); have t_n4 : (nI M).toInt = (M : Int) := tn1198_ (); have t_n5 : (nI j1).toInt = (j1 : Int) := tn1199_ (); have t_n6 : (nI j8).toInt = (j8 : Int) := tn1201_ (); have t_n7 : (nI j15).toInt = (j15 : Int) := tn1203_ (); have t_n8 : (nI ((j15 / 10) - 1)).toInt = ((((j15 / 10) - 1) : Nat) : Int) := nI_toInt (by omega); have t_n9 : (nI j27).toInt = (j27 : Int) := tn1205_ (); omega)) (by decide)) dX11_layBest_215 ?_
                                        refine lv_cgl (y := g28 ((70 * j8) + j15)) (by rw [nI_clamp (by omega)]) ?_
                                        exact cut216_48 (g28 ((70 * j8) + j15)) _ _ hP hD hS ls (lv_sub hl [0, 1, 2, 3, 4, 5, 6] rfl)
                                      · skip
                                        refine lv_lload hx hb dX11_layBest_200 (lv_at hl 0 rfl) ?_
                                        refine lv_goto (tgt := 216) hx hb dX11_layBest_202 rfl ?_
                                        exact cut216_48 y45 _ _ hP hD hS ls (lv_sub hl [0, 1, 2, 3, 4, 5, 6] rfl)
                                    refine lv_icmp_ne (tgt := 158) hx hb dX11_layBest_149 rfl (fun c50 => ?_) (fun c50 => ?_)
                                    · skip
                                      refine lv_aload_n hx hb dX11_layBest_158 rfl (lv_at hl 4 rfl) ?_
                                      refine lv_iload_n hx hb dX11_layBest_159 rfl (lv_at hl 3 rfl) ?_
                                      refine lv_iload hx hb dX11_layBest_160 (lv_at hl 1 rfl) ?_
                                      refine lv_iload_n hx hb dX11_layBest_162 rfl (lv_at hl 2 rfl) ?_
                                      refine lv_bipush (v := 10) hx hb dX11_layBest_163 rfl ?_
                                      refine lv_irem hx hb dX11_layBest_165 (by decide) ?_
                                      refine lv_cg (y := nI (j15 % 10)) (by rw [show (10 : Int32) = nI 10 from rfl]; exact pk_rem (by omega) (by omega) (by omega)) ?_
                                      refine lv_iload hx hb dX11_layBest_166 (lv_at hl 0 rfl) ?_
                                      have hPc := hP.sub (ws' := [(h0, .inr (11, [.ref st, .int (nI N), .int (nI B), .ref rp, .int vrs, .int vrb, .int vhs, .int vca, .int vxs, .int vxb, .ref tp, .int (nI T), .int vfa, .int vbr, .int vba, .int vsp, .int vhe, .int vtk, .int vva, .ref cu, .ref lt, .ref od, .ref th, .ref be, .ref ln, .int (nI S), .ref ma, .int (nI M), .ref ah, .ref bh, .ref ik, .ref la, .ref lg, .ref ce, .int vto])), (st, .inl (G 0, 196, .inl fst)), (be, .inl (G 1, 770, .inr (.inl g28)))]) [0, 1, 2] rfl
                                      refine va_calll (va_runV (As := [.int (nI j8), .int (nI ((j15 / 10) - 1)), .int (nI (j15 % 10)), .int (nI j27)]) (rest := []) ⟨hx, hb, hml, hown, hg⟩ (c_X11_byOneB l dC dI G _ h0 j8 ((j15 / 10) - 1) (j15 % 10) j27 st N B rp tp T cu lt od th be ln S ma M ah bh ik la lg ce vrs vrb vhs vca vxs vxb vfa vbr vba vsp vhe vtk vva vto fst g28 hN hB_ hT_ hS0 hM_ (by first | omega | (have t_hj5 := hj5; have t_n7 := n7; have t_hj11 := hj11; have t_n14 := n14; have t_hj19 := hj19; have t_n22 := n22; have t_n24 := n24; have t_hj31 := hj31; have t_n35 := n35; have t_n38 := n38; have t_c39 := neI c39; have t_b44 := b44; have t_c50 := neI c50; have : ((-4) : Int32).toInt = -4 := qI_m4; have t_n0 : (nI N).toInt = (N : Int) := tn1194_ (); have t_n1 : (nI B).toInt = (B : Int) := tn1195_ (); have t_n2 : (nI T).toInt = (T : Int) := tn1196_ (); have t_n3 : (nI S).toInt = (S : Int) := tn1197_ (); have t_n4 : (nI M).toInt = (M : Int) := tn1198_ (); have t_n5 : (nI j1).toInt = (j1 : Int) := tn1199_ (); have t_n6 : (nI j8).toInt = (j8 : Int) := tn1201_ (); have t_n7 : (nI j15).toInt = (j15 : Int) := tn1203_ (); have t_n8 : (nI ((j15 / 10) - 1)).toInt = ((((j15 / 10) - 1) : Nat) : Int) := nI_toInt (by omega); have t_n9 : (nI j27).toInt = (j27 : Int) := tn1205_ (); omega)) (by first | omega | (have t_hj5 := hj5; have t_n7 := n7; have t_hj11 := hj11; have t_n14 := n14; have t_hj19 := hj19; have t_n22 := n22; have t_n24 := n24; have t_hj31 := hj31; have t_n35 := n35; have t_n38 := n38; have t_c39 := neI c39; have t_b44 := b44; have t_c50 := neI c50; have : ((-4) : Int32).toInt = -4 := qI_m4; have t_n0 : (nI N).toInt = (N : Int) := tn1194_ (); have t_n1 : (nI B).toInt = (B : Int) := tn1195_ (); have t_n2 : (nI T).toInt = (T : Int) := tn1196_ (); have t_n3 : (nI S).toInt = (S : Int) := tn1197_ (); have t_n4 : (nI M).toInt = (M : Int) := tn1198_ (); have t_n5 : (nI j1).toInt = (j1 : Int) := tn1199_ (); have t_n6 : (nI j8).toInt = (j8 : Int) := tn1201_ (); have t_n7 : (nI j15).toInt = (j15 : Int) := tn1203_ (); have t_n8 : (nI ((j15 / 10) - 1)).toInt = ((((j15 / 10) - 1) : Nat) : Int) := nI_toInt (by omega); have t_n9 : (nI j27).toInt = (j27 : Int) := tn1205_ (); omega)) (by first | omega | (have t_hj5 := hj5; have t_n7 := n7; have t_hj11 := hj11; have t_n14 := n14; have t_hj19 := hj19; have t_n22 := n22; have t_n24 := n24; have t_hj31 := hj31; have t_n35 := n35; have t_n38 := n38; have t_c39 := neI c39; have t_b44 := b44; have t_c50 := neI c50; have : ((-4) : Int32).toInt = -4 := qI_m4; have t_n0 : (nI N).toInt = (N : Int) := tn1194_ (); have t_n1 : (nI B).toInt = (B : Int) := tn1195_ (); have t_n2 : (nI T).toInt = (T : Int) := tn1196_ (); have t_n3 : (nI S).toInt = (S : Int) := tn1197_ (); have t_n4 : (nI M).toInt = (M : Int) := tn1198_ (); have t_n5 : (nI j1).toInt = (j1 : Int) := tn1199_ (); have t_n6 : (nI j8).toInt = (j8 : Int) := tn1201_ (); have t_n7 : (nI j15).toInt = (j15 : Int) := tn1203_ (); have t_n8 : (nI ((j15 / 10) - 1)).toInt = ((((j15 / 10) - 1) : Nat) : Int) := nI_toInt (by omega); have t_n9 : (nI j27).toInt = (j27 : Int) := tn1205_ (); omega)) (by first | omega | (have t_hj5 := hj5; have t_n7 := n7; have t_hj11 := hj11; have t_n14 := n14; have t_hj19 := hj19; have t_n22 := n22; have t_n24 := n24; have t_hj31 := hj31; have t_n35 := n35; have t_n38 := n38; have t_c39 := neI c39; have t_b44 := b44; have t_c50 := neI c50; have : ((-4) : Int32).toInt = -4 := qI_m4; have t_n0 : (nI N).toInt = (N : Int) := tn1194_ (); have t_n1 : (nI B).toInt = (B : Int) := tn1195_ (); have t_n2 : (nI T).toInt = (T : Int) := tn1196_ (); have t_n3 : (nI S).toInt = (S : Int) := tn1197_ (); have t_n4 : (nI M).toInt = (M : Int) := tn1198_ (); have t_n5 : (nI j1).toInt = (j1 : Int) := tn1199_ (); have t_n6 : (nI j8).toInt = (j8 : Int) := tn1201_ (); have t_n7 : (nI j15).toInt = (j15 : Int) := tn1203_ (); have t_n8 : (nI ((j15 / 10) - 1)).toInt = ((((j15 / 10) - 1) : Nat) : Int) := nI_toInt (by omega); have t_n9 : (nI j27).toInt = (j27 : Int) := tn1205_ (); omega))) (kwV hg mfX11_byOne wt_1155 ⟨Nat.le_of_ble_eq_true rfl, Nat.le_of_ble_eq_true rfl⟩) (preVR hK hPc (ci := 11) rfl rfl) rfl rfl hl.1 rfl (lv_room (Nat.le_of_ble_eq_true rfl)) dX11_layBest_168 ⟨Nat.le_of_ble_eq_true rfl, Nat.le_of_ble_eq_true rfl⟩) hS (fun q h1 h2 => absurd h2 (Nat.not_le.mpr h1)) (fun q h => hA q (Nat.le_trans hS.1 h)) (fun r51 ur51 t H1 locs ht hvm w52 hB hz1 hk1 hS => ?_)
                                      have hP := keepR hP hk1
                                      obtain ⟨w52, w52x⟩ := w52
                                      subst w52
                                      exact cut171_46 (b1B fst g28 j8 ((j15 / 10) - 1) (j15 % 10) j27) _ _ hP hD hS ls (lv_sub hl [0, 1, 2, 3, 4, 5] rfl)
                                    · skip
                                      refine lv_ldc2 (v := 4000000000000000000) hx hb hown (hg _ wt_1154) dX11_layBest_152 ?_
                                      refine lv_goto (tgt := 171) hx hb dX11_layBest_155 rfl ?_
                                      exact cut171_46 4000000000000000000 _ _ hP hD hS ls (lv_sub hl [0, 1, 2, 3, 4, 5] rfl)
                        exact loop114_29 (B + 1) 0 (by omega) (by omega) (vp_updL g16 ((70 * j8) + j15) y25) _ _ hP hD hS ls (lv_sub hl [0, 1, 2, 3, 4, 5] rfl)
                      refine lv_if_ne (tgt := 107) hx hb dX11_layBest_92 rfl (fun c53 => ?_) (fun c53 => ?_)
                      · skip
                        have tn1209_ : nIT (j15 % 10) := fun _ => nI_toInt (by first | omega | (have t := neI c53; omega))
                        have n54 : (j15 % 10) ≠ 0 := by have t := neI c53; rw [show (nI (j15 % 10)).toInt = ((j15 % 10 : Nat) : Int) from tn1209_ ()] at t; have : (0 : Int32).toInt = 0 := qI_0; omega
                        refine lv_ldc2 (v := 4000000000000000000) hx hb hown (hg _ wt_1154) dX11_layBest_107 ?_
                        exact cut110_26 4000000000000000000 _ _ hP hD hS ls (lv_sub hl [0, 1, 2, 3, 4] rfl)
                      · skip
                        have tn1210_ : nIT (j15 % 10) := fun _ => nI_toInt (by first | omega | (have t := eqI c53; omega))
                        have n55 : (j15 % 10) = 0 := by have t := eqI c53; rw [show (nI (j15 % 10)).toInt = ((j15 % 10 : Nat) : Int) from tn1210_ ()] at t; have : (0 : Int32).toInt = 0 := qI_0; omega
                        refine lv_aload_n hx hb dX11_layBest_95 rfl (lv_at hl 3 rfl) ?_
                        refine va_get (D := (dC, dI)) (ci := 11) (v := .int (nI N)) (C := RX11) (T := TX11) (N := 35) hx hb hg inG11 hown hK.1 hP 0 rfl rfl 1 (Nat.le_of_ble_eq_true rfl) (hg _ wt_879) (fun _ h9 => h9) rfl dX11_layBest_96 ?_
                        refine lv_iload_n hx hb dX11_layBest_99 rfl (lv_at hl 2 rfl) ?_
                        refine lv_isub hx hb dX11_layBest_100 ?_
                        refine lv_cg (y := nI (N - j8)) (by exact pk_sub (by have t_hj5 := hj5; have t_n7 := n7; have t_hj11 := hj11; have t_n14 := n14; have t_hj19 := hj19; have t_n22 := n22; have t_n24 := n24; have t_n55 := n55; have t_n0 : (nI N).toInt = (N : Int) := tn1194_ (); have t_n1 : (nI B).toInt = (B : Int) := tn1195_ (); have t_n2 : (nI T).toInt = (T : Int) := tn1196_ (); have t_n3 : (nI S).toInt = (S : Int) := tn1197_ (); have t_n4 : (nI M).toInt = (M : Int) := tn1198_ (); have t_n5 : (nI j1).toInt = (j1 : Int) := tn1199_ (); have t_n6 : (nI j8).toInt = (j8 : Int) := tn1201_ (); have t_n7 : (nI j15).toInt = (j15 : Int) := tn1203_ (); have t_n8 : (nI ((j15 / 10) - 1)).toInt = ((((j15 / 10) - 1) : Nat) : Int) := nI_toInt (by omega); omega)) ?_
                        have hPc := hP.sub (ws' := []) [] rfl
                        refine va_calll (va_runS (As := [.int (nI (N - j8))]) (rest := [.int (nI ((70 * j8) + j15)), .ref be]) ⟨hx, hb, hml, hown, hg⟩ (c_X11_power l dC dI G _ (N - j8) (by first | omega | (have t_hj5 := hj5; have t_n7 := n7; have t_hj11 := hj11; have t_n14 := n14; have t_hj19 := hj19; have t_n22 := n22; have t_n24 := n24; have t_n55 := n55; have t_n0 : (nI N).toInt = (N : Int) := tn1194_ (); have t_n1 : (nI B).toInt = (B : Int) := tn1195_ (); have t_n2 : (nI T).toInt = (T : Int) := tn1196_ (); have t_n3 : (nI S).toInt = (S : Int) := tn1197_ (); have t_n4 : (nI M).toInt = (M : Int) := tn1198_ (); have t_n5 : (nI j1).toInt = (j1 : Int) := tn1199_ (); have t_n6 : (nI j8).toInt = (j8 : Int) := tn1201_ (); have t_n7 : (nI j15).toInt = (j15 : Int) := tn1203_ (); have t_n8 : (nI ((j15 / 10) - 1)).toInt = ((((j15 / 10) - 1) : Nat) : Int) := nI_toInt (by omega); omega))) (kwS hg mfX11_power wt_1131 ⟨Nat.le_of_ble_eq_true rfl, Nat.le_of_ble_eq_true rfl⟩) (preSR hK hPc) rfl rfl hl.1 rfl (lv_room (Nat.le_of_ble_eq_true rfl)) dX11_layBest_101 ⟨Nat.le_of_ble_eq_true rfl, Nat.le_of_ble_eq_true rfl⟩) hS (fun q h1 h2 => absurd h2 (Nat.not_le.mpr h1)) (fun q h => hA q (Nat.le_trans hS.1 h)) (fun r56 ur56 t H1 locs ht hvm w57 hB hz1 hk1 hS => ?_)
                        have hP := keepR hP hk1
                        obtain ⟨w57, w57x⟩ := w57
                        subst w57
                        refine lv_goto (tgt := 110) hx hb dX11_layBest_104 rfl ?_
                        exact cut110_26 (powF (N - j8)) _ _ hP hD hS ls (lv_sub hl [0, 1, 2, 3, 4] rfl)
                    · skip
                      have n58 : j15 < 10 := by have t := nleI c23; rw [show (nI (j15)).toInt = ((j15 : Nat) : Int) from tn1203_ ()] at t; have : (10 : Int32).toInt = 10 := qI_10; omega
                      refine lv_bipush (v := (-4)) hx hb dX11_layBest_65 rfl ?_
                      refine lv_goto (tgt := 76) hx hb dX11_layBest_67 rfl ?_
                      refine lv_istore (lv' := [(4, .int (-4)), (3, .int (nI j15)), (2, .int (nI j8)), (0, .ref h0), (1, .int wo)]) hx hb dX11_layBest_76 hl (by decide) rfl (fun ls hl => ?_)
                      refine lv_aload_n hx hb dX11_layBest_78 rfl (lv_at hl 3 rfl) ?_
                      refine va_get (D := (dC, dI)) (ci := 11) (v := .ref be) (C := RX11) (T := TX11) (N := 35) hx hb hg inG11 hown hK.1 hP 0 rfl rfl 23 (Nat.le_of_ble_eq_true rfl) (hg _ wt_901) (fun _ h9 => h9) rfl dX11_layBest_79 ?_
                      refine lv_bipush (v := 70) hx hb dX11_layBest_82 rfl ?_
                      refine lv_iload_n hx hb dX11_layBest_84 rfl (lv_at hl 2 rfl) ?_
                      refine lv_imul hx hb dX11_layBest_85 ?_
                      refine lv_cg (y := nI (70 * j8)) (by rw [show (70 : Int32) = nI 70 from rfl]; exact pk_mul _ _) ?_
                      refine lv_iload_n hx hb dX11_layBest_86 rfl (lv_at hl 1 rfl) ?_
                      refine lv_iadd hx hb dX11_layBest_87 ?_
                      refine lv_cg (y := nI ((70 * j8) + j15)) (by exact nI_add _ _) ?_
                      refine lv_iload_n hx hb dX11_layBest_88 rfl (lv_at hl 1 rfl) ?_
                      refine lv_bipush (v := 10) hx hb dX11_layBest_89 rfl ?_
                      refine lv_irem hx hb dX11_layBest_91 (by decide) ?_
                      refine lv_cg (y := nI (j15 % 10)) (by rw [show (10 : Int32) = nI 10 from rfl]; exact pk_rem (by omega) (by omega) (by omega)) ?_
                      have cut110_60 : ∀ (y59 : Int64) (H : Heap) (locs : List Loc), va_P (dC, dI) vwCl [(h0, .inr (11, [.ref st, .int (nI N), .int (nI B), .ref rp, .int vrs, .int vrb, .int vhs, .int vca, .int vxs, .int vxb, .ref tp, .int (nI T), .int vfa, .int vbr, .int vba, .int vsp, .int vhe, .int vtk, .int vva, .ref cu, .ref lt, .ref od, .ref th, .ref be, .ref ln, .int (nI S), .ref ma, .int (nI M), .ref ah, .ref bh, .ref ik, .ref la, .ref lg, .ref ce, .int vto])), (st, .inl (G 0, 196, .inl fst)), (be, .inl (G 1, 770, .inr (.inl g16)))] H → va_D A [(h0, .inr (11, [.ref st, .int (nI N), .int (nI B), .ref rp, .int vrs, .int vrb, .int vhs, .int vca, .int vxs, .int vxb, .ref tp, .int (nI T), .int vfa, .int vbr, .int vba, .int vsp, .int vhe, .int vtk, .int vva, .ref cu, .ref lt, .ref od, .ref th, .ref be, .ref ln, .int (nI S), .ref ma, .int (nI M), .ref ah, .ref bh, .ref ik, .ref la, .ref lg, .ref ce, .int vto])), (st, .inl (G 0, 196, .inl fst)), (be, .inl (G 1, 770, .inr (.inl g16)))] → va_S A s.heap H locs → ∀ (ls : Array Slot), lv_has ls 8 [(4, .int (-4)), (3, .int (nI j15)), (2, .int (nI j8)), (0, .ref h0), (1, .int wo)] → W p l e (headSpec (Cond.code yX11_layBest cX11_layBest 8 none :: GT) ({ frames := 3, cells := 0, slots := 0, locals := 75 } : Room)).room s m ([.ref h0, .int wo] : List Value).toArray below meth c H locs 0 0 (MQ below (va_Qv (fun (u : (Nat → Int64)) => match u with | obe => True) (fun (u : (Nat → Int64)) (t : State) => match u with | obe => va_P (dC, dI) vwCl [(h0, .inr (11, [.ref st, .int (nI N), .int (nI B), .ref rp, .int vrs, .int vrb, .int vhs, .int vca, .int vxs, .int vxb, .ref tp, .int (nI T), .int vfa, .int vbr, .int vba, .int vsp, .int vhe, .int vtk, .int vva, .ref cu, .ref lt, .ref od, .ref th, .ref be, .ref ln, .int (nI S), .ref ma, .int (nI M), .ref ah, .ref bh, .ref ik, .ref la, .ref lg, .ref ce, .int vto])), (st, .inl (G 0, 196, .inl fst)), (be, .inl (G 1, 770, .inr (.inl obe)))] t.heap ∧ va_D A [(h0, .inr (11, [.ref st, .int (nI N), .int (nI B), .ref rp, .int vrs, .int vrb, .int vhs, .int vca, .int vxs, .int vxb, .ref tp, .int (nI T), .int vfa, .int vbr, .int vba, .int vsp, .int vhe, .int vtk, .int vva, .ref cu, .ref lt, .ref od, .ref th, .ref be, .ref ln, .int (nI S), .ref ma, .int (nI M), .ref ah, .ref bh, .ref ik, .ref la, .ref lg, .ref ce, .int vto])), (st, .inl (G 0, 196, .inl fst)), (be, .inl (G 1, 770, .inr (.inl obe)))]) A) ([.ref h0, .int wo] : List Value).toArray s 0 0 A) (F0 m 110 ls [.long y59, .int (nI ((70 * j8) + j15)), .ref be]) := by
                        intro y59 H locs hP hD hS ls hl
                        refine va_last hx hb hK.1 hP hD hS 2 1 rfl rfl (vp_in_nI (by first | omega | (have t_hj5 := hj5; have t_n7 := n7; have t_hj11 := hj11; have t_n14 := n14; have t_hj19 := hj19; have t_n22 := n22; have t_n58 := n58; have t_n0 : (nI N).toInt = (N : Int) := tn1194_ (); have t_n1 : (nI B).toInt = (B : Int) := tn1195_ (); have t_n2 : (nI T).toInt = (T : Int) := tn1196_ (); have t_n3 : (nI S).toInt = (S : Int) := tn1197_ (); have t_n4 : (nI M).toInt = (M : Int) := tn1198_ (); have t_n5 : (nI j1).toInt = (j1 : Int) := tn1199_ (); have t_n6 : (nI j8).toInt = (j8 : Int) := tn1201_ (); have t_n7 : (nI j15).toInt = (j15 : Int) := tn1203_ (); omega)) (by decide)) dX11_layBest_110 (fun H locs hP hD hS => ?_)
                        rw [nI_clamp (by omega)] at hP hD
                        refine lv_iconst (v := 0) hx hb dX11_layBest_111 rfl ?_
                        refine lv_istore (lv' := [(5, .int 0), (4, .int (-4)), (3, .int (nI j15)), (2, .int (nI j8)), (0, .ref h0), (1, .int wo)]) hx hb dX11_layBest_112 hl (by decide) rfl (fun ls hl => ?_)
                        have loop114_63 : ∀ (nf j61 : Nat), B + 1 ≤ j61 + nf → j61 ≤ B → ∀ (g62 : Nat → Int64) (H : Heap) (locs : List Loc), va_P (dC, dI) vwCl [(h0, .inr (11, [.ref st, .int (nI N), .int (nI B), .ref rp, .int vrs, .int vrb, .int vhs, .int vca, .int vxs, .int vxb, .ref tp, .int (nI T), .int vfa, .int vbr, .int vba, .int vsp, .int vhe, .int vtk, .int vva, .ref cu, .ref lt, .ref od, .ref th, .ref be, .ref ln, .int (nI S), .ref ma, .int (nI M), .ref ah, .ref bh, .ref ik, .ref la, .ref lg, .ref ce, .int vto])), (st, .inl (G 0, 196, .inl fst)), (be, .inl (G 1, 770, .inr (.inl g62)))] H → va_D A [(h0, .inr (11, [.ref st, .int (nI N), .int (nI B), .ref rp, .int vrs, .int vrb, .int vhs, .int vca, .int vxs, .int vxb, .ref tp, .int (nI T), .int vfa, .int vbr, .int vba, .int vsp, .int vhe, .int vtk, .int vva, .ref cu, .ref lt, .ref od, .ref th, .ref be, .ref ln, .int (nI S), .ref ma, .int (nI M), .ref ah, .ref bh, .ref ik, .ref la, .ref lg, .ref ce, .int vto])), (st, .inl (G 0, 196, .inl fst)), (be, .inl (G 1, 770, .inr (.inl g62)))] → va_S A s.heap H locs → ∀ (ls : Array Slot), lv_has ls 8 [(5, .int (nI j61)), (4, .int (-4)), (3, .int (nI j15)), (2, .int (nI j8)), (0, .ref h0), (1, .int wo)] → W p l e (headSpec (Cond.code yX11_layBest cX11_layBest 8 none :: GT) ({ frames := 3, cells := 0, slots := 0, locals := 75 } : Room)).room s m ([.ref h0, .int wo] : List Value).toArray below meth c H locs 0 0 (MQ below (va_Qv (fun (u : (Nat → Int64)) => match u with | obe => True) (fun (u : (Nat → Int64)) (t : State) => match u with | obe => va_P (dC, dI) vwCl [(h0, .inr (11, [.ref st, .int (nI N), .int (nI B), .ref rp, .int vrs, .int vrb, .int vhs, .int vca, .int vxs, .int vxb, .ref tp, .int (nI T), .int vfa, .int vbr, .int vba, .int vsp, .int vhe, .int vtk, .int vva, .ref cu, .ref lt, .ref od, .ref th, .ref be, .ref ln, .int (nI S), .ref ma, .int (nI M), .ref ah, .ref bh, .ref ik, .ref la, .ref lg, .ref ce, .int vto])), (st, .inl (G 0, 196, .inl fst)), (be, .inl (G 1, 770, .inr (.inl obe)))] t.heap ∧ va_D A [(h0, .inr (11, [.ref st, .int (nI N), .int (nI B), .ref rp, .int vrs, .int vrb, .int vhs, .int vca, .int vxs, .int vxb, .ref tp, .int (nI T), .int vfa, .int vbr, .int vba, .int vsp, .int vhe, .int vtk, .int vva, .ref cu, .ref lt, .ref od, .ref th, .ref be, .ref ln, .int (nI S), .ref ma, .int (nI M), .ref ah, .ref bh, .ref ik, .ref la, .ref lg, .ref ce, .int vto])), (st, .inl (G 0, 196, .inl fst)), (be, .inl (G 1, 770, .inr (.inl obe)))]) A) ([.ref h0, .int wo] : List Value).toArray s 0 0 A) (F0 m 114 ls []) := by
                          intro nf
                          induction nf with
                          | zero => intro j61 h1 h2; exact absurd h1 (by omega)
                          | succ nf ih114_63 =>
                            intro j61 hn64 hj65 g62 H locs hP hD hS ls hl
                            refine lv_iload hx hb dX11_layBest_114 (lv_at hl 0 rfl) ?_
                            refine lv_aload_n hx hb dX11_layBest_116 rfl (lv_at hl 4 rfl) ?_
                            refine va_get (D := (dC, dI)) (ci := 11) (v := .int (nI B)) (C := RX11) (T := TX11) (N := 35) hx hb hg inG11 hown hK.1 hP 0 rfl rfl 2 (Nat.le_of_ble_eq_true rfl) (hg _ wt_880) (fun _ h9 => h9) rfl dX11_layBest_117 ?_
                            have cut223_66 : ∀ (H : Heap) (locs : List Loc), va_P (dC, dI) vwCl [(h0, .inr (11, [.ref st, .int (nI N), .int (nI B), .ref rp, .int vrs, .int vrb, .int vhs, .int vca, .int vxs, .int vxb, .ref tp, .int (nI T), .int vfa, .int vbr, .int vba, .int vsp, .int vhe, .int vtk, .int vva, .ref cu, .ref lt, .ref od, .ref th, .ref be, .ref ln, .int (nI S), .ref ma, .int (nI M), .ref ah, .ref bh, .ref ik, .ref la, .ref lg, .ref ce, .int vto])), (st, .inl (G 0, 196, .inl fst)), (be, .inl (G 1, 770, .inr (.inl g62)))] H → va_D A [(h0, .inr (11, [.ref st, .int (nI N), .int (nI B), .ref rp, .int vrs, .int vrb, .int vhs, .int vca, .int vxs, .int vxb, .ref tp, .int (nI T), .int vfa, .int vbr, .int vba, .int vsp, .int vhe, .int vtk, .int vva, .ref cu, .ref lt, .ref od, .ref th, .ref be, .ref ln, .int (nI S), .ref ma, .int (nI M), .ref ah, .ref bh, .ref ik, .ref la, .ref lg, .ref ce, .int vto])), (st, .inl (G 0, 196, .inl fst)), (be, .inl (G 1, 770, .inr (.inl g62)))] → va_S A s.heap H locs → ∀ (ls : Array Slot), lv_has ls 8 [(5, .int (nI j61)), (4, .int (-4)), (3, .int (nI j15)), (2, .int (nI j8)), (0, .ref h0), (1, .int wo)] → W p l e (headSpec (Cond.code yX11_layBest cX11_layBest 8 none :: GT) ({ frames := 3, cells := 0, slots := 0, locals := 75 } : Room)).room s m ([.ref h0, .int wo] : List Value).toArray below meth c H locs 0 0 (MQ below (va_Qv (fun (u : (Nat → Int64)) => match u with | obe => True) (fun (u : (Nat → Int64)) (t : State) => match u with | obe => va_P (dC, dI) vwCl [(h0, .inr (11, [.ref st, .int (nI N), .int (nI B), .ref rp, .int vrs, .int vrb, .int vhs, .int vca, .int vxs, .int vxb, .ref tp, .int (nI T), .int vfa, .int vbr, .int vba, .int vsp, .int vhe, .int vtk, .int vva, .ref cu, .ref lt, .ref od, .ref th, .ref be, .ref ln, .int (nI S), .ref ma, .int (nI M), .ref ah, .ref bh, .ref ik, .ref la, .ref lg, .ref ce, .int vto])), (st, .inl (G 0, 196, .inl fst)), (be, .inl (G 1, 770, .inr (.inl obe)))] t.heap ∧ va_D A [(h0, .inr (11, [.ref st, .int (nI N), .int (nI B), .ref rp, .int vrs, .int vrb, .int vhs, .int vca, .int vxs, .int vxb, .ref tp, .int (nI T), .int vfa, .int vbr, .int vba, .int vsp, .int vhe, .int vtk, .int vva, .ref cu, .ref lt, .ref od, .ref th, .ref be, .ref ln, .int (nI S), .ref ma, .int (nI M), .ref ah, .ref bh, .ref ik, .ref la, .ref lg, .ref ce, .int vto])), (st, .inl (G 0, 196, .inl fst)), (be, .inl (G 1, 770, .inr (.inl obe)))]) A) ([.ref h0, .int wo] : List Value).toArray s 0 0 A) (F0 m 223 ls []) := by
                              intro  H locs hP hD hS ls hl
                              refine lv_iinc (v := nI (j15 + 1)) (lv' := [(3, .int (nI (j15 + 1))), (5, .int (nI j61)), (4, .int (-4)), (2, .int (nI j8)), (0, .ref h0), (1, .int wo)]) hx hb dX11_layBest_223 hl (k := 2) rfl (by rw [show Int32.ofInt 1 = nI 1 from by decide]; exact nI_add _ _) (by decide) rfl (fun ls hl => ?_)
                              refine lv_goto (tgt := 53) hx hb dX11_layBest_226 rfl ?_
                              exact ih53_17 (j15 + 1) (by omega) (by omega) g62 _ _ hP hD hS ls (lv_sub hl [0, 3, 4, 5] rfl)
                            refine lv_icmp_ge (tgt := 223) hx hb dX11_layBest_120 rfl (fun c67 => ?_) (fun c67 => ?_)
                            · skip
                              have tn1211_ : nIT j61 := fun _ => nI_toInt (by first | omega | (have t := leI c67; omega))
                              have n68 : B ≤ j61 := by have t := leI c67; rw [show (nI (j61)).toInt = ((j61 : Nat) : Int) from tn1211_ ()] at t; rw [show (nI (B)).toInt = ((B : Nat) : Int) from tn1195_ ()] at t; omega
                              exact cut223_66  _ _ hP hD hS ls (lv_sub hl [0, 1, 2, 3, 4, 5] rfl)
                            · skip
                              have tn1212_ : nIT j61 := fun _ => nI_toInt (by first | omega | (have t := nleI c67; omega))
                              have n69 : j61 < B := by have t := nleI c67; rw [show (nI (j61)).toInt = ((j61 : Nat) : Int) from tn1212_ ()] at t; rw [show (nI (B)).toInt = ((B : Nat) : Int) from tn1195_ ()] at t; omega
                              refine lv_iload_n hx hb dX11_layBest_123 rfl (lv_at hl 2 rfl) ?_
                              refine lv_bipush (v := 10) hx hb dX11_layBest_124 rfl ?_
                              refine lv_irem hx hb dX11_layBest_126 (by decide) ?_
                              refine lv_cg (y := nI (j15 % 10)) (by rw [show (10 : Int32) = nI 10 from rfl]; exact pk_rem (by omega) (by omega) (by omega)) ?_
                              refine lv_if_le (tgt := 223) hx hb dX11_layBest_127 rfl (fun c70 => ?_) (fun c70 => ?_)
                              · skip
                                have tn1213_ : nIT (j15 % 10) := fun _ => nI_toInt (by first | omega | (have t := leI c70; omega))
                                have n71 : (j15 % 10) ≤ 0 := by have t := leI c70; rw [show (nI (j15 % 10)).toInt = ((j15 % 10 : Nat) : Int) from tn1213_ ()] at t; have : (0 : Int32).toInt = 0 := qI_0; omega
                                exact cut223_66  _ _ hP hD hS ls (lv_sub hl [0, 1, 2, 3, 4, 5] rfl)
                              · skip
                                have tn1214_ : nIT (j15 % 10) := fun _ => nI_toInt (by first | omega | (have t := nleI c70; omega))
                                have n72 : 0 < (j15 % 10) := by have t := nleI c70; rw [show (nI (j15 % 10)).toInt = ((j15 % 10 : Nat) : Int) from tn1214_ ()] at t; have : (0 : Int32).toInt = 0 := qI_0; omega
                                refine lv_iload hx hb dX11_layBest_130 (lv_at hl 1 rfl) ?_
                                refine lv_bipush (v := (-4)) hx hb dX11_layBest_132 rfl ?_
                                refine lv_icmp_eq (tgt := 146) hx hb dX11_layBest_134 rfl (fun c73 => ?_) (fun c73 => ?_)
                                · skip
                                  refine lv_iload hx hb dX11_layBest_146 (lv_at hl 0 rfl) ?_
                                  refine lv_iload_n hx hb dX11_layBest_148 rfl (lv_at hl 5 rfl) ?_
                                  have cut171_75 : ∀ (y74 : Int64) (H : Heap) (locs : List Loc), va_P (dC, dI) vwCl [(h0, .inr (11, [.ref st, .int (nI N), .int (nI B), .ref rp, .int vrs, .int vrb, .int vhs, .int vca, .int vxs, .int vxb, .ref tp, .int (nI T), .int vfa, .int vbr, .int vba, .int vsp, .int vhe, .int vtk, .int vva, .ref cu, .ref lt, .ref od, .ref th, .ref be, .ref ln, .int (nI S), .ref ma, .int (nI M), .ref ah, .ref bh, .ref ik, .ref la, .ref lg, .ref ce, .int vto])), (st, .inl (G 0, 196, .inl fst)), (be, .inl (G 1, 770, .inr (.inl g62)))] H → va_D A [(h0, .inr (11, [.ref st, .int (nI N), .int (nI B), .ref rp, .int vrs, .int vrb, .int vhs, .int vca, .int vxs, .int vxb, .ref tp, .int (nI T), .int vfa, .int vbr, .int vba, .int vsp, .int vhe, .int vtk, .int vva, .ref cu, .ref lt, .ref od, .ref th, .ref be, .ref ln, .int (nI S), .ref ma, .int (nI M), .ref ah, .ref bh, .ref ik, .ref la, .ref lg, .ref ce, .int vto])), (st, .inl (G 0, 196, .inl fst)), (be, .inl (G 1, 770, .inr (.inl g62)))] → va_S A s.heap H locs → ∀ (ls : Array Slot), lv_has ls 8 [(5, .int (nI j61)), (4, .int (-4)), (3, .int (nI j15)), (2, .int (nI j8)), (0, .ref h0), (1, .int wo)] → W p l e (headSpec (Cond.code yX11_layBest cX11_layBest 8 none :: GT) ({ frames := 3, cells := 0, slots := 0, locals := 75 } : Room)).room s m ([.ref h0, .int wo] : List Value).toArray below meth c H locs 0 0 (MQ below (va_Qv (fun (u : (Nat → Int64)) => match u with | obe => True) (fun (u : (Nat → Int64)) (t : State) => match u with | obe => va_P (dC, dI) vwCl [(h0, .inr (11, [.ref st, .int (nI N), .int (nI B), .ref rp, .int vrs, .int vrb, .int vhs, .int vca, .int vxs, .int vxb, .ref tp, .int (nI T), .int vfa, .int vbr, .int vba, .int vsp, .int vhe, .int vtk, .int vva, .ref cu, .ref lt, .ref od, .ref th, .ref be, .ref ln, .int (nI S), .ref ma, .int (nI M), .ref ah, .ref bh, .ref ik, .ref la, .ref lg, .ref ce, .int vto])), (st, .inl (G 0, 196, .inl fst)), (be, .inl (G 1, 770, .inr (.inl obe)))] t.heap ∧ va_D A [(h0, .inr (11, [.ref st, .int (nI N), .int (nI B), .ref rp, .int vrs, .int vrb, .int vhs, .int vca, .int vxs, .int vxb, .ref tp, .int (nI T), .int vfa, .int vbr, .int vba, .int vsp, .int vhe, .int vtk, .int vva, .ref cu, .ref lt, .ref od, .ref th, .ref be, .ref ln, .int (nI S), .ref ma, .int (nI M), .ref ah, .ref bh, .ref ik, .ref la, .ref lg, .ref ce, .int vto])), (st, .inl (G 0, 196, .inl fst)), (be, .inl (G 1, 770, .inr (.inl obe)))]) A) ([.ref h0, .int wo] : List Value).toArray s 0 0 A) (F0 m 171 ls [.long y74]) := by
                                    intro y74 H locs hP hD hS ls hl
                                    refine lv_lstore (lv' := [(6, .long y74), (5, .int (nI j61)), (4, .int (-4)), (3, .int (nI j15)), (2, .int (nI j8)), (0, .ref h0), (1, .int wo)]) hx hb dX11_layBest_171 hl (by decide) rfl (fun ls hl => ?_)
                                    refine lv_aload_n hx hb dX11_layBest_173 rfl (lv_at hl 5 rfl) ?_
                                    refine va_get (D := (dC, dI)) (ci := 11) (v := .ref be) (C := RX11) (T := TX11) (N := 35) hx hb hg inG11 hown hK.1 hP 0 rfl rfl 23 (Nat.le_of_ble_eq_true rfl) (hg _ wt_901) (fun _ h9 => h9) rfl dX11_layBest_174 ?_
                                    refine lv_bipush (v := 70) hx hb dX11_layBest_177 rfl ?_
                                    refine lv_iload_n hx hb dX11_layBest_179 rfl (lv_at hl 4 rfl) ?_
                                    refine lv_imul hx hb dX11_layBest_180 ?_
                                    refine lv_cg (y := nI (70 * j8)) (by rw [show (70 : Int32) = nI 70 from rfl]; exact pk_mul _ _) ?_
                                    refine lv_iload_n hx hb dX11_layBest_181 rfl (lv_at hl 3 rfl) ?_
                                    refine lv_iadd hx hb dX11_layBest_182 ?_
                                    refine lv_cg (y := nI ((70 * j8) + j15)) (by exact nI_add _ _) ?_
                                    refine lv_lload hx hb dX11_layBest_183 (lv_at hl 0 rfl) ?_
                                    refine lv_aload_n hx hb dX11_layBest_185 rfl (lv_at hl 5 rfl) ?_
                                    refine va_get (D := (dC, dI)) (ci := 11) (v := .ref be) (C := RX11) (T := TX11) (N := 35) hx hb hg inG11 hown hK.1 hP 0 rfl rfl 23 (Nat.le_of_ble_eq_true rfl) (hg _ wt_901) (fun _ h9 => h9) rfl dX11_layBest_186 ?_
                                    refine lv_bipush (v := 70) hx hb dX11_layBest_189 rfl ?_
                                    refine lv_iload_n hx hb dX11_layBest_191 rfl (lv_at hl 4 rfl) ?_
                                    refine lv_imul hx hb dX11_layBest_192 ?_
                                    refine lv_cg (y := nI (70 * j8)) (by rw [show (70 : Int32) = nI 70 from rfl]; exact pk_mul _ _) ?_
                                    refine lv_iload_n hx hb dX11_layBest_193 rfl (lv_at hl 3 rfl) ?_
                                    refine lv_iadd hx hb dX11_layBest_194 ?_
                                    refine lv_cg (y := nI ((70 * j8) + j15)) (by exact nI_add _ _) ?_
                                    refine va_lald hx hb hK.1 hP 2 1 rfl rfl (vp_in_nI (by first | omega | (have t_hj5 := hj5; have t_n7 := n7; have t_hj11 := hj11; have t_n14 := n14; have t_hj19 := hj19; have t_n22 := n22; have t_n58 := n58; have t_hj65 := hj65; have t_n69 := n69; have t_n72 := n72; have t_c73 := eqI c73; have : ((-4) : Int32).toInt = -4 := qI_m4; have t_n0 : (nI N).toInt = (N : Int) := tn1194_ (); have t_n1 : (nI B).toInt = (B : Int) := tn1195_ (); have t_n2 : (nI T).toInt = (T : Int) := tn1196_ (); have t_n3 : (nI S).toInt = (S : Int) := tn1197_ (); have t_n4 : (nI M).toInt = (M : Int) := tn1198_ (); have t_n5 : (nI j1).toInt = (j1 : Int) := tn1199_ (); have t_n6 : (nI j8).toInt = (j8 : Int) := tn1201_ (); have t_n7 : (nI j15).toInt = (j15 : Int) := tn1203_ (); have t_n8 : (nI j61).toInt = (j61 : Int) := tn1212_ (); omega)) (by decide)) dX11_layBest_195 ?_
                                    refine lv_cgl (y := g62 ((70 * j8) + j15)) (by rw [nI_clamp (by omega)]) ?_
                                    refine W.lcmp hx hb dX11_layBest_196 ?_
                                    have cut216_77 : ∀ (y76 : Int64) (H : Heap) (locs : List Loc), va_P (dC, dI) vwCl [(h0, .inr (11, [.ref st, .int (nI N), .int (nI B), .ref rp, .int vrs, .int vrb, .int vhs, .int vca, .int vxs, .int vxb, .ref tp, .int (nI T), .int vfa, .int vbr, .int vba, .int vsp, .int vhe, .int vtk, .int vva, .ref cu, .ref lt, .ref od, .ref th, .ref be, .ref ln, .int (nI S), .ref ma, .int (nI M), .ref ah, .ref bh, .ref ik, .ref la, .ref lg, .ref ce, .int vto])), (st, .inl (G 0, 196, .inl fst)), (be, .inl (G 1, 770, .inr (.inl g62)))] H → va_D A [(h0, .inr (11, [.ref st, .int (nI N), .int (nI B), .ref rp, .int vrs, .int vrb, .int vhs, .int vca, .int vxs, .int vxb, .ref tp, .int (nI T), .int vfa, .int vbr, .int vba, .int vsp, .int vhe, .int vtk, .int vva, .ref cu, .ref lt, .ref od, .ref th, .ref be, .ref ln, .int (nI S), .ref ma, .int (nI M), .ref ah, .ref bh, .ref ik, .ref la, .ref lg, .ref ce, .int vto])), (st, .inl (G 0, 196, .inl fst)), (be, .inl (G 1, 770, .inr (.inl g62)))] → va_S A s.heap H locs → ∀ (ls : Array Slot), lv_has ls 8 [(6, .long y74), (5, .int (nI j61)), (4, .int (-4)), (3, .int (nI j15)), (2, .int (nI j8)), (0, .ref h0), (1, .int wo)] → W p l e (headSpec (Cond.code yX11_layBest cX11_layBest 8 none :: GT) ({ frames := 3, cells := 0, slots := 0, locals := 75 } : Room)).room s m ([.ref h0, .int wo] : List Value).toArray below meth c H locs 0 0 (MQ below (va_Qv (fun (u : (Nat → Int64)) => match u with | obe => True) (fun (u : (Nat → Int64)) (t : State) => match u with | obe => va_P (dC, dI) vwCl [(h0, .inr (11, [.ref st, .int (nI N), .int (nI B), .ref rp, .int vrs, .int vrb, .int vhs, .int vca, .int vxs, .int vxb, .ref tp, .int (nI T), .int vfa, .int vbr, .int vba, .int vsp, .int vhe, .int vtk, .int vva, .ref cu, .ref lt, .ref od, .ref th, .ref be, .ref ln, .int (nI S), .ref ma, .int (nI M), .ref ah, .ref bh, .ref ik, .ref la, .ref lg, .ref ce, .int vto])), (st, .inl (G 0, 196, .inl fst)), (be, .inl (G 1, 770, .inr (.inl obe)))] t.heap ∧ va_D A [(h0, .inr (11, [.ref st, .int (nI N), .int (nI B), .ref rp, .int vrs, .int vrb, .int vhs, .int vca, .int vxs, .int vxb, .ref tp, .int (nI T), .int vfa, .int vbr, .int vba, .int vsp, .int vhe, .int vtk, .int vva, .ref cu, .ref lt, .ref od, .ref th, .ref be, .ref ln, .int (nI S), .ref ma, .int (nI M), .ref ah, .ref bh, .ref ik, .ref la, .ref lg, .ref ce, .int vto])), (st, .inl (G 0, 196, .inl fst)), (be, .inl (G 1, 770, .inr (.inl obe)))]) A) ([.ref h0, .int wo] : List Value).toArray s 0 0 A) (F0 m 216 ls [.long y76, .int (nI ((70 * j8) + j15)), .ref be]) := by
                                      intro y76 H locs hP hD hS ls hl
                                      refine va_last hx hb hK.1 hP hD hS 2 1 rfl rfl (vp_in_nI (by first | omega | (have t_hj5 := hj5; have t_n7 := n7; have t_hj11 := hj11; have t_n14 := n14; have t_hj19 := hj19; have t_n22 := n22; have t_n58 := n58; have t_hj65 := hj65; have t_n69 := n69; have t_n72 := n72; have t_c73 := eqI c73; have : ((-4) : Int32).toInt = -4 := qI_m4; have t_n0 : (nI N).toInt = (N : Int) := tn1194_ (); have t_n1 : (nI B).toInt = (B : Int) := tn1195_ (); have t_n2 : (nI T).toInt = (T : Int) := tn1196_ (); have t_n3 : (nI S).toInt = (S : Int) := tn1197_ (); have t_n4 : (nI M).toInt = (M : Int) := tn1198_ (); have t_n5 : (nI j1).toInt = (j1 : Int) := tn1199_ (); have t_n6 : (nI j8).toInt = (j8 : Int) := tn1201_ (); have t_n7 : (nI j15).toInt = (j15 : Int) := tn1203_ (); have t_n8 : (nI j61).toInt = (j61 : Int) := tn1212_ (); omega)) (by decide)) dX11_layBest_216 (fun H locs hP hD hS => ?_)
                                      rw [nI_clamp (by omega)] at hP hD
                                      refine lv_iinc (v := nI (j61 + 1)) (lv' := [(5, .int (nI (j61 + 1))), (6, .long y74), (4, .int (-4)), (3, .int (nI j15)), (2, .int (nI j8)), (0, .ref h0), (1, .int wo)]) hx hb dX11_layBest_217 hl (k := 1) rfl (by rw [show Int32.ofInt 1 = nI 1 from by decide]; exact nI_add _ _) (by decide) rfl (fun ls hl => ?_)
                                      refine lv_goto (tgt := 114) hx hb dX11_layBest_220 rfl ?_
                                      exact ih114_63 (j61 + 1) (by omega) (by omega) (vp_updL g62 ((70 * j8) + j15) y76) _ _ hP hD hS ls (lv_sub hl [0, 2, 3, 4, 5, 6] rfl)
                                    refine lv_if_ge (tgt := 205) hx hb dX11_layBest_197 rfl (fun c78 => ?_) (fun c78 => ?_)
                                    · skip
                                      refine lv_aload_n hx hb dX11_layBest_205 rfl (lv_at hl 5 rfl) ?_
                                      refine va_get (D := (dC, dI)) (ci := 11) (v := .ref be) (C := RX11) (T := TX11) (N := 35) hx hb hg inG11 hown hK.1 hP 0 rfl rfl 23 (Nat.le_of_ble_eq_true rfl) (hg _ wt_901) (fun _ h9 => h9) rfl dX11_layBest_206 ?_
                                      refine lv_bipush (v := 70) hx hb dX11_layBest_209 rfl ?_
                                      refine lv_iload_n hx hb dX11_layBest_211 rfl (lv_at hl 4 rfl) ?_
                                      refine lv_imul hx hb dX11_layBest_212 ?_
                                      refine lv_cg (y := nI (70 * j8)) (by rw [show (70 : Int32) = nI 70 from rfl]; exact pk_mul _ _) ?_
                                      refine lv_iload_n hx hb dX11_layBest_213 rfl (lv_at hl 3 rfl) ?_
                                      refine lv_iadd hx hb dX11_layBest_214 ?_
                                      refine lv_cg (y := nI ((70 * j8) + j15)) (by exact nI_add _ _) ?_
                                      refine va_lald hx hb hK.1 hP 2 1 rfl rfl (vp_in_nI (by first | omega | (have t_hj5 := hj5; have t_n7 := n7; have t_hj11 := hj11; have t_n14 := n14; have t_hj19 := hj19; have t_n22 := n22; have t_n58 := n58; have t_hj65 := hj65; have t_n69 := n69; have t_n72 := n72; have t_c73 := eqI c73; have t_c78 := lcm_ge_t c78; have : ((-4) : Int32).toInt = -4 := qI_m4; have t_n0 : (nI N).toInt = (N : Int) := tn1194_ (); have t_n1 : (nI B).toInt = (B : Int) := tn1195_ (); have t_n2 : (nI T).toInt = (T : Int) := tn1196_ (); have t_n3 : (nI S).toInt = (S : Int) := tn1197_ (); have t_n4 : (nI M).toInt = (M : Int) := tn1198_ (); have t_n5 : (nI j1).toInt = (j1 : Int) := tn1199_ (); have t_n6 : (nI j8).toInt = (j8 : Int) := tn1201_ (); have t_n7 : (nI j15).toInt = (j15 : Int) := tn1203_ (); have t_n8 : (nI j61).toInt = (j61 : Int) := tn1212_ (); omega)) (by decide)) dX11_layBest_215 ?_
                                      refine lv_cgl (y := g62 ((70 * j8) + j15)) (by rw [nI_clamp (by omega)]) ?_
                                      exact cut216_77 (g62 ((70 * j8) + j15)) _ _ hP hD hS ls (lv_sub hl [0, 1, 2, 3, 4, 5, 6] rfl)
                                    · skip
                                      refine lv_lload hx hb dX11_layBest_200 (lv_at hl 0 rfl) ?_
                                      refine lv_goto (tgt := 216) hx hb dX11_layBest_202 rfl ?_
                                      exact cut216_77 y74 _ _ hP hD hS ls (lv_sub hl [0, 1, 2, 3, 4, 5, 6] rfl)
                                  refine lv_icmp_ne (tgt := 158) hx hb dX11_layBest_149 rfl (fun c79 => ?_) (fun c79 => ?_)
                                  · skip
                                    refine lv_aload_n hx hb dX11_layBest_158 rfl (lv_at hl 4 rfl) ?_
                                    refine lv_iload_n hx hb dX11_layBest_159 rfl (lv_at hl 3 rfl) ?_
                                    refine lv_iload hx hb dX11_layBest_160 (lv_at hl 1 rfl) ?_
                                    refine lv_iload_n hx hb dX11_layBest_162 rfl (lv_at hl 2 rfl) ?_
                                    refine lv_bipush (v := 10) hx hb dX11_layBest_163 rfl ?_
                                    refine lv_irem hx hb dX11_layBest_165 (by decide) ?_
                                    refine lv_cg (y := nI (j15 % 10)) (by rw [show (10 : Int32) = nI 10 from rfl]; exact pk_rem (by omega) (by omega) (by omega)) ?_
                                    refine lv_iload hx hb dX11_layBest_166 (lv_at hl 0 rfl) ?_
                                    have hPc := hP.sub (ws' := [(h0, .inr (11, [.ref st, .int (nI N), .int (nI B), .ref rp, .int vrs, .int vrb, .int vhs, .int vca, .int vxs, .int vxb, .ref tp, .int (nI T), .int vfa, .int vbr, .int vba, .int vsp, .int vhe, .int vtk, .int vva, .ref cu, .ref lt, .ref od, .ref th, .ref be, .ref ln, .int (nI S), .ref ma, .int (nI M), .ref ah, .ref bh, .ref ik, .ref la, .ref lg, .ref ce, .int vto])), (st, .inl (G 0, 196, .inl fst)), (be, .inl (G 1, 770, .inr (.inl g62)))]) [0, 1, 2] rfl
                                    refine va_calll (va_runV (As := [.int (nI j8), .int (-4), .int (nI (j15 % 10)), .int (nI j61)]) (rest := []) ⟨hx, hb, hml, hown, hg⟩ (c_X11_byOneN l dC dI G _ h0 j8 (j15 % 10) j61 st N B rp tp T cu lt od th be ln S ma M ah bh ik la lg ce vrs vrb vhs vca vxs vxb vfa vbr vba vsp vhe vtk vva vto fst g62 hN hB_ hT_ hS0 hM_ (by first | omega | (have t_hj5 := hj5; have t_n7 := n7; have t_hj11 := hj11; have t_n14 := n14; have t_hj19 := hj19; have t_n22 := n22; have t_n58 := n58; have t_hj65 := hj65; have t_n69 := n69; have t_n72 := n72; have t_c73 := eqI c73; have t_c79 := neI c79; have : ((-4) : Int32).toInt = -4 := qI_m4; have t_n0 : (nI N).toInt = (N : Int) := tn1194_ (); have t_n1 : (nI B).toInt = (B : Int) := tn1195_ (); have t_n2 : (nI T).toInt = (T : Int) := tn1196_ (); have t_n3 : (nI S).toInt = (S : Int) := tn1197_ (); have t_n4 : (nI M).toInt = (M : Int) := tn1198_ (); have t_n5 : (nI j1).toInt = (j1 : Int) := tn1199_ (); have t_n6 : (nI j8).toInt = (j8 : Int) := tn1201_ (); have t_n7 : (nI j15).toInt = (j15 : Int) := tn1203_ (); have t_n8 : (nI j61).toInt = (j61 : Int) := tn1212_ (); have : ((-4) : Int32).toInt = -4 := qI_m4; omega)) (by first | omega | (have t_hj5 := hj5; have t_n7 := n7; have t_hj11 := hj11; have t_n14 := n14; have t_hj19 := hj19; have t_n22 := n22; have t_n58 := n58; have t_hj65 := hj65; have t_n69 := n69; have t_n72 := n72; have t_c73 := eqI c73; have t_c79 := neI c79; have : ((-4) : Int32).toInt = -4 := qI_m4; have t_n0 : (nI N).toInt = (N : Int) := tn1194_ (); have t_n1 : (nI B).toInt = (B : Int) := tn1195_ (); have t_n2 : (nI T).toInt = (T : Int) := tn1196_ (); have t_n3 : (nI S).toInt = (S : Int) := tn1197_ (); have t_n4 : (nI M).toInt = (M : Int) := tn1198_ (); have t_n5 : (nI j1).toInt = (j1 : Int) := tn1199_ (); have t_n6 : (nI j8).toInt = (j8 : Int) := tn1201_ (); have t_n7 : (nI j15).toInt = (j15 : Int) := tn1203_ (); have t_n8 : (nI j61).toInt = (j61 : Int) := tn1212_ (); have : ((-4) : Int32).toInt = -4 := qI_m4; omega)) (by first | omega | (have t_hj5 := hj5; have t_n7 := n7; have t_hj11 := hj11; have t_n14 := n14; have t_hj19 := hj19; have t_n22 := n22; have t_n58 := n58; have t_hj65 := hj65; have t_n69 := n69; have t_n72 := n72; have t_c73 := eqI c73; have t_c79 := neI c79; have : ((-4) : Int32).toInt = -4 := qI_m4; have t_n0 : (nI N).toInt = (N : Int) := tn1194_ (); have t_n1 : (nI B).toInt = (B : Int) := tn1195_ (); have t_n2 : (nI T).toInt = (T : Int) := tn1196_ (); have t_n3 : (nI S).toInt = (S : Int) := tn1197_ (); have t_n4 : (nI M).toInt = (M : Int) := tn1198_ (); have t_n5 : (nI j1).toInt = (j1 : Int) := tn1199_ (); have t_n6 : (nI j8).toInt = (j8 : Int) := tn1201_ (); have t_n7 : (nI j15).toInt = (j15 : Int) := tn1203_ (); have t_n8 : (nI j61).toInt = (j61 : Int) := tn1212_ (); have : ((-4) : Int32).toInt = -4 := qI_m4; omega))) (kwV hg mfX11_byOne wt_1155 ⟨Nat.le_of_ble_eq_true rfl, Nat.le_of_ble_eq_true rfl⟩) (preVR hK hPc (ci := 11) rfl rfl) rfl rfl hl.1 rfl (lv_room (Nat.le_of_ble_eq_true rfl)) dX11_layBest_168 ⟨Nat.le_of_ble_eq_true rfl, Nat.le_of_ble_eq_true rfl⟩) hS (fun q h1 h2 => absurd h2 (Nat.not_le.mpr h1)) (fun q h => hA q (Nat.le_trans hS.1 h)) (fun r80 ur80 t H1 locs ht hvm w81 hB hz1 hk1 hS => ?_)
                                    have hP := keepR hP hk1
                                    obtain ⟨w81, w81x⟩ := w81
                                    subst w81
                                    exact cut171_75 (b1N fst g62 j8 (j15 % 10) j61) _ _ hP hD hS ls (lv_sub hl [0, 1, 2, 3, 4, 5] rfl)
                                  · skip
                                    refine lv_ldc2 (v := 4000000000000000000) hx hb hown (hg _ wt_1154) dX11_layBest_152 ?_
                                    refine lv_goto (tgt := 171) hx hb dX11_layBest_155 rfl ?_
                                    exact cut171_75 4000000000000000000 _ _ hP hD hS ls (lv_sub hl [0, 1, 2, 3, 4, 5] rfl)
                                · skip
                                  exact absurd c73 (by decide)
                        exact loop114_63 (B + 1) 0 (by omega) (by omega) (vp_updL g16 ((70 * j8) + j15) y59) _ _ hP hD hS ls (lv_sub hl [0, 1, 2, 3, 4, 5] rfl)
                      refine lv_if_ne (tgt := 107) hx hb dX11_layBest_92 rfl (fun c82 => ?_) (fun c82 => ?_)
                      · skip
                        have tn1215_ : nIT (j15 % 10) := fun _ => nI_toInt (by first | omega | (have t := neI c82; omega))
                        have n83 : (j15 % 10) ≠ 0 := by have t := neI c82; rw [show (nI (j15 % 10)).toInt = ((j15 % 10 : Nat) : Int) from tn1215_ ()] at t; have : (0 : Int32).toInt = 0 := qI_0; omega
                        refine lv_ldc2 (v := 4000000000000000000) hx hb hown (hg _ wt_1154) dX11_layBest_107 ?_
                        exact cut110_60 4000000000000000000 _ _ hP hD hS ls (lv_sub hl [0, 1, 2, 3, 4] rfl)
                      · skip
                        have tn1216_ : nIT (j15 % 10) := fun _ => nI_toInt (by first | omega | (have t := eqI c82; omega))
                        have n84 : (j15 % 10) = 0 := by have t := eqI c82; rw [show (nI (j15 % 10)).toInt = ((j15 % 10 : Nat) : Int) from tn1216_ ()] at t; have : (0 : Int32).toInt = 0 := qI_0; omega
                        refine lv_aload_n hx hb dX11_layBest_95 rfl (lv_at hl 3 rfl) ?_
                        refine va_get (D := (dC, dI)) (ci := 11) (v := .int (nI N)) (C := RX11) (T := TX11) (N := 35) hx hb hg inG11 hown hK.1 hP 0 rfl rfl 1 (Nat.le_of_ble_eq_true rfl) (hg _ wt_879) (fun _ h9 => h9) rfl dX11_layBest_96 ?_
                        refine lv_iload_n hx hb dX11_layBest_99 rfl (lv_at hl 2 rfl) ?_
                        refine lv_isub hx hb dX11_layBest_100 ?_
                        refine lv_cg (y := nI (N - j8)) (by exact pk_sub (by have t_hj5 := hj5; have t_n7 := n7; have t_hj11 := hj11; have t_n14 := n14; have t_hj19 := hj19; have t_n22 := n22; have t_n58 := n58; have t_n84 := n84; have t_n0 : (nI N).toInt = (N : Int) := tn1194_ (); have t_n1 : (nI B).toInt = (B : Int) := tn1195_ (); have t_n2 : (nI T).toInt = (T : Int) := tn1196_ (); have t_n3 : (nI S).toInt = (S : Int) := tn1197_ (); have t_n4 : (nI M).toInt = (M : Int) := tn1198_ (); have t_n5 : (nI j1).toInt = (j1 : Int) := tn1199_ (); have t_n6 : (nI j8).toInt = (j8 : Int) := tn1201_ (); have t_n7 : (nI j15).toInt = (j15 : Int) := tn1203_ (); omega)) ?_
                        have hPc := hP.sub (ws' := []) [] rfl
                        refine va_calll (va_runS (As := [.int (nI (N - j8))]) (rest := [.int (nI ((70 * j8) + j15)), .ref be]) ⟨hx, hb, hml, hown, hg⟩ (c_X11_power l dC dI G _ (N - j8) (by first | omega | (have t_hj5 := hj5; have t_n7 := n7; have t_hj11 := hj11; have t_n14 := n14; have t_hj19 := hj19; have t_n22 := n22; have t_n58 := n58; have t_n84 := n84; have t_n0 : (nI N).toInt = (N : Int) := tn1194_ (); have t_n1 : (nI B).toInt = (B : Int) := tn1195_ (); have t_n2 : (nI T).toInt = (T : Int) := tn1196_ (); have t_n3 : (nI S).toInt = (S : Int) := tn1197_ (); have t_n4 : (nI M).toInt = (M : Int) := tn1198_ (); have t_n5 : (nI j1).toInt = (j1 : Int) := tn1199_ (); have t_n6 : (nI j8).toInt = (j8 : Int) := tn1201_ (); have t_n7 : (nI j15).toInt = (j15 : Int) := tn1203_ (); omega))) (kwS hg mfX11_power wt_1131 ⟨Nat.le_of_ble_eq_true rfl, Nat.le_of_ble_eq_true rfl⟩) (preSR hK hPc) rfl rfl hl.1 rfl (lv_room (Nat.le_of_ble_eq_true rfl)) dX11_layBest_101 ⟨Nat.le_of_ble_eq_true rfl, Nat.le_of_ble_eq_true rfl⟩) hS (fun q h1 h2 => absurd h2 (Nat.not_le.mpr h1)) (fun q h => hA q (Nat.le_trans hS.1 h)) (fun r85 ur85 t H1 locs ht hvm w86 hB hz1 hk1 hS => ?_)
                        have hP := keepR hP hk1
                        obtain ⟨w86, w86x⟩ := w86
                        subst w86
                        refine lv_goto (tgt := 110) hx hb dX11_layBest_104 rfl ?_
                        exact cut110_60 (powF (N - j8)) _ _ hP hD hS ls (lv_sub hl [0, 1, 2, 3, 4] rfl)
              exact loop53_17 (70 + 1) 0 (by omega) (by omega) g9 _ _ hP hD hS ls (lv_sub hl [0, 1, 2, 3] rfl)
        exact loop47_10 N (Nat.le_refl _) g2 _ _ hP hD hS ls (lv_sub hl [0, 1, 2] rfl)
      · skip
        have tn1217_ : nIT j1 := fun _ => nI_toInt (by first | omega | (have t := nleI c6; omega))
        have n87 : j1 < 70 := by have t := nleI c6; rw [show (nI (j1)).toInt = ((j1 : Nat) : Int) from tn1217_ ()] at t; have : (70 : Int32).toInt = 70 := qI_70; omega
        refine lv_aload_n hx hb dX11_layBest_8 rfl (lv_at hl 1 rfl) ?_
        refine va_get (D := (dC, dI)) (ci := 11) (v := .ref be) (C := RX11) (T := TX11) (N := 35) hx hb hg inG11 hown hK.1 hP 0 rfl rfl 23 (Nat.le_of_ble_eq_true rfl) (hg _ wt_901) (fun _ h9 => h9) rfl dX11_layBest_9 ?_
        refine lv_bipush (v := 70) hx hb dX11_layBest_12 rfl ?_
        refine lv_aload_n hx hb dX11_layBest_14 rfl (lv_at hl 1 rfl) ?_
        refine va_get (D := (dC, dI)) (ci := 11) (v := .int (nI N)) (C := RX11) (T := TX11) (N := 35) hx hb hg inG11 hown hK.1 hP 0 rfl rfl 1 (Nat.le_of_ble_eq_true rfl) (hg _ wt_879) (fun _ h9 => h9) rfl dX11_layBest_15 ?_
        refine lv_imul hx hb dX11_layBest_18 ?_
        refine lv_cg (y := nI (70 * N)) (by rw [show (70 : Int32) = nI 70 from rfl]; exact pk_mul _ _) ?_
        refine lv_iload_n hx hb dX11_layBest_19 rfl (lv_at hl 0 rfl) ?_
        refine lv_iadd hx hb dX11_layBest_20 ?_
        refine lv_cg (y := nI ((70 * N) + j1)) (by exact nI_add _ _) ?_
        refine lv_iload_n hx hb dX11_layBest_21 rfl (lv_at hl 0 rfl) ?_
        refine lv_bipush (v := 10) hx hb dX11_layBest_22 rfl ?_
        refine lv_irem hx hb dX11_layBest_24 (by decide) ?_
        refine lv_cg (y := nI (j1 % 10)) (by rw [show (10 : Int32) = nI 10 from rfl]; exact pk_rem (by omega) (by omega) (by omega)) ?_
        have cut33_89 : ∀ (y88 : Int64) (H : Heap) (locs : List Loc), va_P (dC, dI) vwCl [(h0, .inr (11, [.ref st, .int (nI N), .int (nI B), .ref rp, .int vrs, .int vrb, .int vhs, .int vca, .int vxs, .int vxb, .ref tp, .int (nI T), .int vfa, .int vbr, .int vba, .int vsp, .int vhe, .int vtk, .int vva, .ref cu, .ref lt, .ref od, .ref th, .ref be, .ref ln, .int (nI S), .ref ma, .int (nI M), .ref ah, .ref bh, .ref ik, .ref la, .ref lg, .ref ce, .int vto])), (st, .inl (G 0, 196, .inl fst)), (be, .inl (G 1, 770, .inr (.inl g2)))] H → va_D A [(h0, .inr (11, [.ref st, .int (nI N), .int (nI B), .ref rp, .int vrs, .int vrb, .int vhs, .int vca, .int vxs, .int vxb, .ref tp, .int (nI T), .int vfa, .int vbr, .int vba, .int vsp, .int vhe, .int vtk, .int vva, .ref cu, .ref lt, .ref od, .ref th, .ref be, .ref ln, .int (nI S), .ref ma, .int (nI M), .ref ah, .ref bh, .ref ik, .ref la, .ref lg, .ref ce, .int vto])), (st, .inl (G 0, 196, .inl fst)), (be, .inl (G 1, 770, .inr (.inl g2)))] → va_S A s.heap H locs → ∀ (ls : Array Slot), lv_has ls 8 [(2, .int (nI j1)), (0, .ref h0), (1, .int wo)] → W p l e (headSpec (Cond.code yX11_layBest cX11_layBest 8 none :: GT) ({ frames := 3, cells := 0, slots := 0, locals := 75 } : Room)).room s m ([.ref h0, .int wo] : List Value).toArray below meth c H locs 0 0 (MQ below (va_Qv (fun (u : (Nat → Int64)) => match u with | obe => True) (fun (u : (Nat → Int64)) (t : State) => match u with | obe => va_P (dC, dI) vwCl [(h0, .inr (11, [.ref st, .int (nI N), .int (nI B), .ref rp, .int vrs, .int vrb, .int vhs, .int vca, .int vxs, .int vxb, .ref tp, .int (nI T), .int vfa, .int vbr, .int vba, .int vsp, .int vhe, .int vtk, .int vva, .ref cu, .ref lt, .ref od, .ref th, .ref be, .ref ln, .int (nI S), .ref ma, .int (nI M), .ref ah, .ref bh, .ref ik, .ref la, .ref lg, .ref ce, .int vto])), (st, .inl (G 0, 196, .inl fst)), (be, .inl (G 1, 770, .inr (.inl obe)))] t.heap ∧ va_D A [(h0, .inr (11, [.ref st, .int (nI N), .int (nI B), .ref rp, .int vrs, .int vrb, .int vhs, .int vca, .int vxs, .int vxb, .ref tp, .int (nI T), .int vfa, .int vbr, .int vba, .int vsp, .int vhe, .int vtk, .int vva, .ref cu, .ref lt, .ref od, .ref th, .ref be, .ref ln, .int (nI S), .ref ma, .int (nI M), .ref ah, .ref bh, .ref ik, .ref la, .ref lg, .ref ce, .int vto])), (st, .inl (G 0, 196, .inl fst)), (be, .inl (G 1, 770, .inr (.inl obe)))]) A) ([.ref h0, .int wo] : List Value).toArray s 0 0 A) (F0 m 33 ls [.long y88, .int (nI ((70 * N) + j1)), .ref be]) := by
          intro y88 H locs hP hD hS ls hl
          refine va_last hx hb hK.1 hP hD hS 2 1 rfl rfl (vp_in_nI (by first | omega | (have t_hj5 := hj5; have t_n87 := n87; have t_n0 : (nI N).toInt = (N : Int) := tn1194_ (); have t_n1 : (nI B).toInt = (B : Int) := tn1195_ (); have t_n2 : (nI T).toInt = (T : Int) := tn1196_ (); have t_n3 : (nI S).toInt = (S : Int) := tn1197_ (); have t_n4 : (nI M).toInt = (M : Int) := tn1198_ (); have t_n5 : (nI j1).toInt = (j1 : Int) := tn1217_ (); omega)) (by decide)) dX11_layBest_33 (fun H locs hP hD hS => ?_)
          rw [nI_clamp (by omega)] at hP hD
          refine lv_iinc (v := nI (j1 + 1)) (lv' := [(2, .int (nI (j1 + 1))), (0, .ref h0), (1, .int wo)]) hx hb dX11_layBest_34 hl (k := 0) rfl (by rw [show Int32.ofInt 1 = nI 1 from by decide]; exact nI_add _ _) (by decide) rfl (fun ls hl => ?_)
          refine lv_goto (tgt := 2) hx hb dX11_layBest_37 rfl ?_
          exact ih2_3 (j1 + 1) (by omega) (by omega) (vp_updL g2 ((70 * N) + j1) y88) _ _ hP hD hS ls (lv_sub hl [0, 1, 2] rfl)
        refine lv_if_ne (tgt := 32) hx hb dX11_layBest_25 rfl (fun c90 => ?_) (fun c90 => ?_)
        · skip
          have tn1218_ : nIT (j1 % 10) := fun _ => nI_toInt (by first | omega | (have t := neI c90; omega))
          have n91 : (j1 % 10) ≠ 0 := by have t := neI c90; rw [show (nI (j1 % 10)).toInt = ((j1 % 10 : Nat) : Int) from tn1218_ ()] at t; have : (0 : Int32).toInt = 0 := qI_0; omega
          refine lv_lconst (v := 0) hx hb dX11_layBest_32 (by decide) ?_
          exact cut33_89 0 _ _ hP hD hS ls (lv_sub hl [0, 1, 2] rfl)
        · skip
          have tn1219_ : nIT (j1 % 10) := fun _ => nI_toInt (by first | omega | (have t := eqI c90; omega))
          have n92 : (j1 % 10) = 0 := by have t := eqI c90; rw [show (nI (j1 % 10)).toInt = ((j1 % 10 : Nat) : Int) from tn1219_ ()] at t; have : (0 : Int32).toInt = 0 := qI_0; omega
          refine lv_lconst (v := 1) hx hb dX11_layBest_28 (by decide) ?_
          refine lv_goto (tgt := 33) hx hb dX11_layBest_29 rfl ?_
          exact cut33_89 1 _ _ hP hD hS ls (lv_sub hl [0, 1, 2] rfl)
  exact loop2_3 (70 + 1) 0 (by omega) (by omega) fbe _ _ hP hD hS ls (lv_sub hl [0, 1, 2] rfl)
