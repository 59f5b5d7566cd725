theorem nIm1 {n : Nat} (h : n ≤ 1000) : (nI n - 1).toInt = (n : Int) - 1 := by
  cases n with
  | zero => decide
  | succ k => rw [show nI (k + 1) - 1 = nI k from nI_pred k, nI_toInt (by omega)]; omega
theorem start_nat {x : Int32} (h : okS 48 x) : ∃ k : Nat, x + 5 = nI k ∧ 1 ≤ k ∧ k ≤ 9 := by
  have h1 := h.2.2 (by decide)
  have e : (x + 5).toInt = x.toInt + 5 := by
    have e0 : (x + 5).toInt = (x.toInt + (5 : Int32).toInt).bmod (2 ^ 32) := Int32.toInt_add x 5
    have e1 : (5 : Int32).toInt = 5 := by decide
    rw [e1, Int.bmod_eq_of_le (by omega) (by omega)] at e0
    exact e0
  obtain ⟨j, hj, ej⟩ := i32_nat (x := x + 5) (n := 10) (by omega) (by omega)
  refine ⟨j, ej, ?_, by omega⟩
  have t := congrArg Int32.toInt ej
  rw [nI_toInt (by omega)] at t
  omega
theorem okS_lo {q : Nat} {x : Int32} (h : q < 38) (h0 : 0 ≤ x.toInt) (h1 : x.toInt ≤ 9) : okS q x := ⟨fun _ => ⟨h0, h1⟩, fun h2 => absurd h2 (by omega), fun h2 => absurd h2 (by omega)⟩
theorem okS_or {q : Nat} {x : Int32} (h : 38 ≤ q) (h' : q < 48) (h0 : 0 ≤ x.toInt) (h1 : x.toInt ≤ 5) : okS q x := ⟨fun h2 => absurd h2 (by omega), fun _ _ => ⟨h0, h1⟩, fun h2 => absurd h2 (by omega)⟩
theorem okS_sd {x : Int32} (h0 : 1 ≤ x.toInt) (h1 : x.toInt ≤ 9) : okS 48 (x - 5) := by
  have e0 : (x - 5).toInt = (x.toInt - (5 : Int32).toInt).bmod (2 ^ 32) := Int32.toInt_sub x 5
  have e1 : (5 : Int32).toInt = 5 := by decide
  rw [e1, Int.bmod_eq_of_le (by omega) (by omega)] at e0
  exact ⟨fun h2 => absurd h2 (by decide), fun _ h2 => absurd h2 (by decide), fun _ => ⟨by omega, by omega⟩⟩
theorem ord_nat {fs : Nat → Int32} (h : OKS fs) {q : Nat} (hq : q < 196) (h1 : 38 ≤ q % 49) (h2 : q % 49 < 48) : ∃ j : Nat, j < 6 ∧ fs q = nI j := by
  have k := (h q hq).2.1 h1 h2
  exact i32_nat (by omega) (by omega)
def powF : Nat → Int64
  | 0 => 1
  | n + 1 => powF n * 20
theorem powF_ne {n : Nat} (h : n ≤ 10) : (powF n).toInt ≠ 0 := by
  rcases (show n = 0 ∨ n = 1 ∨ n = 2 ∨ n = 3 ∨ n = 4 ∨ n = 5 ∨ n = 6 ∨ n = 7 ∨ n = 8 ∨ n = 9 ∨ n = 10 by omega) with h|h|h|h|h|h|h|h|h|h|h <;> subst h <;> decide
theorem rem_lt {a b : Int64} (hb : b.toInt ≠ 0) : (a - a / b * b).toInt.natAbs < b.toInt.natAbs := by
  have e1 : (a - a / b * b).toInt = (a.toInt - (a / b * b).toInt).bmod (2 ^ 64) := Int64.toInt_sub a (a / b * b)
  have e2 : (a / b * b).toInt = ((a / b).toInt * b.toInt).bmod (2 ^ 64) := Int64.toInt_mul (a / b) b
  have e3 : (a / b).toInt = (a.toInt.tdiv b.toInt).bmod (2 ^ 64) := Int64.toInt_div a b
  have e4 : (a - a / b * b).toInt = (a.toInt - a.toInt.tdiv b.toInt * b.toInt).bmod (2 ^ 64) := by
    rw [e1, e2, e3]
    simp only [Int.sub_bmod_bmod, Int.bmod_mul_bmod]
  have e5 : a.toInt - a.toInt.tdiv b.toInt * b.toInt = a.toInt.tmod b.toInt := by
    have := Int.tmod_add_mul_tdiv a.toInt b.toInt
    have c := Int.mul_comm b.toInt (a.toInt.tdiv b.toInt)
    omega
  have hl := b.toInt_lt
  have hg := b.le_toInt
  have hlt : (a.toInt.tmod b.toInt).natAbs < b.toInt.natAbs := by
    rw [Int.natAbs_tmod]
    exact Nat.mod_lt _ (by omega)
  rw [e4, e5, Int.bmod_eq_of_le (by omega) (by omega)]
  exact hlt
def hQt (fs : Nat → Int32) (i : Nat) (q : Int32) : Int32 := if q = 0 then fs (2 * i) else 0
def hK' (x : Int32) : Int32 := if x = 1 then 2 else if x = 3 then 1 else 0
def hPos (x : Int32) : Int32 := if x ≤ 0 then 0 else x
def hTr (k c : Int32) : Int32 := if k = 2 ∧ ¬ c < 5 then 1 else 0
def hAbs (x : Int32) : Int32 := if 0 ≤ x then x else -x
def hJo (k x : Int32) : Int32 := if k = 5 then x / 2 else x
def hTop (x : Int32) : Int32 := if x ≤ 20 then x else 20
def rhS (fs : Nat → Int32) (i b : Nat) (q : Int32) : Int32 := hPos (hQt fs i q - hK' (fs (20 + 3 * b))) + hPos (fs (2 * i + 1) - fs (20 + 3 * b + 2)) + hTr (fs (20 + 3 * b)) (fs (2 * i + 1))
def rhN (fs : Nat → Int32) (i b : Nat) (q : Int32) : Int32 := hTop (rhS fs i b q)
def rhB (fs : Nat → Int32) (i a b : Nat) (q : Int32) : Int32 := hTop (if a = b ∨ (fs (20 + 3 * b) = 4 ∧ fs (20 + 3 * a) = 4) then rhS fs i b q else rhS fs i b q + hJo (fs (20 + 3 * b)) (hAbs (fs (20 + 3 * a + 1) - fs (20 + 3 * b + 1))))
set_option maxHeartbeats 1000000 in
set_option maxRecDepth 100000 in
theorem c_X11_end (l : Launch) (dC : Nat → ClassId) (dI : Nat → Nat → Nat) (G : Nat → ClassId) (sz : Nat) (h0 st N B rp tp T cu lt od th be ln S ma M ah bh ik la lg ce : Nat) (n vrs vrb vhs vca vxs vxb vfa vbr vba vsp vhe vtk vva vto : Int32) (hN : N ≤ 10) (hB : B ≤ 6) (hT : T ≤ 320) (hS0 : S ≤ 8) (hM : M ≤ 6) : Met l yX11_end (Cond.code yX11_end cX11_end 3 (some .int) :: GT) ({ frames := 1, cells := 0, slots := 0, locals := 25 } : Room) (PcW [.ref h0, .int n] dC dI G [(h0, .inr (11, [.ref st, .int (nI N), .int (nI B), .ref rp, .int vrs, .int vrb, .int vhs, .int vca, .int vxs, .int vxb, .ref tp, .int (nI T), .int vfa, .int vbr, .int vba, .int vsp, .int vhe, .int vtk, .int vva, .ref cu, .ref lt, .ref od, .ref th, .ref be, .ref ln, .int (nI S), .ref ma, .int (nI M), .ref ah, .ref bh, .ref ik, .ref la, .ref lg, .ref ce, .int vto]))] sz) (va_Qi (fun (r : Int32) (u : Nat) => match u with | oT => (r = if 0 ≤ n.toInt ∧ n.toInt ≤ ((T : Nat) : Int) then nI T else -1) ∧ oT = (if 0 ≤ n.toInt ∧ n.toInt ≤ ((T : Nat) : Int) then n.toNatClampNeg else T) ∧ oT ≤ 320) (fun (u : Nat) (t : State) => match u with | oT => va_P (dC, dI) vwCl [(h0, .inr (11, [.ref st, .int (nI N), .int (nI B), .ref rp, .int vrs, .int vrb, .int vhs, .int vca, .int vxs, .int vxb, .ref tp, .int (nI oT), .int vfa, .int vbr, .int vba, .int vsp, .int vhe, .int vtk, .int vva, .ref cu, .ref lt, .ref od, .ref th, .ref be, .ref ln, .int (nI S), .ref ma, .int (nI M), .ref ah, .ref bh, .ref ik, .ref la, .ref lg, .ref ce, .int vto]))] t.heap ∧ va_D (va_A [(h0, .inr (11, [.ref st, .int (nI N), .int (nI B), .ref rp, .int vrs, .int vrb, .int vhs, .int vca, .int vxs, .int vxb, .ref tp, .int (nI T), .int vfa, .int vbr, .int vba, .int vsp, .int vhe, .int vtk, .int vva, .ref cu, .ref lt, .ref od, .ref th, .ref be, .ref ln, .int (nI S), .ref ma, .int (nI M), .ref ah, .ref bh, .ref ik, .ref la, .ref lg, .ref ce, .int vto]))] sz) [(h0, .inr (11, [.ref st, .int (nI N), .int (nI B), .ref rp, .int vrs, .int vrb, .int vhs, .int vca, .int vxs, .int vxb, .ref tp, .int (nI oT), .int vfa, .int vbr, .int vba, .int vsp, .int vhe, .int vtk, .int vva, .ref cu, .ref lt, .ref od, .ref th, .ref be, .ref ln, .int (nI S), .ref ma, .int (nI M), .ref ah, .ref bh, .ref ik, .ref la, .ref lg, .ref ce, .int vto]))]) (va_A [(h0, .inr (11, [.ref st, .int (nI N), .int (nI B), .ref rp, .int vrs, .int vrb, .int vhs, .int vca, .int vxs, .int vxb, .ref tp, .int (nI T), .int vfa, .int vbr, .int vba, .int vsp, .int vhe, .int vtk, .int vva, .ref cu, .ref lt, .ref od, .ref th, .ref be, .ref ln, .int (nI S), .ref ma, .int (nI M), .ref ah, .ref bh, .ref ik, .ref la, .ref lg, .ref ce, .int vto]))] sz)) 0 0 (va_A [(h0, .inr (11, [.ref st, .int (nI N), .int (nI B), .ref rp, .int vrs, .int vrb, .int vhs, .int vca, .int vxs, .int vxb, .ref tp, .int (nI T), .int vfa, .int vbr, .int vba, .int vsp, .int vhe, .int vtk, .int vva, .ref cu, .ref lt, .ref od, .ref th, .ref be, .ref ln, .int (nI S), .ref ma, .int (nI M), .ref ah, .ref bh, .ref ik, .ref la, .ref lg, .ref ce, .int vto]))] sz) := by
  refine Met.ofW (cc := cX11_end) (maxL := 3) (ret := (some .int)) (by decide) rfl ?_
  intro p e s m args below meth c s₁ Bd hml hv
  obtain ⟨rfl, hsz, hP, hK, hD0⟩ := hv
  have hx := Bd.exec
  have hb := Bd.bytes
  have hr := Bd.returns
  have hg : ∀ w ∈ GT, w.before ([.ref h0, .int n] : List Value).toArray s = true := fun w h => atoms_spec (ws := Cond.code yX11_end cX11_end 3 (some .int) :: GT) Bd.pre w (List.mem_cons_of_mem _ h)
  have hown : s.vm.findClass RX11 = some m.cls := findClass_of_methodNamed Bd.named
  have hlocks := Bd.notSynchronized
  subst hsz
  have hD := hD0.self (sz := s.heap.size)
  generalize hAe : va_A [(h0, .inr (11, [.ref st, .int (nI N), .int (nI B), .ref rp, .int vrs, .int vrb, .int vhs, .int vca, .int vxs, .int vxb, .ref tp, .int (nI T), .int vfa, .int vbr, .int vba, .int vsp, .int vhe, .int vtk, .int vva, .ref cu, .ref lt, .ref od, .ref th, .ref be, .ref ln, .int (nI S), .ref ma, .int (nI M), .ref ah, .ref bh, .ref ik, .ref la, .ref lg, .ref ce, .int vto]))] s.heap.size = A at hD ⊢
  have hA : ∀ q : Nat, s.heap.size ≤ q → A q := fun q h => by rw [← hAe]; exact Or.inr h
  have hS : va_S A s.heap s.heap [] := va_S.rf
  have hl := lv_entry ([.ref h0, .int n]) (n := 3) (Nat.le_of_ble_eq_true rfl)
  rw [lg_entry_eq]
  generalize (lg_sl ([.ref h0, .int n]) ++ List.replicate (3 - (lg_sl ([.ref h0, .int n])).length) Slot.unset).toArray = ls at hl ⊢
  have hl : lv_has ls 3 [(0, .ref h0), (1, .int n)] := hl
  refine lv_iload_n hx hb dX11_end_0 rfl (lv_at hl 1 rfl) ?_
  refine lv_i2l (v := n.toInt64) hx hb dX11_end_1 rfl ?_
  refine lv_lconst (v := 0) hx hb dX11_end_2 (by decide) ?_
  refine lv_aload_n hx hb dX11_end_3 rfl (lv_at hl 0 rfl) ?_
  refine va_get (D := (dC, dI)) (ci := 11) (v := .int (nI T)) (C := RX11) (T := TX11) (N := 35) hx hb hg inG11 hown hK.1 hP 0 rfl rfl 11 (by decide) (hg _ wt_889) (fun _ h9 => h9) rfl dX11_end_4 ?_
  refine lv_i2l (v := (nI T).toInt64) hx hb dX11_end_7 rfl ?_
  have hPc := hP.sub (ws' := []) [] rfl
  refine va_calli (va_runS (As := [.long n.toInt64, .long 0, .long ((nI T).toInt64)]) (rest := []) ⟨hx, hb, hml, hown, hg⟩ (c_X11_in l dC dI G _ n.toInt64 0 ((nI T).toInt64)) (kwS hg mfX11_in wt_992 ⟨Nat.le_of_ble_eq_true rfl, Nat.le_of_ble_eq_true rfl⟩) (preSR hK hPc) rfl rfl hl.1 rfl (lv_room (Nat.le_of_ble_eq_true rfl)) dX11_end_8 ⟨Nat.le_of_ble_eq_true rfl, Nat.le_of_ble_eq_true rfl⟩) hS (fun q h1 h2 => absurd h2 (Nat.not_le.mpr h1)) (fun q h => hA q (Nat.le_trans hS.1 h)) (fun r1 ur1 t H1 locs ht hvm w2 hB hz1 hk1 hS => ?_)
  have hP := keepR hP hk1
  obtain ⟨w2, w2x⟩ := w2
  try simp only [l_ii, show (0 : Int64).toInt = 0 from by decide] at w2
  subst w2
  refine lv_if_ne (tgt := 16) hx hb dX11_end_11 (by decide) (fun c3 => ?_) (fun c3 => ?_)
  · skip
    have b4 := if10_p c3
    obtain ⟨nn, hnn, rfl⟩ : ∃ j : Nat, j < 321 ∧ n = nI j := by
      have t_b4 := b4
      have tn778_ : nIT N := fun _ => nI_toInt (by omega)
      have t_n0 : (nI N).toInt = (N : Int) := tn778_ ()
      have tn779_ : nIT B := fun _ => nI_toInt (by omega)
      have t_n1 : (nI B).toInt = (B : Int) := tn779_ ()
      have tn780_ : nIT T := fun _ => nI_toInt (by omega)
      have t_n2 : (nI T).toInt = (T : Int) := tn780_ ()
      have tn781_ : nIT S := fun _ => nI_toInt (by omega)
      have t_n3 : (nI S).toInt = (S : Int) := tn781_ ()
      have tn782_ : nIT M := fun _ => nI_toInt (by omega)
      have t_n4 : (nI M).toInt = (M : Int) := tn782_ ()
      exact i32_nat (by omega) (by omega)
    refine lv_aload_n hx hb dX11_end_16 rfl (lv_at hl 0 rfl) ?_
    refine va_get (D := (dC, dI)) (ci := 11) (v := .int (nI T)) (C := RX11) (T := TX11) (N := 35) hx hb hg inG11 hown hK.1 hP 0 rfl rfl 11 (by decide) (hg _ wt_889) (fun _ h9 => h9) rfl dX11_end_17 ?_
    refine lv_istore_n (lv' := [(2, .int (nI T)), (0, .ref h0), (1, .int (nI nn))]) hx hb dX11_end_20 rfl hl (by decide) rfl (fun ls hl => ?_)
    refine lv_aload_n hx hb dX11_end_21 rfl (lv_at hl 1 rfl) ?_
    refine lv_iload_n hx hb dX11_end_22 rfl (lv_at hl 2 rfl) ?_
    refine va_put (D := (dC, dI)) (ci := 11) (v := .int (nI nn)) (ty := .int) (C := RX11) (T := TX11) (N := 35) hx hb hg inG11 tyX11 tyX11_ok nmX11 hown hK.1 hP hD hS 0 rfl rfl 11 (by decide) (hg _ wt_889) (fun _ h9 => h9) rfl (by decide +kernel) rfl rfl (Nat.le_of_ble_eq_true rfl) dX11_end_23 (fun H locs hP hD hS => ?_)
    have hP : va_P (dC, dI) vwCl [(h0, .inr (11, [.ref st, .int (nI N), .int (nI B), .ref rp, .int vrs, .int vrb, .int vhs, .int vca, .int vxs, .int vxb, .ref tp, .int (nI nn), .int vfa, .int vbr, .int vba, .int vsp, .int vhe, .int vtk, .int vva, .ref cu, .ref lt, .ref od, .ref th, .ref be, .ref ln, .int (nI S), .ref ma, .int (nI M), .ref ah, .ref bh, .ref ik, .ref la, .ref lg, .ref ce, .int vto]))] H := hP
    have hD : va_D A [(h0, .inr (11, [.ref st, .int (nI N), .int (nI B), .ref rp, .int vrs, .int vrb, .int vhs, .int vca, .int vxs, .int vxb, .ref tp, .int (nI nn), .int vfa, .int vbr, .int vba, .int vsp, .int vhe, .int vtk, .int vva, .ref cu, .ref lt, .ref od, .ref th, .ref be, .ref ln, .int (nI S), .ref ma, .int (nI M), .ref ah, .ref bh, .ref ik, .ref la, .ref lg, .ref ce, .int vto]))] := hD
    refine lv_iload_n hx hb dX11_end_26 rfl (lv_at hl 0 rfl) ?_
    have hpost : (nI T : Int32) = if 0 ≤ (nI nn).toInt ∧ (nI nn).toInt ≤ ((T : Nat) : Int) then nI T else -1 := by
      have t_b4 := b4
      have t_hnn := hnn
      have tn783_ : nIT N := fun _ => nI_toInt (by omega)
      have t_n0 : (nI N).toInt = (N : Int) := tn783_ ()
      have tn784_ : nIT B := fun _ => nI_toInt (by omega)
      have t_n1 : (nI B).toInt = (B : Int) := tn784_ ()
      have tn785_ : nIT T := fun _ => nI_toInt (by omega)
      have t_n2 : (nI T).toInt = (T : Int) := tn785_ ()
      have tn786_ : nIT S := fun _ => nI_toInt (by omega)
      have t_n3 : (nI S).toInt = (S : Int) := tn786_ ()
      have tn787_ : nIT M := fun _ => nI_toInt (by omega)
      have t_n4 : (nI M).toInt = (M : Int) := tn787_ ()
      have tn788_ : nIT nn := fun _ => nI_toInt (by omega)
      have t_n5 : (nI nn).toInt = (nn : Int) := tn788_ ()
      have t_n0 : (nI N).toInt = (N : Int) := tn783_ ()
      have t_n1 : (nI B).toInt = (B : Int) := tn784_ ()
      have t_n2 : (nI T).toInt = (T : Int) := tn785_ ()
      have t_n3 : (nI S).toInt = (S : Int) := tn786_ ()
      have t_n4 : (nI M).toInt = (M : Int) := tn787_ ()
      first | rfl | ((repeat' split) <;> first | rfl | omega)
    have hP9 := hP.sub (ws' := [(h0, .inr (11, [.ref st, .int (nI N), .int (nI B), .ref rp, .int vrs, .int vrb, .int vhs, .int vca, .int vxs, .int vxb, .ref tp, .int (nI nn), .int vfa, .int vbr, .int vba, .int vsp, .int vhe, .int vtk, .int vva, .ref cu, .ref lt, .ref od, .ref th, .ref be, .ref ln, .int (nI S), .ref ma, .int (nI M), .ref ah, .ref bh, .ref ik, .ref la, .ref lg, .ref ce, .int vto]))]) [0] rfl
    have hD9 := hD.sub (ws' := [(h0, .inr (11, [.ref st, .int (nI N), .int (nI B), .ref rp, .int vrs, .int vrb, .int vhs, .int vca, .int vxs, .int vxb, .ref tp, .int (nI nn), .int vfa, .int vbr, .int vba, .int vsp, .int vhe, .int vtk, .int vva, .ref cu, .ref lt, .ref od, .ref th, .ref be, .ref ln, .int (nI S), .ref ma, .int (nI M), .ref ah, .ref bh, .ref ik, .ref la, .ref lg, .ref ce, .int vto]))]) [0] (by decide) rfl
    refine W.widen (k := 0) (n := 0) (Nat.le_of_ble_eq_true rfl) (Nat.le_of_ble_eq_true rfl) ?_
    have tn789_ : nIT N := fun _ => nI_toInt (by first | omega | (have t_b4 := b4; have t_hnn := hnn; omega))
    have tn790_ : nIT B := fun _ => nI_toInt (by first | omega | (have t_b4 := b4; have t_hnn := hnn; omega))
    have tn791_ : nIT T := fun _ => nI_toInt (by first | omega | (have t_b4 := b4; have t_hnn := hnn; omega))
    have tn792_ : nIT S := fun _ => nI_toInt (by first | omega | (have t_b4 := b4; have t_hnn := hnn; omega))
    have tn793_ : nIT M := fun _ => nI_toInt (by first | omega | (have t_b4 := b4; have t_hnn := hnn; omega))
    have tn794_ : nIT nn := fun _ => nI_toInt (by first | omega | (have t_b4 := b4; have t_hnn := hnn; omega))
    exact W.iret (v := nI T) hx hb hr (fun t ht hW => ⟨⟨nI T, nn, rfl, ⟨hpost, (by have t_b4 := b4; have t_hnn := hnn; have t_n0 : (nI N).toInt = (N : Int) := tn789_ (); have t_n1 : (nI B).toInt = (B : Int) := tn790_ (); have t_n2 : (nI T).toInt = (T : Int) := tn791_ (); have t_n3 : (nI S).toInt = (S : Int) := tn792_ (); have t_n4 : (nI M).toInt = (M : Int) := tn793_ (); have t_n5 : (nI nn).toInt = (nn : Int) := tn794_ (); refine ⟨?_, by omega⟩; split <;> first | exact (nI_clamp (by omega)).symm | rfl | omega)⟩, ⟨by rw [ht]; exact hP9, hD9⟩⟩, hS.F ht⟩) hS.2.2 dX11_end_27
  · skip
    have b5 := if10_n c3
    refine lv_iconst (v := (-1)) hx hb dX11_end_14 (by decide) ?_
    have hpost : ((-1) : Int32) = if 0 ≤ n.toInt ∧ n.toInt ≤ ((T : Nat) : Int) then nI T else -1 := by
      have t_b5 := b5
      have tn795_ : nIT N := fun _ => nI_toInt (by omega)
      have t_n0 : (nI N).toInt = (N : Int) := tn795_ ()
      have tn796_ : nIT B := fun _ => nI_toInt (by omega)
      have t_n1 : (nI B).toInt = (B : Int) := tn796_ ()
      have tn797_ : nIT T := fun _ => nI_toInt (by omega)
      have t_n2 : (nI T).toInt = (T : Int) := tn797_ ()
      have tn798_ : nIT S := fun _ => nI_toInt (by omega)
      have t_n3 : (nI S).toInt = (S : Int) := tn798_ ()
      have tn799_ : nIT M := fun _ => nI_toInt (by omega)
      have t_n4 : (nI M).toInt = (M : Int) := tn799_ ()
      have t_n0 : (nI N).toInt = (N : Int) := tn795_ ()
      have t_n1 : (nI B).toInt = (B : Int) := tn796_ ()
      have t_n2 : (nI T).toInt = (T : Int) := tn797_ ()
      have t_n3 : (nI S).toInt = (S : Int) := tn798_ ()
      first | rfl | ((repeat' split) <;> first | rfl | omega)
    have hP9 := hP.sub (ws' := [(h0, .inr (11, [.ref st, .int (nI N), .int (nI B), .ref rp, .int vrs, .int vrb, .int vhs, .int vca, .int vxs, .int vxb, .ref tp, .int (nI T), .int vfa, .int vbr, .int vba, .int vsp, .int vhe, .int vtk, .int vva, .ref cu, .ref lt, .ref od, .ref th, .ref be, .ref ln, .int (nI S), .ref ma, .int (nI M), .ref ah, .ref bh, .ref ik, .ref la, .ref lg, .ref ce, .int vto]))]) [0] rfl
    have hD9 := hD.sub (ws' := [(h0, .inr (11, [.ref st, .int (nI N), .int (nI B), .ref rp, .int vrs, .int vrb, .int vhs, .int vca, .int vxs, .int vxb, .ref tp, .int (nI T), .int vfa, .int vbr, .int vba, .int vsp, .int vhe, .int vtk, .int vva, .ref cu, .ref lt, .ref od, .ref th, .ref be, .ref ln, .int (nI S), .ref ma, .int (nI M), .ref ah, .ref bh, .ref ik, .ref la, .ref lg, .ref ce, .int vto]))]) [0] (by decide) rfl
    refine W.widen (k := 0) (n := 0) (Nat.le_of_ble_eq_true rfl) (Nat.le_of_ble_eq_true rfl) ?_
    have tn800_ : nIT N := fun _ => nI_toInt (by first | omega | (have t_b5 := b5; omega))
    have tn801_ : nIT B := fun _ => nI_toInt (by first | omega | (have t_b5 := b5; omega))
    have tn802_ : nIT T := fun _ => nI_toInt (by first | omega | (have t_b5 := b5; omega))
    have tn803_ : nIT S := fun _ => nI_toInt (by first | omega | (have t_b5 := b5; omega))
    have tn804_ : nIT M := fun _ => nI_toInt (by first | omega | (have t_b5 := b5; omega))
    exact W.iret (v := (-1)) hx hb hr (fun t ht hW => ⟨⟨(-1), T, rfl, ⟨hpost, (by have t_b5 := b5; have t_n0 : (nI N).toInt = (N : Int) := tn800_ (); have t_n1 : (nI B).toInt = (B : Int) := tn801_ (); have t_n2 : (nI T).toInt = (T : Int) := tn802_ (); have t_n3 : (nI S).toInt = (S : Int) := tn803_ (); have t_n4 : (nI M).toInt = (M : Int) := tn804_ (); refine ⟨?_, by omega⟩; split <;> first | exact (nI_clamp (by omega)).symm | rfl | omega)⟩, ⟨by rw [ht]; exact hP9, hD9⟩⟩, hS.F ht⟩) hS.2.2 dX11_end_15

set_option maxHeartbeats 1000000 in
set_option maxRecDepth 100000 in
theorem c_X11_torn (l : Launch) (dC : Nat → ClassId) (dI : Nat → Nat → Nat) (G : Nat → ClassId) (sz : Nat) (h0 st N B rp tp T cu lt od th be ln S ma M ah bh ik la lg ce : Nat) (vrs vrb vhs vca vxs vxb vfa vbr vba vsp vhe vtk vva vto : Int32) (hN : N ≤ 10) (hB : B ≤ 6) (hT : T ≤ 320) (hS0 : S ≤ 8) (hM : M ≤ 6) : Met l yX11_torn (Cond.code yX11_torn cX11_torn 1 (some .int) :: GT) ({ frames := 0, cells := 0, slots := 0, locals := 0 } : Room) (PcR [.ref h0] dC dI G [(h0, .inr (11, [.ref st, .int (nI N), .int (nI B), .ref rp, .int vrs, .int vrb, .int vhs, .int vca, .int vxs, .int vxb, .ref tp, .int (nI T), .int vfa, .int vbr, .int vba, .int vsp, .int vhe, .int vtk, .int vva, .ref cu, .ref lt, .ref od, .ref th, .ref be, .ref ln, .int (nI S), .ref ma, .int (nI M), .ref ah, .ref bh, .ref ik, .ref la, .ref lg, .ref ce, .int vto]))] sz) (va_Qi (fun (r : Int32) (u : Unit) => match u with | _ => (True) ∧ True) (fun _ _ => True) (fun q : Nat => sz ≤ q)) 0 0 (fun q : Nat => sz ≤ q) := by
  refine Met.ofW (cc := cX11_torn) (maxL := 1) (ret := (some .int)) (by decide) rfl ?_
  intro p e s m args below meth c s₁ Bd hml hv
  obtain ⟨rfl, hsz, hP, hK⟩ := hv
  have hx := Bd.exec
  have hb := Bd.bytes
  have hr := Bd.returns
  have hg : ∀ w ∈ GT, w.before ([.ref h0] : List Value).toArray s = true := fun w h => atoms_spec (ws := Cond.code yX11_torn cX11_torn 1 (some .int) :: GT) Bd.pre w (List.mem_cons_of_mem _ h)
  have hown : s.vm.findClass RX11 = some m.cls := findClass_of_methodNamed Bd.named
  have hlocks := Bd.notSynchronized
  subst hsz
  have hA : ∀ q : Nat, s.heap.size ≤ q → (fun q : Nat => s.heap.size ≤ q) q := fun _ h => h
  have hS : va_S (fun q : Nat => s.heap.size ≤ q) s.heap s.heap [] := va_S.rf
  have hl := lv_entry ([.ref h0]) (n := 1) (Nat.le_of_ble_eq_true rfl)
  rw [lg_entry_eq]
  generalize (lg_sl ([.ref h0]) ++ List.replicate (1 - (lg_sl ([.ref h0])).length) Slot.unset).toArray = ls at hl ⊢
  have hl : lv_has ls 1 [(0, .ref h0)] := hl
  refine lv_aload_n hx hb dX11_torn_0 rfl (lv_at hl 0 rfl) ?_
  refine va_get (D := (dC, dI)) (ci := 11) (v := .int vto) (C := RX11) (T := TX11) (N := 35) hx hb hg inG11 hown hK.1 hP 0 rfl rfl 34 (by decide) (hg _ wt_912) (fun _ h9 => h9) rfl dX11_torn_1 ?_
  have hpost : True := by
    trivial
  refine W.widen (k := 0) (n := 0) (Nat.le_of_ble_eq_true rfl) (Nat.le_of_ble_eq_true rfl) ?_
  exact W.iret (v := vto) hx hb hr (fun t ht hW => ⟨⟨vto, (), rfl, ⟨hpost, trivial⟩, trivial⟩, hS.F ht⟩) hS.2.2 dX11_torn_4

set_option maxHeartbeats 1000000 in
set_option maxRecDepth 100000 in
theorem c_X11_isStretch (l : Launch) (dC : Nat → ClassId) (dI : Nat → Nat → Nat) (G : Nat → ClassId) (sz : Nat) (h0 st N B rp tp T cu lt od th be ln S ma M ah bh ik la lg ce : Nat) (i vrs vrb vhs vca vxs vxb vfa vbr vba vsp vhe vtk vva vto : Int32) (hN : N ≤ 10) (hB : B ≤ 6) (hT : T ≤ 320) (hS0 : S ≤ 8) (hM : M ≤ 6) : Met l yX11_isStretch (Cond.code yX11_isStretch cX11_isStretch 2 (some .boolean) :: GT) ({ frames := 1, cells := 0, slots := 0, locals := 25 } : Room) (PcR [.ref h0, .int i] dC dI G [(h0, .inr (11, [.ref st, .int (nI N), .int (nI B), .ref rp, .int vrs, .int vrb, .int vhs, .int vca, .int vxs, .int vxb, .ref tp, .int (nI T), .int vfa, .int vbr, .int vba, .int vsp, .int vhe, .int vtk, .int vva, .ref cu, .ref lt, .ref od, .ref th, .ref be, .ref ln, .int (nI S), .ref ma, .int (nI M), .ref ah, .ref bh, .ref ik, .ref la, .ref lg, .ref ce, .int vto]))] sz) (va_Qi (fun (r : Int32) (u : Unit) => match u with | _ => (r = if 0 ≤ i.toInt ∧ i.toInt < ((N : Nat) : Int) then 1 else 0) ∧ True) (fun _ _ => True) (fun q : Nat => sz ≤ q)) 0 0 (fun q : Nat => sz ≤ q) := by
  refine Met.ofW (cc := cX11_isStretch) (maxL := 2) (ret := (some .boolean)) (by decide) rfl ?_
  intro p e s m args below meth c s₁ Bd hml hv
  obtain ⟨rfl, hsz, hP, hK⟩ := hv
  have hx := Bd.exec
  have hb := Bd.bytes
  have hr := Bd.returns
  have hg : ∀ w ∈ GT, w.before ([.ref h0, .int i] : List Value).toArray s = true := fun w h => atoms_spec (ws := Cond.code yX11_isStretch cX11_isStretch 2 (some .boolean) :: GT) Bd.pre w (List.mem_cons_of_mem _ h)
  have hown : s.vm.findClass RX11 = some m.cls := findClass_of_methodNamed Bd.named
  have hlocks := Bd.notSynchronized
  subst hsz
  have hA : ∀ q : Nat, s.heap.size ≤ q → (fun q : Nat => s.heap.size ≤ q) q := fun _ h => h
  have hS : va_S (fun q : Nat => s.heap.size ≤ q) s.heap s.heap [] := va_S.rf
  have hl := lv_entry ([.ref h0, .int i]) (n := 2) (Nat.le_of_ble_eq_true rfl)
  rw [lg_entry_eq]
  generalize (lg_sl ([.ref h0, .int i]) ++ List.replicate (2 - (lg_sl ([.ref h0, .int i])).length) Slot.unset).toArray = ls at hl ⊢
  have hl : lv_has ls 2 [(0, .ref h0), (1, .int i)] := hl
  refine lv_iload_n hx hb dX11_isStretch_0 rfl (lv_at hl 1 rfl) ?_
  refine lv_i2l (v := i.toInt64) hx hb dX11_isStretch_1 rfl ?_
  refine lv_lconst (v := 0) hx hb dX11_isStretch_2 (by decide) ?_
  refine lv_aload_n hx hb dX11_isStretch_3 rfl (lv_at hl 0 rfl) ?_
  refine va_get (D := (dC, dI)) (ci := 11) (v := .int (nI N)) (C := RX11) (T := TX11) (N := 35) hx hb hg inG11 hown hK.1 hP 0 rfl rfl 1 (by decide) (hg _ wt_879) (fun _ h9 => h9) rfl dX11_isStretch_4 ?_
  refine lv_iconst (v := 1) hx hb dX11_isStretch_7 (by decide) ?_
  refine lv_isub hx hb dX11_isStretch_8 ?_
  refine lv_i2l (v := ((nI N) - 1).toInt64) hx hb dX11_isStretch_9 rfl ?_
  have hPc := hP.sub (ws' := []) [] rfl
  refine va_calli (va_runS (As := [.long i.toInt64, .long 0, .long (((nI N) - 1).toInt64)]) (rest := []) ⟨hx, hb, hml, hown, hg⟩ (c_X11_in l dC dI G _ i.toInt64 0 (((nI N) - 1).toInt64)) (kwS hg mfX11_in wt_992 ⟨Nat.le_of_ble_eq_true rfl, Nat.le_of_ble_eq_true rfl⟩) (preSR hK hPc) rfl rfl hl.1 rfl (lv_room (Nat.le_of_ble_eq_true rfl)) dX11_isStretch_10 ⟨Nat.le_of_ble_eq_true rfl, Nat.le_of_ble_eq_true rfl⟩) hS (fun q h1 h2 => absurd h2 (Nat.not_le.mpr h1)) (fun q h => hA q (Nat.le_trans hS.1 h)) (fun r1 ur1 t H1 locs ht hvm w2 hB hz1 hk1 hS => ?_)
  have hP := keepR hP hk1
  obtain ⟨w2, w2x⟩ := w2
  try simp only [l_ii, show (0 : Int64).toInt = 0 from by decide] at w2
  subst w2
  have hpost : (if 0 ≤ i.toInt ∧ i.toInt ≤ ((nI N) - 1).toInt then 1 else 0 : Int32) = if 0 ≤ i.toInt ∧ i.toInt < ((N : Nat) : Int) then 1 else 0 := by
    have e9 := nIm1 (n := N) (by omega)
    (repeat' split) <;> first | rfl | omega
  refine W.widen (k := 0) (n := 0) (Nat.le_of_ble_eq_true rfl) (Nat.le_of_ble_eq_true rfl) ?_
  exact W.zret (v := if 0 ≤ i.toInt ∧ i.toInt ≤ ((nI N) - 1).toInt then 1 else 0) hx hb hr (by first | rfl | decide | exact zn01 (by split <;> simp)) (fun t ht hW => ⟨⟨if 0 ≤ i.toInt ∧ i.toInt ≤ ((nI N) - 1).toInt then 1 else 0, (), rfl, ⟨hpost, trivial⟩, trivial⟩, hS.F ht⟩) hS.2.2 dX11_isStretch_13

set_option maxHeartbeats 1000000 in
set_option maxRecDepth 100000 in
theorem c_X11_isBearer (l : Launch) (dC : Nat → ClassId) (dI : Nat → Nat → Nat) (G : Nat → ClassId) (sz : Nat) (h0 st N B rp tp T cu lt od th be ln S ma M ah bh ik la lg ce : Nat) (i vrs vrb vhs vca vxs vxb vfa vbr vba vsp vhe vtk vva vto : Int32) (hN : N ≤ 10) (hB : B ≤ 6) (hT : T ≤ 320) (hS0 : S ≤ 8) (hM : M ≤ 6) : Met l yX11_isBearer (Cond.code yX11_isBearer cX11_isBearer 2 (some .boolean) :: GT) ({ frames := 1, cells := 0, slots := 0, locals := 25 } : Room) (PcR [.ref h0, .int i] dC dI G [(h0, .inr (11, [.ref st, .int (nI N), .int (nI B), .ref rp, .int vrs, .int vrb, .int vhs, .int vca, .int vxs, .int vxb, .ref tp, .int (nI T), .int vfa, .int vbr, .int vba, .int vsp, .int vhe, .int vtk, .int vva, .ref cu, .ref lt, .ref od, .ref th, .ref be, .ref ln, .int (nI S), .ref ma, .int (nI M), .ref ah, .ref bh, .ref ik, .ref la, .ref lg, .ref ce, .int vto]))] sz) (va_Qi (fun (r : Int32) (u : Unit) => match u with | _ => (r = if 0 ≤ i.toInt ∧ i.toInt < ((B : Nat) : Int) then 1 else 0) ∧ True) (fun _ _ => True) (fun q : Nat => sz ≤ q)) 0 0 (fun q : Nat => sz ≤ q) := by
  refine Met.ofW (cc := cX11_isBearer) (maxL := 2) (ret := (some .boolean)) (by decide) rfl ?_
  intro p e s m args below meth c s₁ Bd hml hv
  obtain ⟨rfl, hsz, hP, hK⟩ := hv
  have hx := Bd.exec
  have hb := Bd.bytes
  have hr := Bd.returns
  have hg : ∀ w ∈ GT, w.before ([.ref h0, .int i] : List Value).toArray s = true := fun w h => atoms_spec (ws := Cond.code yX11_isBearer cX11_isBearer 2 (some .boolean) :: GT) Bd.pre w (List.mem_cons_of_mem _ h)
  have hown : s.vm.findClass RX11 = some m.cls := findClass_of_methodNamed Bd.named
  have hlocks := Bd.notSynchronized
  subst hsz
  have hA : ∀ q : Nat, s.heap.size ≤ q → (fun q : Nat => s.heap.size ≤ q) q := fun _ h => h
  have hS : va_S (fun q : Nat => s.heap.size ≤ q) s.heap s.heap [] := va_S.rf
  have hl := lv_entry ([.ref h0, .int i]) (n := 2) (Nat.le_of_ble_eq_true rfl)
  rw [lg_entry_eq]
  generalize (lg_sl ([.ref h0, .int i]) ++ List.replicate (2 - (lg_sl ([.ref h0, .int i])).length) Slot.unset).toArray = ls at hl ⊢
  have hl : lv_has ls 2 [(0, .ref h0), (1, .int i)] := hl
  refine lv_iload_n hx hb dX11_isBearer_0 rfl (lv_at hl 1 rfl) ?_
  refine lv_i2l (v := i.toInt64) hx hb dX11_isBearer_1 rfl ?_
  refine lv_lconst (v := 0) hx hb dX11_isBearer_2 (by decide) ?_
  refine lv_aload_n hx hb dX11_isBearer_3 rfl (lv_at hl 0 rfl) ?_
  refine va_get (D := (dC, dI)) (ci := 11) (v := .int (nI B)) (C := RX11) (T := TX11) (N := 35) hx hb hg inG11 hown hK.1 hP 0 rfl rfl 2 (by decide) (hg _ wt_880) (fun _ h9 => h9) rfl dX11_isBearer_4 ?_
  refine lv_iconst (v := 1) hx hb dX11_isBearer_7 (by decide) ?_
  refine lv_isub hx hb dX11_isBearer_8 ?_
  refine lv_i2l (v := ((nI B) - 1).toInt64) hx hb dX11_isBearer_9 rfl ?_
  have hPc := hP.sub (ws' := []) [] rfl
  refine va_calli (va_runS (As := [.long i.toInt64, .long 0, .long (((nI B) - 1).toInt64)]) (rest := []) ⟨hx, hb, hml, hown, hg⟩ (c_X11_in l dC dI G _ i.toInt64 0 (((nI B) - 1).toInt64)) (kwS hg mfX11_in wt_992 ⟨Nat.le_of_ble_eq_true rfl, Nat.le_of_ble_eq_true rfl⟩) (preSR hK hPc) rfl rfl hl.1 rfl (lv_room (Nat.le_of_ble_eq_true rfl)) dX11_isBearer_10 ⟨Nat.le_of_ble_eq_true rfl, Nat.le_of_ble_eq_true rfl⟩) hS (fun q h1 h2 => absurd h2 (Nat.not_le.mpr h1)) (fun q h => hA q (Nat.le_trans hS.1 h)) (fun r1 ur1 t H1 locs ht hvm w2 hB hz1 hk1 hS => ?_)
  have hP := keepR hP hk1
  obtain ⟨w2, w2x⟩ := w2
  try simp only [l_ii, show (0 : Int64).toInt = 0 from by decide] at w2
  subst w2
  have hpost : (if 0 ≤ i.toInt ∧ i.toInt ≤ ((nI B) - 1).toInt then 1 else 0 : Int32) = if 0 ≤ i.toInt ∧ i.toInt < ((B : Nat) : Int) then 1 else 0 := by
    have e9 := nIm1 (n := B) (by omega)
    (repeat' split) <;> first | rfl | omega
  refine W.widen (k := 0) (n := 0) (Nat.le_of_ble_eq_true rfl) (Nat.le_of_ble_eq_true rfl) ?_
  exact W.zret (v := if 0 ≤ i.toInt ∧ i.toInt ≤ ((nI B) - 1).toInt then 1 else 0) hx hb hr (by first | rfl | decide | exact zn01 (by split <;> simp)) (fun t ht hW => ⟨⟨if 0 ≤ i.toInt ∧ i.toInt ≤ ((nI B) - 1).toInt then 1 else 0, (), rfl, ⟨hpost, trivial⟩, trivial⟩, hS.F ht⟩) hS.2.2 dX11_isBearer_13

set_option maxHeartbeats 1000000 in
set_option maxRecDepth 100000 in
theorem c_X11_startNow (l : Launch) (dC : Nat → ClassId) (dI : Nat → Nat → Nat) (G : Nat → ClassId) (sz : Nat) (h0 st N B rp tp T cu lt od th be ln S ma M ah bh ik la lg ce : Nat) (vrs vrb vhs vca vxs vxb vfa vbr vba vsp vhe vtk vva vto : Int32) (fst : Nat → Int32) (hN : N ≤ 10) (hB : B ≤ 6) (hT : T ≤ 320) (hS0 : S ≤ 8) (hM : M ≤ 6) (hst : OKS fst) : Met l yX11_startNow (Cond.code yX11_startNow cX11_startNow 1 (some .int) :: GT) ({ frames := 0, cells := 0, slots := 0, locals := 0 } : Room) (PcR [.ref h0] dC dI G [(h0, .inr (11, [.ref st, .int (nI N), .int (nI B), .ref rp, .int vrs, .int vrb, .int vhs, .int vca, .int vxs, .int vxb, .ref tp, .int (nI T), .int vfa, .int vbr, .int vba, .int vsp, .int vhe, .int vtk, .int vva, .ref cu, .ref lt, .ref od, .ref th, .ref be, .ref ln, .int (nI S), .ref ma, .int (nI M), .ref ah, .ref bh, .ref ik, .ref la, .ref lg, .ref ce, .int vto])), (st, .inl (G 0, 196, .inl fst))] sz) (va_Qi (fun (r : Int32) (u : Unit) => match u with | _ => (∃ k : Nat, r = nI k ∧ 1 ≤ k ∧ k ≤ 9) ∧ True) (fun _ _ => True) (fun q : Nat => sz ≤ q)) 0 0 (fun q : Nat => sz ≤ q) := by
  refine Met.ofW (cc := cX11_startNow) (maxL := 1) (ret := (some .int)) (by decide) rfl ?_
  intro p e s m args below meth c s₁ Bd hml hv
  obtain ⟨rfl, hsz, hP, hK⟩ := hv
  have hx := Bd.exec
  have hb := Bd.bytes
  have hr := Bd.returns
  have hg : ∀ w ∈ GT, w.before ([.ref h0] : List Value).toArray s = true := fun w h => atoms_spec (ws := Cond.code yX11_startNow cX11_startNow 1 (some .int) :: GT) Bd.pre w (List.mem_cons_of_mem _ h)
  have hown : s.vm.findClass RX11 = some m.cls := findClass_of_methodNamed Bd.named
  have hlocks := Bd.notSynchronized
  subst hsz
  have hA : ∀ q : Nat, s.heap.size ≤ q → (fun q : Nat => s.heap.size ≤ q) q := fun _ h => h
  have hS : va_S (fun q : Nat => s.heap.size ≤ q) s.heap s.heap [] := va_S.rf
  have hl := lv_entry ([.ref h0]) (n := 1) (Nat.le_of_ble_eq_true rfl)
  rw [lg_entry_eq]
  generalize (lg_sl ([.ref h0]) ++ List.replicate (1 - (lg_sl ([.ref h0])).length) Slot.unset).toArray = ls at hl ⊢
  have hl : lv_has ls 1 [(0, .ref h0)] := hl
  refine lv_aload_n hx hb dX11_startNow_0 rfl (lv_at hl 0 rfl) ?_
  refine va_get (D := (dC, dI)) (ci := 11) (v := .ref st) (C := RX11) (T := TX11) (N := 35) hx hb hg inG11 hown hK.1 hP 0 rfl rfl 0 (by decide) (hg _ wt_878) (fun _ h9 => h9) rfl dX11_startNow_1 ?_
  refine lv_bipush (v := 48) hx hb dX11_startNow_4 (by decide) ?_
  refine va_iald hx hb hK.1 hP 1 0 rfl rfl (vp_in_iff.mpr ⟨by decide, by decide⟩) dX11_startNow_6 ?_
  refine lv_cg (y := fst 48) (by rfl) ?_
  refine lv_iconst (v := 5) hx hb dX11_startNow_7 (by decide) ?_
  refine lv_iadd hx hb dX11_startNow_8 ?_
  have hpost : ∃ k : Nat, ((fst 48) + 5 : Int32) = nI k ∧ 1 ≤ k ∧ k ≤ 9 := by
    exact start_nat (hst 48 (by omega))
  refine W.widen (k := 0) (n := 0) (Nat.le_of_ble_eq_true rfl) (Nat.le_of_ble_eq_true rfl) ?_
  exact W.iret (v := (fst 48) + 5) hx hb hr (fun t ht hW => ⟨⟨(fst 48) + 5, (), rfl, ⟨hpost, trivial⟩, trivial⟩, hS.F ht⟩) hS.2.2 dX11_startNow_9

set_option maxHeartbeats 1000000 in
set_option maxRecDepth 100000 in
theorem c_X11_stretch (l : Launch) (dC : Nat → ClassId) (dI : Nat → Nat → Nat) (G : Nat → ClassId) (sz : Nat) (h0 st N B rp tp T cu lt od th be ln S ma M ah bh ik la lg ce : Nat) (i what vrs vrb vhs vca vxs vxb vfa vbr vba vsp vhe vtk vva vto : Int32) (fst : Nat → Int32) (hN : N ≤ 10) (hB : B ≤ 6) (hT : T ≤ 320) (hS0 : S ≤ 8) (hM : M ≤ 6) : Met l yX11_stretch (Cond.code yX11_stretch cX11_stretch 3 (some .int) :: GT) ({ frames := 2, cells := 0, slots := 0, locals := 46 } : Room) (PcR [.ref h0, .int i, .int what] dC dI G [(h0, .inr (11, [.ref st, .int (nI N), .int (nI B), .ref rp, .int vrs, .int vrb, .int vhs, .int vca, .int vxs, .int vxb, .ref tp, .int (nI T), .int vfa, .int vbr, .int vba, .int vsp, .int vhe, .int vtk, .int vva, .ref cu, .ref lt, .ref od, .ref th, .ref be, .ref ln, .int (nI S), .ref ma, .int (nI M), .ref ah, .ref bh, .ref ik, .ref la, .ref lg, .ref ce, .int vto])), (st, .inl (G 0, 196, .inl fst))] sz) (va_Qi (fun (r : Int32) (u : Unit) => match u with | _ => (True) ∧ True) (fun _ _ => True) (fun q : Nat => sz ≤ q)) 0 0 (fun q : Nat => sz ≤ q) := by
  have hB_ := hB
  have hM_ := hM
  have hT_ := hT
  refine Met.ofW (cc := cX11_stretch) (maxL := 3) (ret := (some .int)) (by decide) rfl ?_
  intro p e s m args below meth c s₁ Bd hml hv
  obtain ⟨rfl, hsz, hP, hK⟩ := hv
  have hx := Bd.exec
  have hb := Bd.bytes
  have hr := Bd.returns
  have hg : ∀ w ∈ GT, w.before ([.ref h0, .int i, .int what] : List Value).toArray s = true := fun w h => atoms_spec (ws := Cond.code yX11_stretch cX11_stretch 3 (some .int) :: GT) Bd.pre w (List.mem_cons_of_mem _ h)
  have hown : s.vm.findClass RX11 = some m.cls := findClass_of_methodNamed Bd.named
  have hlocks := Bd.notSynchronized
  subst hsz
  have hA : ∀ q : Nat, s.heap.size ≤ q → (fun q : Nat => s.heap.size ≤ q) q := fun _ h => h
  have hS : va_S (fun q : Nat => s.heap.size ≤ q) s.heap s.heap [] := va_S.rf
  have hl := lv_entry ([.ref h0, .int i, .int what]) (n := 3) (Nat.le_of_ble_eq_true rfl)
  rw [lg_entry_eq]
  generalize (lg_sl ([.ref h0, .int i, .int what]) ++ List.replicate (3 - (lg_sl ([.ref h0, .int i, .int what])).length) Slot.unset).toArray = ls at hl ⊢
  have hl : lv_has ls 3 [(0, .ref h0), (1, .int i), (2, .int what)] := hl
  refine lv_aload_n hx hb dX11_stretch_0 rfl (lv_at hl 0 rfl) ?_
  refine lv_iload_n hx hb dX11_stretch_1 rfl (lv_at hl 1 rfl) ?_
  have hPc := hP.sub (ws' := [(h0, .inr (11, [.ref st, .int (nI N), .int (nI B), .ref rp, .int vrs, .int vrb, .int vhs, .int vca, .int vxs, .int vxb, .ref tp, .int (nI T), .int vfa, .int vbr, .int vba, .int vsp, .int vhe, .int vtk, .int vva, .ref cu, .ref lt, .ref od, .ref th, .ref be, .ref ln, .int (nI S), .ref ma, .int (nI M), .ref ah, .ref bh, .ref ik, .ref la, .ref lg, .ref ce, .int vto]))]) [0] rfl
  have tn810_ : nIT N := fun _ => nI_toInt (by omega)
  have tn811_ : nIT B := fun _ => nI_toInt (by omega)
  have tn812_ : nIT T := fun _ => nI_toInt (by omega)
  have tn813_ : nIT S := fun _ => nI_toInt (by omega)
  have tn814_ : nIT M := fun _ => nI_toInt (by omega)
  refine va_calli (va_runV (As := [.int i]) (rest := []) ⟨hx, hb, hml, hown, hg⟩ (c_X11_isStretch l dC dI G _ h0 st N B rp tp T cu lt od th be ln S ma M ah bh ik la lg ce i vrs vrb vhs vca vxs vxb vfa vbr vba vsp vhe vtk vva vto hN hB_ hT_ hS0 hM_) (kwV hg mfX11_isStretch wt_1052 ⟨Nat.le_of_ble_eq_true rfl, Nat.le_of_ble_eq_true rfl⟩) (preVR hK hPc (ci := 11) rfl rfl) rfl rfl hl.1 rfl (lv_room (Nat.le_of_ble_eq_true rfl)) dX11_stretch_2 ⟨Nat.le_of_ble_eq_true rfl, Nat.le_of_ble_eq_true rfl⟩) hS (fun q h1 h2 => absurd h2 (Nat.not_le.mpr h1)) (fun q h => hA q (Nat.le_trans hS.1 h)) (fun r1 ur1 t H1 locs ht hvm w2 hB hz1 hk1 hS => ?_)
  have hP := keepR hP hk1
  obtain ⟨w2, w2x⟩ := w2
  try simp only [l_ii, show (0 : Int32).toInt = 0 from by decide] at w2
  try rw [show (nI (N)).toInt = ((N : Nat) : Int) from tn810_ ()] at w2
  subst w2
  refine lv_if_eq (tgt := 20) hx hb dX11_stretch_5 (by decide) (fun c3 => ?_) (fun c3 => ?_)
  · skip
    have b4 := if10_n c3
    refine lv_iconst (v := (-1)) hx hb dX11_stretch_20 (by decide) ?_
    have hpost : True := by
      trivial
    refine W.widen (k := 0) (n := 0) (Nat.le_of_ble_eq_true rfl) (Nat.le_of_ble_eq_true rfl) ?_
    exact W.iret (v := (-1)) hx hb hr (fun t ht hW => ⟨⟨(-1), (), rfl, ⟨hpost, trivial⟩, trivial⟩, hS.F ht⟩) hS.2.2 dX11_stretch_21
  · skip
    have b5 := if10_p c3
    refine lv_iload_n hx hb dX11_stretch_8 rfl (lv_at hl 2 rfl) ?_
    refine lv_i2l (v := what.toInt64) hx hb dX11_stretch_9 rfl ?_
    refine lv_lconst (v := 0) hx hb dX11_stretch_10 (by decide) ?_
    refine lv_ldc2 (v := 2) hx hb hown (hg _ wt_1056) dX11_stretch_11 ?_
    have hPc := hP.sub (ws' := []) [] rfl
    refine va_calli (va_runS (As := [.long what.toInt64, .long 0, .long 2]) (rest := []) ⟨hx, hb, hml, hown, hg⟩ (c_X11_in l dC dI G _ what.toInt64 0 2) (kwS hg mfX11_in wt_992 ⟨Nat.le_of_ble_eq_true rfl, Nat.le_of_ble_eq_true rfl⟩) (preSR hK hPc) rfl rfl hl.1 rfl (lv_room (Nat.le_of_ble_eq_true rfl)) dX11_stretch_14 ⟨Nat.le_of_ble_eq_true rfl, Nat.le_of_ble_eq_true rfl⟩) hS (fun q h1 h2 => absurd h2 (Nat.not_le.mpr h1)) (fun q h => hA q (Nat.le_trans hS.1 h)) (fun r6 ur6 t H1 locs ht hvm w7 hB hz1 hk1 hS => ?_)
    have hP := keepR hP hk1
    obtain ⟨w7, w7x⟩ := w7
    try simp only [l_ii, show (0 : Int64).toInt = 0 from by decide, show (2 : Int64).toInt = 2 from by decide] at w7
    subst w7
    refine lv_if_ne (tgt := 22) hx hb dX11_stretch_17 (by decide) (fun c8 => ?_) (fun c8 => ?_)
    · skip
      have b9 := if10_p c8
      obtain ⟨ii, hii, rfl⟩ : ∃ j : Nat, j < 10 ∧ i = nI j := by
        have t_b5 := b5
        have t_b9 := b9
        have t_n0 : (nI N).toInt = (N : Int) := tn810_ ()
        have t_n1 : (nI B).toInt = (B : Int) := tn811_ ()
        have t_n2 : (nI T).toInt = (T : Int) := tn812_ ()
        have t_n3 : (nI S).toInt = (S : Int) := tn813_ ()
        have t_n4 : (nI M).toInt = (M : Int) := tn814_ ()
        exact i32_nat (by omega) (by omega)
      obtain ⟨wh, hwh, rfl⟩ : ∃ j : Nat, j < 3 ∧ what = nI j := by
        have t_b5 := b5
        have t_b9 := b9
        have t_hii := hii
        have t_n0 : (nI N).toInt = (N : Int) := tn810_ ()
        have t_n1 : (nI B).toInt = (B : Int) := tn811_ ()
        have t_n2 : (nI T).toInt = (T : Int) := tn812_ ()
        have t_n3 : (nI S).toInt = (S : Int) := tn813_ ()
        have t_n4 : (nI M).toInt = (M : Int) := tn814_ ()
        have tn815_ : nIT ii := fun _ => nI_toInt (by omega)
        have t_n5 : (nI ii).toInt = (ii : Int) := tn815_ ()
        exact i32_nat (by omega) (by omega)
      refine lv_iload_n hx hb dX11_stretch_22 rfl (lv_at hl 2 rfl) ?_
      refine lv_iconst (v := 2) hx hb dX11_stretch_23 (by decide) ?_
      refine lv_icmp_ne (tgt := 39) hx hb dX11_stretch_24 (by decide) (fun c10 => ?_) (fun c10 => ?_)
      · skip
        have tn816_ : nIT wh := fun _ => nI_toInt (by first | omega | (have t := neI c10; omega))
        have n11 : wh ≠ 2 := by have t := neI c10; rw [show (nI (wh)).toInt = ((wh : Nat) : Int) from tn816_ ()] at t; have : (2 : Int32).toInt = 2 := qI_2; omega
        refine lv_aload_n hx hb dX11_stretch_39 rfl (lv_at hl 0 rfl) ?_
        refine va_get (D := (dC, dI)) (ci := 11) (v := .ref st) (C := RX11) (T := TX11) (N := 35) hx hb hg inG11 hown hK.1 hP 0 rfl rfl 0 (by decide) (hg _ wt_878) (fun _ h9 => h9) rfl dX11_stretch_40 ?_
        refine lv_iconst (v := 2) hx hb dX11_stretch_43 (by decide) ?_
        refine lv_iload_n hx hb dX11_stretch_44 rfl (lv_at hl 1 rfl) ?_
        refine lv_imul hx hb dX11_stretch_45 ?_
        refine lv_cg (y := nI (2 * ii)) (by rw [show (2 : Int32) = nI 2 from rfl]; exact pk_mul _ _) ?_
        refine lv_iload_n hx hb dX11_stretch_46 rfl (lv_at hl 2 rfl) ?_
        refine lv_iadd hx hb dX11_stretch_47 ?_
        refine lv_cg (y := nI ((2 * ii) + wh)) (by exact nI_add _ _) ?_
        have tn817_ : nIT ii := fun _ => nI_toInt (by first | omega | (have t_b5 := b5; have t_b9 := b9; have t_hii := hii; have t_hwh := hwh; have t_n11 := n11; omega))
        refine va_iald hx hb hK.1 hP 1 0 rfl rfl (vp_in_nI (by first | omega | (have t_b5 := b5; have t_b9 := b9; have t_hii := hii; have t_hwh := hwh; have t_n11 := n11; have t_n0 : (nI N).toInt = (N : Int) := tn810_ (); have t_n1 : (nI B).toInt = (B : Int) := tn811_ (); have t_n2 : (nI T).toInt = (T : Int) := tn812_ (); have t_n3 : (nI S).toInt = (S : Int) := tn813_ (); have t_n4 : (nI M).toInt = (M : Int) := tn814_ (); have t_n5 : (nI ii).toInt = (ii : Int) := tn817_ (); have t_n6 : (nI wh).toInt = (wh : Int) := tn816_ (); omega)) (by decide)) dX11_stretch_48 ?_
        refine lv_cg (y := fst ((2 * ii) + wh)) (by rw [nI_clamp (by omega)]) ?_
        have hpost : True := by
          trivial
        refine W.widen (k := 0) (n := 0) (Nat.le_of_ble_eq_true rfl) (Nat.le_of_ble_eq_true rfl) ?_
        exact W.iret (v := fst ((2 * ii) + wh)) hx hb hr (fun t ht hW => ⟨⟨fst ((2 * ii) + wh), (), rfl, ⟨hpost, trivial⟩, trivial⟩, hS.F ht⟩) hS.2.2 dX11_stretch_49
      · skip
        have tn818_ : nIT wh := fun _ => nI_toInt (by first | omega | (have t := eqI c10; omega))
        have n12 : wh = 2 := by have t := eqI c10; rw [show (nI (wh)).toInt = ((wh : Nat) : Int) from tn818_ ()] at t; have : (2 : Int32).toInt = 2 := qI_2; omega
        refine lv_aload_n hx hb dX11_stretch_27 rfl (lv_at hl 0 rfl) ?_
        refine va_get (D := (dC, dI)) (ci := 11) (v := .ref st) (C := RX11) (T := TX11) (N := 35) hx hb hg inG11 hown hK.1 hP 0 rfl rfl 0 (by decide) (hg _ wt_878) (fun _ h9 => h9) rfl dX11_stretch_28 ?_
        refine lv_bipush (v := 38) hx hb dX11_stretch_31 (by decide) ?_
        refine lv_iload_n hx hb dX11_stretch_33 rfl (lv_at hl 1 rfl) ?_
        refine lv_iadd hx hb dX11_stretch_34 ?_
        refine lv_cg (y := nI (38 + ii)) (by rw [show (38 : Int32) = nI 38 from rfl]; exact nI_add _ _) ?_
        have tn819_ : nIT ii := fun _ => nI_toInt (by first | omega | (have t_b5 := b5; have t_b9 := b9; have t_hii := hii; have t_hwh := hwh; have t_n12 := n12; omega))
        refine va_iald hx hb hK.1 hP 1 0 rfl rfl (vp_in_nI (by first | omega | (have t_b5 := b5; have t_b9 := b9; have t_hii := hii; have t_hwh := hwh; have t_n12 := n12; have t_n0 : (nI N).toInt = (N : Int) := tn810_ (); have t_n1 : (nI B).toInt = (B : Int) := tn811_ (); have t_n2 : (nI T).toInt = (T : Int) := tn812_ (); have t_n3 : (nI S).toInt = (S : Int) := tn813_ (); have t_n4 : (nI M).toInt = (M : Int) := tn814_ (); have t_n5 : (nI ii).toInt = (ii : Int) := tn819_ (); have t_n6 : (nI wh).toInt = (wh : Int) := tn818_ (); omega)) (by decide)) dX11_stretch_35 ?_
        refine lv_cg (y := fst (38 + ii)) (by rw [nI_clamp (by omega)]) ?_
        refine lv_goto (tgt := 49) hx hb dX11_stretch_36 (by decide) ?_
        have hpost : True := by
          trivial
        refine W.widen (k := 0) (n := 0) (Nat.le_of_ble_eq_true rfl) (Nat.le_of_ble_eq_true rfl) ?_
        exact W.iret (v := fst (38 + ii)) hx hb hr (fun t ht hW => ⟨⟨fst (38 + ii), (), rfl, ⟨hpost, trivial⟩, trivial⟩, hS.F ht⟩) hS.2.2 dX11_stretch_49
    · skip
      have b13 := if10_n c8
      refine lv_iconst (v := (-1)) hx hb dX11_stretch_20 (by decide) ?_
      have hpost : True := by
        trivial
      refine W.widen (k := 0) (n := 0) (Nat.le_of_ble_eq_true rfl) (Nat.le_of_ble_eq_true rfl) ?_
      exact W.iret (v := (-1)) hx hb hr (fun t ht hW => ⟨⟨(-1), (), rfl, ⟨hpost, trivial⟩, trivial⟩, hS.F ht⟩) hS.2.2 dX11_stretch_21

set_option maxHeartbeats 1000000 in
set_option maxRecDepth 100000 in
theorem c_X11_kindOf (l : Launch) (dC : Nat → ClassId) (dI : Nat → Nat → Nat) (G : Nat → ClassId) (sz : Nat) (h0 b st N B rp tp T cu lt od th be ln S ma M ah bh ik la lg ce : Nat) (vrs vrb vhs vca vxs vxb vfa vbr vba vsp vhe vtk vva vto : Int32) (fst : Nat → Int32) (hN : N ≤ 10) (hB : B ≤ 6) (hT : T ≤ 320) (hS0 : S ≤ 8) (hM : M ≤ 6) (hkb : b < 6) : Met l yX11_kindOf (Cond.code yX11_kindOf cX11_kindOf 2 (some .int) :: GT) ({ frames := 0, cells := 0, slots := 0, locals := 0 } : Room) (PcR [.ref h0, .int (nI b)] dC dI G [(h0, .inr (11, [.ref st, .int (nI N), .int (nI B), .ref rp, .int vrs, .int vrb, .int vhs, .int vca, .int vxs, .int vxb, .ref tp, .int (nI T), .int vfa, .int vbr, .int vba, .int vsp, .int vhe, .int vtk, .int vva, .ref cu, .ref lt, .ref od, .ref th, .ref be, .ref ln, .int (nI S), .ref ma, .int (nI M), .ref ah, .ref bh, .ref ik, .ref la, .ref lg, .ref ce, .int vto])), (st, .inl (G 0, 196, .inl fst))] sz) (va_Qi (fun (r : Int32) (u : Unit) => match u with | _ => (r = fst (20 + 3 * b)) ∧ True) (fun _ _ => True) (fun q : Nat => sz ≤ q)) 0 0 (fun q : Nat => sz ≤ q) := by
  refine Met.ofW (cc := cX11_kindOf) (maxL := 2) (ret := (some .int)) (by decide) rfl ?_
  intro p e s m args below meth c s₁ Bd hml hv
  obtain ⟨rfl, hsz, hP, hK⟩ := hv
  have hx := Bd.exec
  have hb := Bd.bytes
  have hr := Bd.returns
  have hg : ∀ w ∈ GT, w.before ([.ref h0, .int (nI b)] : List Value).toArray s = true := fun w h => atoms_spec (ws := Cond.code yX11_kindOf cX11_kindOf 2 (some .int) :: GT) Bd.pre w (List.mem_cons_of_mem _ h)
  have hown : s.vm.findClass RX11 = some m.cls := findClass_of_methodNamed Bd.named
  have hlocks := Bd.notSynchronized
  subst hsz
  have hA : ∀ q : Nat, s.heap.size ≤ q → (fun q : Nat => s.heap.size ≤ q) q := fun _ h => h
  have hS : va_S (fun q : Nat => s.heap.size ≤ q) s.heap s.heap [] := va_S.rf
  have hl := lv_entry ([.ref h0, .int (nI b)]) (n := 2) (Nat.le_of_ble_eq_true rfl)
  rw [lg_entry_eq]
  generalize (lg_sl ([.ref h0, .int (nI b)]) ++ List.replicate (2 - (lg_sl ([.ref h0, .int (nI b)])).length) Slot.unset).toArray = ls at hl ⊢
  have hl : lv_has ls 2 [(0, .ref h0), (1, .int (nI b))] := hl
  refine lv_aload_n hx hb dX11_kindOf_0 rfl (lv_at hl 0 rfl) ?_
  refine va_get (D := (dC, dI)) (ci := 11) (v := .ref st) (C := RX11) (T := TX11) (N := 35) hx hb hg inG11 hown hK.1 hP 0 rfl rfl 0 (by decide) (hg _ wt_878) (fun _ h9 => h9) rfl dX11_kindOf_1 ?_
  refine lv_bipush (v := 20) hx hb dX11_kindOf_4 (by decide) ?_
  refine lv_iconst (v := 3) hx hb dX11_kindOf_6 (by decide) ?_
  refine lv_iload_n hx hb dX11_kindOf_7 rfl (lv_at hl 1 rfl) ?_
  refine lv_imul hx hb dX11_kindOf_8 ?_
  refine lv_cg (y := nI (3 * b)) (by rw [show (3 : Int32) = nI 3 from rfl]; exact pk_mul _ _) ?_
  refine lv_iadd hx hb dX11_kindOf_9 ?_
  refine lv_cg (y := nI (20 + (3 * b))) (by rw [show (20 : Int32) = nI 20 from rfl]; exact nI_add _ _) ?_
  have tn874_ : nIT b := fun _ => nI_toInt (by omega)
  have tn875_ : nIT N := fun _ => nI_toInt (by omega)
  have tn876_ : nIT B := fun _ => nI_toInt (by omega)
  have tn877_ : nIT T := fun _ => nI_toInt (by omega)
  have tn878_ : nIT S := fun _ => nI_toInt (by omega)
  have tn879_ : nIT M := fun _ => nI_toInt (by omega)
  refine va_iald hx hb hK.1 hP 1 0 rfl rfl (vp_in_nI (by first | omega | (have t_n0 : (nI b).toInt = (b : Int) := tn874_ (); have t_n1 : (nI N).toInt = (N : Int) := tn875_ (); have t_n2 : (nI B).toInt = (B : Int) := tn876_ (); have t_n3 : (nI T).toInt = (T : Int) := tn877_ (); have t_n4 : (nI S).toInt = (S : Int) := tn878_ (); have t_n5 : (nI M).toInt = (M : Int) := tn879_ (); omega)) (by decide)) dX11_kindOf_10 ?_
  refine lv_cg (y := fst (20 + (3 * b))) (by rw [nI_clamp (by omega)]) ?_
  have hpost : (fst (20 + (3 * b)) : Int32) = fst (20 + 3 * b) := by
    have t_n0 : (nI b).toInt = (b : Int) := tn874_ ()
    have t_n1 : (nI N).toInt = (N : Int) := tn875_ ()
    have t_n2 : (nI B).toInt = (B : Int) := tn876_ ()
    have t_n3 : (nI T).toInt = (T : Int) := tn877_ ()
    have t_n4 : (nI S).toInt = (S : Int) := tn878_ ()
    have t_n5 : (nI M).toInt = (M : Int) := tn879_ ()
    first | rfl | ((repeat' split) <;> first | rfl | omega)
  refine W.widen (k := 0) (n := 0) (Nat.le_of_ble_eq_true rfl) (Nat.le_of_ble_eq_true rfl) ?_
  exact W.iret (v := fst (20 + (3 * b))) hx hb hr (fun t ht hW => ⟨⟨fst (20 + (3 * b)), (), rfl, ⟨hpost, trivial⟩, trivial⟩, hS.F ht⟩) hS.2.2 dX11_kindOf_11

set_option maxHeartbeats 1000000 in
set_option maxRecDepth 100000 in
theorem c_X11_canHarm (l : Launch) (dC : Nat → ClassId) (dI : Nat → Nat → Nat) (G : Nat → ClassId) (sz : Nat) (h0 st N B rp tp T cu lt od th be ln S ma M ah bh ik la lg ce : Nat) (i g k vrs vrb vhs vca vxs vxb vfa vbr vba vsp vhe vtk vva vto : Int32) (hN : N ≤ 10) (hB : B ≤ 6) (hT : T ≤ 320) (hS0 : S ≤ 8) (hM : M ≤ 6) : Met l yX11_canHarm (Cond.code yX11_canHarm cX11_canHarm 4 (some .boolean) :: GT) ({ frames := 2, cells := 0, slots := 0, locals := 46 } : Room) (PcR [.ref h0, .int i, .int g, .int k] dC dI G [(h0, .inr (11, [.ref st, .int (nI N), .int (nI B), .ref rp, .int vrs, .int vrb, .int vhs, .int vca, .int vxs, .int vxb, .ref tp, .int (nI T), .int vfa, .int vbr, .int vba, .int vsp, .int vhe, .int vtk, .int vva, .ref cu, .ref lt, .ref od, .ref th, .ref be, .ref ln, .int (nI S), .ref ma, .int (nI M), .ref ah, .ref bh, .ref ik, .ref la, .ref lg, .ref ce, .int vto]))] sz) (va_Qi (fun (r : Int32) (u : Unit) => match u with | _ => (r = if (0 ≤ i.toInt ∧ i.toInt < ((N : Nat) : Int)) ∧ (0 ≤ k.toInt ∧ k.toInt < ((B : Nat) : Int)) ∧ (g.toInt = -4 ∨ (0 ≤ g.toInt ∧ g.toInt < ((B : Nat) : Int))) then 1 else 0) ∧ True) (fun _ _ => True) (fun q : Nat => sz ≤ q)) 0 0 (fun q : Nat => sz ≤ q) := by
  have hB_ := hB
  have hM_ := hM
  have hT_ := hT
  refine Met.ofW (cc := cX11_canHarm) (maxL := 4) (ret := (some .boolean)) (by decide) rfl ?_
  intro p e s m args below meth c s₁ Bd hml hv
  obtain ⟨rfl, hsz, hP, hK⟩ := hv
  have hx := Bd.exec
  have hb := Bd.bytes
  have hr := Bd.returns
  have hg : ∀ w ∈ GT, w.before ([.ref h0, .int i, .int g, .int k] : List Value).toArray s = true := fun w h => atoms_spec (ws := Cond.code yX11_canHarm cX11_canHarm 4 (some .boolean) :: GT) Bd.pre w (List.mem_cons_of_mem _ h)
  have hown : s.vm.findClass RX11 = some m.cls := findClass_of_methodNamed Bd.named
  have hlocks := Bd.notSynchronized
  subst hsz
  have hA : ∀ q : Nat, s.heap.size ≤ q → (fun q : Nat => s.heap.size ≤ q) q := fun _ h => h
  have hS : va_S (fun q : Nat => s.heap.size ≤ q) s.heap s.heap [] := va_S.rf
  have hl := lv_entry ([.ref h0, .int i, .int g, .int k]) (n := 4) (Nat.le_of_ble_eq_true rfl)
  rw [lg_entry_eq]
  generalize (lg_sl ([.ref h0, .int i, .int g, .int k]) ++ List.replicate (4 - (lg_sl ([.ref h0, .int i, .int g, .int k])).length) Slot.unset).toArray = ls at hl ⊢
  have hl : lv_has ls 4 [(0, .ref h0), (1, .int i), (2, .int g), (3, .int k)] := hl
  refine lv_aload_n hx hb dX11_canHarm_0 rfl (lv_at hl 0 rfl) ?_
  refine lv_iload_n hx hb dX11_canHarm_1 rfl (lv_at hl 1 rfl) ?_
  have hPc := hP.sub (ws' := [(h0, .inr (11, [.ref st, .int (nI N), .int (nI B), .ref rp, .int vrs, .int vrb, .int vhs, .int vca, .int vxs, .int vxb, .ref tp, .int (nI T), .int vfa, .int vbr, .int vba, .int vsp, .int vhe, .int vtk, .int vva, .ref cu, .ref lt, .ref od, .ref th, .ref be, .ref ln, .int (nI S), .ref ma, .int (nI M), .ref ah, .ref bh, .ref ik, .ref la, .ref lg, .ref ce, .int vto]))]) [0] rfl
  have tn880_ : nIT N := fun _ => nI_toInt (by omega)
  have tn881_ : nIT B := fun _ => nI_toInt (by omega)
  have tn882_ : nIT T := fun _ => nI_toInt (by omega)
  have tn883_ : nIT S := fun _ => nI_toInt (by omega)
  have tn884_ : nIT M := fun _ => nI_toInt (by omega)
  refine va_calli (va_runV (As := [.int i]) (rest := []) ⟨hx, hb, hml, hown, hg⟩ (c_X11_isStretch l dC dI G _ h0 st N B rp tp T cu lt od th be ln S ma M ah bh ik la lg ce i vrs vrb vhs vca vxs vxb vfa vbr vba vsp vhe vtk vva vto hN hB_ hT_ hS0 hM_) (kwV hg mfX11_isStretch wt_1052 ⟨Nat.le_of_ble_eq_true rfl, Nat.le_of_ble_eq_true rfl⟩) (preVR hK hPc (ci := 11) rfl rfl) rfl rfl hl.1 rfl (lv_room (Nat.le_of_ble_eq_true rfl)) dX11_canHarm_2 ⟨Nat.le_of_ble_eq_true rfl, Nat.le_of_ble_eq_true rfl⟩) hS (fun q h1 h2 => absurd h2 (Nat.not_le.mpr h1)) (fun q h => hA q (Nat.le_trans hS.1 h)) (fun r1 ur1 t H1 locs ht hvm w2 hB hz1 hk1 hS => ?_)
  have hP := keepR hP hk1
  obtain ⟨w2, w2x⟩ := w2
  try simp only [l_ii, show (0 : Int32).toInt = 0 from by decide] at w2
  try rw [show (nI (N)).toInt = ((N : Nat) : Int) from tn880_ ()] at w2
  subst w2
  refine lv_if_eq (tgt := 34) hx hb dX11_canHarm_5 (by decide) (fun c3 => ?_) (fun c3 => ?_)
  · skip
    have b4 := if10_n c3
    refine lv_iconst (v := 0) hx hb dX11_canHarm_34 (by decide) ?_
    have hpost : (0 : Int32) = if (0 ≤ i.toInt ∧ i.toInt < ((N : Nat) : Int)) ∧ (0 ≤ k.toInt ∧ k.toInt < ((B : Nat) : Int)) ∧ (g.toInt = -4 ∨ (0 ≤ g.toInt ∧ g.toInt < ((B : Nat) : Int))) then 1 else 0 := by
      have t_b4 := b4
      have t_n0 : (nI N).toInt = (N : Int) := tn880_ ()
      have t_n1 : (nI B).toInt = (B : Int) := tn881_ ()
      have t_n2 : (nI T).toInt = (T : Int) := tn882_ ()
      have t_n3 : (nI S).toInt = (S : Int) := tn883_ ()
      have t_n4 : (nI M).toInt = (M : Int) := tn884_ ()
      first | rfl | ((repeat' split) <;> first | rfl | omega)
    refine W.widen (k := 0) (n := 0) (Nat.le_of_ble_eq_true rfl) (Nat.le_of_ble_eq_true rfl) ?_
    exact W.zret (v := 0) hx hb hr (by first | rfl | decide | exact rfl) (fun t ht hW => ⟨⟨0, (), rfl, ⟨hpost, trivial⟩, trivial⟩, hS.F ht⟩) hS.2.2 dX11_canHarm_35
  · skip
    have b5 := if10_p c3
    refine lv_aload_n hx hb dX11_canHarm_8 rfl (lv_at hl 0 rfl) ?_
    refine lv_iload_n hx hb dX11_canHarm_9 rfl (lv_at hl 3 rfl) ?_
    have hPc := hP.sub (ws' := [(h0, .inr (11, [.ref st, .int (nI N), .int (nI B), .ref rp, .int vrs, .int vrb, .int vhs, .int vca, .int vxs, .int vxb, .ref tp, .int (nI T), .int vfa, .int vbr, .int vba, .int vsp, .int vhe, .int vtk, .int vva, .ref cu, .ref lt, .ref od, .ref th, .ref be, .ref ln, .int (nI S), .ref ma, .int (nI M), .ref ah, .ref bh, .ref ik, .ref la, .ref lg, .ref ce, .int vto]))]) [0] rfl
    refine va_calli (va_runV (As := [.int k]) (rest := []) ⟨hx, hb, hml, hown, hg⟩ (c_X11_isBearer l dC dI G _ h0 st N B rp tp T cu lt od th be ln S ma M ah bh ik la lg ce k vrs vrb vhs vca vxs vxb vfa vbr vba vsp vhe vtk vva vto hN hB_ hT_ hS0 hM_) (kwV hg mfX11_isBearer wt_1061 ⟨Nat.le_of_ble_eq_true rfl, Nat.le_of_ble_eq_true rfl⟩) (preVR hK hPc (ci := 11) rfl rfl) rfl rfl hl.1 rfl (lv_room (Nat.le_of_ble_eq_true rfl)) dX11_canHarm_10 ⟨Nat.le_of_ble_eq_true rfl, Nat.le_of_ble_eq_true rfl⟩) hS (fun q h1 h2 => absurd h2 (Nat.not_le.mpr h1)) (fun q h => hA q (Nat.le_trans hS.1 h)) (fun r6 ur6 t H1 locs ht hvm w7 hB hz1 hk1 hS => ?_)
    have hP := keepR hP hk1
    obtain ⟨w7, w7x⟩ := w7
    try simp only [l_ii, show (0 : Int32).toInt = 0 from by decide] at w7
    try rw [show (nI (B)).toInt = ((B : Nat) : Int) from tn881_ ()] at w7
    subst w7
    refine lv_if_eq (tgt := 34) hx hb dX11_canHarm_13 (by decide) (fun c8 => ?_) (fun c8 => ?_)
    · skip
      have b9 := if10_n c8
      refine lv_iconst (v := 0) hx hb dX11_canHarm_34 (by decide) ?_
      have hpost : (0 : Int32) = if (0 ≤ i.toInt ∧ i.toInt < ((N : Nat) : Int)) ∧ (0 ≤ k.toInt ∧ k.toInt < ((B : Nat) : Int)) ∧ (g.toInt = -4 ∨ (0 ≤ g.toInt ∧ g.toInt < ((B : Nat) : Int))) then 1 else 0 := by
        have t_b5 := b5
        have t_b9 := b9
        have t_n0 : (nI N).toInt = (N : Int) := tn880_ ()
        have t_n1 : (nI B).toInt = (B : Int) := tn881_ ()
        have t_n2 : (nI T).toInt = (T : Int) := tn882_ ()
        have t_n3 : (nI S).toInt = (S : Int) := tn883_ ()
        have t_n4 : (nI M).toInt = (M : Int) := tn884_ ()
        first | rfl | ((repeat' split) <;> first | rfl | omega)
      refine W.widen (k := 0) (n := 0) (Nat.le_of_ble_eq_true rfl) (Nat.le_of_ble_eq_true rfl) ?_
      exact W.zret (v := 0) hx hb hr (by first | rfl | decide | exact rfl) (fun t ht hW => ⟨⟨0, (), rfl, ⟨hpost, trivial⟩, trivial⟩, hS.F ht⟩) hS.2.2 dX11_canHarm_35
    · skip
      have b10 := if10_p c8
      refine lv_iload_n hx hb dX11_canHarm_16 rfl (lv_at hl 2 rfl) ?_
      refine lv_bipush (v := (-4)) hx hb dX11_canHarm_17 (by decide) ?_
      refine lv_icmp_eq (tgt := 30) hx hb dX11_canHarm_19 (by decide) (fun c11 => ?_) (fun c11 => ?_)
      · skip
        refine lv_iconst (v := 1) hx hb dX11_canHarm_30 (by decide) ?_
        refine lv_goto (tgt := 35) hx hb dX11_canHarm_31 (by decide) ?_
        have hpost : (1 : Int32) = if (0 ≤ i.toInt ∧ i.toInt < ((N : Nat) : Int)) ∧ (0 ≤ k.toInt ∧ k.toInt < ((B : Nat) : Int)) ∧ (g.toInt = -4 ∨ (0 ≤ g.toInt ∧ g.toInt < ((B : Nat) : Int))) then 1 else 0 := by
          have t_b5 := b5
          have t_b10 := b10
          have t_c11 := eqI c11
          have : ((-4) : Int32).toInt = -4 := qI_m4
          have t_n0 : (nI N).toInt = (N : Int) := tn880_ ()
          have t_n1 : (nI B).toInt = (B : Int) := tn881_ ()
          have t_n2 : (nI T).toInt = (T : Int) := tn882_ ()
          have t_n3 : (nI S).toInt = (S : Int) := tn883_ ()
          have t_n4 : (nI M).toInt = (M : Int) := tn884_ ()
          first | rfl | ((repeat' split) <;> first | rfl | omega)
        refine W.widen (k := 0) (n := 0) (Nat.le_of_ble_eq_true rfl) (Nat.le_of_ble_eq_true rfl) ?_
        exact W.zret (v := 1) hx hb hr (by first | rfl | decide | exact rfl) (fun t ht hW => ⟨⟨1, (), rfl, ⟨hpost, trivial⟩, trivial⟩, hS.F ht⟩) hS.2.2 dX11_canHarm_35
      · skip
        refine lv_aload_n hx hb dX11_canHarm_22 rfl (lv_at hl 0 rfl) ?_
        refine lv_iload_n hx hb dX11_canHarm_23 rfl (lv_at hl 2 rfl) ?_
        have hPc := hP.sub (ws' := [(h0, .inr (11, [.ref st, .int (nI N), .int (nI B), .ref rp, .int vrs, .int vrb, .int vhs, .int vca, .int vxs, .int vxb, .ref tp, .int (nI T), .int vfa, .int vbr, .int vba, .int vsp, .int vhe, .int vtk, .int vva, .ref cu, .ref lt, .ref od, .ref th, .ref be, .ref ln, .int (nI S), .ref ma, .int (nI M), .ref ah, .ref bh, .ref ik, .ref la, .ref lg, .ref ce, .int vto]))]) [0] rfl
        refine va_calli (va_runV (As := [.int g]) (rest := []) ⟨hx, hb, hml, hown, hg⟩ (c_X11_isBearer l dC dI G _ h0 st N B rp tp T cu lt od th be ln S ma M ah bh ik la lg ce g vrs vrb vhs vca vxs vxb vfa vbr vba vsp vhe vtk vva vto hN hB_ hT_ hS0 hM_) (kwV hg mfX11_isBearer wt_1061 ⟨Nat.le_of_ble_eq_true rfl, Nat.le_of_ble_eq_true rfl⟩) (preVR hK hPc (ci := 11) rfl rfl) rfl rfl hl.1 rfl (lv_room (Nat.le_of_ble_eq_true rfl)) dX11_canHarm_24 ⟨Nat.le_of_ble_eq_true rfl, Nat.le_of_ble_eq_true rfl⟩) hS (fun q h1 h2 => absurd h2 (Nat.not_le.mpr h1)) (fun q h => hA q (Nat.le_trans hS.1 h)) (fun r12 ur12 t H1 locs ht hvm w13 hB hz1 hk1 hS => ?_)
        have hP := keepR hP hk1
        obtain ⟨w13, w13x⟩ := w13
        try simp only [l_ii, show (0 : Int32).toInt = 0 from by decide] at w13
        try rw [show (nI (B)).toInt = ((B : Nat) : Int) from tn881_ ()] at w13
        subst w13
        refine lv_if_eq (tgt := 34) hx hb dX11_canHarm_27 (by decide) (fun c14 => ?_) (fun c14 => ?_)
        · skip
          have b15 := if10_n c14
          refine lv_iconst (v := 0) hx hb dX11_canHarm_34 (by decide) ?_
          have hpost : (0 : Int32) = if (0 ≤ i.toInt ∧ i.toInt < ((N : Nat) : Int)) ∧ (0 ≤ k.toInt ∧ k.toInt < ((B : Nat) : Int)) ∧ (g.toInt = -4 ∨ (0 ≤ g.toInt ∧ g.toInt < ((B : Nat) : Int))) then 1 else 0 := by
            have t_b5 := b5
            have t_b10 := b10
            have t_c11 := neI c11
            have t_b15 := b15
            have : ((-4) : Int32).toInt = -4 := qI_m4
            have t_n0 : (nI N).toInt = (N : Int) := tn880_ ()
            have t_n1 : (nI B).toInt = (B : Int) := tn881_ ()
            have t_n2 : (nI T).toInt = (T : Int) := tn882_ ()
            have t_n3 : (nI S).toInt = (S : Int) := tn883_ ()
            have t_n4 : (nI M).toInt = (M : Int) := tn884_ ()
            first | rfl | ((repeat' split) <;> first | rfl | omega)
          refine W.widen (k := 0) (n := 0) (Nat.le_of_ble_eq_true rfl) (Nat.le_of_ble_eq_true rfl) ?_
          exact W.zret (v := 0) hx hb hr (by first | rfl | decide | exact rfl) (fun t ht hW => ⟨⟨0, (), rfl, ⟨hpost, trivial⟩, trivial⟩, hS.F ht⟩) hS.2.2 dX11_canHarm_35
        · skip
          have b16 := if10_p c14
          refine lv_iconst (v := 1) hx hb dX11_canHarm_30 (by decide) ?_
          refine lv_goto (tgt := 35) hx hb dX11_canHarm_31 (by decide) ?_
          have hpost : (1 : Int32) = if (0 ≤ i.toInt ∧ i.toInt < ((N : Nat) : Int)) ∧ (0 ≤ k.toInt ∧ k.toInt < ((B : Nat) : Int)) ∧ (g.toInt = -4 ∨ (0 ≤ g.toInt ∧ g.toInt < ((B : Nat) : Int))) then 1 else 0 := by
            have t_b5 := b5
            have t_b10 := b10
            have t_c11 := neI c11
            have t_b16 := b16
            have : ((-4) : Int32).toInt = -4 := qI_m4
            have t_n0 : (nI N).toInt = (N : Int) := tn880_ ()
            have t_n1 : (nI B).toInt = (B : Int) := tn881_ ()
            have t_n2 : (nI T).toInt = (T : Int) := tn882_ ()
            have t_n3 : (nI S).toInt = (S : Int) := tn883_ ()
            have t_n4 : (nI M).toInt = (M : Int) := tn884_ ()
            first | rfl | ((repeat' split) <;> first | rfl | omega)
          refine W.widen (k := 0) (n := 0) (Nat.le_of_ble_eq_true rfl) (Nat.le_of_ble_eq_true rfl) ?_
          exact W.zret (v := 1) hx hb hr (by first | rfl | decide | exact rfl) (fun t ht hW => ⟨⟨1, (), rfl, ⟨hpost, trivial⟩, trivial⟩, hS.F ht⟩) hS.2.2 dX11_canHarm_35

set_option maxHeartbeats 1000000 in
set_option maxRecDepth 100000 in
theorem c_X11_harmOfN (l : Launch) (dC : Nat → ClassId) (dI : Nat → Nat → Nat) (G : Nat → ClassId) (sz : Nat) (h0 i b st N B rp tp T cu lt od th be ln S ma M ah bh ik la lg ce : Nat) (q vrs vrb vhs vca vxs vxb vfa vbr vba vsp vhe vtk vva vto : Int32) (fst : Nat → Int32) (hN : N ≤ 10) (hB : B ≤ 6) (hT : T ≤ 320) (hS0 : S ≤ 8) (hM : M ≤ 6) (hi : i < 10) (hkb : b < 6) : Met l yX11_harmOf (Cond.code yX11_harmOf cX11_harmOf 10 (some .int) :: GT) ({ frames := 1, cells := 0, slots := 0, locals := 21 } : Room) (PcR [.ref h0, .int (nI i), .int (-4), .int (nI b), .int q] dC dI G [(h0, .inr (11, [.ref st, .int (nI N), .int (nI B), .ref rp, .int vrs, .int vrb, .int vhs, .int vca, .int vxs, .int vxb, .ref tp, .int (nI T), .int vfa, .int vbr, .int vba, .int vsp, .int vhe, .int vtk, .int vva, .ref cu, .ref lt, .ref od, .ref th, .ref be, .ref ln, .int (nI S), .ref ma, .int (nI M), .ref ah, .ref bh, .ref ik, .ref la, .ref lg, .ref ce, .int vto])), (st, .inl (G 0, 196, .inl fst))] sz) (va_Qi (fun (r : Int32) (u : Unit) => match u with | _ => (r = rhN fst i b q) ∧ True) (fun _ _ => True) (fun q : Nat => sz ≤ q)) 0 0 (fun q : Nat => sz ≤ q) := by
  have hB_ := hB
  have hM_ := hM
  have hT_ := hT
  refine Met.ofW (cc := cX11_harmOf) (maxL := 10) (ret := (some .int)) (by decide) rfl ?_
  intro p e s m args below meth c s₁ Bd hml hv
  obtain ⟨rfl, hsz, hP, hK⟩ := hv
  have hx := Bd.exec
  have hb := Bd.bytes
  have hr := Bd.returns
  have hg : ∀ w ∈ GT, w.before ([.ref h0, .int (nI i), .int (-4), .int (nI b), .int q] : List Value).toArray s = true := fun w h => atoms_spec (ws := Cond.code yX11_harmOf cX11_harmOf 10 (some .int) :: GT) Bd.pre w (List.mem_cons_of_mem _ h)
  have hown : s.vm.findClass RX11 = some m.cls := findClass_of_methodNamed Bd.named
  have hlocks := Bd.notSynchronized
  subst hsz
  have hA : ∀ q : Nat, s.heap.size ≤ q → (fun q : Nat => s.heap.size ≤ q) q := fun _ h => h
  have hS : va_S (fun q : Nat => s.heap.size ≤ q) s.heap s.heap [] := va_S.rf
  have hl := lv_entry ([.ref h0, .int (nI i), .int (-4), .int (nI b), .int q]) (n := 10) (Nat.le_of_ble_eq_true rfl)
  rw [lg_entry_eq]
  generalize (lg_sl ([.ref h0, .int (nI i), .int (-4), .int (nI b), .int q]) ++ List.replicate (10 - (lg_sl ([.ref h0, .int (nI i), .int (-4), .int (nI b), .int q])).length) Slot.unset).toArray = ls at hl ⊢
  have hl : lv_has ls 10 [(0, .ref h0), (1, .int (nI i)), (2, .int (-4)), (3, .int (nI b)), (4, .int q)] := hl
  refine lv_aload_n hx hb dX11_harmOf_0 rfl (lv_at hl 0 rfl) ?_
  refine lv_iload_n hx hb dX11_harmOf_1 rfl (lv_at hl 3 rfl) ?_
  have hPc := hP.sub (ws' := [(h0, .inr (11, [.ref st, .int (nI N), .int (nI B), .ref rp, .int vrs, .int vrb, .int vhs, .int vca, .int vxs, .int vxb, .ref tp, .int (nI T), .int vfa, .int vbr, .int vba, .int vsp, .int vhe, .int vtk, .int vva, .ref cu, .ref lt, .ref od, .ref th, .ref be, .ref ln, .int (nI S), .ref ma, .int (nI M), .ref ah, .ref bh, .ref ik, .ref la, .ref lg, .ref ce, .int vto])), (st, .inl (G 0, 196, .inl fst))]) [0, 1] rfl
  have tn885_ : nIT i := fun _ => nI_toInt (by omega)
  have tn886_ : nIT b := fun _ => nI_toInt (by omega)
  have tn887_ : nIT N := fun _ => nI_toInt (by omega)
  have tn888_ : nIT B := fun _ => nI_toInt (by omega)
  have tn889_ : nIT T := fun _ => nI_toInt (by omega)
  have tn890_ : nIT S := fun _ => nI_toInt (by omega)
  have tn891_ : nIT M := fun _ => nI_toInt (by omega)
  refine va_calli (va_runV (As := [.int (nI b)]) (rest := []) ⟨hx, hb, hml, hown, hg⟩ (c_X11_kindOf l dC dI G _ h0 b st N B rp tp T cu lt od th be ln S ma M ah bh ik la lg ce vrs vrb vhs vca vxs vxb vfa vbr vba vsp vhe vtk vva vto fst hN hB_ hT_ hS0 hM_ hkb) (kwV hg mfX11_kindOf wt_1110 ⟨Nat.le_of_ble_eq_true rfl, Nat.le_of_ble_eq_true rfl⟩) (preVR hK hPc (ci := 11) rfl rfl) rfl rfl hl.1 rfl (lv_room (Nat.le_of_ble_eq_true rfl)) dX11_harmOf_2 ⟨Nat.le_of_ble_eq_true rfl, Nat.le_of_ble_eq_true rfl⟩) hS (fun q h1 h2 => absurd h2 (Nat.not_le.mpr h1)) (fun q h => hA q (Nat.le_trans hS.1 h)) (fun r1 ur1 t H1 locs ht hvm w2 hB hz1 hk1 hS => ?_)
  have hP := keepR hP hk1
  obtain ⟨w2, w2x⟩ := w2
  subst w2
  refine lv_istore (lv' := [(5, .int (fst (20 + 3 * b))), (0, .ref h0), (1, .int (nI i)), (2, .int (-4)), (3, .int (nI b)), (4, .int q)]) hx hb dX11_harmOf_5 hl (by decide) rfl (fun ls hl => ?_)
  refine lv_iload hx hb dX11_harmOf_7 (lv_at hl 5 rfl) ?_
  have cut24_4 : ∀ (y3 : Int32) (H : Heap) (locs : List Loc), y3 = hQt fst i q → va_P (dC, dI) vwCl [(h0, .inr (11, [.ref st, .int (nI N), .int (nI B), .ref rp, .int vrs, .int vrb, .int vhs, .int vca, .int vxs, .int vxb, .ref tp, .int (nI T), .int vfa, .int vbr, .int vba, .int vsp, .int vhe, .int vtk, .int vva, .ref cu, .ref lt, .ref od, .ref th, .ref be, .ref ln, .int (nI S), .ref ma, .int (nI M), .ref ah, .ref bh, .ref ik, .ref la, .ref lg, .ref ce, .int vto])), (st, .inl (G 0, 196, .inl fst))] H → va_S (fun q : Nat => s.heap.size ≤ q) s.heap H locs → ∀ (ls : Array Slot), lv_has ls 10 [(5, .int (fst (20 + 3 * b))), (0, .ref h0), (1, .int (nI i)), (2, .int (-4)), (3, .int (nI b)), (4, .int q)] → W p l e (headSpec (Cond.code yX11_harmOf cX11_harmOf 10 (some .int) :: GT) ({ frames := 1, cells := 0, slots := 0, locals := 21 } : Room)).room s m ([.ref h0, .int (nI i), .int (-4), .int (nI b), .int q] : List Value).toArray below meth c H locs 0 0 (MQ below (va_Qi (fun (r : Int32) (u : Unit) => match u with | _ => (r = rhN fst i b q) ∧ True) (fun _ _ => True) (fun q : Nat => s.heap.size ≤ q)) ([.ref h0, .int (nI i), .int (-4), .int (nI b), .int q] : List Value).toArray s 0 0 (fun q : Nat => s.heap.size ≤ q)) (F0 m 24 ls [.int y3]) := by
    intro y3 H locs hcut hP hS ls hl
    subst hcut
    refine lv_istore (lv' := [(6, .int (hQt fst i q)), (5, .int (fst (20 + 3 * b))), (0, .ref h0), (1, .int (nI i)), (2, .int (-4)), (3, .int (nI b)), (4, .int q)]) hx hb dX11_harmOf_24 hl (by decide) rfl (fun ls hl => ?_)
    refine lv_iload hx hb dX11_harmOf_26 (lv_at hl 0 rfl) ?_
    refine lv_iload hx hb dX11_harmOf_28 (lv_at hl 1 rfl) ?_
    refine lv_iconst (v := 1) hx hb dX11_harmOf_30 (by decide) ?_
    have cut49_6 : ∀ (y5 : Int32) (H : Heap) (locs : List Loc), y5 = hK' (fst (20 + 3 * b)) → va_P (dC, dI) vwCl [(h0, .inr (11, [.ref st, .int (nI N), .int (nI B), .ref rp, .int vrs, .int vrb, .int vhs, .int vca, .int vxs, .int vxb, .ref tp, .int (nI T), .int vfa, .int vbr, .int vba, .int vsp, .int vhe, .int vtk, .int vva, .ref cu, .ref lt, .ref od, .ref th, .ref be, .ref ln, .int (nI S), .ref ma, .int (nI M), .ref ah, .ref bh, .ref ik, .ref la, .ref lg, .ref ce, .int vto])), (st, .inl (G 0, 196, .inl fst))] H → va_S (fun q : Nat => s.heap.size ≤ q) s.heap H locs → ∀ (ls : Array Slot), lv_has ls 10 [(6, .int (hQt fst i q)), (5, .int (fst (20 + 3 * b))), (0, .ref h0), (1, .int (nI i)), (2, .int (-4)), (3, .int (nI b)), (4, .int q)] → W p l e (headSpec (Cond.code yX11_harmOf cX11_harmOf 10 (some .int) :: GT) ({ frames := 1, cells := 0, slots := 0, locals := 21 } : Room)).room s m ([.ref h0, .int (nI i), .int (-4), .int (nI b), .int q] : List Value).toArray below meth c H locs 0 0 (MQ below (va_Qi (fun (r : Int32) (u : Unit) => match u with | _ => (r = rhN fst i b q) ∧ True) (fun _ _ => True) (fun q : Nat => s.heap.size ≤ q)) ([.ref h0, .int (nI i), .int (-4), .int (nI b), .int q] : List Value).toArray s 0 0 (fun q : Nat => s.heap.size ≤ q)) (F0 m 49 ls [.int y5, .int (hQt fst i q)]) := by
      intro y5 H locs hcut hP hS ls hl
      subst hcut
      refine lv_isub hx hb dX11_harmOf_49 ?_
      refine lv_istore (lv' := [(6, .int ((hQt fst i q) - (hK' (fst (20 + 3 * b))))), (5, .int (fst (20 + 3 * b))), (0, .ref h0), (1, .int (nI i)), (2, .int (-4)), (3, .int (nI b)), (4, .int q)]) hx hb dX11_harmOf_50 hl (by decide) rfl (fun ls hl => ?_)
      refine lv_aload_n hx hb dX11_harmOf_52 rfl (lv_at hl 2 rfl) ?_
      refine va_get (D := (dC, dI)) (ci := 11) (v := .ref st) (C := RX11) (T := TX11) (N := 35) hx hb hg inG11 hown hK.1 hP 0 rfl rfl 0 (by decide) (hg _ wt_878) (fun _ h9 => h9) rfl dX11_harmOf_53 ?_
      refine lv_iconst (v := 2) hx hb dX11_harmOf_56 (by decide) ?_
      refine lv_iload_n hx hb dX11_harmOf_57 rfl (lv_at hl 3 rfl) ?_
      refine lv_imul hx hb dX11_harmOf_58 ?_
      refine lv_cg (y := nI (2 * i)) (by rw [show (2 : Int32) = nI 2 from rfl]; exact pk_mul _ _) ?_
      refine lv_iconst (v := 1) hx hb dX11_harmOf_59 (by decide) ?_
      refine lv_iadd hx hb dX11_harmOf_60 ?_
      refine lv_cg (y := nI ((2 * i) + 1)) (by rw [show (1 : Int32) = nI 1 from rfl]; exact nI_add _ _) ?_
      refine va_iald hx hb hK.1 hP 1 0 rfl rfl (vp_in_nI (by first | omega | (have t_n0 : (nI i).toInt = (i : Int) := tn885_ (); have t_n1 : (nI b).toInt = (b : Int) := tn886_ (); have t_n2 : (nI N).toInt = (N : Int) := tn887_ (); have t_n3 : (nI B).toInt = (B : Int) := tn888_ (); have t_n4 : (nI T).toInt = (T : Int) := tn889_ (); have t_n5 : (nI S).toInt = (S : Int) := tn890_ (); have t_n6 : (nI M).toInt = (M : Int) := tn891_ (); omega)) (by decide)) dX11_harmOf_61 ?_
      refine lv_cg (y := fst ((2 * i) + 1)) (by rw [nI_clamp (by omega)]) ?_
      refine lv_aload_n hx hb dX11_harmOf_62 rfl (lv_at hl 2 rfl) ?_
      refine va_get (D := (dC, dI)) (ci := 11) (v := .ref st) (C := RX11) (T := TX11) (N := 35) hx hb hg inG11 hown hK.1 hP 0 rfl rfl 0 (by decide) (hg _ wt_878) (fun _ h9 => h9) rfl dX11_harmOf_63 ?_
      refine lv_bipush (v := 20) hx hb dX11_harmOf_66 (by decide) ?_
      refine lv_iconst (v := 3) hx hb dX11_harmOf_68 (by decide) ?_
      refine lv_iload_n hx hb dX11_harmOf_69 rfl (lv_at hl 5 rfl) ?_
      refine lv_imul hx hb dX11_harmOf_70 ?_
      refine lv_cg (y := nI (3 * b)) (by rw [show (3 : Int32) = nI 3 from rfl]; exact pk_mul _ _) ?_
      refine lv_iadd hx hb dX11_harmOf_71 ?_
      refine lv_cg (y := nI (20 + (3 * b))) (by rw [show (20 : Int32) = nI 20 from rfl]; exact nI_add _ _) ?_
      refine lv_iconst (v := 2) hx hb dX11_harmOf_72 (by decide) ?_
      refine lv_iadd hx hb dX11_harmOf_73 ?_
      refine lv_cg (y := nI ((20 + (3 * b)) + 2)) (by rw [show (2 : Int32) = nI 2 from rfl]; exact nI_add _ _) ?_
      refine va_iald hx hb hK.1 hP 1 0 rfl rfl (vp_in_nI (by first | omega | (have t_n0 : (nI i).toInt = (i : Int) := tn885_ (); have t_n1 : (nI b).toInt = (b : Int) := tn886_ (); have t_n2 : (nI N).toInt = (N : Int) := tn887_ (); have t_n3 : (nI B).toInt = (B : Int) := tn888_ (); have t_n4 : (nI T).toInt = (T : Int) := tn889_ (); have t_n5 : (nI S).toInt = (S : Int) := tn890_ (); have t_n6 : (nI M).toInt = (M : Int) := tn891_ (); omega)) (by decide)) dX11_harmOf_74 ?_
      refine lv_cg (y := fst ((20 + (3 * b)) + 2)) (by rw [nI_clamp (by omega)]) ?_
      refine lv_isub hx hb dX11_harmOf_75 ?_
      refine lv_istore (lv' := [(7, .int ((fst ((2 * i) + 1)) - (fst ((20 + (3 * b)) + 2)))), (6, .int ((hQt fst i q) - (hK' (fst (20 + 3 * b))))), (5, .int (fst (20 + 3 * b))), (0, .ref h0), (1, .int (nI i)), (2, .int (-4)), (3, .int (nI b)), (4, .int q)]) hx hb dX11_harmOf_76 hl (by decide) rfl (fun ls hl => ?_)
      refine lv_iload hx hb dX11_harmOf_78 (lv_at hl 1 rfl) ?_
      have cut89_8 : ∀ (y7 : Int32) (H : Heap) (locs : List Loc), y7 = hPos ((hQt fst i q) - (hK' (fst (20 + 3 * b)))) → va_P (dC, dI) vwCl [(h0, .inr (11, [.ref st, .int (nI N), .int (nI B), .ref rp, .int vrs, .int vrb, .int vhs, .int vca, .int vxs, .int vxb, .ref tp, .int (nI T), .int vfa, .int vbr, .int vba, .int vsp, .int vhe, .int vtk, .int vva, .ref cu, .ref lt, .ref od, .ref th, .ref be, .ref ln, .int (nI S), .ref ma, .int (nI M), .ref ah, .ref bh, .ref ik, .ref la, .ref lg, .ref ce, .int vto])), (st, .inl (G 0, 196, .inl fst))] H → va_S (fun q : Nat => s.heap.size ≤ q) s.heap H locs → ∀ (ls : Array Slot), lv_has ls 10 [(7, .int ((fst ((2 * i) + 1)) - (fst ((20 + (3 * b)) + 2)))), (6, .int ((hQt fst i q) - (hK' (fst (20 + 3 * b))))), (5, .int (fst (20 + 3 * b))), (0, .ref h0), (1, .int (nI i)), (2, .int (-4)), (3, .int (nI b)), (4, .int q)] → W p l e (headSpec (Cond.code yX11_harmOf cX11_harmOf 10 (some .int) :: GT) ({ frames := 1, cells := 0, slots := 0, locals := 21 } : Room)).room s m ([.ref h0, .int (nI i), .int (-4), .int (nI b), .int q] : List Value).toArray below meth c H locs 0 0 (MQ below (va_Qi (fun (r : Int32) (u : Unit) => match u with | _ => (r = rhN fst i b q) ∧ True) (fun _ _ => True) (fun q : Nat => s.heap.size ≤ q)) ([.ref h0, .int (nI i), .int (-4), .int (nI b), .int q] : List Value).toArray s 0 0 (fun q : Nat => s.heap.size ≤ q)) (F0 m 89 ls [.int y7]) := by
        intro y7 H locs hcut hP hS ls hl
        subst hcut
        refine lv_iload hx hb dX11_harmOf_89 (lv_at hl 0 rfl) ?_
        have cut100_10 : ∀ (y9 : Int32) (H : Heap) (locs : List Loc), y9 = hPos ((fst ((2 * i) + 1)) - (fst ((20 + (3 * b)) + 2))) → va_P (dC, dI) vwCl [(h0, .inr (11, [.ref st, .int (nI N), .int (nI B), .ref rp, .int vrs, .int vrb, .int vhs, .int vca, .int vxs, .int vxb, .ref tp, .int (nI T), .int vfa, .int vbr, .int vba, .int vsp, .int vhe, .int vtk, .int vva, .ref cu, .ref lt, .ref od, .ref th, .ref be, .ref ln, .int (nI S), .ref ma, .int (nI M), .ref ah, .ref bh, .ref ik, .ref la, .ref lg, .ref ce, .int vto])), (st, .inl (G 0, 196, .inl fst))] H → va_S (fun q : Nat => s.heap.size ≤ q) s.heap H locs → ∀ (ls : Array Slot), lv_has ls 10 [(7, .int ((fst ((2 * i) + 1)) - (fst ((20 + (3 * b)) + 2)))), (6, .int ((hQt fst i q) - (hK' (fst (20 + 3 * b))))), (5, .int (fst (20 + 3 * b))), (0, .ref h0), (1, .int (nI i)), (2, .int (-4)), (3, .int (nI b)), (4, .int q)] → W p l e (headSpec (Cond.code yX11_harmOf cX11_harmOf 10 (some .int) :: GT) ({ frames := 1, cells := 0, slots := 0, locals := 21 } : Room)).room s m ([.ref h0, .int (nI i), .int (-4), .int (nI b), .int q] : List Value).toArray below meth c H locs 0 0 (MQ below (va_Qi (fun (r : Int32) (u : Unit) => match u with | _ => (r = rhN fst i b q) ∧ True) (fun _ _ => True) (fun q : Nat => s.heap.size ≤ q)) ([.ref h0, .int (nI i), .int (-4), .int (nI b), .int q] : List Value).toArray s 0 0 (fun q : Nat => s.heap.size ≤ q)) (F0 m 100 ls [.int y9, .int (hPos ((hQt fst i q) - (hK' (fst (20 + 3 * b)))))]) := by
          intro y9 H locs hcut hP hS ls hl
          subst hcut
          refine lv_iadd hx hb dX11_harmOf_100 ?_
          refine lv_iload hx hb dX11_harmOf_101 (lv_at hl 2 rfl) ?_
          refine lv_iconst (v := 2) hx hb dX11_harmOf_103 (by decide) ?_
          have cut126_12 : ∀ (y11 : Int32) (H : Heap) (locs : List Loc), y11 = hTr (fst (20 + 3 * b)) (fst (2 * i + 1)) → va_P (dC, dI) vwCl [(h0, .inr (11, [.ref st, .int (nI N), .int (nI B), .ref rp, .int vrs, .int vrb, .int vhs, .int vca, .int vxs, .int vxb, .ref tp, .int (nI T), .int vfa, .int vbr, .int vba, .int vsp, .int vhe, .int vtk, .int vva, .ref cu, .ref lt, .ref od, .ref th, .ref be, .ref ln, .int (nI S), .ref ma, .int (nI M), .ref ah, .ref bh, .ref ik, .ref la, .ref lg, .ref ce, .int vto])), (st, .inl (G 0, 196, .inl fst))] H → va_S (fun q : Nat => s.heap.size ≤ q) s.heap H locs → ∀ (ls : Array Slot), lv_has ls 10 [(7, .int ((fst ((2 * i) + 1)) - (fst ((20 + (3 * b)) + 2)))), (6, .int ((hQt fst i q) - (hK' (fst (20 + 3 * b))))), (5, .int (fst (20 + 3 * b))), (0, .ref h0), (1, .int (nI i)), (2, .int (-4)), (3, .int (nI b)), (4, .int q)] → W p l e (headSpec (Cond.code yX11_harmOf cX11_harmOf 10 (some .int) :: GT) ({ frames := 1, cells := 0, slots := 0, locals := 21 } : Room)).room s m ([.ref h0, .int (nI i), .int (-4), .int (nI b), .int q] : List Value).toArray below meth c H locs 0 0 (MQ below (va_Qi (fun (r : Int32) (u : Unit) => match u with | _ => (r = rhN fst i b q) ∧ True) (fun _ _ => True) (fun q : Nat => s.heap.size ≤ q)) ([.ref h0, .int (nI i), .int (-4), .int (nI b), .int q] : List Value).toArray s 0 0 (fun q : Nat => s.heap.size ≤ q)) (F0 m 126 ls [.int y11, .int ((hPos ((hQt fst i q) - (hK' (fst (20 + 3 * b))))) + (hPos ((fst ((2 * i) + 1)) - (fst ((20 + (3 * b)) + 2)))))]) := by
            intro y11 H locs hcut hP hS ls hl
            subst hcut
            refine lv_iadd hx hb dX11_harmOf_126 ?_
            refine lv_istore (lv' := [(8, .int (((hPos ((hQt fst i q) - (hK' (fst (20 + 3 * b))))) + (hPos ((fst ((2 * i) + 1)) - (fst ((20 + (3 * b)) + 2))))) + (hTr (fst (20 + 3 * b)) (fst (2 * i + 1))))), (7, .int ((fst ((2 * i) + 1)) - (fst ((20 + (3 * b)) + 2)))), (6, .int ((hQt fst i q) - (hK' (fst (20 + 3 * b))))), (5, .int (fst (20 + 3 * b))), (0, .ref h0), (1, .int (nI i)), (2, .int (-4)), (3, .int (nI b)), (4, .int q)]) hx hb dX11_harmOf_127 hl (by decide) rfl (fun ls hl => ?_)
            refine lv_iload_n hx hb dX11_harmOf_129 rfl (lv_at hl 6 rfl) ?_
            refine lv_bipush (v := (-4)) hx hb dX11_harmOf_130 (by decide) ?_
            refine lv_icmp_eq (tgt := 219) hx hb dX11_harmOf_132 (by decide) (fun c13 => ?_) (fun c13 => ?_)
            · skip
              refine lv_iload hx hb dX11_harmOf_219 (lv_at hl 0 rfl) ?_
              refine lv_bipush (v := 20) hx hb dX11_harmOf_221 (by decide) ?_
              refine lv_icmp_le (tgt := 231) hx hb dX11_harmOf_223 (by decide) (fun c14 => ?_) (fun c14 => ?_)
              · skip
                refine lv_iload hx hb dX11_harmOf_231 (lv_at hl 0 rfl) ?_
                have hpost : (((hPos ((hQt fst i q) - (hK' (fst (20 + 3 * b))))) + (hPos ((fst ((2 * i) + 1)) - (fst ((20 + (3 * b)) + 2))))) + (hTr (fst (20 + 3 * b)) (fst (2 * i + 1))) : Int32) = rhN fst i b q := by
                  unfold rhN rhS hTop
                  first | exact (if_pos (by assumption)).symm | exact (if_neg (by assumption)).symm
                refine W.widen (k := 0) (n := 0) (Nat.le_of_ble_eq_true rfl) (Nat.le_of_ble_eq_true rfl) ?_
                exact W.iret (v := ((hPos ((hQt fst i q) - (hK' (fst (20 + 3 * b))))) + (hPos ((fst ((2 * i) + 1)) - (fst ((20 + (3 * b)) + 2))))) + (hTr (fst (20 + 3 * b)) (fst (2 * i + 1)))) hx hb hr (fun t ht hW => ⟨⟨((hPos ((hQt fst i q) - (hK' (fst (20 + 3 * b))))) + (hPos ((fst ((2 * i) + 1)) - (fst ((20 + (3 * b)) + 2))))) + (hTr (fst (20 + 3 * b)) (fst (2 * i + 1))), (), rfl, ⟨hpost, trivial⟩, trivial⟩, hS.F ht⟩) hS.2.2 dX11_harmOf_233
              · skip
                refine lv_bipush (v := 20) hx hb dX11_harmOf_226 (by decide) ?_
                refine lv_goto (tgt := 233) hx hb dX11_harmOf_228 (by decide) ?_
                have hpost : (20 : Int32) = rhN fst i b q := by
                  unfold rhN rhS hTop
                  first | exact (if_pos (by assumption)).symm | exact (if_neg (by assumption)).symm
                refine W.widen (k := 0) (n := 0) (Nat.le_of_ble_eq_true rfl) (Nat.le_of_ble_eq_true rfl) ?_
                exact W.iret (v := 20) hx hb hr (fun t ht hW => ⟨⟨20, (), rfl, ⟨hpost, trivial⟩, trivial⟩, hS.F ht⟩) hS.2.2 dX11_harmOf_233
            · skip
              exact absurd c13 (by decide)
          refine lv_icmp_ne (tgt := 125) hx hb dX11_harmOf_104 (by decide) (fun c15 => ?_) (fun c15 => ?_)
          · skip
            refine lv_iconst (v := 0) hx hb dX11_harmOf_125 (by decide) ?_
            exact cut126_12 0 _ _ (by first | exact (if_pos (by assumption)).symm | exact (if_neg (by assumption)).symm | exact ((if_neg (by assumption)).trans (if_pos (by assumption))).symm | exact ((if_neg (by assumption)).trans (if_neg (by assumption))).symm | exact (if_pos ⟨by assumption, by assumption⟩).symm | exact (if_neg (fun h9 => absurd h9.1 (by assumption))).symm | exact (if_neg (fun h9 => h9.2 (by assumption))).symm) hP hS ls (lv_sub hl [0, 1, 2, 3, 4, 5, 6, 7] rfl)
          · skip
            refine lv_aload_n hx hb dX11_harmOf_107 rfl (lv_at hl 3 rfl) ?_
            refine va_get (D := (dC, dI)) (ci := 11) (v := .ref st) (C := RX11) (T := TX11) (N := 35) hx hb hg inG11 hown hK.1 hP 0 rfl rfl 0 (by decide) (hg _ wt_878) (fun _ h9 => h9) rfl dX11_harmOf_108 ?_
            refine lv_iconst (v := 2) hx hb dX11_harmOf_111 (by decide) ?_
            refine lv_iload_n hx hb dX11_harmOf_112 rfl (lv_at hl 4 rfl) ?_
            refine lv_imul hx hb dX11_harmOf_113 ?_
            refine lv_cg (y := nI (2 * i)) (by rw [show (2 : Int32) = nI 2 from rfl]; exact pk_mul _ _) ?_
            refine lv_iconst (v := 1) hx hb dX11_harmOf_114 (by decide) ?_
            refine lv_iadd hx hb dX11_harmOf_115 ?_
            refine lv_cg (y := nI ((2 * i) + 1)) (by rw [show (1 : Int32) = nI 1 from rfl]; exact nI_add _ _) ?_
            refine va_iald hx hb hK.1 hP 1 0 rfl rfl (vp_in_nI (by first | omega | (have t_c15 := eqI c15; have : (2 : Int32).toInt = 2 := qI_2; have t_n0 : (nI i).toInt = (i : Int) := tn885_ (); have t_n1 : (nI b).toInt = (b : Int) := tn886_ (); have t_n2 : (nI N).toInt = (N : Int) := tn887_ (); have t_n3 : (nI B).toInt = (B : Int) := tn888_ (); have t_n4 : (nI T).toInt = (T : Int) := tn889_ (); have t_n5 : (nI S).toInt = (S : Int) := tn890_ (); have t_n6 : (nI M).toInt = (M : Int) := tn891_ (); omega)) (by decide)) dX11_harmOf_116 ?_
            refine lv_cg (y := fst ((2 * i) + 1)) (by rw [nI_clamp (by omega)]) ?_
            refine lv_iconst (v := 5) hx hb dX11_harmOf_117 (by decide) ?_
            refine lv_icmp_lt (tgt := 125) hx hb dX11_harmOf_118 (by decide) (fun c16 => ?_) (fun c16 => ?_)
            · skip
              refine lv_iconst (v := 0) hx hb dX11_harmOf_125 (by decide) ?_
              exact cut126_12 0 _ _ (by first | exact (if_pos (by assumption)).symm | exact (if_neg (by assumption)).symm | exact ((if_neg (by assumption)).trans (if_pos (by assumption))).symm | exact ((if_neg (by assumption)).trans (if_neg (by assumption))).symm | exact (if_pos ⟨by assumption, by assumption⟩).symm | exact (if_neg (fun h9 => absurd h9.1 (by assumption))).symm | exact (if_neg (fun h9 => h9.2 (by assumption))).symm) hP hS ls (lv_sub hl [0, 1, 2, 3, 4, 5, 6, 7] rfl)
            · skip
              refine lv_iconst (v := 1) hx hb dX11_harmOf_121 (by decide) ?_
              refine lv_goto (tgt := 126) hx hb dX11_harmOf_122 (by decide) ?_
              exact cut126_12 1 _ _ (by first | exact (if_pos (by assumption)).symm | exact (if_neg (by assumption)).symm | exact ((if_neg (by assumption)).trans (if_pos (by assumption))).symm | exact ((if_neg (by assumption)).trans (if_neg (by assumption))).symm | exact (if_pos ⟨by assumption, by assumption⟩).symm | exact (if_neg (fun h9 => absurd h9.1 (by assumption))).symm | exact (if_neg (fun h9 => h9.2 (by assumption))).symm) hP hS ls (lv_sub hl [0, 1, 2, 3, 4, 5, 6, 7] rfl)
        refine lv_if_le (tgt := 99) hx hb dX11_harmOf_91 (by decide) (fun c17 => ?_) (fun c17 => ?_)
        · skip
          refine lv_iconst (v := 0) hx hb dX11_harmOf_99 (by decide) ?_
          exact cut100_10 0 _ _ (by first | exact (if_pos (by assumption)).symm | exact (if_neg (by assumption)).symm | exact ((if_neg (by assumption)).trans (if_pos (by assumption))).symm | exact ((if_neg (by assumption)).trans (if_neg (by assumption))).symm | exact (if_pos ⟨by assumption, by assumption⟩).symm | exact (if_neg (fun h9 => absurd h9.1 (by assumption))).symm | exact (if_neg (fun h9 => h9.2 (by assumption))).symm) hP hS ls (lv_sub hl [0, 1, 2, 3, 4, 5, 6, 7] rfl)
        · skip
          refine lv_iload hx hb dX11_harmOf_94 (lv_at hl 0 rfl) ?_
          refine lv_goto (tgt := 100) hx hb dX11_harmOf_96 (by decide) ?_
          exact cut100_10 ((fst ((2 * i) + 1)) - (fst ((20 + (3 * b)) + 2))) _ _ (by first | exact (if_pos (by assumption)).symm | exact (if_neg (by assumption)).symm | exact ((if_neg (by assumption)).trans (if_pos (by assumption))).symm | exact ((if_neg (by assumption)).trans (if_neg (by assumption))).symm | exact (if_pos ⟨by assumption, by assumption⟩).symm | exact (if_neg (fun h9 => absurd h9.1 (by assumption))).symm | exact (if_neg (fun h9 => h9.2 (by assumption))).symm) hP hS ls (lv_sub hl [0, 1, 2, 3, 4, 5, 6, 7] rfl)
      refine lv_if_le (tgt := 88) hx hb dX11_harmOf_80 (by decide) (fun c18 => ?_) (fun c18 => ?_)
      · skip
        refine lv_iconst (v := 0) hx hb dX11_harmOf_88 (by decide) ?_
        exact cut89_8 0 _ _ (by first | exact (if_pos (by assumption)).symm | exact (if_neg (by assumption)).symm | exact ((if_neg (by assumption)).trans (if_pos (by assumption))).symm | exact ((if_neg (by assumption)).trans (if_neg (by assumption))).symm | exact (if_pos ⟨by assumption, by assumption⟩).symm | exact (if_neg (fun h9 => absurd h9.1 (by assumption))).symm | exact (if_neg (fun h9 => h9.2 (by assumption))).symm) hP hS ls (lv_sub hl [0, 1, 2, 3, 4, 5, 6, 7] rfl)
      · skip
        refine lv_iload hx hb dX11_harmOf_83 (lv_at hl 1 rfl) ?_
        refine lv_goto (tgt := 89) hx hb dX11_harmOf_85 (by decide) ?_
        exact cut89_8 ((hQt fst i q) - (hK' (fst (20 + 3 * b)))) _ _ (by first | exact (if_pos (by assumption)).symm | exact (if_neg (by assumption)).symm | exact ((if_neg (by assumption)).trans (if_pos (by assumption))).symm | exact ((if_neg (by assumption)).trans (if_neg (by assumption))).symm | exact (if_pos ⟨by assumption, by assumption⟩).symm | exact (if_neg (fun h9 => absurd h9.1 (by assumption))).symm | exact (if_neg (fun h9 => h9.2 (by assumption))).symm) hP hS ls (lv_sub hl [0, 1, 2, 3, 4, 5, 6, 7] rfl)
    refine lv_icmp_ne (tgt := 38) hx hb dX11_harmOf_31 (by decide) (fun c19 => ?_) (fun c19 => ?_)
    · skip
      refine lv_iload hx hb dX11_harmOf_38 (lv_at hl 1 rfl) ?_
      refine lv_iconst (v := 3) hx hb dX11_harmOf_40 (by decide) ?_
      refine lv_icmp_ne (tgt := 48) hx hb dX11_harmOf_41 (by decide) (fun c20 => ?_) (fun c20 => ?_)
      · skip
        refine lv_iconst (v := 0) hx hb dX11_harmOf_48 (by decide) ?_
        exact cut49_6 0 _ _ (by first | exact (if_pos (by assumption)).symm | exact (if_neg (by assumption)).symm | exact ((if_neg (by assumption)).trans (if_pos (by assumption))).symm | exact ((if_neg (by assumption)).trans (if_neg (by assumption))).symm | exact (if_pos ⟨by assumption, by assumption⟩).symm | exact (if_neg (fun h9 => absurd h9.1 (by assumption))).symm | exact (if_neg (fun h9 => h9.2 (by assumption))).symm) hP hS ls (lv_sub hl [0, 1, 2, 3, 4, 5, 6] rfl)
      · skip
        refine lv_iconst (v := 1) hx hb dX11_harmOf_44 (by decide) ?_
        refine lv_goto (tgt := 49) hx hb dX11_harmOf_45 (by decide) ?_
        exact cut49_6 1 _ _ (by first | exact (if_pos (by assumption)).symm | exact (if_neg (by assumption)).symm | exact ((if_neg (by assumption)).trans (if_pos (by assumption))).symm | exact ((if_neg (by assumption)).trans (if_neg (by assumption))).symm | exact (if_pos ⟨by assumption, by assumption⟩).symm | exact (if_neg (fun h9 => absurd h9.1 (by assumption))).symm | exact (if_neg (fun h9 => h9.2 (by assumption))).symm) hP hS ls (lv_sub hl [0, 1, 2, 3, 4, 5, 6] rfl)
    · skip
      refine lv_iconst (v := 2) hx hb dX11_harmOf_34 (by decide) ?_
      refine lv_goto (tgt := 49) hx hb dX11_harmOf_35 (by decide) ?_
      exact cut49_6 2 _ _ (by first | exact (if_pos (by assumption)).symm | exact (if_neg (by assumption)).symm | exact ((if_neg (by assumption)).trans (if_pos (by assumption))).symm | exact ((if_neg (by assumption)).trans (if_neg (by assumption))).symm | exact (if_pos ⟨by assumption, by assumption⟩).symm | exact (if_neg (fun h9 => absurd h9.1 (by assumption))).symm | exact (if_neg (fun h9 => h9.2 (by assumption))).symm) hP hS ls (lv_sub hl [0, 1, 2, 3, 4, 5, 6] rfl)
  refine lv_if_eq (tgt := 16) hx hb dX11_harmOf_9 (by decide) (fun c21 => ?_) (fun c21 => ?_)
  · skip
    refine lv_aload_n hx hb dX11_harmOf_16 rfl (lv_at hl 1 rfl) ?_
    refine va_get (D := (dC, dI)) (ci := 11) (v := .ref st) (C := RX11) (T := TX11) (N := 35) hx hb hg inG11 hown hK.1 hP 0 rfl rfl 0 (by decide) (hg _ wt_878) (fun _ h9 => h9) rfl dX11_harmOf_17 ?_
    refine lv_iconst (v := 2) hx hb dX11_harmOf_20 (by decide) ?_
    refine lv_iload_n hx hb dX11_harmOf_21 rfl (lv_at hl 2 rfl) ?_
    refine lv_imul hx hb dX11_harmOf_22 ?_
    refine lv_cg (y := nI (2 * i)) (by rw [show (2 : Int32) = nI 2 from rfl]; exact pk_mul _ _) ?_
    refine va_iald hx hb hK.1 hP 1 0 rfl rfl (vp_in_nI (by first | omega | (have t_c21 := eqI c21; have : (0 : Int32).toInt = 0 := qI_0; have t_n0 : (nI i).toInt = (i : Int) := tn885_ (); have t_n1 : (nI b).toInt = (b : Int) := tn886_ (); have t_n2 : (nI N).toInt = (N : Int) := tn887_ (); have t_n3 : (nI B).toInt = (B : Int) := tn888_ (); have t_n4 : (nI T).toInt = (T : Int) := tn889_ (); have t_n5 : (nI S).toInt = (S : Int) := tn890_ (); have t_n6 : (nI M).toInt = (M : Int) := tn891_ (); omega)) (by decide)) dX11_harmOf_23 ?_
    refine lv_cg (y := fst (2 * i)) (by rw [nI_clamp (by omega)]) ?_
    exact cut24_4 (fst (2 * i)) _ _ (by first | exact (if_pos (by assumption)).symm | exact (if_neg (by assumption)).symm | exact ((if_neg (by assumption)).trans (if_pos (by assumption))).symm | exact ((if_neg (by assumption)).trans (if_neg (by assumption))).symm | exact (if_pos ⟨by assumption, by assumption⟩).symm | exact (if_neg (fun h9 => absurd h9.1 (by assumption))).symm | exact (if_neg (fun h9 => h9.2 (by assumption))).symm) hP hS ls (lv_sub hl [0, 1, 2, 3, 4, 5] rfl)
  · skip
    refine lv_iconst (v := 0) hx hb dX11_harmOf_12 (by decide) ?_
    refine lv_goto (tgt := 24) hx hb dX11_harmOf_13 (by decide) ?_
    exact cut24_4 0 _ _ (by first | exact (if_pos (by assumption)).symm | exact (if_neg (by assumption)).symm | exact ((if_neg (by assumption)).trans (if_pos (by assumption))).symm | exact ((if_neg (by assumption)).trans (if_neg (by assumption))).symm | exact (if_pos ⟨by assumption, by assumption⟩).symm | exact (if_neg (fun h9 => absurd h9.1 (by assumption))).symm | exact (if_neg (fun h9 => h9.2 (by assumption))).symm) hP hS ls (lv_sub hl [0, 1, 2, 3, 4, 5] rfl)

set_option maxHeartbeats 1000000 in
set_option maxRecDepth 100000 in
theorem c_X11_harmOfB (l : Launch) (dC : Nat → ClassId) (dI : Nat → Nat → Nat) (G : Nat → ClassId) (sz : Nat) (h0 i a b st N B rp tp T cu lt od th be ln S ma M ah bh ik la lg ce : Nat) (q vrs vrb vhs vca vxs vxb vfa vbr vba vsp vhe vtk vva vto : Int32) (fst : Nat → Int32) (hN : N ≤ 10) (hB : B ≤ 6) (hT : T ≤ 320) (hS0 : S ≤ 8) (hM : M ≤ 6) (hi : i < 10) (hkb : b < 6) (hka : a < 6) : Met l yX11_harmOf (Cond.code yX11_harmOf cX11_harmOf 10 (some .int) :: GT) ({ frames := 1, cells := 0, slots := 0, locals := 21 } : Room) (PcR [.ref h0, .int (nI i), .int (nI a), .int (nI b), .int q] dC dI G [(h0, .inr (11, [.ref st, .int (nI N), .int (nI B), .ref rp, .int vrs, .int vrb, .int vhs, .int vca, .int vxs, .int vxb, .ref tp, .int (nI T), .int vfa, .int vbr, .int vba, .int vsp, .int vhe, .int vtk, .int vva, .ref cu, .ref lt, .ref od, .ref th, .ref be, .ref ln, .int (nI S), .ref ma, .int (nI M), .ref ah, .ref bh, .ref ik, .ref la, .ref lg, .ref ce, .int vto])), (st, .inl (G 0, 196, .inl fst))] sz) (va_Qi (fun (r : Int32) (u : Unit) => match u with | _ => (r = rhB fst i a b q) ∧ True) (fun _ _ => True) (fun q : Nat => sz ≤ q)) 0 0 (fun q : Nat => sz ≤ q) := by
  have hB_ := hB
  have hM_ := hM
  have hT_ := hT
  refine Met.ofW (cc := cX11_harmOf) (maxL := 10) (ret := (some .int)) (by decide) rfl ?_
  intro p e s m args below meth c s₁ Bd hml hv
  obtain ⟨rfl, hsz, hP, hK⟩ := hv
  have hx := Bd.exec
  have hb := Bd.bytes
  have hr := Bd.returns
  have hg : ∀ w ∈ GT, w.before ([.ref h0, .int (nI i), .int (nI a), .int (nI b), .int q] : List Value).toArray s = true := fun w h => atoms_spec (ws := Cond.code yX11_harmOf cX11_harmOf 10 (some .int) :: GT) Bd.pre w (List.mem_cons_of_mem _ h)
  have hown : s.vm.findClass RX11 = some m.cls := findClass_of_methodNamed Bd.named
  have hlocks := Bd.notSynchronized
  subst hsz
  have hA : ∀ q : Nat, s.heap.size ≤ q → (fun q : Nat => s.heap.size ≤ q) q := fun _ h => h
  have hS : va_S (fun q : Nat => s.heap.size ≤ q) s.heap s.heap [] := va_S.rf
  have hl := lv_entry ([.ref h0, .int (nI i), .int (nI a), .int (nI b), .int q]) (n := 10) (Nat.le_of_ble_eq_true rfl)
  rw [lg_entry_eq]
  generalize (lg_sl ([.ref h0, .int (nI i), .int (nI a), .int (nI b), .int q]) ++ List.replicate (10 - (lg_sl ([.ref h0, .int (nI i), .int (nI a), .int (nI b), .int q])).length) Slot.unset).toArray = ls at hl ⊢
  have hl : lv_has ls 10 [(0, .ref h0), (1, .int (nI i)), (2, .int (nI a)), (3, .int (nI b)), (4, .int q)] := hl
  refine lv_aload_n hx hb dX11_harmOf_0 rfl (lv_at hl 0 rfl) ?_
  refine lv_iload_n hx hb dX11_harmOf_1 rfl (lv_at hl 3 rfl) ?_
  have hPc := hP.sub (ws' := [(h0, .inr (11, [.ref st, .int (nI N), .int (nI B), .ref rp, .int vrs, .int vrb, .int vhs, .int vca, .int vxs, .int vxb, .ref tp, .int (nI T), .int vfa, .int vbr, .int vba, .int vsp, .int vhe, .int vtk, .int vva, .ref cu, .ref lt, .ref od, .ref th, .ref be, .ref ln, .int (nI S), .ref ma, .int (nI M), .ref ah, .ref bh, .ref ik, .ref la, .ref lg, .ref ce, .int vto])), (st, .inl (G 0, 196, .inl fst))]) [0, 1] rfl
  have tn892_ : nIT i := fun _ => nI_toInt (by omega)
  have tn893_ : nIT a := fun _ => nI_toInt (by omega)
  have tn894_ : nIT b := fun _ => nI_toInt (by omega)
  have tn895_ : nIT N := fun _ => nI_toInt (by omega)
  have tn896_ : nIT B := fun _ => nI_toInt (by omega)
  have tn897_ : nIT T := fun _ => nI_toInt (by omega)
  have tn898_ : nIT S := fun _ => nI_toInt (by omega)
  have tn899_ : nIT M := fun _ => nI_toInt (by omega)
  refine va_calli (va_runV (As := [.int (nI b)]) (rest := []) ⟨hx, hb, hml, hown, hg⟩ (c_X11_kindOf l dC dI G _ h0 b st N B rp tp T cu lt od th be ln S ma M ah bh ik la lg ce vrs vrb vhs vca vxs vxb vfa vbr vba vsp vhe vtk vva vto fst hN hB_ hT_ hS0 hM_ hkb) (kwV hg mfX11_kindOf wt_1110 ⟨Nat.le_of_ble_eq_true rfl, Nat.le_of_ble_eq_true rfl⟩) (preVR hK hPc (ci := 11) rfl rfl) rfl rfl hl.1 rfl (lv_room (Nat.le_of_ble_eq_true rfl)) dX11_harmOf_2 ⟨Nat.le_of_ble_eq_true rfl, Nat.le_of_ble_eq_true rfl⟩) hS (fun q h1 h2 => absurd h2 (Nat.not_le.mpr h1)) (fun q h => hA q (Nat.le_trans hS.1 h)) (fun r1 ur1 t H1 locs ht hvm w2 hB hz1 hk1 hS => ?_)
  have hP := keepR hP hk1
  obtain ⟨w2, w2x⟩ := w2
  subst w2
  refine lv_istore (lv' := [(5, .int (fst (20 + 3 * b))), (0, .ref h0), (1, .int (nI i)), (2, .int (nI a)), (3, .int (nI b)), (4, .int q)]) hx hb dX11_harmOf_5 hl (by decide) rfl (fun ls hl => ?_)
  refine lv_iload hx hb dX11_harmOf_7 (lv_at hl 5 rfl) ?_
  have cut24_4 : ∀ (y3 : Int32) (H : Heap) (locs : List Loc), y3 = hQt fst i q → va_P (dC, dI) vwCl [(h0, .inr (11, [.ref st, .int (nI N), .int (nI B), .ref rp, .int vrs, .int vrb, .int vhs, .int vca, .int vxs, .int vxb, .ref tp, .int (nI T), .int vfa, .int vbr, .int vba, .int vsp, .int vhe, .int vtk, .int vva, .ref cu, .ref lt, .ref od, .ref th, .ref be, .ref ln, .int (nI S), .ref ma, .int (nI M), .ref ah, .ref bh, .ref ik, .ref la, .ref lg, .ref ce, .int vto])), (st, .inl (G 0, 196, .inl fst))] H → va_S (fun q : Nat => s.heap.size ≤ q) s.heap H locs → ∀ (ls : Array Slot), lv_has ls 10 [(5, .int (fst (20 + 3 * b))), (0, .ref h0), (1, .int (nI i)), (2, .int (nI a)), (3, .int (nI b)), (4, .int q)] → W p l e (headSpec (Cond.code yX11_harmOf cX11_harmOf 10 (some .int) :: GT) ({ frames := 1, cells := 0, slots := 0, locals := 21 } : Room)).room s m ([.ref h0, .int (nI i), .int (nI a), .int (nI b), .int q] : List Value).toArray below meth c H locs 0 0 (MQ below (va_Qi (fun (r : Int32) (u : Unit) => match u with | _ => (r = rhB fst i a b q) ∧ True) (fun _ _ => True) (fun q : Nat => s.heap.size ≤ q)) ([.ref h0, .int (nI i), .int (nI a), .int (nI b), .int q] : List Value).toArray s 0 0 (fun q : Nat => s.heap.size ≤ q)) (F0 m 24 ls [.int y3]) := by
    intro y3 H locs hcut hP hS ls hl
    subst hcut
    refine lv_istore (lv' := [(6, .int (hQt fst i q)), (5, .int (fst (20 + 3 * b))), (0, .ref h0), (1, .int (nI i)), (2, .int (nI a)), (3, .int (nI b)), (4, .int q)]) hx hb dX11_harmOf_24 hl (by decide) rfl (fun ls hl => ?_)
    refine lv_iload hx hb dX11_harmOf_26 (lv_at hl 0 rfl) ?_
    refine lv_iload hx hb dX11_harmOf_28 (lv_at hl 1 rfl) ?_
    refine lv_iconst (v := 1) hx hb dX11_harmOf_30 (by decide) ?_
    have cut49_6 : ∀ (y5 : Int32) (H : Heap) (locs : List Loc), y5 = hK' (fst (20 + 3 * b)) → va_P (dC, dI) vwCl [(h0, .inr (11, [.ref st, .int (nI N), .int (nI B), .ref rp, .int vrs, .int vrb, .int vhs, .int vca, .int vxs, .int vxb, .ref tp, .int (nI T), .int vfa, .int vbr, .int vba, .int vsp, .int vhe, .int vtk, .int vva, .ref cu, .ref lt, .ref od, .ref th, .ref be, .ref ln, .int (nI S), .ref ma, .int (nI M), .ref ah, .ref bh, .ref ik, .ref la, .ref lg, .ref ce, .int vto])), (st, .inl (G 0, 196, .inl fst))] H → va_S (fun q : Nat => s.heap.size ≤ q) s.heap H locs → ∀ (ls : Array Slot), lv_has ls 10 [(6, .int (hQt fst i q)), (5, .int (fst (20 + 3 * b))), (0, .ref h0), (1, .int (nI i)), (2, .int (nI a)), (3, .int (nI b)), (4, .int q)] → W p l e (headSpec (Cond.code yX11_harmOf cX11_harmOf 10 (some .int) :: GT) ({ frames := 1, cells := 0, slots := 0, locals := 21 } : Room)).room s m ([.ref h0, .int (nI i), .int (nI a), .int (nI b), .int q] : List Value).toArray below meth c H locs 0 0 (MQ below (va_Qi (fun (r : Int32) (u : Unit) => match u with | _ => (r = rhB fst i a b q) ∧ True) (fun _ _ => True) (fun q : Nat => s.heap.size ≤ q)) ([.ref h0, .int (nI i), .int (nI a), .int (nI b), .int q] : List Value).toArray s 0 0 (fun q : Nat => s.heap.size ≤ q)) (F0 m 49 ls [.int y5, .int (hQt fst i q)]) := by
      intro y5 H locs hcut hP hS ls hl
      subst hcut
      refine lv_isub hx hb dX11_harmOf_49 ?_
      refine lv_istore (lv' := [(6, .int ((hQt fst i q) - (hK' (fst (20 + 3 * b))))), (5, .int (fst (20 + 3 * b))), (0, .ref h0), (1, .int (nI i)), (2, .int (nI a)), (3, .int (nI b)), (4, .int q)]) hx hb dX11_harmOf_50 hl (by decide) rfl (fun ls hl => ?_)
      refine lv_aload_n hx hb dX11_harmOf_52 rfl (lv_at hl 2 rfl) ?_
      refine va_get (D := (dC, dI)) (ci := 11) (v := .ref st) (C := RX11) (T := TX11) (N := 35) hx hb hg inG11 hown hK.1 hP 0 rfl rfl 0 (by decide) (hg _ wt_878) (fun _ h9 => h9) rfl dX11_harmOf_53 ?_
      refine lv_iconst (v := 2) hx hb dX11_harmOf_56 (by decide) ?_
      refine lv_iload_n hx hb dX11_harmOf_57 rfl (lv_at hl 3 rfl) ?_
      refine lv_imul hx hb dX11_harmOf_58 ?_
      refine lv_cg (y := nI (2 * i)) (by rw [show (2 : Int32) = nI 2 from rfl]; exact pk_mul _ _) ?_
      refine lv_iconst (v := 1) hx hb dX11_harmOf_59 (by decide) ?_
      refine lv_iadd hx hb dX11_harmOf_60 ?_
      refine lv_cg (y := nI ((2 * i) + 1)) (by rw [show (1 : Int32) = nI 1 from rfl]; exact nI_add _ _) ?_
      refine va_iald hx hb hK.1 hP 1 0 rfl rfl (vp_in_nI (by first | omega | (have t_n0 : (nI i).toInt = (i : Int) := tn892_ (); have t_n1 : (nI a).toInt = (a : Int) := tn893_ (); have t_n2 : (nI b).toInt = (b : Int) := tn894_ (); have t_n3 : (nI N).toInt = (N : Int) := tn895_ (); have t_n4 : (nI B).toInt = (B : Int) := tn896_ (); have t_n5 : (nI T).toInt = (T : Int) := tn897_ (); have t_n6 : (nI S).toInt = (S : Int) := tn898_ (); have t_n7 : (nI M).toInt = (M : Int) := tn899_ (); omega)) (by decide)) dX11_harmOf_61 ?_
      refine lv_cg (y := fst ((2 * i) + 1)) (by rw [nI_clamp (by omega)]) ?_
      refine lv_aload_n hx hb dX11_harmOf_62 rfl (lv_at hl 2 rfl) ?_
      refine va_get (D := (dC, dI)) (ci := 11) (v := .ref st) (C := RX11) (T := TX11) (N := 35) hx hb hg inG11 hown hK.1 hP 0 rfl rfl 0 (by decide) (hg _ wt_878) (fun _ h9 => h9) rfl dX11_harmOf_63 ?_
      refine lv_bipush (v := 20) hx hb dX11_harmOf_66 (by decide) ?_
      refine lv_iconst (v := 3) hx hb dX11_harmOf_68 (by decide) ?_
      refine lv_iload_n hx hb dX11_harmOf_69 rfl (lv_at hl 5 rfl) ?_
      refine lv_imul hx hb dX11_harmOf_70 ?_
      refine lv_cg (y := nI (3 * b)) (by rw [show (3 : Int32) = nI 3 from rfl]; exact pk_mul _ _) ?_
      refine lv_iadd hx hb dX11_harmOf_71 ?_
      refine lv_cg (y := nI (20 + (3 * b))) (by rw [show (20 : Int32) = nI 20 from rfl]; exact nI_add _ _) ?_
      refine lv_iconst (v := 2) hx hb dX11_harmOf_72 (by decide) ?_
      refine lv_iadd hx hb dX11_harmOf_73 ?_
      refine lv_cg (y := nI ((20 + (3 * b)) + 2)) (by rw [show (2 : Int32) = nI 2 from rfl]; exact nI_add _ _) ?_
      refine va_iald hx hb hK.1 hP 1 0 rfl rfl (vp_in_nI (by first | omega | (have t_n0 : (nI i).toInt = (i : Int) := tn892_ (); have t_n1 : (nI a).toInt = (a : Int) := tn893_ (); have t_n2 : (nI b).toInt = (b : Int) := tn894_ (); have t_n3 : (nI N).toInt = (N : Int) := tn895_ (); have t_n4 : (nI B).toInt = (B : Int) := tn896_ (); have t_n5 : (nI T).toInt = (T : Int) := tn897_ (); have t_n6 : (nI S).toInt = (S : Int) := tn898_ (); have t_n7 : (nI M).toInt = (M : Int) := tn899_ (); omega)) (by decide)) dX11_harmOf_74 ?_
      refine lv_cg (y := fst ((20 + (3 * b)) + 2)) (by rw [nI_clamp (by omega)]) ?_
      refine lv_isub hx hb dX11_harmOf_75 ?_
      refine lv_istore (lv' := [(7, .int ((fst ((2 * i) + 1)) - (fst ((20 + (3 * b)) + 2)))), (6, .int ((hQt fst i q) - (hK' (fst (20 + 3 * b))))), (5, .int (fst (20 + 3 * b))), (0, .ref h0), (1, .int (nI i)), (2, .int (nI a)), (3, .int (nI b)), (4, .int q)]) hx hb dX11_harmOf_76 hl (by decide) rfl (fun ls hl => ?_)
      refine lv_iload hx hb dX11_harmOf_78 (lv_at hl 1 rfl) ?_
      have cut89_8 : ∀ (y7 : Int32) (H : Heap) (locs : List Loc), y7 = hPos ((hQt fst i q) - (hK' (fst (20 + 3 * b)))) → va_P (dC, dI) vwCl [(h0, .inr (11, [.ref st, .int (nI N), .int (nI B), .ref rp, .int vrs, .int vrb, .int vhs, .int vca, .int vxs, .int vxb, .ref tp, .int (nI T), .int vfa, .int vbr, .int vba, .int vsp, .int vhe, .int vtk, .int vva, .ref cu, .ref lt, .ref od, .ref th, .ref be, .ref ln, .int (nI S), .ref ma, .int (nI M), .ref ah, .ref bh, .ref ik, .ref la, .ref lg, .ref ce, .int vto])), (st, .inl (G 0, 196, .inl fst))] H → va_S (fun q : Nat => s.heap.size ≤ q) s.heap H locs → ∀ (ls : Array Slot), lv_has ls 10 [(7, .int ((fst ((2 * i) + 1)) - (fst ((20 + (3 * b)) + 2)))), (6, .int ((hQt fst i q) - (hK' (fst (20 + 3 * b))))), (5, .int (fst (20 + 3 * b))), (0, .ref h0), (1, .int (nI i)), (2, .int (nI a)), (3, .int (nI b)), (4, .int q)] → W p l e (headSpec (Cond.code yX11_harmOf cX11_harmOf 10 (some .int) :: GT) ({ frames := 1, cells := 0, slots := 0, locals := 21 } : Room)).room s m ([.ref h0, .int (nI i), .int (nI a), .int (nI b), .int q] : List Value).toArray below meth c H locs 0 0 (MQ below (va_Qi (fun (r : Int32) (u : Unit) => match u with | _ => (r = rhB fst i a b q) ∧ True) (fun _ _ => True) (fun q : Nat => s.heap.size ≤ q)) ([.ref h0, .int (nI i), .int (nI a), .int (nI b), .int q] : List Value).toArray s 0 0 (fun q : Nat => s.heap.size ≤ q)) (F0 m 89 ls [.int y7]) := by
        intro y7 H locs hcut hP hS ls hl
        subst hcut
        refine lv_iload hx hb dX11_harmOf_89 (lv_at hl 0 rfl) ?_
        have cut100_10 : ∀ (y9 : Int32) (H : Heap) (locs : List Loc), y9 = hPos ((fst ((2 * i) + 1)) - (fst ((20 + (3 * b)) + 2))) → va_P (dC, dI) vwCl [(h0, .inr (11, [.ref st, .int (nI N), .int (nI B), .ref rp, .int vrs, .int vrb, .int vhs, .int vca, .int vxs, .int vxb, .ref tp, .int (nI T), .int vfa, .int vbr, .int vba, .int vsp, .int vhe, .int vtk, .int vva, .ref cu, .ref lt, .ref od, .ref th, .ref be, .ref ln, .int (nI S), .ref ma, .int (nI M), .ref ah, .ref bh, .ref ik, .ref la, .ref lg, .ref ce, .int vto])), (st, .inl (G 0, 196, .inl fst))] H → va_S (fun q : Nat => s.heap.size ≤ q) s.heap H locs → ∀ (ls : Array Slot), lv_has ls 10 [(7, .int ((fst ((2 * i) + 1)) - (fst ((20 + (3 * b)) + 2)))), (6, .int ((hQt fst i q) - (hK' (fst (20 + 3 * b))))), (5, .int (fst (20 + 3 * b))), (0, .ref h0), (1, .int (nI i)), (2, .int (nI a)), (3, .int (nI b)), (4, .int q)] → W p l e (headSpec (Cond.code yX11_harmOf cX11_harmOf 10 (some .int) :: GT) ({ frames := 1, cells := 0, slots := 0, locals := 21 } : Room)).room s m ([.ref h0, .int (nI i), .int (nI a), .int (nI b), .int q] : List Value).toArray below meth c H locs 0 0 (MQ below (va_Qi (fun (r : Int32) (u : Unit) => match u with | _ => (r = rhB fst i a b q) ∧ True) (fun _ _ => True) (fun q : Nat => s.heap.size ≤ q)) ([.ref h0, .int (nI i), .int (nI a), .int (nI b), .int q] : List Value).toArray s 0 0 (fun q : Nat => s.heap.size ≤ q)) (F0 m 100 ls [.int y9, .int (hPos ((hQt fst i q) - (hK' (fst (20 + 3 * b)))))]) := by
          intro y9 H locs hcut hP hS ls hl
          subst hcut
          refine lv_iadd hx hb dX11_harmOf_100 ?_
          refine lv_iload hx hb dX11_harmOf_101 (lv_at hl 2 rfl) ?_
          refine lv_iconst (v := 2) hx hb dX11_harmOf_103 (by decide) ?_
          have cut126_12 : ∀ (y11 : Int32) (H : Heap) (locs : List Loc), y11 = hTr (fst (20 + 3 * b)) (fst (2 * i + 1)) → va_P (dC, dI) vwCl [(h0, .inr (11, [.ref st, .int (nI N), .int (nI B), .ref rp, .int vrs, .int vrb, .int vhs, .int vca, .int vxs, .int vxb, .ref tp, .int (nI T), .int vfa, .int vbr, .int vba, .int vsp, .int vhe, .int vtk, .int vva, .ref cu, .ref lt, .ref od, .ref th, .ref be, .ref ln, .int (nI S), .ref ma, .int (nI M), .ref ah, .ref bh, .ref ik, .ref la, .ref lg, .ref ce, .int vto])), (st, .inl (G 0, 196, .inl fst))] H → va_S (fun q : Nat => s.heap.size ≤ q) s.heap H locs → ∀ (ls : Array Slot), lv_has ls 10 [(7, .int ((fst ((2 * i) + 1)) - (fst ((20 + (3 * b)) + 2)))), (6, .int ((hQt fst i q) - (hK' (fst (20 + 3 * b))))), (5, .int (fst (20 + 3 * b))), (0, .ref h0), (1, .int (nI i)), (2, .int (nI a)), (3, .int (nI b)), (4, .int q)] → W p l e (headSpec (Cond.code yX11_harmOf cX11_harmOf 10 (some .int) :: GT) ({ frames := 1, cells := 0, slots := 0, locals := 21 } : Room)).room s m ([.ref h0, .int (nI i), .int (nI a), .int (nI b), .int q] : List Value).toArray below meth c H locs 0 0 (MQ below (va_Qi (fun (r : Int32) (u : Unit) => match u with | _ => (r = rhB fst i a b q) ∧ True) (fun _ _ => True) (fun q : Nat => s.heap.size ≤ q)) ([.ref h0, .int (nI i), .int (nI a), .int (nI b), .int q] : List Value).toArray s 0 0 (fun q : Nat => s.heap.size ≤ q)) (F0 m 126 ls [.int y11, .int ((hPos ((hQt fst i q) - (hK' (fst (20 + 3 * b))))) + (hPos ((fst ((2 * i) + 1)) - (fst ((20 + (3 * b)) + 2)))))]) := by
            intro y11 H locs hcut hP hS ls hl
            subst hcut
            refine lv_iadd hx hb dX11_harmOf_126 ?_
            refine lv_istore (lv' := [(8, .int (((hPos ((hQt fst i q) - (hK' (fst (20 + 3 * b))))) + (hPos ((fst ((2 * i) + 1)) - (fst ((20 + (3 * b)) + 2))))) + (hTr (fst (20 + 3 * b)) (fst (2 * i + 1))))), (7, .int ((fst ((2 * i) + 1)) - (fst ((20 + (3 * b)) + 2)))), (6, .int ((hQt fst i q) - (hK' (fst (20 + 3 * b))))), (5, .int (fst (20 + 3 * b))), (0, .ref h0), (1, .int (nI i)), (2, .int (nI a)), (3, .int (nI b)), (4, .int q)]) hx hb dX11_harmOf_127 hl (by decide) rfl (fun ls hl => ?_)
            refine lv_iload_n hx hb dX11_harmOf_129 rfl (lv_at hl 6 rfl) ?_
            refine lv_bipush (v := (-4)) hx hb dX11_harmOf_130 (by decide) ?_
            have cut219_14 : ∀ (y13 : Int32) (H : Heap) (locs : List Loc), y13 = (if a = b ∨ (fst (20 + 3 * b) = 4 ∧ fst (20 + 3 * a) = 4) then rhS fst i b q else rhS fst i b q + hJo (fst (20 + 3 * b)) (hAbs (fst (20 + 3 * a + 1) - fst (20 + 3 * b + 1)))) → va_P (dC, dI) vwCl [(h0, .inr (11, [.ref st, .int (nI N), .int (nI B), .ref rp, .int vrs, .int vrb, .int vhs, .int vca, .int vxs, .int vxb, .ref tp, .int (nI T), .int vfa, .int vbr, .int vba, .int vsp, .int vhe, .int vtk, .int vva, .ref cu, .ref lt, .ref od, .ref th, .ref be, .ref ln, .int (nI S), .ref ma, .int (nI M), .ref ah, .ref bh, .ref ik, .ref la, .ref lg, .ref ce, .int vto])), (st, .inl (G 0, 196, .inl fst))] H → va_S (fun q : Nat => s.heap.size ≤ q) s.heap H locs → ∀ (ls : Array Slot), lv_has ls 10 [(8, .int y13), (7, .int ((fst ((2 * i) + 1)) - (fst ((20 + (3 * b)) + 2)))), (6, .int ((hQt fst i q) - (hK' (fst (20 + 3 * b))))), (5, .int (fst (20 + 3 * b))), (0, .ref h0), (1, .int (nI i)), (2, .int (nI a)), (3, .int (nI b)), (4, .int q)] → W p l e (headSpec (Cond.code yX11_harmOf cX11_harmOf 10 (some .int) :: GT) ({ frames := 1, cells := 0, slots := 0, locals := 21 } : Room)).room s m ([.ref h0, .int (nI i), .int (nI a), .int (nI b), .int q] : List Value).toArray below meth c H locs 0 0 (MQ below (va_Qi (fun (r : Int32) (u : Unit) => match u with | _ => (r = rhB fst i a b q) ∧ True) (fun _ _ => True) (fun q : Nat => s.heap.size ≤ q)) ([.ref h0, .int (nI i), .int (nI a), .int (nI b), .int q] : List Value).toArray s 0 0 (fun q : Nat => s.heap.size ≤ q)) (F0 m 219 ls []) := by
              intro y13 H locs hcut hP hS ls hl
              subst hcut
              refine lv_iload hx hb dX11_harmOf_219 (lv_at hl 0 rfl) ?_
              refine lv_bipush (v := 20) hx hb dX11_harmOf_221 (by decide) ?_
              refine lv_icmp_le (tgt := 231) hx hb dX11_harmOf_223 (by decide) (fun c15 => ?_) (fun c15 => ?_)
              · skip
                refine lv_iload hx hb dX11_harmOf_231 (lv_at hl 0 rfl) ?_
                have hpost : ((if a = b ∨ (fst (20 + 3 * b) = 4 ∧ fst (20 + 3 * a) = 4) then rhS fst i b q else rhS fst i b q + hJo (fst (20 + 3 * b)) (hAbs (fst (20 + 3 * a + 1) - fst (20 + 3 * b + 1)))) : Int32) = rhB fst i a b q := by
                  unfold rhB hTop
                  first | exact (if_pos (by assumption)).symm | exact (if_neg (by assumption)).symm
                refine W.widen (k := 0) (n := 0) (Nat.le_of_ble_eq_true rfl) (Nat.le_of_ble_eq_true rfl) ?_
                exact W.iret (v := (if a = b ∨ (fst (20 + 3 * b) = 4 ∧ fst (20 + 3 * a) = 4) then rhS fst i b q else rhS fst i b q + hJo (fst (20 + 3 * b)) (hAbs (fst (20 + 3 * a + 1) - fst (20 + 3 * b + 1))))) hx hb hr (fun t ht hW => ⟨⟨(if a = b ∨ (fst (20 + 3 * b) = 4 ∧ fst (20 + 3 * a) = 4) then rhS fst i b q else rhS fst i b q + hJo (fst (20 + 3 * b)) (hAbs (fst (20 + 3 * a + 1) - fst (20 + 3 * b + 1)))), (), rfl, ⟨hpost, trivial⟩, trivial⟩, hS.F ht⟩) hS.2.2 dX11_harmOf_233
              · skip
                refine lv_bipush (v := 20) hx hb dX11_harmOf_226 (by decide) ?_
                refine lv_goto (tgt := 233) hx hb dX11_harmOf_228 (by decide) ?_
                have hpost : (20 : Int32) = rhB fst i a b q := by
                  unfold rhB hTop
                  first | exact (if_pos (by assumption)).symm | exact (if_neg (by assumption)).symm
                refine W.widen (k := 0) (n := 0) (Nat.le_of_ble_eq_true rfl) (Nat.le_of_ble_eq_true rfl) ?_
                exact W.iret (v := 20) hx hb hr (fun t ht hW => ⟨⟨20, (), rfl, ⟨hpost, trivial⟩, trivial⟩, hS.F ht⟩) hS.2.2 dX11_harmOf_233
            refine lv_icmp_eq (tgt := 219) hx hb dX11_harmOf_132 (by decide) (fun c16 => ?_) (fun c16 => ?_)
            · skip
              have t_c16 := eqI c16
              have : ((-4) : Int32).toInt = -4 := qI_m4
              have t_n0 : (nI i).toInt = (i : Int) := tn892_ ()
              have t_n1 : (nI a).toInt = (a : Int) := tn893_ ()
              have t_n2 : (nI b).toInt = (b : Int) := tn894_ ()
              have t_n3 : (nI N).toInt = (N : Int) := tn895_ ()
              have t_n4 : (nI B).toInt = (B : Int) := tn896_ ()
              have t_n5 : (nI T).toInt = (T : Int) := tn897_ ()
              have t_n6 : (nI S).toInt = (S : Int) := tn898_ ()
              have t_n7 : (nI M).toInt = (M : Int) := tn899_ ()
              exfalso; omega
            · skip
              refine lv_iload_n hx hb dX11_harmOf_135 rfl (lv_at hl 6 rfl) ?_
              refine lv_iload_n hx hb dX11_harmOf_136 rfl (lv_at hl 7 rfl) ?_
              refine lv_icmp_eq (tgt := 219) hx hb dX11_harmOf_137 (by decide) (fun c17 => ?_) (fun c17 => ?_)
              · skip
                have n18 : a = b := by have t := eqI c17; rw [show (nI (a)).toInt = ((a : Nat) : Int) from tn893_ ()] at t; rw [show (nI (b)).toInt = ((b : Nat) : Int) from tn894_ ()] at t; omega
                exact cut219_14 (((hPos ((hQt fst i q) - (hK' (fst (20 + 3 * b))))) + (hPos ((fst ((2 * i) + 1)) - (fst ((20 + (3 * b)) + 2))))) + (hTr (fst (20 + 3 * b)) (fst (2 * i + 1)))) _ _ (by first | (have h9 : (a = b ∨ (fst (20 + 3 * b) = 4 ∧ fst (20 + 3 * a) = 4)) := Or.inl (by omega); rw [if_pos h9]; rfl) | (have h9 : (a = b ∨ (fst (20 + 3 * b) = 4 ∧ fst (20 + 3 * a) = 4)) := Or.inr ⟨by assumption, by assumption⟩; rw [if_pos h9]; rfl) | (have h9 : ¬ (a = b ∨ (fst (20 + 3 * b) = 4 ∧ fst (20 + 3 * a) = 4)) := (fun h9 => h9.elim (fun h8 => absurd h8 (by omega)) (fun h8 => absurd h8.1 (by assumption))); rw [if_neg h9]; first | rfl | (unfold hJo; rw [if_neg (by assumption)]; rfl)) | (have h9 : ¬ (a = b ∨ (fst (20 + 3 * b) = 4 ∧ fst (20 + 3 * a) = 4)) := (fun h9 => h9.elim (fun h8 => absurd h8 (by omega)) (fun h8 => absurd h8.2 (by assumption))); rw [if_neg h9]; first | rfl | (unfold hJo; rw [if_neg (by assumption)]; rfl))) hP hS ls (lv_sub hl [0, 1, 2, 3, 4, 5, 6, 7, 8] rfl)
              · skip
                have n19 : a ≠ b := by have t := neI c17; rw [show (nI (a)).toInt = ((a : Nat) : Int) from tn893_ ()] at t; rw [show (nI (b)).toInt = ((b : Nat) : Int) from tn894_ ()] at t; omega
                refine lv_iload hx hb dX11_harmOf_140 (lv_at hl 3 rfl) ?_
                refine lv_iconst (v := 4) hx hb dX11_harmOf_142 (by decide) ?_
                refine lv_icmp_ne (tgt := 155) hx hb dX11_harmOf_143 (by decide) (fun c20 => ?_) (fun c20 => ?_)
                · skip
                  refine lv_aload_n hx hb dX11_harmOf_155 rfl (lv_at hl 4 rfl) ?_
                  refine va_get (D := (dC, dI)) (ci := 11) (v := .ref st) (C := RX11) (T := TX11) (N := 35) hx hb hg inG11 hown hK.1 hP 0 rfl rfl 0 (by decide) (hg _ wt_878) (fun _ h9 => h9) rfl dX11_harmOf_156 ?_
                  refine lv_bipush (v := 20) hx hb dX11_harmOf_159 (by decide) ?_
                  refine lv_iconst (v := 3) hx hb dX11_harmOf_161 (by decide) ?_
                  refine lv_iload_n hx hb dX11_harmOf_162 rfl (lv_at hl 6 rfl) ?_
                  refine lv_imul hx hb dX11_harmOf_163 ?_
                  refine lv_cg (y := nI (3 * a)) (by rw [show (3 : Int32) = nI 3 from rfl]; exact pk_mul _ _) ?_
                  refine lv_iadd hx hb dX11_harmOf_164 ?_
                  refine lv_cg (y := nI (20 + (3 * a))) (by rw [show (20 : Int32) = nI 20 from rfl]; exact nI_add _ _) ?_
                  refine lv_iconst (v := 1) hx hb dX11_harmOf_165 (by decide) ?_
                  refine lv_iadd hx hb dX11_harmOf_166 ?_
                  refine lv_cg (y := nI ((20 + (3 * a)) + 1)) (by rw [show (1 : Int32) = nI 1 from rfl]; exact nI_add _ _) ?_
                  refine va_iald hx hb hK.1 hP 1 0 rfl rfl (vp_in_nI (by first | omega | (have t_c16 := neI c16; have t_n19 := n19; have t_c20 := neI c20; have : ((-4) : Int32).toInt = -4 := qI_m4; have : (4 : Int32).toInt = 4 := qI_4; have t_n0 : (nI i).toInt = (i : Int) := tn892_ (); have t_n1 : (nI a).toInt = (a : Int) := tn893_ (); have t_n2 : (nI b).toInt = (b : Int) := tn894_ (); have t_n3 : (nI N).toInt = (N : Int) := tn895_ (); have t_n4 : (nI B).toInt = (B : Int) := tn896_ (); have t_n5 : (nI T).toInt = (T : Int) := tn897_ (); have t_n6 : (nI S).toInt = (S : Int) := tn898_ (); have t_n7 : (nI M).toInt = (M : Int) := tn899_ (); omega)) (by decide)) dX11_harmOf_167 ?_
                  refine lv_cg (y := fst ((20 + (3 * a)) + 1)) (by rw [nI_clamp (by omega)]) ?_
                  refine lv_aload_n hx hb dX11_harmOf_168 rfl (lv_at hl 4 rfl) ?_
                  refine va_get (D := (dC, dI)) (ci := 11) (v := .ref st) (C := RX11) (T := TX11) (N := 35) hx hb hg inG11 hown hK.1 hP 0 rfl rfl 0 (by decide) (hg _ wt_878) (fun _ h9 => h9) rfl dX11_harmOf_169 ?_
                  refine lv_bipush (v := 20) hx hb dX11_harmOf_172 (by decide) ?_
                  refine lv_iconst (v := 3) hx hb dX11_harmOf_174 (by decide) ?_
                  refine lv_iload_n hx hb dX11_harmOf_175 rfl (lv_at hl 7 rfl) ?_
                  refine lv_imul hx hb dX11_harmOf_176 ?_
                  refine lv_cg (y := nI (3 * b)) (by rw [show (3 : Int32) = nI 3 from rfl]; exact pk_mul _ _) ?_
                  refine lv_iadd hx hb dX11_harmOf_177 ?_
                  refine lv_cg (y := nI (20 + (3 * b))) (by rw [show (20 : Int32) = nI 20 from rfl]; exact nI_add _ _) ?_
                  refine lv_iconst (v := 1) hx hb dX11_harmOf_178 (by decide) ?_
                  refine lv_iadd hx hb dX11_harmOf_179 ?_
                  refine lv_cg (y := nI ((20 + (3 * b)) + 1)) (by rw [show (1 : Int32) = nI 1 from rfl]; exact nI_add _ _) ?_
                  refine va_iald hx hb hK.1 hP 1 0 rfl rfl (vp_in_nI (by first | omega | (have t_c16 := neI c16; have t_n19 := n19; have t_c20 := neI c20; have : ((-4) : Int32).toInt = -4 := qI_m4; have : (4 : Int32).toInt = 4 := qI_4; have t_n0 : (nI i).toInt = (i : Int) := tn892_ (); have t_n1 : (nI a).toInt = (a : Int) := tn893_ (); have t_n2 : (nI b).toInt = (b : Int) := tn894_ (); have t_n3 : (nI N).toInt = (N : Int) := tn895_ (); have t_n4 : (nI B).toInt = (B : Int) := tn896_ (); have t_n5 : (nI T).toInt = (T : Int) := tn897_ (); have t_n6 : (nI S).toInt = (S : Int) := tn898_ (); have t_n7 : (nI M).toInt = (M : Int) := tn899_ (); omega)) (by decide)) dX11_harmOf_180 ?_
                  refine lv_cg (y := fst ((20 + (3 * b)) + 1)) (by rw [nI_clamp (by omega)]) ?_
                  refine lv_isub hx hb dX11_harmOf_181 ?_
                  refine lv_istore (lv' := [(9, .int ((fst ((20 + (3 * a)) + 1)) - (fst ((20 + (3 * b)) + 1)))), (8, .int (((hPos ((hQt fst i q) - (hK' (fst (20 + 3 * b))))) + (hPos ((fst ((2 * i) + 1)) - (fst ((20 + (3 * b)) + 2))))) + (hTr (fst (20 + 3 * b)) (fst (2 * i + 1))))), (7, .int ((fst ((2 * i) + 1)) - (fst ((20 + (3 * b)) + 2)))), (6, .int ((hQt fst i q) - (hK' (fst (20 + 3 * b))))), (5, .int (fst (20 + 3 * b))), (0, .ref h0), (1, .int (nI i)), (2, .int (nI a)), (3, .int (nI b)), (4, .int q)]) hx hb dX11_harmOf_182 hl (by decide) rfl (fun ls hl => ?_)
                  refine lv_iload hx hb dX11_harmOf_184 (lv_at hl 0 rfl) ?_
                  have cut197_22 : ∀ (y21 : Int32) (H : Heap) (locs : List Loc), y21 = hAbs ((fst ((20 + (3 * a)) + 1)) - (fst ((20 + (3 * b)) + 1))) → va_P (dC, dI) vwCl [(h0, .inr (11, [.ref st, .int (nI N), .int (nI B), .ref rp, .int vrs, .int vrb, .int vhs, .int vca, .int vxs, .int vxb, .ref tp, .int (nI T), .int vfa, .int vbr, .int vba, .int vsp, .int vhe, .int vtk, .int vva, .ref cu, .ref lt, .ref od, .ref th, .ref be, .ref ln, .int (nI S), .ref ma, .int (nI M), .ref ah, .ref bh, .ref ik, .ref la, .ref lg, .ref ce, .int vto])), (st, .inl (G 0, 196, .inl fst))] H → va_S (fun q : Nat => s.heap.size ≤ q) s.heap H locs → ∀ (ls : Array Slot), lv_has ls 10 [(9, .int ((fst ((20 + (3 * a)) + 1)) - (fst ((20 + (3 * b)) + 1)))), (8, .int (((hPos ((hQt fst i q) - (hK' (fst (20 + 3 * b))))) + (hPos ((fst ((2 * i) + 1)) - (fst ((20 + (3 * b)) + 2))))) + (hTr (fst (20 + 3 * b)) (fst (2 * i + 1))))), (7, .int ((fst ((2 * i) + 1)) - (fst ((20 + (3 * b)) + 2)))), (6, .int ((hQt fst i q) - (hK' (fst (20 + 3 * b))))), (5, .int (fst (20 + 3 * b))), (0, .ref h0), (1, .int (nI i)), (2, .int (nI a)), (3, .int (nI b)), (4, .int q)] → W p l e (headSpec (Cond.code yX11_harmOf cX11_harmOf 10 (some .int) :: GT) ({ frames := 1, cells := 0, slots := 0, locals := 21 } : Room)).room s m ([.ref h0, .int (nI i), .int (nI a), .int (nI b), .int q] : List Value).toArray below meth c H locs 0 0 (MQ below (va_Qi (fun (r : Int32) (u : Unit) => match u with | _ => (r = rhB fst i a b q) ∧ True) (fun _ _ => True) (fun q : Nat => s.heap.size ≤ q)) ([.ref h0, .int (nI i), .int (nI a), .int (nI b), .int q] : List Value).toArray s 0 0 (fun q : Nat => s.heap.size ≤ q)) (F0 m 197 ls [.int y21]) := by
                    intro y21 H locs hcut hP hS ls hl
                    subst hcut
                    refine lv_istore (lv' := [(9, .int (hAbs ((fst ((20 + (3 * a)) + 1)) - (fst ((20 + (3 * b)) + 1))))), (8, .int (((hPos ((hQt fst i q) - (hK' (fst (20 + 3 * b))))) + (hPos ((fst ((2 * i) + 1)) - (fst ((20 + (3 * b)) + 2))))) + (hTr (fst (20 + 3 * b)) (fst (2 * i + 1))))), (7, .int ((fst ((2 * i) + 1)) - (fst ((20 + (3 * b)) + 2)))), (6, .int ((hQt fst i q) - (hK' (fst (20 + 3 * b))))), (5, .int (fst (20 + 3 * b))), (0, .ref h0), (1, .int (nI i)), (2, .int (nI a)), (3, .int (nI b)), (4, .int q)]) hx hb dX11_harmOf_197 hl (by decide) rfl (fun ls hl => ?_)
                    refine lv_iload hx hb dX11_harmOf_199 (lv_at hl 1 rfl) ?_
                    refine lv_iload hx hb dX11_harmOf_201 (lv_at hl 4 rfl) ?_
                    refine lv_iconst (v := 5) hx hb dX11_harmOf_203 (by decide) ?_
                    have cut216_24 : ∀ (y23 : Int32) (H : Heap) (locs : List Loc), y23 = hJo (fst (20 + 3 * b)) (hAbs ((fst ((20 + (3 * a)) + 1)) - (fst ((20 + (3 * b)) + 1)))) → va_P (dC, dI) vwCl [(h0, .inr (11, [.ref st, .int (nI N), .int (nI B), .ref rp, .int vrs, .int vrb, .int vhs, .int vca, .int vxs, .int vxb, .ref tp, .int (nI T), .int vfa, .int vbr, .int vba, .int vsp, .int vhe, .int vtk, .int vva, .ref cu, .ref lt, .ref od, .ref th, .ref be, .ref ln, .int (nI S), .ref ma, .int (nI M), .ref ah, .ref bh, .ref ik, .ref la, .ref lg, .ref ce, .int vto])), (st, .inl (G 0, 196, .inl fst))] H → va_S (fun q : Nat => s.heap.size ≤ q) s.heap H locs → ∀ (ls : Array Slot), lv_has ls 10 [(9, .int (hAbs ((fst ((20 + (3 * a)) + 1)) - (fst ((20 + (3 * b)) + 1))))), (8, .int (((hPos ((hQt fst i q) - (hK' (fst (20 + 3 * b))))) + (hPos ((fst ((2 * i) + 1)) - (fst ((20 + (3 * b)) + 2))))) + (hTr (fst (20 + 3 * b)) (fst (2 * i + 1))))), (7, .int ((fst ((2 * i) + 1)) - (fst ((20 + (3 * b)) + 2)))), (6, .int ((hQt fst i q) - (hK' (fst (20 + 3 * b))))), (5, .int (fst (20 + 3 * b))), (0, .ref h0), (1, .int (nI i)), (2, .int (nI a)), (3, .int (nI b)), (4, .int q)] → W p l e (headSpec (Cond.code yX11_harmOf cX11_harmOf 10 (some .int) :: GT) ({ frames := 1, cells := 0, slots := 0, locals := 21 } : Room)).room s m ([.ref h0, .int (nI i), .int (nI a), .int (nI b), .int q] : List Value).toArray below meth c H locs 0 0 (MQ below (va_Qi (fun (r : Int32) (u : Unit) => match u with | _ => (r = rhB fst i a b q) ∧ True) (fun _ _ => True) (fun q : Nat => s.heap.size ≤ q)) ([.ref h0, .int (nI i), .int (nI a), .int (nI b), .int q] : List Value).toArray s 0 0 (fun q : Nat => s.heap.size ≤ q)) (F0 m 216 ls [.int y23, .int (((hPos ((hQt fst i q) - (hK' (fst (20 + 3 * b))))) + (hPos ((fst ((2 * i) + 1)) - (fst ((20 + (3 * b)) + 2))))) + (hTr (fst (20 + 3 * b)) (fst (2 * i + 1))))]) := by
                      intro y23 H locs hcut hP hS ls hl
                      subst hcut
                      refine lv_iadd hx hb dX11_harmOf_216 ?_
                      refine lv_istore (lv' := [(8, .int ((((hPos ((hQt fst i q) - (hK' (fst (20 + 3 * b))))) + (hPos ((fst ((2 * i) + 1)) - (fst ((20 + (3 * b)) + 2))))) + (hTr (fst (20 + 3 * b)) (fst (2 * i + 1)))) + (hJo (fst (20 + 3 * b)) (hAbs ((fst ((20 + (3 * a)) + 1)) - (fst ((20 + (3 * b)) + 1))))))), (9, .int (hAbs ((fst ((20 + (3 * a)) + 1)) - (fst ((20 + (3 * b)) + 1))))), (7, .int ((fst ((2 * i) + 1)) - (fst ((20 + (3 * b)) + 2)))), (6, .int ((hQt fst i q) - (hK' (fst (20 + 3 * b))))), (5, .int (fst (20 + 3 * b))), (0, .ref h0), (1, .int (nI i)), (2, .int (nI a)), (3, .int (nI b)), (4, .int q)]) hx hb dX11_harmOf_217 hl (by decide) rfl (fun ls hl => ?_)
                      exact cut219_14 ((((hPos ((hQt fst i q) - (hK' (fst (20 + 3 * b))))) + (hPos ((fst ((2 * i) + 1)) - (fst ((20 + (3 * b)) + 2))))) + (hTr (fst (20 + 3 * b)) (fst (2 * i + 1)))) + (hJo (fst (20 + 3 * b)) (hAbs ((fst ((20 + (3 * a)) + 1)) - (fst ((20 + (3 * b)) + 1)))))) _ _ (by first | (have h9 : (a = b ∨ (fst (20 + 3 * b) = 4 ∧ fst (20 + 3 * a) = 4)) := Or.inl (by omega); rw [if_pos h9]; rfl) | (have h9 : (a = b ∨ (fst (20 + 3 * b) = 4 ∧ fst (20 + 3 * a) = 4)) := Or.inr ⟨by assumption, by assumption⟩; rw [if_pos h9]; rfl) | (have h9 : ¬ (a = b ∨ (fst (20 + 3 * b) = 4 ∧ fst (20 + 3 * a) = 4)) := (fun h9 => h9.elim (fun h8 => absurd h8 (by omega)) (fun h8 => absurd h8.1 (by assumption))); rw [if_neg h9]; first | rfl | (unfold hJo; rw [if_neg (by assumption)]; rfl)) | (have h9 : ¬ (a = b ∨ (fst (20 + 3 * b) = 4 ∧ fst (20 + 3 * a) = 4)) := (fun h9 => h9.elim (fun h8 => absurd h8 (by omega)) (fun h8 => absurd h8.2 (by assumption))); rw [if_neg h9]; first | rfl | (unfold hJo; rw [if_neg (by assumption)]; rfl))) hP hS ls (lv_sub hl [0, 2, 3, 4, 5, 6, 7, 8, 9] rfl)
                    refine lv_icmp_ne (tgt := 214) hx hb dX11_harmOf_204 (by decide) (fun c25 => ?_) (fun c25 => ?_)
                    · skip
                      refine lv_iload hx hb dX11_harmOf_214 (lv_at hl 0 rfl) ?_
                      exact cut216_24 (hAbs ((fst ((20 + (3 * a)) + 1)) - (fst ((20 + (3 * b)) + 1)))) _ _ (by first | exact (if_pos (by assumption)).symm | exact (if_neg (by assumption)).symm | exact ((if_neg (by assumption)).trans (if_pos (by assumption))).symm | exact ((if_neg (by assumption)).trans (if_neg (by assumption))).symm | exact (if_pos ⟨by assumption, by assumption⟩).symm | exact (if_neg (fun h9 => absurd h9.1 (by assumption))).symm | exact (if_neg (fun h9 => h9.2 (by assumption))).symm) hP hS ls (lv_sub hl [0, 1, 2, 3, 4, 5, 6, 7, 8, 9] rfl)
                    · skip
                      refine lv_iload hx hb dX11_harmOf_207 (lv_at hl 0 rfl) ?_
                      refine lv_iconst (v := 2) hx hb dX11_harmOf_209 (by decide) ?_
                      refine lv_idiv hx hb dX11_harmOf_210 (by decide) ?_
                      refine lv_goto (tgt := 216) hx hb dX11_harmOf_211 (by decide) ?_
                      exact cut216_24 ((hAbs ((fst ((20 + (3 * a)) + 1)) - (fst ((20 + (3 * b)) + 1)))) / 2) _ _ (by first | exact (if_pos (by assumption)).symm | exact (if_neg (by assumption)).symm | exact ((if_neg (by assumption)).trans (if_pos (by assumption))).symm | exact ((if_neg (by assumption)).trans (if_neg (by assumption))).symm | exact (if_pos ⟨by assumption, by assumption⟩).symm | exact (if_neg (fun h9 => absurd h9.1 (by assumption))).symm | exact (if_neg (fun h9 => h9.2 (by assumption))).symm) hP hS ls (lv_sub hl [0, 1, 2, 3, 4, 5, 6, 7, 8, 9] rfl)
                  refine lv_if_ge (tgt := 195) hx hb dX11_harmOf_186 (by decide) (fun c26 => ?_) (fun c26 => ?_)
                  · skip
                    refine lv_iload hx hb dX11_harmOf_195 (lv_at hl 0 rfl) ?_
                    exact cut197_22 ((fst ((20 + (3 * a)) + 1)) - (fst ((20 + (3 * b)) + 1))) _ _ (by first | exact (if_pos (by assumption)).symm | exact (if_neg (by assumption)).symm | exact ((if_neg (by assumption)).trans (if_pos (by assumption))).symm | exact ((if_neg (by assumption)).trans (if_neg (by assumption))).symm | exact (if_pos ⟨by assumption, by assumption⟩).symm | exact (if_neg (fun h9 => absurd h9.1 (by assumption))).symm | exact (if_neg (fun h9 => h9.2 (by assumption))).symm) hP hS ls (lv_sub hl [0, 1, 2, 3, 4, 5, 6, 7, 8, 9] rfl)
                  · skip
                    refine lv_iload hx hb dX11_harmOf_189 (lv_at hl 0 rfl) ?_
                    refine lv_ineg hx hb dX11_harmOf_191 ?_
                    refine lv_goto (tgt := 197) hx hb dX11_harmOf_192 (by decide) ?_
                    exact cut197_22 (-((fst ((20 + (3 * a)) + 1)) - (fst ((20 + (3 * b)) + 1)))) _ _ (by first | exact (if_pos (by assumption)).symm | exact (if_neg (by assumption)).symm | exact ((if_neg (by assumption)).trans (if_pos (by assumption))).symm | exact ((if_neg (by assumption)).trans (if_neg (by assumption))).symm | exact (if_pos ⟨by assumption, by assumption⟩).symm | exact (if_neg (fun h9 => absurd h9.1 (by assumption))).symm | exact (if_neg (fun h9 => h9.2 (by assumption))).symm) hP hS ls (lv_sub hl [0, 1, 2, 3, 4, 5, 6, 7, 8, 9] rfl)
                · skip
                  refine lv_aload_n hx hb dX11_harmOf_146 rfl (lv_at hl 4 rfl) ?_
                  refine lv_iload_n hx hb dX11_harmOf_147 rfl (lv_at hl 6 rfl) ?_
                  have hPc := hP.sub (ws' := [(h0, .inr (11, [.ref st, .int (nI N), .int (nI B), .ref rp, .int vrs, .int vrb, .int vhs, .int vca, .int vxs, .int vxb, .ref tp, .int (nI T), .int vfa, .int vbr, .int vba, .int vsp, .int vhe, .int vtk, .int vva, .ref cu, .ref lt, .ref od, .ref th, .ref be, .ref ln, .int (nI S), .ref ma, .int (nI M), .ref ah, .ref bh, .ref ik, .ref la, .ref lg, .ref ce, .int vto])), (st, .inl (G 0, 196, .inl fst))]) [0, 1] rfl
                  refine va_calli (va_runV (As := [.int (nI a)]) (rest := []) ⟨hx, hb, hml, hown, hg⟩ (c_X11_kindOf l dC dI G _ h0 a st N B rp tp T cu lt od th be ln S ma M ah bh ik la lg ce vrs vrb vhs vca vxs vxb vfa vbr vba vsp vhe vtk vva vto fst hN hB_ hT_ hS0 hM_ hka) (kwV hg mfX11_kindOf wt_1110 ⟨Nat.le_of_ble_eq_true rfl, Nat.le_of_ble_eq_true rfl⟩) (preVR hK hPc (ci := 11) rfl rfl) rfl rfl hl.1 rfl (lv_room (Nat.le_of_ble_eq_true rfl)) dX11_harmOf_148 ⟨Nat.le_of_ble_eq_true rfl, Nat.le_of_ble_eq_true rfl⟩) hS (fun q h1 h2 => absurd h2 (Nat.not_le.mpr h1)) (fun q h => hA q (Nat.le_trans hS.1 h)) (fun r27 ur27 t H1 locs ht hvm w28 hB hz1 hk1 hS => ?_)
                  have hP := keepR hP hk1
                  obtain ⟨w28, w28x⟩ := w28
                  subst w28
                  refine lv_iconst (v := 4) hx hb dX11_harmOf_151 (by decide) ?_
                  refine lv_icmp_eq (tgt := 219) hx hb dX11_harmOf_152 (by decide) (fun c29 => ?_) (fun c29 => ?_)
                  · skip
                    exact cut219_14 (((hPos ((hQt fst i q) - (hK' (fst (20 + 3 * b))))) + (hPos ((fst ((2 * i) + 1)) - (fst ((20 + (3 * b)) + 2))))) + (hTr (fst (20 + 3 * b)) (fst (2 * i + 1)))) _ _ (by first | (have h9 : (a = b ∨ (fst (20 + 3 * b) = 4 ∧ fst (20 + 3 * a) = 4)) := Or.inl (by omega); rw [if_pos h9]; rfl) | (have h9 : (a = b ∨ (fst (20 + 3 * b) = 4 ∧ fst (20 + 3 * a) = 4)) := Or.inr ⟨by assumption, by assumption⟩; rw [if_pos h9]; rfl) | (have h9 : ¬ (a = b ∨ (fst (20 + 3 * b) = 4 ∧ fst (20 + 3 * a) = 4)) := (fun h9 => h9.elim (fun h8 => absurd h8 (by omega)) (fun h8 => absurd h8.1 (by assumption))); rw [if_neg h9]; first | rfl | (unfold hJo; rw [if_neg (by assumption)]; rfl)) | (have h9 : ¬ (a = b ∨ (fst (20 + 3 * b) = 4 ∧ fst (20 + 3 * a) = 4)) := (fun h9 => h9.elim (fun h8 => absurd h8 (by omega)) (fun h8 => absurd h8.2 (by assumption))); rw [if_neg h9]; first | rfl | (unfold hJo; rw [if_neg (by assumption)]; rfl))) hP hS ls (lv_sub hl [0, 1, 2, 3, 4, 5, 6, 7, 8] rfl)
                  · skip
                    refine lv_aload_n hx hb dX11_harmOf_155 rfl (lv_at hl 4 rfl) ?_
                    refine va_get (D := (dC, dI)) (ci := 11) (v := .ref st) (C := RX11) (T := TX11) (N := 35) hx hb hg inG11 hown hK.1 hP 0 rfl rfl 0 (by decide) (hg _ wt_878) (fun _ h9 => h9) rfl dX11_harmOf_156 ?_
                    refine lv_bipush (v := 20) hx hb dX11_harmOf_159 (by decide) ?_
                    refine lv_iconst (v := 3) hx hb dX11_harmOf_161 (by decide) ?_
                    refine lv_iload_n hx hb dX11_harmOf_162 rfl (lv_at hl 6 rfl) ?_
                    refine lv_imul hx hb dX11_harmOf_163 ?_
                    refine lv_cg (y := nI (3 * a)) (by rw [show (3 : Int32) = nI 3 from rfl]; exact pk_mul _ _) ?_
                    refine lv_iadd hx hb dX11_harmOf_164 ?_
                    refine lv_cg (y := nI (20 + (3 * a))) (by rw [show (20 : Int32) = nI 20 from rfl]; exact nI_add _ _) ?_
                    refine lv_iconst (v := 1) hx hb dX11_harmOf_165 (by decide) ?_
                    refine lv_iadd hx hb dX11_harmOf_166 ?_
                    refine lv_cg (y := nI ((20 + (3 * a)) + 1)) (by rw [show (1 : Int32) = nI 1 from rfl]; exact nI_add _ _) ?_
                    refine va_iald hx hb hK.1 hP 1 0 rfl rfl (vp_in_nI (by first | omega | (have t_c16 := neI c16; have t_n19 := n19; have t_c20 := eqI c20; have t_c29 := neI c29; have : ((-4) : Int32).toInt = -4 := qI_m4; have : (4 : Int32).toInt = 4 := qI_4; have t_n0 : (nI i).toInt = (i : Int) := tn892_ (); have t_n1 : (nI a).toInt = (a : Int) := tn893_ (); have t_n2 : (nI b).toInt = (b : Int) := tn894_ (); have t_n3 : (nI N).toInt = (N : Int) := tn895_ (); have t_n4 : (nI B).toInt = (B : Int) := tn896_ (); have t_n5 : (nI T).toInt = (T : Int) := tn897_ (); have t_n6 : (nI S).toInt = (S : Int) := tn898_ (); have t_n7 : (nI M).toInt = (M : Int) := tn899_ (); omega)) (by decide)) dX11_harmOf_167 ?_
                    refine lv_cg (y := fst ((20 + (3 * a)) + 1)) (by rw [nI_clamp (by omega)]) ?_
                    refine lv_aload_n hx hb dX11_harmOf_168 rfl (lv_at hl 4 rfl) ?_
                    refine va_get (D := (dC, dI)) (ci := 11) (v := .ref st) (C := RX11) (T := TX11) (N := 35) hx hb hg inG11 hown hK.1 hP 0 rfl rfl 0 (by decide) (hg _ wt_878) (fun _ h9 => h9) rfl dX11_harmOf_169 ?_
                    refine lv_bipush (v := 20) hx hb dX11_harmOf_172 (by decide) ?_
                    refine lv_iconst (v := 3) hx hb dX11_harmOf_174 (by decide) ?_
                    refine lv_iload_n hx hb dX11_harmOf_175 rfl (lv_at hl 7 rfl) ?_
                    refine lv_imul hx hb dX11_harmOf_176 ?_
                    refine lv_cg (y := nI (3 * b)) (by rw [show (3 : Int32) = nI 3 from rfl]; exact pk_mul _ _) ?_
                    refine lv_iadd hx hb dX11_harmOf_177 ?_
                    refine lv_cg (y := nI (20 + (3 * b))) (by rw [show (20 : Int32) = nI 20 from rfl]; exact nI_add _ _) ?_
                    refine lv_iconst (v := 1) hx hb dX11_harmOf_178 (by decide) ?_
                    refine lv_iadd hx hb dX11_harmOf_179 ?_
                    refine lv_cg (y := nI ((20 + (3 * b)) + 1)) (by rw [show (1 : Int32) = nI 1 from rfl]; exact nI_add _ _) ?_
                    refine va_iald hx hb hK.1 hP 1 0 rfl rfl (vp_in_nI (by first | omega | (have t_c16 := neI c16; have t_n19 := n19; have t_c20 := eqI c20; have t_c29 := neI c29; have : ((-4) : Int32).toInt = -4 := qI_m4; have : (4 : Int32).toInt = 4 := qI_4; have t_n0 : (nI i).toInt = (i : Int) := tn892_ (); have t_n1 : (nI a).toInt = (a : Int) := tn893_ (); have t_n2 : (nI b).toInt = (b : Int) := tn894_ (); have t_n3 : (nI N).toInt = (N : Int) := tn895_ (); have t_n4 : (nI B).toInt = (B : Int) := tn896_ (); have t_n5 : (nI T).toInt = (T : Int) := tn897_ (); have t_n6 : (nI S).toInt = (S : Int) := tn898_ (); have t_n7 : (nI M).toInt = (M : Int) := tn899_ (); omega)) (by decide)) dX11_harmOf_180 ?_
                    refine lv_cg (y := fst ((20 + (3 * b)) + 1)) (by rw [nI_clamp (by omega)]) ?_
                    refine lv_isub hx hb dX11_harmOf_181 ?_
                    refine lv_istore (lv' := [(9, .int ((fst ((20 + (3 * a)) + 1)) - (fst ((20 + (3 * b)) + 1)))), (8, .int (((hPos ((hQt fst i q) - (hK' (fst (20 + 3 * b))))) + (hPos ((fst ((2 * i) + 1)) - (fst ((20 + (3 * b)) + 2))))) + (hTr (fst (20 + 3 * b)) (fst (2 * i + 1))))), (7, .int ((fst ((2 * i) + 1)) - (fst ((20 + (3 * b)) + 2)))), (6, .int ((hQt fst i q) - (hK' (fst (20 + 3 * b))))), (5, .int (fst (20 + 3 * b))), (0, .ref h0), (1, .int (nI i)), (2, .int (nI a)), (3, .int (nI b)), (4, .int q)]) hx hb dX11_harmOf_182 hl (by decide) rfl (fun ls hl => ?_)
                    refine lv_iload hx hb dX11_harmOf_184 (lv_at hl 0 rfl) ?_
                    have cut197_31 : ∀ (y30 : Int32) (H : Heap) (locs : List Loc), y30 = hAbs ((fst ((20 + (3 * a)) + 1)) - (fst ((20 + (3 * b)) + 1))) → va_P (dC, dI) vwCl [(h0, .inr (11, [.ref st, .int (nI N), .int (nI B), .ref rp, .int vrs, .int vrb, .int vhs, .int vca, .int vxs, .int vxb, .ref tp, .int (nI T), .int vfa, .int vbr, .int vba, .int vsp, .int vhe, .int vtk, .int vva, .ref cu, .ref lt, .ref od, .ref th, .ref be, .ref ln, .int (nI S), .ref ma, .int (nI M), .ref ah, .ref bh, .ref ik, .ref la, .ref lg, .ref ce, .int vto])), (st, .inl (G 0, 196, .inl fst))] H → va_S (fun q : Nat => s.heap.size ≤ q) s.heap H locs → ∀ (ls : Array Slot), lv_has ls 10 [(9, .int ((fst ((20 + (3 * a)) + 1)) - (fst ((20 + (3 * b)) + 1)))), (8, .int (((hPos ((hQt fst i q) - (hK' (fst (20 + 3 * b))))) + (hPos ((fst ((2 * i) + 1)) - (fst ((20 + (3 * b)) + 2))))) + (hTr (fst (20 + 3 * b)) (fst (2 * i + 1))))), (7, .int ((fst ((2 * i) + 1)) - (fst ((20 + (3 * b)) + 2)))), (6, .int ((hQt fst i q) - (hK' (fst (20 + 3 * b))))), (5, .int (fst (20 + 3 * b))), (0, .ref h0), (1, .int (nI i)), (2, .int (nI a)), (3, .int (nI b)), (4, .int q)] → W p l e (headSpec (Cond.code yX11_harmOf cX11_harmOf 10 (some .int) :: GT) ({ frames := 1, cells := 0, slots := 0, locals := 21 } : Room)).room s m ([.ref h0, .int (nI i), .int (nI a), .int (nI b), .int q] : List Value).toArray below meth c H locs 0 0 (MQ below (va_Qi (fun (r : Int32) (u : Unit) => match u with | _ => (r = rhB fst i a b q) ∧ True) (fun _ _ => True) (fun q : Nat => s.heap.size ≤ q)) ([.ref h0, .int (nI i), .int (nI a), .int (nI b), .int q] : List Value).toArray s 0 0 (fun q : Nat => s.heap.size ≤ q)) (F0 m 197 ls [.int y30]) := by
                      intro y30 H locs hcut hP hS ls hl
                      subst hcut
                      refine lv_istore (lv' := [(9, .int (hAbs ((fst ((20 + (3 * a)) + 1)) - (fst ((20 + (3 * b)) + 1))))), (8, .int (((hPos ((hQt fst i q) - (hK' (fst (20 + 3 * b))))) + (hPos ((fst ((2 * i) + 1)) - (fst ((20 + (3 * b)) + 2))))) + (hTr (fst (20 + 3 * b)) (fst (2 * i + 1))))), (7, .int ((fst ((2 * i) + 1)) - (fst ((20 + (3 * b)) + 2)))), (6, .int ((hQt fst i q) - (hK' (fst (20 + 3 * b))))), (5, .int (fst (20 + 3 * b))), (0, .ref h0), (1, .int (nI i)), (2, .int (nI a)), (3, .int (nI b)), (4, .int q)]) hx hb dX11_harmOf_197 hl (by decide) rfl (fun ls hl => ?_)
                      refine lv_iload hx hb dX11_harmOf_199 (lv_at hl 1 rfl) ?_
                      refine lv_iload hx hb dX11_harmOf_201 (lv_at hl 4 rfl) ?_
                      refine lv_iconst (v := 5) hx hb dX11_harmOf_203 (by decide) ?_
                      refine lv_icmp_ne (tgt := 214) hx hb dX11_harmOf_204 (by decide) (fun c32 => ?_) (fun c32 => ?_)
                      · skip
                        refine lv_iload hx hb dX11_harmOf_214 (lv_at hl 0 rfl) ?_
                        refine lv_iadd hx hb dX11_harmOf_216 ?_
                        refine lv_istore (lv' := [(8, .int ((((hPos ((hQt fst i q) - (hK' (fst (20 + 3 * b))))) + (hPos ((fst ((2 * i) + 1)) - (fst ((20 + (3 * b)) + 2))))) + (hTr (fst (20 + 3 * b)) (fst (2 * i + 1)))) + (hAbs ((fst ((20 + (3 * a)) + 1)) - (fst ((20 + (3 * b)) + 1)))))), (9, .int (hAbs ((fst ((20 + (3 * a)) + 1)) - (fst ((20 + (3 * b)) + 1))))), (7, .int ((fst ((2 * i) + 1)) - (fst ((20 + (3 * b)) + 2)))), (6, .int ((hQt fst i q) - (hK' (fst (20 + 3 * b))))), (5, .int (fst (20 + 3 * b))), (0, .ref h0), (1, .int (nI i)), (2, .int (nI a)), (3, .int (nI b)), (4, .int q)]) hx hb dX11_harmOf_217 hl (by decide) rfl (fun ls hl => ?_)
                        exact cut219_14 ((((hPos ((hQt fst i q) - (hK' (fst (20 + 3 * b))))) + (hPos ((fst ((2 * i) + 1)) - (fst ((20 + (3 * b)) + 2))))) + (hTr (fst (20 + 3 * b)) (fst (2 * i + 1)))) + (hAbs ((fst ((20 + (3 * a)) + 1)) - (fst ((20 + (3 * b)) + 1))))) _ _ (by first | (have h9 : (a = b ∨ (fst (20 + 3 * b) = 4 ∧ fst (20 + 3 * a) = 4)) := Or.inl (by omega); rw [if_pos h9]; rfl) | (have h9 : (a = b ∨ (fst (20 + 3 * b) = 4 ∧ fst (20 + 3 * a) = 4)) := Or.inr ⟨by assumption, by assumption⟩; rw [if_pos h9]; rfl) | (have h9 : ¬ (a = b ∨ (fst (20 + 3 * b) = 4 ∧ fst (20 + 3 * a) = 4)) := (fun h9 => h9.elim (fun h8 => absurd h8 (by omega)) (fun h8 => absurd h8.1 (by assumption))); rw [if_neg h9]; first | rfl | (unfold hJo; rw [if_neg (by assumption)]; rfl)) | (have h9 : ¬ (a = b ∨ (fst (20 + 3 * b) = 4 ∧ fst (20 + 3 * a) = 4)) := (fun h9 => h9.elim (fun h8 => absurd h8 (by omega)) (fun h8 => absurd h8.2 (by assumption))); rw [if_neg h9]; first | rfl | (unfold hJo; rw [if_neg (by assumption)]; rfl))) hP hS ls (lv_sub hl [0, 2, 3, 4, 5, 6, 7, 8, 9] rfl)
                      · skip
                        have t_c16 := neI c16
                        have t_n19 := n19
                        have t_c20 := eqI c20
                        have t_c29 := neI c29
                        have t_c32 := eqI c32
                        have : ((-4) : Int32).toInt = -4 := qI_m4
                        have : (4 : Int32).toInt = 4 := qI_4
                        have : (5 : Int32).toInt = 5 := qI_5
                        have t_n0 : (nI i).toInt = (i : Int) := tn892_ ()
                        have t_n1 : (nI a).toInt = (a : Int) := tn893_ ()
                        have t_n2 : (nI b).toInt = (b : Int) := tn894_ ()
                        have t_n3 : (nI N).toInt = (N : Int) := tn895_ ()
                        have t_n4 : (nI B).toInt = (B : Int) := tn896_ ()
                        have t_n5 : (nI T).toInt = (T : Int) := tn897_ ()
                        have t_n6 : (nI S).toInt = (S : Int) := tn898_ ()
                        have t_n7 : (nI M).toInt = (M : Int) := tn899_ ()
                        exfalso; omega
                    refine lv_if_ge (tgt := 195) hx hb dX11_harmOf_186 (by decide) (fun c33 => ?_) (fun c33 => ?_)
                    · skip
                      refine lv_iload hx hb dX11_harmOf_195 (lv_at hl 0 rfl) ?_
                      exact cut197_31 ((fst ((20 + (3 * a)) + 1)) - (fst ((20 + (3 * b)) + 1))) _ _ (by first | exact (if_pos (by assumption)).symm | exact (if_neg (by assumption)).symm | exact ((if_neg (by assumption)).trans (if_pos (by assumption))).symm | exact ((if_neg (by assumption)).trans (if_neg (by assumption))).symm | exact (if_pos ⟨by assumption, by assumption⟩).symm | exact (if_neg (fun h9 => absurd h9.1 (by assumption))).symm | exact (if_neg (fun h9 => h9.2 (by assumption))).symm) hP hS ls (lv_sub hl [0, 1, 2, 3, 4, 5, 6, 7, 8, 9] rfl)
                    · skip
                      refine lv_iload hx hb dX11_harmOf_189 (lv_at hl 0 rfl) ?_
                      refine lv_ineg hx hb dX11_harmOf_191 ?_
                      refine lv_goto (tgt := 197) hx hb dX11_harmOf_192 (by decide) ?_
                      exact cut197_31 (-((fst ((20 + (3 * a)) + 1)) - (fst ((20 + (3 * b)) + 1)))) _ _ (by first | exact (if_pos (by assumption)).symm | exact (if_neg (by assumption)).symm | exact ((if_neg (by assumption)).trans (if_pos (by assumption))).symm | exact ((if_neg (by assumption)).trans (if_neg (by assumption))).symm | exact (if_pos ⟨by assumption, by assumption⟩).symm | exact (if_neg (fun h9 => absurd h9.1 (by assumption))).symm | exact (if_neg (fun h9 => h9.2 (by assumption))).symm) hP hS ls (lv_sub hl [0, 1, 2, 3, 4, 5, 6, 7, 8, 9] rfl)
          refine lv_icmp_ne (tgt := 125) hx hb dX11_harmOf_104 (by decide) (fun c34 => ?_) (fun c34 => ?_)
          · skip
            refine lv_iconst (v := 0) hx hb dX11_harmOf_125 (by decide) ?_
            exact cut126_12 0 _ _ (by first | exact (if_pos (by assumption)).symm | exact (if_neg (by assumption)).symm | exact ((if_neg (by assumption)).trans (if_pos (by assumption))).symm | exact ((if_neg (by assumption)).trans (if_neg (by assumption))).symm | exact (if_pos ⟨by assumption, by assumption⟩).symm | exact (if_neg (fun h9 => absurd h9.1 (by assumption))).symm | exact (if_neg (fun h9 => h9.2 (by assumption))).symm) hP hS ls (lv_sub hl [0, 1, 2, 3, 4, 5, 6, 7] rfl)
          · skip
            refine lv_aload_n hx hb dX11_harmOf_107 rfl (lv_at hl 3 rfl) ?_
            refine va_get (D := (dC, dI)) (ci := 11) (v := .ref st) (C := RX11) (T := TX11) (N := 35) hx hb hg inG11 hown hK.1 hP 0 rfl rfl 0 (by decide) (hg _ wt_878) (fun _ h9 => h9) rfl dX11_harmOf_108 ?_
            refine lv_iconst (v := 2) hx hb dX11_harmOf_111 (by decide) ?_
            refine lv_iload_n hx hb dX11_harmOf_112 rfl (lv_at hl 4 rfl) ?_
            refine lv_imul hx hb dX11_harmOf_113 ?_
            refine lv_cg (y := nI (2 * i)) (by rw [show (2 : Int32) = nI 2 from rfl]; exact pk_mul _ _) ?_
            refine lv_iconst (v := 1) hx hb dX11_harmOf_114 (by decide) ?_
            refine lv_iadd hx hb dX11_harmOf_115 ?_
            refine lv_cg (y := nI ((2 * i) + 1)) (by rw [show (1 : Int32) = nI 1 from rfl]; exact nI_add _ _) ?_
            refine va_iald hx hb hK.1 hP 1 0 rfl rfl (vp_in_nI (by first | omega | (have t_c34 := eqI c34; have : (2 : Int32).toInt = 2 := qI_2; have t_n0 : (nI i).toInt = (i : Int) := tn892_ (); have t_n1 : (nI a).toInt = (a : Int) := tn893_ (); have t_n2 : (nI b).toInt = (b : Int) := tn894_ (); have t_n3 : (nI N).toInt = (N : Int) := tn895_ (); have t_n4 : (nI B).toInt = (B : Int) := tn896_ (); have t_n5 : (nI T).toInt = (T : Int) := tn897_ (); have t_n6 : (nI S).toInt = (S : Int) := tn898_ (); have t_n7 : (nI M).toInt = (M : Int) := tn899_ (); omega)) (by decide)) dX11_harmOf_116 ?_
            refine lv_cg (y := fst ((2 * i) + 1)) (by rw [nI_clamp (by omega)]) ?_
            refine lv_iconst (v := 5) hx hb dX11_harmOf_117 (by decide) ?_
            refine lv_icmp_lt (tgt := 125) hx hb dX11_harmOf_118 (by decide) (fun c35 => ?_) (fun c35 => ?_)
            · skip
              refine lv_iconst (v := 0) hx hb dX11_harmOf_125 (by decide) ?_
              exact cut126_12 0 _ _ (by first | exact (if_pos (by assumption)).symm | exact (if_neg (by assumption)).symm | exact ((if_neg (by assumption)).trans (if_pos (by assumption))).symm | exact ((if_neg (by assumption)).trans (if_neg (by assumption))).symm | exact (if_pos ⟨by assumption, by assumption⟩).symm | exact (if_neg (fun h9 => absurd h9.1 (by assumption))).symm | exact (if_neg (fun h9 => h9.2 (by assumption))).symm) hP hS ls (lv_sub hl [0, 1, 2, 3, 4, 5, 6, 7] rfl)
            · skip
              refine lv_iconst (v := 1) hx hb dX11_harmOf_121 (by decide) ?_
              refine lv_goto (tgt := 126) hx hb dX11_harmOf_122 (by decide) ?_
              exact cut126_12 1 _ _ (by first | exact (if_pos (by assumption)).symm | exact (if_neg (by assumption)).symm | exact ((if_neg (by assumption)).trans (if_pos (by assumption))).symm | exact ((if_neg (by assumption)).trans (if_neg (by assumption))).symm | exact (if_pos ⟨by assumption, by assumption⟩).symm | exact (if_neg (fun h9 => absurd h9.1 (by assumption))).symm | exact (if_neg (fun h9 => h9.2 (by assumption))).symm) hP hS ls (lv_sub hl [0, 1, 2, 3, 4, 5, 6, 7] rfl)
        refine lv_if_le (tgt := 99) hx hb dX11_harmOf_91 (by decide) (fun c36 => ?_) (fun c36 => ?_)
        · skip
          refine lv_iconst (v := 0) hx hb dX11_harmOf_99 (by decide) ?_
          exact cut100_10 0 _ _ (by first | exact (if_pos (by assumption)).symm | exact (if_neg (by assumption)).symm | exact ((if_neg (by assumption)).trans (if_pos (by assumption))).symm | exact ((if_neg (by assumption)).trans (if_neg (by assumption))).symm | exact (if_pos ⟨by assumption, by assumption⟩).symm | exact (if_neg (fun h9 => absurd h9.1 (by assumption))).symm | exact (if_neg (fun h9 => h9.2 (by assumption))).symm) hP hS ls (lv_sub hl [0, 1, 2, 3, 4, 5, 6, 7] rfl)
        · skip
          refine lv_iload hx hb dX11_harmOf_94 (lv_at hl 0 rfl) ?_
          refine lv_goto (tgt := 100) hx hb dX11_harmOf_96 (by decide) ?_
          exact cut100_10 ((fst ((2 * i) + 1)) - (fst ((20 + (3 * b)) + 2))) _ _ (by first | exact (if_pos (by assumption)).symm | exact (if_neg (by assumption)).symm | exact ((if_neg (by assumption)).trans (if_pos (by assumption))).symm | exact ((if_neg (by assumption)).trans (if_neg (by assumption))).symm | exact (if_pos ⟨by assumption, by assumption⟩).symm | exact (if_neg (fun h9 => absurd h9.1 (by assumption))).symm | exact (if_neg (fun h9 => h9.2 (by assumption))).symm) hP hS ls (lv_sub hl [0, 1, 2, 3, 4, 5, 6, 7] rfl)
      refine lv_if_le (tgt := 88) hx hb dX11_harmOf_80 (by decide) (fun c37 => ?_) (fun c37 => ?_)
      · skip
        refine lv_iconst (v := 0) hx hb dX11_harmOf_88 (by decide) ?_
        exact cut89_8 0 _ _ (by first | exact (if_pos (by assumption)).symm | exact (if_neg (by assumption)).symm | exact ((if_neg (by assumption)).trans (if_pos (by assumption))).symm | exact ((if_neg (by assumption)).trans (if_neg (by assumption))).symm | exact (if_pos ⟨by assumption, by assumption⟩).symm | exact (if_neg (fun h9 => absurd h9.1 (by assumption))).symm | exact (if_neg (fun h9 => h9.2 (by assumption))).symm) hP hS ls (lv_sub hl [0, 1, 2, 3, 4, 5, 6, 7] rfl)
      · skip
        refine lv_iload hx hb dX11_harmOf_83 (lv_at hl 1 rfl) ?_
        refine lv_goto (tgt := 89) hx hb dX11_harmOf_85 (by decide) ?_
        exact cut89_8 ((hQt fst i q) - (hK' (fst (20 + 3 * b)))) _ _ (by first | exact (if_pos (by assumption)).symm | exact (if_neg (by assumption)).symm | exact ((if_neg (by assumption)).trans (if_pos (by assumption))).symm | exact ((if_neg (by assumption)).trans (if_neg (by assumption))).symm | exact (if_pos ⟨by assumption, by assumption⟩).symm | exact (if_neg (fun h9 => absurd h9.1 (by assumption))).symm | exact (if_neg (fun h9 => h9.2 (by assumption))).symm) hP hS ls (lv_sub hl [0, 1, 2, 3, 4, 5, 6, 7] rfl)
    refine lv_icmp_ne (tgt := 38) hx hb dX11_harmOf_31 (by decide) (fun c38 => ?_) (fun c38 => ?_)
    · skip
      refine lv_iload hx hb dX11_harmOf_38 (lv_at hl 1 rfl) ?_
      refine lv_iconst (v := 3) hx hb dX11_harmOf_40 (by decide) ?_
      refine lv_icmp_ne (tgt := 48) hx hb dX11_harmOf_41 (by decide) (fun c39 => ?_) (fun c39 => ?_)
      · skip
        refine lv_iconst (v := 0) hx hb dX11_harmOf_48 (by decide) ?_
        exact cut49_6 0 _ _ (by first | exact (if_pos (by assumption)).symm | exact (if_neg (by assumption)).symm | exact ((if_neg (by assumption)).trans (if_pos (by assumption))).symm | exact ((if_neg (by assumption)).trans (if_neg (by assumption))).symm | exact (if_pos ⟨by assumption, by assumption⟩).symm | exact (if_neg (fun h9 => absurd h9.1 (by assumption))).symm | exact (if_neg (fun h9 => h9.2 (by assumption))).symm) hP hS ls (lv_sub hl [0, 1, 2, 3, 4, 5, 6] rfl)
      · skip
        refine lv_iconst (v := 1) hx hb dX11_harmOf_44 (by decide) ?_
        refine lv_goto (tgt := 49) hx hb dX11_harmOf_45 (by decide) ?_
        exact cut49_6 1 _ _ (by first | exact (if_pos (by assumption)).symm | exact (if_neg (by assumption)).symm | exact ((if_neg (by assumption)).trans (if_pos (by assumption))).symm | exact ((if_neg (by assumption)).trans (if_neg (by assumption))).symm | exact (if_pos ⟨by assumption, by assumption⟩).symm | exact (if_neg (fun h9 => absurd h9.1 (by assumption))).symm | exact (if_neg (fun h9 => h9.2 (by assumption))).symm) hP hS ls (lv_sub hl [0, 1, 2, 3, 4, 5, 6] rfl)
    · skip
      refine lv_iconst (v := 2) hx hb dX11_harmOf_34 (by decide) ?_
      refine lv_goto (tgt := 49) hx hb dX11_harmOf_35 (by decide) ?_
      exact cut49_6 2 _ _ (by first | exact (if_pos (by assumption)).symm | exact (if_neg (by assumption)).symm | exact ((if_neg (by assumption)).trans (if_pos (by assumption))).symm | exact ((if_neg (by assumption)).trans (if_neg (by assumption))).symm | exact (if_pos ⟨by assumption, by assumption⟩).symm | exact (if_neg (fun h9 => absurd h9.1 (by assumption))).symm | exact (if_neg (fun h9 => h9.2 (by assumption))).symm) hP hS ls (lv_sub hl [0, 1, 2, 3, 4, 5, 6] rfl)
  refine lv_if_eq (tgt := 16) hx hb dX11_harmOf_9 (by decide) (fun c40 => ?_) (fun c40 => ?_)
  · skip
    refine lv_aload_n hx hb dX11_harmOf_16 rfl (lv_at hl 1 rfl) ?_
    refine va_get (D := (dC, dI)) (ci := 11) (v := .ref st) (C := RX11) (T := TX11) (N := 35) hx hb hg inG11 hown hK.1 hP 0 rfl rfl 0 (by decide) (hg _ wt_878) (fun _ h9 => h9) rfl dX11_harmOf_17 ?_
    refine lv_iconst (v := 2) hx hb dX11_harmOf_20 (by decide) ?_
    refine lv_iload_n hx hb dX11_harmOf_21 rfl (lv_at hl 2 rfl) ?_
    refine lv_imul hx hb dX11_harmOf_22 ?_
    refine lv_cg (y := nI (2 * i)) (by rw [show (2 : Int32) = nI 2 from rfl]; exact pk_mul _ _) ?_
    refine va_iald hx hb hK.1 hP 1 0 rfl rfl (vp_in_nI (by first | omega | (have t_c40 := eqI c40; have : (0 : Int32).toInt = 0 := qI_0; have t_n0 : (nI i).toInt = (i : Int) := tn892_ (); have t_n1 : (nI a).toInt = (a : Int) := tn893_ (); have t_n2 : (nI b).toInt = (b : Int) := tn894_ (); have t_n3 : (nI N).toInt = (N : Int) := tn895_ (); have t_n4 : (nI B).toInt = (B : Int) := tn896_ (); have t_n5 : (nI T).toInt = (T : Int) := tn897_ (); have t_n6 : (nI S).toInt = (S : Int) := tn898_ (); have t_n7 : (nI M).toInt = (M : Int) := tn899_ (); omega)) (by decide)) dX11_harmOf_23 ?_
    refine lv_cg (y := fst (2 * i)) (by rw [nI_clamp (by omega)]) ?_
    exact cut24_4 (fst (2 * i)) _ _ (by first | exact (if_pos (by assumption)).symm | exact (if_neg (by assumption)).symm | exact ((if_neg (by assumption)).trans (if_pos (by assumption))).symm | exact ((if_neg (by assumption)).trans (if_neg (by assumption))).symm | exact (if_pos ⟨by assumption, by assumption⟩).symm | exact (if_neg (fun h9 => absurd h9.1 (by assumption))).symm | exact (if_neg (fun h9 => h9.2 (by assumption))).symm) hP hS ls (lv_sub hl [0, 1, 2, 3, 4, 5] rfl)
  · skip
    refine lv_iconst (v := 0) hx hb dX11_harmOf_12 (by decide) ?_
    refine lv_goto (tgt := 24) hx hb dX11_harmOf_13 (by decide) ?_
    exact cut24_4 0 _ _ (by first | exact (if_pos (by assumption)).symm | exact (if_neg (by assumption)).symm | exact ((if_neg (by assumption)).trans (if_pos (by assumption))).symm | exact ((if_neg (by assumption)).trans (if_neg (by assumption))).symm | exact (if_pos ⟨by assumption, by assumption⟩).symm | exact (if_neg (fun h9 => absurd h9.1 (by assumption))).symm | exact (if_neg (fun h9 => h9.2 (by assumption))).symm) hP hS ls (lv_sub hl [0, 1, 2, 3, 4, 5] rfl)

set_option maxHeartbeats 1000000 in
set_option maxRecDepth 100000 in
theorem c_X11_orderedHarm (l : Launch) (dC : Nat → ClassId) (dI : Nat → Nat → Nat) (G : Nat → ClassId) (sz : Nat) (h0 i st N B rp tp T cu lt od th be ln S ma M ah bh ik la lg ce : Nat) (q vrs vrb vhs vca vxs vxb vfa vbr vba vsp vhe vtk vva vto : Int32) (fst : Nat → Int32) (hN : N ≤ 10) (hB : B ≤ 6) (hT : T ≤ 320) (hS0 : S ≤ 8) (hM : M ≤ 6) (hi : i < 10) (hst : OKS fst) : Met l yX11_orderedHarm (Cond.code yX11_orderedHarm cX11_orderedHarm 3 (some .int) :: GT) ({ frames := 2, cells := 0, slots := 0, locals := 50 } : Room) (PcR [.ref h0, .int (nI i), .int q] dC dI G [(h0, .inr (11, [.ref st, .int (nI N), .int (nI B), .ref rp, .int vrs, .int vrb, .int vhs, .int vca, .int vxs, .int vxb, .ref tp, .int (nI T), .int vfa, .int vbr, .int vba, .int vsp, .int vhe, .int vtk, .int vva, .ref cu, .ref lt, .ref od, .ref th, .ref be, .ref ln, .int (nI S), .ref ma, .int (nI M), .ref ah, .ref bh, .ref ik, .ref la, .ref lg, .ref ce, .int vto])), (st, .inl (G 0, 196, .inl fst))] sz) (va_Qi (fun (r : Int32) (u : Unit) => match u with | _ => (True) ∧ True) (fun _ _ => True) (fun q : Nat => sz ≤ q)) 0 0 (fun q : Nat => sz ≤ q) := by
  have hB_ := hB
  have hM_ := hM
  have hT_ := hT
  refine Met.ofW (cc := cX11_orderedHarm) (maxL := 3) (ret := (some .int)) (by decide) rfl ?_
  intro p e s m args below meth c s₁ Bd hml hv
  obtain ⟨rfl, hsz, hP, hK⟩ := hv
  have hx := Bd.exec
  have hb := Bd.bytes
  have hr := Bd.returns
  have hg : ∀ w ∈ GT, w.before ([.ref h0, .int (nI i), .int q] : List Value).toArray s = true := fun w h => atoms_spec (ws := Cond.code yX11_orderedHarm cX11_orderedHarm 3 (some .int) :: GT) Bd.pre w (List.mem_cons_of_mem _ h)
  have hown : s.vm.findClass RX11 = some m.cls := findClass_of_methodNamed Bd.named
  have hlocks := Bd.notSynchronized
  subst hsz
  have hA : ∀ q : Nat, s.heap.size ≤ q → (fun q : Nat => s.heap.size ≤ q) q := fun _ h => h
  have hS : va_S (fun q : Nat => s.heap.size ≤ q) s.heap s.heap [] := va_S.rf
  have hl := lv_entry ([.ref h0, .int (nI i), .int q]) (n := 3) (Nat.le_of_ble_eq_true rfl)
  rw [lg_entry_eq]
  generalize (lg_sl ([.ref h0, .int (nI i), .int q]) ++ List.replicate (3 - (lg_sl ([.ref h0, .int (nI i), .int q])).length) Slot.unset).toArray = ls at hl ⊢
  have hl : lv_has ls 3 [(0, .ref h0), (1, .int (nI i)), (2, .int q)] := hl
  refine lv_aload_n hx hb dX11_orderedHarm_0 rfl (lv_at hl 0 rfl) ?_
  refine lv_iload_n hx hb dX11_orderedHarm_1 rfl (lv_at hl 1 rfl) ?_
  refine lv_iload_n hx hb dX11_orderedHarm_2 rfl (lv_at hl 1 rfl) ?_
  refine lv_if_ne (tgt := 11) hx hb dX11_orderedHarm_3 (by decide) (fun c1 => ?_) (fun c1 => ?_)
  · skip
    have tn913_ : nIT i := fun _ => nI_toInt (by first | omega | (have t := neI c1; omega))
    have n2 : i ≠ 0 := by have t := neI c1; rw [show (nI (i)).toInt = ((i : Nat) : Int) from tn913_ ()] at t; have : (0 : Int32).toInt = 0 := qI_0; omega
    refine lv_aload_n hx hb dX11_orderedHarm_11 rfl (lv_at hl 0 rfl) ?_
    refine va_get (D := (dC, dI)) (ci := 11) (v := .ref st) (C := RX11) (T := TX11) (N := 35) hx hb hg inG11 hown hK.1 hP 0 rfl rfl 0 (by decide) (hg _ wt_878) (fun _ h9 => h9) rfl dX11_orderedHarm_12 ?_
    refine lv_bipush (v := 38) hx hb dX11_orderedHarm_15 (by decide) ?_
    refine lv_iload_n hx hb dX11_orderedHarm_17 rfl (lv_at hl 1 rfl) ?_
    refine lv_iadd hx hb dX11_orderedHarm_18 ?_
    refine lv_cg (y := nI (38 + i)) (by rw [show (38 : Int32) = nI 38 from rfl]; exact nI_add _ _) ?_
    refine lv_iconst (v := 1) hx hb dX11_orderedHarm_19 (by decide) ?_
    refine lv_isub hx hb dX11_orderedHarm_20 ?_
    have tn914_ : nIT N := fun _ => nI_toInt (by first | omega | (have t_n2 := n2; omega))
    have tn915_ : nIT B := fun _ => nI_toInt (by first | omega | (have t_n2 := n2; omega))
    have tn916_ : nIT T := fun _ => nI_toInt (by first | omega | (have t_n2 := n2; omega))
    have tn917_ : nIT S := fun _ => nI_toInt (by first | omega | (have t_n2 := n2; omega))
    have tn918_ : nIT M := fun _ => nI_toInt (by first | omega | (have t_n2 := n2; omega))
    refine lv_cg (y := nI ((38 + i) - 1)) (by rw [show (1 : Int32) = nI 1 from rfl]; exact pk_sub (by have t_n2 := n2; have t_n0 : (nI i).toInt = (i : Int) := tn913_ (); have t_n1 : (nI N).toInt = (N : Int) := tn914_ (); have t_n2 : (nI B).toInt = (B : Int) := tn915_ (); have t_n3 : (nI T).toInt = (T : Int) := tn916_ (); have t_n4 : (nI S).toInt = (S : Int) := tn917_ (); have t_n5 : (nI M).toInt = (M : Int) := tn918_ (); omega)) ?_
    refine va_iald hx hb hK.1 hP 1 0 rfl rfl (vp_in_nI (by first | omega | (have t_n2 := n2; have t_n0 : (nI i).toInt = (i : Int) := tn913_ (); have t_n1 : (nI N).toInt = (N : Int) := tn914_ (); have t_n2 : (nI B).toInt = (B : Int) := tn915_ (); have t_n3 : (nI T).toInt = (T : Int) := tn916_ (); have t_n4 : (nI S).toInt = (S : Int) := tn917_ (); have t_n5 : (nI M).toInt = (M : Int) := tn918_ (); omega)) (by decide)) dX11_orderedHarm_21 ?_
    refine lv_cg (y := fst ((38 + i) - 1)) (by rw [nI_clamp (by omega)]) ?_
    obtain ⟨o1, ho1, eo1⟩ := ord_nat hst (q := ((38 + i) - 1)) (by omega) (by omega) (by omega)
    refine lv_cg (y := nI o1) eo1 ?_
    refine lv_aload_n hx hb dX11_orderedHarm_22 rfl (lv_at hl 0 rfl) ?_
    refine va_get (D := (dC, dI)) (ci := 11) (v := .ref st) (C := RX11) (T := TX11) (N := 35) hx hb hg inG11 hown hK.1 hP 0 rfl rfl 0 (by decide) (hg _ wt_878) (fun _ h9 => h9) rfl dX11_orderedHarm_23 ?_
    refine lv_bipush (v := 38) hx hb dX11_orderedHarm_26 (by decide) ?_
    refine lv_iload_n hx hb dX11_orderedHarm_28 rfl (lv_at hl 1 rfl) ?_
    refine lv_iadd hx hb dX11_orderedHarm_29 ?_
    refine lv_cg (y := nI (38 + i)) (by rw [show (38 : Int32) = nI 38 from rfl]; exact nI_add _ _) ?_
    have tn919_ : nIT o1 := fun _ => nI_toInt (by first | omega | (have t_n2 := n2; have t_ho1 := ho1; omega))
    refine va_iald hx hb hK.1 hP 1 0 rfl rfl (vp_in_nI (by first | omega | (have t_n2 := n2; have t_ho1 := ho1; have t_n0 : (nI i).toInt = (i : Int) := tn913_ (); have t_n1 : (nI N).toInt = (N : Int) := tn914_ (); have t_n2 : (nI B).toInt = (B : Int) := tn915_ (); have t_n3 : (nI T).toInt = (T : Int) := tn916_ (); have t_n4 : (nI S).toInt = (S : Int) := tn917_ (); have t_n5 : (nI M).toInt = (M : Int) := tn918_ (); have t_n6 : (nI o1).toInt = (o1 : Int) := tn919_ (); omega)) (by decide)) dX11_orderedHarm_30 ?_
    refine lv_cg (y := fst (38 + i)) (by rw [nI_clamp (by omega)]) ?_
    obtain ⟨o2, ho2, eo2⟩ := ord_nat hst (q := (38 + i)) (by omega) (by omega) (by omega)
    refine lv_cg (y := nI o2) eo2 ?_
    refine lv_iload_n hx hb dX11_orderedHarm_31 rfl (lv_at hl 2 rfl) ?_
    have hPc := hP.sub (ws' := [(h0, .inr (11, [.ref st, .int (nI N), .int (nI B), .ref rp, .int vrs, .int vrb, .int vhs, .int vca, .int vxs, .int vxb, .ref tp, .int (nI T), .int vfa, .int vbr, .int vba, .int vsp, .int vhe, .int vtk, .int vva, .ref cu, .ref lt, .ref od, .ref th, .ref be, .ref ln, .int (nI S), .ref ma, .int (nI M), .ref ah, .ref bh, .ref ik, .ref la, .ref lg, .ref ce, .int vto])), (st, .inl (G 0, 196, .inl fst))]) [0, 1] rfl
    have tn920_ : nIT o2 := fun _ => nI_toInt (by first | omega | (have t_n2 := n2; have t_ho1 := ho1; have t_ho2 := ho2; omega))
    refine va_calli (va_runV (As := [.int (nI i), .int (nI o1), .int (nI o2), .int q]) (rest := []) ⟨hx, hb, hml, hown, hg⟩ (c_X11_harmOfB l dC dI G _ h0 i o1 o2 st N B rp tp T cu lt od th be ln S ma M ah bh ik la lg ce q vrs vrb vhs vca vxs vxb vfa vbr vba vsp vhe vtk vva vto fst hN hB_ hT_ hS0 hM_ hi (by first | omega | (have t_n2 := n2; have t_ho1 := ho1; have t_ho2 := ho2; have t_n0 : (nI i).toInt = (i : Int) := tn913_ (); have t_n1 : (nI N).toInt = (N : Int) := tn914_ (); have t_n2 : (nI B).toInt = (B : Int) := tn915_ (); have t_n3 : (nI T).toInt = (T : Int) := tn916_ (); have t_n4 : (nI S).toInt = (S : Int) := tn917_ (); have t_n5 : (nI M).toInt = (M : Int) := tn918_ (); have t_n6 : (nI o1).toInt = (o1 : Int) := tn919_ (); have t_n7 : (nI o2).toInt = (o2 : Int) := tn920_ (); omega)) (by first | omega | (have t_n2 := n2; have t_ho1 := ho1; have t_ho2 := ho2; have t_n0 : (nI i).toInt = (i : Int) := tn913_ (); have t_n1 : (nI N).toInt = (N : Int) := tn914_ (); have t_n2 : (nI B).toInt = (B : Int) := tn915_ (); have t_n3 : (nI T).toInt = (T : Int) := tn916_ (); have t_n4 : (nI S).toInt = (S : Int) := tn917_ (); have t_n5 : (nI M).toInt = (M : Int) := tn918_ (); have t_n6 : (nI o1).toInt = (o1 : Int) := tn919_ (); have t_n7 : (nI o2).toInt = (o2 : Int) := tn920_ (); omega))) (kwV hg mfX11_harmOf wt_1106 ⟨Nat.le_of_ble_eq_true rfl, Nat.le_of_ble_eq_true rfl⟩) (preVR hK hPc (ci := 11) rfl rfl) rfl rfl hl.1 rfl (lv_room (Nat.le_of_ble_eq_true rfl)) dX11_orderedHarm_32 ⟨Nat.le_of_ble_eq_true rfl, Nat.le_of_ble_eq_true rfl⟩) hS (fun q h1 h2 => absurd h2 (Nat.not_le.mpr h1)) (fun q h => hA q (Nat.le_trans hS.1 h)) (fun r3 ur3 t H1 locs ht hvm w4 hB hz1 hk1 hS => ?_)
    have hP := keepR hP hk1
    obtain ⟨w4, w4x⟩ := w4
    subst w4
    have hpost : True := by
      trivial
    refine W.widen (k := 0) (n := 0) (Nat.le_of_ble_eq_true rfl) (Nat.le_of_ble_eq_true rfl) ?_
    exact W.iret (v := rhB fst i o1 o2 q) hx hb hr (fun t ht hW => ⟨⟨rhB fst i o1 o2 q, (), rfl, ⟨hpost, trivial⟩, trivial⟩, hS.F ht⟩) hS.2.2 dX11_orderedHarm_35
  · skip
    have tn921_ : nIT i := fun _ => nI_toInt (by first | omega | (have t := eqI c1; omega))
    have n5 : i = 0 := by have t := eqI c1; rw [show (nI (i)).toInt = ((i : Nat) : Int) from tn921_ ()] at t; have : (0 : Int32).toInt = 0 := qI_0; omega
    refine lv_bipush (v := (-4)) hx hb dX11_orderedHarm_6 (by decide) ?_
    refine lv_goto (tgt := 22) hx hb dX11_orderedHarm_8 (by decide) ?_
    refine lv_aload_n hx hb dX11_orderedHarm_22 rfl (lv_at hl 0 rfl) ?_
    refine va_get (D := (dC, dI)) (ci := 11) (v := .ref st) (C := RX11) (T := TX11) (N := 35) hx hb hg inG11 hown hK.1 hP 0 rfl rfl 0 (by decide) (hg _ wt_878) (fun _ h9 => h9) rfl dX11_orderedHarm_23 ?_
    refine lv_bipush (v := 38) hx hb dX11_orderedHarm_26 (by decide) ?_
    refine lv_iload_n hx hb dX11_orderedHarm_28 rfl (lv_at hl 1 rfl) ?_
    refine lv_iadd hx hb dX11_orderedHarm_29 ?_
    refine lv_cg (y := nI (38 + i)) (by rw [show (38 : Int32) = nI 38 from rfl]; exact nI_add _ _) ?_
    have tn922_ : nIT N := fun _ => nI_toInt (by first | omega | (have t_n5 := n5; omega))
    have tn923_ : nIT B := fun _ => nI_toInt (by first | omega | (have t_n5 := n5; omega))
    have tn924_ : nIT T := fun _ => nI_toInt (by first | omega | (have t_n5 := n5; omega))
    have tn925_ : nIT S := fun _ => nI_toInt (by first | omega | (have t_n5 := n5; omega))
    have tn926_ : nIT M := fun _ => nI_toInt (by first | omega | (have t_n5 := n5; omega))
    refine va_iald hx hb hK.1 hP 1 0 rfl rfl (vp_in_nI (by first | omega | (have t_n5 := n5; have t_n0 : (nI i).toInt = (i : Int) := tn921_ (); have t_n1 : (nI N).toInt = (N : Int) := tn922_ (); have t_n2 : (nI B).toInt = (B : Int) := tn923_ (); have t_n3 : (nI T).toInt = (T : Int) := tn924_ (); have t_n4 : (nI S).toInt = (S : Int) := tn925_ (); have t_n5 : (nI M).toInt = (M : Int) := tn926_ (); omega)) (by decide)) dX11_orderedHarm_30 ?_
    refine lv_cg (y := fst (38 + i)) (by rw [nI_clamp (by omega)]) ?_
    obtain ⟨o2, ho2, eo2⟩ := ord_nat hst (q := (38 + i)) (by omega) (by omega) (by omega)
    refine lv_cg (y := nI o2) eo2 ?_
    refine lv_iload_n hx hb dX11_orderedHarm_31 rfl (lv_at hl 2 rfl) ?_
    have hPc := hP.sub (ws' := [(h0, .inr (11, [.ref st, .int (nI N), .int (nI B), .ref rp, .int vrs, .int vrb, .int vhs, .int vca, .int vxs, .int vxb, .ref tp, .int (nI T), .int vfa, .int vbr, .int vba, .int vsp, .int vhe, .int vtk, .int vva, .ref cu, .ref lt, .ref od, .ref th, .ref be, .ref ln, .int (nI S), .ref ma, .int (nI M), .ref ah, .ref bh, .ref ik, .ref la, .ref lg, .ref ce, .int vto])), (st, .inl (G 0, 196, .inl fst))]) [0, 1] rfl
    have tn927_ : nIT o2 := fun _ => nI_toInt (by first | omega | (have t_n5 := n5; have t_ho2 := ho2; omega))
    refine va_calli (va_runV (As := [.int (nI i), .int (-4), .int (nI o2), .int q]) (rest := []) ⟨hx, hb, hml, hown, hg⟩ (c_X11_harmOfN l dC dI G _ h0 i o2 st N B rp tp T cu lt od th be ln S ma M ah bh ik la lg ce q vrs vrb vhs vca vxs vxb vfa vbr vba vsp vhe vtk vva vto fst hN hB_ hT_ hS0 hM_ hi (by first | omega | (have t_n5 := n5; have t_ho2 := ho2; have t_n0 : (nI i).toInt = (i : Int) := tn921_ (); have t_n1 : (nI N).toInt = (N : Int) := tn922_ (); have t_n2 : (nI B).toInt = (B : Int) := tn923_ (); have t_n3 : (nI T).toInt = (T : Int) := tn924_ (); have t_n4 : (nI S).toInt = (S : Int) := tn925_ (); have t_n5 : (nI M).toInt = (M : Int) := tn926_ (); have t_n6 : (nI o2).toInt = (o2 : Int) := tn927_ (); have : ((-4) : Int32).toInt = -4 := qI_m4; omega))) (kwV hg mfX11_harmOf wt_1106 ⟨Nat.le_of_ble_eq_true rfl, Nat.le_of_ble_eq_true rfl⟩) (preVR hK hPc (ci := 11) rfl rfl) rfl rfl hl.1 rfl (lv_room (Nat.le_of_ble_eq_true rfl)) dX11_orderedHarm_32 ⟨Nat.le_of_ble_eq_true rfl, Nat.le_of_ble_eq_true rfl⟩) hS (fun q h1 h2 => absurd h2 (Nat.not_le.mpr h1)) (fun q h => hA q (Nat.le_trans hS.1 h)) (fun r6 ur6 t H1 locs ht hvm w7 hB hz1 hk1 hS => ?_)
    have hP := keepR hP hk1
    obtain ⟨w7, w7x⟩ := w7
    subst w7
    have hpost : True := by
      trivial
    refine W.widen (k := 0) (n := 0) (Nat.le_of_ble_eq_true rfl) (Nat.le_of_ble_eq_true rfl) ?_
    exact W.iret (v := rhN fst i o2 q) hx hb hr (fun t ht hW => ⟨⟨rhN fst i o2 q, (), rfl, ⟨hpost, trivial⟩, trivial⟩, hS.F ht⟩) hS.2.2 dX11_orderedHarm_35

set_option maxHeartbeats 1000000 in
set_option maxRecDepth 100000 in
theorem c_X11_power (l : Launch) (dC : Nat → ClassId) (dI : Nat → Nat → Nat) (G : Nat → ClassId) (sz : Nat) (nn : Nat) (hnn : nn ≤ 10) : Met l yX11_power (Cond.code yX11_power cX11_power 4 (some .long) :: GT) ({ frames := 0, cells := 0, slots := 0, locals := 0 } : Room) (PcR [.int (nI nn)] dC dI G [] sz) (va_Ql (fun (r : Int64) (u : Unit) => match u with | _ => (r = powF nn) ∧ True) (fun _ _ => True) (fun q : Nat => sz ≤ q)) 0 0 (fun q : Nat => sz ≤ q) := by
  refine Met.ofW (cc := cX11_power) (maxL := 4) (ret := (some .long)) (by decide) rfl ?_
  intro p e s m args below meth c s₁ Bd hml hv
  obtain ⟨rfl, hsz, hP, hK⟩ := hv
  have hx := Bd.exec
  have hb := Bd.bytes
  have hr := Bd.returns
  have hg : ∀ w ∈ GT, w.before ([.int (nI nn)] : List Value).toArray s = true := fun w h => atoms_spec (ws := Cond.code yX11_power cX11_power 4 (some .long) :: GT) Bd.pre w (List.mem_cons_of_mem _ h)
  have hown : s.vm.findClass RX11 = some m.cls := findClass_of_methodNamed Bd.named
  have hlocks := Bd.notSynchronized
  subst hsz
  have hA : ∀ q : Nat, s.heap.size ≤ q → (fun q : Nat => s.heap.size ≤ q) q := fun _ h => h
  have hS : va_S (fun q : Nat => s.heap.size ≤ q) s.heap s.heap [] := va_S.rf
  have hl := lv_entry ([.int (nI nn)]) (n := 4) (Nat.le_of_ble_eq_true rfl)
  rw [lg_entry_eq]
  generalize (lg_sl ([.int (nI nn)]) ++ List.replicate (4 - (lg_sl ([.int (nI nn)])).length) Slot.unset).toArray = ls at hl ⊢
  have hl : lv_has ls 4 [(0, .int (nI nn))] := hl
  refine lv_lconst (v := 1) hx hb dX11_power_0 (by decide) ?_
  refine lv_lstore_n (lv' := [(1, .long 1), (0, .int (nI nn))]) hx hb dX11_power_1 rfl hl (by decide) rfl (fun ls hl => ?_)
  refine lv_iconst (v := 0) hx hb dX11_power_2 (by decide) ?_
  refine lv_istore_n (lv' := [(3, .int 0), (1, .long 1), (0, .int (nI nn))]) hx hb dX11_power_3 rfl hl (by decide) rfl (fun ls hl => ?_)
  have loop4_3 : ∀ (nf j1 : Nat), nn + 1 ≤ j1 + nf → j1 ≤ nn → ∀ (y2 : Int64) (H : Heap) (locs : List Loc), y2 = powF j1 → va_P (dC, dI) vwCl [] H → va_S (fun q : Nat => s.heap.size ≤ q) s.heap H locs → ∀ (ls : Array Slot), lv_has ls 4 [(3, .int (nI j1)), (1, .long y2), (0, .int (nI nn))] → W p l e (headSpec (Cond.code yX11_power cX11_power 4 (some .long) :: GT) ({ frames := 0, cells := 0, slots := 0, locals := 0 } : Room)).room s m ([.int (nI nn)] : List Value).toArray below meth c H locs 0 0 (MQ below (va_Ql (fun (r : Int64) (u : Unit) => match u with | _ => (r = powF nn) ∧ True) (fun _ _ => True) (fun q : Nat => s.heap.size ≤ q)) ([.int (nI nn)] : List Value).toArray s 0 0 (fun q : Nat => s.heap.size ≤ q)) (F0 m 4 ls []) := by
    intro nf
    induction nf with
    | zero => intro j1 h1 h2; exact absurd h1 (by omega)
    | succ nf ih4_3 =>
      intro j1 hn4 hj5 y2 H locs hinv hP hS ls hl
      refine lv_iload_n hx hb dX11_power_4 rfl (lv_at hl 0 rfl) ?_
      refine lv_iload_n hx hb dX11_power_5 rfl (lv_at hl 2 rfl) ?_
      refine lv_icmp_ge (tgt := 21) hx hb dX11_power_6 (by decide) (fun c6 => ?_) (fun c6 => ?_)
      · skip
        have tn928_ : nIT j1 := fun _ => nI_toInt (by first | omega | (have t := leI c6; omega))
        have tn929_ : nIT nn := fun _ => nI_toInt (by omega)
        have n7 : nn ≤ j1 := by have t := leI c6; rw [show (nI (j1)).toInt = ((j1 : Nat) : Int) from tn928_ ()] at t; rw [show (nI (nn)).toInt = ((nn : Nat) : Int) from tn929_ ()] at t; omega
        refine lv_lload_n hx hb dX11_power_21 rfl (lv_at hl 1 rfl) ?_
        have hpost : (y2 : Int64) = powF nn := by
          rw [hinv, show j1 = nn from (by omega)]
        refine W.widen (k := 0) (n := 0) (Nat.le_of_ble_eq_true rfl) (Nat.le_of_ble_eq_true rfl) ?_
        exact W.lret (v := y2) hx hb hr (fun t ht hW => ⟨⟨y2, (), rfl, ⟨hpost, trivial⟩, trivial⟩, hS.F ht⟩) hS.2.2 dX11_power_22
      · skip
        have tn930_ : nIT j1 := fun _ => nI_toInt (by first | omega | (have t := nleI c6; omega))
        have tn931_ : nIT nn := fun _ => nI_toInt (by omega)
        have n8 : j1 < nn := by have t := nleI c6; rw [show (nI (j1)).toInt = ((j1 : Nat) : Int) from tn930_ ()] at t; rw [show (nI (nn)).toInt = ((nn : Nat) : Int) from tn931_ ()] at t; omega
        refine lv_lload_n hx hb dX11_power_9 rfl (lv_at hl 1 rfl) ?_
        refine lv_ldc2 (v := 20) hx hb hown (hg _ wt_1127) dX11_power_10 ?_
        refine lv_lmul hx hb dX11_power_13 ?_
        refine lv_lstore_n (lv' := [(1, .long (y2 * 20)), (3, .int (nI j1)), (0, .int (nI nn))]) hx hb dX11_power_14 rfl hl (by decide) rfl (fun ls hl => ?_)
        refine lv_iinc (v := nI (j1 + 1)) (lv' := [(3, .int (nI (j1 + 1))), (1, .long (y2 * 20)), (0, .int (nI nn))]) hx hb dX11_power_15 hl (k := 1) rfl (by rw [show Int32.ofInt 1 = nI 1 from by decide]; exact nI_add _ _) (by decide) rfl (fun ls hl => ?_)
        refine lv_goto (tgt := 4) hx hb dX11_power_18 (by decide) ?_
        exact ih4_3 (j1 + 1) (by omega) (by omega) (y2 * 20) _ _ (by rw [hinv]; rfl) hP hS ls (lv_sub hl [0, 1, 2] rfl)
  exact loop4_3 (nn + 1) 0 (by omega) (by omega) 1 _ _ rfl hP hS ls (lv_sub hl [0, 1, 2] rfl)

set_option maxHeartbeats 1000000 in
set_option maxRecDepth 100000 in
theorem c_X11_deeper (l : Launch) (dC : Nat → ClassId) (dI : Nat → Nat → Nat) (G : Nat → ClassId) (sz : Nat) (x1 x2 : Nat) (hx1 : x1 ≤ 9) (hx2 : x2 ≤ 2) : Met l yX11_deeper (Cond.code yX11_deeper cX11_deeper 2 (some .int) :: GT) ({ frames := 0, cells := 0, slots := 0, locals := 0 } : Room) (PcR [.int (nI x1), .int (nI x2)] dC dI G [] sz) (va_Qi (fun (r : Int32) (u : Unit) => match u with | _ => (r = nI (min 9 (x1 + x2))) ∧ True) (fun _ _ => True) (fun q : Nat => sz ≤ q)) 0 0 (fun q : Nat => sz ≤ q) := by
  refine Met.ofW (cc := cX11_deeper) (maxL := 2) (ret := (some .int)) (by decide) rfl ?_
  intro p e s m args below meth c s₁ Bd hml hv
  obtain ⟨rfl, hsz, hP, hK⟩ := hv
  have hx := Bd.exec
  have hb := Bd.bytes
  have hr := Bd.returns
  have hg : ∀ w ∈ GT, w.before ([.int (nI x1), .int (nI x2)] : List Value).toArray s = true := fun w h => atoms_spec (ws := Cond.code yX11_deeper cX11_deeper 2 (some .int) :: GT) Bd.pre w (List.mem_cons_of_mem _ h)
  have hown : s.vm.findClass RX11 = some m.cls := findClass_of_methodNamed Bd.named
  have hlocks := Bd.notSynchronized
  subst hsz
  have hA : ∀ q : Nat, s.heap.size ≤ q → (fun q : Nat => s.heap.size ≤ q) q := fun _ h => h
  have hS : va_S (fun q : Nat => s.heap.size ≤ q) s.heap s.heap [] := va_S.rf
  have hl := lv_entry ([.int (nI x1), .int (nI x2)]) (n := 2) (Nat.le_of_ble_eq_true rfl)
  rw [lg_entry_eq]
  generalize (lg_sl ([.int (nI x1), .int (nI x2)]) ++ List.replicate (2 - (lg_sl ([.int (nI x1), .int (nI x2)])).length) Slot.unset).toArray = ls at hl ⊢
  have hl : lv_has ls 2 [(0, .int (nI x1)), (1, .int (nI x2))] := hl
  refine lv_iload_n hx hb dX11_deeper_0 rfl (lv_at hl 0 rfl) ?_
  refine lv_iload_n hx hb dX11_deeper_1 rfl (lv_at hl 1 rfl) ?_
  refine lv_iadd hx hb dX11_deeper_2 ?_
  refine lv_cg (y := nI (x1 + x2)) (by exact nI_add _ _) ?_
  refine lv_bipush (v := 9) hx hb dX11_deeper_3 (by decide) ?_
  refine lv_icmp_le (tgt := 13) hx hb dX11_deeper_5 (by decide) (fun c1 => ?_) (fun c1 => ?_)
  · skip
    have tn932_ : nIT (x1 + x2) := fun _ => nI_toInt (by first | omega | (have t := leI c1; omega))
    have n2 : (x1 + x2) ≤ 9 := by have t := leI c1; rw [show (nI (x1 + x2)).toInt = ((x1 + x2 : Nat) : Int) from tn932_ ()] at t; have : (9 : Int32).toInt = 9 := qI_9; omega
    refine lv_iload_n hx hb dX11_deeper_13 rfl (lv_at hl 0 rfl) ?_
    refine lv_iload_n hx hb dX11_deeper_14 rfl (lv_at hl 1 rfl) ?_
    refine lv_iadd hx hb dX11_deeper_15 ?_
    refine lv_cg (y := nI (x1 + x2)) (by exact nI_add _ _) ?_
    have hpost : (nI (x1 + x2) : Int32) = nI (min 9 (x1 + x2)) := by
      have t_n2 := n2
      have tn933_ : nIT x1 := fun _ => nI_toInt (by omega)
      have t_n0 : (nI x1).toInt = (x1 : Int) := tn933_ ()
      have tn934_ : nIT x2 := fun _ => nI_toInt (by omega)
      have t_n1 : (nI x2).toInt = (x2 : Int) := tn934_ ()
      rw [show min 9 (x1 + x2) = x1 + x2 from (by omega)]
    refine W.widen (k := 0) (n := 0) (Nat.le_of_ble_eq_true rfl) (Nat.le_of_ble_eq_true rfl) ?_
    exact W.iret (v := nI (x1 + x2)) hx hb hr (fun t ht hW => ⟨⟨nI (x1 + x2), (), rfl, ⟨hpost, trivial⟩, trivial⟩, hS.F ht⟩) hS.2.2 dX11_deeper_16
  · skip
    have tn935_ : nIT (x1 + x2) := fun _ => nI_toInt (by first | omega | (have t := nleI c1; omega))
    have n3 : 9 < (x1 + x2) := by have t := nleI c1; rw [show (nI (x1 + x2)).toInt = ((x1 + x2 : Nat) : Int) from tn935_ ()] at t; have : (9 : Int32).toInt = 9 := qI_9; omega
    refine lv_bipush (v := 9) hx hb dX11_deeper_8 (by decide) ?_
    refine lv_goto (tgt := 16) hx hb dX11_deeper_10 (by decide) ?_
    have hpost : (9 : Int32) = nI (min 9 (x1 + x2)) := by
      have t_n3 := n3
      have tn936_ : nIT x1 := fun _ => nI_toInt (by omega)
      have t_n0 : (nI x1).toInt = (x1 : Int) := tn936_ ()
      have tn937_ : nIT x2 := fun _ => nI_toInt (by omega)
      have t_n1 : (nI x2).toInt = (x2 : Int) := tn937_ ()
      rw [show min 9 (x1 + x2) = 9 from (by omega)]; rfl
    refine W.widen (k := 0) (n := 0) (Nat.le_of_ble_eq_true rfl) (Nat.le_of_ble_eq_true rfl) ?_
    exact W.iret (v := 9) hx hb hr (fun t ht hW => ⟨⟨9, (), rfl, ⟨hpost, trivial⟩, trivial⟩, hS.F ht⟩) hS.2.2 dX11_deeper_16

set_option maxHeartbeats 1000000 in
set_option maxRecDepth 100000 in
theorem c_X11_layOdds (l : Launch) (dC : Nat → ClassId) (dI : Nat → Nat → Nat) (G : Nat → ClassId) (sz : Nat) (h0 nn st N B rp tp T cu lt od th be ln S ma M ah bh ik la lg ce : Nat) (x1 x2 vrs vrb vhs vca vxs vxb vfa vbr vba vsp vhe vtk vva vto : Int32) (fst : Nat → Int32) (fod : Nat → Int64) (fth : Nat → Int64) (hN : N ≤ 10) (hB : B ≤ 6) (hT : T ≤ 320) (hS0 : S ≤ 8) (hM : M ≤ 6) (hst : OKS fst) (hnn : nn ≤ 10) : Met l yX11_layOdds (Cond.code yX11_layOdds cX11_layOdds 8 none :: GT) ({ frames := 3, cells := 0, slots := 0, locals := 72 } : Room) (PcW [.ref h0, .int (nI nn), .int x1, .int x2] dC dI G [(h0, .inr (11, [.ref st, .int (nI N), .int (nI B), .ref rp, .int vrs, .int vrb, .int vhs, .int vca, .int vxs, .int vxb, .ref tp, .int (nI T), .int vfa, .int vbr, .int vba, .int vsp, .int vhe, .int vtk, .int vva, .ref cu, .ref lt, .ref od, .ref th, .ref be, .ref ln, .int (nI S), .ref ma, .int (nI M), .ref ah, .ref bh, .ref ik, .ref la, .ref lg, .ref ce, .int vto])), (st, .inl (G 0, 196, .inl fst)), (od, .inl (G 1, 10, .inr (.inl fod))), (th, .inl (G 1, 10, .inr (.inl fth)))] sz) (va_Qv (fun (u : (Nat → Int64) × (Nat → Int64)) => match u with | (ood, oth) => True) (fun (u : (Nat → Int64) × (Nat → Int64)) (t : State) => match u with | (ood, oth) => va_P (dC, dI) vwCl [(h0, .inr (11, [.ref st, .int (nI N), .int (nI B), .ref rp, .int vrs, .int vrb, .int vhs, .int vca, .int vxs, .int vxb, .ref tp, .int (nI T), .int vfa, .int vbr, .int vba, .int vsp, .int vhe, .int vtk, .int vva, .ref cu, .ref lt, .ref od, .ref th, .ref be, .ref ln, .int (nI S), .ref ma, .int (nI M), .ref ah, .ref bh, .ref ik, .ref la, .ref lg, .ref ce, .int vto])), (st, .inl (G 0, 196, .inl fst)), (od, .inl (G 1, 10, .inr (.inl ood))), (th, .inl (G 1, 10, .inr (.inl oth)))] t.heap ∧ va_D (va_A [(h0, .inr (11, [.ref st, .int (nI N), .int (nI B), .ref rp, .int vrs, .int vrb, .int vhs, .int vca, .int vxs, .int vxb, .ref tp, .int (nI T), .int vfa, .int vbr, .int vba, .int vsp, .int vhe, .int vtk, .int vva, .ref cu, .ref lt, .ref od, .ref th, .ref be, .ref ln, .int (nI S), .ref ma, .int (nI M), .ref ah, .ref bh, .ref ik, .ref la, .ref lg, .ref ce, .int vto])), (st, .inl (G 0, 196, .inl fst)), (od, .inl (G 1, 10, .inr (.inl fod))), (th, .inl (G 1, 10, .inr (.inl fth)))] sz) [(h0, .inr (11, [.ref st, .int (nI N), .int (nI B), .ref rp, .int vrs, .int vrb, .int vhs, .int vca, .int vxs, .int vxb, .ref tp, .int (nI T), .int vfa, .int vbr, .int vba, .int vsp, .int vhe, .int vtk, .int vva, .ref cu, .ref lt, .ref od, .ref th, .ref be, .ref ln, .int (nI S), .ref ma, .int (nI M), .ref ah, .ref bh, .ref ik, .ref la, .ref lg, .ref ce, .int vto])), (st, .inl (G 0, 196, .inl fst)), (od, .inl (G 1, 10, .inr (.inl ood))), (th, .inl (G 1, 10, .inr (.inl oth)))]) (va_A [(h0, .inr (11, [.ref st, .int (nI N), .int (nI B), .ref rp, .int vrs, .int vrb, .int vhs, .int vca, .int vxs, .int vxb, .ref tp, .int (nI T), .int vfa, .int vbr, .int vba, .int vsp, .int vhe, .int vtk, .int vva, .ref cu, .ref lt, .ref od, .ref th, .ref be, .ref ln, .int (nI S), .ref ma, .int (nI M), .ref ah, .ref bh, .ref ik, .ref la, .ref lg, .ref ce, .int vto])), (st, .inl (G 0, 196, .inl fst)), (od, .inl (G 1, 10, .inr (.inl fod))), (th, .inl (G 1, 10, .inr (.inl fth)))] sz)) 0 0 (va_A [(h0, .inr (11, [.ref st, .int (nI N), .int (nI B), .ref rp, .int vrs, .int vrb, .int vhs, .int vca, .int vxs, .int vxb, .ref tp, .int (nI T), .int vfa, .int vbr, .int vba, .int vsp, .int vhe, .int vtk, .int vva, .ref cu, .ref lt, .ref od, .ref th, .ref be, .ref ln, .int (nI S), .ref ma, .int (nI M), .ref ah, .ref bh, .ref ik, .ref la, .ref lg, .ref ce, .int vto])), (st, .inl (G 0, 196, .inl fst)), (od, .inl (G 1, 10, .inr (.inl fod))), (th, .inl (G 1, 10, .inr (.inl fth)))] sz) := by
  have hB_ := hB
  have hM_ := hM
  have hT_ := hT
  refine Met.ofW (cc := cX11_layOdds) (maxL := 8) (ret := none) (by decide) rfl ?_
  intro p e s m args below meth c s₁ Bd hml hv
  obtain ⟨rfl, hsz, hP, hK, hD0⟩ := hv
  have hx := Bd.exec
  have hb := Bd.bytes
  have hr := Bd.returns
  have hg : ∀ w ∈ GT, w.before ([.ref h0, .int (nI nn), .int x1, .int x2] : List Value).toArray s = true := fun w h => atoms_spec (ws := Cond.code yX11_layOdds cX11_layOdds 8 none :: GT) Bd.pre w (List.mem_cons_of_mem _ h)
  have hown : s.vm.findClass RX11 = some m.cls := findClass_of_methodNamed Bd.named
  have hlocks := Bd.notSynchronized
  subst hsz
  have hD := hD0.self (sz := s.heap.size)
  generalize hAe : va_A [(h0, .inr (11, [.ref st, .int (nI N), .int (nI B), .ref rp, .int vrs, .int vrb, .int vhs, .int vca, .int vxs, .int vxb, .ref tp, .int (nI T), .int vfa, .int vbr, .int vba, .int vsp, .int vhe, .int vtk, .int vva, .ref cu, .ref lt, .ref od, .ref th, .ref be, .ref ln, .int (nI S), .ref ma, .int (nI M), .ref ah, .ref bh, .ref ik, .ref la, .ref lg, .ref ce, .int vto])), (st, .inl (G 0, 196, .inl fst)), (od, .inl (G 1, 10, .inr (.inl fod))), (th, .inl (G 1, 10, .inr (.inl fth)))] s.heap.size = A at hD ⊢
  have hA : ∀ q : Nat, s.heap.size ≤ q → A q := fun q h => by rw [← hAe]; exact Or.inr h
  have hS : va_S A s.heap s.heap [] := va_S.rf
  have hl := lv_entry ([.ref h0, .int (nI nn), .int x1, .int x2]) (n := 8) (Nat.le_of_ble_eq_true rfl)
  rw [lg_entry_eq]
  generalize (lg_sl ([.ref h0, .int (nI nn), .int x1, .int x2]) ++ List.replicate (8 - (lg_sl ([.ref h0, .int (nI nn), .int x1, .int x2])).length) Slot.unset).toArray = ls at hl ⊢
  have hl : lv_has ls 8 [(0, .ref h0), (1, .int (nI nn)), (2, .int x1), (3, .int x2)] := hl
  refine lv_iconst (v := 0) hx hb dX11_layOdds_0 (by decide) ?_
  refine lv_istore (lv' := [(4, .int 0), (0, .ref h0), (1, .int (nI nn)), (2, .int x1), (3, .int x2)]) hx hb dX11_layOdds_1 hl (by decide) rfl (fun ls hl => ?_)
  have loop3_3 : ∀ (nf j1 : Nat), 10 + 1 ≤ j1 + nf → j1 ≤ 10 → ∀ (g2 : Nat → Int64) (H : Heap) (locs : List Loc), va_P (dC, dI) vwCl [(h0, .inr (11, [.ref st, .int (nI N), .int (nI B), .ref rp, .int vrs, .int vrb, .int vhs, .int vca, .int vxs, .int vxb, .ref tp, .int (nI T), .int vfa, .int vbr, .int vba, .int vsp, .int vhe, .int vtk, .int vva, .ref cu, .ref lt, .ref od, .ref th, .ref be, .ref ln, .int (nI S), .ref ma, .int (nI M), .ref ah, .ref bh, .ref ik, .ref la, .ref lg, .ref ce, .int vto])), (st, .inl (G 0, 196, .inl fst)), (od, .inl (G 1, 10, .inr (.inl g2))), (th, .inl (G 1, 10, .inr (.inl fth)))] H → va_D A [(h0, .inr (11, [.ref st, .int (nI N), .int (nI B), .ref rp, .int vrs, .int vrb, .int vhs, .int vca, .int vxs, .int vxb, .ref tp, .int (nI T), .int vfa, .int vbr, .int vba, .int vsp, .int vhe, .int vtk, .int vva, .ref cu, .ref lt, .ref od, .ref th, .ref be, .ref ln, .int (nI S), .ref ma, .int (nI M), .ref ah, .ref bh, .ref ik, .ref la, .ref lg, .ref ce, .int vto])), (st, .inl (G 0, 196, .inl fst)), (od, .inl (G 1, 10, .inr (.inl g2))), (th, .inl (G 1, 10, .inr (.inl fth)))] → va_S A s.heap H locs → ∀ (ls : Array Slot), lv_has ls 8 [(4, .int (nI j1)), (0, .ref h0), (1, .int (nI nn)), (2, .int x1), (3, .int x2)] → W p l e (headSpec (Cond.code yX11_layOdds cX11_layOdds 8 none :: GT) ({ frames := 3, cells := 0, slots := 0, locals := 72 } : Room)).room s m ([.ref h0, .int (nI nn), .int x1, .int x2] : List Value).toArray below meth c H locs 0 0 (MQ below (va_Qv (fun (u : (Nat → Int64) × (Nat → Int64)) => match u with | (ood, oth) => True) (fun (u : (Nat → Int64) × (Nat → Int64)) (t : State) => match u with | (ood, oth) => va_P (dC, dI) vwCl [(h0, .inr (11, [.ref st, .int (nI N), .int (nI B), .ref rp, .int vrs, .int vrb, .int vhs, .int vca, .int vxs, .int vxb, .ref tp, .int (nI T), .int vfa, .int vbr, .int vba, .int vsp, .int vhe, .int vtk, .int vva, .ref cu, .ref lt, .ref od, .ref th, .ref be, .ref ln, .int (nI S), .ref ma, .int (nI M), .ref ah, .ref bh, .ref ik, .ref la, .ref lg, .ref ce, .int vto])), (st, .inl (G 0, 196, .inl fst)), (od, .inl (G 1, 10, .inr (.inl ood))), (th, .inl (G 1, 10, .inr (.inl oth)))] t.heap ∧ va_D A [(h0, .inr (11, [.ref st, .int (nI N), .int (nI B), .ref rp, .int vrs, .int vrb, .int vhs, .int vca, .int vxs, .int vxb, .ref tp, .int (nI T), .int vfa, .int vbr, .int vba, .int vsp, .int vhe, .int vtk, .int vva, .ref cu, .ref lt, .ref od, .ref th, .ref be, .ref ln, .int (nI S), .ref ma, .int (nI M), .ref ah, .ref bh, .ref ik, .ref la, .ref lg, .ref ce, .int vto])), (st, .inl (G 0, 196, .inl fst)), (od, .inl (G 1, 10, .inr (.inl ood))), (th, .inl (G 1, 10, .inr (.inl oth)))]) A) ([.ref h0, .int (nI nn), .int x1, .int x2] : List Value).toArray s 0 0 A) (F0 m 3 ls []) := by
    intro nf
    induction nf with
    | zero => intro j1 h1 h2; exact absurd h1 (by omega)
    | succ nf ih3_3 =>
      intro j1 hn4 hj5 g2 H locs hP hD hS ls hl
      refine lv_iload hx hb dX11_layOdds_3 (lv_at hl 0 rfl) ?_
      refine lv_bipush (v := 10) hx hb dX11_layOdds_5 (by decide) ?_
      refine lv_icmp_ge (tgt := 37) hx hb dX11_layOdds_7 (by decide) (fun c6 => ?_) (fun c6 => ?_)
      · skip
        have tn938_ : nIT j1 := fun _ => nI_toInt (by first | omega | (have t := leI c6; omega))
        have n7 : 10 ≤ j1 := by have t := leI c6; rw [show (nI (j1)).toInt = ((j1 : Nat) : Int) from tn938_ ()] at t; have : (10 : Int32).toInt = 10 := qI_10; omega
        refine lv_iconst (v := 0) hx hb dX11_layOdds_37 (by decide) ?_
        refine lv_istore (lv' := [(4, .int 0), (0, .ref h0), (1, .int (nI nn)), (2, .int x1), (3, .int x2)]) hx hb dX11_layOdds_38 hl (by decide) rfl (fun ls hl => ?_)
        have loop40_11 : ∀ (nf j8 : Nat), nn + 1 ≤ j8 + nf → j8 ≤ nn → ∀ (g9 : Nat → Int64) (g10 : Nat → Int64) (H : Heap) (locs : List Loc), va_P (dC, dI) vwCl [(h0, .inr (11, [.ref st, .int (nI N), .int (nI B), .ref rp, .int vrs, .int vrb, .int vhs, .int vca, .int vxs, .int vxb, .ref tp, .int (nI T), .int vfa, .int vbr, .int vba, .int vsp, .int vhe, .int vtk, .int vva, .ref cu, .ref lt, .ref od, .ref th, .ref be, .ref ln, .int (nI S), .ref ma, .int (nI M), .ref ah, .ref bh, .ref ik, .ref la, .ref lg, .ref ce, .int vto])), (st, .inl (G 0, 196, .inl fst)), (od, .inl (G 1, 10, .inr (.inl g9))), (th, .inl (G 1, 10, .inr (.inl g10)))] H → va_D A [(h0, .inr (11, [.ref st, .int (nI N), .int (nI B), .ref rp, .int vrs, .int vrb, .int vhs, .int vca, .int vxs, .int vxb, .ref tp, .int (nI T), .int vfa, .int vbr, .int vba, .int vsp, .int vhe, .int vtk, .int vva, .ref cu, .ref lt, .ref od, .ref th, .ref be, .ref ln, .int (nI S), .ref ma, .int (nI M), .ref ah, .ref bh, .ref ik, .ref la, .ref lg, .ref ce, .int vto])), (st, .inl (G 0, 196, .inl fst)), (od, .inl (G 1, 10, .inr (.inl g9))), (th, .inl (G 1, 10, .inr (.inl g10)))] → va_S A s.heap H locs → ∀ (ls : Array Slot), lv_has ls 8 [(4, .int (nI j8)), (0, .ref h0), (1, .int (nI nn)), (2, .int x1), (3, .int x2)] → W p l e (headSpec (Cond.code yX11_layOdds cX11_layOdds 8 none :: GT) ({ frames := 3, cells := 0, slots := 0, locals := 72 } : Room)).room s m ([.ref h0, .int (nI nn), .int x1, .int x2] : List Value).toArray below meth c H locs 0 0 (MQ below (va_Qv (fun (u : (Nat → Int64) × (Nat → Int64)) => match u with | (ood, oth) => True) (fun (u : (Nat → Int64) × (Nat → Int64)) (t : State) => match u with | (ood, oth) => va_P (dC, dI) vwCl [(h0, .inr (11, [.ref st, .int (nI N), .int (nI B), .ref rp, .int vrs, .int vrb, .int vhs, .int vca, .int vxs, .int vxb, .ref tp, .int (nI T), .int vfa, .int vbr, .int vba, .int vsp, .int vhe, .int vtk, .int vva, .ref cu, .ref lt, .ref od, .ref th, .ref be, .ref ln, .int (nI S), .ref ma, .int (nI M), .ref ah, .ref bh, .ref ik, .ref la, .ref lg, .ref ce, .int vto])), (st, .inl (G 0, 196, .inl fst)), (od, .inl (G 1, 10, .inr (.inl ood))), (th, .inl (G 1, 10, .inr (.inl oth)))] t.heap ∧ va_D A [(h0, .inr (11, [.ref st, .int (nI N), .int (nI B), .ref rp, .int vrs, .int vrb, .int vhs, .int vca, .int vxs, .int vxb, .ref tp, .int (nI T), .int vfa, .int vbr, .int vba, .int vsp, .int vhe, .int vtk, .int vva, .ref cu, .ref lt, .ref od, .ref th, .ref be, .ref ln, .int (nI S), .ref ma, .int (nI M), .ref ah, .ref bh, .ref ik, .ref la, .ref lg, .ref ce, .int vto])), (st, .inl (G 0, 196, .inl fst)), (od, .inl (G 1, 10, .inr (.inl ood))), (th, .inl (G 1, 10, .inr (.inl oth)))]) A) ([.ref h0, .int (nI nn), .int x1, .int x2] : List Value).toArray s 0 0 A) (F0 m 40 ls []) := by
          intro nf
          induction nf with
          | zero => intro j8 h1 h2; exact absurd h1 (by omega)
          | succ nf ih40_11 =>
            intro j8 hn12 hj13 g9 g10 H locs hP hD hS ls hl
            refine lv_iload hx hb dX11_layOdds_40 (lv_at hl 0 rfl) ?_
            refine lv_iload_n hx hb dX11_layOdds_42 rfl (lv_at hl 2 rfl) ?_
            refine lv_icmp_ge (tgt := 231) hx hb dX11_layOdds_43 (by decide) (fun c14 => ?_) (fun c14 => ?_)
            · skip
              have tn939_ : nIT j8 := fun _ => nI_toInt (by first | omega | (have t := leI c14; omega))
              have tn940_ : nIT nn := fun _ => nI_toInt (by omega)
              have n15 : nn ≤ j8 := by have t := leI c14; rw [show (nI (j8)).toInt = ((j8 : Nat) : Int) from tn939_ ()] at t; rw [show (nI (nn)).toInt = ((nn : Nat) : Int) from tn940_ ()] at t; omega
              have hP9 := hP.sub (ws' := [(h0, .inr (11, [.ref st, .int (nI N), .int (nI B), .ref rp, .int vrs, .int vrb, .int vhs, .int vca, .int vxs, .int vxb, .ref tp, .int (nI T), .int vfa, .int vbr, .int vba, .int vsp, .int vhe, .int vtk, .int vva, .ref cu, .ref lt, .ref od, .ref th, .ref be, .ref ln, .int (nI S), .ref ma, .int (nI M), .ref ah, .ref bh, .ref ik, .ref la, .ref lg, .ref ce, .int vto])), (st, .inl (G 0, 196, .inl fst)), (od, .inl (G 1, 10, .inr (.inl g9))), (th, .inl (G 1, 10, .inr (.inl g10)))]) [0, 1, 2, 3] rfl
              have hD9 := hD.sub (ws' := [(h0, .inr (11, [.ref st, .int (nI N), .int (nI B), .ref rp, .int vrs, .int vrb, .int vhs, .int vca, .int vxs, .int vxb, .ref tp, .int (nI T), .int vfa, .int vbr, .int vba, .int vsp, .int vhe, .int vtk, .int vva, .ref cu, .ref lt, .ref od, .ref th, .ref be, .ref ln, .int (nI S), .ref ma, .int (nI M), .ref ah, .ref bh, .ref ik, .ref la, .ref lg, .ref ce, .int vto])), (st, .inl (G 0, 196, .inl fst)), (od, .inl (G 1, 10, .inr (.inl g9))), (th, .inl (G 1, 10, .inr (.inl g10)))]) [0, 1, 2, 3] (by decide) rfl
              refine W.widen (k := 0) (n := 0) (Nat.le_of_ble_eq_true rfl) (Nat.le_of_ble_eq_true rfl) ?_
              exact W.vret hx hb hr (fun t ht hW => ⟨⟨(g9, g10), rfl, trivial, ⟨by rw [ht]; exact hP9, hD9⟩⟩, hS.F ht⟩) hS.2.2 dX11_layOdds_231
            · skip
              have tn941_ : nIT j8 := fun _ => nI_toInt (by first | omega | (have t := nleI c14; omega))
              have tn942_ : nIT nn := fun _ => nI_toInt (by omega)
              have n16 : j8 < nn := by have t := nleI c14; rw [show (nI (j8)).toInt = ((j8 : Nat) : Int) from tn941_ ()] at t; rw [show (nI (nn)).toInt = ((nn : Nat) : Int) from tn942_ ()] at t; omega
              refine lv_aload_n hx hb dX11_layOdds_46 rfl (lv_at hl 1 rfl) ?_
              refine lv_iload hx hb dX11_layOdds_47 (lv_at hl 0 rfl) ?_
              refine lv_iload_n hx hb dX11_layOdds_49 rfl (lv_at hl 3 rfl) ?_
              refine lv_iload hx hb dX11_layOdds_50 (lv_at hl 0 rfl) ?_
              refine lv_ishr hx hb dX11_layOdds_52 ?_
              refine lv_iconst (v := 1) hx hb dX11_layOdds_53 (by decide) ?_
              refine lv_iand hx hb dX11_layOdds_54 ?_
              refine lv_topi (fun v17 ev17 => ?_)
              refine lv_iconst (v := 1) hx hb dX11_layOdds_55 (by decide) ?_
              have cut64_20 : ∀ (k19 : Nat) (H : Heap) (locs : List Loc), k19 ≤ 1 → va_P (dC, dI) vwCl [(h0, .inr (11, [.ref st, .int (nI N), .int (nI B), .ref rp, .int vrs, .int vrb, .int vhs, .int vca, .int vxs, .int vxb, .ref tp, .int (nI T), .int vfa, .int vbr, .int vba, .int vsp, .int vhe, .int vtk, .int vva, .ref cu, .ref lt, .ref od, .ref th, .ref be, .ref ln, .int (nI S), .ref ma, .int (nI M), .ref ah, .ref bh, .ref ik, .ref la, .ref lg, .ref ce, .int vto])), (st, .inl (G 0, 196, .inl fst)), (od, .inl (G 1, 10, .inr (.inl g9))), (th, .inl (G 1, 10, .inr (.inl g10)))] H → va_D A [(h0, .inr (11, [.ref st, .int (nI N), .int (nI B), .ref rp, .int vrs, .int vrb, .int vhs, .int vca, .int vxs, .int vxb, .ref tp, .int (nI T), .int vfa, .int vbr, .int vba, .int vsp, .int vhe, .int vtk, .int vva, .ref cu, .ref lt, .ref od, .ref th, .ref be, .ref ln, .int (nI S), .ref ma, .int (nI M), .ref ah, .ref bh, .ref ik, .ref la, .ref lg, .ref ce, .int vto])), (st, .inl (G 0, 196, .inl fst)), (od, .inl (G 1, 10, .inr (.inl g9))), (th, .inl (G 1, 10, .inr (.inl g10)))] → va_S A s.heap H locs → ∀ (ls : Array Slot), lv_has ls 8 [(4, .int (nI j8)), (0, .ref h0), (1, .int (nI nn)), (2, .int x1), (3, .int x2)] → W p l e (headSpec (Cond.code yX11_layOdds cX11_layOdds 8 none :: GT) ({ frames := 3, cells := 0, slots := 0, locals := 72 } : Room)).room s m ([.ref h0, .int (nI nn), .int x1, .int x2] : List Value).toArray below meth c H locs 0 0 (MQ below (va_Qv (fun (u : (Nat → Int64) × (Nat → Int64)) => match u with | (ood, oth) => True) (fun (u : (Nat → Int64) × (Nat → Int64)) (t : State) => match u with | (ood, oth) => va_P (dC, dI) vwCl [(h0, .inr (11, [.ref st, .int (nI N), .int (nI B), .ref rp, .int vrs, .int vrb, .int vhs, .int vca, .int vxs, .int vxb, .ref tp, .int (nI T), .int vfa, .int vbr, .int vba, .int vsp, .int vhe, .int vtk, .int vva, .ref cu, .ref lt, .ref od, .ref th, .ref be, .ref ln, .int (nI S), .ref ma, .int (nI M), .ref ah, .ref bh, .ref ik, .ref la, .ref lg, .ref ce, .int vto])), (st, .inl (G 0, 196, .inl fst)), (od, .inl (G 1, 10, .inr (.inl ood))), (th, .inl (G 1, 10, .inr (.inl oth)))] t.heap ∧ va_D A [(h0, .inr (11, [.ref st, .int (nI N), .int (nI B), .ref rp, .int vrs, .int vrb, .int vhs, .int vca, .int vxs, .int vxb, .ref tp, .int (nI T), .int vfa, .int vbr, .int vba, .int vsp, .int vhe, .int vtk, .int vva, .ref cu, .ref lt, .ref od, .ref th, .ref be, .ref ln, .int (nI S), .ref ma, .int (nI M), .ref ah, .ref bh, .ref ik, .ref la, .ref lg, .ref ce, .int vto])), (st, .inl (G 0, 196, .inl fst)), (od, .inl (G 1, 10, .inr (.inl ood))), (th, .inl (G 1, 10, .inr (.inl oth)))]) A) ([.ref h0, .int (nI nn), .int x1, .int x2] : List Value).toArray s 0 0 A) (F0 m 64 ls [.int (nI k19), .int (nI j8), .ref h0]) := by
                intro k19 H locs hb_k19 hP hD hS ls hl
                have hPc := hP.sub (ws' := [(h0, .inr (11, [.ref st, .int (nI N), .int (nI B), .ref rp, .int vrs, .int vrb, .int vhs, .int vca, .int vxs, .int vxb, .ref tp, .int (nI T), .int vfa, .int vbr, .int vba, .int vsp, .int vhe, .int vtk, .int vva, .ref cu, .ref lt, .ref od, .ref th, .ref be, .ref ln, .int (nI S), .ref ma, .int (nI M), .ref ah, .ref bh, .ref ik, .ref la, .ref lg, .ref ce, .int vto])), (st, .inl (G 0, 196, .inl fst))]) [0, 1] rfl
                have tn943_ : nIT N := fun _ => nI_toInt (by first | omega | (have t_hj5 := hj5; have t_n7 := n7; have t_hj13 := hj13; have t_n16 := n16; have t_hb_k19 := hb_k19; omega))
                have tn944_ : nIT B := fun _ => nI_toInt (by first | omega | (have t_hj5 := hj5; have t_n7 := n7; have t_hj13 := hj13; have t_n16 := n16; have t_hb_k19 := hb_k19; omega))
                have tn945_ : nIT T := fun _ => nI_toInt (by first | omega | (have t_hj5 := hj5; have t_n7 := n7; have t_hj13 := hj13; have t_n16 := n16; have t_hb_k19 := hb_k19; omega))
                have tn946_ : nIT S := fun _ => nI_toInt (by first | omega | (have t_hj5 := hj5; have t_n7 := n7; have t_hj13 := hj13; have t_n16 := n16; have t_hb_k19 := hb_k19; omega))
                have tn947_ : nIT M := fun _ => nI_toInt (by first | omega | (have t_hj5 := hj5; have t_n7 := n7; have t_hj13 := hj13; have t_n16 := n16; have t_hb_k19 := hb_k19; omega))
                have tn948_ : nIT k19 := fun _ => nI_toInt (by first | omega | (have t_hj5 := hj5; have t_n7 := n7; have t_hj13 := hj13; have t_n16 := n16; have t_hb_k19 := hb_k19; omega))
                refine va_calli (va_runV (As := [.int (nI j8), .int (nI k19)]) (rest := []) ⟨hx, hb, hml, hown, hg⟩ (c_X11_orderedHarm l dC dI G _ h0 j8 st N B rp tp T cu lt od th be ln S ma M ah bh ik la lg ce (nI k19) vrs vrb vhs vca vxs vxb vfa vbr vba vsp vhe vtk vva vto fst hN hB_ hT_ hS0 hM_ (by first | omega | (have t_hj5 := hj5; have t_n7 := n7; have t_hj13 := hj13; have t_n16 := n16; have t_hb_k19 := hb_k19; have t_n0 : (nI nn).toInt = (nn : Int) := tn942_ (); have t_n1 : (nI N).toInt = (N : Int) := tn943_ (); have t_n2 : (nI B).toInt = (B : Int) := tn944_ (); have t_n3 : (nI T).toInt = (T : Int) := tn945_ (); have t_n4 : (nI S).toInt = (S : Int) := tn946_ (); have t_n5 : (nI M).toInt = (M : Int) := tn947_ (); have t_n6 : (nI j1).toInt = (j1 : Int) := tn938_ (); have t_n7 : (nI j8).toInt = (j8 : Int) := tn941_ (); have t_n8 : (nI k19).toInt = (k19 : Int) := tn948_ (); omega)) hst) (kwV hg mfX11_orderedHarm wt_1123 ⟨Nat.le_of_ble_eq_true rfl, Nat.le_of_ble_eq_true rfl⟩) (preVR hK hPc (ci := 11) rfl rfl) rfl rfl hl.1 rfl (lv_room (Nat.le_of_ble_eq_true rfl)) dX11_layOdds_64 ⟨Nat.le_of_ble_eq_true rfl, Nat.le_of_ble_eq_true rfl⟩) hS (fun q h1 h2 => absurd h2 (Nat.not_le.mpr h1)) (fun q h => hA q (Nat.le_trans hS.1 h)) (fun r21 ur21 t H1 locs ht hvm w22 hB hz1 hk1 hS => ?_)
                have hP := keepR hP hk1
                obtain ⟨w22, w22x⟩ := w22
                refine lv_istore (lv' := [(5, .int r21), (4, .int (nI j8)), (0, .ref h0), (1, .int (nI nn)), (2, .int x1), (3, .int x2)]) hx hb dX11_layOdds_67 hl (by decide) rfl (fun ls hl => ?_)
                refine lv_iconst (v := 0) hx hb dX11_layOdds_69 (by decide) ?_
                refine lv_istore (lv' := [(6, .int 0), (5, .int r21), (4, .int (nI j8)), (0, .ref h0), (1, .int (nI nn)), (2, .int x1), (3, .int x2)]) hx hb dX11_layOdds_70 hl (by decide) rfl (fun ls hl => ?_)
                have loop72_25 : ∀ (nf j23 : Nat), 10 + 1 ≤ j23 + nf → j23 ≤ 10 → ∀ (g24 : Nat → Int64) (H : Heap) (locs : List Loc), va_P (dC, dI) vwCl [(h0, .inr (11, [.ref st, .int (nI N), .int (nI B), .ref rp, .int vrs, .int vrb, .int vhs, .int vca, .int vxs, .int vxb, .ref tp, .int (nI T), .int vfa, .int vbr, .int vba, .int vsp, .int vhe, .int vtk, .int vva, .ref cu, .ref lt, .ref od, .ref th, .ref be, .ref ln, .int (nI S), .ref ma, .int (nI M), .ref ah, .ref bh, .ref ik, .ref la, .ref lg, .ref ce, .int vto])), (st, .inl (G 0, 196, .inl fst)), (od, .inl (G 1, 10, .inr (.inl g9))), (th, .inl (G 1, 10, .inr (.inl g24)))] H → va_D A [(h0, .inr (11, [.ref st, .int (nI N), .int (nI B), .ref rp, .int vrs, .int vrb, .int vhs, .int vca, .int vxs, .int vxb, .ref tp, .int (nI T), .int vfa, .int vbr, .int vba, .int vsp, .int vhe, .int vtk, .int vva, .ref cu, .ref lt, .ref od, .ref th, .ref be, .ref ln, .int (nI S), .ref ma, .int (nI M), .ref ah, .ref bh, .ref ik, .ref la, .ref lg, .ref ce, .int vto])), (st, .inl (G 0, 196, .inl fst)), (od, .inl (G 1, 10, .inr (.inl g9))), (th, .inl (G 1, 10, .inr (.inl g24)))] → va_S A s.heap H locs → ∀ (ls : Array Slot), lv_has ls 8 [(6, .int (nI j23)), (5, .int r21), (4, .int (nI j8)), (0, .ref h0), (1, .int (nI nn)), (2, .int x1), (3, .int x2)] → W p l e (headSpec (Cond.code yX11_layOdds cX11_layOdds 8 none :: GT) ({ frames := 3, cells := 0, slots := 0, locals := 72 } : Room)).room s m ([.ref h0, .int (nI nn), .int x1, .int x2] : List Value).toArray below meth c H locs 0 0 (MQ below (va_Qv (fun (u : (Nat → Int64) × (Nat → Int64)) => match u with | (ood, oth) => True) (fun (u : (Nat → Int64) × (Nat → Int64)) (t : State) => match u with | (ood, oth) => va_P (dC, dI) vwCl [(h0, .inr (11, [.ref st, .int (nI N), .int (nI B), .ref rp, .int vrs, .int vrb, .int vhs, .int vca, .int vxs, .int vxb, .ref tp, .int (nI T), .int vfa, .int vbr, .int vba, .int vsp, .int vhe, .int vtk, .int vva, .ref cu, .ref lt, .ref od, .ref th, .ref be, .ref ln, .int (nI S), .ref ma, .int (nI M), .ref ah, .ref bh, .ref ik, .ref la, .ref lg, .ref ce, .int vto])), (st, .inl (G 0, 196, .inl fst)), (od, .inl (G 1, 10, .inr (.inl ood))), (th, .inl (G 1, 10, .inr (.inl oth)))] t.heap ∧ va_D A [(h0, .inr (11, [.ref st, .int (nI N), .int (nI B), .ref rp, .int vrs, .int vrb, .int vhs, .int vca, .int vxs, .int vxb, .ref tp, .int (nI T), .int vfa, .int vbr, .int vba, .int vsp, .int vhe, .int vtk, .int vva, .ref cu, .ref lt, .ref od, .ref th, .ref be, .ref ln, .int (nI S), .ref ma, .int (nI M), .ref ah, .ref bh, .ref ik, .ref la, .ref lg, .ref ce, .int vto])), (st, .inl (G 0, 196, .inl fst)), (od, .inl (G 1, 10, .inr (.inl ood))), (th, .inl (G 1, 10, .inr (.inl oth)))]) A) ([.ref h0, .int (nI nn), .int x1, .int x2] : List Value).toArray s 0 0 A) (F0 m 72 ls []) := by
                  intro nf
                  induction nf with
                  | zero => intro j23 h1 h2; exact absurd h1 (by omega)
                  | succ nf ih72_25 =>
                    intro j23 hn26 hj27 g24 H locs hP hD hS ls hl
                    refine lv_iload hx hb dX11_layOdds_72 (lv_at hl 0 rfl) ?_
                    refine lv_bipush (v := 10) hx hb dX11_layOdds_74 (by decide) ?_
                    refine lv_icmp_ge (tgt := 93) hx hb dX11_layOdds_76 (by decide) (fun c28 => ?_) (fun c28 => ?_)
                    · skip
                      have tn949_ : nIT j23 := fun _ => nI_toInt (by first | omega | (have t := leI c28; omega))
                      have n29 : 10 ≤ j23 := by have t := leI c28; rw [show (nI (j23)).toInt = ((j23 : Nat) : Int) from tn949_ ()] at t; have : (10 : Int32).toInt = 10 := qI_10; omega
                      refine lv_aload_n hx hb dX11_layOdds_93 rfl (lv_at hl 3 rfl) ?_
                      refine va_get (D := (dC, dI)) (ci := 11) (v := .ref th) (C := RX11) (T := TX11) (N := 35) hx hb hg inG11 hown hK.1 hP 0 rfl rfl 22 (by decide) (hg _ wt_900) (fun _ h9 => h9) rfl dX11_layOdds_94 ?_
                      refine lv_iconst (v := 0) hx hb dX11_layOdds_97 (by decide) ?_
                      refine lv_ldc2 (v := 20) hx hb hown (hg _ wt_1127) dX11_layOdds_98 ?_
                      refine lv_aload_n hx hb dX11_layOdds_101 rfl (lv_at hl 3 rfl) ?_
                      refine va_get (D := (dC, dI)) (ci := 11) (v := .ref od) (C := RX11) (T := TX11) (N := 35) hx hb hg inG11 hown hK.1 hP 0 rfl rfl 21 (by decide) (hg _ wt_899) (fun _ h9 => h9) rfl dX11_layOdds_102 ?_
                      refine lv_iconst (v := 0) hx hb dX11_layOdds_105 (by decide) ?_
                      refine va_lald hx hb hK.1 hP 2 1 rfl rfl (vp_in_iff.mpr ⟨by decide, by decide⟩) dX11_layOdds_106 ?_
                      refine lv_cgl (y := g9 0) (by rfl) ?_
                      refine lv_lmul hx hb dX11_layOdds_107 ?_
                      refine va_last hx hb hK.1 hP hD hS 3 1 rfl rfl (vp_in_iff.mpr ⟨by decide, by decide⟩) dX11_layOdds_108 (fun H locs hP hD hS => ?_)
                      have hP : va_P (dC, dI) vwCl [(h0, .inr (11, [.ref st, .int (nI N), .int (nI B), .ref rp, .int vrs, .int vrb, .int vhs, .int vca, .int vxs, .int vxb, .ref tp, .int (nI T), .int vfa, .int vbr, .int vba, .int vsp, .int vhe, .int vtk, .int vva, .ref cu, .ref lt, .ref od, .ref th, .ref be, .ref ln, .int (nI S), .ref ma, .int (nI M), .ref ah, .ref bh, .ref ik, .ref la, .ref lg, .ref ce, .int vto])), (st, .inl (G 0, 196, .inl fst)), (od, .inl (G 1, 10, .inr (.inl g9))), (th, .inl (G 1, 10, .inr (.inl (vp_updL g24 0 (20 * (g9 0))))))] H := hP
                      have hD : va_D A [(h0, .inr (11, [.ref st, .int (nI N), .int (nI B), .ref rp, .int vrs, .int vrb, .int vhs, .int vca, .int vxs, .int vxb, .ref tp, .int (nI T), .int vfa, .int vbr, .int vba, .int vsp, .int vhe, .int vtk, .int vva, .ref cu, .ref lt, .ref od, .ref th, .ref be, .ref ln, .int (nI S), .ref ma, .int (nI M), .ref ah, .ref bh, .ref ik, .ref la, .ref lg, .ref ce, .int vto])), (st, .inl (G 0, 196, .inl fst)), (od, .inl (G 1, 10, .inr (.inl g9))), (th, .inl (G 1, 10, .inr (.inl (vp_updL g24 0 (20 * (g9 0))))))] := hD
                      refine lv_iconst (v := 1) hx hb dX11_layOdds_109 (by decide) ?_
                      refine lv_istore (lv' := [(6, .int 1), (5, .int r21), (4, .int (nI j8)), (0, .ref h0), (1, .int (nI nn)), (2, .int x1), (3, .int x2)]) hx hb dX11_layOdds_110 hl (by decide) rfl (fun ls hl => ?_)
                      have loop112_32 : ∀ (nf j30 : Nat), 10 + 1 ≤ j30 + nf → j30 ≤ 10 → 1 ≤ j30 → ∀ (g31 : Nat → Int64) (H : Heap) (locs : List Loc), va_P (dC, dI) vwCl [(h0, .inr (11, [.ref st, .int (nI N), .int (nI B), .ref rp, .int vrs, .int vrb, .int vhs, .int vca, .int vxs, .int vxb, .ref tp, .int (nI T), .int vfa, .int vbr, .int vba, .int vsp, .int vhe, .int vtk, .int vva, .ref cu, .ref lt, .ref od, .ref th, .ref be, .ref ln, .int (nI S), .ref ma, .int (nI M), .ref ah, .ref bh, .ref ik, .ref la, .ref lg, .ref ce, .int vto])), (st, .inl (G 0, 196, .inl fst)), (od, .inl (G 1, 10, .inr (.inl g9))), (th, .inl (G 1, 10, .inr (.inl g31)))] H → va_D A [(h0, .inr (11, [.ref st, .int (nI N), .int (nI B), .ref rp, .int vrs, .int vrb, .int vhs, .int vca, .int vxs, .int vxb, .ref tp, .int (nI T), .int vfa, .int vbr, .int vba, .int vsp, .int vhe, .int vtk, .int vva, .ref cu, .ref lt, .ref od, .ref th, .ref be, .ref ln, .int (nI S), .ref ma, .int (nI M), .ref ah, .ref bh, .ref ik, .ref la, .ref lg, .ref ce, .int vto])), (st, .inl (G 0, 196, .inl fst)), (od, .inl (G 1, 10, .inr (.inl g9))), (th, .inl (G 1, 10, .inr (.inl g31)))] → va_S A s.heap H locs → ∀ (ls : Array Slot), lv_has ls 8 [(6, .int (nI j30)), (5, .int r21), (4, .int (nI j8)), (0, .ref h0), (1, .int (nI nn)), (2, .int x1), (3, .int x2)] → W p l e (headSpec (Cond.code yX11_layOdds cX11_layOdds 8 none :: GT) ({ frames := 3, cells := 0, slots := 0, locals := 72 } : Room)).room s m ([.ref h0, .int (nI nn), .int x1, .int x2] : List Value).toArray below meth c H locs 0 0 (MQ below (va_Qv (fun (u : (Nat → Int64) × (Nat → Int64)) => match u with | (ood, oth) => True) (fun (u : (Nat → Int64) × (Nat → Int64)) (t : State) => match u with | (ood, oth) => va_P (dC, dI) vwCl [(h0, .inr (11, [.ref st, .int (nI N), .int (nI B), .ref rp, .int vrs, .int vrb, .int vhs, .int vca, .int vxs, .int vxb, .ref tp, .int (nI T), .int vfa, .int vbr, .int vba, .int vsp, .int vhe, .int vtk, .int vva, .ref cu, .ref lt, .ref od, .ref th, .ref be, .ref ln, .int (nI S), .ref ma, .int (nI M), .ref ah, .ref bh, .ref ik, .ref la, .ref lg, .ref ce, .int vto])), (st, .inl (G 0, 196, .inl fst)), (od, .inl (G 1, 10, .inr (.inl ood))), (th, .inl (G 1, 10, .inr (.inl oth)))] t.heap ∧ va_D A [(h0, .inr (11, [.ref st, .int (nI N), .int (nI B), .ref rp, .int vrs, .int vrb, .int vhs, .int vca, .int vxs, .int vxb, .ref tp, .int (nI T), .int vfa, .int vbr, .int vba, .int vsp, .int vhe, .int vtk, .int vva, .ref cu, .ref lt, .ref od, .ref th, .ref be, .ref ln, .int (nI S), .ref ma, .int (nI M), .ref ah, .ref bh, .ref ik, .ref la, .ref lg, .ref ce, .int vto])), (st, .inl (G 0, 196, .inl fst)), (od, .inl (G 1, 10, .inr (.inl ood))), (th, .inl (G 1, 10, .inr (.inl oth)))]) A) ([.ref h0, .int (nI nn), .int x1, .int x2] : List Value).toArray s 0 0 A) (F0 m 112 ls []) := by
                        intro nf
                        induction nf with
                        | zero => intro j30 h1 h2; exact absurd h1 (by omega)
                        | succ nf ih112_32 =>
                          intro j30 hn33 hj34 hlo_j30 g31 H locs hP hD hS ls hl
                          refine lv_iload hx hb dX11_layOdds_112 (lv_at hl 0 rfl) ?_
                          refine lv_bipush (v := 10) hx hb dX11_layOdds_114 (by decide) ?_
                          refine lv_icmp_ge (tgt := 195) hx hb dX11_layOdds_116 (by decide) (fun c35 => ?_) (fun c35 => ?_)
                          · skip
                            have tn950_ : nIT j30 := fun _ => nI_toInt (by first | omega | (have t := leI c35; omega))
                            have n36 : 10 ≤ j30 := by have t := leI c35; rw [show (nI (j30)).toInt = ((j30 : Nat) : Int) from tn950_ ()] at t; have : (10 : Int32).toInt = 10 := qI_10; omega
                            refine lv_iconst (v := 0) hx hb dX11_layOdds_195 (by decide) ?_
                            refine lv_istore (lv' := [(6, .int 0), (5, .int r21), (4, .int (nI j8)), (0, .ref h0), (1, .int (nI nn)), (2, .int x1), (3, .int x2)]) hx hb dX11_layOdds_196 hl (by decide) rfl (fun ls hl => ?_)
                            have loop198_39 : ∀ (nf j37 : Nat), 10 + 1 ≤ j37 + nf → j37 ≤ 10 → ∀ (g38 : Nat → Int64) (H : Heap) (locs : List Loc), va_P (dC, dI) vwCl [(h0, .inr (11, [.ref st, .int (nI N), .int (nI B), .ref rp, .int vrs, .int vrb, .int vhs, .int vca, .int vxs, .int vxb, .ref tp, .int (nI T), .int vfa, .int vbr, .int vba, .int vsp, .int vhe, .int vtk, .int vva, .ref cu, .ref lt, .ref od, .ref th, .ref be, .ref ln, .int (nI S), .ref ma, .int (nI M), .ref ah, .ref bh, .ref ik, .ref la, .ref lg, .ref ce, .int vto])), (st, .inl (G 0, 196, .inl fst)), (od, .inl (G 1, 10, .inr (.inl g38))), (th, .inl (G 1, 10, .inr (.inl g31)))] H → va_D A [(h0, .inr (11, [.ref st, .int (nI N), .int (nI B), .ref rp, .int vrs, .int vrb, .int vhs, .int vca, .int vxs, .int vxb, .ref tp, .int (nI T), .int vfa, .int vbr, .int vba, .int vsp, .int vhe, .int vtk, .int vva, .ref cu, .ref lt, .ref od, .ref th, .ref be, .ref ln, .int (nI S), .ref ma, .int (nI M), .ref ah, .ref bh, .ref ik, .ref la, .ref lg, .ref ce, .int vto])), (st, .inl (G 0, 196, .inl fst)), (od, .inl (G 1, 10, .inr (.inl g38))), (th, .inl (G 1, 10, .inr (.inl g31)))] → va_S A s.heap H locs → ∀ (ls : Array Slot), lv_has ls 8 [(6, .int (nI j37)), (5, .int r21), (4, .int (nI j8)), (0, .ref h0), (1, .int (nI nn)), (2, .int x1), (3, .int x2)] → W p l e (headSpec (Cond.code yX11_layOdds cX11_layOdds 8 none :: GT) ({ frames := 3, cells := 0, slots := 0, locals := 72 } : Room)).room s m ([.ref h0, .int (nI nn), .int x1, .int x2] : List Value).toArray below meth c H locs 0 0 (MQ below (va_Qv (fun (u : (Nat → Int64) × (Nat → Int64)) => match u with | (ood, oth) => True) (fun (u : (Nat → Int64) × (Nat → Int64)) (t : State) => match u with | (ood, oth) => va_P (dC, dI) vwCl [(h0, .inr (11, [.ref st, .int (nI N), .int (nI B), .ref rp, .int vrs, .int vrb, .int vhs, .int vca, .int vxs, .int vxb, .ref tp, .int (nI T), .int vfa, .int vbr, .int vba, .int vsp, .int vhe, .int vtk, .int vva, .ref cu, .ref lt, .ref od, .ref th, .ref be, .ref ln, .int (nI S), .ref ma, .int (nI M), .ref ah, .ref bh, .ref ik, .ref la, .ref lg, .ref ce, .int vto])), (st, .inl (G 0, 196, .inl fst)), (od, .inl (G 1, 10, .inr (.inl ood))), (th, .inl (G 1, 10, .inr (.inl oth)))] t.heap ∧ va_D A [(h0, .inr (11, [.ref st, .int (nI N), .int (nI B), .ref rp, .int vrs, .int vrb, .int vhs, .int vca, .int vxs, .int vxb, .ref tp, .int (nI T), .int vfa, .int vbr, .int vba, .int vsp, .int vhe, .int vtk, .int vva, .ref cu, .ref lt, .ref od, .ref th, .ref be, .ref ln, .int (nI S), .ref ma, .int (nI M), .ref ah, .ref bh, .ref ik, .ref la, .ref lg, .ref ce, .int vto])), (st, .inl (G 0, 196, .inl fst)), (od, .inl (G 1, 10, .inr (.inl ood))), (th, .inl (G 1, 10, .inr (.inl oth)))]) A) ([.ref h0, .int (nI nn), .int x1, .int x2] : List Value).toArray s 0 0 A) (F0 m 198 ls []) := by
                              intro nf
                              induction nf with
                              | zero => intro j37 h1 h2; exact absurd h1 (by omega)
                              | succ nf ih198_39 =>
                                intro j37 hn40 hj41 g38 H locs hP hD hS ls hl
                                refine lv_iload hx hb dX11_layOdds_198 (lv_at hl 0 rfl) ?_
                                refine lv_bipush (v := 10) hx hb dX11_layOdds_200 (by decide) ?_
                                refine lv_icmp_ge (tgt := 225) hx hb dX11_layOdds_202 (by decide) (fun c42 => ?_) (fun c42 => ?_)
                                · skip
                                  have tn951_ : nIT j37 := fun _ => nI_toInt (by first | omega | (have t := leI c42; omega))
                                  have n43 : 10 ≤ j37 := by have t := leI c42; rw [show (nI (j37)).toInt = ((j37 : Nat) : Int) from tn951_ ()] at t; have : (10 : Int32).toInt = 10 := qI_10; omega
                                  refine lv_iinc (v := nI (j8 + 1)) (lv' := [(4, .int (nI (j8 + 1))), (6, .int (nI j37)), (5, .int r21), (0, .ref h0), (1, .int (nI nn)), (2, .int x1), (3, .int x2)]) hx hb dX11_layOdds_225 hl (k := 2) rfl (by rw [show Int32.ofInt 1 = nI 1 from by decide]; exact nI_add _ _) (by decide) rfl (fun ls hl => ?_)
                                  refine lv_goto (tgt := 40) hx hb dX11_layOdds_228 (by decide) ?_
                                  exact ih40_11 (j8 + 1) (by omega) (by omega) g38 g31 _ _ hP hD hS ls (lv_sub hl [0, 3, 4, 5, 6] rfl)
                                · skip
                                  have tn952_ : nIT j37 := fun _ => nI_toInt (by first | omega | (have t := nleI c42; omega))
                                  have n44 : j37 < 10 := by have t := nleI c42; rw [show (nI (j37)).toInt = ((j37 : Nat) : Int) from tn952_ ()] at t; have : (10 : Int32).toInt = 10 := qI_10; omega
                                  refine lv_aload_n hx hb dX11_layOdds_205 rfl (lv_at hl 3 rfl) ?_
                                  refine va_get (D := (dC, dI)) (ci := 11) (v := .ref od) (C := RX11) (T := TX11) (N := 35) hx hb hg inG11 hown hK.1 hP 0 rfl rfl 21 (by decide) (hg _ wt_899) (fun _ h9 => h9) rfl dX11_layOdds_206 ?_
                                  refine lv_iload hx hb dX11_layOdds_209 (lv_at hl 0 rfl) ?_
                                  refine lv_aload_n hx hb dX11_layOdds_211 rfl (lv_at hl 3 rfl) ?_
                                  refine va_get (D := (dC, dI)) (ci := 11) (v := .ref th) (C := RX11) (T := TX11) (N := 35) hx hb hg inG11 hown hK.1 hP 0 rfl rfl 22 (by decide) (hg _ wt_900) (fun _ h9 => h9) rfl dX11_layOdds_212 ?_
                                  refine lv_iload hx hb dX11_layOdds_215 (lv_at hl 0 rfl) ?_
                                  refine va_lald hx hb hK.1 hP 3 1 rfl rfl (vp_in_nI (by first | omega | (have t_hj5 := hj5; have t_n7 := n7; have t_hj13 := hj13; have t_n16 := n16; have t_hb_k19 := hb_k19; have t_hj27 := hj27; have t_n29 := n29; have t_hj34 := hj34; have t_hlo_j30 := hlo_j30; have t_n36 := n36; have t_hj41 := hj41; have t_n44 := n44; have t_n0 : (nI nn).toInt = (nn : Int) := tn942_ (); have t_n1 : (nI N).toInt = (N : Int) := tn943_ (); have t_n2 : (nI B).toInt = (B : Int) := tn944_ (); have t_n3 : (nI T).toInt = (T : Int) := tn945_ (); have t_n4 : (nI S).toInt = (S : Int) := tn946_ (); have t_n5 : (nI M).toInt = (M : Int) := tn947_ (); have t_n6 : (nI j1).toInt = (j1 : Int) := tn938_ (); have t_n7 : (nI j8).toInt = (j8 : Int) := tn941_ (); have t_n8 : (nI k19).toInt = (k19 : Int) := tn948_ (); have t_n9 : (nI j23).toInt = (j23 : Int) := tn949_ (); have t_n10 : (nI j30).toInt = (j30 : Int) := tn950_ (); have t_n11 : (nI j37).toInt = (j37 : Int) := tn952_ (); omega)) (by decide)) dX11_layOdds_217 ?_
                                  refine lv_cgl (y := g31 j37) (by rw [nI_clamp (by omega)]) ?_
                                  refine va_last hx hb hK.1 hP hD hS 2 1 rfl rfl (vp_in_nI (by first | omega | (have t_hj5 := hj5; have t_n7 := n7; have t_hj13 := hj13; have t_n16 := n16; have t_hb_k19 := hb_k19; have t_hj27 := hj27; have t_n29 := n29; have t_hj34 := hj34; have t_hlo_j30 := hlo_j30; have t_n36 := n36; have t_hj41 := hj41; have t_n44 := n44; have t_n0 : (nI nn).toInt = (nn : Int) := tn942_ (); have t_n1 : (nI N).toInt = (N : Int) := tn943_ (); have t_n2 : (nI B).toInt = (B : Int) := tn944_ (); have t_n3 : (nI T).toInt = (T : Int) := tn945_ (); have t_n4 : (nI S).toInt = (S : Int) := tn946_ (); have t_n5 : (nI M).toInt = (M : Int) := tn947_ (); have t_n6 : (nI j1).toInt = (j1 : Int) := tn938_ (); have t_n7 : (nI j8).toInt = (j8 : Int) := tn941_ (); have t_n8 : (nI k19).toInt = (k19 : Int) := tn948_ (); have t_n9 : (nI j23).toInt = (j23 : Int) := tn949_ (); have t_n10 : (nI j30).toInt = (j30 : Int) := tn950_ (); have t_n11 : (nI j37).toInt = (j37 : Int) := tn952_ (); omega)) (by decide)) dX11_layOdds_218 (fun H locs hP hD hS => ?_)
                                  rw [nI_clamp (by omega)] at hP hD
                                  have hP : va_P (dC, dI) vwCl [(h0, .inr (11, [.ref st, .int (nI N), .int (nI B), .ref rp, .int vrs, .int vrb, .int vhs, .int vca, .int vxs, .int vxb, .ref tp, .int (nI T), .int vfa, .int vbr, .int vba, .int vsp, .int vhe, .int vtk, .int vva, .ref cu, .ref lt, .ref od, .ref th, .ref be, .ref ln, .int (nI S), .ref ma, .int (nI M), .ref ah, .ref bh, .ref ik, .ref la, .ref lg, .ref ce, .int vto])), (st, .inl (G 0, 196, .inl fst)), (od, .inl (G 1, 10, .inr (.inl (vp_updL g38 j37 (g31 j37))))), (th, .inl (G 1, 10, .inr (.inl g31)))] H := hP
                                  have hD : va_D A [(h0, .inr (11, [.ref st, .int (nI N), .int (nI B), .ref rp, .int vrs, .int vrb, .int vhs, .int vca, .int vxs, .int vxb, .ref tp, .int (nI T), .int vfa, .int vbr, .int vba, .int vsp, .int vhe, .int vtk, .int vva, .ref cu, .ref lt, .ref od, .ref th, .ref be, .ref ln, .int (nI S), .ref ma, .int (nI M), .ref ah, .ref bh, .ref ik, .ref la, .ref lg, .ref ce, .int vto])), (st, .inl (G 0, 196, .inl fst)), (od, .inl (G 1, 10, .inr (.inl (vp_updL g38 j37 (g31 j37))))), (th, .inl (G 1, 10, .inr (.inl g31)))] := hD
                                  refine lv_iinc (v := nI (j37 + 1)) (lv' := [(6, .int (nI (j37 + 1))), (5, .int r21), (4, .int (nI j8)), (0, .ref h0), (1, .int (nI nn)), (2, .int x1), (3, .int x2)]) hx hb dX11_layOdds_219 hl (k := 0) rfl (by rw [show Int32.ofInt 1 = nI 1 from by decide]; exact nI_add _ _) (by decide) rfl (fun ls hl => ?_)
                                  refine lv_goto (tgt := 198) hx hb dX11_layOdds_222 (by decide) ?_
                                  exact ih198_39 (j37 + 1) (by omega) (by omega) (vp_updL g38 j37 (g31 j37)) _ _ hP hD hS ls (lv_sub hl [0, 1, 2, 3, 4, 5, 6] rfl)
                            exact loop198_39 (10 + 1) 0 (by omega) (by omega) g9 _ _ hP hD hS ls (lv_sub hl [0, 1, 2, 3, 4, 5, 6] rfl)
                          · skip
                            have tn953_ : nIT j30 := fun _ => nI_toInt (by first | omega | (have t := nleI c35; omega))
                            have n45 : j30 < 10 := by have t := nleI c35; rw [show (nI (j30)).toInt = ((j30 : Nat) : Int) from tn953_ ()] at t; have : (10 : Int32).toInt = 10 := qI_10; omega
                            refine lv_iload hx hb dX11_layOdds_119 (lv_at hl 2 rfl) ?_
                            refine lv_iload_n hx hb dX11_layOdds_121 rfl (lv_at hl 6 rfl) ?_
                            refine lv_icmp_ne (tgt := 134) hx hb dX11_layOdds_122 (by decide) (fun c46 => ?_) (fun c46 => ?_)
                            · skip
                              refine lv_iload hx hb dX11_layOdds_134 (lv_at hl 0 rfl) ?_
                              refine lv_istore (lv' := [(7, .int (nI j30)), (6, .int (nI j30)), (5, .int r21), (4, .int (nI j8)), (0, .ref h0), (1, .int (nI nn)), (2, .int x1), (3, .int x2)]) hx hb dX11_layOdds_136 hl (by decide) rfl (fun ls hl => ?_)
                              refine lv_aload_n hx hb dX11_layOdds_138 rfl (lv_at hl 4 rfl) ?_
                              refine va_get (D := (dC, dI)) (ci := 11) (v := .ref th) (C := RX11) (T := TX11) (N := 35) hx hb hg inG11 hown hK.1 hP 0 rfl rfl 22 (by decide) (hg _ wt_900) (fun _ h9 => h9) rfl dX11_layOdds_139 ?_
                              refine lv_iload hx hb dX11_layOdds_142 (lv_at hl 0 rfl) ?_
                              refine lv_iconst (v := 1) hx hb dX11_layOdds_144 (by decide) ?_
                              refine lv_isub hx hb dX11_layOdds_145 ?_
                              refine lv_cg (y := nI (j30 - 1)) (by rw [show (1 : Int32) = nI 1 from rfl]; exact pk_sub (by have t_hj5 := hj5; have t_n7 := n7; have t_hj13 := hj13; have t_n16 := n16; have t_hb_k19 := hb_k19; have t_hj27 := hj27; have t_n29 := n29; have t_hj34 := hj34; have t_hlo_j30 := hlo_j30; have t_n45 := n45; have t_c46 := neI c46; have t_n0 : (nI nn).toInt = (nn : Int) := tn942_ (); have t_n1 : (nI N).toInt = (N : Int) := tn943_ (); have t_n2 : (nI B).toInt = (B : Int) := tn944_ (); have t_n3 : (nI T).toInt = (T : Int) := tn945_ (); have t_n4 : (nI S).toInt = (S : Int) := tn946_ (); have t_n5 : (nI M).toInt = (M : Int) := tn947_ (); have t_n6 : (nI j1).toInt = (j1 : Int) := tn938_ (); have t_n7 : (nI j8).toInt = (j8 : Int) := tn941_ (); have t_n8 : (nI k19).toInt = (k19 : Int) := tn948_ (); have t_n9 : (nI j23).toInt = (j23 : Int) := tn949_ (); have t_n10 : (nI j30).toInt = (j30 : Int) := tn953_ (); omega)) ?_
                              refine lv_dup2_11 hx hb dX11_layOdds_146 rfl rfl ?_
                              refine va_lald hx hb hK.1 hP 3 1 rfl rfl (vp_in_nI (by first | omega | (have t_hj5 := hj5; have t_n7 := n7; have t_hj13 := hj13; have t_n16 := n16; have t_hb_k19 := hb_k19; have t_hj27 := hj27; have t_n29 := n29; have t_hj34 := hj34; have t_hlo_j30 := hlo_j30; have t_n45 := n45; have t_c46 := neI c46; have t_n0 : (nI nn).toInt = (nn : Int) := tn942_ (); have t_n1 : (nI N).toInt = (N : Int) := tn943_ (); have t_n2 : (nI B).toInt = (B : Int) := tn944_ (); have t_n3 : (nI T).toInt = (T : Int) := tn945_ (); have t_n4 : (nI S).toInt = (S : Int) := tn946_ (); have t_n5 : (nI M).toInt = (M : Int) := tn947_ (); have t_n6 : (nI j1).toInt = (j1 : Int) := tn938_ (); have t_n7 : (nI j8).toInt = (j8 : Int) := tn941_ (); have t_n8 : (nI k19).toInt = (k19 : Int) := tn948_ (); have t_n9 : (nI j23).toInt = (j23 : Int) := tn949_ (); have t_n10 : (nI j30).toInt = (j30 : Int) := tn953_ (); omega)) (by decide)) dX11_layOdds_147 ?_
                              refine lv_cgl (y := g31 (j30 - 1)) (by rw [nI_clamp (by omega)]) ?_
                              refine lv_iload hx hb dX11_layOdds_148 (lv_at hl 2 rfl) ?_
                              refine lv_i2l (v := r21.toInt64) hx hb dX11_layOdds_150 rfl ?_
                              refine lv_aload_n hx hb dX11_layOdds_151 rfl (lv_at hl 4 rfl) ?_
                              refine va_get (D := (dC, dI)) (ci := 11) (v := .ref od) (C := RX11) (T := TX11) (N := 35) hx hb hg inG11 hown hK.1 hP 0 rfl rfl 21 (by decide) (hg _ wt_899) (fun _ h9 => h9) rfl dX11_layOdds_152 ?_
                              refine lv_iload hx hb dX11_layOdds_155 (lv_at hl 1 rfl) ?_
                              refine va_lald hx hb hK.1 hP 2 1 rfl rfl (vp_in_nI (by first | omega | (have t_hj5 := hj5; have t_n7 := n7; have t_hj13 := hj13; have t_n16 := n16; have t_hb_k19 := hb_k19; have t_hj27 := hj27; have t_n29 := n29; have t_hj34 := hj34; have t_hlo_j30 := hlo_j30; have t_n45 := n45; have t_c46 := neI c46; have t_n0 : (nI nn).toInt = (nn : Int) := tn942_ (); have t_n1 : (nI N).toInt = (N : Int) := tn943_ (); have t_n2 : (nI B).toInt = (B : Int) := tn944_ (); have t_n3 : (nI T).toInt = (T : Int) := tn945_ (); have t_n4 : (nI S).toInt = (S : Int) := tn946_ (); have t_n5 : (nI M).toInt = (M : Int) := tn947_ (); have t_n6 : (nI j1).toInt = (j1 : Int) := tn938_ (); have t_n7 : (nI j8).toInt = (j8 : Int) := tn941_ (); have t_n8 : (nI k19).toInt = (k19 : Int) := tn948_ (); have t_n9 : (nI j23).toInt = (j23 : Int) := tn949_ (); have t_n10 : (nI j30).toInt = (j30 : Int) := tn953_ (); omega)) (by decide)) dX11_layOdds_157 ?_
                              refine lv_cgl (y := g9 j30) (by rw [nI_clamp (by omega)]) ?_
                              refine lv_lmul hx hb dX11_layOdds_158 ?_
                              refine lv_ladd hx hb dX11_layOdds_159 ?_
                              refine lv_topl (fun v47 ev47 => ?_)
                              refine va_last hx hb hK.1 hP hD hS 3 1 rfl rfl (vp_in_nI (by first | omega | (have t_hj5 := hj5; have t_n7 := n7; have t_hj13 := hj13; have t_n16 := n16; have t_hb_k19 := hb_k19; have t_hj27 := hj27; have t_n29 := n29; have t_hj34 := hj34; have t_hlo_j30 := hlo_j30; have t_n45 := n45; have t_c46 := neI c46; have t_n0 : (nI nn).toInt = (nn : Int) := tn942_ (); have t_n1 : (nI N).toInt = (N : Int) := tn943_ (); have t_n2 : (nI B).toInt = (B : Int) := tn944_ (); have t_n3 : (nI T).toInt = (T : Int) := tn945_ (); have t_n4 : (nI S).toInt = (S : Int) := tn946_ (); have t_n5 : (nI M).toInt = (M : Int) := tn947_ (); have t_n6 : (nI j1).toInt = (j1 : Int) := tn938_ (); have t_n7 : (nI j8).toInt = (j8 : Int) := tn941_ (); have t_n8 : (nI k19).toInt = (k19 : Int) := tn948_ (); have t_n9 : (nI j23).toInt = (j23 : Int) := tn949_ (); have t_n10 : (nI j30).toInt = (j30 : Int) := tn953_ (); omega)) (by decide)) dX11_layOdds_160 (fun H locs hP hD hS => ?_)
                              rw [nI_clamp (by omega)] at hP hD
                              have hP : va_P (dC, dI) vwCl [(h0, .inr (11, [.ref st, .int (nI N), .int (nI B), .ref rp, .int vrs, .int vrb, .int vhs, .int vca, .int vxs, .int vxb, .ref tp, .int (nI T), .int vfa, .int vbr, .int vba, .int vsp, .int vhe, .int vtk, .int vva, .ref cu, .ref lt, .ref od, .ref th, .ref be, .ref ln, .int (nI S), .ref ma, .int (nI M), .ref ah, .ref bh, .ref ik, .ref la, .ref lg, .ref ce, .int vto])), (st, .inl (G 0, 196, .inl fst)), (od, .inl (G 1, 10, .inr (.inl g9))), (th, .inl (G 1, 10, .inr (.inl (vp_updL g31 (j30 - 1) v47))))] H := hP
                              have hD : va_D A [(h0, .inr (11, [.ref st, .int (nI N), .int (nI B), .ref rp, .int vrs, .int vrb, .int vhs, .int vca, .int vxs, .int vxb, .ref tp, .int (nI T), .int vfa, .int vbr, .int vba, .int vsp, .int vhe, .int vtk, .int vva, .ref cu, .ref lt, .ref od, .ref th, .ref be, .ref ln, .int (nI S), .ref ma, .int (nI M), .ref ah, .ref bh, .ref ik, .ref la, .ref lg, .ref ce, .int vto])), (st, .inl (G 0, 196, .inl fst)), (od, .inl (G 1, 10, .inr (.inl g9))), (th, .inl (G 1, 10, .inr (.inl (vp_updL g31 (j30 - 1) v47))))] := hD
                              refine lv_aload_n hx hb dX11_layOdds_161 rfl (lv_at hl 4 rfl) ?_
                              refine va_get (D := (dC, dI)) (ci := 11) (v := .ref th) (C := RX11) (T := TX11) (N := 35) hx hb hg inG11 hown hK.1 hP 0 rfl rfl 22 (by decide) (hg _ wt_900) (fun _ h9 => h9) rfl dX11_layOdds_162 ?_
                              refine lv_iload hx hb dX11_layOdds_165 (lv_at hl 0 rfl) ?_
                              refine lv_iconst (v := 1) hx hb dX11_layOdds_167 (by decide) ?_
                              have hPc := hP.sub (ws' := []) [] rfl
                              refine va_calli (va_runS (As := [.int (nI j30), .int 1]) (rest := [.ref th]) ⟨hx, hb, hml, hown, hg⟩ (c_X11_deeper l dC dI G _ j30 1 (by first | omega | (have t_hj5 := hj5; have t_n7 := n7; have t_hj13 := hj13; have t_n16 := n16; have t_hb_k19 := hb_k19; have t_hj27 := hj27; have t_n29 := n29; have t_hj34 := hj34; have t_hlo_j30 := hlo_j30; have t_n45 := n45; have t_c46 := neI c46; have t_n0 : (nI nn).toInt = (nn : Int) := tn942_ (); have t_n1 : (nI N).toInt = (N : Int) := tn943_ (); have t_n2 : (nI B).toInt = (B : Int) := tn944_ (); have t_n3 : (nI T).toInt = (T : Int) := tn945_ (); have t_n4 : (nI S).toInt = (S : Int) := tn946_ (); have t_n5 : (nI M).toInt = (M : Int) := tn947_ (); have t_n6 : (nI j1).toInt = (j1 : Int) := tn938_ (); have t_n7 : (nI j8).toInt = (j8 : Int) := tn941_ (); have t_n8 : (nI k19).toInt = (k19 : Int) := tn948_ (); have t_n9 : (nI j23).toInt = (j23 : Int) := tn949_ (); have t_n10 : (nI j30).toInt = (j30 : Int) := tn953_ (); have : (1 : Int32).toInt = 1 := qI_1; omega)) (by first | omega | (have t_hj5 := hj5; have t_n7 := n7; have t_hj13 := hj13; have t_n16 := n16; have t_hb_k19 := hb_k19; have t_hj27 := hj27; have t_n29 := n29; have t_hj34 := hj34; have t_hlo_j30 := hlo_j30; have t_n45 := n45; have t_c46 := neI c46; have t_n0 : (nI nn).toInt = (nn : Int) := tn942_ (); have t_n1 : (nI N).toInt = (N : Int) := tn943_ (); have t_n2 : (nI B).toInt = (B : Int) := tn944_ (); have t_n3 : (nI T).toInt = (T : Int) := tn945_ (); have t_n4 : (nI S).toInt = (S : Int) := tn946_ (); have t_n5 : (nI M).toInt = (M : Int) := tn947_ (); have t_n6 : (nI j1).toInt = (j1 : Int) := tn938_ (); have t_n7 : (nI j8).toInt = (j8 : Int) := tn941_ (); have t_n8 : (nI k19).toInt = (k19 : Int) := tn948_ (); have t_n9 : (nI j23).toInt = (j23 : Int) := tn949_ (); have t_n10 : (nI j30).toInt = (j30 : Int) := tn953_ (); have : (1 : Int32).toInt = 1 := qI_1; omega))) (kwS hg mfX11_deeper wt_1128 ⟨Nat.le_of_ble_eq_true rfl, Nat.le_of_ble_eq_true rfl⟩) (preSR hK hPc) rfl rfl hl.1 rfl (lv_room (Nat.le_of_ble_eq_true rfl)) dX11_layOdds_168 ⟨Nat.le_of_ble_eq_true rfl, Nat.le_of_ble_eq_true rfl⟩) hS (fun q h1 h2 => absurd h2 (Nat.not_le.mpr h1)) (fun q h => hA q (Nat.le_trans hS.1 h)) (fun r48 ur48 t H1 locs ht hvm w49 hB hz1 hk1 hS => ?_)
                              have hP := keepR hP hk1
                              obtain ⟨w49, w49x⟩ := w49
                              have hs50 : j30 ≤ (min 9 (j30 + 1)) ∧ (min 9 (j30 + 1)) ≤ 9 := (by omega)
                              subst w49
                              refine lv_dup2_11 hx hb dX11_layOdds_171 rfl rfl ?_
                              refine va_lald hx hb hK.1 hP 3 1 rfl rfl (vp_in_nI (by first | omega | (have t_hj5 := hj5; have t_n7 := n7; have t_hj13 := hj13; have t_n16 := n16; have t_hb_k19 := hb_k19; have t_hj27 := hj27; have t_n29 := n29; have t_hj34 := hj34; have t_hlo_j30 := hlo_j30; have t_n45 := n45; have t_c46 := neI c46; have t_hs50 := hs50; have t_n0 : (nI nn).toInt = (nn : Int) := tn942_ (); have t_n1 : (nI N).toInt = (N : Int) := tn943_ (); have t_n2 : (nI B).toInt = (B : Int) := tn944_ (); have t_n3 : (nI T).toInt = (T : Int) := tn945_ (); have t_n4 : (nI S).toInt = (S : Int) := tn946_ (); have t_n5 : (nI M).toInt = (M : Int) := tn947_ (); have t_n6 : (nI j1).toInt = (j1 : Int) := tn938_ (); have t_n7 : (nI j8).toInt = (j8 : Int) := tn941_ (); have t_n8 : (nI k19).toInt = (k19 : Int) := tn948_ (); have t_n9 : (nI j23).toInt = (j23 : Int) := tn949_ (); have t_n10 : (nI j30).toInt = (j30 : Int) := tn953_ (); omega)) (by decide)) dX11_layOdds_172 ?_
                              refine lv_cgl (y := (vp_updL g31 (j30 - 1) v47) (min 9 (j30 + 1))) (by rw [nI_clamp (by omega)]) ?_
                              refine lv_bipush (v := 20) hx hb dX11_layOdds_173 (by decide) ?_
                              refine lv_iload hx hb dX11_layOdds_175 (lv_at hl 2 rfl) ?_
                              refine lv_isub hx hb dX11_layOdds_177 ?_
                              refine lv_i2l (v := (20 - r21).toInt64) hx hb dX11_layOdds_178 rfl ?_
                              refine lv_aload_n hx hb dX11_layOdds_179 rfl (lv_at hl 4 rfl) ?_
                              refine va_get (D := (dC, dI)) (ci := 11) (v := .ref od) (C := RX11) (T := TX11) (N := 35) hx hb hg inG11 hown hK.1 hP 0 rfl rfl 21 (by decide) (hg _ wt_899) (fun _ h9 => h9) rfl dX11_layOdds_180 ?_
                              refine lv_iload hx hb dX11_layOdds_183 (lv_at hl 1 rfl) ?_
                              refine va_lald hx hb hK.1 hP 2 1 rfl rfl (vp_in_nI (by first | omega | (have t_hj5 := hj5; have t_n7 := n7; have t_hj13 := hj13; have t_n16 := n16; have t_hb_k19 := hb_k19; have t_hj27 := hj27; have t_n29 := n29; have t_hj34 := hj34; have t_hlo_j30 := hlo_j30; have t_n45 := n45; have t_c46 := neI c46; have t_hs50 := hs50; have t_n0 : (nI nn).toInt = (nn : Int) := tn942_ (); have t_n1 : (nI N).toInt = (N : Int) := tn943_ (); have t_n2 : (nI B).toInt = (B : Int) := tn944_ (); have t_n3 : (nI T).toInt = (T : Int) := tn945_ (); have t_n4 : (nI S).toInt = (S : Int) := tn946_ (); have t_n5 : (nI M).toInt = (M : Int) := tn947_ (); have t_n6 : (nI j1).toInt = (j1 : Int) := tn938_ (); have t_n7 : (nI j8).toInt = (j8 : Int) := tn941_ (); have t_n8 : (nI k19).toInt = (k19 : Int) := tn948_ (); have t_n9 : (nI j23).toInt = (j23 : Int) := tn949_ (); have t_n10 : (nI j30).toInt = (j30 : Int) := tn953_ (); omega)) (by decide)) dX11_layOdds_185 ?_
                              refine lv_cgl (y := g9 j30) (by rw [nI_clamp (by omega)]) ?_
                              refine lv_lmul hx hb dX11_layOdds_186 ?_
                              refine lv_topl (fun v51 ev51 => ?_)
                              refine lv_ladd hx hb dX11_layOdds_187 ?_
                              refine lv_topl (fun v52 ev52 => ?_)
                              refine va_last hx hb hK.1 hP hD hS 3 1 rfl rfl (vp_in_nI (by first | omega | (have t_hj5 := hj5; have t_n7 := n7; have t_hj13 := hj13; have t_n16 := n16; have t_hb_k19 := hb_k19; have t_hj27 := hj27; have t_n29 := n29; have t_hj34 := hj34; have t_hlo_j30 := hlo_j30; have t_n45 := n45; have t_c46 := neI c46; have t_hs50 := hs50; have t_n0 : (nI nn).toInt = (nn : Int) := tn942_ (); have t_n1 : (nI N).toInt = (N : Int) := tn943_ (); have t_n2 : (nI B).toInt = (B : Int) := tn944_ (); have t_n3 : (nI T).toInt = (T : Int) := tn945_ (); have t_n4 : (nI S).toInt = (S : Int) := tn946_ (); have t_n5 : (nI M).toInt = (M : Int) := tn947_ (); have t_n6 : (nI j1).toInt = (j1 : Int) := tn938_ (); have t_n7 : (nI j8).toInt = (j8 : Int) := tn941_ (); have t_n8 : (nI k19).toInt = (k19 : Int) := tn948_ (); have t_n9 : (nI j23).toInt = (j23 : Int) := tn949_ (); have t_n10 : (nI j30).toInt = (j30 : Int) := tn953_ (); omega)) (by decide)) dX11_layOdds_188 (fun H locs hP hD hS => ?_)
                              rw [nI_clamp (by omega)] at hP hD
                              have hP : va_P (dC, dI) vwCl [(h0, .inr (11, [.ref st, .int (nI N), .int (nI B), .ref rp, .int vrs, .int vrb, .int vhs, .int vca, .int vxs, .int vxb, .ref tp, .int (nI T), .int vfa, .int vbr, .int vba, .int vsp, .int vhe, .int vtk, .int vva, .ref cu, .ref lt, .ref od, .ref th, .ref be, .ref ln, .int (nI S), .ref ma, .int (nI M), .ref ah, .ref bh, .ref ik, .ref la, .ref lg, .ref ce, .int vto])), (st, .inl (G 0, 196, .inl fst)), (od, .inl (G 1, 10, .inr (.inl g9))), (th, .inl (G 1, 10, .inr (.inl (vp_updL (vp_updL g31 (j30 - 1) v47) (min 9 (j30 + 1)) v52))))] H := hP
                              have hD : va_D A [(h0, .inr (11, [.ref st, .int (nI N), .int (nI B), .ref rp, .int vrs, .int vrb, .int vhs, .int vca, .int vxs, .int vxb, .ref tp, .int (nI T), .int vfa, .int vbr, .int vba, .int vsp, .int vhe, .int vtk, .int vva, .ref cu, .ref lt, .ref od, .ref th, .ref be, .ref ln, .int (nI S), .ref ma, .int (nI M), .ref ah, .ref bh, .ref ik, .ref la, .ref lg, .ref ce, .int vto])), (st, .inl (G 0, 196, .inl fst)), (od, .inl (G 1, 10, .inr (.inl g9))), (th, .inl (G 1, 10, .inr (.inl (vp_updL (vp_updL g31 (j30 - 1) v47) (min 9 (j30 + 1)) v52))))] := hD
                              refine lv_iinc (v := nI (j30 + 1)) (lv' := [(6, .int (nI (j30 + 1))), (7, .int (nI j30)), (5, .int r21), (4, .int (nI j8)), (0, .ref h0), (1, .int (nI nn)), (2, .int x1), (3, .int x2)]) hx hb dX11_layOdds_189 hl (k := 1) rfl (by rw [show Int32.ofInt 1 = nI 1 from by decide]; exact nI_add _ _) (by decide) rfl (fun ls hl => ?_)
                              refine lv_goto (tgt := 112) hx hb dX11_layOdds_192 (by decide) ?_
                              exact ih112_32 (j30 + 1) (by omega) (by omega) (by omega) (vp_updL (vp_updL g31 (j30 - 1) v47) (min 9 (j30 + 1)) v52) _ _ hP hD hS ls (lv_sub hl [0, 2, 3, 4, 5, 6, 7] rfl)
                            · skip
                              refine lv_iload hx hb dX11_layOdds_125 (lv_at hl 0 rfl) ?_
                              refine lv_iconst (v := 2) hx hb dX11_layOdds_127 (by decide) ?_
                              have hPc := hP.sub (ws' := []) [] rfl
                              refine va_calli (va_runS (As := [.int (nI j30), .int 2]) (rest := []) ⟨hx, hb, hml, hown, hg⟩ (c_X11_deeper l dC dI G _ j30 2 (by first | omega | (have t_hj5 := hj5; have t_n7 := n7; have t_hj13 := hj13; have t_n16 := n16; have t_hb_k19 := hb_k19; have t_hj27 := hj27; have t_n29 := n29; have t_hj34 := hj34; have t_hlo_j30 := hlo_j30; have t_n45 := n45; have t_c46 := eqI c46; have t_n0 : (nI nn).toInt = (nn : Int) := tn942_ (); have t_n1 : (nI N).toInt = (N : Int) := tn943_ (); have t_n2 : (nI B).toInt = (B : Int) := tn944_ (); have t_n3 : (nI T).toInt = (T : Int) := tn945_ (); have t_n4 : (nI S).toInt = (S : Int) := tn946_ (); have t_n5 : (nI M).toInt = (M : Int) := tn947_ (); have t_n6 : (nI j1).toInt = (j1 : Int) := tn938_ (); have t_n7 : (nI j8).toInt = (j8 : Int) := tn941_ (); have t_n8 : (nI k19).toInt = (k19 : Int) := tn948_ (); have t_n9 : (nI j23).toInt = (j23 : Int) := tn949_ (); have t_n10 : (nI j30).toInt = (j30 : Int) := tn953_ (); have : (2 : Int32).toInt = 2 := qI_2; omega)) (by first | omega | (have t_hj5 := hj5; have t_n7 := n7; have t_hj13 := hj13; have t_n16 := n16; have t_hb_k19 := hb_k19; have t_hj27 := hj27; have t_n29 := n29; have t_hj34 := hj34; have t_hlo_j30 := hlo_j30; have t_n45 := n45; have t_c46 := eqI c46; have t_n0 : (nI nn).toInt = (nn : Int) := tn942_ (); have t_n1 : (nI N).toInt = (N : Int) := tn943_ (); have t_n2 : (nI B).toInt = (B : Int) := tn944_ (); have t_n3 : (nI T).toInt = (T : Int) := tn945_ (); have t_n4 : (nI S).toInt = (S : Int) := tn946_ (); have t_n5 : (nI M).toInt = (M : Int) := tn947_ (); have t_n6 : (nI j1).toInt = (j1 : Int) := tn938_ (); have t_n7 : (nI j8).toInt = (j8 : Int) := tn941_ (); have t_n8 : (nI k19).toInt = (k19 : Int) := tn948_ (); have t_n9 : (nI j23).toInt = (j23 : Int) := tn949_ (); have t_n10 : (nI j30).toInt = (j30 : Int) := tn953_ (); have : (2 : Int32).toInt = 2 := qI_2; omega))) (kwS hg mfX11_deeper wt_1128 ⟨Nat.le_of_ble_eq_true rfl, Nat.le_of_ble_eq_true rfl⟩) (preSR hK hPc) rfl rfl hl.1 rfl (lv_room (Nat.le_of_ble_eq_true rfl)) dX11_layOdds_128 ⟨Nat.le_of_ble_eq_true rfl, Nat.le_of_ble_eq_true rfl⟩) hS (fun q h1 h2 => absurd h2 (Nat.not_le.mpr h1)) (fun q h => hA q (Nat.le_trans hS.1 h)) (fun r53 ur53 t H1 locs ht hvm w54 hB hz1 hk1 hS => ?_)
                              have hP := keepR hP hk1
                              obtain ⟨w54, w54x⟩ := w54
                              have hs55 : j30 ≤ (min 9 (j30 + 2)) ∧ (min 9 (j30 + 2)) ≤ 9 := (by omega)
                              subst w54
                              refine lv_goto (tgt := 136) hx hb dX11_layOdds_131 (by decide) ?_
                              refine lv_istore (lv' := [(7, .int (nI (min 9 (j30 + 2)))), (6, .int (nI j30)), (5, .int r21), (4, .int (nI j8)), (0, .ref h0), (1, .int (nI nn)), (2, .int x1), (3, .int x2)]) hx hb dX11_layOdds_136 hl (by decide) rfl (fun ls hl => ?_)
                              refine lv_aload_n hx hb dX11_layOdds_138 rfl (lv_at hl 4 rfl) ?_
                              refine va_get (D := (dC, dI)) (ci := 11) (v := .ref th) (C := RX11) (T := TX11) (N := 35) hx hb hg inG11 hown hK.1 hP 0 rfl rfl 22 (by decide) (hg _ wt_900) (fun _ h9 => h9) rfl dX11_layOdds_139 ?_
                              refine lv_iload hx hb dX11_layOdds_142 (lv_at hl 0 rfl) ?_
                              refine lv_iconst (v := 1) hx hb dX11_layOdds_144 (by decide) ?_
                              refine lv_isub hx hb dX11_layOdds_145 ?_
                              refine lv_cg (y := nI ((min 9 (j30 + 2)) - 1)) (by rw [show (1 : Int32) = nI 1 from rfl]; exact pk_sub (by have t_hj5 := hj5; have t_n7 := n7; have t_hj13 := hj13; have t_n16 := n16; have t_hb_k19 := hb_k19; have t_hj27 := hj27; have t_n29 := n29; have t_hj34 := hj34; have t_hlo_j30 := hlo_j30; have t_n45 := n45; have t_c46 := eqI c46; have t_hs55 := hs55; have t_n0 : (nI nn).toInt = (nn : Int) := tn942_ (); have t_n1 : (nI N).toInt = (N : Int) := tn943_ (); have t_n2 : (nI B).toInt = (B : Int) := tn944_ (); have t_n3 : (nI T).toInt = (T : Int) := tn945_ (); have t_n4 : (nI S).toInt = (S : Int) := tn946_ (); have t_n5 : (nI M).toInt = (M : Int) := tn947_ (); have t_n6 : (nI j1).toInt = (j1 : Int) := tn938_ (); have t_n7 : (nI j8).toInt = (j8 : Int) := tn941_ (); have t_n8 : (nI k19).toInt = (k19 : Int) := tn948_ (); have t_n9 : (nI j23).toInt = (j23 : Int) := tn949_ (); have t_n10 : (nI j30).toInt = (j30 : Int) := tn953_ (); omega)) ?_
                              refine lv_dup2_11 hx hb dX11_layOdds_146 rfl rfl ?_
                              refine va_lald hx hb hK.1 hP 3 1 rfl rfl (vp_in_nI (by first | omega | (have t_hj5 := hj5; have t_n7 := n7; have t_hj13 := hj13; have t_n16 := n16; have t_hb_k19 := hb_k19; have t_hj27 := hj27; have t_n29 := n29; have t_hj34 := hj34; have t_hlo_j30 := hlo_j30; have t_n45 := n45; have t_c46 := eqI c46; have t_hs55 := hs55; have t_n0 : (nI nn).toInt = (nn : Int) := tn942_ (); have t_n1 : (nI N).toInt = (N : Int) := tn943_ (); have t_n2 : (nI B).toInt = (B : Int) := tn944_ (); have t_n3 : (nI T).toInt = (T : Int) := tn945_ (); have t_n4 : (nI S).toInt = (S : Int) := tn946_ (); have t_n5 : (nI M).toInt = (M : Int) := tn947_ (); have t_n6 : (nI j1).toInt = (j1 : Int) := tn938_ (); have t_n7 : (nI j8).toInt = (j8 : Int) := tn941_ (); have t_n8 : (nI k19).toInt = (k19 : Int) := tn948_ (); have t_n9 : (nI j23).toInt = (j23 : Int) := tn949_ (); have t_n10 : (nI j30).toInt = (j30 : Int) := tn953_ (); omega)) (by decide)) dX11_layOdds_147 ?_
                              refine lv_cgl (y := g31 ((min 9 (j30 + 2)) - 1)) (by rw [nI_clamp (by omega)]) ?_
                              refine lv_iload hx hb dX11_layOdds_148 (lv_at hl 2 rfl) ?_
                              refine lv_i2l (v := r21.toInt64) hx hb dX11_layOdds_150 rfl ?_
                              refine lv_aload_n hx hb dX11_layOdds_151 rfl (lv_at hl 4 rfl) ?_
                              refine va_get (D := (dC, dI)) (ci := 11) (v := .ref od) (C := RX11) (T := TX11) (N := 35) hx hb hg inG11 hown hK.1 hP 0 rfl rfl 21 (by decide) (hg _ wt_899) (fun _ h9 => h9) rfl dX11_layOdds_152 ?_
                              refine lv_iload hx hb dX11_layOdds_155 (lv_at hl 1 rfl) ?_
                              refine va_lald hx hb hK.1 hP 2 1 rfl rfl (vp_in_nI (by first | omega | (have t_hj5 := hj5; have t_n7 := n7; have t_hj13 := hj13; have t_n16 := n16; have t_hb_k19 := hb_k19; have t_hj27 := hj27; have t_n29 := n29; have t_hj34 := hj34; have t_hlo_j30 := hlo_j30; have t_n45 := n45; have t_c46 := eqI c46; have t_hs55 := hs55; have t_n0 : (nI nn).toInt = (nn : Int) := tn942_ (); have t_n1 : (nI N).toInt = (N : Int) := tn943_ (); have t_n2 : (nI B).toInt = (B : Int) := tn944_ (); have t_n3 : (nI T).toInt = (T : Int) := tn945_ (); have t_n4 : (nI S).toInt = (S : Int) := tn946_ (); have t_n5 : (nI M).toInt = (M : Int) := tn947_ (); have t_n6 : (nI j1).toInt = (j1 : Int) := tn938_ (); have t_n7 : (nI j8).toInt = (j8 : Int) := tn941_ (); have t_n8 : (nI k19).toInt = (k19 : Int) := tn948_ (); have t_n9 : (nI j23).toInt = (j23 : Int) := tn949_ (); have t_n10 : (nI j30).toInt = (j30 : Int) := tn953_ (); omega)) (by decide)) dX11_layOdds_157 ?_
                              refine lv_cgl (y := g9 j30) (by rw [nI_clamp (by omega)]) ?_
                              refine lv_lmul hx hb dX11_layOdds_158 ?_
                              refine lv_ladd hx hb dX11_layOdds_159 ?_
                              refine lv_topl (fun v56 ev56 => ?_)
                              refine va_last hx hb hK.1 hP hD hS 3 1 rfl rfl (vp_in_nI (by first | omega | (have t_hj5 := hj5; have t_n7 := n7; have t_hj13 := hj13; have t_n16 := n16; have t_hb_k19 := hb_k19; have t_hj27 := hj27; have t_n29 := n29; have t_hj34 := hj34; have t_hlo_j30 := hlo_j30; have t_n45 := n45; have t_c46 := eqI c46; have t_hs55 := hs55; have t_n0 : (nI nn).toInt = (nn : Int) := tn942_ (); have t_n1 : (nI N).toInt = (N : Int) := tn943_ (); have t_n2 : (nI B).toInt = (B : Int) := tn944_ (); have t_n3 : (nI T).toInt = (T : Int) := tn945_ (); have t_n4 : (nI S).toInt = (S : Int) := tn946_ (); have t_n5 : (nI M).toInt = (M : Int) := tn947_ (); have t_n6 : (nI j1).toInt = (j1 : Int) := tn938_ (); have t_n7 : (nI j8).toInt = (j8 : Int) := tn941_ (); have t_n8 : (nI k19).toInt = (k19 : Int) := tn948_ (); have t_n9 : (nI j23).toInt = (j23 : Int) := tn949_ (); have t_n10 : (nI j30).toInt = (j30 : Int) := tn953_ (); omega)) (by decide)) dX11_layOdds_160 (fun H locs hP hD hS => ?_)
                              rw [nI_clamp (by omega)] at hP hD
                              have hP : va_P (dC, dI) vwCl [(h0, .inr (11, [.ref st, .int (nI N), .int (nI B), .ref rp, .int vrs, .int vrb, .int vhs, .int vca, .int vxs, .int vxb, .ref tp, .int (nI T), .int vfa, .int vbr, .int vba, .int vsp, .int vhe, .int vtk, .int vva, .ref cu, .ref lt, .ref od, .ref th, .ref be, .ref ln, .int (nI S), .ref ma, .int (nI M), .ref ah, .ref bh, .ref ik, .ref la, .ref lg, .ref ce, .int vto])), (st, .inl (G 0, 196, .inl fst)), (od, .inl (G 1, 10, .inr (.inl g9))), (th, .inl (G 1, 10, .inr (.inl (vp_updL g31 ((min 9 (j30 + 2)) - 1) v56))))] H := hP
                              have hD : va_D A [(h0, .inr (11, [.ref st, .int (nI N), .int (nI B), .ref rp, .int vrs, .int vrb, .int vhs, .int vca, .int vxs, .int vxb, .ref tp, .int (nI T), .int vfa, .int vbr, .int vba, .int vsp, .int vhe, .int vtk, .int vva, .ref cu, .ref lt, .ref od, .ref th, .ref be, .ref ln, .int (nI S), .ref ma, .int (nI M), .ref ah, .ref bh, .ref ik, .ref la, .ref lg, .ref ce, .int vto])), (st, .inl (G 0, 196, .inl fst)), (od, .inl (G 1, 10, .inr (.inl g9))), (th, .inl (G 1, 10, .inr (.inl (vp_updL g31 ((min 9 (j30 + 2)) - 1) v56))))] := hD
                              refine lv_aload_n hx hb dX11_layOdds_161 rfl (lv_at hl 4 rfl) ?_
                              refine va_get (D := (dC, dI)) (ci := 11) (v := .ref th) (C := RX11) (T := TX11) (N := 35) hx hb hg inG11 hown hK.1 hP 0 rfl rfl 22 (by decide) (hg _ wt_900) (fun _ h9 => h9) rfl dX11_layOdds_162 ?_
                              refine lv_iload hx hb dX11_layOdds_165 (lv_at hl 0 rfl) ?_
                              refine lv_iconst (v := 1) hx hb dX11_layOdds_167 (by decide) ?_
                              have hPc := hP.sub (ws' := []) [] rfl
                              refine va_calli (va_runS (As := [.int (nI (min 9 (j30 + 2))), .int 1]) (rest := [.ref th]) ⟨hx, hb, hml, hown, hg⟩ (c_X11_deeper l dC dI G _ (min 9 (j30 + 2)) 1 (by first | omega | (have t_hj5 := hj5; have t_n7 := n7; have t_hj13 := hj13; have t_n16 := n16; have t_hb_k19 := hb_k19; have t_hj27 := hj27; have t_n29 := n29; have t_hj34 := hj34; have t_hlo_j30 := hlo_j30; have t_n45 := n45; have t_c46 := eqI c46; have t_hs55 := hs55; have t_n0 : (nI nn).toInt = (nn : Int) := tn942_ (); have t_n1 : (nI N).toInt = (N : Int) := tn943_ (); have t_n2 : (nI B).toInt = (B : Int) := tn944_ (); have t_n3 : (nI T).toInt = (T : Int) := tn945_ (); have t_n4 : (nI S).toInt = (S : Int) := tn946_ (); have t_n5 : (nI M).toInt = (M : Int) := tn947_ (); have t_n6 : (nI j1).toInt = (j1 : Int) := tn938_ (); have t_n7 : (nI j8).toInt = (j8 : Int) := tn941_ (); have t_n8 : (nI k19).toInt = (k19 : Int) := tn948_ (); have t_n9 : (nI j23).toInt = (j23 : Int) := tn949_ (); have t_n10 : (nI j30).toInt = (j30 : Int) := tn953_ (); have : (1 : Int32).toInt = 1 := qI_1; omega)) (by first | omega | (have t_hj5 := hj5; have t_n7 := n7; have t_hj13 := hj13; have t_n16 := n16; have t_hb_k19 := hb_k19; have t_hj27 := hj27; have t_n29 := n29; have t_hj34 := hj34; have t_hlo_j30 := hlo_j30; have t_n45 := n45; have t_c46 := eqI c46; have t_hs55 := hs55; have t_n0 : (nI nn).toInt = (nn : Int) := tn942_ (); have t_n1 : (nI N).toInt = (N : Int) := tn943_ (); have t_n2 : (nI B).toInt = (B : Int) := tn944_ (); have t_n3 : (nI T).toInt = (T : Int) := tn945_ (); have t_n4 : (nI S).toInt = (S : Int) := tn946_ (); have t_n5 : (nI M).toInt = (M : Int) := tn947_ (); have t_n6 : (nI j1).toInt = (j1 : Int) := tn938_ (); have t_n7 : (nI j8).toInt = (j8 : Int) := tn941_ (); have t_n8 : (nI k19).toInt = (k19 : Int) := tn948_ (); have t_n9 : (nI j23).toInt = (j23 : Int) := tn949_ (); have t_n10 : (nI j30).toInt = (j30 : Int) := tn953_ (); have : (1 : Int32).toInt = 1 := qI_1; omega))) (kwS hg mfX11_deeper wt_1128 ⟨Nat.le_of_ble_eq_true rfl, Nat.le_of_ble_eq_true rfl⟩) (preSR hK hPc) rfl rfl hl.1 rfl (lv_room (Nat.le_of_ble_eq_true rfl)) dX11_layOdds_168 ⟨Nat.le_of_ble_eq_true rfl, Nat.le_of_ble_eq_true rfl⟩) hS (fun q h1 h2 => absurd h2 (Nat.not_le.mpr h1)) (fun q h => hA q (Nat.le_trans hS.1 h)) (fun r57 ur57 t H1 locs ht hvm w58 hB hz1 hk1 hS => ?_)
                              have hP := keepR hP hk1
                              obtain ⟨w58, w58x⟩ := w58
                              have hs59 : (min 9 (j30 + 2)) ≤ (min 9 ((min 9 (j30 + 2)) + 1)) ∧ (min 9 ((min 9 (j30 + 2)) + 1)) ≤ 9 := (by omega)
                              subst w58
                              refine lv_dup2_11 hx hb dX11_layOdds_171 rfl rfl ?_
                              refine va_lald hx hb hK.1 hP 3 1 rfl rfl (vp_in_nI (by first | omega | (have t_hj5 := hj5; have t_n7 := n7; have t_hj13 := hj13; have t_n16 := n16; have t_hb_k19 := hb_k19; have t_hj27 := hj27; have t_n29 := n29; have t_hj34 := hj34; have t_hlo_j30 := hlo_j30; have t_n45 := n45; have t_c46 := eqI c46; have t_hs55 := hs55; have t_hs59 := hs59; have t_n0 : (nI nn).toInt = (nn : Int) := tn942_ (); have t_n1 : (nI N).toInt = (N : Int) := tn943_ (); have t_n2 : (nI B).toInt = (B : Int) := tn944_ (); have t_n3 : (nI T).toInt = (T : Int) := tn945_ (); have t_n4 : (nI S).toInt = (S : Int) := tn946_ (); have t_n5 : (nI M).toInt = (M : Int) := tn947_ (); have t_n6 : (nI j1).toInt = (j1 : Int) := tn938_ (); have t_n7 : (nI j8).toInt = (j8 : Int) := tn941_ (); have t_n8 : (nI k19).toInt = (k19 : Int) := tn948_ (); have t_n9 : (nI j23).toInt = (j23 : Int) := tn949_ (); have t_n10 : (nI j30).toInt = (j30 : Int) := tn953_ (); omega)) (by decide)) dX11_layOdds_172 ?_
                              refine lv_cgl (y := (vp_updL g31 ((min 9 (j30 + 2)) - 1) v56) (min 9 ((min 9 (j30 + 2)) + 1))) (by rw [nI_clamp (by omega)]) ?_
                              refine lv_bipush (v := 20) hx hb dX11_layOdds_173 (by decide) ?_
                              refine lv_iload hx hb dX11_layOdds_175 (lv_at hl 2 rfl) ?_
                              refine lv_isub hx hb dX11_layOdds_177 ?_
                              refine lv_i2l (v := (20 - r21).toInt64) hx hb dX11_layOdds_178 rfl ?_
                              refine lv_aload_n hx hb dX11_layOdds_179 rfl (lv_at hl 4 rfl) ?_
                              refine va_get (D := (dC, dI)) (ci := 11) (v := .ref od) (C := RX11) (T := TX11) (N := 35) hx hb hg inG11 hown hK.1 hP 0 rfl rfl 21 (by decide) (hg _ wt_899) (fun _ h9 => h9) rfl dX11_layOdds_180 ?_
                              refine lv_iload hx hb dX11_layOdds_183 (lv_at hl 1 rfl) ?_
                              refine va_lald hx hb hK.1 hP 2 1 rfl rfl (vp_in_nI (by first | omega | (have t_hj5 := hj5; have t_n7 := n7; have t_hj13 := hj13; have t_n16 := n16; have t_hb_k19 := hb_k19; have t_hj27 := hj27; have t_n29 := n29; have t_hj34 := hj34; have t_hlo_j30 := hlo_j30; have t_n45 := n45; have t_c46 := eqI c46; have t_hs55 := hs55; have t_hs59 := hs59; have t_n0 : (nI nn).toInt = (nn : Int) := tn942_ (); have t_n1 : (nI N).toInt = (N : Int) := tn943_ (); have t_n2 : (nI B).toInt = (B : Int) := tn944_ (); have t_n3 : (nI T).toInt = (T : Int) := tn945_ (); have t_n4 : (nI S).toInt = (S : Int) := tn946_ (); have t_n5 : (nI M).toInt = (M : Int) := tn947_ (); have t_n6 : (nI j1).toInt = (j1 : Int) := tn938_ (); have t_n7 : (nI j8).toInt = (j8 : Int) := tn941_ (); have t_n8 : (nI k19).toInt = (k19 : Int) := tn948_ (); have t_n9 : (nI j23).toInt = (j23 : Int) := tn949_ (); have t_n10 : (nI j30).toInt = (j30 : Int) := tn953_ (); omega)) (by decide)) dX11_layOdds_185 ?_
                              refine lv_cgl (y := g9 j30) (by rw [nI_clamp (by omega)]) ?_
                              refine lv_lmul hx hb dX11_layOdds_186 ?_
                              refine lv_topl (fun v60 ev60 => ?_)
                              refine lv_ladd hx hb dX11_layOdds_187 ?_
                              refine lv_topl (fun v61 ev61 => ?_)
                              refine va_last hx hb hK.1 hP hD hS 3 1 rfl rfl (vp_in_nI (by first | omega | (have t_hj5 := hj5; have t_n7 := n7; have t_hj13 := hj13; have t_n16 := n16; have t_hb_k19 := hb_k19; have t_hj27 := hj27; have t_n29 := n29; have t_hj34 := hj34; have t_hlo_j30 := hlo_j30; have t_n45 := n45; have t_c46 := eqI c46; have t_hs55 := hs55; have t_hs59 := hs59; have t_n0 : (nI nn).toInt = (nn : Int) := tn942_ (); have t_n1 : (nI N).toInt = (N : Int) := tn943_ (); have t_n2 : (nI B).toInt = (B : Int) := tn944_ (); have t_n3 : (nI T).toInt = (T : Int) := tn945_ (); have t_n4 : (nI S).toInt = (S : Int) := tn946_ (); have t_n5 : (nI M).toInt = (M : Int) := tn947_ (); have t_n6 : (nI j1).toInt = (j1 : Int) := tn938_ (); have t_n7 : (nI j8).toInt = (j8 : Int) := tn941_ (); have t_n8 : (nI k19).toInt = (k19 : Int) := tn948_ (); have t_n9 : (nI j23).toInt = (j23 : Int) := tn949_ (); have t_n10 : (nI j30).toInt = (j30 : Int) := tn953_ (); omega)) (by decide)) dX11_layOdds_188 (fun H locs hP hD hS => ?_)
                              rw [nI_clamp (by omega)] at hP hD
                              have hP : va_P (dC, dI) vwCl [(h0, .inr (11, [.ref st, .int (nI N), .int (nI B), .ref rp, .int vrs, .int vrb, .int vhs, .int vca, .int vxs, .int vxb, .ref tp, .int (nI T), .int vfa, .int vbr, .int vba, .int vsp, .int vhe, .int vtk, .int vva, .ref cu, .ref lt, .ref od, .ref th, .ref be, .ref ln, .int (nI S), .ref ma, .int (nI M), .ref ah, .ref bh, .ref ik, .ref la, .ref lg, .ref ce, .int vto])), (st, .inl (G 0, 196, .inl fst)), (od, .inl (G 1, 10, .inr (.inl g9))), (th, .inl (G 1, 10, .inr (.inl (vp_updL (vp_updL g31 ((min 9 (j30 + 2)) - 1) v56) (min 9 ((min 9 (j30 + 2)) + 1)) v61))))] H := hP
                              have hD : va_D A [(h0, .inr (11, [.ref st, .int (nI N), .int (nI B), .ref rp, .int vrs, .int vrb, .int vhs, .int vca, .int vxs, .int vxb, .ref tp, .int (nI T), .int vfa, .int vbr, .int vba, .int vsp, .int vhe, .int vtk, .int vva, .ref cu, .ref lt, .ref od, .ref th, .ref be, .ref ln, .int (nI S), .ref ma, .int (nI M), .ref ah, .ref bh, .ref ik, .ref la, .ref lg, .ref ce, .int vto])), (st, .inl (G 0, 196, .inl fst)), (od, .inl (G 1, 10, .inr (.inl g9))), (th, .inl (G 1, 10, .inr (.inl (vp_updL (vp_updL g31 ((min 9 (j30 + 2)) - 1) v56) (min 9 ((min 9 (j30 + 2)) + 1)) v61))))] := hD
                              refine lv_iinc (v := nI (j30 + 1)) (lv' := [(6, .int (nI (j30 + 1))), (7, .int (nI (min 9 (j30 + 2)))), (5, .int r21), (4, .int (nI j8)), (0, .ref h0), (1, .int (nI nn)), (2, .int x1), (3, .int x2)]) hx hb dX11_layOdds_189 hl (k := 1) rfl (by rw [show Int32.ofInt 1 = nI 1 from by decide]; exact nI_add _ _) (by decide) rfl (fun ls hl => ?_)
                              refine lv_goto (tgt := 112) hx hb dX11_layOdds_192 (by decide) ?_
                              exact ih112_32 (j30 + 1) (by omega) (by omega) (by omega) (vp_updL (vp_updL g31 ((min 9 (j30 + 2)) - 1) v56) (min 9 ((min 9 (j30 + 2)) + 1)) v61) _ _ hP hD hS ls (lv_sub hl [0, 2, 3, 4, 5, 6, 7] rfl)
                      exact loop112_32 (10 + 1) 1 (by omega) (by omega) (by omega) (vp_updL g24 0 (20 * (g9 0))) _ _ hP hD hS ls (lv_sub hl [0, 1, 2, 3, 4, 5, 6] rfl)
                    · skip
                      have tn954_ : nIT j23 := fun _ => nI_toInt (by first | omega | (have t := nleI c28; omega))
                      have n62 : j23 < 10 := by have t := nleI c28; rw [show (nI (j23)).toInt = ((j23 : Nat) : Int) from tn954_ ()] at t; have : (10 : Int32).toInt = 10 := qI_10; omega
                      refine lv_aload_n hx hb dX11_layOdds_79 rfl (lv_at hl 3 rfl) ?_
                      refine va_get (D := (dC, dI)) (ci := 11) (v := .ref th) (C := RX11) (T := TX11) (N := 35) hx hb hg inG11 hown hK.1 hP 0 rfl rfl 22 (by decide) (hg _ wt_900) (fun _ h9 => h9) rfl dX11_layOdds_80 ?_
                      refine lv_iload hx hb dX11_layOdds_83 (lv_at hl 0 rfl) ?_
                      refine lv_lconst (v := 0) hx hb dX11_layOdds_85 (by decide) ?_
                      refine va_last hx hb hK.1 hP hD hS 3 1 rfl rfl (vp_in_nI (by first | omega | (have t_hj5 := hj5; have t_n7 := n7; have t_hj13 := hj13; have t_n16 := n16; have t_hb_k19 := hb_k19; have t_hj27 := hj27; have t_n62 := n62; have t_n0 : (nI nn).toInt = (nn : Int) := tn942_ (); have t_n1 : (nI N).toInt = (N : Int) := tn943_ (); have t_n2 : (nI B).toInt = (B : Int) := tn944_ (); have t_n3 : (nI T).toInt = (T : Int) := tn945_ (); have t_n4 : (nI S).toInt = (S : Int) := tn946_ (); have t_n5 : (nI M).toInt = (M : Int) := tn947_ (); have t_n6 : (nI j1).toInt = (j1 : Int) := tn938_ (); have t_n7 : (nI j8).toInt = (j8 : Int) := tn941_ (); have t_n8 : (nI k19).toInt = (k19 : Int) := tn948_ (); have t_n9 : (nI j23).toInt = (j23 : Int) := tn954_ (); omega)) (by decide)) dX11_layOdds_86 (fun H locs hP hD hS => ?_)
                      rw [nI_clamp (by omega)] at hP hD
                      have hP : va_P (dC, dI) vwCl [(h0, .inr (11, [.ref st, .int (nI N), .int (nI B), .ref rp, .int vrs, .int vrb, .int vhs, .int vca, .int vxs, .int vxb, .ref tp, .int (nI T), .int vfa, .int vbr, .int vba, .int vsp, .int vhe, .int vtk, .int vva, .ref cu, .ref lt, .ref od, .ref th, .ref be, .ref ln, .int (nI S), .ref ma, .int (nI M), .ref ah, .ref bh, .ref ik, .ref la, .ref lg, .ref ce, .int vto])), (st, .inl (G 0, 196, .inl fst)), (od, .inl (G 1, 10, .inr (.inl g9))), (th, .inl (G 1, 10, .inr (.inl (vp_updL g24 j23 0))))] H := hP
                      have hD : va_D A [(h0, .inr (11, [.ref st, .int (nI N), .int (nI B), .ref rp, .int vrs, .int vrb, .int vhs, .int vca, .int vxs, .int vxb, .ref tp, .int (nI T), .int vfa, .int vbr, .int vba, .int vsp, .int vhe, .int vtk, .int vva, .ref cu, .ref lt, .ref od, .ref th, .ref be, .ref ln, .int (nI S), .ref ma, .int (nI M), .ref ah, .ref bh, .ref ik, .ref la, .ref lg, .ref ce, .int vto])), (st, .inl (G 0, 196, .inl fst)), (od, .inl (G 1, 10, .inr (.inl g9))), (th, .inl (G 1, 10, .inr (.inl (vp_updL g24 j23 0))))] := hD
                      refine lv_iinc (v := nI (j23 + 1)) (lv' := [(6, .int (nI (j23 + 1))), (5, .int r21), (4, .int (nI j8)), (0, .ref h0), (1, .int (nI nn)), (2, .int x1), (3, .int x2)]) hx hb dX11_layOdds_87 hl (k := 0) rfl (by rw [show Int32.ofInt 1 = nI 1 from by decide]; exact nI_add _ _) (by decide) rfl (fun ls hl => ?_)
                      refine lv_goto (tgt := 72) hx hb dX11_layOdds_90 (by decide) ?_
                      exact ih72_25 (j23 + 1) (by omega) (by omega) (vp_updL g24 j23 0) _ _ hP hD hS ls (lv_sub hl [0, 1, 2, 3, 4, 5, 6] rfl)
                exact loop72_25 (10 + 1) 0 (by omega) (by omega) g10 _ _ hP hD hS ls (lv_sub hl [0, 1, 2, 3, 4, 5, 6] rfl)
              refine lv_icmp_ne (tgt := 63) hx hb dX11_layOdds_56 (by decide) (fun c63 => ?_) (fun c63 => ?_)
              · skip
                refine lv_iconst (v := 0) hx hb dX11_layOdds_63 (by decide) ?_
                exact cut64_20 0 _ _ (by omega) hP hD hS ls (lv_sub hl [0, 1, 2, 3, 4] rfl)
              · skip
                refine lv_iconst (v := 1) hx hb dX11_layOdds_59 (by decide) ?_
                refine lv_goto (tgt := 64) hx hb dX11_layOdds_60 (by decide) ?_
                exact cut64_20 1 _ _ (by omega) hP hD hS ls (lv_sub hl [0, 1, 2, 3, 4] rfl)
        exact loop40_11 (nn + 1) 0 (by omega) (by omega) g2 fth _ _ hP hD hS ls (lv_sub hl [0, 1, 2, 3, 4] rfl)
      · skip
        have tn955_ : nIT j1 := fun _ => nI_toInt (by first | omega | (have t := nleI c6; omega))
        have n64 : j1 < 10 := by have t := nleI c6; rw [show (nI (j1)).toInt = ((j1 : Nat) : Int) from tn955_ ()] at t; have : (10 : Int32).toInt = 10 := qI_10; omega
        refine lv_aload_n hx hb dX11_layOdds_10 rfl (lv_at hl 1 rfl) ?_
        refine va_get (D := (dC, dI)) (ci := 11) (v := .ref od) (C := RX11) (T := TX11) (N := 35) hx hb hg inG11 hown hK.1 hP 0 rfl rfl 21 (by decide) (hg _ wt_899) (fun _ h9 => h9) rfl dX11_layOdds_11 ?_
        refine lv_iload hx hb dX11_layOdds_14 (lv_at hl 0 rfl) ?_
        refine lv_iload hx hb dX11_layOdds_16 (lv_at hl 0 rfl) ?_
        refine lv_aload_n hx hb dX11_layOdds_18 rfl (lv_at hl 1 rfl) ?_
        have hPc := hP.sub (ws' := [(h0, .inr (11, [.ref st, .int (nI N), .int (nI B), .ref rp, .int vrs, .int vrb, .int vhs, .int vca, .int vxs, .int vxb, .ref tp, .int (nI T), .int vfa, .int vbr, .int vba, .int vsp, .int vhe, .int vtk, .int vva, .ref cu, .ref lt, .ref od, .ref th, .ref be, .ref ln, .int (nI S), .ref ma, .int (nI M), .ref ah, .ref bh, .ref ik, .ref la, .ref lg, .ref ce, .int vto])), (st, .inl (G 0, 196, .inl fst))]) [0, 1] rfl
        have tn956_ : nIT nn := fun _ => nI_toInt (by first | omega | (have t_hj5 := hj5; have t_n64 := n64; omega))
        have tn957_ : nIT N := fun _ => nI_toInt (by first | omega | (have t_hj5 := hj5; have t_n64 := n64; omega))
        have tn958_ : nIT B := fun _ => nI_toInt (by first | omega | (have t_hj5 := hj5; have t_n64 := n64; omega))
        have tn959_ : nIT T := fun _ => nI_toInt (by first | omega | (have t_hj5 := hj5; have t_n64 := n64; omega))
        have tn960_ : nIT S := fun _ => nI_toInt (by first | omega | (have t_hj5 := hj5; have t_n64 := n64; omega))
        have tn961_ : nIT M := fun _ => nI_toInt (by first | omega | (have t_hj5 := hj5; have t_n64 := n64; omega))
        refine va_calli (va_runV (As := []) (rest := [.int (nI j1), .int (nI j1), .ref od]) ⟨hx, hb, hml, hown, hg⟩ (c_X11_startNow l dC dI G _ h0 st N B rp tp T cu lt od th be ln S ma M ah bh ik la lg ce vrs vrb vhs vca vxs vxb vfa vbr vba vsp vhe vtk vva vto fst hN hB_ hT_ hS0 hM_ hst) (kwV hg mfX11_startNow wt_1044 ⟨Nat.le_of_ble_eq_true rfl, Nat.le_of_ble_eq_true rfl⟩) (preVR hK hPc (ci := 11) rfl rfl) rfl rfl hl.1 rfl (lv_room (Nat.le_of_ble_eq_true rfl)) dX11_layOdds_19 ⟨Nat.le_of_ble_eq_true rfl, Nat.le_of_ble_eq_true rfl⟩) hS (fun q h1 h2 => absurd h2 (Nat.not_le.mpr h1)) (fun q h => hA q (Nat.le_trans hS.1 h)) (fun r65 ur65 t H1 locs ht hvm w66 hB hz1 hk1 hS => ?_)
        have hP := keepR hP hk1
        obtain ⟨w66, w66x⟩ := w66
        obtain ⟨k67, w66, w66a, w66b⟩ := w66
        subst w66
        have cut30_69 : ∀ (y68 : Int64) (H : Heap) (locs : List Loc), va_P (dC, dI) vwCl [(h0, .inr (11, [.ref st, .int (nI N), .int (nI B), .ref rp, .int vrs, .int vrb, .int vhs, .int vca, .int vxs, .int vxb, .ref tp, .int (nI T), .int vfa, .int vbr, .int vba, .int vsp, .int vhe, .int vtk, .int vva, .ref cu, .ref lt, .ref od, .ref th, .ref be, .ref ln, .int (nI S), .ref ma, .int (nI M), .ref ah, .ref bh, .ref ik, .ref la, .ref lg, .ref ce, .int vto])), (st, .inl (G 0, 196, .inl fst)), (od, .inl (G 1, 10, .inr (.inl g2))), (th, .inl (G 1, 10, .inr (.inl fth)))] H → va_D A [(h0, .inr (11, [.ref st, .int (nI N), .int (nI B), .ref rp, .int vrs, .int vrb, .int vhs, .int vca, .int vxs, .int vxb, .ref tp, .int (nI T), .int vfa, .int vbr, .int vba, .int vsp, .int vhe, .int vtk, .int vva, .ref cu, .ref lt, .ref od, .ref th, .ref be, .ref ln, .int (nI S), .ref ma, .int (nI M), .ref ah, .ref bh, .ref ik, .ref la, .ref lg, .ref ce, .int vto])), (st, .inl (G 0, 196, .inl fst)), (od, .inl (G 1, 10, .inr (.inl g2))), (th, .inl (G 1, 10, .inr (.inl fth)))] → va_S A s.heap H locs → ∀ (ls : Array Slot), lv_has ls 8 [(4, .int (nI j1)), (0, .ref h0), (1, .int (nI nn)), (2, .int x1), (3, .int x2)] → W p l e (headSpec (Cond.code yX11_layOdds cX11_layOdds 8 none :: GT) ({ frames := 3, cells := 0, slots := 0, locals := 72 } : Room)).room s m ([.ref h0, .int (nI nn), .int x1, .int x2] : List Value).toArray below meth c H locs 0 0 (MQ below (va_Qv (fun (u : (Nat → Int64) × (Nat → Int64)) => match u with | (ood, oth) => True) (fun (u : (Nat → Int64) × (Nat → Int64)) (t : State) => match u with | (ood, oth) => va_P (dC, dI) vwCl [(h0, .inr (11, [.ref st, .int (nI N), .int (nI B), .ref rp, .int vrs, .int vrb, .int vhs, .int vca, .int vxs, .int vxb, .ref tp, .int (nI T), .int vfa, .int vbr, .int vba, .int vsp, .int vhe, .int vtk, .int vva, .ref cu, .ref lt, .ref od, .ref th, .ref be, .ref ln, .int (nI S), .ref ma, .int (nI M), .ref ah, .ref bh, .ref ik, .ref la, .ref lg, .ref ce, .int vto])), (st, .inl (G 0, 196, .inl fst)), (od, .inl (G 1, 10, .inr (.inl ood))), (th, .inl (G 1, 10, .inr (.inl oth)))] t.heap ∧ va_D A [(h0, .inr (11, [.ref st, .int (nI N), .int (nI B), .ref rp, .int vrs, .int vrb, .int vhs, .int vca, .int vxs, .int vxb, .ref tp, .int (nI T), .int vfa, .int vbr, .int vba, .int vsp, .int vhe, .int vtk, .int vva, .ref cu, .ref lt, .ref od, .ref th, .ref be, .ref ln, .int (nI S), .ref ma, .int (nI M), .ref ah, .ref bh, .ref ik, .ref la, .ref lg, .ref ce, .int vto])), (st, .inl (G 0, 196, .inl fst)), (od, .inl (G 1, 10, .inr (.inl ood))), (th, .inl (G 1, 10, .inr (.inl oth)))]) A) ([.ref h0, .int (nI nn), .int x1, .int x2] : List Value).toArray s 0 0 A) (F0 m 30 ls [.long y68, .int (nI j1), .ref od]) := by
          intro y68 H locs hP hD hS ls hl
          have tn962_ : nIT k67 := fun _ => nI_toInt (by first | omega | (have t_hj5 := hj5; have t_n64 := n64; have t_w66a := w66a; have t_w66b := w66b; omega))
          refine va_last hx hb hK.1 hP hD hS 2 1 rfl rfl (vp_in_nI (by first | omega | (have t_hj5 := hj5; have t_n64 := n64; have t_w66a := w66a; have t_w66b := w66b; have t_n0 : (nI nn).toInt = (nn : Int) := tn956_ (); have t_n1 : (nI N).toInt = (N : Int) := tn957_ (); have t_n2 : (nI B).toInt = (B : Int) := tn958_ (); have t_n3 : (nI T).toInt = (T : Int) := tn959_ (); have t_n4 : (nI S).toInt = (S : Int) := tn960_ (); have t_n5 : (nI M).toInt = (M : Int) := tn961_ (); have t_n6 : (nI j1).toInt = (j1 : Int) := tn955_ (); have t_n7 : (nI k67).toInt = (k67 : Int) := tn962_ (); omega)) (by decide)) dX11_layOdds_30 (fun H locs hP hD hS => ?_)
          rw [nI_clamp (by omega)] at hP hD
          have hP : va_P (dC, dI) vwCl [(h0, .inr (11, [.ref st, .int (nI N), .int (nI B), .ref rp, .int vrs, .int vrb, .int vhs, .int vca, .int vxs, .int vxb, .ref tp, .int (nI T), .int vfa, .int vbr, .int vba, .int vsp, .int vhe, .int vtk, .int vva, .ref cu, .ref lt, .ref od, .ref th, .ref be, .ref ln, .int (nI S), .ref ma, .int (nI M), .ref ah, .ref bh, .ref ik, .ref la, .ref lg, .ref ce, .int vto])), (st, .inl (G 0, 196, .inl fst)), (od, .inl (G 1, 10, .inr (.inl (vp_updL g2 j1 y68)))), (th, .inl (G 1, 10, .inr (.inl fth)))] H := hP
          have hD : va_D A [(h0, .inr (11, [.ref st, .int (nI N), .int (nI B), .ref rp, .int vrs, .int vrb, .int vhs, .int vca, .int vxs, .int vxb, .ref tp, .int (nI T), .int vfa, .int vbr, .int vba, .int vsp, .int vhe, .int vtk, .int vva, .ref cu, .ref lt, .ref od, .ref th, .ref be, .ref ln, .int (nI S), .ref ma, .int (nI M), .ref ah, .ref bh, .ref ik, .ref la, .ref lg, .ref ce, .int vto])), (st, .inl (G 0, 196, .inl fst)), (od, .inl (G 1, 10, .inr (.inl (vp_updL g2 j1 y68)))), (th, .inl (G 1, 10, .inr (.inl fth)))] := hD
          refine lv_iinc (v := nI (j1 + 1)) (lv' := [(4, .int (nI (j1 + 1))), (0, .ref h0), (1, .int (nI nn)), (2, .int x1), (3, .int x2)]) hx hb dX11_layOdds_31 hl (k := 0) rfl (by rw [show Int32.ofInt 1 = nI 1 from by decide]; exact nI_add _ _) (by decide) rfl (fun ls hl => ?_)
          refine lv_goto (tgt := 3) hx hb dX11_layOdds_34 (by decide) ?_
          exact ih3_3 (j1 + 1) (by omega) (by omega) (vp_updL g2 j1 y68) _ _ hP hD hS ls (lv_sub hl [0, 1, 2, 3, 4] rfl)
        refine lv_icmp_ne (tgt := 29) hx hb dX11_layOdds_22 (by decide) (fun c70 => ?_) (fun c70 => ?_)
        · skip
          have tn963_ : nIT k67 := fun _ => nI_toInt (by omega)
          have n71 : j1 ≠ k67 := by have t := neI c70; rw [show (nI (j1)).toInt = ((j1 : Nat) : Int) from tn955_ ()] at t; rw [show (nI (k67)).toInt = ((k67 : Nat) : Int) from tn963_ ()] at t; omega
          refine lv_lconst (v := 0) hx hb dX11_layOdds_29 (by decide) ?_
          exact cut30_69 0 _ _ hP hD hS ls (lv_sub hl [0, 1, 2, 3, 4] rfl)
        · skip
          have tn964_ : nIT k67 := fun _ => nI_toInt (by omega)
          have n72 : j1 = k67 := by have t := eqI c70; rw [show (nI (j1)).toInt = ((j1 : Nat) : Int) from tn955_ ()] at t; rw [show (nI (k67)).toInt = ((k67 : Nat) : Int) from tn964_ ()] at t; omega
          refine lv_lconst (v := 1) hx hb dX11_layOdds_25 (by decide) ?_
          refine lv_goto (tgt := 30) hx hb dX11_layOdds_26 (by decide) ?_
          exact cut30_69 1 _ _ hP hD hS ls (lv_sub hl [0, 1, 2, 3, 4] rfl)
  exact loop3_3 (10 + 1) 0 (by omega) (by omega) fod _ _ hP hD hS ls (lv_sub hl [0, 1, 2, 3, 4] rfl)

set_option maxHeartbeats 1000000 in
set_option maxRecDepth 100000 in
theorem c_X11_lowest (l : Launch) (dC : Nat → ClassId) (dI : Nat → Nat → Nat) (G : Nat → ClassId) (sz : Nat) (what : Int32) (x1 x2 : Int64) (hx2 : x2.toInt ≠ 0) : Met l yX11_lowest (Cond.code yX11_lowest cX11_lowest 11 (some .long) :: GT) ({ frames := 0, cells := 0, slots := 0, locals := 0 } : Room) (PcR [.long x1, .long x2, .int what] dC dI G [] sz) (va_Ql (fun (r : Int64) (u : Unit) => match u with | _ => (True) ∧ True) (fun _ _ => True) (fun q : Nat => sz ≤ q)) 0 0 (fun q : Nat => sz ≤ q) := by
  refine Met.ofW (cc := cX11_lowest) (maxL := 11) (ret := (some .long)) (by decide) rfl ?_
  intro p e s m args below meth c s₁ Bd hml hv
  obtain ⟨rfl, hsz, hP, hK⟩ := hv
  have hx := Bd.exec
  have hb := Bd.bytes
  have hr := Bd.returns
  have hg : ∀ w ∈ GT, w.before ([.long x1, .long x2, .int what] : List Value).toArray s = true := fun w h => atoms_spec (ws := Cond.code yX11_lowest cX11_lowest 11 (some .long) :: GT) Bd.pre w (List.mem_cons_of_mem _ h)
  have hown : s.vm.findClass RX11 = some m.cls := findClass_of_methodNamed Bd.named
  have hlocks := Bd.notSynchronized
  subst hsz
  have hA : ∀ q : Nat, s.heap.size ≤ q → (fun q : Nat => s.heap.size ≤ q) q := fun _ h => h
  have hS : va_S (fun q : Nat => s.heap.size ≤ q) s.heap s.heap [] := va_S.rf
  have hl := lv_entry ([.long x1, .long x2, .int what]) (n := 11) (Nat.le_of_ble_eq_true rfl)
  rw [lg_entry_eq]
  generalize (lg_sl ([.long x1, .long x2, .int what]) ++ List.replicate (11 - (lg_sl ([.long x1, .long x2, .int what])).length) Slot.unset).toArray = ls at hl ⊢
  have hl : lv_has ls 11 [(0, .long x1), (2, .long x2), (4, .int what)] := hl
  refine lv_lload_n hx hb dX11_lowest_0 rfl (lv_at hl 0 rfl) ?_
  refine lv_lstore (lv' := [(5, .long x1), (0, .long x1), (2, .long x2), (4, .int what)]) hx hb dX11_lowest_1 hl (by decide) rfl (fun ls hl => ?_)
  refine lv_lload_n hx hb dX11_lowest_3 rfl (lv_at hl 2 rfl) ?_
  refine lv_lstore (lv' := [(7, .long x2), (5, .long x1), (0, .long x1), (2, .long x2), (4, .int what)]) hx hb dX11_lowest_4 hl (by decide) rfl (fun ls hl => ?_)
  have loop6_3 : ∀ (nf : Nat) (y1 : Int64) (y2 : Int64), y1.toInt.natAbs < nf → (y1.toInt ≠ 0 ∨ y2.toInt ≠ 0) → ∀ (H : Heap) (locs : List Loc), va_P (dC, dI) vwCl [] H → va_S (fun q : Nat => s.heap.size ≤ q) s.heap H locs → ∀ (ls : Array Slot), lv_has ls 11 [(7, .long y1), (5, .long y2), (0, .long x1), (2, .long x2), (4, .int what)] → W p l e (headSpec (Cond.code yX11_lowest cX11_lowest 11 (some .long) :: GT) ({ frames := 0, cells := 0, slots := 0, locals := 0 } : Room)).room s m ([.long x1, .long x2, .int what] : List Value).toArray below meth c H locs 0 0 (MQ below (va_Ql (fun (r : Int64) (u : Unit) => match u with | _ => (True) ∧ True) (fun _ _ => True) (fun q : Nat => s.heap.size ≤ q)) ([.long x1, .long x2, .int what] : List Value).toArray s 0 0 (fun q : Nat => s.heap.size ≤ q)) (F0 m 6 ls []) := by
    intro nf
    induction nf with
    | zero => intro y1 y2 h1; exact absurd h1 (Nat.not_lt_zero _)
    | succ nf ih6_3 =>
      intro y1 y2 hm4 hinv H locs hP hS ls hl
      refine lv_lload hx hb dX11_lowest_6 (lv_at hl 0 rfl) ?_
      refine lv_lconst (v := 0) hx hb dX11_lowest_8 (by decide) ?_
      refine W.lcmp hx hb dX11_lowest_9 ?_
      refine lv_if_eq (tgt := 31) hx hb dX11_lowest_10 (by decide) (fun c5 => ?_) (fun c5 => ?_)
      · skip
        refine lv_iload hx hb dX11_lowest_31 (lv_at hl 4 rfl) ?_
        refine lv_if_ne (tgt := 40) hx hb dX11_lowest_33 (by decide) (fun c6 => ?_) (fun c6 => ?_)
        · skip
          refine lv_lload_n hx hb dX11_lowest_40 rfl (lv_at hl 3 rfl) ?_
          refine lv_lload hx hb dX11_lowest_41 (lv_at hl 1 rfl) ?_
          refine lv_ldiv hx hb dX11_lowest_43 (by intro h0; have t0 := congrArg Int64.toInt h0; have z0 : (0 : Int64).toInt = 0 := qL_0; have t_hinv := hinv; have t_c5 := lcm_eq_t c5; have t_c6 := neI c6; have : (0 : Int32).toInt = 0 := qI_0; have : (0 : Int64).toInt = 0 := qL_0; omega) ?_
          have hpost : True := by
            trivial
          refine W.widen (k := 0) (n := 0) (Nat.le_of_ble_eq_true rfl) (Nat.le_of_ble_eq_true rfl) ?_
          exact W.lret (v := x2 / y2) hx hb hr (fun t ht hW => ⟨⟨x2 / y2, (), rfl, ⟨hpost, trivial⟩, trivial⟩, hS.F ht⟩) hS.2.2 dX11_lowest_44
        · skip
          refine lv_lload_n hx hb dX11_lowest_36 rfl (lv_at hl 2 rfl) ?_
          refine lv_goto (tgt := 41) hx hb dX11_lowest_37 (by decide) ?_
          refine lv_lload hx hb dX11_lowest_41 (lv_at hl 1 rfl) ?_
          refine lv_ldiv hx hb dX11_lowest_43 (by intro h0; have t0 := congrArg Int64.toInt h0; have z0 : (0 : Int64).toInt = 0 := qL_0; have t_hinv := hinv; have t_c5 := lcm_eq_t c5; have t_c6 := eqI c6; have : (0 : Int32).toInt = 0 := qI_0; have : (0 : Int64).toInt = 0 := qL_0; omega) ?_
          have hpost : True := by
            trivial
          refine W.widen (k := 0) (n := 0) (Nat.le_of_ble_eq_true rfl) (Nat.le_of_ble_eq_true rfl) ?_
          exact W.lret (v := x1 / y2) hx hb hr (fun t ht hW => ⟨⟨x1 / y2, (), rfl, ⟨hpost, trivial⟩, trivial⟩, hS.F ht⟩) hS.2.2 dX11_lowest_44
      · skip
        refine lv_lload hx hb dX11_lowest_13 (lv_at hl 1 rfl) ?_
        refine lv_lload hx hb dX11_lowest_15 (lv_at hl 0 rfl) ?_
        refine lv_lrem hx hb dX11_lowest_17 (by intro h0; have t0 := congrArg Int64.toInt h0; have z0 : (0 : Int64).toInt = 0 := qL_0; have t_hinv := hinv; have t_c5 := lcm_eq_f c5; have : (0 : Int64).toInt = 0 := qL_0; omega) ?_
        refine lv_lstore (lv' := [(9, .long (y2 - y2 / y1 * y1)), (7, .long y1), (5, .long y2), (0, .long x1), (2, .long x2), (4, .int what)]) hx hb dX11_lowest_18 hl (by decide) rfl (fun ls hl => ?_)
        refine lv_lload hx hb dX11_lowest_20 (lv_at hl 1 rfl) ?_
        refine lv_lstore (lv' := [(5, .long y1), (9, .long (y2 - y2 / y1 * y1)), (7, .long y1), (0, .long x1), (2, .long x2), (4, .int what)]) hx hb dX11_lowest_22 hl (by decide) rfl (fun ls hl => ?_)
        refine lv_lload hx hb dX11_lowest_24 (lv_at hl 1 rfl) ?_
        refine lv_lstore (lv' := [(7, .long (y2 - y2 / y1 * y1)), (5, .long y1), (9, .long (y2 - y2 / y1 * y1)), (0, .long x1), (2, .long x2), (4, .int what)]) hx hb dX11_lowest_26 hl (by decide) rfl (fun ls hl => ?_)
        refine lv_goto (tgt := 6) hx hb dX11_lowest_28 (by decide) ?_
        exact ih6_3 (y2 - y2 / y1 * y1) y1 (Nat.lt_of_lt_of_le (rem_lt (by have t_hinv := hinv; have t_c5 := lcm_eq_f c5; have : (0 : Int64).toInt = 0 := qL_0; omega)) (Nat.le_of_lt_succ hm4)) (Or.inr (by have t_hinv := hinv; have t_c5 := lcm_eq_f c5; have : (0 : Int64).toInt = 0 := qL_0; omega)) _ _ hP hS ls (lv_sub hl [0, 1, 3, 4, 5] rfl)
  exact loop6_3 (x2.toInt.natAbs + 1) x2 x1 (Nat.lt_succ_self _) (Or.inl hx2) _ _ hP hS ls (lv_sub hl [0, 1, 2, 3, 4] rfl)

set_option maxHeartbeats 1000000 in
set_option maxRecDepth 100000 in
theorem c_X11_wakes (l : Launch) (dC : Nat → ClassId) (dI : Nat → Nat → Nat) (G : Nat → ClassId) (sz : Nat) (h0 st N B rp tp T cu lt od th be ln S ma M ah bh ik la lg ce : Nat) (what vrs vrb vhs vca vxs vxb vfa vbr vba vsp vhe vtk vva vto : Int32) (fst : Nat → Int32) (fod : Nat → Int64) (fth : Nat → Int64) (hN : N ≤ 10) (hB : B ≤ 6) (hT : T ≤ 320) (hS0 : S ≤ 8) (hM : M ≤ 6) (hst : OKS fst) : Met l yX11_wakes (Cond.code yX11_wakes cX11_wakes 2 (some .long) :: GT) ({ frames := 4, cells := 0, slots := 0, locals := 99 } : Room) (PcW [.ref h0, .int what] dC dI G [(h0, .inr (11, [.ref st, .int (nI N), .int (nI B), .ref rp, .int vrs, .int vrb, .int vhs, .int vca, .int vxs, .int vxb, .ref tp, .int (nI T), .int vfa, .int vbr, .int vba, .int vsp, .int vhe, .int vtk, .int vva, .ref cu, .ref lt, .ref od, .ref th, .ref be, .ref ln, .int (nI S), .ref ma, .int (nI M), .ref ah, .ref bh, .ref ik, .ref la, .ref lg, .ref ce, .int vto])), (st, .inl (G 0, 196, .inl fst)), (od, .inl (G 1, 10, .inr (.inl fod))), (th, .inl (G 1, 10, .inr (.inl fth)))] sz) (va_Ql (fun (r : Int64) (u : (Nat → Int64) × (Nat → Int64)) => match u with | (ood, oth) => (True) ∧ True) (fun (u : (Nat → Int64) × (Nat → Int64)) (t : State) => match u with | (ood, oth) => va_P (dC, dI) vwCl [(h0, .inr (11, [.ref st, .int (nI N), .int (nI B), .ref rp, .int vrs, .int vrb, .int vhs, .int vca, .int vxs, .int vxb, .ref tp, .int (nI T), .int vfa, .int vbr, .int vba, .int vsp, .int vhe, .int vtk, .int vva, .ref cu, .ref lt, .ref od, .ref th, .ref be, .ref ln, .int (nI S), .ref ma, .int (nI M), .ref ah, .ref bh, .ref ik, .ref la, .ref lg, .ref ce, .int vto])), (st, .inl (G 0, 196, .inl fst)), (od, .inl (G 1, 10, .inr (.inl ood))), (th, .inl (G 1, 10, .inr (.inl oth)))] t.heap ∧ va_D (va_A [(h0, .inr (11, [.ref st, .int (nI N), .int (nI B), .ref rp, .int vrs, .int vrb, .int vhs, .int vca, .int vxs, .int vxb, .ref tp, .int (nI T), .int vfa, .int vbr, .int vba, .int vsp, .int vhe, .int vtk, .int vva, .ref cu, .ref lt, .ref od, .ref th, .ref be, .ref ln, .int (nI S), .ref ma, .int (nI M), .ref ah, .ref bh, .ref ik, .ref la, .ref lg, .ref ce, .int vto])), (st, .inl (G 0, 196, .inl fst)), (od, .inl (G 1, 10, .inr (.inl fod))), (th, .inl (G 1, 10, .inr (.inl fth)))] sz) [(h0, .inr (11, [.ref st, .int (nI N), .int (nI B), .ref rp, .int vrs, .int vrb, .int vhs, .int vca, .int vxs, .int vxb, .ref tp, .int (nI T), .int vfa, .int vbr, .int vba, .int vsp, .int vhe, .int vtk, .int vva, .ref cu, .ref lt, .ref od, .ref th, .ref be, .ref ln, .int (nI S), .ref ma, .int (nI M), .ref ah, .ref bh, .ref ik, .ref la, .ref lg, .ref ce, .int vto])), (st, .inl (G 0, 196, .inl fst)), (od, .inl (G 1, 10, .inr (.inl ood))), (th, .inl (G 1, 10, .inr (.inl oth)))]) (va_A [(h0, .inr (11, [.ref st, .int (nI N), .int (nI B), .ref rp, .int vrs, .int vrb, .int vhs, .int vca, .int vxs, .int vxb, .ref tp, .int (nI T), .int vfa, .int vbr, .int vba, .int vsp, .int vhe, .int vtk, .int vva, .ref cu, .ref lt, .ref od, .ref th, .ref be, .ref ln, .int (nI S), .ref ma, .int (nI M), .ref ah, .ref bh, .ref ik, .ref la, .ref lg, .ref ce, .int vto])), (st, .inl (G 0, 196, .inl fst)), (od, .inl (G 1, 10, .inr (.inl fod))), (th, .inl (G 1, 10, .inr (.inl fth)))] sz)) 0 0 (va_A [(h0, .inr (11, [.ref st, .int (nI N), .int (nI B), .ref rp, .int vrs, .int vrb, .int vhs, .int vca, .int vxs, .int vxb, .ref tp, .int (nI T), .int vfa, .int vbr, .int vba, .int vsp, .int vhe, .int vtk, .int vva, .ref cu, .ref lt, .ref od, .ref th, .ref be, .ref ln, .int (nI S), .ref ma, .int (nI M), .ref ah, .ref bh, .ref ik, .ref la, .ref lg, .ref ce, .int vto])), (st, .inl (G 0, 196, .inl fst)), (od, .inl (G 1, 10, .inr (.inl fod))), (th, .inl (G 1, 10, .inr (.inl fth)))] sz) := by
  have hB_ := hB
  have hM_ := hM
  have hT_ := hT
  refine Met.ofW (cc := cX11_wakes) (maxL := 2) (ret := (some .long)) (by decide) rfl ?_
  intro p e s m args below meth c s₁ Bd hml hv
  obtain ⟨rfl, hsz, hP, hK, hD0⟩ := hv
  have hx := Bd.exec
  have hb := Bd.bytes
  have hr := Bd.returns
  have hg : ∀ w ∈ GT, w.before ([.ref h0, .int what] : List Value).toArray s = true := fun w h => atoms_spec (ws := Cond.code yX11_wakes cX11_wakes 2 (some .long) :: GT) Bd.pre w (List.mem_cons_of_mem _ h)
  have hown : s.vm.findClass RX11 = some m.cls := findClass_of_methodNamed Bd.named
  have hlocks := Bd.notSynchronized
  subst hsz
  have hD := hD0.self (sz := s.heap.size)
  generalize hAe : va_A [(h0, .inr (11, [.ref st, .int (nI N), .int (nI B), .ref rp, .int vrs, .int vrb, .int vhs, .int vca, .int vxs, .int vxb, .ref tp, .int (nI T), .int vfa, .int vbr, .int vba, .int vsp, .int vhe, .int vtk, .int vva, .ref cu, .ref lt, .ref od, .ref th, .ref be, .ref ln, .int (nI S), .ref ma, .int (nI M), .ref ah, .ref bh, .ref ik, .ref la, .ref lg, .ref ce, .int vto])), (st, .inl (G 0, 196, .inl fst)), (od, .inl (G 1, 10, .inr (.inl fod))), (th, .inl (G 1, 10, .inr (.inl fth)))] s.heap.size = A at hD ⊢
  have hA : ∀ q : Nat, s.heap.size ≤ q → A q := fun q h => by rw [← hAe]; exact Or.inr h
  have hS : va_S A s.heap s.heap [] := va_S.rf
  have hl := lv_entry ([.ref h0, .int what]) (n := 2) (Nat.le_of_ble_eq_true rfl)
  rw [lg_entry_eq]
  generalize (lg_sl ([.ref h0, .int what]) ++ List.replicate (2 - (lg_sl ([.ref h0, .int what])).length) Slot.unset).toArray = ls at hl ⊢
  have hl : lv_has ls 2 [(0, .ref h0), (1, .int what)] := hl
  refine lv_iload_n hx hb dX11_wakes_0 rfl (lv_at hl 1 rfl) ?_
  refine lv_i2l (v := what.toInt64) hx hb dX11_wakes_1 rfl ?_
  refine lv_lconst (v := 0) hx hb dX11_wakes_2 (by decide) ?_
  refine lv_lconst (v := 1) hx hb dX11_wakes_3 (by decide) ?_
  have hPc := hP.sub (ws' := []) [] rfl
  refine va_calli (va_runS (As := [.long what.toInt64, .long 0, .long 1]) (rest := []) ⟨hx, hb, hml, hown, hg⟩ (c_X11_in l dC dI G _ what.toInt64 0 1) (kwS hg mfX11_in wt_992 ⟨Nat.le_of_ble_eq_true rfl, Nat.le_of_ble_eq_true rfl⟩) (preSR hK hPc) rfl rfl hl.1 rfl (lv_room (Nat.le_of_ble_eq_true rfl)) dX11_wakes_4 ⟨Nat.le_of_ble_eq_true rfl, Nat.le_of_ble_eq_true rfl⟩) hS (fun q h1 h2 => absurd h2 (Nat.not_le.mpr h1)) (fun q h => hA q (Nat.le_trans hS.1 h)) (fun r1 ur1 t H1 locs ht hvm w2 hB hz1 hk1 hS => ?_)
  have hP := keepR hP hk1
  obtain ⟨w2, w2x⟩ := w2
  try simp only [l_ii, show (0 : Int64).toInt = 0 from by decide, show (1 : Int64).toInt = 1 from by decide] at w2
  subst w2
  refine lv_if_ne (tgt := 14) hx hb dX11_wakes_7 (by decide) (fun c3 => ?_) (fun c3 => ?_)
  · skip
    have b4 := if10_p c3
    refine lv_aload_n hx hb dX11_wakes_14 rfl (lv_at hl 0 rfl) ?_
    refine lv_aload_n hx hb dX11_wakes_15 rfl (lv_at hl 0 rfl) ?_
    refine va_get (D := (dC, dI)) (ci := 11) (v := .int (nI N)) (C := RX11) (T := TX11) (N := 35) hx hb hg inG11 hown hK.1 hP 0 rfl rfl 1 (by decide) (hg _ wt_879) (fun _ h9 => h9) rfl dX11_wakes_16 ?_
    refine lv_iconst (v := 0) hx hb dX11_wakes_19 (by decide) ?_
    refine lv_bipush (v := (-4)) hx hb dX11_wakes_20 (by decide) ?_
    have hPc := hP.sub (ws' := [(h0, .inr (11, [.ref st, .int (nI N), .int (nI B), .ref rp, .int vrs, .int vrb, .int vhs, .int vca, .int vxs, .int vxb, .ref tp, .int (nI T), .int vfa, .int vbr, .int vba, .int vsp, .int vhe, .int vtk, .int vva, .ref cu, .ref lt, .ref od, .ref th, .ref be, .ref ln, .int (nI S), .ref ma, .int (nI M), .ref ah, .ref bh, .ref ik, .ref la, .ref lg, .ref ce, .int vto])), (st, .inl (G 0, 196, .inl fst)), (od, .inl (G 1, 10, .inr (.inl fod))), (th, .inl (G 1, 10, .inr (.inl fth)))]) [0, 1, 2, 3] rfl
    have hDc := hD.sub (ws' := [(h0, .inr (11, [.ref st, .int (nI N), .int (nI B), .ref rp, .int vrs, .int vrb, .int vhs, .int vca, .int vxs, .int vxb, .ref tp, .int (nI T), .int vfa, .int vbr, .int vba, .int vsp, .int vhe, .int vtk, .int vva, .ref cu, .ref lt, .ref od, .ref th, .ref be, .ref ln, .int (nI S), .ref ma, .int (nI M), .ref ah, .ref bh, .ref ik, .ref la, .ref lg, .ref ce, .int vto])), (st, .inl (G 0, 196, .inl fst)), (od, .inl (G 1, 10, .inr (.inl fod))), (th, .inl (G 1, 10, .inr (.inl fth)))]) [0, 1, 2, 3] (by decide) rfl
    have hFc := va_free (wc := [(h0, .inr (11, [.ref st, .int (nI N), .int (nI B), .ref rp, .int vrs, .int vrb, .int vhs, .int vca, .int vxs, .int vxb, .ref tp, .int (nI T), .int vfa, .int vbr, .int vba, .int vsp, .int vhe, .int vtk, .int vva, .ref cu, .ref lt, .ref od, .ref th, .ref be, .ref ln, .int (nI S), .ref ma, .int (nI M), .ref ah, .ref bh, .ref ik, .ref la, .ref lg, .ref ce, .int vto])), (st, .inl (G 0, 196, .inl fst)), (od, .inl (G 1, 10, .inr (.inl fod))), (th, .inl (G 1, 10, .inr (.inl fth)))]) hD hS hA [0, 1, 2, 3] rfl
    have tn965_ : nIT N := fun _ => nI_toInt (by first | omega | (have t_b4 := b4; omega))
    have tn966_ : nIT B := fun _ => nI_toInt (by first | omega | (have t_b4 := b4; omega))
    have tn967_ : nIT T := fun _ => nI_toInt (by first | omega | (have t_b4 := b4; omega))
    have tn968_ : nIT S := fun _ => nI_toInt (by first | omega | (have t_b4 := b4; omega))
    have tn969_ : nIT M := fun _ => nI_toInt (by first | omega | (have t_b4 := b4; omega))
    refine va_callv (va_runV (As := [.int (nI N), .int 0, .int (-4)]) (rest := []) ⟨hx, hb, hml, hown, hg⟩ (c_X11_layOdds l dC dI G _ h0 N st N B rp tp T cu lt od th be ln S ma M ah bh ik la lg ce 0 (-4) vrs vrb vhs vca vxs vxb vfa vbr vba vsp vhe vtk vva vto fst fod fth hN hB_ hT_ hS0 hM_ hst hN) (kwV hg mfX11_layOdds wt_1119 ⟨Nat.le_of_ble_eq_true rfl, Nat.le_of_ble_eq_true rfl⟩) (preVW hK hPc hDc (ci := 11) rfl rfl) rfl rfl hl.1 rfl (lv_room (Nat.le_of_ble_eq_true rfl)) dX11_wakes_22 ⟨Nat.le_of_ble_eq_true rfl, Nat.le_of_ble_eq_true rfl⟩) hS (fun q _ h => hFc q h) hFc (fun ur5 t H1 locs ht hvm w6 hB hz1 hk1 hS => ?_)
    obtain ⟨u7, u8⟩ := ur5
    obtain ⟨hP1, hD1⟩ := hB
    rw [ht] at hP1
    obtain ⟨hP, hD⟩ := va_join (wr := []) (w1 := [(h0, .inr (11, [.ref st, .int (nI N), .int (nI B), .ref rp, .int vrs, .int vrb, .int vhs, .int vca, .int vxs, .int vxb, .ref tp, .int (nI T), .int vfa, .int vbr, .int vba, .int vsp, .int vhe, .int vtk, .int vva, .ref cu, .ref lt, .ref od, .ref th, .ref be, .ref ln, .int (nI S), .ref ma, .int (nI M), .ref ah, .ref bh, .ref ik, .ref la, .ref lg, .ref ce, .int vto])), (st, .inl (G 0, 196, .inl fst)), (od, .inl (G 1, 10, .inr (.inl u7))), (th, .inl (G 1, 10, .inr (.inl u8)))]) hP hD [0, 1, 2, 3] [] rfl rfl (by decide) (by decide) hk1 hFc hP1 hD1
    generalize H1 = H at hP hS ⊢
    have hP : va_P (dC, dI) vwCl [(h0, .inr (11, [.ref st, .int (nI N), .int (nI B), .ref rp, .int vrs, .int vrb, .int vhs, .int vca, .int vxs, .int vxb, .ref tp, .int (nI T), .int vfa, .int vbr, .int vba, .int vsp, .int vhe, .int vtk, .int vva, .ref cu, .ref lt, .ref od, .ref th, .ref be, .ref ln, .int (nI S), .ref ma, .int (nI M), .ref ah, .ref bh, .ref ik, .ref la, .ref lg, .ref ce, .int vto])), (st, .inl (G 0, 196, .inl fst)), (od, .inl (G 1, 10, .inr (.inl u7))), (th, .inl (G 1, 10, .inr (.inl u8)))] H := hP
    have hD : va_D A [(h0, .inr (11, [.ref st, .int (nI N), .int (nI B), .ref rp, .int vrs, .int vrb, .int vhs, .int vca, .int vxs, .int vxb, .ref tp, .int (nI T), .int vfa, .int vbr, .int vba, .int vsp, .int vhe, .int vtk, .int vva, .ref cu, .ref lt, .ref od, .ref th, .ref be, .ref ln, .int (nI S), .ref ma, .int (nI M), .ref ah, .ref bh, .ref ik, .ref la, .ref lg, .ref ce, .int vto])), (st, .inl (G 0, 196, .inl fst)), (od, .inl (G 1, 10, .inr (.inl u7))), (th, .inl (G 1, 10, .inr (.inl u8)))] := hD
    refine lv_aload_n hx hb dX11_wakes_25 rfl (lv_at hl 0 rfl) ?_
    refine va_get (D := (dC, dI)) (ci := 11) (v := .ref od) (C := RX11) (T := TX11) (N := 35) hx hb hg inG11 hown hK.1 hP 0 rfl rfl 21 (by decide) (hg _ wt_899) (fun _ h9 => h9) rfl dX11_wakes_26 ?_
    refine lv_iconst (v := 0) hx hb dX11_wakes_29 (by decide) ?_
    refine va_lald hx hb hK.1 hP 2 1 rfl rfl (vp_in_iff.mpr ⟨by decide, by decide⟩) dX11_wakes_30 ?_
    refine lv_cgl (y := u7 0) (by rfl) ?_
    refine lv_aload_n hx hb dX11_wakes_31 rfl (lv_at hl 0 rfl) ?_
    refine va_get (D := (dC, dI)) (ci := 11) (v := .int (nI N)) (C := RX11) (T := TX11) (N := 35) hx hb hg inG11 hown hK.1 hP 0 rfl rfl 1 (by decide) (hg _ wt_879) (fun _ h9 => h9) rfl dX11_wakes_32 ?_
    have hPc := hP.sub (ws' := []) [] rfl
    refine va_calll (va_runS (As := [.int (nI N)]) (rest := [.long (u7 0)]) ⟨hx, hb, hml, hown, hg⟩ (c_X11_power l dC dI G _ N hN) (kwS hg mfX11_power wt_1131 ⟨Nat.le_of_ble_eq_true rfl, Nat.le_of_ble_eq_true rfl⟩) (preSR hK hPc) rfl rfl hl.1 rfl (lv_room (Nat.le_of_ble_eq_true rfl)) dX11_wakes_35 ⟨Nat.le_of_ble_eq_true rfl, Nat.le_of_ble_eq_true rfl⟩) hS (fun q h1 h2 => absurd h2 (Nat.not_le.mpr h1)) (fun q h => hA q (Nat.le_trans hS.1 h)) (fun r9 ur9 t H1 locs ht hvm w10 hB hz1 hk1 hS => ?_)
    have hP := keepR hP hk1
    obtain ⟨w10, w10x⟩ := w10
    subst w10
    refine lv_iload_n hx hb dX11_wakes_38 rfl (lv_at hl 1 rfl) ?_
    have hPc := hP.sub (ws' := []) [] rfl
    refine va_calll (va_runS (As := [.long (u7 0), .long (powF N), .int what]) (rest := []) ⟨hx, hb, hml, hown, hg⟩ (c_X11_lowest l dC dI G _ what (u7 0) (powF N) (powF_ne (by have t_b4 := b4; have t_n0 : (nI N).toInt = (N : Int) := tn965_ (); have t_n1 : (nI B).toInt = (B : Int) := tn966_ (); have t_n2 : (nI T).toInt = (T : Int) := tn967_ (); have t_n3 : (nI S).toInt = (S : Int) := tn968_ (); have t_n4 : (nI M).toInt = (M : Int) := tn969_ (); omega))) (kwS hg mfX11_lowest wt_1134 ⟨Nat.le_of_ble_eq_true rfl, Nat.le_of_ble_eq_true rfl⟩) (preSR hK hPc) rfl rfl hl.1 rfl (lv_room (Nat.le_of_ble_eq_true rfl)) dX11_wakes_39 ⟨Nat.le_of_ble_eq_true rfl, Nat.le_of_ble_eq_true rfl⟩) hS (fun q h1 h2 => absurd h2 (Nat.not_le.mpr h1)) (fun q h => hA q (Nat.le_trans hS.1 h)) (fun r11 ur11 t H1 locs ht hvm w12 hB hz1 hk1 hS => ?_)
    have hP := keepR hP hk1
    obtain ⟨w12, w12x⟩ := w12
    have hpost : True := by
      trivial
    have hP9 := hP.sub (ws' := [(h0, .inr (11, [.ref st, .int (nI N), .int (nI B), .ref rp, .int vrs, .int vrb, .int vhs, .int vca, .int vxs, .int vxb, .ref tp, .int (nI T), .int vfa, .int vbr, .int vba, .int vsp, .int vhe, .int vtk, .int vva, .ref cu, .ref lt, .ref od, .ref th, .ref be, .ref ln, .int (nI S), .ref ma, .int (nI M), .ref ah, .ref bh, .ref ik, .ref la, .ref lg, .ref ce, .int vto])), (st, .inl (G 0, 196, .inl fst)), (od, .inl (G 1, 10, .inr (.inl u7))), (th, .inl (G 1, 10, .inr (.inl u8)))]) [0, 1, 2, 3] rfl
    have hD9 := hD.sub (ws' := [(h0, .inr (11, [.ref st, .int (nI N), .int (nI B), .ref rp, .int vrs, .int vrb, .int vhs, .int vca, .int vxs, .int vxb, .ref tp, .int (nI T), .int vfa, .int vbr, .int vba, .int vsp, .int vhe, .int vtk, .int vva, .ref cu, .ref lt, .ref od, .ref th, .ref be, .ref ln, .int (nI S), .ref ma, .int (nI M), .ref ah, .ref bh, .ref ik, .ref la, .ref lg, .ref ce, .int vto])), (st, .inl (G 0, 196, .inl fst)), (od, .inl (G 1, 10, .inr (.inl u7))), (th, .inl (G 1, 10, .inr (.inl u8)))]) [0, 1, 2, 3] (by decide) rfl
    refine W.widen (k := 0) (n := 0) (Nat.le_of_ble_eq_true rfl) (Nat.le_of_ble_eq_true rfl) ?_
    exact W.lret (v := r11) hx hb hr (fun t ht hW => ⟨⟨r11, (u7, u8), rfl, ⟨hpost, trivial⟩, ⟨by rw [ht]; exact hP9, hD9⟩⟩, hS.F ht⟩) hS.2.2 dX11_wakes_42
  · skip
    have b13 := if10_n c3
    refine lv_ldc2 (v := (-1)) hx hb hown (hg _ wt_1118) dX11_wakes_10 ?_
    have hpost : True := by
      trivial
    have hP9 := hP.sub (ws' := [(h0, .inr (11, [.ref st, .int (nI N), .int (nI B), .ref rp, .int vrs, .int vrb, .int vhs, .int vca, .int vxs, .int vxb, .ref tp, .int (nI T), .int vfa, .int vbr, .int vba, .int vsp, .int vhe, .int vtk, .int vva, .ref cu, .ref lt, .ref od, .ref th, .ref be, .ref ln, .int (nI S), .ref ma, .int (nI M), .ref ah, .ref bh, .ref ik, .ref la, .ref lg, .ref ce, .int vto])), (st, .inl (G 0, 196, .inl fst)), (od, .inl (G 1, 10, .inr (.inl fod))), (th, .inl (G 1, 10, .inr (.inl fth)))]) [0, 1, 2, 3] rfl
    have hD9 := hD.sub (ws' := [(h0, .inr (11, [.ref st, .int (nI N), .int (nI B), .ref rp, .int vrs, .int vrb, .int vhs, .int vca, .int vxs, .int vxb, .ref tp, .int (nI T), .int vfa, .int vbr, .int vba, .int vsp, .int vhe, .int vtk, .int vva, .ref cu, .ref lt, .ref od, .ref th, .ref be, .ref ln, .int (nI S), .ref ma, .int (nI M), .ref ah, .ref bh, .ref ik, .ref la, .ref lg, .ref ce, .int vto])), (st, .inl (G 0, 196, .inl fst)), (od, .inl (G 1, 10, .inr (.inl fod))), (th, .inl (G 1, 10, .inr (.inl fth)))]) [0, 1, 2, 3] (by decide) rfl
    refine W.widen (k := 0) (n := 0) (Nat.le_of_ble_eq_true rfl) (Nat.le_of_ble_eq_true rfl) ?_
    exact W.lret (v := (-1)) hx hb hr (fun t ht hW => ⟨⟨(-1), (fod, fth), rfl, ⟨hpost, trivial⟩, ⟨by rw [ht]; exact hP9, hD9⟩⟩, hS.F ht⟩) hS.2.2 dX11_wakes_13

set_option maxHeartbeats 1000000 in
set_option maxRecDepth 100000 in
theorem c_X11_depth (l : Launch) (dC : Nat → ClassId) (dI : Nat → Nat → Nat) (G : Nat → ClassId) (sz : Nat) (h0 st N B rp tp T cu lt od th be ln S ma M ah bh ik la lg ce : Nat) (i d what vrs vrb vhs vca vxs vxb vfa vbr vba vsp vhe vtk vva vto : Int32) (fst : Nat → Int32) (fod : Nat → Int64) (fth : Nat → Int64) (hN : N ≤ 10) (hB : B ≤ 6) (hT : T ≤ 320) (hS0 : S ≤ 8) (hM : M ≤ 6) (hst : OKS fst) : Met l yX11_depth (Cond.code yX11_depth cX11_depth 4 (some .long) :: GT) ({ frames := 4, cells := 0, slots := 0, locals := 99 } : Room) (PcW [.ref h0, .int i, .int d, .int what] dC dI G [(h0, .inr (11, [.ref st, .int (nI N), .int (nI B), .ref rp, .int vrs, .int vrb, .int vhs, .int vca, .int vxs, .int vxb, .ref tp, .int (nI T), .int vfa, .int vbr, .int vba, .int vsp, .int vhe, .int vtk, .int vva, .ref cu, .ref lt, .ref od, .ref th, .ref be, .ref ln, .int (nI S), .ref ma, .int (nI M), .ref ah, .ref bh, .ref ik, .ref la, .ref lg, .ref ce, .int vto])), (st, .inl (G 0, 196, .inl fst)), (od, .inl (G 1, 10, .inr (.inl fod))), (th, .inl (G 1, 10, .inr (.inl fth)))] sz) (va_Ql (fun (r : Int64) (u : (Nat → Int64) × (Nat → Int64)) => match u with | (ood, oth) => (True) ∧ True) (fun (u : (Nat → Int64) × (Nat → Int64)) (t : State) => match u with | (ood, oth) => va_P (dC, dI) vwCl [(h0, .inr (11, [.ref st, .int (nI N), .int (nI B), .ref rp, .int vrs, .int vrb, .int vhs, .int vca, .int vxs, .int vxb, .ref tp, .int (nI T), .int vfa, .int vbr, .int vba, .int vsp, .int vhe, .int vtk, .int vva, .ref cu, .ref lt, .ref od, .ref th, .ref be, .ref ln, .int (nI S), .ref ma, .int (nI M), .ref ah, .ref bh, .ref ik, .ref la, .ref lg, .ref ce, .int vto])), (st, .inl (G 0, 196, .inl fst)), (od, .inl (G 1, 10, .inr (.inl ood))), (th, .inl (G 1, 10, .inr (.inl oth)))] t.heap ∧ va_D (va_A [(h0, .inr (11, [.ref st, .int (nI N), .int (nI B), .ref rp, .int vrs, .int vrb, .int vhs, .int vca, .int vxs, .int vxb, .ref tp, .int (nI T), .int vfa, .int vbr, .int vba, .int vsp, .int vhe, .int vtk, .int vva, .ref cu, .ref lt, .ref od, .ref th, .ref be, .ref ln, .int (nI S), .ref ma, .int (nI M), .ref ah, .ref bh, .ref ik, .ref la, .ref lg, .ref ce, .int vto])), (st, .inl (G 0, 196, .inl fst)), (od, .inl (G 1, 10, .inr (.inl fod))), (th, .inl (G 1, 10, .inr (.inl fth)))] sz) [(h0, .inr (11, [.ref st, .int (nI N), .int (nI B), .ref rp, .int vrs, .int vrb, .int vhs, .int vca, .int vxs, .int vxb, .ref tp, .int (nI T), .int vfa, .int vbr, .int vba, .int vsp, .int vhe, .int vtk, .int vva, .ref cu, .ref lt, .ref od, .ref th, .ref be, .ref ln, .int (nI S), .ref ma, .int (nI M), .ref ah, .ref bh, .ref ik, .ref la, .ref lg, .ref ce, .int vto])), (st, .inl (G 0, 196, .inl fst)), (od, .inl (G 1, 10, .inr (.inl ood))), (th, .inl (G 1, 10, .inr (.inl oth)))]) (va_A [(h0, .inr (11, [.ref st, .int (nI N), .int (nI B), .ref rp, .int vrs, .int vrb, .int vhs, .int vca, .int vxs, .int vxb, .ref tp, .int (nI T), .int vfa, .int vbr, .int vba, .int vsp, .int vhe, .int vtk, .int vva, .ref cu, .ref lt, .ref od, .ref th, .ref be, .ref ln, .int (nI S), .ref ma, .int (nI M), .ref ah, .ref bh, .ref ik, .ref la, .ref lg, .ref ce, .int vto])), (st, .inl (G 0, 196, .inl fst)), (od, .inl (G 1, 10, .inr (.inl fod))), (th, .inl (G 1, 10, .inr (.inl fth)))] sz)) 0 0 (va_A [(h0, .inr (11, [.ref st, .int (nI N), .int (nI B), .ref rp, .int vrs, .int vrb, .int vhs, .int vca, .int vxs, .int vxb, .ref tp, .int (nI T), .int vfa, .int vbr, .int vba, .int vsp, .int vhe, .int vtk, .int vva, .ref cu, .ref lt, .ref od, .ref th, .ref be, .ref ln, .int (nI S), .ref ma, .int (nI M), .ref ah, .ref bh, .ref ik, .ref la, .ref lg, .ref ce, .int vto])), (st, .inl (G 0, 196, .inl fst)), (od, .inl (G 1, 10, .inr (.inl fod))), (th, .inl (G 1, 10, .inr (.inl fth)))] sz) := by
  have hB_ := hB
  have hM_ := hM
  have hT_ := hT
  refine Met.ofW (cc := cX11_depth) (maxL := 4) (ret := (some .long)) (by decide) rfl ?_
  intro p e s m args below meth c s₁ Bd hml hv
  obtain ⟨rfl, hsz, hP, hK, hD0⟩ := hv
  have hx := Bd.exec
  have hb := Bd.bytes
  have hr := Bd.returns
  have hg : ∀ w ∈ GT, w.before ([.ref h0, .int i, .int d, .int what] : List Value).toArray s = true := fun w h => atoms_spec (ws := Cond.code yX11_depth cX11_depth 4 (some .long) :: GT) Bd.pre w (List.mem_cons_of_mem _ h)
  have hown : s.vm.findClass RX11 = some m.cls := findClass_of_methodNamed Bd.named
  have hlocks := Bd.notSynchronized
  subst hsz
  have hD := hD0.self (sz := s.heap.size)
  generalize hAe : va_A [(h0, .inr (11, [.ref st, .int (nI N), .int (nI B), .ref rp, .int vrs, .int vrb, .int vhs, .int vca, .int vxs, .int vxb, .ref tp, .int (nI T), .int vfa, .int vbr, .int vba, .int vsp, .int vhe, .int vtk, .int vva, .ref cu, .ref lt, .ref od, .ref th, .ref be, .ref ln, .int (nI S), .ref ma, .int (nI M), .ref ah, .ref bh, .ref ik, .ref la, .ref lg, .ref ce, .int vto])), (st, .inl (G 0, 196, .inl fst)), (od, .inl (G 1, 10, .inr (.inl fod))), (th, .inl (G 1, 10, .inr (.inl fth)))] s.heap.size = A at hD ⊢
  have hA : ∀ q : Nat, s.heap.size ≤ q → A q := fun q h => by rw [← hAe]; exact Or.inr h
  have hS : va_S A s.heap s.heap [] := va_S.rf
  have hl := lv_entry ([.ref h0, .int i, .int d, .int what]) (n := 4) (Nat.le_of_ble_eq_true rfl)
  rw [lg_entry_eq]
  generalize (lg_sl ([.ref h0, .int i, .int d, .int what]) ++ List.replicate (4 - (lg_sl ([.ref h0, .int i, .int d, .int what])).length) Slot.unset).toArray = ls at hl ⊢
  have hl : lv_has ls 4 [(0, .ref h0), (1, .int i), (2, .int d), (3, .int what)] := hl
  refine lv_aload_n hx hb dX11_depth_0 rfl (lv_at hl 0 rfl) ?_
  refine lv_iload_n hx hb dX11_depth_1 rfl (lv_at hl 1 rfl) ?_
  have hPc := hP.sub (ws' := [(h0, .inr (11, [.ref st, .int (nI N), .int (nI B), .ref rp, .int vrs, .int vrb, .int vhs, .int vca, .int vxs, .int vxb, .ref tp, .int (nI T), .int vfa, .int vbr, .int vba, .int vsp, .int vhe, .int vtk, .int vva, .ref cu, .ref lt, .ref od, .ref th, .ref be, .ref ln, .int (nI S), .ref ma, .int (nI M), .ref ah, .ref bh, .ref ik, .ref la, .ref lg, .ref ce, .int vto]))]) [0] rfl
  have tn970_ : nIT N := fun _ => nI_toInt (by omega)
  have tn971_ : nIT B := fun _ => nI_toInt (by omega)
  have tn972_ : nIT T := fun _ => nI_toInt (by omega)
  have tn973_ : nIT S := fun _ => nI_toInt (by omega)
  have tn974_ : nIT M := fun _ => nI_toInt (by omega)
  refine va_calli (va_runV (As := [.int i]) (rest := []) ⟨hx, hb, hml, hown, hg⟩ (c_X11_isStretch l dC dI G _ h0 st N B rp tp T cu lt od th be ln S ma M ah bh ik la lg ce i vrs vrb vhs vca vxs vxb vfa vbr vba vsp vhe vtk vva vto hN hB_ hT_ hS0 hM_) (kwV hg mfX11_isStretch wt_1052 ⟨Nat.le_of_ble_eq_true rfl, Nat.le_of_ble_eq_true rfl⟩) (preVR hK hPc (ci := 11) rfl rfl) rfl rfl hl.1 rfl (lv_room (Nat.le_of_ble_eq_true rfl)) dX11_depth_2 ⟨Nat.le_of_ble_eq_true rfl, Nat.le_of_ble_eq_true rfl⟩) hS (fun q h1 h2 => absurd h2 (Nat.not_le.mpr h1)) (fun q h => hA q (Nat.le_trans hS.1 h)) (fun r1 ur1 t H1 locs ht hvm w2 hB hz1 hk1 hS => ?_)
  have hP := keepR hP hk1
  obtain ⟨w2, w2x⟩ := w2
  try simp only [l_ii, show (0 : Int32).toInt = 0 from by decide] at w2
  try rw [show (nI (N)).toInt = ((N : Nat) : Int) from tn970_ ()] at w2
  subst w2
  refine lv_if_eq (tgt := 30) hx hb dX11_depth_5 (by decide) (fun c3 => ?_) (fun c3 => ?_)
  · skip
    have b4 := if10_n c3
    refine lv_ldc2 (v := (-1)) hx hb hown (hg _ wt_1118) dX11_depth_30 ?_
    have hpost : True := by
      trivial
    have hP9 := hP.sub (ws' := [(h0, .inr (11, [.ref st, .int (nI N), .int (nI B), .ref rp, .int vrs, .int vrb, .int vhs, .int vca, .int vxs, .int vxb, .ref tp, .int (nI T), .int vfa, .int vbr, .int vba, .int vsp, .int vhe, .int vtk, .int vva, .ref cu, .ref lt, .ref od, .ref th, .ref be, .ref ln, .int (nI S), .ref ma, .int (nI M), .ref ah, .ref bh, .ref ik, .ref la, .ref lg, .ref ce, .int vto])), (st, .inl (G 0, 196, .inl fst)), (od, .inl (G 1, 10, .inr (.inl fod))), (th, .inl (G 1, 10, .inr (.inl fth)))]) [0, 1, 2, 3] rfl
    have hD9 := hD.sub (ws' := [(h0, .inr (11, [.ref st, .int (nI N), .int (nI B), .ref rp, .int vrs, .int vrb, .int vhs, .int vca, .int vxs, .int vxb, .ref tp, .int (nI T), .int vfa, .int vbr, .int vba, .int vsp, .int vhe, .int vtk, .int vva, .ref cu, .ref lt, .ref od, .ref th, .ref be, .ref ln, .int (nI S), .ref ma, .int (nI M), .ref ah, .ref bh, .ref ik, .ref la, .ref lg, .ref ce, .int vto])), (st, .inl (G 0, 196, .inl fst)), (od, .inl (G 1, 10, .inr (.inl fod))), (th, .inl (G 1, 10, .inr (.inl fth)))]) [0, 1, 2, 3] (by decide) rfl
    refine W.widen (k := 0) (n := 0) (Nat.le_of_ble_eq_true rfl) (Nat.le_of_ble_eq_true rfl) ?_
    exact W.lret (v := (-1)) hx hb hr (fun t ht hW => ⟨⟨(-1), (fod, fth), rfl, ⟨hpost, trivial⟩, ⟨by rw [ht]; exact hP9, hD9⟩⟩, hS.F ht⟩) hS.2.2 dX11_depth_33
  · skip
    have b5 := if10_p c3
    refine lv_iload_n hx hb dX11_depth_8 rfl (lv_at hl 2 rfl) ?_
    refine lv_i2l (v := d.toInt64) hx hb dX11_depth_9 rfl ?_
    refine lv_lconst (v := 0) hx hb dX11_depth_10 (by decide) ?_
    refine lv_ldc2 (v := 9) hx hb hown (hg _ wt_1069) dX11_depth_11 ?_
    have hPc := hP.sub (ws' := []) [] rfl
    refine va_calli (va_runS (As := [.long d.toInt64, .long 0, .long 9]) (rest := []) ⟨hx, hb, hml, hown, hg⟩ (c_X11_in l dC dI G _ d.toInt64 0 9) (kwS hg mfX11_in wt_992 ⟨Nat.le_of_ble_eq_true rfl, Nat.le_of_ble_eq_true rfl⟩) (preSR hK hPc) rfl rfl hl.1 rfl (lv_room (Nat.le_of_ble_eq_true rfl)) dX11_depth_14 ⟨Nat.le_of_ble_eq_true rfl, Nat.le_of_ble_eq_true rfl⟩) hS (fun q h1 h2 => absurd h2 (Nat.not_le.mpr h1)) (fun q h => hA q (Nat.le_trans hS.1 h)) (fun r6 ur6 t H1 locs ht hvm w7 hB hz1 hk1 hS => ?_)
    have hP := keepR hP hk1
    obtain ⟨w7, w7x⟩ := w7
    try simp only [l_ii, show (0 : Int64).toInt = 0 from by decide, show (9 : Int64).toInt = 9 from by decide] at w7
    subst w7
    refine lv_if_eq (tgt := 30) hx hb dX11_depth_17 (by decide) (fun c8 => ?_) (fun c8 => ?_)
    · skip
      have b9 := if10_n c8
      refine lv_ldc2 (v := (-1)) hx hb hown (hg _ wt_1118) dX11_depth_30 ?_
      have hpost : True := by
        trivial
      have hP9 := hP.sub (ws' := [(h0, .inr (11, [.ref st, .int (nI N), .int (nI B), .ref rp, .int vrs, .int vrb, .int vhs, .int vca, .int vxs, .int vxb, .ref tp, .int (nI T), .int vfa, .int vbr, .int vba, .int vsp, .int vhe, .int vtk, .int vva, .ref cu, .ref lt, .ref od, .ref th, .ref be, .ref ln, .int (nI S), .ref ma, .int (nI M), .ref ah, .ref bh, .ref ik, .ref la, .ref lg, .ref ce, .int vto])), (st, .inl (G 0, 196, .inl fst)), (od, .inl (G 1, 10, .inr (.inl fod))), (th, .inl (G 1, 10, .inr (.inl fth)))]) [0, 1, 2, 3] rfl
      have hD9 := hD.sub (ws' := [(h0, .inr (11, [.ref st, .int (nI N), .int (nI B), .ref rp, .int vrs, .int vrb, .int vhs, .int vca, .int vxs, .int vxb, .ref tp, .int (nI T), .int vfa, .int vbr, .int vba, .int vsp, .int vhe, .int vtk, .int vva, .ref cu, .ref lt, .ref od, .ref th, .ref be, .ref ln, .int (nI S), .ref ma, .int (nI M), .ref ah, .ref bh, .ref ik, .ref la, .ref lg, .ref ce, .int vto])), (st, .inl (G 0, 196, .inl fst)), (od, .inl (G 1, 10, .inr (.inl fod))), (th, .inl (G 1, 10, .inr (.inl fth)))]) [0, 1, 2, 3] (by decide) rfl
      refine W.widen (k := 0) (n := 0) (Nat.le_of_ble_eq_true rfl) (Nat.le_of_ble_eq_true rfl) ?_
      exact W.lret (v := (-1)) hx hb hr (fun t ht hW => ⟨⟨(-1), (fod, fth), rfl, ⟨hpost, trivial⟩, ⟨by rw [ht]; exact hP9, hD9⟩⟩, hS.F ht⟩) hS.2.2 dX11_depth_33
    · skip
      have b10 := if10_p c8
      refine lv_iload_n hx hb dX11_depth_20 rfl (lv_at hl 3 rfl) ?_
      refine lv_i2l (v := what.toInt64) hx hb dX11_depth_21 rfl ?_
      refine lv_lconst (v := 0) hx hb dX11_depth_22 (by decide) ?_
      refine lv_lconst (v := 1) hx hb dX11_depth_23 (by decide) ?_
      have hPc := hP.sub (ws' := []) [] rfl
      refine va_calli (va_runS (As := [.long what.toInt64, .long 0, .long 1]) (rest := []) ⟨hx, hb, hml, hown, hg⟩ (c_X11_in l dC dI G _ what.toInt64 0 1) (kwS hg mfX11_in wt_992 ⟨Nat.le_of_ble_eq_true rfl, Nat.le_of_ble_eq_true rfl⟩) (preSR hK hPc) rfl rfl hl.1 rfl (lv_room (Nat.le_of_ble_eq_true rfl)) dX11_depth_24 ⟨Nat.le_of_ble_eq_true rfl, Nat.le_of_ble_eq_true rfl⟩) hS (fun q h1 h2 => absurd h2 (Nat.not_le.mpr h1)) (fun q h => hA q (Nat.le_trans hS.1 h)) (fun r11 ur11 t H1 locs ht hvm w12 hB hz1 hk1 hS => ?_)
      have hP := keepR hP hk1
      obtain ⟨w12, w12x⟩ := w12
      try simp only [l_ii, show (0 : Int64).toInt = 0 from by decide, show (1 : Int64).toInt = 1 from by decide] at w12
      subst w12
      refine lv_if_ne (tgt := 34) hx hb dX11_depth_27 (by decide) (fun c13 => ?_) (fun c13 => ?_)
      · skip
        have b14 := if10_p c13
        obtain ⟨ii, hii, rfl⟩ : ∃ j : Nat, j < 10 ∧ i = nI j := by
          have t_b5 := b5
          have t_b10 := b10
          have t_b14 := b14
          have t_n0 : (nI N).toInt = (N : Int) := tn970_ ()
          have t_n1 : (nI B).toInt = (B : Int) := tn971_ ()
          have t_n2 : (nI T).toInt = (T : Int) := tn972_ ()
          have t_n3 : (nI S).toInt = (S : Int) := tn973_ ()
          have t_n4 : (nI M).toInt = (M : Int) := tn974_ ()
          exact i32_nat (by omega) (by omega)
        obtain ⟨dd, hdd, rfl⟩ : ∃ j : Nat, j < 10 ∧ d = nI j := by
          have t_b5 := b5
          have t_b10 := b10
          have t_b14 := b14
          have t_hii := hii
          have t_n0 : (nI N).toInt = (N : Int) := tn970_ ()
          have t_n1 : (nI B).toInt = (B : Int) := tn971_ ()
          have t_n2 : (nI T).toInt = (T : Int) := tn972_ ()
          have t_n3 : (nI S).toInt = (S : Int) := tn973_ ()
          have t_n4 : (nI M).toInt = (M : Int) := tn974_ ()
          have tn975_ : nIT ii := fun _ => nI_toInt (by omega)
          have t_n5 : (nI ii).toInt = (ii : Int) := tn975_ ()
          exact i32_nat (by omega) (by omega)
        refine lv_aload_n hx hb dX11_depth_34 rfl (lv_at hl 0 rfl) ?_
        refine lv_iload_n hx hb dX11_depth_35 rfl (lv_at hl 1 rfl) ?_
        refine lv_iconst (v := 1) hx hb dX11_depth_36 (by decide) ?_
        refine lv_iadd hx hb dX11_depth_37 ?_
        refine lv_cg (y := nI (ii + 1)) (by rw [show (1 : Int32) = nI 1 from rfl]; exact nI_add _ _) ?_
        refine lv_iconst (v := 0) hx hb dX11_depth_38 (by decide) ?_
        refine lv_bipush (v := (-4)) hx hb dX11_depth_39 (by decide) ?_
        have hPc := hP.sub (ws' := [(h0, .inr (11, [.ref st, .int (nI N), .int (nI B), .ref rp, .int vrs, .int vrb, .int vhs, .int vca, .int vxs, .int vxb, .ref tp, .int (nI T), .int vfa, .int vbr, .int vba, .int vsp, .int vhe, .int vtk, .int vva, .ref cu, .ref lt, .ref od, .ref th, .ref be, .ref ln, .int (nI S), .ref ma, .int (nI M), .ref ah, .ref bh, .ref ik, .ref la, .ref lg, .ref ce, .int vto])), (st, .inl (G 0, 196, .inl fst)), (od, .inl (G 1, 10, .inr (.inl fod))), (th, .inl (G 1, 10, .inr (.inl fth)))]) [0, 1, 2, 3] rfl
        have hDc := hD.sub (ws' := [(h0, .inr (11, [.ref st, .int (nI N), .int (nI B), .ref rp, .int vrs, .int vrb, .int vhs, .int vca, .int vxs, .int vxb, .ref tp, .int (nI T), .int vfa, .int vbr, .int vba, .int vsp, .int vhe, .int vtk, .int vva, .ref cu, .ref lt, .ref od, .ref th, .ref be, .ref ln, .int (nI S), .ref ma, .int (nI M), .ref ah, .ref bh, .ref ik, .ref la, .ref lg, .ref ce, .int vto])), (st, .inl (G 0, 196, .inl fst)), (od, .inl (G 1, 10, .inr (.inl fod))), (th, .inl (G 1, 10, .inr (.inl fth)))]) [0, 1, 2, 3] (by decide) rfl
        have hFc := va_free (wc := [(h0, .inr (11, [.ref st, .int (nI N), .int (nI B), .ref rp, .int vrs, .int vrb, .int vhs, .int vca, .int vxs, .int vxb, .ref tp, .int (nI T), .int vfa, .int vbr, .int vba, .int vsp, .int vhe, .int vtk, .int vva, .ref cu, .ref lt, .ref od, .ref th, .ref be, .ref ln, .int (nI S), .ref ma, .int (nI M), .ref ah, .ref bh, .ref ik, .ref la, .ref lg, .ref ce, .int vto])), (st, .inl (G 0, 196, .inl fst)), (od, .inl (G 1, 10, .inr (.inl fod))), (th, .inl (G 1, 10, .inr (.inl fth)))]) hD hS hA [0, 1, 2, 3] rfl
        have tn976_ : nIT ii := fun _ => nI_toInt (by first | omega | (have t_b5 := b5; have t_b10 := b10; have t_b14 := b14; have t_hii := hii; have t_hdd := hdd; omega))
        have tn977_ : nIT dd := fun _ => nI_toInt (by first | omega | (have t_b5 := b5; have t_b10 := b10; have t_b14 := b14; have t_hii := hii; have t_hdd := hdd; omega))
        refine va_callv (va_runV (As := [.int (nI (ii + 1)), .int 0, .int (-4)]) (rest := []) ⟨hx, hb, hml, hown, hg⟩ (c_X11_layOdds l dC dI G _ h0 (ii + 1) st N B rp tp T cu lt od th be ln S ma M ah bh ik la lg ce 0 (-4) vrs vrb vhs vca vxs vxb vfa vbr vba vsp vhe vtk vva vto fst fod fth hN hB_ hT_ hS0 hM_ hst (by first | omega | (have t_b5 := b5; have t_b10 := b10; have t_b14 := b14; have t_hii := hii; have t_hdd := hdd; have t_n0 : (nI N).toInt = (N : Int) := tn970_ (); have t_n1 : (nI B).toInt = (B : Int) := tn971_ (); have t_n2 : (nI T).toInt = (T : Int) := tn972_ (); have t_n3 : (nI S).toInt = (S : Int) := tn973_ (); have t_n4 : (nI M).toInt = (M : Int) := tn974_ (); have t_n5 : (nI ii).toInt = (ii : Int) := tn976_ (); have t_n6 : (nI dd).toInt = (dd : Int) := tn977_ (); omega))) (kwV hg mfX11_layOdds wt_1119 ⟨Nat.le_of_ble_eq_true rfl, Nat.le_of_ble_eq_true rfl⟩) (preVW hK hPc hDc (ci := 11) rfl rfl) rfl rfl hl.1 rfl (lv_room (Nat.le_of_ble_eq_true rfl)) dX11_depth_41 ⟨Nat.le_of_ble_eq_true rfl, Nat.le_of_ble_eq_true rfl⟩) hS (fun q _ h => hFc q h) hFc (fun ur15 t H1 locs ht hvm w16 hB hz1 hk1 hS => ?_)
        obtain ⟨u17, u18⟩ := ur15
        obtain ⟨hP1, hD1⟩ := hB
        rw [ht] at hP1
        obtain ⟨hP, hD⟩ := va_join (wr := []) (w1 := [(h0, .inr (11, [.ref st, .int (nI N), .int (nI B), .ref rp, .int vrs, .int vrb, .int vhs, .int vca, .int vxs, .int vxb, .ref tp, .int (nI T), .int vfa, .int vbr, .int vba, .int vsp, .int vhe, .int vtk, .int vva, .ref cu, .ref lt, .ref od, .ref th, .ref be, .ref ln, .int (nI S), .ref ma, .int (nI M), .ref ah, .ref bh, .ref ik, .ref la, .ref lg, .ref ce, .int vto])), (st, .inl (G 0, 196, .inl fst)), (od, .inl (G 1, 10, .inr (.inl u17))), (th, .inl (G 1, 10, .inr (.inl u18)))]) hP hD [0, 1, 2, 3] [] rfl rfl (by decide) (by decide) hk1 hFc hP1 hD1
        generalize H1 = H at hP hS ⊢
        have hP : va_P (dC, dI) vwCl [(h0, .inr (11, [.ref st, .int (nI N), .int (nI B), .ref rp, .int vrs, .int vrb, .int vhs, .int vca, .int vxs, .int vxb, .ref tp, .int (nI T), .int vfa, .int vbr, .int vba, .int vsp, .int vhe, .int vtk, .int vva, .ref cu, .ref lt, .ref od, .ref th, .ref be, .ref ln, .int (nI S), .ref ma, .int (nI M), .ref ah, .ref bh, .ref ik, .ref la, .ref lg, .ref ce, .int vto])), (st, .inl (G 0, 196, .inl fst)), (od, .inl (G 1, 10, .inr (.inl u17))), (th, .inl (G 1, 10, .inr (.inl u18)))] H := hP
        have hD : va_D A [(h0, .inr (11, [.ref st, .int (nI N), .int (nI B), .ref rp, .int vrs, .int vrb, .int vhs, .int vca, .int vxs, .int vxb, .ref tp, .int (nI T), .int vfa, .int vbr, .int vba, .int vsp, .int vhe, .int vtk, .int vva, .ref cu, .ref lt, .ref od, .ref th, .ref be, .ref ln, .int (nI S), .ref ma, .int (nI M), .ref ah, .ref bh, .ref ik, .ref la, .ref lg, .ref ce, .int vto])), (st, .inl (G 0, 196, .inl fst)), (od, .inl (G 1, 10, .inr (.inl u17))), (th, .inl (G 1, 10, .inr (.inl u18)))] := hD
        refine lv_aload_n hx hb dX11_depth_44 rfl (lv_at hl 0 rfl) ?_
        refine va_get (D := (dC, dI)) (ci := 11) (v := .ref od) (C := RX11) (T := TX11) (N := 35) hx hb hg inG11 hown hK.1 hP 0 rfl rfl 21 (by decide) (hg _ wt_899) (fun _ h9 => h9) rfl dX11_depth_45 ?_
        refine lv_iload_n hx hb dX11_depth_48 rfl (lv_at hl 2 rfl) ?_
        refine va_lald hx hb hK.1 hP 2 1 rfl rfl (vp_in_nI (by first | omega | (have t_b5 := b5; have t_b10 := b10; have t_b14 := b14; have t_hii := hii; have t_hdd := hdd; have t_n0 : (nI N).toInt = (N : Int) := tn970_ (); have t_n1 : (nI B).toInt = (B : Int) := tn971_ (); have t_n2 : (nI T).toInt = (T : Int) := tn972_ (); have t_n3 : (nI S).toInt = (S : Int) := tn973_ (); have t_n4 : (nI M).toInt = (M : Int) := tn974_ (); have t_n5 : (nI ii).toInt = (ii : Int) := tn976_ (); have t_n6 : (nI dd).toInt = (dd : Int) := tn977_ (); omega)) (by decide)) dX11_depth_49 ?_
        refine lv_cgl (y := u17 dd) (by rw [nI_clamp (by omega)]) ?_
        refine lv_iload_n hx hb dX11_depth_50 rfl (lv_at hl 1 rfl) ?_
        refine lv_iconst (v := 1) hx hb dX11_depth_51 (by decide) ?_
        refine lv_iadd hx hb dX11_depth_52 ?_
        refine lv_cg (y := nI (ii + 1)) (by rw [show (1 : Int32) = nI 1 from rfl]; exact nI_add _ _) ?_
        have hPc := hP.sub (ws' := []) [] rfl
        refine va_calll (va_runS (As := [.int (nI (ii + 1))]) (rest := [.long (u17 dd)]) ⟨hx, hb, hml, hown, hg⟩ (c_X11_power l dC dI G _ (ii + 1) (by first | omega | (have t_b5 := b5; have t_b10 := b10; have t_b14 := b14; have t_hii := hii; have t_hdd := hdd; have t_n0 : (nI N).toInt = (N : Int) := tn970_ (); have t_n1 : (nI B).toInt = (B : Int) := tn971_ (); have t_n2 : (nI T).toInt = (T : Int) := tn972_ (); have t_n3 : (nI S).toInt = (S : Int) := tn973_ (); have t_n4 : (nI M).toInt = (M : Int) := tn974_ (); have t_n5 : (nI ii).toInt = (ii : Int) := tn976_ (); have t_n6 : (nI dd).toInt = (dd : Int) := tn977_ (); omega))) (kwS hg mfX11_power wt_1131 ⟨Nat.le_of_ble_eq_true rfl, Nat.le_of_ble_eq_true rfl⟩) (preSR hK hPc) rfl rfl hl.1 rfl (lv_room (Nat.le_of_ble_eq_true rfl)) dX11_depth_53 ⟨Nat.le_of_ble_eq_true rfl, Nat.le_of_ble_eq_true rfl⟩) hS (fun q h1 h2 => absurd h2 (Nat.not_le.mpr h1)) (fun q h => hA q (Nat.le_trans hS.1 h)) (fun r19 ur19 t H1 locs ht hvm w20 hB hz1 hk1 hS => ?_)
        have hP := keepR hP hk1
        obtain ⟨w20, w20x⟩ := w20
        subst w20
        refine lv_iload_n hx hb dX11_depth_56 rfl (lv_at hl 3 rfl) ?_
        have hPc := hP.sub (ws' := []) [] rfl
        refine va_calll (va_runS (As := [.long (u17 dd), .long (powF (ii + 1)), .int what]) (rest := []) ⟨hx, hb, hml, hown, hg⟩ (c_X11_lowest l dC dI G _ what (u17 dd) (powF (ii + 1)) (powF_ne (by have t_b5 := b5; have t_b10 := b10; have t_b14 := b14; have t_hii := hii; have t_hdd := hdd; have t_n0 : (nI N).toInt = (N : Int) := tn970_ (); have t_n1 : (nI B).toInt = (B : Int) := tn971_ (); have t_n2 : (nI T).toInt = (T : Int) := tn972_ (); have t_n3 : (nI S).toInt = (S : Int) := tn973_ (); have t_n4 : (nI M).toInt = (M : Int) := tn974_ (); have t_n5 : (nI ii).toInt = (ii : Int) := tn976_ (); have t_n6 : (nI dd).toInt = (dd : Int) := tn977_ (); omega))) (kwS hg mfX11_lowest wt_1134 ⟨Nat.le_of_ble_eq_true rfl, Nat.le_of_ble_eq_true rfl⟩) (preSR hK hPc) rfl rfl hl.1 rfl (lv_room (Nat.le_of_ble_eq_true rfl)) dX11_depth_57 ⟨Nat.le_of_ble_eq_true rfl, Nat.le_of_ble_eq_true rfl⟩) hS (fun q h1 h2 => absurd h2 (Nat.not_le.mpr h1)) (fun q h => hA q (Nat.le_trans hS.1 h)) (fun r21 ur21 t H1 locs ht hvm w22 hB hz1 hk1 hS => ?_)
        have hP := keepR hP hk1
        obtain ⟨w22, w22x⟩ := w22
        have hpost : True := by
          trivial
        have hP9 := hP.sub (ws' := [(h0, .inr (11, [.ref st, .int (nI N), .int (nI B), .ref rp, .int vrs, .int vrb, .int vhs, .int vca, .int vxs, .int vxb, .ref tp, .int (nI T), .int vfa, .int vbr, .int vba, .int vsp, .int vhe, .int vtk, .int vva, .ref cu, .ref lt, .ref od, .ref th, .ref be, .ref ln, .int (nI S), .ref ma, .int (nI M), .ref ah, .ref bh, .ref ik, .ref la, .ref lg, .ref ce, .int vto])), (st, .inl (G 0, 196, .inl fst)), (od, .inl (G 1, 10, .inr (.inl u17))), (th, .inl (G 1, 10, .inr (.inl u18)))]) [0, 1, 2, 3] rfl
        have hD9 := hD.sub (ws' := [(h0, .inr (11, [.ref st, .int (nI N), .int (nI B), .ref rp, .int vrs, .int vrb, .int vhs, .int vca, .int vxs, .int vxb, .ref tp, .int (nI T), .int vfa, .int vbr, .int vba, .int vsp, .int vhe, .int vtk, .int vva, .ref cu, .ref lt, .ref od, .ref th, .ref be, .ref ln, .int (nI S), .ref ma, .int (nI M), .ref ah, .ref bh, .ref ik, .ref la, .ref lg, .ref ce, .int vto])), (st, .inl (G 0, 196, .inl fst)), (od, .inl (G 1, 10, .inr (.inl u17))), (th, .inl (G 1, 10, .inr (.inl u18)))]) [0, 1, 2, 3] (by decide) rfl
        refine W.widen (k := 0) (n := 0) (Nat.le_of_ble_eq_true rfl) (Nat.le_of_ble_eq_true rfl) ?_
        exact W.lret (v := r21) hx hb hr (fun t ht hW => ⟨⟨r21, (u17, u18), rfl, ⟨hpost, trivial⟩, ⟨by rw [ht]; exact hP9, hD9⟩⟩, hS.F ht⟩) hS.2.2 dX11_depth_60
      · skip
        have b23 := if10_n c13
        refine lv_ldc2 (v := (-1)) hx hb hown (hg _ wt_1118) dX11_depth_30 ?_
        have hpost : True := by
          trivial
        have hP9 := hP.sub (ws' := [(h0, .inr (11, [.ref st, .int (nI N), .int (nI B), .ref rp, .int vrs, .int vrb, .int vhs, .int vca, .int vxs, .int vxb, .ref tp, .int (nI T), .int vfa, .int vbr, .int vba, .int vsp, .int vhe, .int vtk, .int vva, .ref cu, .ref lt, .ref od, .ref th, .ref be, .ref ln, .int (nI S), .ref ma, .int (nI M), .ref ah, .ref bh, .ref ik, .ref la, .ref lg, .ref ce, .int vto])), (st, .inl (G 0, 196, .inl fst)), (od, .inl (G 1, 10, .inr (.inl fod))), (th, .inl (G 1, 10, .inr (.inl fth)))]) [0, 1, 2, 3] rfl
        have hD9 := hD.sub (ws' := [(h0, .inr (11, [.ref st, .int (nI N), .int (nI B), .ref rp, .int vrs, .int vrb, .int vhs, .int vca, .int vxs, .int vxb, .ref tp, .int (nI T), .int vfa, .int vbr, .int vba, .int vsp, .int vhe, .int vtk, .int vva, .ref cu, .ref lt, .ref od, .ref th, .ref be, .ref ln, .int (nI S), .ref ma, .int (nI M), .ref ah, .ref bh, .ref ik, .ref la, .ref lg, .ref ce, .int vto])), (st, .inl (G 0, 196, .inl fst)), (od, .inl (G 1, 10, .inr (.inl fod))), (th, .inl (G 1, 10, .inr (.inl fth)))]) [0, 1, 2, 3] (by decide) rfl
        refine W.widen (k := 0) (n := 0) (Nat.le_of_ble_eq_true rfl) (Nat.le_of_ble_eq_true rfl) ?_
        exact W.lret (v := (-1)) hx hb hr (fun t ht hW => ⟨⟨(-1), (fod, fth), rfl, ⟨hpost, trivial⟩, ⟨by rw [ht]; exact hP9, hD9⟩⟩, hS.F ht⟩) hS.2.2 dX11_depth_33

set_option maxHeartbeats 1000000 in
set_option maxRecDepth 100000 in
theorem c_X11_awake (l : Launch) (dC : Nat → ClassId) (dI : Nat → Nat → Nat) (G : Nat → ClassId) (sz : Nat) (h0 st N B rp tp T cu lt od th be ln S ma M ah bh ik la lg ce : Nat) (i what vrs vrb vhs vca vxs vxb vfa vbr vba vsp vhe vtk vva vto : Int32) (fst : Nat → Int32) (fod : Nat → Int64) (fth : Nat → Int64) (hN : N ≤ 10) (hB : B ≤ 6) (hT : T ≤ 320) (hS0 : S ≤ 8) (hM : M ≤ 6) (hst : OKS fst) : Met l yX11_awake (Cond.code yX11_awake cX11_awake 3 (some .long) :: GT) ({ frames := 5, cells := 0, slots := 0, locals := 122 } : Room) (PcW [.ref h0, .int i, .int what] dC dI G [(h0, .inr (11, [.ref st, .int (nI N), .int (nI B), .ref rp, .int vrs, .int vrb, .int vhs, .int vca, .int vxs, .int vxb, .ref tp, .int (nI T), .int vfa, .int vbr, .int vba, .int vsp, .int vhe, .int vtk, .int vva, .ref cu, .ref lt, .ref od, .ref th, .ref be, .ref ln, .int (nI S), .ref ma, .int (nI M), .ref ah, .ref bh, .ref ik, .ref la, .ref lg, .ref ce, .int vto])), (st, .inl (G 0, 196, .inl fst)), (od, .inl (G 1, 10, .inr (.inl fod))), (th, .inl (G 1, 10, .inr (.inl fth)))] sz) (va_Ql (fun (r : Int64) (u : (Nat → Int64) × (Nat → Int64)) => match u with | (ood, oth) => (True) ∧ True) (fun (u : (Nat → Int64) × (Nat → Int64)) (t : State) => match u with | (ood, oth) => va_P (dC, dI) vwCl [(h0, .inr (11, [.ref st, .int (nI N), .int (nI B), .ref rp, .int vrs, .int vrb, .int vhs, .int vca, .int vxs, .int vxb, .ref tp, .int (nI T), .int vfa, .int vbr, .int vba, .int vsp, .int vhe, .int vtk, .int vva, .ref cu, .ref lt, .ref od, .ref th, .ref be, .ref ln, .int (nI S), .ref ma, .int (nI M), .ref ah, .ref bh, .ref ik, .ref la, .ref lg, .ref ce, .int vto])), (st, .inl (G 0, 196, .inl fst)), (od, .inl (G 1, 10, .inr (.inl ood))), (th, .inl (G 1, 10, .inr (.inl oth)))] t.heap ∧ va_D (va_A [(h0, .inr (11, [.ref st, .int (nI N), .int (nI B), .ref rp, .int vrs, .int vrb, .int vhs, .int vca, .int vxs, .int vxb, .ref tp, .int (nI T), .int vfa, .int vbr, .int vba, .int vsp, .int vhe, .int vtk, .int vva, .ref cu, .ref lt, .ref od, .ref th, .ref be, .ref ln, .int (nI S), .ref ma, .int (nI M), .ref ah, .ref bh, .ref ik, .ref la, .ref lg, .ref ce, .int vto])), (st, .inl (G 0, 196, .inl fst)), (od, .inl (G 1, 10, .inr (.inl fod))), (th, .inl (G 1, 10, .inr (.inl fth)))] sz) [(h0, .inr (11, [.ref st, .int (nI N), .int (nI B), .ref rp, .int vrs, .int vrb, .int vhs, .int vca, .int vxs, .int vxb, .ref tp, .int (nI T), .int vfa, .int vbr, .int vba, .int vsp, .int vhe, .int vtk, .int vva, .ref cu, .ref lt, .ref od, .ref th, .ref be, .ref ln, .int (nI S), .ref ma, .int (nI M), .ref ah, .ref bh, .ref ik, .ref la, .ref lg, .ref ce, .int vto])), (st, .inl (G 0, 196, .inl fst)), (od, .inl (G 1, 10, .inr (.inl ood))), (th, .inl (G 1, 10, .inr (.inl oth)))]) (va_A [(h0, .inr (11, [.ref st, .int (nI N), .int (nI B), .ref rp, .int vrs, .int vrb, .int vhs, .int vca, .int vxs, .int vxb, .ref tp, .int (nI T), .int vfa, .int vbr, .int vba, .int vsp, .int vhe, .int vtk, .int vva, .ref cu, .ref lt, .ref od, .ref th, .ref be, .ref ln, .int (nI S), .ref ma, .int (nI M), .ref ah, .ref bh, .ref ik, .ref la, .ref lg, .ref ce, .int vto])), (st, .inl (G 0, 196, .inl fst)), (od, .inl (G 1, 10, .inr (.inl fod))), (th, .inl (G 1, 10, .inr (.inl fth)))] sz)) 0 0 (va_A [(h0, .inr (11, [.ref st, .int (nI N), .int (nI B), .ref rp, .int vrs, .int vrb, .int vhs, .int vca, .int vxs, .int vxb, .ref tp, .int (nI T), .int vfa, .int vbr, .int vba, .int vsp, .int vhe, .int vtk, .int vva, .ref cu, .ref lt, .ref od, .ref th, .ref be, .ref ln, .int (nI S), .ref ma, .int (nI M), .ref ah, .ref bh, .ref ik, .ref la, .ref lg, .ref ce, .int vto])), (st, .inl (G 0, 196, .inl fst)), (od, .inl (G 1, 10, .inr (.inl fod))), (th, .inl (G 1, 10, .inr (.inl fth)))] sz) := by
  have hB_ := hB
  have hM_ := hM
  have hT_ := hT
  refine Met.ofW (cc := cX11_awake) (maxL := 3) (ret := (some .long)) (by decide) rfl ?_
  intro p e s m args below meth c s₁ Bd hml hv
  obtain ⟨rfl, hsz, hP, hK, hD0⟩ := hv
  have hx := Bd.exec
  have hb := Bd.bytes
  have hr := Bd.returns
  have hg : ∀ w ∈ GT, w.before ([.ref h0, .int i, .int what] : List Value).toArray s = true := fun w h => atoms_spec (ws := Cond.code yX11_awake cX11_awake 3 (some .long) :: GT) Bd.pre w (List.mem_cons_of_mem _ h)
  have hown : s.vm.findClass RX11 = some m.cls := findClass_of_methodNamed Bd.named
  have hlocks := Bd.notSynchronized
  subst hsz
  have hD := hD0.self (sz := s.heap.size)
  generalize hAe : va_A [(h0, .inr (11, [.ref st, .int (nI N), .int (nI B), .ref rp, .int vrs, .int vrb, .int vhs, .int vca, .int vxs, .int vxb, .ref tp, .int (nI T), .int vfa, .int vbr, .int vba, .int vsp, .int vhe, .int vtk, .int vva, .ref cu, .ref lt, .ref od, .ref th, .ref be, .ref ln, .int (nI S), .ref ma, .int (nI M), .ref ah, .ref bh, .ref ik, .ref la, .ref lg, .ref ce, .int vto])), (st, .inl (G 0, 196, .inl fst)), (od, .inl (G 1, 10, .inr (.inl fod))), (th, .inl (G 1, 10, .inr (.inl fth)))] s.heap.size = A at hD ⊢
  have hA : ∀ q : Nat, s.heap.size ≤ q → A q := fun q h => by rw [← hAe]; exact Or.inr h
  have hS : va_S A s.heap s.heap [] := va_S.rf
  have hl := lv_entry ([.ref h0, .int i, .int what]) (n := 3) (Nat.le_of_ble_eq_true rfl)
  rw [lg_entry_eq]
  generalize (lg_sl ([.ref h0, .int i, .int what]) ++ List.replicate (3 - (lg_sl ([.ref h0, .int i, .int what])).length) Slot.unset).toArray = ls at hl ⊢
  have hl : lv_has ls 3 [(0, .ref h0), (1, .int i), (2, .int what)] := hl
  refine lv_aload_n hx hb dX11_awake_0 rfl (lv_at hl 0 rfl) ?_
  refine lv_iload_n hx hb dX11_awake_1 rfl (lv_at hl 1 rfl) ?_
  refine lv_iconst (v := 0) hx hb dX11_awake_2 (by decide) ?_
  refine lv_iload_n hx hb dX11_awake_3 rfl (lv_at hl 2 rfl) ?_
  have hPc := hP.sub (ws' := [(h0, .inr (11, [.ref st, .int (nI N), .int (nI B), .ref rp, .int vrs, .int vrb, .int vhs, .int vca, .int vxs, .int vxb, .ref tp, .int (nI T), .int vfa, .int vbr, .int vba, .int vsp, .int vhe, .int vtk, .int vva, .ref cu, .ref lt, .ref od, .ref th, .ref be, .ref ln, .int (nI S), .ref ma, .int (nI M), .ref ah, .ref bh, .ref ik, .ref la, .ref lg, .ref ce, .int vto])), (st, .inl (G 0, 196, .inl fst)), (od, .inl (G 1, 10, .inr (.inl fod))), (th, .inl (G 1, 10, .inr (.inl fth)))]) [0, 1, 2, 3] rfl
  have hDc := hD.sub (ws' := [(h0, .inr (11, [.ref st, .int (nI N), .int (nI B), .ref rp, .int vrs, .int vrb, .int vhs, .int vca, .int vxs, .int vxb, .ref tp, .int (nI T), .int vfa, .int vbr, .int vba, .int vsp, .int vhe, .int vtk, .int vva, .ref cu, .ref lt, .ref od, .ref th, .ref be, .ref ln, .int (nI S), .ref ma, .int (nI M), .ref ah, .ref bh, .ref ik, .ref la, .ref lg, .ref ce, .int vto])), (st, .inl (G 0, 196, .inl fst)), (od, .inl (G 1, 10, .inr (.inl fod))), (th, .inl (G 1, 10, .inr (.inl fth)))]) [0, 1, 2, 3] (by decide) rfl
  have hFc := va_free (wc := [(h0, .inr (11, [.ref st, .int (nI N), .int (nI B), .ref rp, .int vrs, .int vrb, .int vhs, .int vca, .int vxs, .int vxb, .ref tp, .int (nI T), .int vfa, .int vbr, .int vba, .int vsp, .int vhe, .int vtk, .int vva, .ref cu, .ref lt, .ref od, .ref th, .ref be, .ref ln, .int (nI S), .ref ma, .int (nI M), .ref ah, .ref bh, .ref ik, .ref la, .ref lg, .ref ce, .int vto])), (st, .inl (G 0, 196, .inl fst)), (od, .inl (G 1, 10, .inr (.inl fod))), (th, .inl (G 1, 10, .inr (.inl fth)))]) hD hS hA [0, 1, 2, 3] rfl
  have tn978_ : nIT N := fun _ => nI_toInt (by omega)
  have tn979_ : nIT B := fun _ => nI_toInt (by omega)
  have tn980_ : nIT T := fun _ => nI_toInt (by omega)
  have tn981_ : nIT S := fun _ => nI_toInt (by omega)
  have tn982_ : nIT M := fun _ => nI_toInt (by omega)
  refine va_calll (va_runV (As := [.int i, .int 0, .int what]) (rest := []) ⟨hx, hb, hml, hown, hg⟩ (c_X11_depth l dC dI G _ h0 st N B rp tp T cu lt od th be ln S ma M ah bh ik la lg ce i 0 what vrs vrb vhs vca vxs vxb vfa vbr vba vsp vhe vtk vva vto fst fod fth hN hB_ hT_ hS0 hM_ hst) (kwV hg mfX11_depth wt_1141 ⟨Nat.le_of_ble_eq_true rfl, Nat.le_of_ble_eq_true rfl⟩) (preVW hK hPc hDc (ci := 11) rfl rfl) rfl rfl hl.1 rfl (lv_room (Nat.le_of_ble_eq_true rfl)) dX11_awake_4 ⟨Nat.le_of_ble_eq_true rfl, Nat.le_of_ble_eq_true rfl⟩) hS (fun q _ h => hFc q h) hFc (fun r1 ur1 t H1 locs ht hvm w2 hB hz1 hk1 hS => ?_)
  obtain ⟨u3, u4⟩ := ur1
  obtain ⟨hP1, hD1⟩ := hB
  rw [ht] at hP1
  obtain ⟨hP, hD⟩ := va_join (wr := []) (w1 := [(h0, .inr (11, [.ref st, .int (nI N), .int (nI B), .ref rp, .int vrs, .int vrb, .int vhs, .int vca, .int vxs, .int vxb, .ref tp, .int (nI T), .int vfa, .int vbr, .int vba, .int vsp, .int vhe, .int vtk, .int vva, .ref cu, .ref lt, .ref od, .ref th, .ref be, .ref ln, .int (nI S), .ref ma, .int (nI M), .ref ah, .ref bh, .ref ik, .ref la, .ref lg, .ref ce, .int vto])), (st, .inl (G 0, 196, .inl fst)), (od, .inl (G 1, 10, .inr (.inl u3))), (th, .inl (G 1, 10, .inr (.inl u4)))]) hP hD [0, 1, 2, 3] [] rfl rfl (by decide) (by decide) hk1 hFc hP1 hD1
  generalize H1 = H at hP hS ⊢
  have hP : va_P (dC, dI) vwCl [(h0, .inr (11, [.ref st, .int (nI N), .int (nI B), .ref rp, .int vrs, .int vrb, .int vhs, .int vca, .int vxs, .int vxb, .ref tp, .int (nI T), .int vfa, .int vbr, .int vba, .int vsp, .int vhe, .int vtk, .int vva, .ref cu, .ref lt, .ref od, .ref th, .ref be, .ref ln, .int (nI S), .ref ma, .int (nI M), .ref ah, .ref bh, .ref ik, .ref la, .ref lg, .ref ce, .int vto])), (st, .inl (G 0, 196, .inl fst)), (od, .inl (G 1, 10, .inr (.inl u3))), (th, .inl (G 1, 10, .inr (.inl u4)))] H := hP
  have hD : va_D A [(h0, .inr (11, [.ref st, .int (nI N), .int (nI B), .ref rp, .int vrs, .int vrb, .int vhs, .int vca, .int vxs, .int vxb, .ref tp, .int (nI T), .int vfa, .int vbr, .int vba, .int vsp, .int vhe, .int vtk, .int vva, .ref cu, .ref lt, .ref od, .ref th, .ref be, .ref ln, .int (nI S), .ref ma, .int (nI M), .ref ah, .ref bh, .ref ik, .ref la, .ref lg, .ref ce, .int vto])), (st, .inl (G 0, 196, .inl fst)), (od, .inl (G 1, 10, .inr (.inl u3))), (th, .inl (G 1, 10, .inr (.inl u4)))] := hD
  obtain ⟨w2, w2x⟩ := w2
  have hpost : True := by
    trivial
  have hP9 := hP.sub (ws' := [(h0, .inr (11, [.ref st, .int (nI N), .int (nI B), .ref rp, .int vrs, .int vrb, .int vhs, .int vca, .int vxs, .int vxb, .ref tp, .int (nI T), .int vfa, .int vbr, .int vba, .int vsp, .int vhe, .int vtk, .int vva, .ref cu, .ref lt, .ref od, .ref th, .ref be, .ref ln, .int (nI S), .ref ma, .int (nI M), .ref ah, .ref bh, .ref ik, .ref la, .ref lg, .ref ce, .int vto])), (st, .inl (G 0, 196, .inl fst)), (od, .inl (G 1, 10, .inr (.inl u3))), (th, .inl (G 1, 10, .inr (.inl u4)))]) [0, 1, 2, 3] rfl
  have hD9 := hD.sub (ws' := [(h0, .inr (11, [.ref st, .int (nI N), .int (nI B), .ref rp, .int vrs, .int vrb, .int vhs, .int vca, .int vxs, .int vxb, .ref tp, .int (nI T), .int vfa, .int vbr, .int vba, .int vsp, .int vhe, .int vtk, .int vva, .ref cu, .ref lt, .ref od, .ref th, .ref be, .ref ln, .int (nI S), .ref ma, .int (nI M), .ref ah, .ref bh, .ref ik, .ref la, .ref lg, .ref ce, .int vto])), (st, .inl (G 0, 196, .inl fst)), (od, .inl (G 1, 10, .inr (.inl u3))), (th, .inl (G 1, 10, .inr (.inl u4)))]) [0, 1, 2, 3] (by decide) rfl
  refine W.widen (k := 0) (n := 0) (Nat.le_of_ble_eq_true rfl) (Nat.le_of_ble_eq_true rfl) ?_
  exact W.lret (v := r1) hx hb hr (fun t ht hW => ⟨⟨r1, (u3, u4), rfl, ⟨hpost, trivial⟩, ⟨by rw [ht]; exact hP9, hD9⟩⟩, hS.F ht⟩) hS.2.2 dX11_awake_7

theorem okS_mv {fs : Nat → Int32} (h : OKS fs) {a b : Nat} (h1 : 38 ≤ a) (h2 : a < 48) (h3 : 38 ≤ b) (h4 : b < 48) : okS a (fs b) := by
  have k := (h b (by omega)).2.1 (by omega) (by omega)
  exact okS_or h1 h2 k.1 k.2
theorem okS_cp {a b j : Nat} {x : Int32} (ha : a % 49 = 0) (hb : b % 49 = 0) (h : okS (a + j) x) : okS (b + j) x := by
  have e : (b + j) % 49 = (a + j) % 49 := by omega
  unfold okS at h ⊢
  rw [e]
  exact h
def OKL (f : Nat → Int32) : Prop := ∀ q : Nat, q < 8 → (0 ≤ (f (4 * q)).toInt ∧ (f (4 * q)).toInt < 10) ∧ (f (4 * q + 1) = -4 ∨ (0 ≤ (f (4 * q + 1)).toInt ∧ (f (4 * q + 1)).toInt < 6)) ∧ (0 ≤ (f (4 * q + 2)).toInt ∧ (f (4 * q + 2)).toInt < 6)
theorem OKL.add {f : Nat → Int32} (h : OKL f) {k : Nat} {i a b x : Int32} (hi : 0 ≤ i.toInt ∧ i.toInt < 10) (ha : a = -4 ∨ (0 ≤ a.toInt ∧ a.toInt < 6)) (hb : 0 ≤ b.toInt ∧ b.toInt < 6) : OKL (upd (upd (upd (upd f (4 * k) i) (4 * k + 1) a) (4 * k + 2) b) (4 * k + 3) x) := by
  intro q hq
  have h0 := h q hq
  by_cases e : q = k
  · subst e
    unfold upd
    refine ⟨?_, ?_, ?_⟩
    · rw [if_neg (by omega), if_neg (by omega), if_neg (by omega), if_pos rfl]; exact hi
    · rw [if_neg (by omega), if_neg (by omega), if_pos rfl]; exact ha
    · rw [if_neg (by omega), if_pos rfl]; exact hb
  · unfold upd
    refine ⟨?_, ?_, ?_⟩
    · rw [if_neg (by omega), if_neg (by omega), if_neg (by omega), if_neg (by omega)]; exact h0.1
    · rw [if_neg (by omega), if_neg (by omega), if_neg (by omega), if_neg (by omega)]; exact h0.2.1
    · rw [if_neg (by omega), if_neg (by omega), if_neg (by omega), if_neg (by omega)]; exact h0.2.2
theorem m4I {x : Int32} (h : x.toInt = -4) : x = -4 := Int32.toInt_inj.mp (by rw [h]; decide)
theorem nI01 {k : Nat} (h : k ≤ 1) : nI k = 0 ∨ nI k = 1 := by
  rcases (show k = 0 ∨ k = 1 by omega) with e | e <;> subst e
  · exact Or.inl rfl
  · exact Or.inr rfl
theorem im1 {x : Int32} (h0 : 0 ≤ x.toInt) (h1 : x.toInt ≤ 40) : (x - 1).toInt = x.toInt - 1 := by
  have e0 : (x - 1).toInt = (x.toInt - (1 : Int32).toInt).bmod (2 ^ 32) := Int32.toInt_sub x 1
  have e1 : (1 : Int32).toInt = 1 := by decide
  rw [e1, Int.bmod_eq_of_le (by omega) (by omega)] at e0
  exact e0
theorem rd_ix {k j : Nat} {x : Int32} (hk : k < 4) (h1 : 1 ≤ j) (hx : 0 ≤ x.toInt) (hs : x.toInt + (j : Int) < 40) : ∃ z : Nat, z < 160 ∧ 1 ≤ z ∧ (nI (40 * k) + x) + nI j = nI z := by
  obtain ⟨x', hx', rfl⟩ := i32_nat (x := x) (n := 40) hx (by omega)
  rw [nI_toInt (by omega)] at hs
  exact ⟨40 * k + x' + j, by omega, by omega, by rw [nI_add, nI_add]⟩
theorem add64 (a b : Int32) : (a.toInt64 + b.toInt64).toInt = a.toInt + b.toInt := by
  have e0 : (a.toInt64 + b.toInt64).toInt = (a.toInt64.toInt + b.toInt64.toInt).bmod (2 ^ 64) := Int64.toInt_add _ _
  have h1 := a.toInt_lt
  have h2 := a.le_toInt
  have h3 := b.toInt_lt
  have h4 := b.le_toInt
  rw [Int32.toInt_toInt64, Int32.toInt_toInt64, Int.bmod_eq_of_le (by omega) (by omega)] at e0
  exact e0
set_option maxHeartbeats 1000000 in
set_option maxRecDepth 100000 in
theorem c_X11_bitsOf (l : Launch) (dC : Nat → ClassId) (dI : Nat → Nat → Nat) (G : Nat → ClassId) (sz : Nat) (x1 : Int32)  : Met l yX11_bitsOf (Cond.code yX11_bitsOf cX11_bitsOf 3 (some .int) :: GT) ({ frames := 0, cells := 0, slots := 0, locals := 0 } : Room) (PcR [.int x1] dC dI G [] sz) (va_Qi (fun (r : Int32) (u : Unit) => match u with | _ => (True) ∧ True) (fun _ _ => True) (fun q : Nat => sz ≤ q)) 0 0 (fun q : Nat => sz ≤ q) := by
  refine Met.ofW (cc := cX11_bitsOf) (maxL := 3) (ret := (some .int)) (by decide) rfl ?_
  intro p e s m args below meth c s₁ Bd hml hv
  obtain ⟨rfl, hsz, hP, hK⟩ := hv
  have hx := Bd.exec
  have hb := Bd.bytes
  have hr := Bd.returns
  have hg : ∀ w ∈ GT, w.before ([.int x1] : List Value).toArray s = true := fun w h => atoms_spec (ws := Cond.code yX11_bitsOf cX11_bitsOf 3 (some .int) :: GT) Bd.pre w (List.mem_cons_of_mem _ h)
  have hown : s.vm.findClass RX11 = some m.cls := findClass_of_methodNamed Bd.named
  have hlocks := Bd.notSynchronized
  subst hsz
  have hA : ∀ q : Nat, s.heap.size ≤ q → (fun q : Nat => s.heap.size ≤ q) q := fun _ h => h
  have hS : va_S (fun q : Nat => s.heap.size ≤ q) s.heap s.heap [] := va_S.rf
  have hl := lv_entry ([.int x1]) (n := 3) (Nat.le_of_ble_eq_true rfl)
  rw [lg_entry_eq]
  generalize (lg_sl ([.int x1]) ++ List.replicate (3 - (lg_sl ([.int x1])).length) Slot.unset).toArray = ls at hl ⊢
  have hl : lv_has ls 3 [(0, .int x1)] := hl
  refine lv_iconst (v := 0) hx hb dX11_bitsOf_0 (by decide) ?_
  refine lv_istore_n (lv' := [(1, .int 0), (0, .int x1)]) hx hb dX11_bitsOf_1 rfl hl (by decide) rfl (fun ls hl => ?_)
  refine lv_iconst (v := 0) hx hb dX11_bitsOf_2 (by decide) ?_
  refine lv_istore_n (lv' := [(2, .int 0), (1, .int 0), (0, .int x1)]) hx hb dX11_bitsOf_3 rfl hl (by decide) rfl (fun ls hl => ?_)
  have loop4_3 : ∀ (nf j1 : Nat), 10 + 1 ≤ j1 + nf → j1 ≤ 10 → ∀ (y2 : Int32) (H : Heap) (locs : List Loc), va_P (dC, dI) vwCl [] H → va_S (fun q : Nat => s.heap.size ≤ q) s.heap H locs → ∀ (ls : Array Slot), lv_has ls 3 [(2, .int (nI j1)), (1, .int y2), (0, .int x1)] → W p l e (headSpec (Cond.code yX11_bitsOf cX11_bitsOf 3 (some .int) :: GT) ({ frames := 0, cells := 0, slots := 0, locals := 0 } : Room)).room s m ([.int x1] : List Value).toArray below meth c H locs 0 0 (MQ below (va_Qi (fun (r : Int32) (u : Unit) => match u with | _ => (True) ∧ True) (fun _ _ => True) (fun q : Nat => s.heap.size ≤ q)) ([.int x1] : List Value).toArray s 0 0 (fun q : Nat => s.heap.size ≤ q)) (F0 m 4 ls []) := by
    intro nf
    induction nf with
    | zero => intro j1 h1 h2; exact absurd h1 (by omega)
    | succ nf ih4_3 =>
      intro j1 hn4 hj5 y2 H locs hP hS ls hl
      refine lv_iload_n hx hb dX11_bitsOf_4 rfl (lv_at hl 0 rfl) ?_
      refine lv_bipush (v := 10) hx hb dX11_bitsOf_5 (by decide) ?_
      refine lv_icmp_ge (tgt := 24) hx hb dX11_bitsOf_7 (by decide) (fun c6 => ?_) (fun c6 => ?_)
      · skip
        have tn983_ : nIT j1 := fun _ => nI_toInt (by first | omega | (have t := leI c6; omega))
        have n7 : 10 ≤ j1 := by have t := leI c6; rw [show (nI (j1)).toInt = ((j1 : Nat) : Int) from tn983_ ()] at t; have : (10 : Int32).toInt = 10 := qI_10; omega
        refine lv_iload_n hx hb dX11_bitsOf_24 rfl (lv_at hl 1 rfl) ?_
        have hpost : True := by
          trivial
        refine W.widen (k := 0) (n := 0) (Nat.le_of_ble_eq_true rfl) (Nat.le_of_ble_eq_true rfl) ?_
        exact W.iret (v := y2) hx hb hr (fun t ht hW => ⟨⟨y2, (), rfl, ⟨hpost, trivial⟩, trivial⟩, hS.F ht⟩) hS.2.2 dX11_bitsOf_25
      · skip
        have tn984_ : nIT j1 := fun _ => nI_toInt (by first | omega | (have t := nleI c6; omega))
        have n8 : j1 < 10 := by have t := nleI c6; rw [show (nI (j1)).toInt = ((j1 : Nat) : Int) from tn984_ ()] at t; have : (10 : Int32).toInt = 10 := qI_10; omega
        refine lv_iload_n hx hb dX11_bitsOf_10 rfl (lv_at hl 1 rfl) ?_
        refine lv_iload_n hx hb dX11_bitsOf_11 rfl (lv_at hl 2 rfl) ?_
        refine lv_iload_n hx hb dX11_bitsOf_12 rfl (lv_at hl 0 rfl) ?_
        refine lv_ishr hx hb dX11_bitsOf_13 ?_
        refine lv_iconst (v := 1) hx hb dX11_bitsOf_14 (by decide) ?_
        refine lv_iand hx hb dX11_bitsOf_15 ?_
        refine lv_topi (fun v9 ev9 => ?_)
        refine lv_iadd hx hb dX11_bitsOf_16 ?_
        refine lv_istore_n (lv' := [(1, .int (y2 + v9)), (2, .int (nI j1)), (0, .int x1)]) hx hb dX11_bitsOf_17 rfl hl (by decide) rfl (fun ls hl => ?_)
        refine lv_iinc (v := nI (j1 + 1)) (lv' := [(2, .int (nI (j1 + 1))), (1, .int (y2 + v9)), (0, .int x1)]) hx hb dX11_bitsOf_18 hl (k := 1) rfl (by rw [show Int32.ofInt 1 = nI 1 from by decide]; exact nI_add _ _) (by decide) rfl (fun ls hl => ?_)
        refine lv_goto (tgt := 4) hx hb dX11_bitsOf_21 (by decide) ?_
        exact ih4_3 (j1 + 1) (by omega) (by omega) (y2 + v9) _ _ hP hS ls (lv_sub hl [0, 1, 2] rfl)
  exact loop4_3 (10 + 1) 0 (by omega) (by omega) 0 _ _ hP hS ls (lv_sub hl [0, 1, 2] rfl)

set_option maxHeartbeats 1000000 in
set_option maxRecDepth 100000 in
theorem c_X11_quiet (l : Launch) (dC : Nat → ClassId) (dI : Nat → Nat → Nat) (G : Nat → ClassId) (sz : Nat) (h0 st N B rp tp T cu lt od th be ln S ma M ah bh ik la lg ce : Nat) (mm what vrs vrb vhs vca vxs vxb vfa vbr vba vsp vhe vtk vva vto : Int32) (fst : Nat → Int32) (fod : Nat → Int64) (fth : Nat → Int64) (hN : N ≤ 10) (hB : B ≤ 6) (hT : T ≤ 320) (hS0 : S ≤ 8) (hM : M ≤ 6) (hst : OKS fst) : Met l yX11_quiet (Cond.code yX11_quiet cX11_quiet 7 (some .long) :: GT) ({ frames := 4, cells := 0, slots := 0, locals := 99 } : Room) (PcW [.ref h0, .int mm, .int what] dC dI G [(h0, .inr (11, [.ref st, .int (nI N), .int (nI B), .ref rp, .int vrs, .int vrb, .int vhs, .int vca, .int vxs, .int vxb, .ref tp, .int (nI T), .int vfa, .int vbr, .int vba, .int vsp, .int vhe, .int vtk, .int vva, .ref cu, .ref lt, .ref od, .ref th, .ref be, .ref ln, .int (nI S), .ref ma, .int (nI M), .ref ah, .ref bh, .ref ik, .ref la, .ref lg, .ref ce, .int vto])), (st, .inl (G 0, 196, .inl fst)), (od, .inl (G 1, 10, .inr (.inl fod))), (th, .inl (G 1, 10, .inr (.inl fth)))] sz) (va_Ql (fun (r : Int64) (u : (Nat → Int64) × (Nat → Int64)) => match u with | (ood, oth) => (True) ∧ True) (fun (u : (Nat → Int64) × (Nat → Int64)) (t : State) => match u with | (ood, oth) => va_P (dC, dI) vwCl [(h0, .inr (11, [.ref st, .int (nI N), .int (nI B), .ref rp, .int vrs, .int vrb, .int vhs, .int vca, .int vxs, .int vxb, .ref tp, .int (nI T), .int vfa, .int vbr, .int vba, .int vsp, .int vhe, .int vtk, .int vva, .ref cu, .ref lt, .ref od, .ref th, .ref be, .ref ln, .int (nI S), .ref ma, .int (nI M), .ref ah, .ref bh, .ref ik, .ref la, .ref lg, .ref ce, .int vto])), (st, .inl (G 0, 196, .inl fst)), (od, .inl (G 1, 10, .inr (.inl ood))), (th, .inl (G 1, 10, .inr (.inl oth)))] t.heap ∧ va_D (va_A [(h0, .inr (11, [.ref st, .int (nI N), .int (nI B), .ref rp, .int vrs, .int vrb, .int vhs, .int vca, .int vxs, .int vxb, .ref tp, .int (nI T), .int vfa, .int vbr, .int vba, .int vsp, .int vhe, .int vtk, .int vva, .ref cu, .ref lt, .ref od, .ref th, .ref be, .ref ln, .int (nI S), .ref ma, .int (nI M), .ref ah, .ref bh, .ref ik, .ref la, .ref lg, .ref ce, .int vto])), (st, .inl (G 0, 196, .inl fst)), (od, .inl (G 1, 10, .inr (.inl fod))), (th, .inl (G 1, 10, .inr (.inl fth)))] sz) [(h0, .inr (11, [.ref st, .int (nI N), .int (nI B), .ref rp, .int vrs, .int vrb, .int vhs, .int vca, .int vxs, .int vxb, .ref tp, .int (nI T), .int vfa, .int vbr, .int vba, .int vsp, .int vhe, .int vtk, .int vva, .ref cu, .ref lt, .ref od, .ref th, .ref be, .ref ln, .int (nI S), .ref ma, .int (nI M), .ref ah, .ref bh, .ref ik, .ref la, .ref lg, .ref ce, .int vto])), (st, .inl (G 0, 196, .inl fst)), (od, .inl (G 1, 10, .inr (.inl ood))), (th, .inl (G 1, 10, .inr (.inl oth)))]) (va_A [(h0, .inr (11, [.ref st, .int (nI N), .int (nI B), .ref rp, .int vrs, .int vrb, .int vhs, .int vca, .int vxs, .int vxb, .ref tp, .int (nI T), .int vfa, .int vbr, .int vba, .int vsp, .int vhe, .int vtk, .int vva, .ref cu, .ref lt, .ref od, .ref th, .ref be, .ref ln, .int (nI S), .ref ma, .int (nI M), .ref ah, .ref bh, .ref ik, .ref la, .ref lg, .ref ce, .int vto])), (st, .inl (G 0, 196, .inl fst)), (od, .inl (G 1, 10, .inr (.inl fod))), (th, .inl (G 1, 10, .inr (.inl fth)))] sz)) 0 0 (va_A [(h0, .inr (11, [.ref st, .int (nI N), .int (nI B), .ref rp, .int vrs, .int vrb, .int vhs, .int vca, .int vxs, .int vxb, .ref tp, .int (nI T), .int vfa, .int vbr, .int vba, .int vsp, .int vhe, .int vtk, .int vva, .ref cu, .ref lt, .ref od, .ref th, .ref be, .ref ln, .int (nI S), .ref ma, .int (nI M), .ref ah, .ref bh, .ref ik, .ref la, .ref lg, .ref ce, .int vto])), (st, .inl (G 0, 196, .inl fst)), (od, .inl (G 1, 10, .inr (.inl fod))), (th, .inl (G 1, 10, .inr (.inl fth)))] sz) := by
  have hB_ := hB
  have hM_ := hM
  have hT_ := hT
  refine Met.ofW (cc := cX11_quiet) (maxL := 7) (ret := (some .long)) (by decide) rfl ?_
  intro p e s m args below meth c s₁ Bd hml hv
  obtain ⟨rfl, hsz, hP, hK, hD0⟩ := hv
  have hx := Bd.exec
  have hb := Bd.bytes
  have hr := Bd.returns
  have hg : ∀ w ∈ GT, w.before ([.ref h0, .int mm, .int what] : List Value).toArray s = true := fun w h => atoms_spec (ws := Cond.code yX11_quiet cX11_quiet 7 (some .long) :: GT) Bd.pre w (List.mem_cons_of_mem _ h)
  have hown : s.vm.findClass RX11 = some m.cls := findClass_of_methodNamed Bd.named
  have hlocks := Bd.notSynchronized
  subst hsz
  have hD := hD0.self (sz := s.heap.size)
  generalize hAe : va_A [(h0, .inr (11, [.ref st, .int (nI N), .int (nI B), .ref rp, .int vrs, .int vrb, .int vhs, .int vca, .int vxs, .int vxb, .ref tp, .int (nI T), .int vfa, .int vbr, .int vba, .int vsp, .int vhe, .int vtk, .int vva, .ref cu, .ref lt, .ref od, .ref th, .ref be, .ref ln, .int (nI S), .ref ma, .int (nI M), .ref ah, .ref bh, .ref ik, .ref la, .ref lg, .ref ce, .int vto])), (st, .inl (G 0, 196, .inl fst)), (od, .inl (G 1, 10, .inr (.inl fod))), (th, .inl (G 1, 10, .inr (.inl fth)))] s.heap.size = A at hD ⊢
  have hA : ∀ q : Nat, s.heap.size ≤ q → A q := fun q h => by rw [← hAe]; exact Or.inr h
  have hS : va_S A s.heap s.heap [] := va_S.rf
  have hl := lv_entry ([.ref h0, .int mm, .int what]) (n := 7) (Nat.le_of_ble_eq_true rfl)
  rw [lg_entry_eq]
  generalize (lg_sl ([.ref h0, .int mm, .int what]) ++ List.replicate (7 - (lg_sl ([.ref h0, .int mm, .int what])).length) Slot.unset).toArray = ls at hl ⊢
  have hl : lv_has ls 7 [(0, .ref h0), (1, .int mm), (2, .int what)] := hl
  refine lv_iload_n hx hb dX11_quiet_0 rfl (lv_at hl 1 rfl) ?_
  refine lv_i2l (v := mm.toInt64) hx hb dX11_quiet_1 rfl ?_
  refine lv_lconst (v := 0) hx hb dX11_quiet_2 (by decide) ?_
  refine lv_ldc2 (v := 4) hx hb hown (hg _ wt_1175) dX11_quiet_3 ?_
  have hPc := hP.sub (ws' := []) [] rfl
  refine va_calli (va_runS (As := [.long mm.toInt64, .long 0, .long 4]) (rest := []) ⟨hx, hb, hml, hown, hg⟩ (c_X11_in l dC dI G _ mm.toInt64 0 4) (kwS hg mfX11_in wt_992 ⟨Nat.le_of_ble_eq_true rfl, Nat.le_of_ble_eq_true rfl⟩) (preSR hK hPc) rfl rfl hl.1 rfl (lv_room (Nat.le_of_ble_eq_true rfl)) dX11_quiet_6 ⟨Nat.le_of_ble_eq_true rfl, Nat.le_of_ble_eq_true rfl⟩) hS (fun q h1 h2 => absurd h2 (Nat.not_le.mpr h1)) (fun q h => hA q (Nat.le_trans hS.1 h)) (fun r1 ur1 t H1 locs ht hvm w2 hB hz1 hk1 hS => ?_)
  have hP := keepR hP hk1
  obtain ⟨w2, w2x⟩ := w2
  try simp only [l_ii, show (0 : Int64).toInt = 0 from by decide, show (4 : Int64).toInt = 4 from by decide] at w2
  subst w2
  have cut24_3 : ∀ (H : Heap) (locs : List Loc), va_P (dC, dI) vwCl [(h0, .inr (11, [.ref st, .int (nI N), .int (nI B), .ref rp, .int vrs, .int vrb, .int vhs, .int vca, .int vxs, .int vxb, .ref tp, .int (nI T), .int vfa, .int vbr, .int vba, .int vsp, .int vhe, .int vtk, .int vva, .ref cu, .ref lt, .ref od, .ref th, .ref be, .ref ln, .int (nI S), .ref ma, .int (nI M), .ref ah, .ref bh, .ref ik, .ref la, .ref lg, .ref ce, .int vto])), (st, .inl (G 0, 196, .inl fst)), (od, .inl (G 1, 10, .inr (.inl fod))), (th, .inl (G 1, 10, .inr (.inl fth)))] H → va_D A [(h0, .inr (11, [.ref st, .int (nI N), .int (nI B), .ref rp, .int vrs, .int vrb, .int vhs, .int vca, .int vxs, .int vxb, .ref tp, .int (nI T), .int vfa, .int vbr, .int vba, .int vsp, .int vhe, .int vtk, .int vva, .ref cu, .ref lt, .ref od, .ref th, .ref be, .ref ln, .int (nI S), .ref ma, .int (nI M), .ref ah, .ref bh, .ref ik, .ref la, .ref lg, .ref ce, .int vto])), (st, .inl (G 0, 196, .inl fst)), (od, .inl (G 1, 10, .inr (.inl fod))), (th, .inl (G 1, 10, .inr (.inl fth)))] → va_S A s.heap H locs → ∀ (ls : Array Slot), lv_has ls 7 [(0, .ref h0), (1, .int mm), (2, .int what)] → W p l e (headSpec (Cond.code yX11_quiet cX11_quiet 7 (some .long) :: GT) ({ frames := 4, cells := 0, slots := 0, locals := 99 } : Room)).room s m ([.ref h0, .int mm, .int what] : List Value).toArray below meth c H locs 0 0 (MQ below (va_Ql (fun (r : Int64) (u : (Nat → Int64) × (Nat → Int64)) => match u with | (ood, oth) => (True) ∧ True) (fun (u : (Nat → Int64) × (Nat → Int64)) (t : State) => match u with | (ood, oth) => va_P (dC, dI) vwCl [(h0, .inr (11, [.ref st, .int (nI N), .int (nI B), .ref rp, .int vrs, .int vrb, .int vhs, .int vca, .int vxs, .int vxb, .ref tp, .int (nI T), .int vfa, .int vbr, .int vba, .int vsp, .int vhe, .int vtk, .int vva, .ref cu, .ref lt, .ref od, .ref th, .ref be, .ref ln, .int (nI S), .ref ma, .int (nI M), .ref ah, .ref bh, .ref ik, .ref la, .ref lg, .ref ce, .int vto])), (st, .inl (G 0, 196, .inl fst)), (od, .inl (G 1, 10, .inr (.inl ood))), (th, .inl (G 1, 10, .inr (.inl oth)))] t.heap ∧ va_D A [(h0, .inr (11, [.ref st, .int (nI N), .int (nI B), .ref rp, .int vrs, .int vrb, .int vhs, .int vca, .int vxs, .int vxb, .ref tp, .int (nI T), .int vfa, .int vbr, .int vba, .int vsp, .int vhe, .int vtk, .int vva, .ref cu, .ref lt, .ref od, .ref th, .ref be, .ref ln, .int (nI S), .ref ma, .int (nI M), .ref ah, .ref bh, .ref ik, .ref la, .ref lg, .ref ce, .int vto])), (st, .inl (G 0, 196, .inl fst)), (od, .inl (G 1, 10, .inr (.inl ood))), (th, .inl (G 1, 10, .inr (.inl oth)))]) A) ([.ref h0, .int mm, .int what] : List Value).toArray s 0 0 A) (F0 m 24 ls []) := by
    intro  H locs hP hD hS ls hl
    refine lv_ldc2 (v := (-1)) hx hb hown (hg _ wt_1118) dX11_quiet_24 ?_
    have hpost : True := by
      trivial
    have hP9 := hP.sub (ws' := [(h0, .inr (11, [.ref st, .int (nI N), .int (nI B), .ref rp, .int vrs, .int vrb, .int vhs, .int vca, .int vxs, .int vxb, .ref tp, .int (nI T), .int vfa, .int vbr, .int vba, .int vsp, .int vhe, .int vtk, .int vva, .ref cu, .ref lt, .ref od, .ref th, .ref be, .ref ln, .int (nI S), .ref ma, .int (nI M), .ref ah, .ref bh, .ref ik, .ref la, .ref lg, .ref ce, .int vto])), (st, .inl (G 0, 196, .inl fst)), (od, .inl (G 1, 10, .inr (.inl fod))), (th, .inl (G 1, 10, .inr (.inl fth)))]) [0, 1, 2, 3] rfl
    have hD9 := hD.sub (ws' := [(h0, .inr (11, [.ref st, .int (nI N), .int (nI B), .ref rp, .int vrs, .int vrb, .int vhs, .int vca, .int vxs, .int vxb, .ref tp, .int (nI T), .int vfa, .int vbr, .int vba, .int vsp, .int vhe, .int vtk, .int vva, .ref cu, .ref lt, .ref od, .ref th, .ref be, .ref ln, .int (nI S), .ref ma, .int (nI M), .ref ah, .ref bh, .ref ik, .ref la, .ref lg, .ref ce, .int vto])), (st, .inl (G 0, 196, .inl fst)), (od, .inl (G 1, 10, .inr (.inl fod))), (th, .inl (G 1, 10, .inr (.inl fth)))]) [0, 1, 2, 3] (by decide) rfl
    refine W.widen (k := 0) (n := 0) (Nat.le_of_ble_eq_true rfl) (Nat.le_of_ble_eq_true rfl) ?_
    exact W.lret (v := (-1)) hx hb hr (fun t ht hW => ⟨⟨(-1), (fod, fth), rfl, ⟨hpost, trivial⟩, ⟨by rw [ht]; exact hP9, hD9⟩⟩, hS.F ht⟩) hS.2.2 dX11_quiet_27
  refine lv_if_eq (tgt := 24) hx hb dX11_quiet_9 (by decide) (fun c4 => ?_) (fun c4 => ?_)
  · skip
    have b5 := if10_n c4
    exact cut24_3  _ _ hP hD hS ls (lv_sub hl [0, 1, 2] rfl)
  · skip
    have b6 := if10_p c4
    refine lv_iload_n hx hb dX11_quiet_12 rfl (lv_at hl 2 rfl) ?_
    refine lv_i2l (v := what.toInt64) hx hb dX11_quiet_13 rfl ?_
    refine lv_lconst (v := 0) hx hb dX11_quiet_14 (by decide) ?_
    refine lv_ldc2 (v := 2) hx hb hown (hg _ wt_1056) dX11_quiet_15 ?_
    have hPc := hP.sub (ws' := []) [] rfl
    refine va_calli (va_runS (As := [.long what.toInt64, .long 0, .long 2]) (rest := []) ⟨hx, hb, hml, hown, hg⟩ (c_X11_in l dC dI G _ what.toInt64 0 2) (kwS hg mfX11_in wt_992 ⟨Nat.le_of_ble_eq_true rfl, Nat.le_of_ble_eq_true rfl⟩) (preSR hK hPc) rfl rfl hl.1 rfl (lv_room (Nat.le_of_ble_eq_true rfl)) dX11_quiet_18 ⟨Nat.le_of_ble_eq_true rfl, Nat.le_of_ble_eq_true rfl⟩) hS (fun q h1 h2 => absurd h2 (Nat.not_le.mpr h1)) (fun q h => hA q (Nat.le_trans hS.1 h)) (fun r7 ur7 t H1 locs ht hvm w8 hB hz1 hk1 hS => ?_)
    have hP := keepR hP hk1
    obtain ⟨w8, w8x⟩ := w8
    try simp only [l_ii, show (0 : Int64).toInt = 0 from by decide, show (2 : Int64).toInt = 2 from by decide] at w8
    subst w8
    refine lv_if_ne (tgt := 28) hx hb dX11_quiet_21 (by decide) (fun c9 => ?_) (fun c9 => ?_)
    · skip
      have b10 := if10_p c9
      refine lv_ldc2 (v := 4000000000000000000) hx hb hown (hg _ wt_1154) dX11_quiet_28 ?_
      refine lv_lstore_n (lv' := [(3, .long 4000000000000000000), (0, .ref h0), (1, .int mm), (2, .int what)]) hx hb dX11_quiet_31 rfl hl (by decide) rfl (fun ls hl => ?_)
      refine lv_iconst (v := 0) hx hb dX11_quiet_32 (by decide) ?_
      refine lv_istore (lv' := [(5, .int 0), (3, .long 4000000000000000000), (0, .ref h0), (1, .int mm), (2, .int what)]) hx hb dX11_quiet_33 hl (by decide) rfl (fun ls hl => ?_)
      refine lv_iconst (v := 0) hx hb dX11_quiet_35 (by decide) ?_
      refine lv_istore (lv' := [(6, .int 0), (5, .int 0), (3, .long 4000000000000000000), (0, .ref h0), (1, .int mm), (2, .int what)]) hx hb dX11_quiet_36 hl (by decide) rfl (fun ls hl => ?_)
      have loop38_16 : ∀ (nf j11 : Nat), 1024 + 1 ≤ j11 + nf → j11 ≤ 1024 → ∀ (y12 : Int32) (y13 : Int64) (g14 : Nat → Int64) (g15 : Nat → Int64) (H : Heap) (locs : List Loc), va_P (dC, dI) vwCl [(h0, .inr (11, [.ref st, .int (nI N), .int (nI B), .ref rp, .int vrs, .int vrb, .int vhs, .int vca, .int vxs, .int vxb, .ref tp, .int (nI T), .int vfa, .int vbr, .int vba, .int vsp, .int vhe, .int vtk, .int vva, .ref cu, .ref lt, .ref od, .ref th, .ref be, .ref ln, .int (nI S), .ref ma, .int (nI M), .ref ah, .ref bh, .ref ik, .ref la, .ref lg, .ref ce, .int vto])), (st, .inl (G 0, 196, .inl fst)), (od, .inl (G 1, 10, .inr (.inl g14))), (th, .inl (G 1, 10, .inr (.inl g15)))] H → va_D A [(h0, .inr (11, [.ref st, .int (nI N), .int (nI B), .ref rp, .int vrs, .int vrb, .int vhs, .int vca, .int vxs, .int vxb, .ref tp, .int (nI T), .int vfa, .int vbr, .int vba, .int vsp, .int vhe, .int vtk, .int vva, .ref cu, .ref lt, .ref od, .ref th, .ref be, .ref ln, .int (nI S), .ref ma, .int (nI M), .ref ah, .ref bh, .ref ik, .ref la, .ref lg, .ref ce, .int vto])), (st, .inl (G 0, 196, .inl fst)), (od, .inl (G 1, 10, .inr (.inl g14))), (th, .inl (G 1, 10, .inr (.inl g15)))] → va_S A s.heap H locs → ∀ (ls : Array Slot), lv_has ls 7 [(6, .int (nI j11)), (5, .int y12), (3, .long y13), (0, .ref h0), (1, .int mm), (2, .int what)] → W p l e (headSpec (Cond.code yX11_quiet cX11_quiet 7 (some .long) :: GT) ({ frames := 4, cells := 0, slots := 0, locals := 99 } : Room)).room s m ([.ref h0, .int mm, .int what] : List Value).toArray below meth c H locs 0 0 (MQ below (va_Ql (fun (r : Int64) (u : (Nat → Int64) × (Nat → Int64)) => match u with | (ood, oth) => (True) ∧ True) (fun (u : (Nat → Int64) × (Nat → Int64)) (t : State) => match u with | (ood, oth) => va_P (dC, dI) vwCl [(h0, .inr (11, [.ref st, .int (nI N), .int (nI B), .ref rp, .int vrs, .int vrb, .int vhs, .int vca, .int vxs, .int vxb, .ref tp, .int (nI T), .int vfa, .int vbr, .int vba, .int vsp, .int vhe, .int vtk, .int vva, .ref cu, .ref lt, .ref od, .ref th, .ref be, .ref ln, .int (nI S), .ref ma, .int (nI M), .ref ah, .ref bh, .ref ik, .ref la, .ref lg, .ref ce, .int vto])), (st, .inl (G 0, 196, .inl fst)), (od, .inl (G 1, 10, .inr (.inl ood))), (th, .inl (G 1, 10, .inr (.inl oth)))] t.heap ∧ va_D A [(h0, .inr (11, [.ref st, .int (nI N), .int (nI B), .ref rp, .int vrs, .int vrb, .int vhs, .int vca, .int vxs, .int vxb, .ref tp, .int (nI T), .int vfa, .int vbr, .int vba, .int vsp, .int vhe, .int vtk, .int vva, .ref cu, .ref lt, .ref od, .ref th, .ref be, .ref ln, .int (nI S), .ref ma, .int (nI M), .ref ah, .ref bh, .ref ik, .ref la, .ref lg, .ref ce, .int vto])), (st, .inl (G 0, 196, .inl fst)), (od, .inl (G 1, 10, .inr (.inl ood))), (th, .inl (G 1, 10, .inr (.inl oth)))]) A) ([.ref h0, .int mm, .int what] : List Value).toArray s 0 0 A) (F0 m 38 ls []) := by
        intro nf
        induction nf with
        | zero => intro j11 h1 h2; exact absurd h1 (by omega)
        | succ nf ih38_16 =>
          intro j11 hn17 hj18 y12 y13 g14 g15 H locs hP hD hS ls hl
          refine lv_iload hx hb dX11_quiet_38 (lv_at hl 0 rfl) ?_
          refine lv_iconst (v := 1) hx hb dX11_quiet_40 (by decide) ?_
          refine lv_aload_n hx hb dX11_quiet_41 rfl (lv_at hl 3 rfl) ?_
          refine va_get (D := (dC, dI)) (ci := 11) (v := .int (nI N)) (C := RX11) (T := TX11) (N := 35) hx hb hg inG11 hown hK.1 hP 0 rfl rfl 1 (by decide) (hg _ wt_879) (fun _ h9 => h9) rfl dX11_quiet_42 ?_
          refine lv_ishl hx hb dX11_quiet_45 ?_
          obtain ⟨k19, hk19, ek19⟩ := shl_le (N := N) (by omega)
          refine lv_cg (y := nI k19) (by exact ek19) ?_
          refine lv_icmp_ge (tgt := 122) hx hb dX11_quiet_46 (by decide) (fun c20 => ?_) (fun c20 => ?_)
          · skip
            have tn985_ : nIT j11 := fun _ => nI_toInt (by first | omega | (have t := leI c20; omega))
            have tn986_ : nIT k19 := fun _ => nI_toInt (by omega)
            have n21 : k19 ≤ j11 := by have t := leI c20; rw [show (nI (j11)).toInt = ((j11 : Nat) : Int) from tn985_ ()] at t; rw [show (nI (k19)).toInt = ((k19 : Nat) : Int) from tn986_ ()] at t; omega
            refine lv_iload_n hx hb dX11_quiet_122 rfl (lv_at hl 5 rfl) ?_
            refine lv_iconst (v := 2) hx hb dX11_quiet_123 (by decide) ?_
            have cut145_23 : ∀ (y22 : Int64) (H : Heap) (locs : List Loc), va_P (dC, dI) vwCl [(h0, .inr (11, [.ref st, .int (nI N), .int (nI B), .ref rp, .int vrs, .int vrb, .int vhs, .int vca, .int vxs, .int vxb, .ref tp, .int (nI T), .int vfa, .int vbr, .int vba, .int vsp, .int vhe, .int vtk, .int vva, .ref cu, .ref lt, .ref od, .ref th, .ref be, .ref ln, .int (nI S), .ref ma, .int (nI M), .ref ah, .ref bh, .ref ik, .ref la, .ref lg, .ref ce, .int vto])), (st, .inl (G 0, 196, .inl fst)), (od, .inl (G 1, 10, .inr (.inl g14))), (th, .inl (G 1, 10, .inr (.inl g15)))] H → va_D A [(h0, .inr (11, [.ref st, .int (nI N), .int (nI B), .ref rp, .int vrs, .int vrb, .int vhs, .int vca, .int vxs, .int vxb, .ref tp, .int (nI T), .int vfa, .int vbr, .int vba, .int vsp, .int vhe, .int vtk, .int vva, .ref cu, .ref lt, .ref od, .ref th, .ref be, .ref ln, .int (nI S), .ref ma, .int (nI M), .ref ah, .ref bh, .ref ik, .ref la, .ref lg, .ref ce, .int vto])), (st, .inl (G 0, 196, .inl fst)), (od, .inl (G 1, 10, .inr (.inl g14))), (th, .inl (G 1, 10, .inr (.inl g15)))] → va_S A s.heap H locs → ∀ (ls : Array Slot), lv_has ls 7 [(6, .int (nI j11)), (5, .int y12), (3, .long y13), (0, .ref h0), (1, .int mm), (2, .int what)] → W p l e (headSpec (Cond.code yX11_quiet cX11_quiet 7 (some .long) :: GT) ({ frames := 4, cells := 0, slots := 0, locals := 99 } : Room)).room s m ([.ref h0, .int mm, .int what] : List Value).toArray below meth c H locs 0 0 (MQ below (va_Ql (fun (r : Int64) (u : (Nat → Int64) × (Nat → Int64)) => match u with | (ood, oth) => (True) ∧ True) (fun (u : (Nat → Int64) × (Nat → Int64)) (t : State) => match u with | (ood, oth) => va_P (dC, dI) vwCl [(h0, .inr (11, [.ref st, .int (nI N), .int (nI B), .ref rp, .int vrs, .int vrb, .int vhs, .int vca, .int vxs, .int vxb, .ref tp, .int (nI T), .int vfa, .int vbr, .int vba, .int vsp, .int vhe, .int vtk, .int vva, .ref cu, .ref lt, .ref od, .ref th, .ref be, .ref ln, .int (nI S), .ref ma, .int (nI M), .ref ah, .ref bh, .ref ik, .ref la, .ref lg, .ref ce, .int vto])), (st, .inl (G 0, 196, .inl fst)), (od, .inl (G 1, 10, .inr (.inl ood))), (th, .inl (G 1, 10, .inr (.inl oth)))] t.heap ∧ va_D A [(h0, .inr (11, [.ref st, .int (nI N), .int (nI B), .ref rp, .int vrs, .int vrb, .int vhs, .int vca, .int vxs, .int vxb, .ref tp, .int (nI T), .int vfa, .int vbr, .int vba, .int vsp, .int vhe, .int vtk, .int vva, .ref cu, .ref lt, .ref od, .ref th, .ref be, .ref ln, .int (nI S), .ref ma, .int (nI M), .ref ah, .ref bh, .ref ik, .ref la, .ref lg, .ref ce, .int vto])), (st, .inl (G 0, 196, .inl fst)), (od, .inl (G 1, 10, .inr (.inl ood))), (th, .inl (G 1, 10, .inr (.inl oth)))]) A) ([.ref h0, .int mm, .int what] : List Value).toArray s 0 0 A) (F0 m 145 ls [.long y22]) := by
              intro y22 H locs hP hD hS ls hl
              have hpost : True := by
                trivial
              have hP9 := hP.sub (ws' := [(h0, .inr (11, [.ref st, .int (nI N), .int (nI B), .ref rp, .int vrs, .int vrb, .int vhs, .int vca, .int vxs, .int vxb, .ref tp, .int (nI T), .int vfa, .int vbr, .int vba, .int vsp, .int vhe, .int vtk, .int vva, .ref cu, .ref lt, .ref od, .ref th, .ref be, .ref ln, .int (nI S), .ref ma, .int (nI M), .ref ah, .ref bh, .ref ik, .ref la, .ref lg, .ref ce, .int vto])), (st, .inl (G 0, 196, .inl fst)), (od, .inl (G 1, 10, .inr (.inl g14))), (th, .inl (G 1, 10, .inr (.inl g15)))]) [0, 1, 2, 3] rfl
              have hD9 := hD.sub (ws' := [(h0, .inr (11, [.ref st, .int (nI N), .int (nI B), .ref rp, .int vrs, .int vrb, .int vhs, .int vca, .int vxs, .int vxb, .ref tp, .int (nI T), .int vfa, .int vbr, .int vba, .int vsp, .int vhe, .int vtk, .int vva, .ref cu, .ref lt, .ref od, .ref th, .ref be, .ref ln, .int (nI S), .ref ma, .int (nI M), .ref ah, .ref bh, .ref ik, .ref la, .ref lg, .ref ce, .int vto])), (st, .inl (G 0, 196, .inl fst)), (od, .inl (G 1, 10, .inr (.inl g14))), (th, .inl (G 1, 10, .inr (.inl g15)))]) [0, 1, 2, 3] (by decide) rfl
              refine W.widen (k := 0) (n := 0) (Nat.le_of_ble_eq_true rfl) (Nat.le_of_ble_eq_true rfl) ?_
              exact W.lret (v := y22) hx hb hr (fun t ht hW => ⟨⟨y22, (g14, g15), rfl, ⟨hpost, trivial⟩, ⟨by rw [ht]; exact hP9, hD9⟩⟩, hS.F ht⟩) hS.2.2 dX11_quiet_145
            refine lv_icmp_ne (tgt := 133) hx hb dX11_quiet_124 (by decide) (fun c24 => ?_) (fun c24 => ?_)
            · skip
              refine lv_lload_n hx hb dX11_quiet_133 rfl (lv_at hl 2 rfl) ?_
              refine lv_aload_n hx hb dX11_quiet_134 rfl (lv_at hl 3 rfl) ?_
              refine va_get (D := (dC, dI)) (ci := 11) (v := .int (nI N)) (C := RX11) (T := TX11) (N := 35) hx hb hg inG11 hown hK.1 hP 0 rfl rfl 1 (by decide) (hg _ wt_879) (fun _ h9 => h9) rfl dX11_quiet_135 ?_
              have hPc := hP.sub (ws' := []) [] rfl
              have tn987_ : nIT N := fun _ => nI_toInt (by first | omega | (have t_b6 := b6; have t_b10 := b10; have t_hj18 := hj18; have t_hk19 := hk19; have t_n21 := n21; have t_c24 := neI c24; have : (2 : Int32).toInt = 2 := qI_2; omega))
              have tn988_ : nIT B := fun _ => nI_toInt (by first | omega | (have t_b6 := b6; have t_b10 := b10; have t_hj18 := hj18; have t_hk19 := hk19; have t_n21 := n21; have t_c24 := neI c24; have : (2 : Int32).toInt = 2 := qI_2; omega))
              have tn989_ : nIT T := fun _ => nI_toInt (by first | omega | (have t_b6 := b6; have t_b10 := b10; have t_hj18 := hj18; have t_hk19 := hk19; have t_n21 := n21; have t_c24 := neI c24; have : (2 : Int32).toInt = 2 := qI_2; omega))
              have tn990_ : nIT S := fun _ => nI_toInt (by first | omega | (have t_b6 := b6; have t_b10 := b10; have t_hj18 := hj18; have t_hk19 := hk19; have t_n21 := n21; have t_c24 := neI c24; have : (2 : Int32).toInt = 2 := qI_2; omega))
              have tn991_ : nIT M := fun _ => nI_toInt (by first | omega | (have t_b6 := b6; have t_b10 := b10; have t_hj18 := hj18; have t_hk19 := hk19; have t_n21 := n21; have t_c24 := neI c24; have : (2 : Int32).toInt = 2 := qI_2; omega))
              refine va_calll (va_runS (As := [.int (nI N)]) (rest := [.long y13]) ⟨hx, hb, hml, hown, hg⟩ (c_X11_power l dC dI G _ N hN) (kwS hg mfX11_power wt_1131 ⟨Nat.le_of_ble_eq_true rfl, Nat.le_of_ble_eq_true rfl⟩) (preSR hK hPc) rfl rfl hl.1 rfl (lv_room (Nat.le_of_ble_eq_true rfl)) dX11_quiet_138 ⟨Nat.le_of_ble_eq_true rfl, Nat.le_of_ble_eq_true rfl⟩) hS (fun q h1 h2 => absurd h2 (Nat.not_le.mpr h1)) (fun q h => hA q (Nat.le_trans hS.1 h)) (fun r25 ur25 t H1 locs ht hvm w26 hB hz1 hk1 hS => ?_)
              have hP := keepR hP hk1
              obtain ⟨w26, w26x⟩ := w26
              subst w26
              refine lv_iload_n hx hb dX11_quiet_141 rfl (lv_at hl 5 rfl) ?_
              have hPc := hP.sub (ws' := []) [] rfl
              refine va_calll (va_runS (As := [.long y13, .long (powF N), .int what]) (rest := []) ⟨hx, hb, hml, hown, hg⟩ (c_X11_lowest l dC dI G _ what y13 (powF N) (powF_ne (by have t_b6 := b6; have t_b10 := b10; have t_hj18 := hj18; have t_hk19 := hk19; have t_n21 := n21; have t_c24 := neI c24; have : (2 : Int32).toInt = 2 := qI_2; have t_n0 : (nI N).toInt = (N : Int) := tn987_ (); have t_n1 : (nI B).toInt = (B : Int) := tn988_ (); have t_n2 : (nI T).toInt = (T : Int) := tn989_ (); have t_n3 : (nI S).toInt = (S : Int) := tn990_ (); have t_n4 : (nI M).toInt = (M : Int) := tn991_ (); have t_n5 : (nI j11).toInt = (j11 : Int) := tn985_ (); have t_n6 : (nI k19).toInt = (k19 : Int) := tn986_ (); omega))) (kwS hg mfX11_lowest wt_1134 ⟨Nat.le_of_ble_eq_true rfl, Nat.le_of_ble_eq_true rfl⟩) (preSR hK hPc) rfl rfl hl.1 rfl (lv_room (Nat.le_of_ble_eq_true rfl)) dX11_quiet_142 ⟨Nat.le_of_ble_eq_true rfl, Nat.le_of_ble_eq_true rfl⟩) hS (fun q h1 h2 => absurd h2 (Nat.not_le.mpr h1)) (fun q h => hA q (Nat.le_trans hS.1 h)) (fun r27 ur27 t H1 locs ht hvm w28 hB hz1 hk1 hS => ?_)
              have hP := keepR hP hk1
              obtain ⟨w28, w28x⟩ := w28
              exact cut145_23 r27 _ _ hP hD hS ls (lv_sub hl [0, 1, 2, 3, 4, 5] rfl)
            · skip
              refine lv_iload hx hb dX11_quiet_127 (lv_at hl 1 rfl) ?_
              refine lv_i2l (v := y12.toInt64) hx hb dX11_quiet_129 rfl ?_
              refine lv_goto (tgt := 145) hx hb dX11_quiet_130 (by decide) ?_
              exact cut145_23 y12.toInt64 _ _ hP hD hS ls (lv_sub hl [0, 1, 2, 3, 4, 5] rfl)
          · skip
            have tn992_ : nIT j11 := fun _ => nI_toInt (by first | omega | (have t := nleI c20; omega))
            have tn993_ : nIT k19 := fun _ => nI_toInt (by omega)
            have n29 : j11 < k19 := by have t := nleI c20; rw [show (nI (j11)).toInt = ((j11 : Nat) : Int) from tn992_ ()] at t; rw [show (nI (k19)).toInt = ((k19 : Nat) : Int) from tn993_ ()] at t; omega
            refine lv_iload hx hb dX11_quiet_49 (lv_at hl 0 rfl) ?_
            have hPc := hP.sub (ws' := []) [] rfl
            refine va_calli (va_runS (As := [.int (nI j11)]) (rest := []) ⟨hx, hb, hml, hown, hg⟩ (c_X11_bitsOf l dC dI G _ (nI j11)) (kwS hg mfX11_bitsOf wt_1176 ⟨Nat.le_of_ble_eq_true rfl, Nat.le_of_ble_eq_true rfl⟩) (preSR hK hPc) rfl rfl hl.1 rfl (lv_room (Nat.le_of_ble_eq_true rfl)) dX11_quiet_51 ⟨Nat.le_of_ble_eq_true rfl, Nat.le_of_ble_eq_true rfl⟩) hS (fun q h1 h2 => absurd h2 (Nat.not_le.mpr h1)) (fun q h => hA q (Nat.le_trans hS.1 h)) (fun r30 ur30 t H1 locs ht hvm w31 hB hz1 hk1 hS => ?_)
            have hP := keepR hP hk1
            obtain ⟨w31, w31x⟩ := w31
            refine lv_iload_n hx hb dX11_quiet_54 rfl (lv_at hl 4 rfl) ?_
            have cut116_36 : ∀ (y32 : Int32) (y33 : Int64) (g34 : Nat → Int64) (g35 : Nat → Int64) (H : Heap) (locs : List Loc), va_P (dC, dI) vwCl [(h0, .inr (11, [.ref st, .int (nI N), .int (nI B), .ref rp, .int vrs, .int vrb, .int vhs, .int vca, .int vxs, .int vxb, .ref tp, .int (nI T), .int vfa, .int vbr, .int vba, .int vsp, .int vhe, .int vtk, .int vva, .ref cu, .ref lt, .ref od, .ref th, .ref be, .ref ln, .int (nI S), .ref ma, .int (nI M), .ref ah, .ref bh, .ref ik, .ref la, .ref lg, .ref ce, .int vto])), (st, .inl (G 0, 196, .inl fst)), (od, .inl (G 1, 10, .inr (.inl g34))), (th, .inl (G 1, 10, .inr (.inl g35)))] H → va_D A [(h0, .inr (11, [.ref st, .int (nI N), .int (nI B), .ref rp, .int vrs, .int vrb, .int vhs, .int vca, .int vxs, .int vxb, .ref tp, .int (nI T), .int vfa, .int vbr, .int vba, .int vsp, .int vhe, .int vtk, .int vva, .ref cu, .ref lt, .ref od, .ref th, .ref be, .ref ln, .int (nI S), .ref ma, .int (nI M), .ref ah, .ref bh, .ref ik, .ref la, .ref lg, .ref ce, .int vto])), (st, .inl (G 0, 196, .inl fst)), (od, .inl (G 1, 10, .inr (.inl g34))), (th, .inl (G 1, 10, .inr (.inl g35)))] → va_S A s.heap H locs → ∀ (ls : Array Slot), lv_has ls 7 [(6, .int (nI j11)), (5, .int y32), (3, .long y33), (0, .ref h0), (1, .int mm), (2, .int what)] → W p l e (headSpec (Cond.code yX11_quiet cX11_quiet 7 (some .long) :: GT) ({ frames := 4, cells := 0, slots := 0, locals := 99 } : Room)).room s m ([.ref h0, .int mm, .int what] : List Value).toArray below meth c H locs 0 0 (MQ below (va_Ql (fun (r : Int64) (u : (Nat → Int64) × (Nat → Int64)) => match u with | (ood, oth) => (True) ∧ True) (fun (u : (Nat → Int64) × (Nat → Int64)) (t : State) => match u with | (ood, oth) => va_P (dC, dI) vwCl [(h0, .inr (11, [.ref st, .int (nI N), .int (nI B), .ref rp, .int vrs, .int vrb, .int vhs, .int vca, .int vxs, .int vxb, .ref tp, .int (nI T), .int vfa, .int vbr, .int vba, .int vsp, .int vhe, .int vtk, .int vva, .ref cu, .ref lt, .ref od, .ref th, .ref be, .ref ln, .int (nI S), .ref ma, .int (nI M), .ref ah, .ref bh, .ref ik, .ref la, .ref lg, .ref ce, .int vto])), (st, .inl (G 0, 196, .inl fst)), (od, .inl (G 1, 10, .inr (.inl ood))), (th, .inl (G 1, 10, .inr (.inl oth)))] t.heap ∧ va_D A [(h0, .inr (11, [.ref st, .int (nI N), .int (nI B), .ref rp, .int vrs, .int vrb, .int vhs, .int vca, .int vxs, .int vxb, .ref tp, .int (nI T), .int vfa, .int vbr, .int vba, .int vsp, .int vhe, .int vtk, .int vva, .ref cu, .ref lt, .ref od, .ref th, .ref be, .ref ln, .int (nI S), .ref ma, .int (nI M), .ref ah, .ref bh, .ref ik, .ref la, .ref lg, .ref ce, .int vto])), (st, .inl (G 0, 196, .inl fst)), (od, .inl (G 1, 10, .inr (.inl ood))), (th, .inl (G 1, 10, .inr (.inl oth)))]) A) ([.ref h0, .int mm, .int what] : List Value).toArray s 0 0 A) (F0 m 116 ls []) := by
              intro y32 y33 g34 g35 H locs hP hD hS ls hl
              refine lv_iinc (v := nI (j11 + 1)) (lv' := [(6, .int (nI (j11 + 1))), (5, .int y32), (3, .long y33), (0, .ref h0), (1, .int mm), (2, .int what)]) hx hb dX11_quiet_116 hl (k := 0) rfl (by rw [show Int32.ofInt 1 = nI 1 from by decide]; exact nI_add _ _) (by decide) rfl (fun ls hl => ?_)
              refine lv_goto (tgt := 38) hx hb dX11_quiet_119 (by decide) ?_
              exact ih38_16 (j11 + 1) (by omega) (by omega) y32 y33 g34 g35 _ _ hP hD hS ls (lv_sub hl [0, 1, 2, 3, 4, 5] rfl)
            refine lv_icmp_gt (tgt := 116) hx hb dX11_quiet_55 (by decide) (fun c37 => ?_) (fun c37 => ?_)
            · skip
              exact cut116_36 y12 y13 g14 g15 _ _ hP hD hS ls (lv_sub hl [0, 1, 2, 3, 4, 5] rfl)
            · skip
              refine lv_aload_n hx hb dX11_quiet_58 rfl (lv_at hl 3 rfl) ?_
              refine lv_aload_n hx hb dX11_quiet_59 rfl (lv_at hl 3 rfl) ?_
              refine va_get (D := (dC, dI)) (ci := 11) (v := .int (nI N)) (C := RX11) (T := TX11) (N := 35) hx hb hg inG11 hown hK.1 hP 0 rfl rfl 1 (by decide) (hg _ wt_879) (fun _ h9 => h9) rfl dX11_quiet_60 ?_
              refine lv_iload hx hb dX11_quiet_63 (lv_at hl 0 rfl) ?_
              refine lv_bipush (v := (-4)) hx hb dX11_quiet_65 (by decide) ?_
              have hPc := hP.sub (ws' := [(h0, .inr (11, [.ref st, .int (nI N), .int (nI B), .ref rp, .int vrs, .int vrb, .int vhs, .int vca, .int vxs, .int vxb, .ref tp, .int (nI T), .int vfa, .int vbr, .int vba, .int vsp, .int vhe, .int vtk, .int vva, .ref cu, .ref lt, .ref od, .ref th, .ref be, .ref ln, .int (nI S), .ref ma, .int (nI M), .ref ah, .ref bh, .ref ik, .ref la, .ref lg, .ref ce, .int vto])), (st, .inl (G 0, 196, .inl fst)), (od, .inl (G 1, 10, .inr (.inl g14))), (th, .inl (G 1, 10, .inr (.inl g15)))]) [0, 1, 2, 3] rfl
              have hDc := hD.sub (ws' := [(h0, .inr (11, [.ref st, .int (nI N), .int (nI B), .ref rp, .int vrs, .int vrb, .int vhs, .int vca, .int vxs, .int vxb, .ref tp, .int (nI T), .int vfa, .int vbr, .int vba, .int vsp, .int vhe, .int vtk, .int vva, .ref cu, .ref lt, .ref od, .ref th, .ref be, .ref ln, .int (nI S), .ref ma, .int (nI M), .ref ah, .ref bh, .ref ik, .ref la, .ref lg, .ref ce, .int vto])), (st, .inl (G 0, 196, .inl fst)), (od, .inl (G 1, 10, .inr (.inl g14))), (th, .inl (G 1, 10, .inr (.inl g15)))]) [0, 1, 2, 3] (by decide) rfl
              have hFc := va_free (wc := [(h0, .inr (11, [.ref st, .int (nI N), .int (nI B), .ref rp, .int vrs, .int vrb, .int vhs, .int vca, .int vxs, .int vxb, .ref tp, .int (nI T), .int vfa, .int vbr, .int vba, .int vsp, .int vhe, .int vtk, .int vva, .ref cu, .ref lt, .ref od, .ref th, .ref be, .ref ln, .int (nI S), .ref ma, .int (nI M), .ref ah, .ref bh, .ref ik, .ref la, .ref lg, .ref ce, .int vto])), (st, .inl (G 0, 196, .inl fst)), (od, .inl (G 1, 10, .inr (.inl g14))), (th, .inl (G 1, 10, .inr (.inl g15)))]) hD hS hA [0, 1, 2, 3] rfl
              have tn994_ : nIT N := fun _ => nI_toInt (by first | omega | (have t_b6 := b6; have t_b10 := b10; have t_hj18 := hj18; have t_hk19 := hk19; have t_n29 := n29; have t_c37 := nltI c37; omega))
              have tn995_ : nIT B := fun _ => nI_toInt (by first | omega | (have t_b6 := b6; have t_b10 := b10; have t_hj18 := hj18; have t_hk19 := hk19; have t_n29 := n29; have t_c37 := nltI c37; omega))
              have tn996_ : nIT T := fun _ => nI_toInt (by first | omega | (have t_b6 := b6; have t_b10 := b10; have t_hj18 := hj18; have t_hk19 := hk19; have t_n29 := n29; have t_c37 := nltI c37; omega))
              have tn997_ : nIT S := fun _ => nI_toInt (by first | omega | (have t_b6 := b6; have t_b10 := b10; have t_hj18 := hj18; have t_hk19 := hk19; have t_n29 := n29; have t_c37 := nltI c37; omega))
              have tn998_ : nIT M := fun _ => nI_toInt (by first | omega | (have t_b6 := b6; have t_b10 := b10; have t_hj18 := hj18; have t_hk19 := hk19; have t_n29 := n29; have t_c37 := nltI c37; omega))
              refine va_callv (va_runV (As := [.int (nI N), .int (nI j11), .int (-4)]) (rest := []) ⟨hx, hb, hml, hown, hg⟩ (c_X11_layOdds l dC dI G _ h0 N st N B rp tp T cu lt od th be ln S ma M ah bh ik la lg ce (nI j11) (-4) vrs vrb vhs vca vxs vxb vfa vbr vba vsp vhe vtk vva vto fst g14 g15 hN hB_ hT_ hS0 hM_ hst hN) (kwV hg mfX11_layOdds wt_1119 ⟨Nat.le_of_ble_eq_true rfl, Nat.le_of_ble_eq_true rfl⟩) (preVW hK hPc hDc (ci := 11) rfl rfl) rfl rfl hl.1 rfl (lv_room (Nat.le_of_ble_eq_true rfl)) dX11_quiet_67 ⟨Nat.le_of_ble_eq_true rfl, Nat.le_of_ble_eq_true rfl⟩) hS (fun q _ h => hFc q h) hFc (fun ur38 t H1 locs ht hvm w39 hB hz1 hk1 hS => ?_)
              obtain ⟨u40, u41⟩ := ur38
              obtain ⟨hP1, hD1⟩ := hB
              rw [ht] at hP1
              obtain ⟨hP, hD⟩ := va_join (wr := []) (w1 := [(h0, .inr (11, [.ref st, .int (nI N), .int (nI B), .ref rp, .int vrs, .int vrb, .int vhs, .int vca, .int vxs, .int vxb, .ref tp, .int (nI T), .int vfa, .int vbr, .int vba, .int vsp, .int vhe, .int vtk, .int vva, .ref cu, .ref lt, .ref od, .ref th, .ref be, .ref ln, .int (nI S), .ref ma, .int (nI M), .ref ah, .ref bh, .ref ik, .ref la, .ref lg, .ref ce, .int vto])), (st, .inl (G 0, 196, .inl fst)), (od, .inl (G 1, 10, .inr (.inl u40))), (th, .inl (G 1, 10, .inr (.inl u41)))]) hP hD [0, 1, 2, 3] [] rfl rfl (by decide) (by decide) hk1 hFc hP1 hD1
              generalize H1 = H at hP hS ⊢
              have hP : va_P (dC, dI) vwCl [(h0, .inr (11, [.ref st, .int (nI N), .int (nI B), .ref rp, .int vrs, .int vrb, .int vhs, .int vca, .int vxs, .int vxb, .ref tp, .int (nI T), .int vfa, .int vbr, .int vba, .int vsp, .int vhe, .int vtk, .int vva, .ref cu, .ref lt, .ref od, .ref th, .ref be, .ref ln, .int (nI S), .ref ma, .int (nI M), .ref ah, .ref bh, .ref ik, .ref la, .ref lg, .ref ce, .int vto])), (st, .inl (G 0, 196, .inl fst)), (od, .inl (G 1, 10, .inr (.inl u40))), (th, .inl (G 1, 10, .inr (.inl u41)))] H := hP
              have hD : va_D A [(h0, .inr (11, [.ref st, .int (nI N), .int (nI B), .ref rp, .int vrs, .int vrb, .int vhs, .int vca, .int vxs, .int vxb, .ref tp, .int (nI T), .int vfa, .int vbr, .int vba, .int vsp, .int vhe, .int vtk, .int vva, .ref cu, .ref lt, .ref od, .ref th, .ref be, .ref ln, .int (nI S), .ref ma, .int (nI M), .ref ah, .ref bh, .ref ik, .ref la, .ref lg, .ref ce, .int vto])), (st, .inl (G 0, 196, .inl fst)), (od, .inl (G 1, 10, .inr (.inl u40))), (th, .inl (G 1, 10, .inr (.inl u41)))] := hD
              refine lv_aload_n hx hb dX11_quiet_70 rfl (lv_at hl 3 rfl) ?_
              refine va_get (D := (dC, dI)) (ci := 11) (v := .ref od) (C := RX11) (T := TX11) (N := 35) hx hb hg inG11 hown hK.1 hP 0 rfl rfl 21 (by decide) (hg _ wt_899) (fun _ h9 => h9) rfl dX11_quiet_71 ?_
              refine lv_iconst (v := 0) hx hb dX11_quiet_74 (by decide) ?_
              refine va_lald hx hb hK.1 hP 2 1 rfl rfl (vp_in_iff.mpr ⟨by decide, by decide⟩) dX11_quiet_75 ?_
              refine lv_cgl (y := u40 0) (by rfl) ?_
              refine lv_lload_n hx hb dX11_quiet_76 rfl (lv_at hl 2 rfl) ?_
              refine W.lcmp hx hb dX11_quiet_77 ?_
              have cut105_42 : ∀ (H : Heap) (locs : List Loc), va_P (dC, dI) vwCl [(h0, .inr (11, [.ref st, .int (nI N), .int (nI B), .ref rp, .int vrs, .int vrb, .int vhs, .int vca, .int vxs, .int vxb, .ref tp, .int (nI T), .int vfa, .int vbr, .int vba, .int vsp, .int vhe, .int vtk, .int vva, .ref cu, .ref lt, .ref od, .ref th, .ref be, .ref ln, .int (nI S), .ref ma, .int (nI M), .ref ah, .ref bh, .ref ik, .ref la, .ref lg, .ref ce, .int vto])), (st, .inl (G 0, 196, .inl fst)), (od, .inl (G 1, 10, .inr (.inl u40))), (th, .inl (G 1, 10, .inr (.inl u41)))] H → va_D A [(h0, .inr (11, [.ref st, .int (nI N), .int (nI B), .ref rp, .int vrs, .int vrb, .int vhs, .int vca, .int vxs, .int vxb, .ref tp, .int (nI T), .int vfa, .int vbr, .int vba, .int vsp, .int vhe, .int vtk, .int vva, .ref cu, .ref lt, .ref od, .ref th, .ref be, .ref ln, .int (nI S), .ref ma, .int (nI M), .ref ah, .ref bh, .ref ik, .ref la, .ref lg, .ref ce, .int vto])), (st, .inl (G 0, 196, .inl fst)), (od, .inl (G 1, 10, .inr (.inl u40))), (th, .inl (G 1, 10, .inr (.inl u41)))] → va_S A s.heap H locs → ∀ (ls : Array Slot), lv_has ls 7 [(6, .int (nI j11)), (5, .int y12), (3, .long y13), (0, .ref h0), (1, .int mm), (2, .int what)] → W p l e (headSpec (Cond.code yX11_quiet cX11_quiet 7 (some .long) :: GT) ({ frames := 4, cells := 0, slots := 0, locals := 99 } : Room)).room s m ([.ref h0, .int mm, .int what] : List Value).toArray below meth c H locs 0 0 (MQ below (va_Ql (fun (r : Int64) (u : (Nat → Int64) × (Nat → Int64)) => match u with | (ood, oth) => (True) ∧ True) (fun (u : (Nat → Int64) × (Nat → Int64)) (t : State) => match u with | (ood, oth) => va_P (dC, dI) vwCl [(h0, .inr (11, [.ref st, .int (nI N), .int (nI B), .ref rp, .int vrs, .int vrb, .int vhs, .int vca, .int vxs, .int vxb, .ref tp, .int (nI T), .int vfa, .int vbr, .int vba, .int vsp, .int vhe, .int vtk, .int vva, .ref cu, .ref lt, .ref od, .ref th, .ref be, .ref ln, .int (nI S), .ref ma, .int (nI M), .ref ah, .ref bh, .ref ik, .ref la, .ref lg, .ref ce, .int vto])), (st, .inl (G 0, 196, .inl fst)), (od, .inl (G 1, 10, .inr (.inl ood))), (th, .inl (G 1, 10, .inr (.inl oth)))] t.heap ∧ va_D A [(h0, .inr (11, [.ref st, .int (nI N), .int (nI B), .ref rp, .int vrs, .int vrb, .int vhs, .int vca, .int vxs, .int vxb, .ref tp, .int (nI T), .int vfa, .int vbr, .int vba, .int vsp, .int vhe, .int vtk, .int vva, .ref cu, .ref lt, .ref od, .ref th, .ref be, .ref ln, .int (nI S), .ref ma, .int (nI M), .ref ah, .ref bh, .ref ik, .ref la, .ref lg, .ref ce, .int vto])), (st, .inl (G 0, 196, .inl fst)), (od, .inl (G 1, 10, .inr (.inl ood))), (th, .inl (G 1, 10, .inr (.inl oth)))]) A) ([.ref h0, .int mm, .int what] : List Value).toArray s 0 0 A) (F0 m 105 ls []) := by
                intro  H locs hP hD hS ls hl
                refine lv_aload_n hx hb dX11_quiet_105 rfl (lv_at hl 3 rfl) ?_
                refine va_get (D := (dC, dI)) (ci := 11) (v := .ref od) (C := RX11) (T := TX11) (N := 35) hx hb hg inG11 hown hK.1 hP 0 rfl rfl 21 (by decide) (hg _ wt_899) (fun _ h9 => h9) rfl dX11_quiet_106 ?_
                refine lv_iconst (v := 0) hx hb dX11_quiet_109 (by decide) ?_
                refine va_lald hx hb hK.1 hP 2 1 rfl rfl (vp_in_iff.mpr ⟨by decide, by decide⟩) dX11_quiet_110 ?_
                refine lv_cgl (y := u40 0) (by rfl) ?_
                refine lv_lstore_n (lv' := [(3, .long (u40 0)), (6, .int (nI j11)), (5, .int y12), (0, .ref h0), (1, .int mm), (2, .int what)]) hx hb dX11_quiet_111 rfl hl (by decide) rfl (fun ls hl => ?_)
                refine lv_iload hx hb dX11_quiet_112 (lv_at hl 1 rfl) ?_
                refine lv_istore (lv' := [(5, .int (nI j11)), (3, .long (u40 0)), (6, .int (nI j11)), (0, .ref h0), (1, .int mm), (2, .int what)]) hx hb dX11_quiet_114 hl (by decide) rfl (fun ls hl => ?_)
                exact cut116_36 (nI j11) (u40 0) u40 u41 _ _ hP hD hS ls (lv_sub hl [2, 0, 1, 3, 4, 5] rfl)
              refine lv_if_lt (tgt := 105) hx hb dX11_quiet_78 (by decide) (fun c43 => ?_) (fun c43 => ?_)
              · skip
                exact cut105_42  _ _ hP hD hS ls (lv_sub hl [0, 1, 2, 3, 4, 5] rfl)
              · skip
                refine lv_aload_n hx hb dX11_quiet_81 rfl (lv_at hl 3 rfl) ?_
                refine va_get (D := (dC, dI)) (ci := 11) (v := .ref od) (C := RX11) (T := TX11) (N := 35) hx hb hg inG11 hown hK.1 hP 0 rfl rfl 21 (by decide) (hg _ wt_899) (fun _ h9 => h9) rfl dX11_quiet_82 ?_
                refine lv_iconst (v := 0) hx hb dX11_quiet_85 (by decide) ?_
                refine va_lald hx hb hK.1 hP 2 1 rfl rfl (vp_in_iff.mpr ⟨by decide, by decide⟩) dX11_quiet_86 ?_
                refine lv_cgl (y := u40 0) (by rfl) ?_
                refine lv_lload_n hx hb dX11_quiet_87 rfl (lv_at hl 2 rfl) ?_
                refine W.lcmp hx hb dX11_quiet_88 ?_
                refine lv_if_ne (tgt := 116) hx hb dX11_quiet_89 (by decide) (fun c44 => ?_) (fun c44 => ?_)
                · skip
                  exact cut116_36 y12 y13 u40 u41 _ _ hP hD hS ls (lv_sub hl [0, 1, 2, 3, 4, 5] rfl)
                · skip
                  refine lv_iload hx hb dX11_quiet_92 (lv_at hl 0 rfl) ?_
                  have hPc := hP.sub (ws' := []) [] rfl
                  refine va_calli (va_runS (As := [.int (nI j11)]) (rest := []) ⟨hx, hb, hml, hown, hg⟩ (c_X11_bitsOf l dC dI G _ (nI j11)) (kwS hg mfX11_bitsOf wt_1176 ⟨Nat.le_of_ble_eq_true rfl, Nat.le_of_ble_eq_true rfl⟩) (preSR hK hPc) rfl rfl hl.1 rfl (lv_room (Nat.le_of_ble_eq_true rfl)) dX11_quiet_94 ⟨Nat.le_of_ble_eq_true rfl, Nat.le_of_ble_eq_true rfl⟩) hS (fun q h1 h2 => absurd h2 (Nat.not_le.mpr h1)) (fun q h => hA q (Nat.le_trans hS.1 h)) (fun r45 ur45 t H1 locs ht hvm w46 hB hz1 hk1 hS => ?_)
                  have hP := keepR hP hk1
                  obtain ⟨w46, w46x⟩ := w46
                  refine lv_iload hx hb dX11_quiet_97 (lv_at hl 1 rfl) ?_
                  have hPc := hP.sub (ws' := []) [] rfl
                  refine va_calli (va_runS (As := [.int y12]) (rest := [.int r45]) ⟨hx, hb, hml, hown, hg⟩ (c_X11_bitsOf l dC dI G _ y12) (kwS hg mfX11_bitsOf wt_1176 ⟨Nat.le_of_ble_eq_true rfl, Nat.le_of_ble_eq_true rfl⟩) (preSR hK hPc) rfl rfl hl.1 rfl (lv_room (Nat.le_of_ble_eq_true rfl)) dX11_quiet_99 ⟨Nat.le_of_ble_eq_true rfl, Nat.le_of_ble_eq_true rfl⟩) hS (fun q h1 h2 => absurd h2 (Nat.not_le.mpr h1)) (fun q h => hA q (Nat.le_trans hS.1 h)) (fun r47 ur47 t H1 locs ht hvm w48 hB hz1 hk1 hS => ?_)
                  have hP := keepR hP hk1
                  obtain ⟨w48, w48x⟩ := w48
                  refine lv_icmp_ge (tgt := 116) hx hb dX11_quiet_102 (by decide) (fun c49 => ?_) (fun c49 => ?_)
                  · skip
                    exact cut116_36 y12 y13 u40 u41 _ _ hP hD hS ls (lv_sub hl [0, 1, 2, 3, 4, 5] rfl)
                  · skip
                    exact cut105_42  _ _ hP hD hS ls (lv_sub hl [0, 1, 2, 3, 4, 5] rfl)
      exact loop38_16 (1024 + 1) 0 (by omega) (by omega) 0 4000000000000000000 fod fth _ _ hP hD hS ls (lv_sub hl [0, 1, 2, 3, 4, 5] rfl)
    · skip
      have b50 := if10_n c9
      exact cut24_3  _ _ hP hD hS ls (lv_sub hl [0, 1, 2] rfl)

set_option maxHeartbeats 1000000 in
set_option maxRecDepth 100000 in
theorem c_X11_drop (l : Launch) (dC : Nat → ClassId) (dI : Nat → Nat → Nat) (G : Nat → ClassId) (sz : Nat) (h0 st N B rp tp T cu lt od th be ln S ma M ah bh ik la lg ce : Nat) (what vrs vrb vhs vca vxs vxb vfa vbr vba vsp vhe vtk vva vto : Int32) (fst : Nat → Int32) (fod : Nat → Int64) (fth : Nat → Int64) (hN : N ≤ 10) (hB : B ≤ 6) (hT : T ≤ 320) (hS0 : S ≤ 8) (hM : M ≤ 6) (hst : OKS fst) : Met l yX11_drop (Cond.code yX11_drop cX11_drop 6 (some .long) :: GT) ({ frames := 4, cells := 0, slots := 0, locals := 99 } : Room) (PcW [.ref h0, .int what] dC dI G [(h0, .inr (11, [.ref st, .int (nI N), .int (nI B), .ref rp, .int vrs, .int vrb, .int vhs, .int vca, .int vxs, .int vxb, .ref tp, .int (nI T), .int vfa, .int vbr, .int vba, .int vsp, .int vhe, .int vtk, .int vva, .ref cu, .ref lt, .ref od, .ref th, .ref be, .ref ln, .int (nI S), .ref ma, .int (nI M), .ref ah, .ref bh, .ref ik, .ref la, .ref lg, .ref ce, .int vto])), (st, .inl (G 0, 196, .inl fst)), (od, .inl (G 1, 10, .inr (.inl fod))), (th, .inl (G 1, 10, .inr (.inl fth)))] sz) (va_Ql (fun (r : Int64) (u : (Nat → Int64) × (Nat → Int64)) => match u with | (ood, oth) => (True) ∧ True) (fun (u : (Nat → Int64) × (Nat → Int64)) (t : State) => match u with | (ood, oth) => va_P (dC, dI) vwCl [(h0, .inr (11, [.ref st, .int (nI N), .int (nI B), .ref rp, .int vrs, .int vrb, .int vhs, .int vca, .int vxs, .int vxb, .ref tp, .int (nI T), .int vfa, .int vbr, .int vba, .int vsp, .int vhe, .int vtk, .int vva, .ref cu, .ref lt, .ref od, .ref th, .ref be, .ref ln, .int (nI S), .ref ma, .int (nI M), .ref ah, .ref bh, .ref ik, .ref la, .ref lg, .ref ce, .int vto])), (st, .inl (G 0, 196, .inl fst)), (od, .inl (G 1, 10, .inr (.inl ood))), (th, .inl (G 1, 10, .inr (.inl oth)))] t.heap ∧ va_D (va_A [(h0, .inr (11, [.ref st, .int (nI N), .int (nI B), .ref rp, .int vrs, .int vrb, .int vhs, .int vca, .int vxs, .int vxb, .ref tp, .int (nI T), .int vfa, .int vbr, .int vba, .int vsp, .int vhe, .int vtk, .int vva, .ref cu, .ref lt, .ref od, .ref th, .ref be, .ref ln, .int (nI S), .ref ma, .int (nI M), .ref ah, .ref bh, .ref ik, .ref la, .ref lg, .ref ce, .int vto])), (st, .inl (G 0, 196, .inl fst)), (od, .inl (G 1, 10, .inr (.inl fod))), (th, .inl (G 1, 10, .inr (.inl fth)))] sz) [(h0, .inr (11, [.ref st, .int (nI N), .int (nI B), .ref rp, .int vrs, .int vrb, .int vhs, .int vca, .int vxs, .int vxb, .ref tp, .int (nI T), .int vfa, .int vbr, .int vba, .int vsp, .int vhe, .int vtk, .int vva, .ref cu, .ref lt, .ref od, .ref th, .ref be, .ref ln, .int (nI S), .ref ma, .int (nI M), .ref ah, .ref bh, .ref ik, .ref la, .ref lg, .ref ce, .int vto])), (st, .inl (G 0, 196, .inl fst)), (od, .inl (G 1, 10, .inr (.inl ood))), (th, .inl (G 1, 10, .inr (.inl oth)))]) (va_A [(h0, .inr (11, [.ref st, .int (nI N), .int (nI B), .ref rp, .int vrs, .int vrb, .int vhs, .int vca, .int vxs, .int vxb, .ref tp, .int (nI T), .int vfa, .int vbr, .int vba, .int vsp, .int vhe, .int vtk, .int vva, .ref cu, .ref lt, .ref od, .ref th, .ref be, .ref ln, .int (nI S), .ref ma, .int (nI M), .ref ah, .ref bh, .ref ik, .ref la, .ref lg, .ref ce, .int vto])), (st, .inl (G 0, 196, .inl fst)), (od, .inl (G 1, 10, .inr (.inl fod))), (th, .inl (G 1, 10, .inr (.inl fth)))] sz)) 0 0 (va_A [(h0, .inr (11, [.ref st, .int (nI N), .int (nI B), .ref rp, .int vrs, .int vrb, .int vhs, .int vca, .int vxs, .int vxb, .ref tp, .int (nI T), .int vfa, .int vbr, .int vba, .int vsp, .int vhe, .int vtk, .int vva, .ref cu, .ref lt, .ref od, .ref th, .ref be, .ref ln, .int (nI S), .ref ma, .int (nI M), .ref ah, .ref bh, .ref ik, .ref la, .ref lg, .ref ce, .int vto])), (st, .inl (G 0, 196, .inl fst)), (od, .inl (G 1, 10, .inr (.inl fod))), (th, .inl (G 1, 10, .inr (.inl fth)))] sz) := by
  have hB_ := hB
  have hM_ := hM
  have hT_ := hT
  refine Met.ofW (cc := cX11_drop) (maxL := 6) (ret := (some .long)) (by decide) rfl ?_
  intro p e s m args below meth c s₁ Bd hml hv
  obtain ⟨rfl, hsz, hP, hK, hD0⟩ := hv
  have hx := Bd.exec
  have hb := Bd.bytes
  have hr := Bd.returns
  have hg : ∀ w ∈ GT, w.before ([.ref h0, .int what] : List Value).toArray s = true := fun w h => atoms_spec (ws := Cond.code yX11_drop cX11_drop 6 (some .long) :: GT) Bd.pre w (List.mem_cons_of_mem _ h)
  have hown : s.vm.findClass RX11 = some m.cls := findClass_of_methodNamed Bd.named
  have hlocks := Bd.notSynchronized
  subst hsz
  have hD := hD0.self (sz := s.heap.size)
  generalize hAe : va_A [(h0, .inr (11, [.ref st, .int (nI N), .int (nI B), .ref rp, .int vrs, .int vrb, .int vhs, .int vca, .int vxs, .int vxb, .ref tp, .int (nI T), .int vfa, .int vbr, .int vba, .int vsp, .int vhe, .int vtk, .int vva, .ref cu, .ref lt, .ref od, .ref th, .ref be, .ref ln, .int (nI S), .ref ma, .int (nI M), .ref ah, .ref bh, .ref ik, .ref la, .ref lg, .ref ce, .int vto])), (st, .inl (G 0, 196, .inl fst)), (od, .inl (G 1, 10, .inr (.inl fod))), (th, .inl (G 1, 10, .inr (.inl fth)))] s.heap.size = A at hD ⊢
  have hA : ∀ q : Nat, s.heap.size ≤ q → A q := fun q h => by rw [← hAe]; exact Or.inr h
  have hS : va_S A s.heap s.heap [] := va_S.rf
  have hl := lv_entry ([.ref h0, .int what]) (n := 6) (Nat.le_of_ble_eq_true rfl)
  rw [lg_entry_eq]
  generalize (lg_sl ([.ref h0, .int what]) ++ List.replicate (6 - (lg_sl ([.ref h0, .int what])).length) Slot.unset).toArray = ls at hl ⊢
  have hl : lv_has ls 6 [(0, .ref h0), (1, .int what)] := hl
  refine lv_iload_n hx hb dX11_drop_0 rfl (lv_at hl 1 rfl) ?_
  refine lv_i2l (v := what.toInt64) hx hb dX11_drop_1 rfl ?_
  refine lv_lconst (v := 0) hx hb dX11_drop_2 (by decide) ?_
  refine lv_ldc2 (v := 2) hx hb hown (hg _ wt_1056) dX11_drop_3 ?_
  have hPc := hP.sub (ws' := []) [] rfl
  refine va_calli (va_runS (As := [.long what.toInt64, .long 0, .long 2]) (rest := []) ⟨hx, hb, hml, hown, hg⟩ (c_X11_in l dC dI G _ what.toInt64 0 2) (kwS hg mfX11_in wt_992 ⟨Nat.le_of_ble_eq_true rfl, Nat.le_of_ble_eq_true rfl⟩) (preSR hK hPc) rfl rfl hl.1 rfl (lv_room (Nat.le_of_ble_eq_true rfl)) dX11_drop_6 ⟨Nat.le_of_ble_eq_true rfl, Nat.le_of_ble_eq_true rfl⟩) hS (fun q h1 h2 => absurd h2 (Nat.not_le.mpr h1)) (fun q h => hA q (Nat.le_trans hS.1 h)) (fun r1 ur1 t H1 locs ht hvm w2 hB hz1 hk1 hS => ?_)
  have hP := keepR hP hk1
  obtain ⟨w2, w2x⟩ := w2
  try simp only [l_ii, show (0 : Int64).toInt = 0 from by decide, show (2 : Int64).toInt = 2 from by decide] at w2
  subst w2
  refine lv_if_ne (tgt := 16) hx hb dX11_drop_9 (by decide) (fun c3 => ?_) (fun c3 => ?_)
  · skip
    have b4 := if10_p c3
    refine lv_aload_n hx hb dX11_drop_16 rfl (lv_at hl 0 rfl) ?_
    refine va_get (D := (dC, dI)) (ci := 11) (v := .int (nI N)) (C := RX11) (T := TX11) (N := 35) hx hb hg inG11 hown hK.1 hP 0 rfl rfl 1 (by decide) (hg _ wt_879) (fun _ h9 => h9) rfl dX11_drop_17 ?_
    refine lv_if_ne (tgt := 27) hx hb dX11_drop_20 (by decide) (fun c5 => ?_) (fun c5 => ?_)
    · skip
      have tn999_ : nIT N := fun _ => nI_toInt (by first | omega | (have t := neI c5; omega))
      have n6 : N ≠ 0 := by have t := neI c5; rw [show (nI (N)).toInt = ((N : Nat) : Int) from tn999_ ()] at t; have : (0 : Int32).toInt = 0 := qI_0; omega
      refine lv_ldc2 (v := 4000000000000000000) hx hb hown (hg _ wt_1154) dX11_drop_27 ?_
      refine lv_lstore_n (lv' := [(2, .long 4000000000000000000), (0, .ref h0), (1, .int what)]) hx hb dX11_drop_30 rfl hl (by decide) rfl (fun ls hl => ?_)
      refine lv_iconst (v := 0) hx hb dX11_drop_31 (by decide) ?_
      refine lv_istore (lv' := [(4, .int 0), (2, .long 4000000000000000000), (0, .ref h0), (1, .int what)]) hx hb dX11_drop_32 hl (by decide) rfl (fun ls hl => ?_)
      refine lv_iconst (v := 0) hx hb dX11_drop_34 (by decide) ?_
      refine lv_istore (lv' := [(5, .int 0), (4, .int 0), (2, .long 4000000000000000000), (0, .ref h0), (1, .int what)]) hx hb dX11_drop_35 hl (by decide) rfl (fun ls hl => ?_)
      have loop37_12 : ∀ (nf j7 : Nat), N + 1 ≤ j7 + nf → j7 ≤ N → ∀ (y8 : Int32) (y9 : Int64) (g10 : Nat → Int64) (g11 : Nat → Int64) (H : Heap) (locs : List Loc), va_P (dC, dI) vwCl [(h0, .inr (11, [.ref st, .int (nI N), .int (nI B), .ref rp, .int vrs, .int vrb, .int vhs, .int vca, .int vxs, .int vxb, .ref tp, .int (nI T), .int vfa, .int vbr, .int vba, .int vsp, .int vhe, .int vtk, .int vva, .ref cu, .ref lt, .ref od, .ref th, .ref be, .ref ln, .int (nI S), .ref ma, .int (nI M), .ref ah, .ref bh, .ref ik, .ref la, .ref lg, .ref ce, .int vto])), (st, .inl (G 0, 196, .inl fst)), (od, .inl (G 1, 10, .inr (.inl g10))), (th, .inl (G 1, 10, .inr (.inl g11)))] H → va_D A [(h0, .inr (11, [.ref st, .int (nI N), .int (nI B), .ref rp, .int vrs, .int vrb, .int vhs, .int vca, .int vxs, .int vxb, .ref tp, .int (nI T), .int vfa, .int vbr, .int vba, .int vsp, .int vhe, .int vtk, .int vva, .ref cu, .ref lt, .ref od, .ref th, .ref be, .ref ln, .int (nI S), .ref ma, .int (nI M), .ref ah, .ref bh, .ref ik, .ref la, .ref lg, .ref ce, .int vto])), (st, .inl (G 0, 196, .inl fst)), (od, .inl (G 1, 10, .inr (.inl g10))), (th, .inl (G 1, 10, .inr (.inl g11)))] → va_S A s.heap H locs → ∀ (ls : Array Slot), lv_has ls 6 [(5, .int (nI j7)), (4, .int y8), (2, .long y9), (0, .ref h0), (1, .int what)] → W p l e (headSpec (Cond.code yX11_drop cX11_drop 6 (some .long) :: GT) ({ frames := 4, cells := 0, slots := 0, locals := 99 } : Room)).room s m ([.ref h0, .int what] : List Value).toArray below meth c H locs 0 0 (MQ below (va_Ql (fun (r : Int64) (u : (Nat → Int64) × (Nat → Int64)) => match u with | (ood, oth) => (True) ∧ True) (fun (u : (Nat → Int64) × (Nat → Int64)) (t : State) => match u with | (ood, oth) => va_P (dC, dI) vwCl [(h0, .inr (11, [.ref st, .int (nI N), .int (nI B), .ref rp, .int vrs, .int vrb, .int vhs, .int vca, .int vxs, .int vxb, .ref tp, .int (nI T), .int vfa, .int vbr, .int vba, .int vsp, .int vhe, .int vtk, .int vva, .ref cu, .ref lt, .ref od, .ref th, .ref be, .ref ln, .int (nI S), .ref ma, .int (nI M), .ref ah, .ref bh, .ref ik, .ref la, .ref lg, .ref ce, .int vto])), (st, .inl (G 0, 196, .inl fst)), (od, .inl (G 1, 10, .inr (.inl ood))), (th, .inl (G 1, 10, .inr (.inl oth)))] t.heap ∧ va_D A [(h0, .inr (11, [.ref st, .int (nI N), .int (nI B), .ref rp, .int vrs, .int vrb, .int vhs, .int vca, .int vxs, .int vxb, .ref tp, .int (nI T), .int vfa, .int vbr, .int vba, .int vsp, .int vhe, .int vtk, .int vva, .ref cu, .ref lt, .ref od, .ref th, .ref be, .ref ln, .int (nI S), .ref ma, .int (nI M), .ref ah, .ref bh, .ref ik, .ref la, .ref lg, .ref ce, .int vto])), (st, .inl (G 0, 196, .inl fst)), (od, .inl (G 1, 10, .inr (.inl ood))), (th, .inl (G 1, 10, .inr (.inl oth)))]) A) ([.ref h0, .int what] : List Value).toArray s 0 0 A) (F0 m 37 ls []) := by
        intro nf
        induction nf with
        | zero => intro j7 h1 h2; exact absurd h1 (by omega)
        | succ nf ih37_12 =>
          intro j7 hn13 hj14 y8 y9 g10 g11 H locs hP hD hS ls hl
          refine lv_iload hx hb dX11_drop_37 (lv_at hl 0 rfl) ?_
          refine lv_aload_n hx hb dX11_drop_39 rfl (lv_at hl 3 rfl) ?_
          refine va_get (D := (dC, dI)) (ci := 11) (v := .int (nI N)) (C := RX11) (T := TX11) (N := 35) hx hb hg inG11 hown hK.1 hP 0 rfl rfl 1 (by decide) (hg _ wt_879) (fun _ h9 => h9) rfl dX11_drop_40 ?_
          refine lv_icmp_ge (tgt := 105) hx hb dX11_drop_43 (by decide) (fun c15 => ?_) (fun c15 => ?_)
          · skip
            have tn1000_ : nIT j7 := fun _ => nI_toInt (by first | omega | (have t := leI c15; omega))
            have n16 : N ≤ j7 := by have t := leI c15; rw [show (nI (j7)).toInt = ((j7 : Nat) : Int) from tn1000_ ()] at t; rw [show (nI (N)).toInt = ((N : Nat) : Int) from tn999_ ()] at t; omega
            refine lv_iload_n hx hb dX11_drop_105 rfl (lv_at hl 4 rfl) ?_
            refine lv_iconst (v := 2) hx hb dX11_drop_106 (by decide) ?_
            have cut128_18 : ∀ (y17 : Int64) (H : Heap) (locs : List Loc), va_P (dC, dI) vwCl [(h0, .inr (11, [.ref st, .int (nI N), .int (nI B), .ref rp, .int vrs, .int vrb, .int vhs, .int vca, .int vxs, .int vxb, .ref tp, .int (nI T), .int vfa, .int vbr, .int vba, .int vsp, .int vhe, .int vtk, .int vva, .ref cu, .ref lt, .ref od, .ref th, .ref be, .ref ln, .int (nI S), .ref ma, .int (nI M), .ref ah, .ref bh, .ref ik, .ref la, .ref lg, .ref ce, .int vto])), (st, .inl (G 0, 196, .inl fst)), (od, .inl (G 1, 10, .inr (.inl g10))), (th, .inl (G 1, 10, .inr (.inl g11)))] H → va_D A [(h0, .inr (11, [.ref st, .int (nI N), .int (nI B), .ref rp, .int vrs, .int vrb, .int vhs, .int vca, .int vxs, .int vxb, .ref tp, .int (nI T), .int vfa, .int vbr, .int vba, .int vsp, .int vhe, .int vtk, .int vva, .ref cu, .ref lt, .ref od, .ref th, .ref be, .ref ln, .int (nI S), .ref ma, .int (nI M), .ref ah, .ref bh, .ref ik, .ref la, .ref lg, .ref ce, .int vto])), (st, .inl (G 0, 196, .inl fst)), (od, .inl (G 1, 10, .inr (.inl g10))), (th, .inl (G 1, 10, .inr (.inl g11)))] → va_S A s.heap H locs → ∀ (ls : Array Slot), lv_has ls 6 [(5, .int (nI j7)), (4, .int y8), (2, .long y9), (0, .ref h0), (1, .int what)] → W p l e (headSpec (Cond.code yX11_drop cX11_drop 6 (some .long) :: GT) ({ frames := 4, cells := 0, slots := 0, locals := 99 } : Room)).room s m ([.ref h0, .int what] : List Value).toArray below meth c H locs 0 0 (MQ below (va_Ql (fun (r : Int64) (u : (Nat → Int64) × (Nat → Int64)) => match u with | (ood, oth) => (True) ∧ True) (fun (u : (Nat → Int64) × (Nat → Int64)) (t : State) => match u with | (ood, oth) => va_P (dC, dI) vwCl [(h0, .inr (11, [.ref st, .int (nI N), .int (nI B), .ref rp, .int vrs, .int vrb, .int vhs, .int vca, .int vxs, .int vxb, .ref tp, .int (nI T), .int vfa, .int vbr, .int vba, .int vsp, .int vhe, .int vtk, .int vva, .ref cu, .ref lt, .ref od, .ref th, .ref be, .ref ln, .int (nI S), .ref ma, .int (nI M), .ref ah, .ref bh, .ref ik, .ref la, .ref lg, .ref ce, .int vto])), (st, .inl (G 0, 196, .inl fst)), (od, .inl (G 1, 10, .inr (.inl ood))), (th, .inl (G 1, 10, .inr (.inl oth)))] t.heap ∧ va_D A [(h0, .inr (11, [.ref st, .int (nI N), .int (nI B), .ref rp, .int vrs, .int vrb, .int vhs, .int vca, .int vxs, .int vxb, .ref tp, .int (nI T), .int vfa, .int vbr, .int vba, .int vsp, .int vhe, .int vtk, .int vva, .ref cu, .ref lt, .ref od, .ref th, .ref be, .ref ln, .int (nI S), .ref ma, .int (nI M), .ref ah, .ref bh, .ref ik, .ref la, .ref lg, .ref ce, .int vto])), (st, .inl (G 0, 196, .inl fst)), (od, .inl (G 1, 10, .inr (.inl ood))), (th, .inl (G 1, 10, .inr (.inl oth)))]) A) ([.ref h0, .int what] : List Value).toArray s 0 0 A) (F0 m 128 ls [.long y17]) := by
              intro y17 H locs hP hD hS ls hl
              have hpost : True := by
                trivial
              have hP9 := hP.sub (ws' := [(h0, .inr (11, [.ref st, .int (nI N), .int (nI B), .ref rp, .int vrs, .int vrb, .int vhs, .int vca, .int vxs, .int vxb, .ref tp, .int (nI T), .int vfa, .int vbr, .int vba, .int vsp, .int vhe, .int vtk, .int vva, .ref cu, .ref lt, .ref od, .ref th, .ref be, .ref ln, .int (nI S), .ref ma, .int (nI M), .ref ah, .ref bh, .ref ik, .ref la, .ref lg, .ref ce, .int vto])), (st, .inl (G 0, 196, .inl fst)), (od, .inl (G 1, 10, .inr (.inl g10))), (th, .inl (G 1, 10, .inr (.inl g11)))]) [0, 1, 2, 3] rfl
              have hD9 := hD.sub (ws' := [(h0, .inr (11, [.ref st, .int (nI N), .int (nI B), .ref rp, .int vrs, .int vrb, .int vhs, .int vca, .int vxs, .int vxb, .ref tp, .int (nI T), .int vfa, .int vbr, .int vba, .int vsp, .int vhe, .int vtk, .int vva, .ref cu, .ref lt, .ref od, .ref th, .ref be, .ref ln, .int (nI S), .ref ma, .int (nI M), .ref ah, .ref bh, .ref ik, .ref la, .ref lg, .ref ce, .int vto])), (st, .inl (G 0, 196, .inl fst)), (od, .inl (G 1, 10, .inr (.inl g10))), (th, .inl (G 1, 10, .inr (.inl g11)))]) [0, 1, 2, 3] (by decide) rfl
              refine W.widen (k := 0) (n := 0) (Nat.le_of_ble_eq_true rfl) (Nat.le_of_ble_eq_true rfl) ?_
              exact W.lret (v := y17) hx hb hr (fun t ht hW => ⟨⟨y17, (g10, g11), rfl, ⟨hpost, trivial⟩, ⟨by rw [ht]; exact hP9, hD9⟩⟩, hS.F ht⟩) hS.2.2 dX11_drop_128
            refine lv_icmp_ne (tgt := 116) hx hb dX11_drop_107 (by decide) (fun c19 => ?_) (fun c19 => ?_)
            · skip
              refine lv_lload_n hx hb dX11_drop_116 rfl (lv_at hl 2 rfl) ?_
              refine lv_aload_n hx hb dX11_drop_117 rfl (lv_at hl 3 rfl) ?_
              refine va_get (D := (dC, dI)) (ci := 11) (v := .int (nI N)) (C := RX11) (T := TX11) (N := 35) hx hb hg inG11 hown hK.1 hP 0 rfl rfl 1 (by decide) (hg _ wt_879) (fun _ h9 => h9) rfl dX11_drop_118 ?_
              have hPc := hP.sub (ws' := []) [] rfl
              have tn1001_ : nIT B := fun _ => nI_toInt (by first | omega | (have t_b4 := b4; have t_n6 := n6; have t_hj14 := hj14; have t_n16 := n16; have t_c19 := neI c19; have : (2 : Int32).toInt = 2 := qI_2; omega))
              have tn1002_ : nIT T := fun _ => nI_toInt (by first | omega | (have t_b4 := b4; have t_n6 := n6; have t_hj14 := hj14; have t_n16 := n16; have t_c19 := neI c19; have : (2 : Int32).toInt = 2 := qI_2; omega))
              have tn1003_ : nIT S := fun _ => nI_toInt (by first | omega | (have t_b4 := b4; have t_n6 := n6; have t_hj14 := hj14; have t_n16 := n16; have t_c19 := neI c19; have : (2 : Int32).toInt = 2 := qI_2; omega))
              have tn1004_ : nIT M := fun _ => nI_toInt (by first | omega | (have t_b4 := b4; have t_n6 := n6; have t_hj14 := hj14; have t_n16 := n16; have t_c19 := neI c19; have : (2 : Int32).toInt = 2 := qI_2; omega))
              refine va_calll (va_runS (As := [.int (nI N)]) (rest := [.long y9]) ⟨hx, hb, hml, hown, hg⟩ (c_X11_power l dC dI G _ N hN) (kwS hg mfX11_power wt_1131 ⟨Nat.le_of_ble_eq_true rfl, Nat.le_of_ble_eq_true rfl⟩) (preSR hK hPc) rfl rfl hl.1 rfl (lv_room (Nat.le_of_ble_eq_true rfl)) dX11_drop_121 ⟨Nat.le_of_ble_eq_true rfl, Nat.le_of_ble_eq_true rfl⟩) hS (fun q h1 h2 => absurd h2 (Nat.not_le.mpr h1)) (fun q h => hA q (Nat.le_trans hS.1 h)) (fun r20 ur20 t H1 locs ht hvm w21 hB hz1 hk1 hS => ?_)
              have hP := keepR hP hk1
              obtain ⟨w21, w21x⟩ := w21
              subst w21
              refine lv_iload_n hx hb dX11_drop_124 rfl (lv_at hl 4 rfl) ?_
              have hPc := hP.sub (ws' := []) [] rfl
              refine va_calll (va_runS (As := [.long y9, .long (powF N), .int what]) (rest := []) ⟨hx, hb, hml, hown, hg⟩ (c_X11_lowest l dC dI G _ what y9 (powF N) (powF_ne (by have t_b4 := b4; have t_n6 := n6; have t_hj14 := hj14; have t_n16 := n16; have t_c19 := neI c19; have : (2 : Int32).toInt = 2 := qI_2; have t_n0 : (nI N).toInt = (N : Int) := tn999_ (); have t_n1 : (nI B).toInt = (B : Int) := tn1001_ (); have t_n2 : (nI T).toInt = (T : Int) := tn1002_ (); have t_n3 : (nI S).toInt = (S : Int) := tn1003_ (); have t_n4 : (nI M).toInt = (M : Int) := tn1004_ (); have t_n5 : (nI j7).toInt = (j7 : Int) := tn1000_ (); omega))) (kwS hg mfX11_lowest wt_1134 ⟨Nat.le_of_ble_eq_true rfl, Nat.le_of_ble_eq_true rfl⟩) (preSR hK hPc) rfl rfl hl.1 rfl (lv_room (Nat.le_of_ble_eq_true rfl)) dX11_drop_125 ⟨Nat.le_of_ble_eq_true rfl, Nat.le_of_ble_eq_true rfl⟩) hS (fun q h1 h2 => absurd h2 (Nat.not_le.mpr h1)) (fun q h => hA q (Nat.le_trans hS.1 h)) (fun r22 ur22 t H1 locs ht hvm w23 hB hz1 hk1 hS => ?_)
              have hP := keepR hP hk1
              obtain ⟨w23, w23x⟩ := w23
              exact cut128_18 r22 _ _ hP hD hS ls (lv_sub hl [0, 1, 2, 3, 4] rfl)
            · skip
              refine lv_iload hx hb dX11_drop_110 (lv_at hl 1 rfl) ?_
              refine lv_i2l (v := y8.toInt64) hx hb dX11_drop_112 rfl ?_
              refine lv_goto (tgt := 128) hx hb dX11_drop_113 (by decide) ?_
              exact cut128_18 y8.toInt64 _ _ hP hD hS ls (lv_sub hl [0, 1, 2, 3, 4] rfl)
          · skip
            have tn1005_ : nIT j7 := fun _ => nI_toInt (by first | omega | (have t := nleI c15; omega))
            have n24 : j7 < N := by have t := nleI c15; rw [show (nI (j7)).toInt = ((j7 : Nat) : Int) from tn1005_ ()] at t; rw [show (nI (N)).toInt = ((N : Nat) : Int) from tn999_ ()] at t; omega
            refine lv_aload_n hx hb dX11_drop_46 rfl (lv_at hl 3 rfl) ?_
            refine lv_aload_n hx hb dX11_drop_47 rfl (lv_at hl 3 rfl) ?_
            refine va_get (D := (dC, dI)) (ci := 11) (v := .int (nI N)) (C := RX11) (T := TX11) (N := 35) hx hb hg inG11 hown hK.1 hP 0 rfl rfl 1 (by decide) (hg _ wt_879) (fun _ h9 => h9) rfl dX11_drop_48 ?_
            refine lv_iconst (v := 0) hx hb dX11_drop_51 (by decide) ?_
            refine lv_iload hx hb dX11_drop_52 (lv_at hl 0 rfl) ?_
            have hPc := hP.sub (ws' := [(h0, .inr (11, [.ref st, .int (nI N), .int (nI B), .ref rp, .int vrs, .int vrb, .int vhs, .int vca, .int vxs, .int vxb, .ref tp, .int (nI T), .int vfa, .int vbr, .int vba, .int vsp, .int vhe, .int vtk, .int vva, .ref cu, .ref lt, .ref od, .ref th, .ref be, .ref ln, .int (nI S), .ref ma, .int (nI M), .ref ah, .ref bh, .ref ik, .ref la, .ref lg, .ref ce, .int vto])), (st, .inl (G 0, 196, .inl fst)), (od, .inl (G 1, 10, .inr (.inl g10))), (th, .inl (G 1, 10, .inr (.inl g11)))]) [0, 1, 2, 3] rfl
            have hDc := hD.sub (ws' := [(h0, .inr (11, [.ref st, .int (nI N), .int (nI B), .ref rp, .int vrs, .int vrb, .int vhs, .int vca, .int vxs, .int vxb, .ref tp, .int (nI T), .int vfa, .int vbr, .int vba, .int vsp, .int vhe, .int vtk, .int vva, .ref cu, .ref lt, .ref od, .ref th, .ref be, .ref ln, .int (nI S), .ref ma, .int (nI M), .ref ah, .ref bh, .ref ik, .ref la, .ref lg, .ref ce, .int vto])), (st, .inl (G 0, 196, .inl fst)), (od, .inl (G 1, 10, .inr (.inl g10))), (th, .inl (G 1, 10, .inr (.inl g11)))]) [0, 1, 2, 3] (by decide) rfl
            have hFc := va_free (wc := [(h0, .inr (11, [.ref st, .int (nI N), .int (nI B), .ref rp, .int vrs, .int vrb, .int vhs, .int vca, .int vxs, .int vxb, .ref tp, .int (nI T), .int vfa, .int vbr, .int vba, .int vsp, .int vhe, .int vtk, .int vva, .ref cu, .ref lt, .ref od, .ref th, .ref be, .ref ln, .int (nI S), .ref ma, .int (nI M), .ref ah, .ref bh, .ref ik, .ref la, .ref lg, .ref ce, .int vto])), (st, .inl (G 0, 196, .inl fst)), (od, .inl (G 1, 10, .inr (.inl g10))), (th, .inl (G 1, 10, .inr (.inl g11)))]) hD hS hA [0, 1, 2, 3] rfl
            have tn1006_ : nIT B := fun _ => nI_toInt (by first | omega | (have t_b4 := b4; have t_n6 := n6; have t_hj14 := hj14; have t_n24 := n24; omega))
            have tn1007_ : nIT T := fun _ => nI_toInt (by first | omega | (have t_b4 := b4; have t_n6 := n6; have t_hj14 := hj14; have t_n24 := n24; omega))
            have tn1008_ : nIT S := fun _ => nI_toInt (by first | omega | (have t_b4 := b4; have t_n6 := n6; have t_hj14 := hj14; have t_n24 := n24; omega))
            have tn1009_ : nIT M := fun _ => nI_toInt (by first | omega | (have t_b4 := b4; have t_n6 := n6; have t_hj14 := hj14; have t_n24 := n24; omega))
            refine va_callv (va_runV (As := [.int (nI N), .int 0, .int (nI j7)]) (rest := []) ⟨hx, hb, hml, hown, hg⟩ (c_X11_layOdds l dC dI G _ h0 N st N B rp tp T cu lt od th be ln S ma M ah bh ik la lg ce 0 (nI j7) vrs vrb vhs vca vxs vxb vfa vbr vba vsp vhe vtk vva vto fst g10 g11 hN hB_ hT_ hS0 hM_ hst hN) (kwV hg mfX11_layOdds wt_1119 ⟨Nat.le_of_ble_eq_true rfl, Nat.le_of_ble_eq_true rfl⟩) (preVW hK hPc hDc (ci := 11) rfl rfl) rfl rfl hl.1 rfl (lv_room (Nat.le_of_ble_eq_true rfl)) dX11_drop_54 ⟨Nat.le_of_ble_eq_true rfl, Nat.le_of_ble_eq_true rfl⟩) hS (fun q _ h => hFc q h) hFc (fun ur25 t H1 locs ht hvm w26 hB hz1 hk1 hS => ?_)
            obtain ⟨u27, u28⟩ := ur25
            obtain ⟨hP1, hD1⟩ := hB
            rw [ht] at hP1
            obtain ⟨hP, hD⟩ := va_join (wr := []) (w1 := [(h0, .inr (11, [.ref st, .int (nI N), .int (nI B), .ref rp, .int vrs, .int vrb, .int vhs, .int vca, .int vxs, .int vxb, .ref tp, .int (nI T), .int vfa, .int vbr, .int vba, .int vsp, .int vhe, .int vtk, .int vva, .ref cu, .ref lt, .ref od, .ref th, .ref be, .ref ln, .int (nI S), .ref ma, .int (nI M), .ref ah, .ref bh, .ref ik, .ref la, .ref lg, .ref ce, .int vto])), (st, .inl (G 0, 196, .inl fst)), (od, .inl (G 1, 10, .inr (.inl u27))), (th, .inl (G 1, 10, .inr (.inl u28)))]) hP hD [0, 1, 2, 3] [] rfl rfl (by decide) (by decide) hk1 hFc hP1 hD1
            generalize H1 = H at hP hS ⊢
            have hP : va_P (dC, dI) vwCl [(h0, .inr (11, [.ref st, .int (nI N), .int (nI B), .ref rp, .int vrs, .int vrb, .int vhs, .int vca, .int vxs, .int vxb, .ref tp, .int (nI T), .int vfa, .int vbr, .int vba, .int vsp, .int vhe, .int vtk, .int vva, .ref cu, .ref lt, .ref od, .ref th, .ref be, .ref ln, .int (nI S), .ref ma, .int (nI M), .ref ah, .ref bh, .ref ik, .ref la, .ref lg, .ref ce, .int vto])), (st, .inl (G 0, 196, .inl fst)), (od, .inl (G 1, 10, .inr (.inl u27))), (th, .inl (G 1, 10, .inr (.inl u28)))] H := hP
            have hD : va_D A [(h0, .inr (11, [.ref st, .int (nI N), .int (nI B), .ref rp, .int vrs, .int vrb, .int vhs, .int vca, .int vxs, .int vxb, .ref tp, .int (nI T), .int vfa, .int vbr, .int vba, .int vsp, .int vhe, .int vtk, .int vva, .ref cu, .ref lt, .ref od, .ref th, .ref be, .ref ln, .int (nI S), .ref ma, .int (nI M), .ref ah, .ref bh, .ref ik, .ref la, .ref lg, .ref ce, .int vto])), (st, .inl (G 0, 196, .inl fst)), (od, .inl (G 1, 10, .inr (.inl u27))), (th, .inl (G 1, 10, .inr (.inl u28)))] := hD
            refine lv_aload_n hx hb dX11_drop_57 rfl (lv_at hl 3 rfl) ?_
            refine va_get (D := (dC, dI)) (ci := 11) (v := .ref od) (C := RX11) (T := TX11) (N := 35) hx hb hg inG11 hown hK.1 hP 0 rfl rfl 21 (by decide) (hg _ wt_899) (fun _ h9 => h9) rfl dX11_drop_58 ?_
            refine lv_iconst (v := 0) hx hb dX11_drop_61 (by decide) ?_
            refine va_lald hx hb hK.1 hP 2 1 rfl rfl (vp_in_iff.mpr ⟨by decide, by decide⟩) dX11_drop_62 ?_
            refine lv_cgl (y := u27 0) (by rfl) ?_
            refine lv_lload_n hx hb dX11_drop_63 rfl (lv_at hl 2 rfl) ?_
            refine W.lcmp hx hb dX11_drop_64 ?_
            have cut75_30 : ∀ (y29 : Int32) (H : Heap) (locs : List Loc), va_P (dC, dI) vwCl [(h0, .inr (11, [.ref st, .int (nI N), .int (nI B), .ref rp, .int vrs, .int vrb, .int vhs, .int vca, .int vxs, .int vxb, .ref tp, .int (nI T), .int vfa, .int vbr, .int vba, .int vsp, .int vhe, .int vtk, .int vva, .ref cu, .ref lt, .ref od, .ref th, .ref be, .ref ln, .int (nI S), .ref ma, .int (nI M), .ref ah, .ref bh, .ref ik, .ref la, .ref lg, .ref ce, .int vto])), (st, .inl (G 0, 196, .inl fst)), (od, .inl (G 1, 10, .inr (.inl u27))), (th, .inl (G 1, 10, .inr (.inl u28)))] H → va_D A [(h0, .inr (11, [.ref st, .int (nI N), .int (nI B), .ref rp, .int vrs, .int vrb, .int vhs, .int vca, .int vxs, .int vxb, .ref tp, .int (nI T), .int vfa, .int vbr, .int vba, .int vsp, .int vhe, .int vtk, .int vva, .ref cu, .ref lt, .ref od, .ref th, .ref be, .ref ln, .int (nI S), .ref ma, .int (nI M), .ref ah, .ref bh, .ref ik, .ref la, .ref lg, .ref ce, .int vto])), (st, .inl (G 0, 196, .inl fst)), (od, .inl (G 1, 10, .inr (.inl u27))), (th, .inl (G 1, 10, .inr (.inl u28)))] → va_S A s.heap H locs → ∀ (ls : Array Slot), lv_has ls 6 [(5, .int (nI j7)), (4, .int y8), (2, .long y9), (0, .ref h0), (1, .int what)] → W p l e (headSpec (Cond.code yX11_drop cX11_drop 6 (some .long) :: GT) ({ frames := 4, cells := 0, slots := 0, locals := 99 } : Room)).room s m ([.ref h0, .int what] : List Value).toArray below meth c H locs 0 0 (MQ below (va_Ql (fun (r : Int64) (u : (Nat → Int64) × (Nat → Int64)) => match u with | (ood, oth) => (True) ∧ True) (fun (u : (Nat → Int64) × (Nat → Int64)) (t : State) => match u with | (ood, oth) => va_P (dC, dI) vwCl [(h0, .inr (11, [.ref st, .int (nI N), .int (nI B), .ref rp, .int vrs, .int vrb, .int vhs, .int vca, .int vxs, .int vxb, .ref tp, .int (nI T), .int vfa, .int vbr, .int vba, .int vsp, .int vhe, .int vtk, .int vva, .ref cu, .ref lt, .ref od, .ref th, .ref be, .ref ln, .int (nI S), .ref ma, .int (nI M), .ref ah, .ref bh, .ref ik, .ref la, .ref lg, .ref ce, .int vto])), (st, .inl (G 0, 196, .inl fst)), (od, .inl (G 1, 10, .inr (.inl ood))), (th, .inl (G 1, 10, .inr (.inl oth)))] t.heap ∧ va_D A [(h0, .inr (11, [.ref st, .int (nI N), .int (nI B), .ref rp, .int vrs, .int vrb, .int vhs, .int vca, .int vxs, .int vxb, .ref tp, .int (nI T), .int vfa, .int vbr, .int vba, .int vsp, .int vhe, .int vtk, .int vva, .ref cu, .ref lt, .ref od, .ref th, .ref be, .ref ln, .int (nI S), .ref ma, .int (nI M), .ref ah, .ref bh, .ref ik, .ref la, .ref lg, .ref ce, .int vto])), (st, .inl (G 0, 196, .inl fst)), (od, .inl (G 1, 10, .inr (.inl ood))), (th, .inl (G 1, 10, .inr (.inl oth)))]) A) ([.ref h0, .int what] : List Value).toArray s 0 0 A) (F0 m 75 ls [.int y29]) := by
              intro y29 H locs hP hD hS ls hl
              refine lv_istore (lv' := [(4, .int y29), (5, .int (nI j7)), (2, .long y9), (0, .ref h0), (1, .int what)]) hx hb dX11_drop_75 hl (by decide) rfl (fun ls hl => ?_)
              refine lv_aload_n hx hb dX11_drop_77 rfl (lv_at hl 3 rfl) ?_
              refine va_get (D := (dC, dI)) (ci := 11) (v := .ref od) (C := RX11) (T := TX11) (N := 35) hx hb hg inG11 hown hK.1 hP 0 rfl rfl 21 (by decide) (hg _ wt_899) (fun _ h9 => h9) rfl dX11_drop_78 ?_
              refine lv_iconst (v := 0) hx hb dX11_drop_81 (by decide) ?_
              refine va_lald hx hb hK.1 hP 2 1 rfl rfl (vp_in_iff.mpr ⟨by decide, by decide⟩) dX11_drop_82 ?_
              refine lv_cgl (y := u27 0) (by rfl) ?_
              refine lv_lload_n hx hb dX11_drop_83 rfl (lv_at hl 2 rfl) ?_
              refine W.lcmp hx hb dX11_drop_84 ?_
              have cut98_32 : ∀ (y31 : Int64) (H : Heap) (locs : List Loc), va_P (dC, dI) vwCl [(h0, .inr (11, [.ref st, .int (nI N), .int (nI B), .ref rp, .int vrs, .int vrb, .int vhs, .int vca, .int vxs, .int vxb, .ref tp, .int (nI T), .int vfa, .int vbr, .int vba, .int vsp, .int vhe, .int vtk, .int vva, .ref cu, .ref lt, .ref od, .ref th, .ref be, .ref ln, .int (nI S), .ref ma, .int (nI M), .ref ah, .ref bh, .ref ik, .ref la, .ref lg, .ref ce, .int vto])), (st, .inl (G 0, 196, .inl fst)), (od, .inl (G 1, 10, .inr (.inl u27))), (th, .inl (G 1, 10, .inr (.inl u28)))] H → va_D A [(h0, .inr (11, [.ref st, .int (nI N), .int (nI B), .ref rp, .int vrs, .int vrb, .int vhs, .int vca, .int vxs, .int vxb, .ref tp, .int (nI T), .int vfa, .int vbr, .int vba, .int vsp, .int vhe, .int vtk, .int vva, .ref cu, .ref lt, .ref od, .ref th, .ref be, .ref ln, .int (nI S), .ref ma, .int (nI M), .ref ah, .ref bh, .ref ik, .ref la, .ref lg, .ref ce, .int vto])), (st, .inl (G 0, 196, .inl fst)), (od, .inl (G 1, 10, .inr (.inl u27))), (th, .inl (G 1, 10, .inr (.inl u28)))] → va_S A s.heap H locs → ∀ (ls : Array Slot), lv_has ls 6 [(4, .int y29), (5, .int (nI j7)), (2, .long y9), (0, .ref h0), (1, .int what)] → W p l e (headSpec (Cond.code yX11_drop cX11_drop 6 (some .long) :: GT) ({ frames := 4, cells := 0, slots := 0, locals := 99 } : Room)).room s m ([.ref h0, .int what] : List Value).toArray below meth c H locs 0 0 (MQ below (va_Ql (fun (r : Int64) (u : (Nat → Int64) × (Nat → Int64)) => match u with | (ood, oth) => (True) ∧ True) (fun (u : (Nat → Int64) × (Nat → Int64)) (t : State) => match u with | (ood, oth) => va_P (dC, dI) vwCl [(h0, .inr (11, [.ref st, .int (nI N), .int (nI B), .ref rp, .int vrs, .int vrb, .int vhs, .int vca, .int vxs, .int vxb, .ref tp, .int (nI T), .int vfa, .int vbr, .int vba, .int vsp, .int vhe, .int vtk, .int vva, .ref cu, .ref lt, .ref od, .ref th, .ref be, .ref ln, .int (nI S), .ref ma, .int (nI M), .ref ah, .ref bh, .ref ik, .ref la, .ref lg, .ref ce, .int vto])), (st, .inl (G 0, 196, .inl fst)), (od, .inl (G 1, 10, .inr (.inl ood))), (th, .inl (G 1, 10, .inr (.inl oth)))] t.heap ∧ va_D A [(h0, .inr (11, [.ref st, .int (nI N), .int (nI B), .ref rp, .int vrs, .int vrb, .int vhs, .int vca, .int vxs, .int vxb, .ref tp, .int (nI T), .int vfa, .int vbr, .int vba, .int vsp, .int vhe, .int vtk, .int vva, .ref cu, .ref lt, .ref od, .ref th, .ref be, .ref ln, .int (nI S), .ref ma, .int (nI M), .ref ah, .ref bh, .ref ik, .ref la, .ref lg, .ref ce, .int vto])), (st, .inl (G 0, 196, .inl fst)), (od, .inl (G 1, 10, .inr (.inl ood))), (th, .inl (G 1, 10, .inr (.inl oth)))]) A) ([.ref h0, .int what] : List Value).toArray s 0 0 A) (F0 m 98 ls [.long y31]) := by
                intro y31 H locs hP hD hS ls hl
                refine lv_lstore_n (lv' := [(2, .long y31), (4, .int y29), (5, .int (nI j7)), (0, .ref h0), (1, .int what)]) hx hb dX11_drop_98 rfl hl (by decide) rfl (fun ls hl => ?_)
                refine lv_iinc (v := nI (j7 + 1)) (lv' := [(5, .int (nI (j7 + 1))), (2, .long y31), (4, .int y29), (0, .ref h0), (1, .int what)]) hx hb dX11_drop_99 hl (k := 2) rfl (by rw [show Int32.ofInt 1 = nI 1 from by decide]; exact nI_add _ _) (by decide) rfl (fun ls hl => ?_)
                refine lv_goto (tgt := 37) hx hb dX11_drop_102 (by decide) ?_
                exact ih37_12 (j7 + 1) (by omega) (by omega) y29 y31 u27 u28 _ _ hP hD hS ls (lv_sub hl [0, 2, 1, 3, 4] rfl)
              refine lv_if_ge (tgt := 97) hx hb dX11_drop_85 (by decide) (fun c33 => ?_) (fun c33 => ?_)
              · skip
                refine lv_lload_n hx hb dX11_drop_97 rfl (lv_at hl 2 rfl) ?_
                exact cut98_32 y9 _ _ hP hD hS ls (lv_sub hl [0, 1, 2, 3, 4] rfl)
              · skip
                refine lv_aload_n hx hb dX11_drop_88 rfl (lv_at hl 3 rfl) ?_
                refine va_get (D := (dC, dI)) (ci := 11) (v := .ref od) (C := RX11) (T := TX11) (N := 35) hx hb hg inG11 hown hK.1 hP 0 rfl rfl 21 (by decide) (hg _ wt_899) (fun _ h9 => h9) rfl dX11_drop_89 ?_
                refine lv_iconst (v := 0) hx hb dX11_drop_92 (by decide) ?_
                refine va_lald hx hb hK.1 hP 2 1 rfl rfl (vp_in_iff.mpr ⟨by decide, by decide⟩) dX11_drop_93 ?_
                refine lv_cgl (y := u27 0) (by rfl) ?_
                refine lv_goto (tgt := 98) hx hb dX11_drop_94 (by decide) ?_
                exact cut98_32 (u27 0) _ _ hP hD hS ls (lv_sub hl [0, 1, 2, 3, 4] rfl)
            refine lv_if_ge (tgt := 73) hx hb dX11_drop_65 (by decide) (fun c34 => ?_) (fun c34 => ?_)
            · skip
              refine lv_iload hx hb dX11_drop_73 (lv_at hl 1 rfl) ?_
              exact cut75_30 y8 _ _ hP hD hS ls (lv_sub hl [0, 1, 2, 3, 4] rfl)
            · skip
              refine lv_iload hx hb dX11_drop_68 (lv_at hl 0 rfl) ?_
              refine lv_goto (tgt := 75) hx hb dX11_drop_70 (by decide) ?_
              exact cut75_30 (nI j7) _ _ hP hD hS ls (lv_sub hl [0, 1, 2, 3, 4] rfl)
      exact loop37_12 (N + 1) 0 (by omega) (by omega) 0 4000000000000000000 fod fth _ _ hP hD hS ls (lv_sub hl [0, 1, 2, 3, 4] rfl)
    · skip
      have tn1010_ : nIT N := fun _ => nI_toInt (by first | omega | (have t := eqI c5; omega))
      have n35 : N = 0 := by have t := eqI c5; rw [show (nI (N)).toInt = ((N : Nat) : Int) from tn1010_ ()] at t; have : (0 : Int32).toInt = 0 := qI_0; omega
      refine lv_ldc2 (v := (-2)) hx hb hown (hg _ wt_1170) dX11_drop_23 ?_
      have hpost : True := by
        trivial
      have hP9 := hP.sub (ws' := [(h0, .inr (11, [.ref st, .int (nI N), .int (nI B), .ref rp, .int vrs, .int vrb, .int vhs, .int vca, .int vxs, .int vxb, .ref tp, .int (nI T), .int vfa, .int vbr, .int vba, .int vsp, .int vhe, .int vtk, .int vva, .ref cu, .ref lt, .ref od, .ref th, .ref be, .ref ln, .int (nI S), .ref ma, .int (nI M), .ref ah, .ref bh, .ref ik, .ref la, .ref lg, .ref ce, .int vto])), (st, .inl (G 0, 196, .inl fst)), (od, .inl (G 1, 10, .inr (.inl fod))), (th, .inl (G 1, 10, .inr (.inl fth)))]) [0, 1, 2, 3] rfl
      have hD9 := hD.sub (ws' := [(h0, .inr (11, [.ref st, .int (nI N), .int (nI B), .ref rp, .int vrs, .int vrb, .int vhs, .int vca, .int vxs, .int vxb, .ref tp, .int (nI T), .int vfa, .int vbr, .int vba, .int vsp, .int vhe, .int vtk, .int vva, .ref cu, .ref lt, .ref od, .ref th, .ref be, .ref ln, .int (nI S), .ref ma, .int (nI M), .ref ah, .ref bh, .ref ik, .ref la, .ref lg, .ref ce, .int vto])), (st, .inl (G 0, 196, .inl fst)), (od, .inl (G 1, 10, .inr (.inl fod))), (th, .inl (G 1, 10, .inr (.inl fth)))]) [0, 1, 2, 3] (by decide) rfl
      refine W.widen (k := 0) (n := 0) (Nat.le_of_ble_eq_true rfl) (Nat.le_of_ble_eq_true rfl) ?_
      exact W.lret (v := (-2)) hx hb hr (fun t ht hW => ⟨⟨(-2), (fod, fth), rfl, ⟨hpost, trivial⟩, ⟨by rw [ht]; exact hP9, hD9⟩⟩, hS.F ht⟩) hS.2.2 dX11_drop_26
  · skip
    have b36 := if10_n c3
    refine lv_ldc2 (v := (-1)) hx hb hown (hg _ wt_1118) dX11_drop_12 ?_
    have hpost : True := by
      trivial
    have hP9 := hP.sub (ws' := [(h0, .inr (11, [.ref st, .int (nI N), .int (nI B), .ref rp, .int vrs, .int vrb, .int vhs, .int vca, .int vxs, .int vxb, .ref tp, .int (nI T), .int vfa, .int vbr, .int vba, .int vsp, .int vhe, .int vtk, .int vva, .ref cu, .ref lt, .ref od, .ref th, .ref be, .ref ln, .int (nI S), .ref ma, .int (nI M), .ref ah, .ref bh, .ref ik, .ref la, .ref lg, .ref ce, .int vto])), (st, .inl (G 0, 196, .inl fst)), (od, .inl (G 1, 10, .inr (.inl fod))), (th, .inl (G 1, 10, .inr (.inl fth)))]) [0, 1, 2, 3] rfl
    have hD9 := hD.sub (ws' := [(h0, .inr (11, [.ref st, .int (nI N), .int (nI B), .ref rp, .int vrs, .int vrb, .int vhs, .int vca, .int vxs, .int vxb, .ref tp, .int (nI T), .int vfa, .int vbr, .int vba, .int vsp, .int vhe, .int vtk, .int vva, .ref cu, .ref lt, .ref od, .ref th, .ref be, .ref ln, .int (nI S), .ref ma, .int (nI M), .ref ah, .ref bh, .ref ik, .ref la, .ref lg, .ref ce, .int vto])), (st, .inl (G 0, 196, .inl fst)), (od, .inl (G 1, 10, .inr (.inl fod))), (th, .inl (G 1, 10, .inr (.inl fth)))]) [0, 1, 2, 3] (by decide) rfl
    refine W.widen (k := 0) (n := 0) (Nat.le_of_ble_eq_true rfl) (Nat.le_of_ble_eq_true rfl) ?_
    exact W.lret (v := (-1)) hx hb hr (fun t ht hW => ⟨⟨(-1), (fod, fth), rfl, ⟨hpost, trivial⟩, ⟨by rw [ht]; exact hP9, hD9⟩⟩, hS.F ht⟩) hS.2.2 dX11_drop_15

set_option maxHeartbeats 1000000 in
set_option maxRecDepth 100000 in
theorem c_X11_carry (l : Launch) (dC : Nat → ClassId) (dI : Nat → Nat → Nat) (G : Nat → ClassId) (sz : Nat) (h0 st N B rp tp T cu lt od th be ln S ma M ah bh ik la lg ce : Nat) (sd what vrs vrb vhs vca vxs vxb vfa vbr vba vsp vhe vtk vva vto : Int32) (fst : Nat → Int32) (hN : N ≤ 10) (hB : B ≤ 6) (hT : T ≤ 320) (hS0 : S ≤ 8) (hM : M ≤ 6) (hst : OKS fst) : Met l yX11_carry (Cond.code yX11_carry cX11_carry 9 (some .int) :: GT) ({ frames := 3, cells := 0, slots := 0, locals := 72 } : Room) (PcR [.ref h0, .int sd, .int what] dC dI G [(h0, .inr (11, [.ref st, .int (nI N), .int (nI B), .ref rp, .int vrs, .int vrb, .int vhs, .int vca, .int vxs, .int vxb, .ref tp, .int (nI T), .int vfa, .int vbr, .int vba, .int vsp, .int vhe, .int vtk, .int vva, .ref cu, .ref lt, .ref od, .ref th, .ref be, .ref ln, .int (nI S), .ref ma, .int (nI M), .ref ah, .ref bh, .ref ik, .ref la, .ref lg, .ref ce, .int vto])), (st, .inl (G 0, 196, .inl fst))] sz) (va_Qi (fun (r : Int32) (u : Unit) => match u with | _ => (True) ∧ True) (fun _ _ => True) (fun q : Nat => sz ≤ q)) 0 0 (fun q : Nat => sz ≤ q) := by
  have hB_ := hB
  have hM_ := hM
  have hT_ := hT
  refine Met.ofW (cc := cX11_carry) (maxL := 9) (ret := (some .int)) (by decide) rfl ?_
  intro p e s m args below meth c s₁ Bd hml hv
  obtain ⟨rfl, hsz, hP, hK⟩ := hv
  have hx := Bd.exec
  have hb := Bd.bytes
  have hr := Bd.returns
  have hg : ∀ w ∈ GT, w.before ([.ref h0, .int sd, .int what] : List Value).toArray s = true := fun w h => atoms_spec (ws := Cond.code yX11_carry cX11_carry 9 (some .int) :: GT) Bd.pre w (List.mem_cons_of_mem _ h)
  have hown : s.vm.findClass RX11 = some m.cls := findClass_of_methodNamed Bd.named
  have hlocks := Bd.notSynchronized
  subst hsz
  have hA : ∀ q : Nat, s.heap.size ≤ q → (fun q : Nat => s.heap.size ≤ q) q := fun _ h => h
  have hS : va_S (fun q : Nat => s.heap.size ≤ q) s.heap s.heap [] := va_S.rf
  have hl := lv_entry ([.ref h0, .int sd, .int what]) (n := 9) (Nat.le_of_ble_eq_true rfl)
  rw [lg_entry_eq]
  generalize (lg_sl ([.ref h0, .int sd, .int what]) ++ List.replicate (9 - (lg_sl ([.ref h0, .int sd, .int what])).length) Slot.unset).toArray = ls at hl ⊢
  have hl : lv_has ls 9 [(0, .ref h0), (1, .int sd), (2, .int what)] := hl
  refine lv_iload_n hx hb dX11_carry_0 rfl (lv_at hl 2 rfl) ?_
  refine lv_i2l (v := what.toInt64) hx hb dX11_carry_1 rfl ?_
  refine lv_lconst (v := 0) hx hb dX11_carry_2 (by decide) ?_
  refine lv_ldc2 (v := 2) hx hb hown (hg _ wt_1056) dX11_carry_3 ?_
  have hPc := hP.sub (ws' := []) [] rfl
  refine va_calli (va_runS (As := [.long what.toInt64, .long 0, .long 2]) (rest := []) ⟨hx, hb, hml, hown, hg⟩ (c_X11_in l dC dI G _ what.toInt64 0 2) (kwS hg mfX11_in wt_992 ⟨Nat.le_of_ble_eq_true rfl, Nat.le_of_ble_eq_true rfl⟩) (preSR hK hPc) rfl rfl hl.1 rfl (lv_room (Nat.le_of_ble_eq_true rfl)) dX11_carry_6 ⟨Nat.le_of_ble_eq_true rfl, Nat.le_of_ble_eq_true rfl⟩) hS (fun q h1 h2 => absurd h2 (Nat.not_le.mpr h1)) (fun q h => hA q (Nat.le_trans hS.1 h)) (fun r1 ur1 t H1 locs ht hvm w2 hB hz1 hk1 hS => ?_)
  have hP := keepR hP hk1
  obtain ⟨w2, w2x⟩ := w2
  try simp only [l_ii, show (0 : Int64).toInt = 0 from by decide, show (2 : Int64).toInt = 2 from by decide] at w2
  subst w2
  refine lv_if_ne (tgt := 14) hx hb dX11_carry_9 (by decide) (fun c3 => ?_) (fun c3 => ?_)
  · skip
    have b4 := if10_p c3
    refine lv_iload_n hx hb dX11_carry_14 rfl (lv_at hl 1 rfl) ?_
    refine lv_istore_n (lv' := [(3, .int sd), (0, .ref h0), (1, .int sd), (2, .int what)]) hx hb dX11_carry_15 rfl hl (by decide) rfl (fun ls hl => ?_)
    refine lv_aload_n hx hb dX11_carry_16 rfl (lv_at hl 1 rfl) ?_
    have hPc := hP.sub (ws' := [(h0, .inr (11, [.ref st, .int (nI N), .int (nI B), .ref rp, .int vrs, .int vrb, .int vhs, .int vca, .int vxs, .int vxb, .ref tp, .int (nI T), .int vfa, .int vbr, .int vba, .int vsp, .int vhe, .int vtk, .int vva, .ref cu, .ref lt, .ref od, .ref th, .ref be, .ref ln, .int (nI S), .ref ma, .int (nI M), .ref ah, .ref bh, .ref ik, .ref la, .ref lg, .ref ce, .int vto])), (st, .inl (G 0, 196, .inl fst))]) [0, 1] rfl
    have tn1027_ : nIT N := fun _ => nI_toInt (by first | omega | (have t_b4 := b4; omega))
    have tn1028_ : nIT B := fun _ => nI_toInt (by first | omega | (have t_b4 := b4; omega))
    have tn1029_ : nIT T := fun _ => nI_toInt (by first | omega | (have t_b4 := b4; omega))
    have tn1030_ : nIT S := fun _ => nI_toInt (by first | omega | (have t_b4 := b4; omega))
    have tn1031_ : nIT M := fun _ => nI_toInt (by first | omega | (have t_b4 := b4; omega))
    refine va_calli (va_runV (As := []) (rest := []) ⟨hx, hb, hml, hown, hg⟩ (c_X11_startNow l dC dI G _ h0 st N B rp tp T cu lt od th be ln S ma M ah bh ik la lg ce vrs vrb vhs vca vxs vxb vfa vbr vba vsp vhe vtk vva vto fst hN hB_ hT_ hS0 hM_ hst) (kwV hg mfX11_startNow wt_1044 ⟨Nat.le_of_ble_eq_true rfl, Nat.le_of_ble_eq_true rfl⟩) (preVR hK hPc (ci := 11) rfl rfl) rfl rfl hl.1 rfl (lv_room (Nat.le_of_ble_eq_true rfl)) dX11_carry_17 ⟨Nat.le_of_ble_eq_true rfl, Nat.le_of_ble_eq_true rfl⟩) hS (fun q h1 h2 => absurd h2 (Nat.not_le.mpr h1)) (fun q h => hA q (Nat.le_trans hS.1 h)) (fun r5 ur5 t H1 locs ht hvm w6 hB hz1 hk1 hS => ?_)
    have hP := keepR hP hk1
    obtain ⟨w6, w6x⟩ := w6
    obtain ⟨k7, w6, w6a, w6b⟩ := w6
    subst w6
    refine lv_istore (lv' := [(4, .int (nI k7)), (3, .int sd), (0, .ref h0), (1, .int sd), (2, .int what)]) hx hb dX11_carry_20 hl (by decide) rfl (fun ls hl => ?_)
    refine lv_iconst (v := 0) hx hb dX11_carry_22 (by decide) ?_
    refine lv_istore (lv' := [(5, .int 0), (4, .int (nI k7)), (3, .int sd), (0, .ref h0), (1, .int sd), (2, .int what)]) hx hb dX11_carry_23 hl (by decide) rfl (fun ls hl => ?_)
    refine lv_bipush (v := (-4)) hx hb dX11_carry_25 (by decide) ?_
    refine lv_istore (lv' := [(6, .int (-4)), (5, .int 0), (4, .int (nI k7)), (3, .int sd), (0, .ref h0), (1, .int sd), (2, .int what)]) hx hb dX11_carry_27 hl (by decide) rfl (fun ls hl => ?_)
    refine lv_iconst (v := 0) hx hb dX11_carry_29 (by decide) ?_
    refine lv_istore (lv' := [(7, .int 0), (6, .int (-4)), (5, .int 0), (4, .int (nI k7)), (3, .int sd), (0, .ref h0), (1, .int sd), (2, .int what)]) hx hb dX11_carry_30 hl (by decide) rfl (fun ls hl => ?_)
    have loop32_14 : ∀ (nf j8 : Nat), N + 1 ≤ j8 + nf → j8 ≤ N → ∀ (y9 : Int32) (y10 : Int32) (k12 : Nat) (y13 : Int32) (H : Heap) (locs : List Loc), k12 ≤ 9 → va_P (dC, dI) vwCl [(h0, .inr (11, [.ref st, .int (nI N), .int (nI B), .ref rp, .int vrs, .int vrb, .int vhs, .int vca, .int vxs, .int vxb, .ref tp, .int (nI T), .int vfa, .int vbr, .int vba, .int vsp, .int vhe, .int vtk, .int vva, .ref cu, .ref lt, .ref od, .ref th, .ref be, .ref ln, .int (nI S), .ref ma, .int (nI M), .ref ah, .ref bh, .ref ik, .ref la, .ref lg, .ref ce, .int vto])), (st, .inl (G 0, 196, .inl fst))] H → va_S (fun q : Nat => s.heap.size ≤ q) s.heap H locs → ∀ (ls : Array Slot), lv_has ls 9 [(7, .int (nI j8)), (6, .int y9), (5, .int y10), (4, .int (nI k12)), (3, .int y13), (0, .ref h0), (1, .int sd), (2, .int what)] → W p l e (headSpec (Cond.code yX11_carry cX11_carry 9 (some .int) :: GT) ({ frames := 3, cells := 0, slots := 0, locals := 72 } : Room)).room s m ([.ref h0, .int sd, .int what] : List Value).toArray below meth c H locs 0 0 (MQ below (va_Qi (fun (r : Int32) (u : Unit) => match u with | _ => (True) ∧ True) (fun _ _ => True) (fun q : Nat => s.heap.size ≤ q)) ([.ref h0, .int sd, .int what] : List Value).toArray s 0 0 (fun q : Nat => s.heap.size ≤ q)) (F0 m 32 ls []) := by
      intro nf
      induction nf with
      | zero => intro j8 h1 h2; exact absurd h1 (by omega)
      | succ nf ih32_14 =>
        intro j8 hn15 hj16 y9 y10 k12 y13 H locs hinv hP hS ls hl
        refine lv_iload hx hb dX11_carry_32 (lv_at hl 0 rfl) ?_
        refine lv_aload_n hx hb dX11_carry_34 rfl (lv_at hl 5 rfl) ?_
        refine va_get (D := (dC, dI)) (ci := 11) (v := .int (nI N)) (C := RX11) (T := TX11) (N := 35) hx hb hg inG11 hown hK.1 hP 0 rfl rfl 1 (by decide) (hg _ wt_879) (fun _ h9 => h9) rfl dX11_carry_35 ?_
        have cut138_17 : ∀ (H : Heap) (locs : List Loc), va_P (dC, dI) vwCl [(h0, .inr (11, [.ref st, .int (nI N), .int (nI B), .ref rp, .int vrs, .int vrb, .int vhs, .int vca, .int vxs, .int vxb, .ref tp, .int (nI T), .int vfa, .int vbr, .int vba, .int vsp, .int vhe, .int vtk, .int vva, .ref cu, .ref lt, .ref od, .ref th, .ref be, .ref ln, .int (nI S), .ref ma, .int (nI M), .ref ah, .ref bh, .ref ik, .ref la, .ref lg, .ref ce, .int vto])), (st, .inl (G 0, 196, .inl fst))] H → va_S (fun q : Nat => s.heap.size ≤ q) s.heap H locs → ∀ (ls : Array Slot), lv_has ls 9 [(7, .int (nI j8)), (6, .int y9), (5, .int y10), (4, .int (nI k12)), (3, .int y13), (0, .ref h0), (1, .int sd), (2, .int what)] → W p l e (headSpec (Cond.code yX11_carry cX11_carry 9 (some .int) :: GT) ({ frames := 3, cells := 0, slots := 0, locals := 72 } : Room)).room s m ([.ref h0, .int sd, .int what] : List Value).toArray below meth c H locs 0 0 (MQ below (va_Qi (fun (r : Int32) (u : Unit) => match u with | _ => (True) ∧ True) (fun _ _ => True) (fun q : Nat => s.heap.size ≤ q)) ([.ref h0, .int sd, .int what] : List Value).toArray s 0 0 (fun q : Nat => s.heap.size ≤ q)) (F0 m 138 ls []) := by
          intro  H locs hP hS ls hl
          refine lv_iload_n hx hb dX11_carry_138 rfl (lv_at hl 7 rfl) ?_
          have cut159_19 : ∀ (y18 : Int32) (H : Heap) (locs : List Loc), va_P (dC, dI) vwCl [(h0, .inr (11, [.ref st, .int (nI N), .int (nI B), .ref rp, .int vrs, .int vrb, .int vhs, .int vca, .int vxs, .int vxb, .ref tp, .int (nI T), .int vfa, .int vbr, .int vba, .int vsp, .int vhe, .int vtk, .int vva, .ref cu, .ref lt, .ref od, .ref th, .ref be, .ref ln, .int (nI S), .ref ma, .int (nI M), .ref ah, .ref bh, .ref ik, .ref la, .ref lg, .ref ce, .int vto])), (st, .inl (G 0, 196, .inl fst))] H → va_S (fun q : Nat => s.heap.size ≤ q) s.heap H locs → ∀ (ls : Array Slot), lv_has ls 9 [(7, .int (nI j8)), (6, .int y9), (5, .int y10), (4, .int (nI k12)), (3, .int y13), (0, .ref h0), (1, .int sd), (2, .int what)] → W p l e (headSpec (Cond.code yX11_carry cX11_carry 9 (some .int) :: GT) ({ frames := 3, cells := 0, slots := 0, locals := 72 } : Room)).room s m ([.ref h0, .int sd, .int what] : List Value).toArray below meth c H locs 0 0 (MQ below (va_Qi (fun (r : Int32) (u : Unit) => match u with | _ => (True) ∧ True) (fun _ _ => True) (fun q : Nat => s.heap.size ≤ q)) ([.ref h0, .int sd, .int what] : List Value).toArray s 0 0 (fun q : Nat => s.heap.size ≤ q)) (F0 m 159 ls [.int y18]) := by
            intro y18 H locs hP hS ls hl
            have hpost : True := by
              trivial
            refine W.widen (k := 0) (n := 0) (Nat.le_of_ble_eq_true rfl) (Nat.le_of_ble_eq_true rfl) ?_
            exact W.iret (v := y18) hx hb hr (fun t ht hW => ⟨⟨y18, (), rfl, ⟨hpost, trivial⟩, trivial⟩, hS.F ht⟩) hS.2.2 dX11_carry_159
          refine lv_if_ne (tgt := 147) hx hb dX11_carry_139 (by decide) (fun c20 => ?_) (fun c20 => ?_)
          · skip
            refine lv_iload_n hx hb dX11_carry_147 rfl (lv_at hl 7 rfl) ?_
            refine lv_iconst (v := 1) hx hb dX11_carry_148 (by decide) ?_
            refine lv_icmp_ne (tgt := 157) hx hb dX11_carry_149 (by decide) (fun c21 => ?_) (fun c21 => ?_)
            · skip
              refine lv_iload hx hb dX11_carry_157 (lv_at hl 1 rfl) ?_
              exact cut159_19 y9 _ _ hP hS ls (lv_sub hl [0, 1, 2, 3, 4, 5, 6, 7] rfl)
            · skip
              refine lv_iload hx hb dX11_carry_152 (lv_at hl 2 rfl) ?_
              refine lv_goto (tgt := 159) hx hb dX11_carry_154 (by decide) ?_
              exact cut159_19 y10 _ _ hP hS ls (lv_sub hl [0, 1, 2, 3, 4, 5, 6, 7] rfl)
          · skip
            refine lv_iload hx hb dX11_carry_142 (lv_at hl 3 rfl) ?_
            refine lv_goto (tgt := 159) hx hb dX11_carry_144 (by decide) ?_
            exact cut159_19 (nI k12) _ _ hP hS ls (lv_sub hl [0, 1, 2, 3, 4, 5, 6, 7] rfl)
        refine lv_icmp_ge (tgt := 138) hx hb dX11_carry_38 (by decide) (fun c22 => ?_) (fun c22 => ?_)
        · skip
          have tn1032_ : nIT j8 := fun _ => nI_toInt (by first | omega | (have t := leI c22; omega))
          have n23 : N ≤ j8 := by have t := leI c22; rw [show (nI (j8)).toInt = ((j8 : Nat) : Int) from tn1032_ ()] at t; rw [show (nI (N)).toInt = ((N : Nat) : Int) from tn1027_ ()] at t; omega
          exact cut138_17  _ _ hP hS ls (lv_sub hl [0, 1, 2, 3, 4, 5, 6, 7] rfl)
        · skip
          have tn1033_ : nIT j8 := fun _ => nI_toInt (by first | omega | (have t := nleI c22; omega))
          have n24 : j8 < N := by have t := nleI c22; rw [show (nI (j8)).toInt = ((j8 : Nat) : Int) from tn1033_ ()] at t; rw [show (nI (N)).toInt = ((N : Nat) : Int) from tn1027_ ()] at t; omega
          refine lv_iload hx hb dX11_carry_41 (lv_at hl 3 rfl) ?_
          refine lv_if_le (tgt := 138) hx hb dX11_carry_43 (by decide) (fun c25 => ?_) (fun c25 => ?_)
          · skip
            have tn1034_ : nIT k12 := fun _ => nI_toInt (by first | omega | (have t := leI c25; omega))
            have n26 : k12 ≤ 0 := by have t := leI c25; rw [show (nI (k12)).toInt = ((k12 : Nat) : Int) from tn1034_ ()] at t; have : (0 : Int32).toInt = 0 := qI_0; omega
            exact cut138_17  _ _ hP hS ls (lv_sub hl [0, 1, 2, 3, 4, 5, 6, 7] rfl)
          · skip
            have tn1035_ : nIT k12 := fun _ => nI_toInt (by first | omega | (have t := nleI c25; omega))
            have n27 : 0 < k12 := by have t := nleI c25; rw [show (nI (k12)).toInt = ((k12 : Nat) : Int) from tn1035_ ()] at t; have : (0 : Int32).toInt = 0 := qI_0; omega
            refine lv_iload_n hx hb dX11_carry_46 rfl (lv_at hl 4 rfl) ?_
            refine lv_ldc (v := 1103515245) hx hb hown (hg _ wt_1195) dX11_carry_47 ?_
            refine lv_imul hx hb dX11_carry_49 ?_
            refine lv_sipush (v := 12345) hx hb dX11_carry_50 (by decide) ?_
            refine lv_iadd hx hb dX11_carry_53 ?_
            refine lv_topi (fun v28 ev28 => ?_)
            refine lv_istore_n (lv' := [(3, .int v28), (7, .int (nI j8)), (6, .int y9), (5, .int y10), (4, .int (nI k12)), (0, .ref h0), (1, .int sd), (2, .int what)]) hx hb dX11_carry_54 rfl hl (by decide) rfl (fun ls hl => ?_)
            refine lv_iload_n hx hb dX11_carry_55 rfl (lv_at hl 0 rfl) ?_
            refine lv_bipush (v := 16) hx hb dX11_carry_56 (by decide) ?_
            refine lv_ishr hx hb dX11_carry_58 ?_
            refine lv_sipush (v := 32767) hx hb dX11_carry_59 (by decide) ?_
            refine lv_iand hx hb dX11_carry_62 ?_
            refine lv_topi (fun v29 ev29 => ?_)
            refine lv_bipush (v := 20) hx hb dX11_carry_63 (by decide) ?_
            refine lv_irem hx hb dX11_carry_65 (by decide) ?_
            refine lv_aload_n hx hb dX11_carry_66 rfl (lv_at hl 5 rfl) ?_
            refine lv_iload hx hb dX11_carry_67 (lv_at hl 1 rfl) ?_
            refine lv_iconst (v := 0) hx hb dX11_carry_69 (by decide) ?_
            have hPc := hP.sub (ws' := [(h0, .inr (11, [.ref st, .int (nI N), .int (nI B), .ref rp, .int vrs, .int vrb, .int vhs, .int vca, .int vxs, .int vxb, .ref tp, .int (nI T), .int vfa, .int vbr, .int vba, .int vsp, .int vhe, .int vtk, .int vva, .ref cu, .ref lt, .ref od, .ref th, .ref be, .ref ln, .int (nI S), .ref ma, .int (nI M), .ref ah, .ref bh, .ref ik, .ref la, .ref lg, .ref ce, .int vto])), (st, .inl (G 0, 196, .inl fst))]) [0, 1] rfl
            have tn1036_ : nIT k7 := fun _ => nI_toInt (by first | omega | (have t_b4 := b4; have t_w6a := w6a; have t_w6b := w6b; have t_hj16 := hj16; have t_hinv := hinv; have t_n24 := n24; have t_n27 := n27; omega))
            refine va_calli (va_runV (As := [.int (nI j8), .int 0]) (rest := [.int (v29 - v29 / 20 * 20)]) ⟨hx, hb, hml, hown, hg⟩ (c_X11_orderedHarm l dC dI G _ h0 j8 st N B rp tp T cu lt od th be ln S ma M ah bh ik la lg ce 0 vrs vrb vhs vca vxs vxb vfa vbr vba vsp vhe vtk vva vto fst hN hB_ hT_ hS0 hM_ (by first | omega | (have t_b4 := b4; have t_w6a := w6a; have t_w6b := w6b; have t_hj16 := hj16; have t_hinv := hinv; have t_n24 := n24; have t_n27 := n27; have t_n0 : (nI N).toInt = (N : Int) := tn1027_ (); have t_n1 : (nI B).toInt = (B : Int) := tn1028_ (); have t_n2 : (nI T).toInt = (T : Int) := tn1029_ (); have t_n3 : (nI S).toInt = (S : Int) := tn1030_ (); have t_n4 : (nI M).toInt = (M : Int) := tn1031_ (); have t_n5 : (nI k7).toInt = (k7 : Int) := tn1036_ (); have t_n6 : (nI j8).toInt = (j8 : Int) := tn1033_ (); have t_n7 : (nI k12).toInt = (k12 : Int) := tn1035_ (); omega)) hst) (kwV hg mfX11_orderedHarm wt_1123 ⟨Nat.le_of_ble_eq_true rfl, Nat.le_of_ble_eq_true rfl⟩) (preVR hK hPc (ci := 11) rfl rfl) rfl rfl hl.1 rfl (lv_room (Nat.le_of_ble_eq_true rfl)) dX11_carry_70 ⟨Nat.le_of_ble_eq_true rfl, Nat.le_of_ble_eq_true rfl⟩) hS (fun q h1 h2 => absurd h2 (Nat.not_le.mpr h1)) (fun q h => hA q (Nat.le_trans hS.1 h)) (fun r30 ur30 t H1 locs ht hvm w31 hB hz1 hk1 hS => ?_)
            have hP := keepR hP hk1
            obtain ⟨w31, w31x⟩ := w31
            have cut81_34 : ∀ (k33 : Nat) (H : Heap) (locs : List Loc), k33 ≤ 1 → va_P (dC, dI) vwCl [(h0, .inr (11, [.ref st, .int (nI N), .int (nI B), .ref rp, .int vrs, .int vrb, .int vhs, .int vca, .int vxs, .int vxb, .ref tp, .int (nI T), .int vfa, .int vbr, .int vba, .int vsp, .int vhe, .int vtk, .int vva, .ref cu, .ref lt, .ref od, .ref th, .ref be, .ref ln, .int (nI S), .ref ma, .int (nI M), .ref ah, .ref bh, .ref ik, .ref la, .ref lg, .ref ce, .int vto])), (st, .inl (G 0, 196, .inl fst))] H → va_S (fun q : Nat => s.heap.size ≤ q) s.heap H locs → ∀ (ls : Array Slot), lv_has ls 9 [(3, .int v28), (7, .int (nI j8)), (6, .int y9), (5, .int y10), (4, .int (nI k12)), (0, .ref h0), (1, .int sd), (2, .int what)] → W p l e (headSpec (Cond.code yX11_carry cX11_carry 9 (some .int) :: GT) ({ frames := 3, cells := 0, slots := 0, locals := 72 } : Room)).room s m ([.ref h0, .int sd, .int what] : List Value).toArray below meth c H locs 0 0 (MQ below (va_Qi (fun (r : Int32) (u : Unit) => match u with | _ => (True) ∧ True) (fun _ _ => True) (fun q : Nat => s.heap.size ≤ q)) ([.ref h0, .int sd, .int what] : List Value).toArray s 0 0 (fun q : Nat => s.heap.size ≤ q)) (F0 m 81 ls [.int (nI k33)]) := by
              intro k33 H locs hb_k33 hP hS ls hl
              refine lv_istore (lv' := [(8, .int (nI k33)), (3, .int v28), (7, .int (nI j8)), (6, .int y9), (5, .int y10), (4, .int (nI k12)), (0, .ref h0), (1, .int sd), (2, .int what)]) hx hb dX11_carry_81 hl (by decide) rfl (fun ls hl => ?_)
              refine lv_iload hx hb dX11_carry_83 (lv_at hl 0 rfl) ?_
              refine lv_if_eq (tgt := 95) hx hb dX11_carry_85 (by decide) (fun c35 => ?_) (fun c35 => ?_)
              · skip
                have tn1037_ : nIT k33 := fun _ => nI_toInt (by first | omega | (have t := eqI c35; omega))
                have n36 : k33 = 0 := by have t := eqI c35; rw [show (nI (k33)).toInt = ((k33 : Nat) : Int) from tn1037_ ()] at t; have : (0 : Int32).toInt = 0 := qI_0; omega
                refine lv_iload hx hb dX11_carry_95 (lv_at hl 5 rfl) ?_
                refine lv_iconst (v := 1) hx hb dX11_carry_97 (by decide) ?_
                have hPc := hP.sub (ws' := []) [] rfl
                refine va_calli (va_runS (As := [.int (nI k12), .int 1]) (rest := []) ⟨hx, hb, hml, hown, hg⟩ (c_X11_deeper l dC dI G _ k12 1 (by first | omega | (have t_b4 := b4; have t_w6a := w6a; have t_w6b := w6b; have t_hj16 := hj16; have t_hinv := hinv; have t_n24 := n24; have t_n27 := n27; have t_hb_k33 := hb_k33; have t_n36 := n36; have t_n0 : (nI N).toInt = (N : Int) := tn1027_ (); have t_n1 : (nI B).toInt = (B : Int) := tn1028_ (); have t_n2 : (nI T).toInt = (T : Int) := tn1029_ (); have t_n3 : (nI S).toInt = (S : Int) := tn1030_ (); have t_n4 : (nI M).toInt = (M : Int) := tn1031_ (); have t_n5 : (nI k7).toInt = (k7 : Int) := tn1036_ (); have t_n6 : (nI j8).toInt = (j8 : Int) := tn1033_ (); have t_n7 : (nI k12).toInt = (k12 : Int) := tn1035_ (); have t_n8 : (nI k33).toInt = (k33 : Int) := tn1037_ (); have : (1 : Int32).toInt = 1 := qI_1; omega)) (by first | omega | (have t_b4 := b4; have t_w6a := w6a; have t_w6b := w6b; have t_hj16 := hj16; have t_hinv := hinv; have t_n24 := n24; have t_n27 := n27; have t_hb_k33 := hb_k33; have t_n36 := n36; have t_n0 : (nI N).toInt = (N : Int) := tn1027_ (); have t_n1 : (nI B).toInt = (B : Int) := tn1028_ (); have t_n2 : (nI T).toInt = (T : Int) := tn1029_ (); have t_n3 : (nI S).toInt = (S : Int) := tn1030_ (); have t_n4 : (nI M).toInt = (M : Int) := tn1031_ (); have t_n5 : (nI k7).toInt = (k7 : Int) := tn1036_ (); have t_n6 : (nI j8).toInt = (j8 : Int) := tn1033_ (); have t_n7 : (nI k12).toInt = (k12 : Int) := tn1035_ (); have t_n8 : (nI k33).toInt = (k33 : Int) := tn1037_ (); have : (1 : Int32).toInt = 1 := qI_1; omega))) (kwS hg mfX11_deeper wt_1128 ⟨Nat.le_of_ble_eq_true rfl, Nat.le_of_ble_eq_true rfl⟩) (preSR hK hPc) rfl rfl hl.1 rfl (lv_room (Nat.le_of_ble_eq_true rfl)) dX11_carry_98 ⟨Nat.le_of_ble_eq_true rfl, Nat.le_of_ble_eq_true rfl⟩) hS (fun q h1 h2 => absurd h2 (Nat.not_le.mpr h1)) (fun q h => hA q (Nat.le_trans hS.1 h)) (fun r37 ur37 t H1 locs ht hvm w38 hB hz1 hk1 hS => ?_)
                have hP := keepR hP hk1
                obtain ⟨w38, w38x⟩ := w38
                have hs39 : k12 ≤ (min 9 (k12 + 1)) ∧ (min 9 (k12 + 1)) ≤ 9 := (by omega)
                subst w38
                refine lv_istore (lv' := [(4, .int (nI (min 9 (k12 + 1)))), (8, .int (nI k33)), (3, .int v28), (7, .int (nI j8)), (6, .int y9), (5, .int y10), (0, .ref h0), (1, .int sd), (2, .int what)]) hx hb dX11_carry_101 hl (by decide) rfl (fun ls hl => ?_)
                refine lv_iload hx hb dX11_carry_103 (lv_at hl 5 rfl) ?_
                refine lv_iload hx hb dX11_carry_105 (lv_at hl 1 rfl) ?_
                refine lv_if_eq (tgt := 114) hx hb dX11_carry_107 (by decide) (fun c40 => ?_) (fun c40 => ?_)
                · skip
                  have n41 : k33 = 0 := by have t := eqI c40; rw [show (nI (k33)).toInt = ((k33 : Nat) : Int) from tn1037_ ()] at t; have : (0 : Int32).toInt = 0 := qI_0; omega
                  refine lv_iconst (v := 0) hx hb dX11_carry_114 (by decide) ?_
                  refine lv_iadd hx hb dX11_carry_115 ?_
                  refine lv_istore (lv' := [(5, .int (y10 + 0)), (4, .int (nI (min 9 (k12 + 1)))), (8, .int (nI k33)), (3, .int v28), (7, .int (nI j8)), (6, .int y9), (0, .ref h0), (1, .int sd), (2, .int what)]) hx hb dX11_carry_116 hl (by decide) rfl (fun ls hl => ?_)
                  refine lv_iload hx hb dX11_carry_118 (lv_at hl 1 rfl) ?_
                  refine lv_if_ne (tgt := 128) hx hb dX11_carry_120 (by decide) (fun c42 => ?_) (fun c42 => ?_)
                  · skip
                    have tn1038_ : nIT (min 9 (k12 + 1)) := fun _ => nI_toInt (by first | omega | (have t := neI c42; omega))
                    have n43 : (min 9 (k12 + 1)) ≠ 0 := by have t := neI c42; rw [show (nI (min 9 (k12 + 1))).toInt = ((min 9 (k12 + 1) : Nat) : Int) from tn1038_ ()] at t; have : (0 : Int32).toInt = 0 := qI_0; omega
                    refine lv_iload hx hb dX11_carry_128 (lv_at hl 5 rfl) ?_
                    refine lv_istore (lv' := [(6, .int y9), (5, .int (y10 + 0)), (4, .int (nI (min 9 (k12 + 1)))), (8, .int (nI k33)), (3, .int v28), (7, .int (nI j8)), (0, .ref h0), (1, .int sd), (2, .int what)]) hx hb dX11_carry_130 hl (by decide) rfl (fun ls hl => ?_)
                    refine lv_iinc (v := nI (j8 + 1)) (lv' := [(7, .int (nI (j8 + 1))), (6, .int y9), (5, .int (y10 + 0)), (4, .int (nI (min 9 (k12 + 1)))), (8, .int (nI k33)), (3, .int v28), (0, .ref h0), (1, .int sd), (2, .int what)]) hx hb dX11_carry_132 hl (k := 5) rfl (by rw [show Int32.ofInt 1 = nI 1 from by decide]; exact nI_add _ _) (by decide) rfl (fun ls hl => ?_)
                    refine lv_goto (tgt := 32) hx hb dX11_carry_135 (by decide) ?_
                    exact ih32_14 (j8 + 1) (by omega) (by omega) y9 (y10 + 0) (min 9 (k12 + 1)) v28 _ _ (by have t_b4 := b4; have t_w6a := w6a; have t_w6b := w6b; have t_hj16 := hj16; have t_hinv := hinv; have t_n24 := n24; have t_n27 := n27; have t_hb_k33 := hb_k33; have t_n36 := n36; have t_hs39 := hs39; have t_n41 := n41; have t_n43 := n43; have t_n0 : (nI N).toInt = (N : Int) := tn1027_ (); have t_n1 : (nI B).toInt = (B : Int) := tn1028_ (); have t_n2 : (nI T).toInt = (T : Int) := tn1029_ (); have t_n3 : (nI S).toInt = (S : Int) := tn1030_ (); have t_n4 : (nI M).toInt = (M : Int) := tn1031_ (); have t_n5 : (nI k7).toInt = (k7 : Int) := tn1036_ (); have t_n6 : (nI j8).toInt = (j8 : Int) := tn1033_ (); have t_n7 : (nI k12).toInt = (k12 : Int) := tn1035_ (); have t_n8 : (nI k33).toInt = (k33 : Int) := tn1037_ (); omega) hP hS ls (lv_sub hl [0, 1, 2, 3, 5, 6, 7, 8] rfl)
                  · skip
                    have t_b4 := b4
                    have t_w6a := w6a
                    have t_w6b := w6b
                    have t_hj16 := hj16
                    have t_hinv := hinv
                    have t_n24 := n24
                    have t_n27 := n27
                    have t_hb_k33 := hb_k33
                    have t_n36 := n36
                    have t_hs39 := hs39
                    have t_n41 := n41
                    have t_c42 := eqI c42
                    have : (0 : Int32).toInt = 0 := qI_0
                    have t_n0 : (nI N).toInt = (N : Int) := tn1027_ ()
                    have t_n1 : (nI B).toInt = (B : Int) := tn1028_ ()
                    have t_n2 : (nI T).toInt = (T : Int) := tn1029_ ()
                    have t_n3 : (nI S).toInt = (S : Int) := tn1030_ ()
                    have t_n4 : (nI M).toInt = (M : Int) := tn1031_ ()
                    have t_n5 : (nI k7).toInt = (k7 : Int) := tn1036_ ()
                    have t_n6 : (nI j8).toInt = (j8 : Int) := tn1033_ ()
                    have t_n7 : (nI k12).toInt = (k12 : Int) := tn1035_ ()
                    have t_n8 : (nI k33).toInt = (k33 : Int) := tn1037_ ()
                    have : (nI (min 9 (k12 + 1))).toInt = (((min 9 (k12 + 1)) : Nat) : Int) := nI_toInt (by omega)
                    exfalso; omega
                · skip
                  have t_b4 := b4
                  have t_w6a := w6a
                  have t_w6b := w6b
                  have t_hj16 := hj16
                  have t_hinv := hinv
                  have t_n24 := n24
                  have t_n27 := n27
                  have t_hb_k33 := hb_k33
                  have t_n36 := n36
                  have t_hs39 := hs39
                  have t_c40 := neI c40
                  have : (0 : Int32).toInt = 0 := qI_0
                  have t_n0 : (nI N).toInt = (N : Int) := tn1027_ ()
                  have t_n1 : (nI B).toInt = (B : Int) := tn1028_ ()
                  have t_n2 : (nI T).toInt = (T : Int) := tn1029_ ()
                  have t_n3 : (nI S).toInt = (S : Int) := tn1030_ ()
                  have t_n4 : (nI M).toInt = (M : Int) := tn1031_ ()
                  have t_n5 : (nI k7).toInt = (k7 : Int) := tn1036_ ()
                  have t_n6 : (nI j8).toInt = (j8 : Int) := tn1033_ ()
                  have t_n7 : (nI k12).toInt = (k12 : Int) := tn1035_ ()
                  have t_n8 : (nI k33).toInt = (k33 : Int) := tn1037_ ()
                  exfalso; omega
              · skip
                have tn1039_ : nIT k33 := fun _ => nI_toInt (by first | omega | (have t := neI c35; omega))
                have n44 : k33 ≠ 0 := by have t := neI c35; rw [show (nI (k33)).toInt = ((k33 : Nat) : Int) from tn1039_ ()] at t; have : (0 : Int32).toInt = 0 := qI_0; omega
                refine lv_iload hx hb dX11_carry_88 (lv_at hl 5 rfl) ?_
                refine lv_iconst (v := 1) hx hb dX11_carry_90 (by decide) ?_
                refine lv_isub hx hb dX11_carry_91 ?_
                refine lv_cg (y := nI (k12 - 1)) (by rw [show (1 : Int32) = nI 1 from rfl]; exact pk_sub (by have t_b4 := b4; have t_w6a := w6a; have t_w6b := w6b; have t_hj16 := hj16; have t_hinv := hinv; have t_n24 := n24; have t_n27 := n27; have t_hb_k33 := hb_k33; have t_n44 := n44; have t_n0 : (nI N).toInt = (N : Int) := tn1027_ (); have t_n1 : (nI B).toInt = (B : Int) := tn1028_ (); have t_n2 : (nI T).toInt = (T : Int) := tn1029_ (); have t_n3 : (nI S).toInt = (S : Int) := tn1030_ (); have t_n4 : (nI M).toInt = (M : Int) := tn1031_ (); have t_n5 : (nI k7).toInt = (k7 : Int) := tn1036_ (); have t_n6 : (nI j8).toInt = (j8 : Int) := tn1033_ (); have t_n7 : (nI k12).toInt = (k12 : Int) := tn1035_ (); have t_n8 : (nI k33).toInt = (k33 : Int) := tn1039_ (); omega)) ?_
                refine lv_goto (tgt := 101) hx hb dX11_carry_92 (by decide) ?_
                refine lv_istore (lv' := [(4, .int (nI (k12 - 1))), (8, .int (nI k33)), (3, .int v28), (7, .int (nI j8)), (6, .int y9), (5, .int y10), (0, .ref h0), (1, .int sd), (2, .int what)]) hx hb dX11_carry_101 hl (by decide) rfl (fun ls hl => ?_)
                refine lv_iload hx hb dX11_carry_103 (lv_at hl 5 rfl) ?_
                refine lv_iload hx hb dX11_carry_105 (lv_at hl 1 rfl) ?_
                refine lv_if_eq (tgt := 114) hx hb dX11_carry_107 (by decide) (fun c45 => ?_) (fun c45 => ?_)
                · skip
                  have t_b4 := b4
                  have t_w6a := w6a
                  have t_w6b := w6b
                  have t_hj16 := hj16
                  have t_hinv := hinv
                  have t_n24 := n24
                  have t_n27 := n27
                  have t_hb_k33 := hb_k33
                  have t_n44 := n44
                  have t_c45 := eqI c45
                  have : (0 : Int32).toInt = 0 := qI_0
                  have t_n0 : (nI N).toInt = (N : Int) := tn1027_ ()
                  have t_n1 : (nI B).toInt = (B : Int) := tn1028_ ()
                  have t_n2 : (nI T).toInt = (T : Int) := tn1029_ ()
                  have t_n3 : (nI S).toInt = (S : Int) := tn1030_ ()
                  have t_n4 : (nI M).toInt = (M : Int) := tn1031_ ()
                  have t_n5 : (nI k7).toInt = (k7 : Int) := tn1036_ ()
                  have t_n6 : (nI j8).toInt = (j8 : Int) := tn1033_ ()
                  have t_n7 : (nI k12).toInt = (k12 : Int) := tn1035_ ()
                  have t_n8 : (nI k33).toInt = (k33 : Int) := tn1039_ ()
                  exfalso; omega
                · skip
                  have n46 : k33 ≠ 0 := by have t := neI c45; rw [show (nI (k33)).toInt = ((k33 : Nat) : Int) from tn1039_ ()] at t; have : (0 : Int32).toInt = 0 := qI_0; omega
                  refine lv_iconst (v := 1) hx hb dX11_carry_110 (by decide) ?_
                  refine lv_goto (tgt := 115) hx hb dX11_carry_111 (by decide) ?_
                  refine lv_iadd hx hb dX11_carry_115 ?_
                  refine lv_istore (lv' := [(5, .int (y10 + 1)), (4, .int (nI (k12 - 1))), (8, .int (nI k33)), (3, .int v28), (7, .int (nI j8)), (6, .int y9), (0, .ref h0), (1, .int sd), (2, .int what)]) hx hb dX11_carry_116 hl (by decide) rfl (fun ls hl => ?_)
                  refine lv_iload hx hb dX11_carry_118 (lv_at hl 1 rfl) ?_
                  have cut130_48 : ∀ (y47 : Int32) (H : Heap) (locs : List Loc), va_P (dC, dI) vwCl [(h0, .inr (11, [.ref st, .int (nI N), .int (nI B), .ref rp, .int vrs, .int vrb, .int vhs, .int vca, .int vxs, .int vxb, .ref tp, .int (nI T), .int vfa, .int vbr, .int vba, .int vsp, .int vhe, .int vtk, .int vva, .ref cu, .ref lt, .ref od, .ref th, .ref be, .ref ln, .int (nI S), .ref ma, .int (nI M), .ref ah, .ref bh, .ref ik, .ref la, .ref lg, .ref ce, .int vto])), (st, .inl (G 0, 196, .inl fst))] H → va_S (fun q : Nat => s.heap.size ≤ q) s.heap H locs → ∀ (ls : Array Slot), lv_has ls 9 [(5, .int (y10 + 1)), (4, .int (nI (k12 - 1))), (8, .int (nI k33)), (3, .int v28), (7, .int (nI j8)), (6, .int y9), (0, .ref h0), (1, .int sd), (2, .int what)] → W p l e (headSpec (Cond.code yX11_carry cX11_carry 9 (some .int) :: GT) ({ frames := 3, cells := 0, slots := 0, locals := 72 } : Room)).room s m ([.ref h0, .int sd, .int what] : List Value).toArray below meth c H locs 0 0 (MQ below (va_Qi (fun (r : Int32) (u : Unit) => match u with | _ => (True) ∧ True) (fun _ _ => True) (fun q : Nat => s.heap.size ≤ q)) ([.ref h0, .int sd, .int what] : List Value).toArray s 0 0 (fun q : Nat => s.heap.size ≤ q)) (F0 m 130 ls [.int y47]) := by
                    intro y47 H locs hP hS ls hl
                    refine lv_istore (lv' := [(6, .int y47), (5, .int (y10 + 1)), (4, .int (nI (k12 - 1))), (8, .int (nI k33)), (3, .int v28), (7, .int (nI j8)), (0, .ref h0), (1, .int sd), (2, .int what)]) hx hb dX11_carry_130 hl (by decide) rfl (fun ls hl => ?_)
                    refine lv_iinc (v := nI (j8 + 1)) (lv' := [(7, .int (nI (j8 + 1))), (6, .int y47), (5, .int (y10 + 1)), (4, .int (nI (k12 - 1))), (8, .int (nI k33)), (3, .int v28), (0, .ref h0), (1, .int sd), (2, .int what)]) hx hb dX11_carry_132 hl (k := 5) rfl (by rw [show Int32.ofInt 1 = nI 1 from by decide]; exact nI_add _ _) (by decide) rfl (fun ls hl => ?_)
                    refine lv_goto (tgt := 32) hx hb dX11_carry_135 (by decide) ?_
                    exact ih32_14 (j8 + 1) (by omega) (by omega) y47 (y10 + 1) (k12 - 1) v28 _ _ (by have t_b4 := b4; have t_w6a := w6a; have t_w6b := w6b; have t_hj16 := hj16; have t_hinv := hinv; have t_n24 := n24; have t_n27 := n27; have t_hb_k33 := hb_k33; have t_n44 := n44; have t_n46 := n46; have t_n0 : (nI N).toInt = (N : Int) := tn1027_ (); have t_n1 : (nI B).toInt = (B : Int) := tn1028_ (); have t_n2 : (nI T).toInt = (T : Int) := tn1029_ (); have t_n3 : (nI S).toInt = (S : Int) := tn1030_ (); have t_n4 : (nI M).toInt = (M : Int) := tn1031_ (); have t_n5 : (nI k7).toInt = (k7 : Int) := tn1036_ (); have t_n6 : (nI j8).toInt = (j8 : Int) := tn1033_ (); have t_n7 : (nI k12).toInt = (k12 : Int) := tn1035_ (); have t_n8 : (nI k33).toInt = (k33 : Int) := tn1039_ (); omega) hP hS ls (lv_sub hl [0, 1, 2, 3, 5, 6, 7, 8] rfl)
                  refine lv_if_ne (tgt := 128) hx hb dX11_carry_120 (by decide) (fun c49 => ?_) (fun c49 => ?_)
                  · skip
                    have tn1040_ : nIT (k12 - 1) := fun _ => nI_toInt (by first | omega | (have t := neI c49; omega))
                    have n50 : (k12 - 1) ≠ 0 := by have t := neI c49; rw [show (nI (k12 - 1)).toInt = ((k12 - 1 : Nat) : Int) from tn1040_ ()] at t; have : (0 : Int32).toInt = 0 := qI_0; omega
                    refine lv_iload hx hb dX11_carry_128 (lv_at hl 5 rfl) ?_
                    exact cut130_48 y9 _ _ hP hS ls (lv_sub hl [0, 1, 2, 3, 4, 5, 6, 7, 8] rfl)
                  · skip
                    have tn1041_ : nIT (k12 - 1) := fun _ => nI_toInt (by first | omega | (have t := eqI c49; omega))
                    have n51 : (k12 - 1) = 0 := by have t := eqI c49; rw [show (nI (k12 - 1)).toInt = ((k12 - 1 : Nat) : Int) from tn1041_ ()] at t; have : (0 : Int32).toInt = 0 := qI_0; omega
                    refine lv_iload hx hb dX11_carry_123 (lv_at hl 4 rfl) ?_
                    refine lv_goto (tgt := 130) hx hb dX11_carry_125 (by decide) ?_
                    exact cut130_48 (nI j8) _ _ hP hS ls (lv_sub hl [0, 1, 2, 3, 4, 5, 6, 7, 8] rfl)
            refine lv_icmp_ge (tgt := 80) hx hb dX11_carry_73 (by decide) (fun c52 => ?_) (fun c52 => ?_)
            · skip
              refine lv_iconst (v := 0) hx hb dX11_carry_80 (by decide) ?_
              exact cut81_34 0 _ _ (by omega) hP hS ls (lv_sub hl [0, 1, 2, 3, 4, 5, 6, 7] rfl)
            · skip
              refine lv_iconst (v := 1) hx hb dX11_carry_76 (by decide) ?_
              refine lv_goto (tgt := 81) hx hb dX11_carry_77 (by decide) ?_
              exact cut81_34 1 _ _ (by omega) hP hS ls (lv_sub hl [0, 1, 2, 3, 4, 5, 6, 7] rfl)
    have tn1042_ : nIT k7 := fun _ => nI_toInt (by first | omega | (have t_b4 := b4; have t_w6a := w6a; have t_w6b := w6b; omega))
    exact loop32_14 (N + 1) 0 (by omega) (by omega) (-4) 0 k7 sd _ _ (by have t_b4 := b4; have t_w6a := w6a; have t_w6b := w6b; have t_n0 : (nI N).toInt = (N : Int) := tn1027_ (); have t_n1 : (nI B).toInt = (B : Int) := tn1028_ (); have t_n2 : (nI T).toInt = (T : Int) := tn1029_ (); have t_n3 : (nI S).toInt = (S : Int) := tn1030_ (); have t_n4 : (nI M).toInt = (M : Int) := tn1031_ (); have t_n5 : (nI k7).toInt = (k7 : Int) := tn1042_ (); omega) hP hS ls (lv_sub hl [0, 1, 2, 3, 4, 5, 6, 7] rfl)
  · skip
    have b53 := if10_n c3
    refine lv_iconst (v := (-1)) hx hb dX11_carry_12 (by decide) ?_
    have hpost : True := by
      trivial
    refine W.widen (k := 0) (n := 0) (Nat.le_of_ble_eq_true rfl) (Nat.le_of_ble_eq_true rfl) ?_
    exact W.iret (v := (-1)) hx hb hr (fun t ht hW => ⟨⟨(-1), (), rfl, ⟨hpost, trivial⟩, trivial⟩, hS.F ht⟩) hS.2.2 dX11_carry_13


set_option maxHeartbeats 1000000 in
set_option maxRecDepth 100000 in
theorem c_X11_isMarked (l : Launch) (dC : Nat → ClassId) (dI : Nat → Nat → Nat) (G : Nat → ClassId) (sz : Nat) (h0 st N B rp tp T cu lt od th be ln S ma M ah bh ik la lg ce : Nat) (x1 x2 vrs vrb vhs vca vxs vxb vfa vbr vba vsp vhe vtk vva vto : Int32) (fma : Nat → Int32) (hN : N ≤ 10) (hB : B ≤ 6) (hT : T ≤ 320) (hS0 : S ≤ 8) (hM : M ≤ 6) : Met l yX11_isMarked (Cond.code yX11_isMarked cX11_isMarked 5 (some .boolean) :: GT) ({ frames := 0, cells := 0, slots := 0, locals := 0 } : Room) (PcR [.ref h0, .int x1, .int x2] dC dI G [(h0, .inr (11, [.ref st, .int (nI N), .int (nI B), .ref rp, .int vrs, .int vrb, .int vhs, .int vca, .int vxs, .int vxb, .ref tp, .int (nI T), .int vfa, .int vbr, .int vba, .int vsp, .int vhe, .int vtk, .int vva, .ref cu, .ref lt, .ref od, .ref th, .ref be, .ref ln, .int (nI S), .ref ma, .int (nI M), .ref ah, .ref bh, .ref ik, .ref la, .ref lg, .ref ce, .int vto])), (ma, .inl (G 0, 12, .inl fma))] sz) (va_Qi (fun (r : Int32) (u : Unit) => match u with | _ => (r = 0 ∨ r = 1) ∧ True) (fun _ _ => True) (fun q : Nat => sz ≤ q)) 0 0 (fun q : Nat => sz ≤ q) := by
  refine Met.ofW (cc := cX11_isMarked) (maxL := 5) (ret := (some .boolean)) (by decide) rfl ?_
  intro p e s m args below meth c s₁ Bd hml hv
  obtain ⟨rfl, hsz, hP, hK⟩ := hv
  have hx := Bd.exec
  have hb := Bd.bytes
  have hr := Bd.returns
  have hg : ∀ w ∈ GT, w.before ([.ref h0, .int x1, .int x2] : List Value).toArray s = true := fun w h => atoms_spec (ws := Cond.code yX11_isMarked cX11_isMarked 5 (some .boolean) :: GT) Bd.pre w (List.mem_cons_of_mem _ h)
  have hown : s.vm.findClass RX11 = some m.cls := findClass_of_methodNamed Bd.named
  have hlocks := Bd.notSynchronized
  subst hsz
  have hA : ∀ q : Nat, s.heap.size ≤ q → (fun q : Nat => s.heap.size ≤ q) q := fun _ h => h
  have hS : va_S (fun q : Nat => s.heap.size ≤ q) s.heap s.heap [] := va_S.rf
  have hl := lv_entry ([.ref h0, .int x1, .int x2]) (n := 5) (Nat.le_of_ble_eq_true rfl)
  rw [lg_entry_eq]
  generalize (lg_sl ([.ref h0, .int x1, .int x2]) ++ List.replicate (5 - (lg_sl ([.ref h0, .int x1, .int x2])).length) Slot.unset).toArray = ls at hl ⊢
  have hl : lv_has ls 5 [(0, .ref h0), (1, .int x1), (2, .int x2)] := hl
  refine lv_iconst (v := 1) hx hb dX11_isMarked_0 (by decide) ?_
  refine lv_istore_n (lv' := [(3, .int 1), (0, .ref h0), (1, .int x1), (2, .int x2)]) hx hb dX11_isMarked_1 rfl hl (by decide) rfl (fun ls hl => ?_)
  refine lv_iconst (v := 0) hx hb dX11_isMarked_2 (by decide) ?_
  refine lv_istore (lv' := [(4, .int 0), (3, .int 1), (0, .ref h0), (1, .int x1), (2, .int x2)]) hx hb dX11_isMarked_3 hl (by decide) rfl (fun ls hl => ?_)
  have loop5_4 : ∀ (nf j1 : Nat), M + 1 ≤ j1 + nf → j1 ≤ M → ∀ (k3 : Nat) (H : Heap) (locs : List Loc), k3 ≤ 1 → va_P (dC, dI) vwCl [(h0, .inr (11, [.ref st, .int (nI N), .int (nI B), .ref rp, .int vrs, .int vrb, .int vhs, .int vca, .int vxs, .int vxb, .ref tp, .int (nI T), .int vfa, .int vbr, .int vba, .int vsp, .int vhe, .int vtk, .int vva, .ref cu, .ref lt, .ref od, .ref th, .ref be, .ref ln, .int (nI S), .ref ma, .int (nI M), .ref ah, .ref bh, .ref ik, .ref la, .ref lg, .ref ce, .int vto])), (ma, .inl (G 0, 12, .inl fma))] H → va_S (fun q : Nat => s.heap.size ≤ q) s.heap H locs → ∀ (ls : Array Slot), lv_has ls 5 [(4, .int (nI j1)), (3, .int (nI k3)), (0, .ref h0), (1, .int x1), (2, .int x2)] → W p l e (headSpec (Cond.code yX11_isMarked cX11_isMarked 5 (some .boolean) :: GT) ({ frames := 0, cells := 0, slots := 0, locals := 0 } : Room)).room s m ([.ref h0, .int x1, .int x2] : List Value).toArray below meth c H locs 0 0 (MQ below (va_Qi (fun (r : Int32) (u : Unit) => match u with | _ => (r = 0 ∨ r = 1) ∧ True) (fun _ _ => True) (fun q : Nat => s.heap.size ≤ q)) ([.ref h0, .int x1, .int x2] : List Value).toArray s 0 0 (fun q : Nat => s.heap.size ≤ q)) (F0 m 5 ls []) := by
    intro nf
    induction nf with
    | zero => intro j1 h1 h2; exact absurd h1 (by omega)
    | succ nf ih5_4 =>
      intro j1 hn5 hj6 k3 H locs hinv hP hS ls hl
      refine lv_iload hx hb dX11_isMarked_5 (lv_at hl 0 rfl) ?_
      refine lv_aload_n hx hb dX11_isMarked_7 rfl (lv_at hl 2 rfl) ?_
      refine va_get (D := (dC, dI)) (ci := 11) (v := .int (nI M)) (C := RX11) (T := TX11) (N := 35) hx hb hg inG11 hown hK.1 hP 0 rfl rfl 27 (by decide) (hg _ wt_905) (fun _ h9 => h9) rfl dX11_isMarked_8 ?_
      refine lv_icmp_ge (tgt := 58) hx hb dX11_isMarked_11 (by decide) (fun c7 => ?_) (fun c7 => ?_)
      · skip
        have tn1099_ : nIT j1 := fun _ => nI_toInt (by first | omega | (have t := leI c7; omega))
        have tn1100_ : nIT M := fun _ => nI_toInt (by omega)
        have n8 : M ≤ j1 := by have t := leI c7; rw [show (nI (j1)).toInt = ((j1 : Nat) : Int) from tn1099_ ()] at t; rw [show (nI (M)).toInt = ((M : Nat) : Int) from tn1100_ ()] at t; omega
        refine lv_iload_n hx hb dX11_isMarked_58 rfl (lv_at hl 1 rfl) ?_
        have hpost : (nI k3 : Int32) = 0 ∨ (nI k3 : Int32) = 1 := by
          exact nI01 hinv
        refine W.widen (k := 0) (n := 0) (Nat.le_of_ble_eq_true rfl) (Nat.le_of_ble_eq_true rfl) ?_
        exact W.zret (v := nI k3) hx hb hr (by first | rfl | decide | exact zn01 (nI01 hinv)) (fun t ht hW => ⟨⟨nI k3, (), rfl, ⟨hpost, trivial⟩, trivial⟩, hS.F ht⟩) hS.2.2 dX11_isMarked_59
      · skip
        have tn1101_ : nIT j1 := fun _ => nI_toInt (by first | omega | (have t := nleI c7; omega))
        have tn1102_ : nIT M := fun _ => nI_toInt (by omega)
        have n9 : j1 < M := by have t := nleI c7; rw [show (nI (j1)).toInt = ((j1 : Nat) : Int) from tn1101_ ()] at t; rw [show (nI (M)).toInt = ((M : Nat) : Int) from tn1102_ ()] at t; omega
        refine lv_iload_n hx hb dX11_isMarked_14 rfl (lv_at hl 1 rfl) ?_
        have cut51_12 : ∀ (k11 : Nat) (H : Heap) (locs : List Loc), k11 ≤ 1 → va_P (dC, dI) vwCl [(h0, .inr (11, [.ref st, .int (nI N), .int (nI B), .ref rp, .int vrs, .int vrb, .int vhs, .int vca, .int vxs, .int vxb, .ref tp, .int (nI T), .int vfa, .int vbr, .int vba, .int vsp, .int vhe, .int vtk, .int vva, .ref cu, .ref lt, .ref od, .ref th, .ref be, .ref ln, .int (nI S), .ref ma, .int (nI M), .ref ah, .ref bh, .ref ik, .ref la, .ref lg, .ref ce, .int vto])), (ma, .inl (G 0, 12, .inl fma))] H → va_S (fun q : Nat => s.heap.size ≤ q) s.heap H locs → ∀ (ls : Array Slot), lv_has ls 5 [(4, .int (nI j1)), (3, .int (nI k3)), (0, .ref h0), (1, .int x1), (2, .int x2)] → W p l e (headSpec (Cond.code yX11_isMarked cX11_isMarked 5 (some .boolean) :: GT) ({ frames := 0, cells := 0, slots := 0, locals := 0 } : Room)).room s m ([.ref h0, .int x1, .int x2] : List Value).toArray below meth c H locs 0 0 (MQ below (va_Qi (fun (r : Int32) (u : Unit) => match u with | _ => (r = 0 ∨ r = 1) ∧ True) (fun _ _ => True) (fun q : Nat => s.heap.size ≤ q)) ([.ref h0, .int x1, .int x2] : List Value).toArray s 0 0 (fun q : Nat => s.heap.size ≤ q)) (F0 m 51 ls [.int (nI k11)]) := by
          intro k11 H locs hb_k11 hP hS ls hl
          refine lv_istore_n (lv' := [(3, .int (nI k11)), (4, .int (nI j1)), (0, .ref h0), (1, .int x1), (2, .int x2)]) hx hb dX11_isMarked_51 rfl hl (by decide) rfl (fun ls hl => ?_)
          refine lv_iinc (v := nI (j1 + 1)) (lv' := [(4, .int (nI (j1 + 1))), (3, .int (nI k11)), (0, .ref h0), (1, .int x1), (2, .int x2)]) hx hb dX11_isMarked_52 hl (k := 1) rfl (by rw [show Int32.ofInt 1 = nI 1 from by decide]; exact nI_add _ _) (by decide) rfl (fun ls hl => ?_)
          refine lv_goto (tgt := 5) hx hb dX11_isMarked_55 (by decide) ?_
          have tn1103_ : nIT N := fun _ => nI_toInt (by first | omega | (have t_hj6 := hj6; have t_hinv := hinv; have t_n9 := n9; have t_hb_k11 := hb_k11; omega))
          have tn1104_ : nIT B := fun _ => nI_toInt (by first | omega | (have t_hj6 := hj6; have t_hinv := hinv; have t_n9 := n9; have t_hb_k11 := hb_k11; omega))
          have tn1105_ : nIT T := fun _ => nI_toInt (by first | omega | (have t_hj6 := hj6; have t_hinv := hinv; have t_n9 := n9; have t_hb_k11 := hb_k11; omega))
          have tn1106_ : nIT S := fun _ => nI_toInt (by first | omega | (have t_hj6 := hj6; have t_hinv := hinv; have t_n9 := n9; have t_hb_k11 := hb_k11; omega))
          have tn1107_ : nIT k3 := fun _ => nI_toInt (by first | omega | (have t_hj6 := hj6; have t_hinv := hinv; have t_n9 := n9; have t_hb_k11 := hb_k11; omega))
          have tn1108_ : nIT k11 := fun _ => nI_toInt (by first | omega | (have t_hj6 := hj6; have t_hinv := hinv; have t_n9 := n9; have t_hb_k11 := hb_k11; omega))
          exact ih5_4 (j1 + 1) (by omega) (by omega) k11 _ _ (by have t_hj6 := hj6; have t_hinv := hinv; have t_n9 := n9; have t_hb_k11 := hb_k11; have t_n0 : (nI N).toInt = (N : Int) := tn1103_ (); have t_n1 : (nI B).toInt = (B : Int) := tn1104_ (); have t_n2 : (nI T).toInt = (T : Int) := tn1105_ (); have t_n3 : (nI S).toInt = (S : Int) := tn1106_ (); have t_n4 : (nI M).toInt = (M : Int) := tn1102_ (); have t_n5 : (nI j1).toInt = (j1 : Int) := tn1101_ (); have t_n6 : (nI k3).toInt = (k3 : Int) := tn1107_ (); have t_n7 : (nI k11).toInt = (k11 : Int) := tn1108_ (); omega) hP hS ls (lv_sub hl [0, 1, 2, 3, 4] rfl)
        refine lv_if_eq (tgt := 50) hx hb dX11_isMarked_15 (by decide) (fun c13 => ?_) (fun c13 => ?_)
        · skip
          have tn1109_ : nIT k3 := fun _ => nI_toInt (by first | omega | (have t := eqI c13; omega))
          have n14 : k3 = 0 := by have t := eqI c13; rw [show (nI (k3)).toInt = ((k3 : Nat) : Int) from tn1109_ ()] at t; have : (0 : Int32).toInt = 0 := qI_0; omega
          refine lv_iconst (v := 0) hx hb dX11_isMarked_50 (by decide) ?_
          exact cut51_12 0 _ _ (by omega) hP hS ls (lv_sub hl [0, 1, 2, 3, 4] rfl)
        · skip
          have tn1110_ : nIT k3 := fun _ => nI_toInt (by first | omega | (have t := neI c13; omega))
          have n15 : k3 ≠ 0 := by have t := neI c13; rw [show (nI (k3)).toInt = ((k3 : Nat) : Int) from tn1110_ ()] at t; have : (0 : Int32).toInt = 0 := qI_0; omega
          refine lv_aload_n hx hb dX11_isMarked_18 rfl (lv_at hl 2 rfl) ?_
          refine va_get (D := (dC, dI)) (ci := 11) (v := .ref ma) (C := RX11) (T := TX11) (N := 35) hx hb hg inG11 hown hK.1 hP 0 rfl rfl 26 (by decide) (hg _ wt_904) (fun _ h9 => h9) rfl dX11_isMarked_19 ?_
          refine lv_iconst (v := 2) hx hb dX11_isMarked_22 (by decide) ?_
          refine lv_iload hx hb dX11_isMarked_23 (lv_at hl 0 rfl) ?_
          refine lv_imul hx hb dX11_isMarked_25 ?_
          refine lv_cg (y := nI (2 * j1)) (by rw [show (2 : Int32) = nI 2 from rfl]; exact pk_mul _ _) ?_
          have tn1111_ : nIT N := fun _ => nI_toInt (by first | omega | (have t_hj6 := hj6; have t_hinv := hinv; have t_n9 := n9; have t_n15 := n15; omega))
          have tn1112_ : nIT B := fun _ => nI_toInt (by first | omega | (have t_hj6 := hj6; have t_hinv := hinv; have t_n9 := n9; have t_n15 := n15; omega))
          have tn1113_ : nIT T := fun _ => nI_toInt (by first | omega | (have t_hj6 := hj6; have t_hinv := hinv; have t_n9 := n9; have t_n15 := n15; omega))
          have tn1114_ : nIT S := fun _ => nI_toInt (by first | omega | (have t_hj6 := hj6; have t_hinv := hinv; have t_n9 := n9; have t_n15 := n15; omega))
          refine va_iald hx hb hK.1 hP 1 0 rfl rfl (vp_in_nI (by first | omega | (have t_hj6 := hj6; have t_hinv := hinv; have t_n9 := n9; have t_n15 := n15; have t_n0 : (nI N).toInt = (N : Int) := tn1111_ (); have t_n1 : (nI B).toInt = (B : Int) := tn1112_ (); have t_n2 : (nI T).toInt = (T : Int) := tn1113_ (); have t_n3 : (nI S).toInt = (S : Int) := tn1114_ (); have t_n4 : (nI M).toInt = (M : Int) := tn1102_ (); have t_n5 : (nI j1).toInt = (j1 : Int) := tn1101_ (); have t_n6 : (nI k3).toInt = (k3 : Int) := tn1110_ (); omega)) (by decide)) dX11_isMarked_26 ?_
          refine lv_cg (y := fma (2 * j1)) (by rw [nI_clamp (by omega)]) ?_
          refine lv_iload_n hx hb dX11_isMarked_27 rfl (lv_at hl 3 rfl) ?_
          have cut46_16 : ∀ (H : Heap) (locs : List Loc), va_P (dC, dI) vwCl [(h0, .inr (11, [.ref st, .int (nI N), .int (nI B), .ref rp, .int vrs, .int vrb, .int vhs, .int vca, .int vxs, .int vxb, .ref tp, .int (nI T), .int vfa, .int vbr, .int vba, .int vsp, .int vhe, .int vtk, .int vva, .ref cu, .ref lt, .ref od, .ref th, .ref be, .ref ln, .int (nI S), .ref ma, .int (nI M), .ref ah, .ref bh, .ref ik, .ref la, .ref lg, .ref ce, .int vto])), (ma, .inl (G 0, 12, .inl fma))] H → va_S (fun q : Nat => s.heap.size ≤ q) s.heap H locs → ∀ (ls : Array Slot), lv_has ls 5 [(4, .int (nI j1)), (3, .int (nI k3)), (0, .ref h0), (1, .int x1), (2, .int x2)] → W p l e (headSpec (Cond.code yX11_isMarked cX11_isMarked 5 (some .boolean) :: GT) ({ frames := 0, cells := 0, slots := 0, locals := 0 } : Room)).room s m ([.ref h0, .int x1, .int x2] : List Value).toArray below meth c H locs 0 0 (MQ below (va_Qi (fun (r : Int32) (u : Unit) => match u with | _ => (r = 0 ∨ r = 1) ∧ True) (fun _ _ => True) (fun q : Nat => s.heap.size ≤ q)) ([.ref h0, .int x1, .int x2] : List Value).toArray s 0 0 (fun q : Nat => s.heap.size ≤ q)) (F0 m 46 ls []) := by
            intro  H locs hP hS ls hl
            refine lv_iconst (v := 1) hx hb dX11_isMarked_46 (by decide) ?_
            refine lv_goto (tgt := 51) hx hb dX11_isMarked_47 (by decide) ?_
            exact cut51_12 1 _ _ (by omega) hP hS ls (lv_sub hl [0, 1, 2, 3, 4] rfl)
          refine lv_icmp_ne (tgt := 46) hx hb dX11_isMarked_28 (by decide) (fun c17 => ?_) (fun c17 => ?_)
          · skip
            exact cut46_16  _ _ hP hS ls (lv_sub hl [0, 1, 2, 3, 4] rfl)
          · skip
            refine lv_aload_n hx hb dX11_isMarked_31 rfl (lv_at hl 2 rfl) ?_
            refine va_get (D := (dC, dI)) (ci := 11) (v := .ref ma) (C := RX11) (T := TX11) (N := 35) hx hb hg inG11 hown hK.1 hP 0 rfl rfl 26 (by decide) (hg _ wt_904) (fun _ h9 => h9) rfl dX11_isMarked_32 ?_
            refine lv_iconst (v := 2) hx hb dX11_isMarked_35 (by decide) ?_
            refine lv_iload hx hb dX11_isMarked_36 (lv_at hl 0 rfl) ?_
            refine lv_imul hx hb dX11_isMarked_38 ?_
            refine lv_cg (y := nI (2 * j1)) (by rw [show (2 : Int32) = nI 2 from rfl]; exact pk_mul _ _) ?_
            refine lv_iconst (v := 1) hx hb dX11_isMarked_39 (by decide) ?_
            refine lv_iadd hx hb dX11_isMarked_40 ?_
            refine lv_cg (y := nI ((2 * j1) + 1)) (by rw [show (1 : Int32) = nI 1 from rfl]; exact nI_add _ _) ?_
            refine va_iald hx hb hK.1 hP 1 0 rfl rfl (vp_in_nI (by first | omega | (have t_hj6 := hj6; have t_hinv := hinv; have t_n9 := n9; have t_n15 := n15; have t_c17 := eqI c17; have t_n0 : (nI N).toInt = (N : Int) := tn1111_ (); have t_n1 : (nI B).toInt = (B : Int) := tn1112_ (); have t_n2 : (nI T).toInt = (T : Int) := tn1113_ (); have t_n3 : (nI S).toInt = (S : Int) := tn1114_ (); have t_n4 : (nI M).toInt = (M : Int) := tn1102_ (); have t_n5 : (nI j1).toInt = (j1 : Int) := tn1101_ (); have t_n6 : (nI k3).toInt = (k3 : Int) := tn1110_ (); omega)) (by decide)) dX11_isMarked_41 ?_
            refine lv_cg (y := fma ((2 * j1) + 1)) (by rw [nI_clamp (by omega)]) ?_
            refine lv_iload_n hx hb dX11_isMarked_42 rfl (lv_at hl 4 rfl) ?_
            refine lv_icmp_ne (tgt := 50) hx hb dX11_isMarked_43 (by decide) (fun c18 => ?_) (fun c18 => ?_)
            · skip
              refine lv_iconst (v := 0) hx hb dX11_isMarked_50 (by decide) ?_
              exact cut51_12 0 _ _ (by omega) hP hS ls (lv_sub hl [0, 1, 2, 3, 4] rfl)
            · skip
              exact cut46_16  _ _ hP hS ls (lv_sub hl [0, 1, 2, 3, 4] rfl)
  have tn1115_ : nIT N := fun _ => nI_toInt (by omega)
  have tn1116_ : nIT B := fun _ => nI_toInt (by omega)
  have tn1117_ : nIT T := fun _ => nI_toInt (by omega)
  have tn1118_ : nIT S := fun _ => nI_toInt (by omega)
  have tn1119_ : nIT M := fun _ => nI_toInt (by omega)
  exact loop5_4 (M + 1) 0 (by omega) (by omega) 1 _ _ (by have t_n0 : (nI N).toInt = (N : Int) := tn1115_ (); have t_n1 : (nI B).toInt = (B : Int) := tn1116_ (); have t_n2 : (nI T).toInt = (T : Int) := tn1117_ (); have t_n3 : (nI S).toInt = (S : Int) := tn1118_ (); have t_n4 : (nI M).toInt = (M : Int) := tn1119_ (); omega) hP hS ls (lv_sub hl [0, 1, 2, 3, 4] rfl)

set_option maxHeartbeats 1000000 in
set_option maxRecDepth 100000 in
theorem c_X11_depthThen (l : Launch) (dC : Nat → ClassId) (dI : Nat → Nat → Nat) (G : Nat → ClassId) (sz : Nat) (h0 i d st N B rp tp T cu lt od th be ln S ma M ah bh ik la lg ce : Nat) (x2 vrs vrb vhs vca vxs vxb vfa vbr vba vsp vhe vtk vva vto : Int32) (fst : Nat → Int32) (fma : Nat → Int32) (hN : N ≤ 10) (hB : B ≤ 6) (hT : T ≤ 320) (hS0 : S ≤ 8) (hM : M ≤ 6) (hst : OKS fst) (hi : i < 10) (hd9 : d ≤ 9) : Met l yX11_depthThen (Cond.code yX11_depthThen cX11_depthThen 6 (some .int) :: GT) ({ frames := 3, cells := 0, slots := 0, locals := 72 } : Room) (PcR [.ref h0, .int (nI i), .int (nI d), .int x2] dC dI G [(h0, .inr (11, [.ref st, .int (nI N), .int (nI B), .ref rp, .int vrs, .int vrb, .int vhs, .int vca, .int vxs, .int vxb, .ref tp, .int (nI T), .int vfa, .int vbr, .int vba, .int vsp, .int vhe, .int vtk, .int vva, .ref cu, .ref lt, .ref od, .ref th, .ref be, .ref ln, .int (nI S), .ref ma, .int (nI M), .ref ah, .ref bh, .ref ik, .ref la, .ref lg, .ref ce, .int vto])), (st, .inl (G 0, 196, .inl fst)), (ma, .inl (G 0, 12, .inl fma))] sz) (va_Qi (fun (r : Int32) (u : Unit) => match u with | _ => (r = -4 ∨ ∃ k : Nat, r = nI k ∧ k ≤ 9) ∧ True) (fun _ _ => True) (fun q : Nat => sz ≤ q)) 0 0 (fun q : Nat => sz ≤ q) := by
  have hB_ := hB
  have hM_ := hM
  have hT_ := hT
  refine Met.ofW (cc := cX11_depthThen) (maxL := 6) (ret := (some .int)) (by decide) rfl ?_
  intro p e s m args below meth c s₁ Bd hml hv
  obtain ⟨rfl, hsz, hP, hK⟩ := hv
  have hx := Bd.exec
  have hb := Bd.bytes
  have hr := Bd.returns
  have hg : ∀ w ∈ GT, w.before ([.ref h0, .int (nI i), .int (nI d), .int x2] : List Value).toArray s = true := fun w h => atoms_spec (ws := Cond.code yX11_depthThen cX11_depthThen 6 (some .int) :: GT) Bd.pre w (List.mem_cons_of_mem _ h)
  have hown : s.vm.findClass RX11 = some m.cls := findClass_of_methodNamed Bd.named
  have hlocks := Bd.notSynchronized
  subst hsz
  have hA : ∀ q : Nat, s.heap.size ≤ q → (fun q : Nat => s.heap.size ≤ q) q := fun _ h => h
  have hS : va_S (fun q : Nat => s.heap.size ≤ q) s.heap s.heap [] := va_S.rf
  have hl := lv_entry ([.ref h0, .int (nI i), .int (nI d), .int x2]) (n := 6) (Nat.le_of_ble_eq_true rfl)
  rw [lg_entry_eq]
  generalize (lg_sl ([.ref h0, .int (nI i), .int (nI d), .int x2]) ++ List.replicate (6 - (lg_sl ([.ref h0, .int (nI i), .int (nI d), .int x2])).length) Slot.unset).toArray = ls at hl ⊢
  have hl : lv_has ls 6 [(0, .ref h0), (1, .int (nI i)), (2, .int (nI d)), (3, .int x2)] := hl
  refine lv_aload_n hx hb dX11_depthThen_0 rfl (lv_at hl 0 rfl) ?_
  refine lv_iload_n hx hb dX11_depthThen_1 rfl (lv_at hl 1 rfl) ?_
  refine lv_iconst (v := 0) hx hb dX11_depthThen_2 (by decide) ?_
  have hPc := hP.sub (ws' := [(h0, .inr (11, [.ref st, .int (nI N), .int (nI B), .ref rp, .int vrs, .int vrb, .int vhs, .int vca, .int vxs, .int vxb, .ref tp, .int (nI T), .int vfa, .int vbr, .int vba, .int vsp, .int vhe, .int vtk, .int vva, .ref cu, .ref lt, .ref od, .ref th, .ref be, .ref ln, .int (nI S), .ref ma, .int (nI M), .ref ah, .ref bh, .ref ik, .ref la, .ref lg, .ref ce, .int vto])), (st, .inl (G 0, 196, .inl fst))]) [0, 1] rfl
  have tn1120_ : nIT i := fun _ => nI_toInt (by omega)
  have tn1121_ : nIT d := fun _ => nI_toInt (by omega)
  have tn1122_ : nIT N := fun _ => nI_toInt (by omega)
  have tn1123_ : nIT B := fun _ => nI_toInt (by omega)
  have tn1124_ : nIT T := fun _ => nI_toInt (by omega)
  have tn1125_ : nIT S := fun _ => nI_toInt (by omega)
  have tn1126_ : nIT M := fun _ => nI_toInt (by omega)
  refine va_calli (va_runV (As := [.int (nI i), .int 0]) (rest := []) ⟨hx, hb, hml, hown, hg⟩ (c_X11_orderedHarm l dC dI G _ h0 i st N B rp tp T cu lt od th be ln S ma M ah bh ik la lg ce 0 vrs vrb vhs vca vxs vxb vfa vbr vba vsp vhe vtk vva vto fst hN hB_ hT_ hS0 hM_ hi hst) (kwV hg mfX11_orderedHarm wt_1123 ⟨Nat.le_of_ble_eq_true rfl, Nat.le_of_ble_eq_true rfl⟩) (preVR hK hPc (ci := 11) rfl rfl) rfl rfl hl.1 rfl (lv_room (Nat.le_of_ble_eq_true rfl)) dX11_depthThen_3 ⟨Nat.le_of_ble_eq_true rfl, Nat.le_of_ble_eq_true rfl⟩) hS (fun q h1 h2 => absurd h2 (Nat.not_le.mpr h1)) (fun q h => hA q (Nat.le_trans hS.1 h)) (fun r1 ur1 t H1 locs ht hvm w2 hB hz1 hk1 hS => ?_)
  have hP := keepR hP hk1
  obtain ⟨w2, w2x⟩ := w2
  refine lv_istore (lv' := [(4, .int r1), (0, .ref h0), (1, .int (nI i)), (2, .int (nI d)), (3, .int x2)]) hx hb dX11_depthThen_6 hl (by decide) rfl (fun ls hl => ?_)
  refine lv_iload_n hx hb dX11_depthThen_8 rfl (lv_at hl 3 rfl) ?_
  refine lv_if_eq (tgt := 31) hx hb dX11_depthThen_9 (by decide) (fun c3 => ?_) (fun c3 => ?_)
  · skip
    have n4 : d = 0 := by have t := eqI c3; rw [show (nI (d)).toInt = ((d : Nat) : Int) from tn1121_ ()] at t; have : (0 : Int32).toInt = 0 := qI_0; omega
    refine lv_bipush (v := (-4)) hx hb dX11_depthThen_31 (by decide) ?_
    have hpost : ((-4) : Int32) = -4 ∨ ∃ k : Nat, ((-4) : Int32) = nI k ∧ k ≤ 9 := by
      exact Or.inl rfl
    refine W.widen (k := 0) (n := 0) (Nat.le_of_ble_eq_true rfl) (Nat.le_of_ble_eq_true rfl) ?_
    exact W.iret (v := (-4)) hx hb hr (fun t ht hW => ⟨⟨(-4), (), rfl, ⟨hpost, trivial⟩, trivial⟩, hS.F ht⟩) hS.2.2 dX11_depthThen_33
  · skip
    have n5 : d ≠ 0 := by have t := neI c3; rw [show (nI (d)).toInt = ((d : Nat) : Int) from tn1121_ ()] at t; have : (0 : Int32).toInt = 0 := qI_0; omega
    refine lv_iload_n hx hb dX11_depthThen_12 rfl (lv_at hl 4 rfl) ?_
    refine lv_if_eq (tgt := 24) hx hb dX11_depthThen_13 (by decide) (fun c6 => ?_) (fun c6 => ?_)
    · skip
      refine lv_iload hx hb dX11_depthThen_24 (lv_at hl 0 rfl) ?_
      refine lv_bipush (v := 20) hx hb dX11_depthThen_26 (by decide) ?_
      refine lv_icmp_ne (tgt := 34) hx hb dX11_depthThen_28 (by decide) (fun c7 => ?_) (fun c7 => ?_)
      · skip
        refine lv_iload_n hx hb dX11_depthThen_34 rfl (lv_at hl 4 rfl) ?_
        refine lv_if_eq (tgt := 44) hx hb dX11_depthThen_35 (by decide) (fun c8 => ?_) (fun c8 => ?_)
        · skip
          refine lv_iload_n hx hb dX11_depthThen_44 rfl (lv_at hl 3 rfl) ?_
          refine lv_iconst (v := 1) hx hb dX11_depthThen_45 (by decide) ?_
          have hPc := hP.sub (ws' := []) [] rfl
          refine va_calli (va_runS (As := [.int (nI d), .int 1]) (rest := []) ⟨hx, hb, hml, hown, hg⟩ (c_X11_deeper l dC dI G _ d 1 hd9 (by first | omega | (have t_n5 := n5; have t_c6 := eqI c6; have t_c7 := neI c7; have t_c8 := eqI c8; have : (0 : Int32).toInt = 0 := qI_0; have : (20 : Int32).toInt = 20 := qI_20; have t_n0 : (nI i).toInt = (i : Int) := tn1120_ (); have t_n1 : (nI d).toInt = (d : Int) := tn1121_ (); have t_n2 : (nI N).toInt = (N : Int) := tn1122_ (); have t_n3 : (nI B).toInt = (B : Int) := tn1123_ (); have t_n4 : (nI T).toInt = (T : Int) := tn1124_ (); have t_n5 : (nI S).toInt = (S : Int) := tn1125_ (); have t_n6 : (nI M).toInt = (M : Int) := tn1126_ (); have : (1 : Int32).toInt = 1 := qI_1; omega))) (kwS hg mfX11_deeper wt_1128 ⟨Nat.le_of_ble_eq_true rfl, Nat.le_of_ble_eq_true rfl⟩) (preSR hK hPc) rfl rfl hl.1 rfl (lv_room (Nat.le_of_ble_eq_true rfl)) dX11_depthThen_46 ⟨Nat.le_of_ble_eq_true rfl, Nat.le_of_ble_eq_true rfl⟩) hS (fun q h1 h2 => absurd h2 (Nat.not_le.mpr h1)) (fun q h => hA q (Nat.le_trans hS.1 h)) (fun r9 ur9 t H1 locs ht hvm w10 hB hz1 hk1 hS => ?_)
          have hP := keepR hP hk1
          obtain ⟨w10, w10x⟩ := w10
          have hs11 : d ≤ (min 9 (d + 1)) ∧ (min 9 (d + 1)) ≤ 9 := (by omega)
          subst w10
          refine lv_istore (lv' := [(5, .int (nI (min 9 (d + 1)))), (4, .int r1), (0, .ref h0), (1, .int (nI i)), (2, .int (nI d)), (3, .int x2)]) hx hb dX11_depthThen_49 hl (by decide) rfl (fun ls hl => ?_)
          refine lv_aload_n hx hb dX11_depthThen_51 rfl (lv_at hl 2 rfl) ?_
          refine lv_iload_n hx hb dX11_depthThen_52 rfl (lv_at hl 3 rfl) ?_
          refine lv_iload hx hb dX11_depthThen_53 (lv_at hl 0 rfl) ?_
          have hPc := hP.sub (ws' := [(h0, .inr (11, [.ref st, .int (nI N), .int (nI B), .ref rp, .int vrs, .int vrb, .int vhs, .int vca, .int vxs, .int vxb, .ref tp, .int (nI T), .int vfa, .int vbr, .int vba, .int vsp, .int vhe, .int vtk, .int vva, .ref cu, .ref lt, .ref od, .ref th, .ref be, .ref ln, .int (nI S), .ref ma, .int (nI M), .ref ah, .ref bh, .ref ik, .ref la, .ref lg, .ref ce, .int vto])), (ma, .inl (G 0, 12, .inl fma))]) [0, 2] rfl
          refine va_calli (va_runV (As := [.int (nI i), .int (nI (min 9 (d + 1)))]) (rest := []) ⟨hx, hb, hml, hown, hg⟩ (c_X11_isMarked l dC dI G _ h0 st N B rp tp T cu lt od th be ln S ma M ah bh ik la lg ce (nI i) (nI (min 9 (d + 1))) vrs vrb vhs vca vxs vxb vfa vbr vba vsp vhe vtk vva vto fma hN hB_ hT_ hS0 hM_) (kwV hg mfX11_isMarked wt_1228 ⟨Nat.le_of_ble_eq_true rfl, Nat.le_of_ble_eq_true rfl⟩) (preVR hK hPc (ci := 11) rfl rfl) rfl rfl hl.1 rfl (lv_room (Nat.le_of_ble_eq_true rfl)) dX11_depthThen_55 ⟨Nat.le_of_ble_eq_true rfl, Nat.le_of_ble_eq_true rfl⟩) hS (fun q h1 h2 => absurd h2 (Nat.not_le.mpr h1)) (fun q h => hA q (Nat.le_trans hS.1 h)) (fun r12 ur12 t H1 locs ht hvm w13 hB hz1 hk1 hS => ?_)
          have hP := keepR hP hk1
          obtain ⟨w13, w13x⟩ := w13
          refine lv_if_eq (tgt := 66) hx hb dX11_depthThen_58 (by decide) (fun c14 => ?_) (fun c14 => ?_)
          · skip
            refine lv_bipush (v := (-4)) hx hb dX11_depthThen_66 (by decide) ?_
            have hpost : ((-4) : Int32) = -4 ∨ ∃ k : Nat, ((-4) : Int32) = nI k ∧ k ≤ 9 := by
              exact Or.inl rfl
            refine W.widen (k := 0) (n := 0) (Nat.le_of_ble_eq_true rfl) (Nat.le_of_ble_eq_true rfl) ?_
            exact W.iret (v := (-4)) hx hb hr (fun t ht hW => ⟨⟨(-4), (), rfl, ⟨hpost, trivial⟩, trivial⟩, hS.F ht⟩) hS.2.2 dX11_depthThen_68
          · skip
            refine lv_iload hx hb dX11_depthThen_61 (lv_at hl 0 rfl) ?_
            refine lv_goto (tgt := 68) hx hb dX11_depthThen_63 (by decide) ?_
            have hpost : (nI (min 9 (d + 1)) : Int32) = -4 ∨ ∃ k : Nat, (nI (min 9 (d + 1)) : Int32) = nI k ∧ k ≤ 9 := by
              have t_n5 := n5
              have t_c6 := eqI c6
              have t_c7 := neI c7
              have t_c8 := eqI c8
              have t_hs11 := hs11
              have t_c14 := neI c14
              have : (0 : Int32).toInt = 0 := qI_0
              have : (20 : Int32).toInt = 20 := qI_20
              have t_n0 : (nI i).toInt = (i : Int) := tn1120_ ()
              have t_n1 : (nI d).toInt = (d : Int) := tn1121_ ()
              have t_n2 : (nI N).toInt = (N : Int) := tn1122_ ()
              have t_n3 : (nI B).toInt = (B : Int) := tn1123_ ()
              have t_n4 : (nI T).toInt = (T : Int) := tn1124_ ()
              have t_n5 : (nI S).toInt = (S : Int) := tn1125_ ()
              have t_n6 : (nI M).toInt = (M : Int) := tn1126_ ()
              exact Or.inr ⟨(min 9 (d + 1)), rfl, by omega⟩
            refine W.widen (k := 0) (n := 0) (Nat.le_of_ble_eq_true rfl) (Nat.le_of_ble_eq_true rfl) ?_
            exact W.iret (v := nI (min 9 (d + 1))) hx hb hr (fun t ht hW => ⟨⟨nI (min 9 (d + 1)), (), rfl, ⟨hpost, trivial⟩, trivial⟩, hS.F ht⟩) hS.2.2 dX11_depthThen_68
        · skip
          have t_n5 := n5
          have t_c6 := eqI c6
          have t_c7 := neI c7
          have t_c8 := neI c8
          have : (0 : Int32).toInt = 0 := qI_0
          have : (20 : Int32).toInt = 20 := qI_20
          have t_n0 : (nI i).toInt = (i : Int) := tn1120_ ()
          have t_n1 : (nI d).toInt = (d : Int) := tn1121_ ()
          have t_n2 : (nI N).toInt = (N : Int) := tn1122_ ()
          have t_n3 : (nI B).toInt = (B : Int) := tn1123_ ()
          have t_n4 : (nI T).toInt = (T : Int) := tn1124_ ()
          have t_n5 : (nI S).toInt = (S : Int) := tn1125_ ()
          have t_n6 : (nI M).toInt = (M : Int) := tn1126_ ()
          exfalso; omega
      · skip
        refine lv_bipush (v := (-4)) hx hb dX11_depthThen_31 (by decide) ?_
        have hpost : ((-4) : Int32) = -4 ∨ ∃ k : Nat, ((-4) : Int32) = nI k ∧ k ≤ 9 := by
          exact Or.inl rfl
        refine W.widen (k := 0) (n := 0) (Nat.le_of_ble_eq_true rfl) (Nat.le_of_ble_eq_true rfl) ?_
        exact W.iret (v := (-4)) hx hb hr (fun t ht hW => ⟨⟨(-4), (), rfl, ⟨hpost, trivial⟩, trivial⟩, hS.F ht⟩) hS.2.2 dX11_depthThen_33
    · skip
      refine lv_iload hx hb dX11_depthThen_16 (lv_at hl 0 rfl) ?_
      refine lv_if_ne (tgt := 34) hx hb dX11_depthThen_18 (by decide) (fun c15 => ?_) (fun c15 => ?_)
      · skip
        refine lv_iload_n hx hb dX11_depthThen_34 rfl (lv_at hl 4 rfl) ?_
        refine lv_if_eq (tgt := 44) hx hb dX11_depthThen_35 (by decide) (fun c16 => ?_) (fun c16 => ?_)
        · skip
          have t_n5 := n5
          have t_c6 := neI c6
          have t_c15 := neI c15
          have t_c16 := eqI c16
          have : (0 : Int32).toInt = 0 := qI_0
          have t_n0 : (nI i).toInt = (i : Int) := tn1120_ ()
          have t_n1 : (nI d).toInt = (d : Int) := tn1121_ ()
          have t_n2 : (nI N).toInt = (N : Int) := tn1122_ ()
          have t_n3 : (nI B).toInt = (B : Int) := tn1123_ ()
          have t_n4 : (nI T).toInt = (T : Int) := tn1124_ ()
          have t_n5 : (nI S).toInt = (S : Int) := tn1125_ ()
          have t_n6 : (nI M).toInt = (M : Int) := tn1126_ ()
          exfalso; omega
        · skip
          refine lv_iload_n hx hb dX11_depthThen_38 rfl (lv_at hl 3 rfl) ?_
          refine lv_iconst (v := 1) hx hb dX11_depthThen_39 (by decide) ?_
          refine lv_isub hx hb dX11_depthThen_40 ?_
          refine lv_cg (y := nI (d - 1)) (by rw [show (1 : Int32) = nI 1 from rfl]; exact pk_sub (by have t_n5 := n5; have t_c6 := neI c6; have t_c15 := neI c15; have t_c16 := neI c16; have : (0 : Int32).toInt = 0 := qI_0; have t_n0 : (nI i).toInt = (i : Int) := tn1120_ (); have t_n1 : (nI d).toInt = (d : Int) := tn1121_ (); have t_n2 : (nI N).toInt = (N : Int) := tn1122_ (); have t_n3 : (nI B).toInt = (B : Int) := tn1123_ (); have t_n4 : (nI T).toInt = (T : Int) := tn1124_ (); have t_n5 : (nI S).toInt = (S : Int) := tn1125_ (); have t_n6 : (nI M).toInt = (M : Int) := tn1126_ (); omega)) ?_
          refine lv_goto (tgt := 49) hx hb dX11_depthThen_41 (by decide) ?_
          refine lv_istore (lv' := [(5, .int (nI (d - 1))), (4, .int r1), (0, .ref h0), (1, .int (nI i)), (2, .int (nI d)), (3, .int x2)]) hx hb dX11_depthThen_49 hl (by decide) rfl (fun ls hl => ?_)
          refine lv_aload_n hx hb dX11_depthThen_51 rfl (lv_at hl 2 rfl) ?_
          refine lv_iload_n hx hb dX11_depthThen_52 rfl (lv_at hl 3 rfl) ?_
          refine lv_iload hx hb dX11_depthThen_53 (lv_at hl 0 rfl) ?_
          have hPc := hP.sub (ws' := [(h0, .inr (11, [.ref st, .int (nI N), .int (nI B), .ref rp, .int vrs, .int vrb, .int vhs, .int vca, .int vxs, .int vxb, .ref tp, .int (nI T), .int vfa, .int vbr, .int vba, .int vsp, .int vhe, .int vtk, .int vva, .ref cu, .ref lt, .ref od, .ref th, .ref be, .ref ln, .int (nI S), .ref ma, .int (nI M), .ref ah, .ref bh, .ref ik, .ref la, .ref lg, .ref ce, .int vto])), (ma, .inl (G 0, 12, .inl fma))]) [0, 2] rfl
          refine va_calli (va_runV (As := [.int (nI i), .int (nI (d - 1))]) (rest := []) ⟨hx, hb, hml, hown, hg⟩ (c_X11_isMarked l dC dI G _ h0 st N B rp tp T cu lt od th be ln S ma M ah bh ik la lg ce (nI i) (nI (d - 1)) vrs vrb vhs vca vxs vxb vfa vbr vba vsp vhe vtk vva vto fma hN hB_ hT_ hS0 hM_) (kwV hg mfX11_isMarked wt_1228 ⟨Nat.le_of_ble_eq_true rfl, Nat.le_of_ble_eq_true rfl⟩) (preVR hK hPc (ci := 11) rfl rfl) rfl rfl hl.1 rfl (lv_room (Nat.le_of_ble_eq_true rfl)) dX11_depthThen_55 ⟨Nat.le_of_ble_eq_true rfl, Nat.le_of_ble_eq_true rfl⟩) hS (fun q h1 h2 => absurd h2 (Nat.not_le.mpr h1)) (fun q h => hA q (Nat.le_trans hS.1 h)) (fun r17 ur17 t H1 locs ht hvm w18 hB hz1 hk1 hS => ?_)
          have hP := keepR hP hk1
          obtain ⟨w18, w18x⟩ := w18
          refine lv_if_eq (tgt := 66) hx hb dX11_depthThen_58 (by decide) (fun c19 => ?_) (fun c19 => ?_)
          · skip
            refine lv_bipush (v := (-4)) hx hb dX11_depthThen_66 (by decide) ?_
            have hpost : ((-4) : Int32) = -4 ∨ ∃ k : Nat, ((-4) : Int32) = nI k ∧ k ≤ 9 := by
              exact Or.inl rfl
            refine W.widen (k := 0) (n := 0) (Nat.le_of_ble_eq_true rfl) (Nat.le_of_ble_eq_true rfl) ?_
            exact W.iret (v := (-4)) hx hb hr (fun t ht hW => ⟨⟨(-4), (), rfl, ⟨hpost, trivial⟩, trivial⟩, hS.F ht⟩) hS.2.2 dX11_depthThen_68
          · skip
            refine lv_iload hx hb dX11_depthThen_61 (lv_at hl 0 rfl) ?_
            refine lv_goto (tgt := 68) hx hb dX11_depthThen_63 (by decide) ?_
            have hpost : (nI (d - 1) : Int32) = -4 ∨ ∃ k : Nat, (nI (d - 1) : Int32) = nI k ∧ k ≤ 9 := by
              have t_n5 := n5
              have t_c6 := neI c6
              have t_c15 := neI c15
              have t_c16 := neI c16
              have t_c19 := neI c19
              have : (0 : Int32).toInt = 0 := qI_0
              have t_n0 : (nI i).toInt = (i : Int) := tn1120_ ()
              have t_n1 : (nI d).toInt = (d : Int) := tn1121_ ()
              have t_n2 : (nI N).toInt = (N : Int) := tn1122_ ()
              have t_n3 : (nI B).toInt = (B : Int) := tn1123_ ()
              have t_n4 : (nI T).toInt = (T : Int) := tn1124_ ()
              have t_n5 : (nI S).toInt = (S : Int) := tn1125_ ()
              have t_n6 : (nI M).toInt = (M : Int) := tn1126_ ()
              exact Or.inr ⟨(d - 1), rfl, by omega⟩
            refine W.widen (k := 0) (n := 0) (Nat.le_of_ble_eq_true rfl) (Nat.le_of_ble_eq_true rfl) ?_
            exact W.iret (v := nI (d - 1)) hx hb hr (fun t ht hW => ⟨⟨nI (d - 1), (), rfl, ⟨hpost, trivial⟩, trivial⟩, hS.F ht⟩) hS.2.2 dX11_depthThen_68
      · skip
        refine lv_goto (tgt := 31) hx hb dX11_depthThen_21 (by decide) ?_
        refine lv_bipush (v := (-4)) hx hb dX11_depthThen_31 (by decide) ?_
        have hpost : ((-4) : Int32) = -4 ∨ ∃ k : Nat, ((-4) : Int32) = nI k ∧ k ≤ 9 := by
          exact Or.inl rfl
        refine W.widen (k := 0) (n := 0) (Nat.le_of_ble_eq_true rfl) (Nat.le_of_ble_eq_true rfl) ?_
        exact W.iret (v := (-4)) hx hb hr (fun t ht hW => ⟨⟨(-4), (), rfl, ⟨hpost, trivial⟩, trivial⟩, hS.F ht⟩) hS.2.2 dX11_depthThen_33

set_option maxHeartbeats 1000000 in
set_option maxRecDepth 100000 in
theorem c_X11_onward (l : Launch) (dC : Nat → ClassId) (dI : Nat → Nat → Nat) (G : Nat → ClassId) (sz : Nat) (h0 i d st N B rp tp T cu lt od th be ln S ma M ah bh ik la lg ce : Nat) (x2 vrs vrb vhs vca vxs vxb vfa vbr vba vsp vhe vtk vva vto : Int32) (fst : Nat → Int32) (fma : Nat → Int32) (fbh : Nat → Int32) (hN : N ≤ 10) (hB : B ≤ 6) (hT : T ≤ 320) (hS0 : S ≤ 8) (hM : M ≤ 6) (hst : OKS fst) (hi : i < 10) (hd9 : d ≤ 9) : Met l yX11_onward (Cond.code yX11_onward cX11_onward 5 (some .int) :: GT) ({ frames := 4, cells := 0, slots := 0, locals := 97 } : Room) (PcR [.ref h0, .int (nI i), .int (nI d), .int x2] dC dI G [(h0, .inr (11, [.ref st, .int (nI N), .int (nI B), .ref rp, .int vrs, .int vrb, .int vhs, .int vca, .int vxs, .int vxb, .ref tp, .int (nI T), .int vfa, .int vbr, .int vba, .int vsp, .int vhe, .int vtk, .int vva, .ref cu, .ref lt, .ref od, .ref th, .ref be, .ref ln, .int (nI S), .ref ma, .int (nI M), .ref ah, .ref bh, .ref ik, .ref la, .ref lg, .ref ce, .int vto])), (st, .inl (G 0, 196, .inl fst)), (ma, .inl (G 0, 12, .inl fma)), (bh, .inl (G 0, 110, .inl fbh))] sz) (va_Qi (fun (r : Int32) (u : Unit) => match u with | _ => (True) ∧ True) (fun _ _ => True) (fun q : Nat => sz ≤ q)) 0 0 (fun q : Nat => sz ≤ q) := by
  have hB_ := hB
  have hM_ := hM
  have hT_ := hT
  refine Met.ofW (cc := cX11_onward) (maxL := 5) (ret := (some .int)) (by decide) rfl ?_
  intro p e s m args below meth c s₁ Bd hml hv
  obtain ⟨rfl, hsz, hP, hK⟩ := hv
  have hx := Bd.exec
  have hb := Bd.bytes
  have hr := Bd.returns
  have hg : ∀ w ∈ GT, w.before ([.ref h0, .int (nI i), .int (nI d), .int x2] : List Value).toArray s = true := fun w h => atoms_spec (ws := Cond.code yX11_onward cX11_onward 5 (some .int) :: GT) Bd.pre w (List.mem_cons_of_mem _ h)
  have hown : s.vm.findClass RX11 = some m.cls := findClass_of_methodNamed Bd.named
  have hlocks := Bd.notSynchronized
  subst hsz
  have hA : ∀ q : Nat, s.heap.size ≤ q → (fun q : Nat => s.heap.size ≤ q) q := fun _ h => h
  have hS : va_S (fun q : Nat => s.heap.size ≤ q) s.heap s.heap [] := va_S.rf
  have hl := lv_entry ([.ref h0, .int (nI i), .int (nI d), .int x2]) (n := 5) (Nat.le_of_ble_eq_true rfl)
  rw [lg_entry_eq]
  generalize (lg_sl ([.ref h0, .int (nI i), .int (nI d), .int x2]) ++ List.replicate (5 - (lg_sl ([.ref h0, .int (nI i), .int (nI d), .int x2])).length) Slot.unset).toArray = ls at hl ⊢
  have hl : lv_has ls 5 [(0, .ref h0), (1, .int (nI i)), (2, .int (nI d)), (3, .int x2)] := hl
  refine lv_aload_n hx hb dX11_onward_0 rfl (lv_at hl 0 rfl) ?_
  refine lv_iload_n hx hb dX11_onward_1 rfl (lv_at hl 1 rfl) ?_
  refine lv_iload_n hx hb dX11_onward_2 rfl (lv_at hl 2 rfl) ?_
  refine lv_iload_n hx hb dX11_onward_3 rfl (lv_at hl 3 rfl) ?_
  have hPc := hP.sub (ws' := [(h0, .inr (11, [.ref st, .int (nI N), .int (nI B), .ref rp, .int vrs, .int vrb, .int vhs, .int vca, .int vxs, .int vxb, .ref tp, .int (nI T), .int vfa, .int vbr, .int vba, .int vsp, .int vhe, .int vtk, .int vva, .ref cu, .ref lt, .ref od, .ref th, .ref be, .ref ln, .int (nI S), .ref ma, .int (nI M), .ref ah, .ref bh, .ref ik, .ref la, .ref lg, .ref ce, .int vto])), (st, .inl (G 0, 196, .inl fst)), (ma, .inl (G 0, 12, .inl fma))]) [0, 1, 2] rfl
  have tn1127_ : nIT i := fun _ => nI_toInt (by omega)
  have tn1128_ : nIT d := fun _ => nI_toInt (by omega)
  have tn1129_ : nIT N := fun _ => nI_toInt (by omega)
  have tn1130_ : nIT B := fun _ => nI_toInt (by omega)
  have tn1131_ : nIT T := fun _ => nI_toInt (by omega)
  have tn1132_ : nIT S := fun _ => nI_toInt (by omega)
  have tn1133_ : nIT M := fun _ => nI_toInt (by omega)
  refine va_calli (va_runV (As := [.int (nI i), .int (nI d), .int x2]) (rest := []) ⟨hx, hb, hml, hown, hg⟩ (c_X11_depthThen l dC dI G _ h0 i d st N B rp tp T cu lt od th be ln S ma M ah bh ik la lg ce x2 vrs vrb vhs vca vxs vxb vfa vbr vba vsp vhe vtk vva vto fst fma hN hB_ hT_ hS0 hM_ hst hi hd9) (kwV hg mfX11_depthThen wt_1224 ⟨Nat.le_of_ble_eq_true rfl, Nat.le_of_ble_eq_true rfl⟩) (preVR hK hPc (ci := 11) rfl rfl) rfl rfl hl.1 rfl (lv_room (Nat.le_of_ble_eq_true rfl)) dX11_onward_4 ⟨Nat.le_of_ble_eq_true rfl, Nat.le_of_ble_eq_true rfl⟩) hS (fun q h1 h2 => absurd h2 (Nat.not_le.mpr h1)) (fun q h => hA q (Nat.le_trans hS.1 h)) (fun r1 ur1 t H1 locs ht hvm w2 hB hz1 hk1 hS => ?_)
  have hP := keepR hP hk1
  obtain ⟨w2, w2x⟩ := w2
  rcases w2 with w21 | ⟨w20, w21, w22⟩
  · skip
    refine lv_cg (y := (-4)) w21 ?_
    refine lv_istore (lv' := [(4, .int (-4)), (0, .ref h0), (1, .int (nI i)), (2, .int (nI d)), (3, .int x2)]) hx hb dX11_onward_7 hl (by decide) rfl (fun ls hl => ?_)
    refine lv_iload hx hb dX11_onward_9 (lv_at hl 0 rfl) ?_
    refine lv_bipush (v := (-4)) hx hb dX11_onward_11 (by decide) ?_
    refine lv_icmp_ne (tgt := 20) hx hb dX11_onward_13 (by decide) (fun c3 => ?_) (fun c3 => ?_)
    · skip
      exact absurd c3 (by decide)
    · skip
      refine lv_iconst (v := 0) hx hb dX11_onward_16 (by decide) ?_
      refine lv_goto (tgt := 35) hx hb dX11_onward_17 (by decide) ?_
      have hpost : True := by
        trivial
      refine W.widen (k := 0) (n := 0) (Nat.le_of_ble_eq_true rfl) (Nat.le_of_ble_eq_true rfl) ?_
      exact W.iret (v := 0) hx hb hr (fun t ht hW => ⟨⟨0, (), rfl, ⟨hpost, trivial⟩, trivial⟩, hS.F ht⟩) hS.2.2 dX11_onward_35
  · skip
    refine lv_cg (y := nI w20) w21 ?_
    refine lv_istore (lv' := [(4, .int (nI w20)), (0, .ref h0), (1, .int (nI i)), (2, .int (nI d)), (3, .int x2)]) hx hb dX11_onward_7 hl (by decide) rfl (fun ls hl => ?_)
    refine lv_iload hx hb dX11_onward_9 (lv_at hl 0 rfl) ?_
    refine lv_bipush (v := (-4)) hx hb dX11_onward_11 (by decide) ?_
    refine lv_icmp_ne (tgt := 20) hx hb dX11_onward_13 (by decide) (fun c4 => ?_) (fun c4 => ?_)
    · skip
      refine lv_aload_n hx hb dX11_onward_20 rfl (lv_at hl 1 rfl) ?_
      refine va_get (D := (dC, dI)) (ci := 11) (v := .ref bh) (C := RX11) (T := TX11) (N := 35) hx hb hg inG11 hown hK.1 hP 0 rfl rfl 29 (by decide) (hg _ wt_907) (fun _ h9 => h9) rfl dX11_onward_21 ?_
      refine lv_bipush (v := 10) hx hb dX11_onward_24 (by decide) ?_
      refine lv_iload_n hx hb dX11_onward_26 rfl (lv_at hl 2 rfl) ?_
      refine lv_imul hx hb dX11_onward_27 ?_
      refine lv_cg (y := nI (10 * i)) (by rw [show (10 : Int32) = nI 10 from rfl]; exact pk_mul _ _) ?_
      refine lv_bipush (v := 10) hx hb dX11_onward_28 (by decide) ?_
      refine lv_iadd hx hb dX11_onward_30 ?_
      refine lv_cg (y := nI ((10 * i) + 10)) (by rw [show (10 : Int32) = nI 10 from rfl]; exact nI_add _ _) ?_
      refine lv_iload hx hb dX11_onward_31 (lv_at hl 0 rfl) ?_
      refine lv_iadd hx hb dX11_onward_33 ?_
      refine lv_cg (y := nI (((10 * i) + 10) + w20)) (by exact nI_add _ _) ?_
      have tn1134_ : nIT w20 := fun _ => nI_toInt (by first | omega | (have t_w22 := w22; have t_c4 := neI c4; have : ((-4) : Int32).toInt = -4 := qI_m4; omega))
      refine va_iald hx hb hK.1 hP 3 0 rfl rfl (vp_in_nI (by first | omega | (have t_w22 := w22; have t_c4 := neI c4; have : ((-4) : Int32).toInt = -4 := qI_m4; have t_n0 : (nI i).toInt = (i : Int) := tn1127_ (); have t_n1 : (nI d).toInt = (d : Int) := tn1128_ (); have t_n2 : (nI N).toInt = (N : Int) := tn1129_ (); have t_n3 : (nI B).toInt = (B : Int) := tn1130_ (); have t_n4 : (nI T).toInt = (T : Int) := tn1131_ (); have t_n5 : (nI S).toInt = (S : Int) := tn1132_ (); have t_n6 : (nI M).toInt = (M : Int) := tn1133_ (); have t_n7 : (nI w20).toInt = (w20 : Int) := tn1134_ (); omega)) (by decide)) dX11_onward_34 ?_
      refine lv_cg (y := fbh (((10 * i) + 10) + w20)) (by rw [nI_clamp (by omega)]) ?_
      have hpost : True := by
        trivial
      refine W.widen (k := 0) (n := 0) (Nat.le_of_ble_eq_true rfl) (Nat.le_of_ble_eq_true rfl) ?_
      exact W.iret (v := fbh (((10 * i) + 10) + w20)) hx hb hr (fun t ht hW => ⟨⟨fbh (((10 * i) + 10) + w20), (), rfl, ⟨hpost, trivial⟩, trivial⟩, hS.F ht⟩) hS.2.2 dX11_onward_35
    · skip
      have t_w22 := w22
      have t_c4 := eqI c4
      have : ((-4) : Int32).toInt = -4 := qI_m4
      have t_n0 : (nI i).toInt = (i : Int) := tn1127_ ()
      have t_n1 : (nI d).toInt = (d : Int) := tn1128_ ()
      have t_n2 : (nI N).toInt = (N : Int) := tn1129_ ()
      have t_n3 : (nI B).toInt = (B : Int) := tn1130_ ()
      have t_n4 : (nI T).toInt = (T : Int) := tn1131_ ()
      have t_n5 : (nI S).toInt = (S : Int) := tn1132_ ()
      have t_n6 : (nI M).toInt = (M : Int) := tn1133_ ()
      have tn1135_ : nIT w20 := fun _ => nI_toInt (by omega)
      have t_n7 : (nI w20).toInt = (w20 : Int) := tn1135_ ()
      exfalso; omega

set_option maxHeartbeats 1000000 in
set_option maxRecDepth 100000 in
theorem c_X11_layPaths (l : Launch) (dC : Nat → ClassId) (dI : Nat → Nat → Nat) (G : Nat → ClassId) (sz : Nat) (h0 st N B rp tp T cu lt od th be ln S ma M ah bh ik la lg ce : Nat) (vrs vrb vhs vca vxs vxb vfa vbr vba vsp vhe vtk vva vto : Int32) (fst : Nat → Int32) (fma : Nat → Int32) (fah : Nat → Int32) (fbh : Nat → Int32) (hN : N ≤ 10) (hB : B ≤ 6) (hT : T ≤ 320) (hS0 : S ≤ 8) (hM : M ≤ 6) (hst : OKS fst) : Met l yX11_layPaths (Cond.code yX11_layPaths cX11_layPaths 6 none :: GT) ({ frames := 5, cells := 0, slots := 0, locals := 121 } : Room) (PcW [.ref h0] dC dI G [(h0, .inr (11, [.ref st, .int (nI N), .int (nI B), .ref rp, .int vrs, .int vrb, .int vhs, .int vca, .int vxs, .int vxb, .ref tp, .int (nI T), .int vfa, .int vbr, .int vba, .int vsp, .int vhe, .int vtk, .int vva, .ref cu, .ref lt, .ref od, .ref th, .ref be, .ref ln, .int (nI S), .ref ma, .int (nI M), .ref ah, .ref bh, .ref ik, .ref la, .ref lg, .ref ce, .int vto])), (st, .inl (G 0, 196, .inl fst)), (ma, .inl (G 0, 12, .inl fma)), (ah, .inl (G 0, 110, .inl fah)), (bh, .inl (G 0, 110, .inl fbh))] sz) (va_Qv (fun (u : (Nat → Int32) × (Nat → Int32)) => match u with | (oah, obh) => True) (fun (u : (Nat → Int32) × (Nat → Int32)) (t : State) => match u with | (oah, obh) => va_P (dC, dI) vwCl [(h0, .inr (11, [.ref st, .int (nI N), .int (nI B), .ref rp, .int vrs, .int vrb, .int vhs, .int vca, .int vxs, .int vxb, .ref tp, .int (nI T), .int vfa, .int vbr, .int vba, .int vsp, .int vhe, .int vtk, .int vva, .ref cu, .ref lt, .ref od, .ref th, .ref be, .ref ln, .int (nI S), .ref ma, .int (nI M), .ref ah, .ref bh, .ref ik, .ref la, .ref lg, .ref ce, .int vto])), (st, .inl (G 0, 196, .inl fst)), (ma, .inl (G 0, 12, .inl fma)), (ah, .inl (G 0, 110, .inl oah)), (bh, .inl (G 0, 110, .inl obh))] t.heap ∧ va_D (va_A [(h0, .inr (11, [.ref st, .int (nI N), .int (nI B), .ref rp, .int vrs, .int vrb, .int vhs, .int vca, .int vxs, .int vxb, .ref tp, .int (nI T), .int vfa, .int vbr, .int vba, .int vsp, .int vhe, .int vtk, .int vva, .ref cu, .ref lt, .ref od, .ref th, .ref be, .ref ln, .int (nI S), .ref ma, .int (nI M), .ref ah, .ref bh, .ref ik, .ref la, .ref lg, .ref ce, .int vto])), (st, .inl (G 0, 196, .inl fst)), (ma, .inl (G 0, 12, .inl fma)), (ah, .inl (G 0, 110, .inl fah)), (bh, .inl (G 0, 110, .inl fbh))] sz) [(h0, .inr (11, [.ref st, .int (nI N), .int (nI B), .ref rp, .int vrs, .int vrb, .int vhs, .int vca, .int vxs, .int vxb, .ref tp, .int (nI T), .int vfa, .int vbr, .int vba, .int vsp, .int vhe, .int vtk, .int vva, .ref cu, .ref lt, .ref od, .ref th, .ref be, .ref ln, .int (nI S), .ref ma, .int (nI M), .ref ah, .ref bh, .ref ik, .ref la, .ref lg, .ref ce, .int vto])), (st, .inl (G 0, 196, .inl fst)), (ma, .inl (G 0, 12, .inl fma)), (ah, .inl (G 0, 110, .inl oah)), (bh, .inl (G 0, 110, .inl obh))]) (va_A [(h0, .inr (11, [.ref st, .int (nI N), .int (nI B), .ref rp, .int vrs, .int vrb, .int vhs, .int vca, .int vxs, .int vxb, .ref tp, .int (nI T), .int vfa, .int vbr, .int vba, .int vsp, .int vhe, .int vtk, .int vva, .ref cu, .ref lt, .ref od, .ref th, .ref be, .ref ln, .int (nI S), .ref ma, .int (nI M), .ref ah, .ref bh, .ref ik, .ref la, .ref lg, .ref ce, .int vto])), (st, .inl (G 0, 196, .inl fst)), (ma, .inl (G 0, 12, .inl fma)), (ah, .inl (G 0, 110, .inl fah)), (bh, .inl (G 0, 110, .inl fbh))] sz)) 0 0 (va_A [(h0, .inr (11, [.ref st, .int (nI N), .int (nI B), .ref rp, .int vrs, .int vrb, .int vhs, .int vca, .int vxs, .int vxb, .ref tp, .int (nI T), .int vfa, .int vbr, .int vba, .int vsp, .int vhe, .int vtk, .int vva, .ref cu, .ref lt, .ref od, .ref th, .ref be, .ref ln, .int (nI S), .ref ma, .int (nI M), .ref ah, .ref bh, .ref ik, .ref la, .ref lg, .ref ce, .int vto])), (st, .inl (G 0, 196, .inl fst)), (ma, .inl (G 0, 12, .inl fma)), (ah, .inl (G 0, 110, .inl fah)), (bh, .inl (G 0, 110, .inl fbh))] sz) := by
  have hB_ := hB
  have hM_ := hM
  have hT_ := hT
  refine Met.ofW (cc := cX11_layPaths) (maxL := 6) (ret := none) (by decide) rfl ?_
  intro p e s m args below meth c s₁ Bd hml hv
  obtain ⟨rfl, hsz, hP, hK, hD0⟩ := hv
  have hx := Bd.exec
  have hb := Bd.bytes
  have hr := Bd.returns
  have hg : ∀ w ∈ GT, w.before ([.ref h0] : List Value).toArray s = true := fun w h => atoms_spec (ws := Cond.code yX11_layPaths cX11_layPaths 6 none :: GT) Bd.pre w (List.mem_cons_of_mem _ h)
  have hown : s.vm.findClass RX11 = some m.cls := findClass_of_methodNamed Bd.named
  have hlocks := Bd.notSynchronized
  subst hsz
  have hD := hD0.self (sz := s.heap.size)
  generalize hAe : va_A [(h0, .inr (11, [.ref st, .int (nI N), .int (nI B), .ref rp, .int vrs, .int vrb, .int vhs, .int vca, .int vxs, .int vxb, .ref tp, .int (nI T), .int vfa, .int vbr, .int vba, .int vsp, .int vhe, .int vtk, .int vva, .ref cu, .ref lt, .ref od, .ref th, .ref be, .ref ln, .int (nI S), .ref ma, .int (nI M), .ref ah, .ref bh, .ref ik, .ref la, .ref lg, .ref ce, .int vto])), (st, .inl (G 0, 196, .inl fst)), (ma, .inl (G 0, 12, .inl fma)), (ah, .inl (G 0, 110, .inl fah)), (bh, .inl (G 0, 110, .inl fbh))] s.heap.size = A at hD ⊢
  have hA : ∀ q : Nat, s.heap.size ≤ q → A q := fun q h => by rw [← hAe]; exact Or.inr h
  have hS : va_S A s.heap s.heap [] := va_S.rf
  have hl := lv_entry ([.ref h0]) (n := 6) (Nat.le_of_ble_eq_true rfl)
  rw [lg_entry_eq]
  generalize (lg_sl ([.ref h0]) ++ List.replicate (6 - (lg_sl ([.ref h0])).length) Slot.unset).toArray = ls at hl ⊢
  have hl : lv_has ls 6 [(0, .ref h0)] := hl
  refine lv_iconst (v := 0) hx hb dX11_layPaths_0 (by decide) ?_
  refine lv_istore_n (lv' := [(1, .int 0), (0, .ref h0)]) hx hb dX11_layPaths_1 rfl hl (by decide) rfl (fun ls hl => ?_)
  have loop2_4 : ∀ (nf j1 : Nat), 110 + 1 ≤ j1 + nf → j1 ≤ 110 → ∀ (g2 : Nat → Int32) (g3 : Nat → Int32) (H : Heap) (locs : List Loc), va_P (dC, dI) vwCl [(h0, .inr (11, [.ref st, .int (nI N), .int (nI B), .ref rp, .int vrs, .int vrb, .int vhs, .int vca, .int vxs, .int vxb, .ref tp, .int (nI T), .int vfa, .int vbr, .int vba, .int vsp, .int vhe, .int vtk, .int vva, .ref cu, .ref lt, .ref od, .ref th, .ref be, .ref ln, .int (nI S), .ref ma, .int (nI M), .ref ah, .ref bh, .ref ik, .ref la, .ref lg, .ref ce, .int vto])), (st, .inl (G 0, 196, .inl fst)), (ma, .inl (G 0, 12, .inl fma)), (ah, .inl (G 0, 110, .inl g2)), (bh, .inl (G 0, 110, .inl g3))] H → va_D A [(h0, .inr (11, [.ref st, .int (nI N), .int (nI B), .ref rp, .int vrs, .int vrb, .int vhs, .int vca, .int vxs, .int vxb, .ref tp, .int (nI T), .int vfa, .int vbr, .int vba, .int vsp, .int vhe, .int vtk, .int vva, .ref cu, .ref lt, .ref od, .ref th, .ref be, .ref ln, .int (nI S), .ref ma, .int (nI M), .ref ah, .ref bh, .ref ik, .ref la, .ref lg, .ref ce, .int vto])), (st, .inl (G 0, 196, .inl fst)), (ma, .inl (G 0, 12, .inl fma)), (ah, .inl (G 0, 110, .inl g2)), (bh, .inl (G 0, 110, .inl g3))] → va_S A s.heap H locs → ∀ (ls : Array Slot), lv_has ls 6 [(1, .int (nI j1)), (0, .ref h0)] → W p l e (headSpec (Cond.code yX11_layPaths cX11_layPaths 6 none :: GT) ({ frames := 5, cells := 0, slots := 0, locals := 121 } : Room)).room s m ([.ref h0] : List Value).toArray below meth c H locs 0 0 (MQ below (va_Qv (fun (u : (Nat → Int32) × (Nat → Int32)) => match u with | (oah, obh) => True) (fun (u : (Nat → Int32) × (Nat → Int32)) (t : State) => match u with | (oah, obh) => va_P (dC, dI) vwCl [(h0, .inr (11, [.ref st, .int (nI N), .int (nI B), .ref rp, .int vrs, .int vrb, .int vhs, .int vca, .int vxs, .int vxb, .ref tp, .int (nI T), .int vfa, .int vbr, .int vba, .int vsp, .int vhe, .int vtk, .int vva, .ref cu, .ref lt, .ref od, .ref th, .ref be, .ref ln, .int (nI S), .ref ma, .int (nI M), .ref ah, .ref bh, .ref ik, .ref la, .ref lg, .ref ce, .int vto])), (st, .inl (G 0, 196, .inl fst)), (ma, .inl (G 0, 12, .inl fma)), (ah, .inl (G 0, 110, .inl oah)), (bh, .inl (G 0, 110, .inl obh))] t.heap ∧ va_D A [(h0, .inr (11, [.ref st, .int (nI N), .int (nI B), .ref rp, .int vrs, .int vrb, .int vhs, .int vca, .int vxs, .int vxb, .ref tp, .int (nI T), .int vfa, .int vbr, .int vba, .int vsp, .int vhe, .int vtk, .int vva, .ref cu, .ref lt, .ref od, .ref th, .ref be, .ref ln, .int (nI S), .ref ma, .int (nI M), .ref ah, .ref bh, .ref ik, .ref la, .ref lg, .ref ce, .int vto])), (st, .inl (G 0, 196, .inl fst)), (ma, .inl (G 0, 12, .inl fma)), (ah, .inl (G 0, 110, .inl oah)), (bh, .inl (G 0, 110, .inl obh))]) A) ([.ref h0] : List Value).toArray s 0 0 A) (F0 m 2 ls []) := by
    intro nf
    induction nf with
    | zero => intro j1 h1 h2; exact absurd h1 (by omega)
    | succ nf ih2_4 =>
      intro j1 hn5 hj6 g2 g3 H locs hP hD hS ls hl
      refine lv_iload_n hx hb dX11_layPaths_2 rfl (lv_at hl 0 rfl) ?_
      refine lv_bipush (v := 110) hx hb dX11_layPaths_3 (by decide) ?_
      refine lv_icmp_ge (tgt := 55) hx hb dX11_layPaths_5 (by decide) (fun c7 => ?_) (fun c7 => ?_)
      · skip
        have tn1136_ : nIT j1 := fun _ => nI_toInt (by first | omega | (have t := leI c7; omega))
        have n8 : 110 ≤ j1 := by have t := leI c7; rw [show (nI (j1)).toInt = ((j1 : Nat) : Int) from tn1136_ ()] at t; have : (110 : Int32).toInt = 110 := qI_110; omega
        refine lv_iconst (v := 0) hx hb dX11_layPaths_55 (by decide) ?_
        refine lv_istore_n (lv' := [(1, .int 0), (0, .ref h0)]) hx hb dX11_layPaths_56 rfl hl (by decide) rfl (fun ls hl => ?_)
        have loop57_11 : ∀ (nf j9 : Nat), N + 1 ≤ j9 + nf → j9 ≤ N → ∀ (g10 : Nat → Int32) (H : Heap) (locs : List Loc), va_P (dC, dI) vwCl [(h0, .inr (11, [.ref st, .int (nI N), .int (nI B), .ref rp, .int vrs, .int vrb, .int vhs, .int vca, .int vxs, .int vxb, .ref tp, .int (nI T), .int vfa, .int vbr, .int vba, .int vsp, .int vhe, .int vtk, .int vva, .ref cu, .ref lt, .ref od, .ref th, .ref be, .ref ln, .int (nI S), .ref ma, .int (nI M), .ref ah, .ref bh, .ref ik, .ref la, .ref lg, .ref ce, .int vto])), (st, .inl (G 0, 196, .inl fst)), (ma, .inl (G 0, 12, .inl fma)), (ah, .inl (G 0, 110, .inl g10)), (bh, .inl (G 0, 110, .inl g3))] H → va_D A [(h0, .inr (11, [.ref st, .int (nI N), .int (nI B), .ref rp, .int vrs, .int vrb, .int vhs, .int vca, .int vxs, .int vxb, .ref tp, .int (nI T), .int vfa, .int vbr, .int vba, .int vsp, .int vhe, .int vtk, .int vva, .ref cu, .ref lt, .ref od, .ref th, .ref be, .ref ln, .int (nI S), .ref ma, .int (nI M), .ref ah, .ref bh, .ref ik, .ref la, .ref lg, .ref ce, .int vto])), (st, .inl (G 0, 196, .inl fst)), (ma, .inl (G 0, 12, .inl fma)), (ah, .inl (G 0, 110, .inl g10)), (bh, .inl (G 0, 110, .inl g3))] → va_S A s.heap H locs → ∀ (ls : Array Slot), lv_has ls 6 [(1, .int (nI j9)), (0, .ref h0)] → W p l e (headSpec (Cond.code yX11_layPaths cX11_layPaths 6 none :: GT) ({ frames := 5, cells := 0, slots := 0, locals := 121 } : Room)).room s m ([.ref h0] : List Value).toArray below meth c H locs 0 0 (MQ below (va_Qv (fun (u : (Nat → Int32) × (Nat → Int32)) => match u with | (oah, obh) => True) (fun (u : (Nat → Int32) × (Nat → Int32)) (t : State) => match u with | (oah, obh) => va_P (dC, dI) vwCl [(h0, .inr (11, [.ref st, .int (nI N), .int (nI B), .ref rp, .int vrs, .int vrb, .int vhs, .int vca, .int vxs, .int vxb, .ref tp, .int (nI T), .int vfa, .int vbr, .int vba, .int vsp, .int vhe, .int vtk, .int vva, .ref cu, .ref lt, .ref od, .ref th, .ref be, .ref ln, .int (nI S), .ref ma, .int (nI M), .ref ah, .ref bh, .ref ik, .ref la, .ref lg, .ref ce, .int vto])), (st, .inl (G 0, 196, .inl fst)), (ma, .inl (G 0, 12, .inl fma)), (ah, .inl (G 0, 110, .inl oah)), (bh, .inl (G 0, 110, .inl obh))] t.heap ∧ va_D A [(h0, .inr (11, [.ref st, .int (nI N), .int (nI B), .ref rp, .int vrs, .int vrb, .int vhs, .int vca, .int vxs, .int vxb, .ref tp, .int (nI T), .int vfa, .int vbr, .int vba, .int vsp, .int vhe, .int vtk, .int vva, .ref cu, .ref lt, .ref od, .ref th, .ref be, .ref ln, .int (nI S), .ref ma, .int (nI M), .ref ah, .ref bh, .ref ik, .ref la, .ref lg, .ref ce, .int vto])), (st, .inl (G 0, 196, .inl fst)), (ma, .inl (G 0, 12, .inl fma)), (ah, .inl (G 0, 110, .inl oah)), (bh, .inl (G 0, 110, .inl obh))]) A) ([.ref h0] : List Value).toArray s 0 0 A) (F0 m 57 ls []) := by
          intro nf
          induction nf with
          | zero => intro j9 h1 h2; exact absurd h1 (by omega)
          | succ nf ih57_11 =>
            intro j9 hn12 hj13 g10 H locs hP hD hS ls hl
            refine lv_iload_n hx hb dX11_layPaths_57 rfl (lv_at hl 0 rfl) ?_
            refine lv_aload_n hx hb dX11_layPaths_58 rfl (lv_at hl 1 rfl) ?_
            refine va_get (D := (dC, dI)) (ci := 11) (v := .int (nI N)) (C := RX11) (T := TX11) (N := 35) hx hb hg inG11 hown hK.1 hP 0 rfl rfl 1 (by decide) (hg _ wt_879) (fun _ h9 => h9) rfl dX11_layPaths_59 ?_
            refine lv_icmp_ge (tgt := 196) hx hb dX11_layPaths_62 (by decide) (fun c14 => ?_) (fun c14 => ?_)
            · skip
              have tn1137_ : nIT j9 := fun _ => nI_toInt (by first | omega | (have t := leI c14; omega))
              have tn1138_ : nIT N := fun _ => nI_toInt (by omega)
              have n15 : N ≤ j9 := by have t := leI c14; rw [show (nI (j9)).toInt = ((j9 : Nat) : Int) from tn1137_ ()] at t; rw [show (nI (N)).toInt = ((N : Nat) : Int) from tn1138_ ()] at t; omega
              refine lv_aload_n hx hb dX11_layPaths_196 rfl (lv_at hl 1 rfl) ?_
              refine va_get (D := (dC, dI)) (ci := 11) (v := .int (nI N)) (C := RX11) (T := TX11) (N := 35) hx hb hg inG11 hown hK.1 hP 0 rfl rfl 1 (by decide) (hg _ wt_879) (fun _ h9 => h9) rfl dX11_layPaths_197 ?_
              refine lv_iconst (v := 1) hx hb dX11_layPaths_200 (by decide) ?_
              refine lv_isub hx hb dX11_layPaths_201 ?_
              refine lv_istore_n (lv' := [(1, .int ((nI N) - 1)), (0, .ref h0)]) hx hb dX11_layPaths_202 rfl hl (by decide) rfl (fun ls hl => ?_)
              rw [dn_sub] at hl
              have loop203_18 : ∀ (j16 : Nat), j16 ≤ N → ∀ (g17 : Nat → Int32) (H : Heap) (locs : List Loc), va_P (dC, dI) vwCl [(h0, .inr (11, [.ref st, .int (nI N), .int (nI B), .ref rp, .int vrs, .int vrb, .int vhs, .int vca, .int vxs, .int vxb, .ref tp, .int (nI T), .int vfa, .int vbr, .int vba, .int vsp, .int vhe, .int vtk, .int vva, .ref cu, .ref lt, .ref od, .ref th, .ref be, .ref ln, .int (nI S), .ref ma, .int (nI M), .ref ah, .ref bh, .ref ik, .ref la, .ref lg, .ref ce, .int vto])), (st, .inl (G 0, 196, .inl fst)), (ma, .inl (G 0, 12, .inl fma)), (ah, .inl (G 0, 110, .inl g10)), (bh, .inl (G 0, 110, .inl g17))] H → va_D A [(h0, .inr (11, [.ref st, .int (nI N), .int (nI B), .ref rp, .int vrs, .int vrb, .int vhs, .int vca, .int vxs, .int vxb, .ref tp, .int (nI T), .int vfa, .int vbr, .int vba, .int vsp, .int vhe, .int vtk, .int vva, .ref cu, .ref lt, .ref od, .ref th, .ref be, .ref ln, .int (nI S), .ref ma, .int (nI M), .ref ah, .ref bh, .ref ik, .ref la, .ref lg, .ref ce, .int vto])), (st, .inl (G 0, 196, .inl fst)), (ma, .inl (G 0, 12, .inl fma)), (ah, .inl (G 0, 110, .inl g10)), (bh, .inl (G 0, 110, .inl g17))] → va_S A s.heap H locs → ∀ (ls : Array Slot), lv_has ls 6 [(1, .int (dn j16)), (0, .ref h0)] → W p l e (headSpec (Cond.code yX11_layPaths cX11_layPaths 6 none :: GT) ({ frames := 5, cells := 0, slots := 0, locals := 121 } : Room)).room s m ([.ref h0] : List Value).toArray below meth c H locs 0 0 (MQ below (va_Qv (fun (u : (Nat → Int32) × (Nat → Int32)) => match u with | (oah, obh) => True) (fun (u : (Nat → Int32) × (Nat → Int32)) (t : State) => match u with | (oah, obh) => va_P (dC, dI) vwCl [(h0, .inr (11, [.ref st, .int (nI N), .int (nI B), .ref rp, .int vrs, .int vrb, .int vhs, .int vca, .int vxs, .int vxb, .ref tp, .int (nI T), .int vfa, .int vbr, .int vba, .int vsp, .int vhe, .int vtk, .int vva, .ref cu, .ref lt, .ref od, .ref th, .ref be, .ref ln, .int (nI S), .ref ma, .int (nI M), .ref ah, .ref bh, .ref ik, .ref la, .ref lg, .ref ce, .int vto])), (st, .inl (G 0, 196, .inl fst)), (ma, .inl (G 0, 12, .inl fma)), (ah, .inl (G 0, 110, .inl oah)), (bh, .inl (G 0, 110, .inl obh))] t.heap ∧ va_D A [(h0, .inr (11, [.ref st, .int (nI N), .int (nI B), .ref rp, .int vrs, .int vrb, .int vhs, .int vca, .int vxs, .int vxb, .ref tp, .int (nI T), .int vfa, .int vbr, .int vba, .int vsp, .int vhe, .int vtk, .int vva, .ref cu, .ref lt, .ref od, .ref th, .ref be, .ref ln, .int (nI S), .ref ma, .int (nI M), .ref ah, .ref bh, .ref ik, .ref la, .ref lg, .ref ce, .int vto])), (st, .inl (G 0, 196, .inl fst)), (ma, .inl (G 0, 12, .inl fma)), (ah, .inl (G 0, 110, .inl oah)), (bh, .inl (G 0, 110, .inl obh))]) A) ([.ref h0] : List Value).toArray s 0 0 A) (F0 m 203 ls []) := by
                intro j16
                induction j16 with
                | zero =>
                  intro hj19 g17 H locs hP hD hS ls hl
                  have hl : lv_has ls 6 [(1, .int (-1)), (0, .ref h0)] := hl
                  refine lv_iload_n hx hb dX11_layPaths_203 rfl (lv_at hl 0 rfl) ?_
                  refine lv_if_lt (tgt := 281) hx hb dX11_layPaths_204 (by decide) (fun c20 => ?_) (fun c20 => ?_)
                  · skip
                    have hP9 := hP.sub (ws' := [(h0, .inr (11, [.ref st, .int (nI N), .int (nI B), .ref rp, .int vrs, .int vrb, .int vhs, .int vca, .int vxs, .int vxb, .ref tp, .int (nI T), .int vfa, .int vbr, .int vba, .int vsp, .int vhe, .int vtk, .int vva, .ref cu, .ref lt, .ref od, .ref th, .ref be, .ref ln, .int (nI S), .ref ma, .int (nI M), .ref ah, .ref bh, .ref ik, .ref la, .ref lg, .ref ce, .int vto])), (st, .inl (G 0, 196, .inl fst)), (ma, .inl (G 0, 12, .inl fma)), (ah, .inl (G 0, 110, .inl g10)), (bh, .inl (G 0, 110, .inl g17))]) [0, 1, 2, 3, 4] rfl
                    have hD9 := hD.sub (ws' := [(h0, .inr (11, [.ref st, .int (nI N), .int (nI B), .ref rp, .int vrs, .int vrb, .int vhs, .int vca, .int vxs, .int vxb, .ref tp, .int (nI T), .int vfa, .int vbr, .int vba, .int vsp, .int vhe, .int vtk, .int vva, .ref cu, .ref lt, .ref od, .ref th, .ref be, .ref ln, .int (nI S), .ref ma, .int (nI M), .ref ah, .ref bh, .ref ik, .ref la, .ref lg, .ref ce, .int vto])), (st, .inl (G 0, 196, .inl fst)), (ma, .inl (G 0, 12, .inl fma)), (ah, .inl (G 0, 110, .inl g10)), (bh, .inl (G 0, 110, .inl g17))]) [0, 1, 2, 3, 4] (by decide) rfl
                    refine W.widen (k := 0) (n := 0) (Nat.le_of_ble_eq_true rfl) (Nat.le_of_ble_eq_true rfl) ?_
                    exact W.vret hx hb hr (fun t ht hW => ⟨⟨(g10, g17), rfl, trivial, ⟨by rw [ht]; exact hP9, hD9⟩⟩, hS.F ht⟩) hS.2.2 dX11_layPaths_281
                  · skip
                    exact absurd c20 (by decide)
                | succ j16 ih203_18 =>
                  intro hj19 g17 H locs hP hD hS ls hl
                  have hl : lv_has ls 6 [(1, .int (nI j16)), (0, .ref h0)] := hl
                  refine lv_iload_n hx hb dX11_layPaths_203 rfl (lv_at hl 0 rfl) ?_
                  refine lv_if_lt (tgt := 281) hx hb dX11_layPaths_204 (by decide) (fun c21 => ?_) (fun c21 => ?_)
                  · skip
                    have t_hj6 := hj6
                    have t_n8 := n8
                    have t_hj13 := hj13
                    have t_n15 := n15
                    have t_hj19 := hj19
                    have t_c21 := ltI c21
                    have : (0 : Int32).toInt = 0 := qI_0
                    have t_n0 : (nI N).toInt = (N : Int) := tn1138_ ()
                    have tn1139_ : nIT B := fun _ => nI_toInt (by omega)
                    have t_n1 : (nI B).toInt = (B : Int) := tn1139_ ()
                    have tn1140_ : nIT T := fun _ => nI_toInt (by omega)
                    have t_n2 : (nI T).toInt = (T : Int) := tn1140_ ()
                    have tn1141_ : nIT S := fun _ => nI_toInt (by omega)
                    have t_n3 : (nI S).toInt = (S : Int) := tn1141_ ()
                    have tn1142_ : nIT M := fun _ => nI_toInt (by omega)
                    have t_n4 : (nI M).toInt = (M : Int) := tn1142_ ()
                    have t_n5 : (nI j1).toInt = (j1 : Int) := tn1136_ ()
                    have t_n6 : (nI j9).toInt = (j9 : Int) := tn1137_ ()
                    have tn1143_ : nIT j16 := fun _ => nI_toInt (by omega)
                    have t_n7 : (nI j16).toInt = (j16 : Int) := tn1143_ ()
                    exfalso; omega
                  · skip
                    have tn1144_ : nIT j16 := fun _ => nI_toInt (by first | omega | (have t := nltI c21; omega))
                    have n22 : 0 ≤ j16 := by have t := nltI c21; rw [show (nI (j16)).toInt = ((j16 : Nat) : Int) from tn1144_ ()] at t; have : (0 : Int32).toInt = 0 := qI_0; omega
                    refine lv_iconst (v := 0) hx hb dX11_layPaths_207 (by decide) ?_
                    refine lv_istore_n (lv' := [(2, .int 0), (1, .int (nI j16)), (0, .ref h0)]) hx hb dX11_layPaths_208 rfl hl (by decide) rfl (fun ls hl => ?_)
                    have loop209_25 : ∀ (nf j23 : Nat), 10 + 1 ≤ j23 + nf → j23 ≤ 10 → ∀ (g24 : Nat → Int32) (H : Heap) (locs : List Loc), va_P (dC, dI) vwCl [(h0, .inr (11, [.ref st, .int (nI N), .int (nI B), .ref rp, .int vrs, .int vrb, .int vhs, .int vca, .int vxs, .int vxb, .ref tp, .int (nI T), .int vfa, .int vbr, .int vba, .int vsp, .int vhe, .int vtk, .int vva, .ref cu, .ref lt, .ref od, .ref th, .ref be, .ref ln, .int (nI S), .ref ma, .int (nI M), .ref ah, .ref bh, .ref ik, .ref la, .ref lg, .ref ce, .int vto])), (st, .inl (G 0, 196, .inl fst)), (ma, .inl (G 0, 12, .inl fma)), (ah, .inl (G 0, 110, .inl g10)), (bh, .inl (G 0, 110, .inl g24))] H → va_D A [(h0, .inr (11, [.ref st, .int (nI N), .int (nI B), .ref rp, .int vrs, .int vrb, .int vhs, .int vca, .int vxs, .int vxb, .ref tp, .int (nI T), .int vfa, .int vbr, .int vba, .int vsp, .int vhe, .int vtk, .int vva, .ref cu, .ref lt, .ref od, .ref th, .ref be, .ref ln, .int (nI S), .ref ma, .int (nI M), .ref ah, .ref bh, .ref ik, .ref la, .ref lg, .ref ce, .int vto])), (st, .inl (G 0, 196, .inl fst)), (ma, .inl (G 0, 12, .inl fma)), (ah, .inl (G 0, 110, .inl g10)), (bh, .inl (G 0, 110, .inl g24))] → va_S A s.heap H locs → ∀ (ls : Array Slot), lv_has ls 6 [(2, .int (nI j23)), (1, .int (nI j16)), (0, .ref h0)] → W p l e (headSpec (Cond.code yX11_layPaths cX11_layPaths 6 none :: GT) ({ frames := 5, cells := 0, slots := 0, locals := 121 } : Room)).room s m ([.ref h0] : List Value).toArray below meth c H locs 0 0 (MQ below (va_Qv (fun (u : (Nat → Int32) × (Nat → Int32)) => match u with | (oah, obh) => True) (fun (u : (Nat → Int32) × (Nat → Int32)) (t : State) => match u with | (oah, obh) => va_P (dC, dI) vwCl [(h0, .inr (11, [.ref st, .int (nI N), .int (nI B), .ref rp, .int vrs, .int vrb, .int vhs, .int vca, .int vxs, .int vxb, .ref tp, .int (nI T), .int vfa, .int vbr, .int vba, .int vsp, .int vhe, .int vtk, .int vva, .ref cu, .ref lt, .ref od, .ref th, .ref be, .ref ln, .int (nI S), .ref ma, .int (nI M), .ref ah, .ref bh, .ref ik, .ref la, .ref lg, .ref ce, .int vto])), (st, .inl (G 0, 196, .inl fst)), (ma, .inl (G 0, 12, .inl fma)), (ah, .inl (G 0, 110, .inl oah)), (bh, .inl (G 0, 110, .inl obh))] t.heap ∧ va_D A [(h0, .inr (11, [.ref st, .int (nI N), .int (nI B), .ref rp, .int vrs, .int vrb, .int vhs, .int vca, .int vxs, .int vxb, .ref tp, .int (nI T), .int vfa, .int vbr, .int vba, .int vsp, .int vhe, .int vtk, .int vva, .ref cu, .ref lt, .ref od, .ref th, .ref be, .ref ln, .int (nI S), .ref ma, .int (nI M), .ref ah, .ref bh, .ref ik, .ref la, .ref lg, .ref ce, .int vto])), (st, .inl (G 0, 196, .inl fst)), (ma, .inl (G 0, 12, .inl fma)), (ah, .inl (G 0, 110, .inl oah)), (bh, .inl (G 0, 110, .inl obh))]) A) ([.ref h0] : List Value).toArray s 0 0 A) (F0 m 209 ls []) := by
                      intro nf
                      induction nf with
                      | zero => intro j23 h1 h2; exact absurd h1 (by omega)
                      | succ nf ih209_25 =>
                        intro j23 hn26 hj27 g24 H locs hP hD hS ls hl
                        refine lv_iload_n hx hb dX11_layPaths_209 rfl (lv_at hl 0 rfl) ?_
                        refine lv_bipush (v := 10) hx hb dX11_layPaths_210 (by decide) ?_
                        refine lv_icmp_ge (tgt := 275) hx hb dX11_layPaths_212 (by decide) (fun c28 => ?_) (fun c28 => ?_)
                        · skip
                          have tn1145_ : nIT j23 := fun _ => nI_toInt (by first | omega | (have t := leI c28; omega))
                          have n29 : 10 ≤ j23 := by have t := leI c28; rw [show (nI (j23)).toInt = ((j23 : Nat) : Int) from tn1145_ ()] at t; have : (10 : Int32).toInt = 10 := qI_10; omega
                          refine lv_iinc (v := dn j16) (lv' := [(1, .int (dn j16)), (2, .int (nI j23)), (0, .ref h0)]) hx hb dX11_layPaths_275 hl (k := 1) rfl (by exact dn_pred _) (by decide) rfl (fun ls hl => ?_)
                          refine lv_goto (tgt := 203) hx hb dX11_layPaths_278 (by decide) ?_
                          exact ih203_18 (by omega) g24 _ _ hP hD hS ls (lv_sub hl [0, 2] rfl)
                        · skip
                          have tn1146_ : nIT j23 := fun _ => nI_toInt (by first | omega | (have t := nleI c28; omega))
                          have n30 : j23 < 10 := by have t := nleI c28; rw [show (nI (j23)).toInt = ((j23 : Nat) : Int) from tn1146_ ()] at t; have : (10 : Int32).toInt = 10 := qI_10; omega
                          refine lv_aload_n hx hb dX11_layPaths_215 rfl (lv_at hl 2 rfl) ?_
                          refine va_get (D := (dC, dI)) (ci := 11) (v := .ref bh) (C := RX11) (T := TX11) (N := 35) hx hb hg inG11 hown hK.1 hP 0 rfl rfl 29 (by decide) (hg _ wt_907) (fun _ h9 => h9) rfl dX11_layPaths_216 ?_
                          refine lv_bipush (v := 10) hx hb dX11_layPaths_219 (by decide) ?_
                          refine lv_iload_n hx hb dX11_layPaths_221 rfl (lv_at hl 1 rfl) ?_
                          refine lv_imul hx hb dX11_layPaths_222 ?_
                          refine lv_cg (y := nI (10 * j16)) (by rw [show (10 : Int32) = nI 10 from rfl]; exact pk_mul _ _) ?_
                          refine lv_iload_n hx hb dX11_layPaths_223 rfl (lv_at hl 0 rfl) ?_
                          refine lv_iadd hx hb dX11_layPaths_224 ?_
                          refine lv_cg (y := nI ((10 * j16) + j23)) (by exact nI_add _ _) ?_
                          refine lv_iload_n hx hb dX11_layPaths_225 rfl (lv_at hl 0 rfl) ?_
                          have cut268_32 : ∀ (y31 : Int32) (H : Heap) (locs : List Loc), va_P (dC, dI) vwCl [(h0, .inr (11, [.ref st, .int (nI N), .int (nI B), .ref rp, .int vrs, .int vrb, .int vhs, .int vca, .int vxs, .int vxb, .ref tp, .int (nI T), .int vfa, .int vbr, .int vba, .int vsp, .int vhe, .int vtk, .int vva, .ref cu, .ref lt, .ref od, .ref th, .ref be, .ref ln, .int (nI S), .ref ma, .int (nI M), .ref ah, .ref bh, .ref ik, .ref la, .ref lg, .ref ce, .int vto])), (st, .inl (G 0, 196, .inl fst)), (ma, .inl (G 0, 12, .inl fma)), (ah, .inl (G 0, 110, .inl g10)), (bh, .inl (G 0, 110, .inl g24))] H → va_D A [(h0, .inr (11, [.ref st, .int (nI N), .int (nI B), .ref rp, .int vrs, .int vrb, .int vhs, .int vca, .int vxs, .int vxb, .ref tp, .int (nI T), .int vfa, .int vbr, .int vba, .int vsp, .int vhe, .int vtk, .int vva, .ref cu, .ref lt, .ref od, .ref th, .ref be, .ref ln, .int (nI S), .ref ma, .int (nI M), .ref ah, .ref bh, .ref ik, .ref la, .ref lg, .ref ce, .int vto])), (st, .inl (G 0, 196, .inl fst)), (ma, .inl (G 0, 12, .inl fma)), (ah, .inl (G 0, 110, .inl g10)), (bh, .inl (G 0, 110, .inl g24))] → va_S A s.heap H locs → ∀ (ls : Array Slot), lv_has ls 6 [(2, .int (nI j23)), (1, .int (nI j16)), (0, .ref h0)] → W p l e (headSpec (Cond.code yX11_layPaths cX11_layPaths 6 none :: GT) ({ frames := 5, cells := 0, slots := 0, locals := 121 } : Room)).room s m ([.ref h0] : List Value).toArray below meth c H locs 0 0 (MQ below (va_Qv (fun (u : (Nat → Int32) × (Nat → Int32)) => match u with | (oah, obh) => True) (fun (u : (Nat → Int32) × (Nat → Int32)) (t : State) => match u with | (oah, obh) => va_P (dC, dI) vwCl [(h0, .inr (11, [.ref st, .int (nI N), .int (nI B), .ref rp, .int vrs, .int vrb, .int vhs, .int vca, .int vxs, .int vxb, .ref tp, .int (nI T), .int vfa, .int vbr, .int vba, .int vsp, .int vhe, .int vtk, .int vva, .ref cu, .ref lt, .ref od, .ref th, .ref be, .ref ln, .int (nI S), .ref ma, .int (nI M), .ref ah, .ref bh, .ref ik, .ref la, .ref lg, .ref ce, .int vto])), (st, .inl (G 0, 196, .inl fst)), (ma, .inl (G 0, 12, .inl fma)), (ah, .inl (G 0, 110, .inl oah)), (bh, .inl (G 0, 110, .inl obh))] t.heap ∧ va_D A [(h0, .inr (11, [.ref st, .int (nI N), .int (nI B), .ref rp, .int vrs, .int vrb, .int vhs, .int vca, .int vxs, .int vxb, .ref tp, .int (nI T), .int vfa, .int vbr, .int vba, .int vsp, .int vhe, .int vtk, .int vva, .ref cu, .ref lt, .ref od, .ref th, .ref be, .ref ln, .int (nI S), .ref ma, .int (nI M), .ref ah, .ref bh, .ref ik, .ref la, .ref lg, .ref ce, .int vto])), (st, .inl (G 0, 196, .inl fst)), (ma, .inl (G 0, 12, .inl fma)), (ah, .inl (G 0, 110, .inl oah)), (bh, .inl (G 0, 110, .inl obh))]) A) ([.ref h0] : List Value).toArray s 0 0 A) (F0 m 268 ls [.int y31, .int (nI ((10 * j16) + j23)), .ref bh]) := by
                            intro y31 H locs hP hD hS ls hl
                            have tn1147_ : nIT B := fun _ => nI_toInt (by first | omega | (have t_hj6 := hj6; have t_n8 := n8; have t_hj13 := hj13; have t_n15 := n15; have t_hj19 := hj19; have t_n22 := n22; have t_hj27 := hj27; have t_n30 := n30; omega))
                            have tn1148_ : nIT T := fun _ => nI_toInt (by first | omega | (have t_hj6 := hj6; have t_n8 := n8; have t_hj13 := hj13; have t_n15 := n15; have t_hj19 := hj19; have t_n22 := n22; have t_hj27 := hj27; have t_n30 := n30; omega))
                            have tn1149_ : nIT S := fun _ => nI_toInt (by first | omega | (have t_hj6 := hj6; have t_n8 := n8; have t_hj13 := hj13; have t_n15 := n15; have t_hj19 := hj19; have t_n22 := n22; have t_hj27 := hj27; have t_n30 := n30; omega))
                            have tn1150_ : nIT M := fun _ => nI_toInt (by first | omega | (have t_hj6 := hj6; have t_n8 := n8; have t_hj13 := hj13; have t_n15 := n15; have t_hj19 := hj19; have t_n22 := n22; have t_hj27 := hj27; have t_n30 := n30; omega))
                            refine va_iast hx hb hK.1 hP hD hS 4 0 rfl rfl (vp_in_nI (by first | omega | (have t_hj6 := hj6; have t_n8 := n8; have t_hj13 := hj13; have t_n15 := n15; have t_hj19 := hj19; have t_n22 := n22; have t_hj27 := hj27; have t_n30 := n30; have t_n0 : (nI N).toInt = (N : Int) := tn1138_ (); have t_n1 : (nI B).toInt = (B : Int) := tn1147_ (); have t_n2 : (nI T).toInt = (T : Int) := tn1148_ (); have t_n3 : (nI S).toInt = (S : Int) := tn1149_ (); have t_n4 : (nI M).toInt = (M : Int) := tn1150_ (); have t_n5 : (nI j1).toInt = (j1 : Int) := tn1136_ (); have t_n6 : (nI j9).toInt = (j9 : Int) := tn1137_ (); have t_n7 : (nI j16).toInt = (j16 : Int) := tn1144_ (); have t_n8 : (nI j23).toInt = (j23 : Int) := tn1146_ (); omega)) (by decide)) dX11_layPaths_268 (fun H locs hP hD hS => ?_)
                            rw [nI_clamp (by omega)] at hP hD
                            have hP : va_P (dC, dI) vwCl [(h0, .inr (11, [.ref st, .int (nI N), .int (nI B), .ref rp, .int vrs, .int vrb, .int vhs, .int vca, .int vxs, .int vxb, .ref tp, .int (nI T), .int vfa, .int vbr, .int vba, .int vsp, .int vhe, .int vtk, .int vva, .ref cu, .ref lt, .ref od, .ref th, .ref be, .ref ln, .int (nI S), .ref ma, .int (nI M), .ref ah, .ref bh, .ref ik, .ref la, .ref lg, .ref ce, .int vto])), (st, .inl (G 0, 196, .inl fst)), (ma, .inl (G 0, 12, .inl fma)), (ah, .inl (G 0, 110, .inl g10)), (bh, .inl (G 0, 110, .inl (upd g24 ((10 * j16) + j23) y31)))] H := hP
                            have hD : va_D A [(h0, .inr (11, [.ref st, .int (nI N), .int (nI B), .ref rp, .int vrs, .int vrb, .int vhs, .int vca, .int vxs, .int vxb, .ref tp, .int (nI T), .int vfa, .int vbr, .int vba, .int vsp, .int vhe, .int vtk, .int vva, .ref cu, .ref lt, .ref od, .ref th, .ref be, .ref ln, .int (nI S), .ref ma, .int (nI M), .ref ah, .ref bh, .ref ik, .ref la, .ref lg, .ref ce, .int vto])), (st, .inl (G 0, 196, .inl fst)), (ma, .inl (G 0, 12, .inl fma)), (ah, .inl (G 0, 110, .inl g10)), (bh, .inl (G 0, 110, .inl (upd g24 ((10 * j16) + j23) y31)))] := hD
                            refine lv_iinc (v := nI (j23 + 1)) (lv' := [(2, .int (nI (j23 + 1))), (1, .int (nI j16)), (0, .ref h0)]) hx hb dX11_layPaths_269 hl (k := 0) rfl (by rw [show Int32.ofInt 1 = nI 1 from by decide]; exact nI_add _ _) (by decide) rfl (fun ls hl => ?_)
                            refine lv_goto (tgt := 209) hx hb dX11_layPaths_272 (by decide) ?_
                            exact ih209_25 (j23 + 1) (by omega) (by omega) (upd g24 ((10 * j16) + j23) y31) _ _ hP hD hS ls (lv_sub hl [0, 1, 2] rfl)
                          have cut253_33 : ∀ (H : Heap) (locs : List Loc), va_P (dC, dI) vwCl [(h0, .inr (11, [.ref st, .int (nI N), .int (nI B), .ref rp, .int vrs, .int vrb, .int vhs, .int vca, .int vxs, .int vxb, .ref tp, .int (nI T), .int vfa, .int vbr, .int vba, .int vsp, .int vhe, .int vtk, .int vva, .ref cu, .ref lt, .ref od, .ref th, .ref be, .ref ln, .int (nI S), .ref ma, .int (nI M), .ref ah, .ref bh, .ref ik, .ref la, .ref lg, .ref ce, .int vto])), (st, .inl (G 0, 196, .inl fst)), (ma, .inl (G 0, 12, .inl fma)), (ah, .inl (G 0, 110, .inl g10)), (bh, .inl (G 0, 110, .inl g24))] H → va_D A [(h0, .inr (11, [.ref st, .int (nI N), .int (nI B), .ref rp, .int vrs, .int vrb, .int vhs, .int vca, .int vxs, .int vxb, .ref tp, .int (nI T), .int vfa, .int vbr, .int vba, .int vsp, .int vhe, .int vtk, .int vva, .ref cu, .ref lt, .ref od, .ref th, .ref be, .ref ln, .int (nI S), .ref ma, .int (nI M), .ref ah, .ref bh, .ref ik, .ref la, .ref lg, .ref ce, .int vto])), (st, .inl (G 0, 196, .inl fst)), (ma, .inl (G 0, 12, .inl fma)), (ah, .inl (G 0, 110, .inl g10)), (bh, .inl (G 0, 110, .inl g24))] → va_S A s.heap H locs → ∀ (ls : Array Slot), lv_has ls 6 [(2, .int (nI j23)), (1, .int (nI j16)), (0, .ref h0)] → W p l e (headSpec (Cond.code yX11_layPaths cX11_layPaths 6 none :: GT) ({ frames := 5, cells := 0, slots := 0, locals := 121 } : Room)).room s m ([.ref h0] : List Value).toArray below meth c H locs 0 0 (MQ below (va_Qv (fun (u : (Nat → Int32) × (Nat → Int32)) => match u with | (oah, obh) => True) (fun (u : (Nat → Int32) × (Nat → Int32)) (t : State) => match u with | (oah, obh) => va_P (dC, dI) vwCl [(h0, .inr (11, [.ref st, .int (nI N), .int (nI B), .ref rp, .int vrs, .int vrb, .int vhs, .int vca, .int vxs, .int vxb, .ref tp, .int (nI T), .int vfa, .int vbr, .int vba, .int vsp, .int vhe, .int vtk, .int vva, .ref cu, .ref lt, .ref od, .ref th, .ref be, .ref ln, .int (nI S), .ref ma, .int (nI M), .ref ah, .ref bh, .ref ik, .ref la, .ref lg, .ref ce, .int vto])), (st, .inl (G 0, 196, .inl fst)), (ma, .inl (G 0, 12, .inl fma)), (ah, .inl (G 0, 110, .inl oah)), (bh, .inl (G 0, 110, .inl obh))] t.heap ∧ va_D A [(h0, .inr (11, [.ref st, .int (nI N), .int (nI B), .ref rp, .int vrs, .int vrb, .int vhs, .int vca, .int vxs, .int vxb, .ref tp, .int (nI T), .int vfa, .int vbr, .int vba, .int vsp, .int vhe, .int vtk, .int vva, .ref cu, .ref lt, .ref od, .ref th, .ref be, .ref ln, .int (nI S), .ref ma, .int (nI M), .ref ah, .ref bh, .ref ik, .ref la, .ref lg, .ref ce, .int vto])), (st, .inl (G 0, 196, .inl fst)), (ma, .inl (G 0, 12, .inl fma)), (ah, .inl (G 0, 110, .inl oah)), (bh, .inl (G 0, 110, .inl obh))]) A) ([.ref h0] : List Value).toArray s 0 0 A) (F0 m 253 ls [.int (nI ((10 * j16) + j23)), .ref bh]) := by
                            intro  H locs hP hD hS ls hl
                            refine lv_aload_n hx hb dX11_layPaths_253 rfl (lv_at hl 2 rfl) ?_
                            refine lv_iload_n hx hb dX11_layPaths_254 rfl (lv_at hl 1 rfl) ?_
                            refine lv_iload_n hx hb dX11_layPaths_255 rfl (lv_at hl 0 rfl) ?_
                            refine lv_iconst (v := 1) hx hb dX11_layPaths_256 (by decide) ?_
                            have hPc := hP.sub (ws' := [(h0, .inr (11, [.ref st, .int (nI N), .int (nI B), .ref rp, .int vrs, .int vrb, .int vhs, .int vca, .int vxs, .int vxb, .ref tp, .int (nI T), .int vfa, .int vbr, .int vba, .int vsp, .int vhe, .int vtk, .int vva, .ref cu, .ref lt, .ref od, .ref th, .ref be, .ref ln, .int (nI S), .ref ma, .int (nI M), .ref ah, .ref bh, .ref ik, .ref la, .ref lg, .ref ce, .int vto])), (st, .inl (G 0, 196, .inl fst)), (ma, .inl (G 0, 12, .inl fma)), (bh, .inl (G 0, 110, .inl g24))]) [0, 1, 2, 4] rfl
                            have tn1151_ : nIT B := fun _ => nI_toInt (by first | omega | (have t_hj6 := hj6; have t_n8 := n8; have t_hj13 := hj13; have t_n15 := n15; have t_hj19 := hj19; have t_n22 := n22; have t_hj27 := hj27; have t_n30 := n30; omega))
                            have tn1152_ : nIT T := fun _ => nI_toInt (by first | omega | (have t_hj6 := hj6; have t_n8 := n8; have t_hj13 := hj13; have t_n15 := n15; have t_hj19 := hj19; have t_n22 := n22; have t_hj27 := hj27; have t_n30 := n30; omega))
                            have tn1153_ : nIT S := fun _ => nI_toInt (by first | omega | (have t_hj6 := hj6; have t_n8 := n8; have t_hj13 := hj13; have t_n15 := n15; have t_hj19 := hj19; have t_n22 := n22; have t_hj27 := hj27; have t_n30 := n30; omega))
                            have tn1154_ : nIT M := fun _ => nI_toInt (by first | omega | (have t_hj6 := hj6; have t_n8 := n8; have t_hj13 := hj13; have t_n15 := n15; have t_hj19 := hj19; have t_n22 := n22; have t_hj27 := hj27; have t_n30 := n30; omega))
                            refine va_calli (va_runV (As := [.int (nI j16), .int (nI j23), .int 1]) (rest := [.int (nI ((10 * j16) + j23)), .ref bh]) ⟨hx, hb, hml, hown, hg⟩ (c_X11_onward l dC dI G _ h0 j16 j23 st N B rp tp T cu lt od th be ln S ma M ah bh ik la lg ce 1 vrs vrb vhs vca vxs vxb vfa vbr vba vsp vhe vtk vva vto fst fma g24 hN hB_ hT_ hS0 hM_ hst (by first | omega | (have t_hj6 := hj6; have t_n8 := n8; have t_hj13 := hj13; have t_n15 := n15; have t_hj19 := hj19; have t_n22 := n22; have t_hj27 := hj27; have t_n30 := n30; have t_n0 : (nI N).toInt = (N : Int) := tn1138_ (); have t_n1 : (nI B).toInt = (B : Int) := tn1151_ (); have t_n2 : (nI T).toInt = (T : Int) := tn1152_ (); have t_n3 : (nI S).toInt = (S : Int) := tn1153_ (); have t_n4 : (nI M).toInt = (M : Int) := tn1154_ (); have t_n5 : (nI j1).toInt = (j1 : Int) := tn1136_ (); have t_n6 : (nI j9).toInt = (j9 : Int) := tn1137_ (); have t_n7 : (nI j16).toInt = (j16 : Int) := tn1144_ (); have t_n8 : (nI j23).toInt = (j23 : Int) := tn1146_ (); omega)) (by first | omega | (have t_hj6 := hj6; have t_n8 := n8; have t_hj13 := hj13; have t_n15 := n15; have t_hj19 := hj19; have t_n22 := n22; have t_hj27 := hj27; have t_n30 := n30; have t_n0 : (nI N).toInt = (N : Int) := tn1138_ (); have t_n1 : (nI B).toInt = (B : Int) := tn1151_ (); have t_n2 : (nI T).toInt = (T : Int) := tn1152_ (); have t_n3 : (nI S).toInt = (S : Int) := tn1153_ (); have t_n4 : (nI M).toInt = (M : Int) := tn1154_ (); have t_n5 : (nI j1).toInt = (j1 : Int) := tn1136_ (); have t_n6 : (nI j9).toInt = (j9 : Int) := tn1137_ (); have t_n7 : (nI j16).toInt = (j16 : Int) := tn1144_ (); have t_n8 : (nI j23).toInt = (j23 : Int) := tn1146_ (); omega))) (kwV hg mfX11_onward wt_1232 ⟨Nat.le_of_ble_eq_true rfl, Nat.le_of_ble_eq_true rfl⟩) (preVR hK hPc (ci := 11) rfl rfl) rfl rfl hl.1 rfl (lv_room (Nat.le_of_ble_eq_true rfl)) dX11_layPaths_257 ⟨Nat.le_of_ble_eq_true rfl, Nat.le_of_ble_eq_true rfl⟩) hS (fun q h1 h2 => absurd h2 (Nat.not_le.mpr h1)) (fun q h => hA q (Nat.le_trans hS.1 h)) (fun r34 ur34 t H1 locs ht hvm w35 hB hz1 hk1 hS => ?_)
                            have hP := keepR hP hk1
                            obtain ⟨w35, w35x⟩ := w35
                            refine lv_aload_n hx hb dX11_layPaths_260 rfl (lv_at hl 2 rfl) ?_
                            refine lv_iload_n hx hb dX11_layPaths_261 rfl (lv_at hl 1 rfl) ?_
                            refine lv_iload_n hx hb dX11_layPaths_262 rfl (lv_at hl 0 rfl) ?_
                            refine lv_iconst (v := 0) hx hb dX11_layPaths_263 (by decide) ?_
                            have hPc := hP.sub (ws' := [(h0, .inr (11, [.ref st, .int (nI N), .int (nI B), .ref rp, .int vrs, .int vrb, .int vhs, .int vca, .int vxs, .int vxb, .ref tp, .int (nI T), .int vfa, .int vbr, .int vba, .int vsp, .int vhe, .int vtk, .int vva, .ref cu, .ref lt, .ref od, .ref th, .ref be, .ref ln, .int (nI S), .ref ma, .int (nI M), .ref ah, .ref bh, .ref ik, .ref la, .ref lg, .ref ce, .int vto])), (st, .inl (G 0, 196, .inl fst)), (ma, .inl (G 0, 12, .inl fma)), (bh, .inl (G 0, 110, .inl g24))]) [0, 1, 2, 4] rfl
                            refine va_calli (va_runV (As := [.int (nI j16), .int (nI j23), .int 0]) (rest := [.int r34, .int (nI ((10 * j16) + j23)), .ref bh]) ⟨hx, hb, hml, hown, hg⟩ (c_X11_onward l dC dI G _ h0 j16 j23 st N B rp tp T cu lt od th be ln S ma M ah bh ik la lg ce 0 vrs vrb vhs vca vxs vxb vfa vbr vba vsp vhe vtk vva vto fst fma g24 hN hB_ hT_ hS0 hM_ hst (by first | omega | (have t_hj6 := hj6; have t_n8 := n8; have t_hj13 := hj13; have t_n15 := n15; have t_hj19 := hj19; have t_n22 := n22; have t_hj27 := hj27; have t_n30 := n30; have t_n0 : (nI N).toInt = (N : Int) := tn1138_ (); have t_n1 : (nI B).toInt = (B : Int) := tn1151_ (); have t_n2 : (nI T).toInt = (T : Int) := tn1152_ (); have t_n3 : (nI S).toInt = (S : Int) := tn1153_ (); have t_n4 : (nI M).toInt = (M : Int) := tn1154_ (); have t_n5 : (nI j1).toInt = (j1 : Int) := tn1136_ (); have t_n6 : (nI j9).toInt = (j9 : Int) := tn1137_ (); have t_n7 : (nI j16).toInt = (j16 : Int) := tn1144_ (); have t_n8 : (nI j23).toInt = (j23 : Int) := tn1146_ (); omega)) (by first | omega | (have t_hj6 := hj6; have t_n8 := n8; have t_hj13 := hj13; have t_n15 := n15; have t_hj19 := hj19; have t_n22 := n22; have t_hj27 := hj27; have t_n30 := n30; have t_n0 : (nI N).toInt = (N : Int) := tn1138_ (); have t_n1 : (nI B).toInt = (B : Int) := tn1151_ (); have t_n2 : (nI T).toInt = (T : Int) := tn1152_ (); have t_n3 : (nI S).toInt = (S : Int) := tn1153_ (); have t_n4 : (nI M).toInt = (M : Int) := tn1154_ (); have t_n5 : (nI j1).toInt = (j1 : Int) := tn1136_ (); have t_n6 : (nI j9).toInt = (j9 : Int) := tn1137_ (); have t_n7 : (nI j16).toInt = (j16 : Int) := tn1144_ (); have t_n8 : (nI j23).toInt = (j23 : Int) := tn1146_ (); omega))) (kwV hg mfX11_onward wt_1232 ⟨Nat.le_of_ble_eq_true rfl, Nat.le_of_ble_eq_true rfl⟩) (preVR hK hPc (ci := 11) rfl rfl) rfl rfl hl.1 rfl (lv_room (Nat.le_of_ble_eq_true rfl)) dX11_layPaths_264 ⟨Nat.le_of_ble_eq_true rfl, Nat.le_of_ble_eq_true rfl⟩) hS (fun q h1 h2 => absurd h2 (Nat.not_le.mpr h1)) (fun q h => hA q (Nat.le_trans hS.1 h)) (fun r36 ur36 t H1 locs ht hvm w37 hB hz1 hk1 hS => ?_)
                            have hP := keepR hP hk1
                            obtain ⟨w37, w37x⟩ := w37
                            refine lv_iadd hx hb dX11_layPaths_267 ?_
                            exact cut268_32 (r34 + r36) _ _ hP hD hS ls (lv_sub hl [0, 1, 2] rfl)
                          refine lv_if_ne (tgt := 253) hx hb dX11_layPaths_226 (by decide) (fun c38 => ?_) (fun c38 => ?_)
                          · skip
                            have n39 : j23 ≠ 0 := by have t := neI c38; rw [show (nI (j23)).toInt = ((j23 : Nat) : Int) from tn1146_ ()] at t; have : (0 : Int32).toInt = 0 := qI_0; omega
                            exact cut253_33  _ _ hP hD hS ls (lv_sub hl [0, 1, 2] rfl)
                          · skip
                            have n40 : j23 = 0 := by have t := eqI c38; rw [show (nI (j23)).toInt = ((j23 : Nat) : Int) from tn1146_ ()] at t; have : (0 : Int32).toInt = 0 := qI_0; omega
                            refine lv_aload_n hx hb dX11_layPaths_229 rfl (lv_at hl 2 rfl) ?_
                            refine lv_iload_n hx hb dX11_layPaths_230 rfl (lv_at hl 1 rfl) ?_
                            refine lv_iconst (v := 0) hx hb dX11_layPaths_231 (by decide) ?_
                            have hPc := hP.sub (ws' := [(h0, .inr (11, [.ref st, .int (nI N), .int (nI B), .ref rp, .int vrs, .int vrb, .int vhs, .int vca, .int vxs, .int vxb, .ref tp, .int (nI T), .int vfa, .int vbr, .int vba, .int vsp, .int vhe, .int vtk, .int vva, .ref cu, .ref lt, .ref od, .ref th, .ref be, .ref ln, .int (nI S), .ref ma, .int (nI M), .ref ah, .ref bh, .ref ik, .ref la, .ref lg, .ref ce, .int vto])), (ma, .inl (G 0, 12, .inl fma))]) [0, 2] rfl
                            have tn1155_ : nIT B := fun _ => nI_toInt (by first | omega | (have t_hj6 := hj6; have t_n8 := n8; have t_hj13 := hj13; have t_n15 := n15; have t_hj19 := hj19; have t_n22 := n22; have t_hj27 := hj27; have t_n30 := n30; have t_n40 := n40; omega))
                            have tn1156_ : nIT T := fun _ => nI_toInt (by first | omega | (have t_hj6 := hj6; have t_n8 := n8; have t_hj13 := hj13; have t_n15 := n15; have t_hj19 := hj19; have t_n22 := n22; have t_hj27 := hj27; have t_n30 := n30; have t_n40 := n40; omega))
                            have tn1157_ : nIT S := fun _ => nI_toInt (by first | omega | (have t_hj6 := hj6; have t_n8 := n8; have t_hj13 := hj13; have t_n15 := n15; have t_hj19 := hj19; have t_n22 := n22; have t_hj27 := hj27; have t_n30 := n30; have t_n40 := n40; omega))
                            have tn1158_ : nIT M := fun _ => nI_toInt (by first | omega | (have t_hj6 := hj6; have t_n8 := n8; have t_hj13 := hj13; have t_n15 := n15; have t_hj19 := hj19; have t_n22 := n22; have t_hj27 := hj27; have t_n30 := n30; have t_n40 := n40; omega))
                            refine va_calli (va_runV (As := [.int (nI j16), .int 0]) (rest := [.int (nI ((10 * j16) + j23)), .ref bh]) ⟨hx, hb, hml, hown, hg⟩ (c_X11_isMarked l dC dI G _ h0 st N B rp tp T cu lt od th be ln S ma M ah bh ik la lg ce (nI j16) 0 vrs vrb vhs vca vxs vxb vfa vbr vba vsp vhe vtk vva vto fma hN hB_ hT_ hS0 hM_) (kwV hg mfX11_isMarked wt_1228 ⟨Nat.le_of_ble_eq_true rfl, Nat.le_of_ble_eq_true rfl⟩) (preVR hK hPc (ci := 11) rfl rfl) rfl rfl hl.1 rfl (lv_room (Nat.le_of_ble_eq_true rfl)) dX11_layPaths_232 ⟨Nat.le_of_ble_eq_true rfl, Nat.le_of_ble_eq_true rfl⟩) hS (fun q h1 h2 => absurd h2 (Nat.not_le.mpr h1)) (fun q h => hA q (Nat.le_trans hS.1 h)) (fun r41 ur41 t H1 locs ht hvm w42 hB hz1 hk1 hS => ?_)
                            have hP := keepR hP hk1
                            obtain ⟨w42, w42x⟩ := w42
                            refine lv_if_eq (tgt := 253) hx hb dX11_layPaths_235 (by decide) (fun c43 => ?_) (fun c43 => ?_)
                            · skip
                              exact cut253_33  _ _ hP hD hS ls (lv_sub hl [0, 1, 2] rfl)
                            · skip
                              refine lv_aload_n hx hb dX11_layPaths_238 rfl (lv_at hl 2 rfl) ?_
                              refine va_get (D := (dC, dI)) (ci := 11) (v := .ref bh) (C := RX11) (T := TX11) (N := 35) hx hb hg inG11 hown hK.1 hP 0 rfl rfl 29 (by decide) (hg _ wt_907) (fun _ h9 => h9) rfl dX11_layPaths_239 ?_
                              refine lv_bipush (v := 10) hx hb dX11_layPaths_242 (by decide) ?_
                              refine lv_iload_n hx hb dX11_layPaths_244 rfl (lv_at hl 1 rfl) ?_
                              refine lv_imul hx hb dX11_layPaths_245 ?_
                              refine lv_cg (y := nI (10 * j16)) (by rw [show (10 : Int32) = nI 10 from rfl]; exact pk_mul _ _) ?_
                              refine lv_bipush (v := 10) hx hb dX11_layPaths_246 (by decide) ?_
                              refine lv_iadd hx hb dX11_layPaths_248 ?_
                              refine lv_cg (y := nI ((10 * j16) + 10)) (by rw [show (10 : Int32) = nI 10 from rfl]; exact nI_add _ _) ?_
                              refine va_iald hx hb hK.1 hP 4 0 rfl rfl (vp_in_nI (by first | omega | (have t_hj6 := hj6; have t_n8 := n8; have t_hj13 := hj13; have t_n15 := n15; have t_hj19 := hj19; have t_n22 := n22; have t_hj27 := hj27; have t_n30 := n30; have t_n40 := n40; have t_c43 := neI c43; have : (0 : Int32).toInt = 0 := qI_0; have t_n0 : (nI N).toInt = (N : Int) := tn1138_ (); have t_n1 : (nI B).toInt = (B : Int) := tn1155_ (); have t_n2 : (nI T).toInt = (T : Int) := tn1156_ (); have t_n3 : (nI S).toInt = (S : Int) := tn1157_ (); have t_n4 : (nI M).toInt = (M : Int) := tn1158_ (); have t_n5 : (nI j1).toInt = (j1 : Int) := tn1136_ (); have t_n6 : (nI j9).toInt = (j9 : Int) := tn1137_ (); have t_n7 : (nI j16).toInt = (j16 : Int) := tn1144_ (); have t_n8 : (nI j23).toInt = (j23 : Int) := tn1146_ (); omega)) (by decide)) dX11_layPaths_249 ?_
                              refine lv_cg (y := g24 ((10 * j16) + 10)) (by rw [nI_clamp (by omega)]) ?_
                              refine lv_goto (tgt := 268) hx hb dX11_layPaths_250 (by decide) ?_
                              exact cut268_32 (g24 ((10 * j16) + 10)) _ _ hP hD hS ls (lv_sub hl [0, 1, 2] rfl)
                    exact loop209_25 (10 + 1) 0 (by omega) (by omega) g17 _ _ hP hD hS ls (lv_sub hl [0, 1, 2] rfl)
              exact loop203_18 N (Nat.le_refl _) g3 _ _ hP hD hS ls (lv_sub hl [0, 1] rfl)
            · skip
              have tn1159_ : nIT j9 := fun _ => nI_toInt (by first | omega | (have t := nleI c14; omega))
              have tn1160_ : nIT N := fun _ => nI_toInt (by omega)
              have n44 : j9 < N := by have t := nleI c14; rw [show (nI (j9)).toInt = ((j9 : Nat) : Int) from tn1159_ ()] at t; rw [show (nI (N)).toInt = ((N : Nat) : Int) from tn1160_ ()] at t; omega
              refine lv_iconst (v := 0) hx hb dX11_layPaths_65 (by decide) ?_
              refine lv_istore_n (lv' := [(2, .int 0), (1, .int (nI j9)), (0, .ref h0)]) hx hb dX11_layPaths_66 rfl hl (by decide) rfl (fun ls hl => ?_)
              have loop67_47 : ∀ (nf j45 : Nat), 10 + 1 ≤ j45 + nf → j45 ≤ 10 → ∀ (g46 : Nat → Int32) (H : Heap) (locs : List Loc), va_P (dC, dI) vwCl [(h0, .inr (11, [.ref st, .int (nI N), .int (nI B), .ref rp, .int vrs, .int vrb, .int vhs, .int vca, .int vxs, .int vxb, .ref tp, .int (nI T), .int vfa, .int vbr, .int vba, .int vsp, .int vhe, .int vtk, .int vva, .ref cu, .ref lt, .ref od, .ref th, .ref be, .ref ln, .int (nI S), .ref ma, .int (nI M), .ref ah, .ref bh, .ref ik, .ref la, .ref lg, .ref ce, .int vto])), (st, .inl (G 0, 196, .inl fst)), (ma, .inl (G 0, 12, .inl fma)), (ah, .inl (G 0, 110, .inl g46)), (bh, .inl (G 0, 110, .inl g3))] H → va_D A [(h0, .inr (11, [.ref st, .int (nI N), .int (nI B), .ref rp, .int vrs, .int vrb, .int vhs, .int vca, .int vxs, .int vxb, .ref tp, .int (nI T), .int vfa, .int vbr, .int vba, .int vsp, .int vhe, .int vtk, .int vva, .ref cu, .ref lt, .ref od, .ref th, .ref be, .ref ln, .int (nI S), .ref ma, .int (nI M), .ref ah, .ref bh, .ref ik, .ref la, .ref lg, .ref ce, .int vto])), (st, .inl (G 0, 196, .inl fst)), (ma, .inl (G 0, 12, .inl fma)), (ah, .inl (G 0, 110, .inl g46)), (bh, .inl (G 0, 110, .inl g3))] → va_S A s.heap H locs → ∀ (ls : Array Slot), lv_has ls 6 [(2, .int (nI j45)), (1, .int (nI j9)), (0, .ref h0)] → W p l e (headSpec (Cond.code yX11_layPaths cX11_layPaths 6 none :: GT) ({ frames := 5, cells := 0, slots := 0, locals := 121 } : Room)).room s m ([.ref h0] : List Value).toArray below meth c H locs 0 0 (MQ below (va_Qv (fun (u : (Nat → Int32) × (Nat → Int32)) => match u with | (oah, obh) => True) (fun (u : (Nat → Int32) × (Nat → Int32)) (t : State) => match u with | (oah, obh) => va_P (dC, dI) vwCl [(h0, .inr (11, [.ref st, .int (nI N), .int (nI B), .ref rp, .int vrs, .int vrb, .int vhs, .int vca, .int vxs, .int vxb, .ref tp, .int (nI T), .int vfa, .int vbr, .int vba, .int vsp, .int vhe, .int vtk, .int vva, .ref cu, .ref lt, .ref od, .ref th, .ref be, .ref ln, .int (nI S), .ref ma, .int (nI M), .ref ah, .ref bh, .ref ik, .ref la, .ref lg, .ref ce, .int vto])), (st, .inl (G 0, 196, .inl fst)), (ma, .inl (G 0, 12, .inl fma)), (ah, .inl (G 0, 110, .inl oah)), (bh, .inl (G 0, 110, .inl obh))] t.heap ∧ va_D A [(h0, .inr (11, [.ref st, .int (nI N), .int (nI B), .ref rp, .int vrs, .int vrb, .int vhs, .int vca, .int vxs, .int vxb, .ref tp, .int (nI T), .int vfa, .int vbr, .int vba, .int vsp, .int vhe, .int vtk, .int vva, .ref cu, .ref lt, .ref od, .ref th, .ref be, .ref ln, .int (nI S), .ref ma, .int (nI M), .ref ah, .ref bh, .ref ik, .ref la, .ref lg, .ref ce, .int vto])), (st, .inl (G 0, 196, .inl fst)), (ma, .inl (G 0, 12, .inl fma)), (ah, .inl (G 0, 110, .inl oah)), (bh, .inl (G 0, 110, .inl obh))]) A) ([.ref h0] : List Value).toArray s 0 0 A) (F0 m 67 ls []) := by
                intro nf
                induction nf with
                | zero => intro j45 h1 h2; exact absurd h1 (by omega)
                | succ nf ih67_47 =>
                  intro j45 hn48 hj49 g46 H locs hP hD hS ls hl
                  refine lv_iload_n hx hb dX11_layPaths_67 rfl (lv_at hl 0 rfl) ?_
                  refine lv_bipush (v := 10) hx hb dX11_layPaths_68 (by decide) ?_
                  refine lv_icmp_ge (tgt := 190) hx hb dX11_layPaths_70 (by decide) (fun c50 => ?_) (fun c50 => ?_)
                  · skip
                    have tn1161_ : nIT j45 := fun _ => nI_toInt (by first | omega | (have t := leI c50; omega))
                    have n51 : 10 ≤ j45 := by have t := leI c50; rw [show (nI (j45)).toInt = ((j45 : Nat) : Int) from tn1161_ ()] at t; have : (10 : Int32).toInt = 10 := qI_10; omega
                    refine lv_iinc (v := nI (j9 + 1)) (lv' := [(1, .int (nI (j9 + 1))), (2, .int (nI j45)), (0, .ref h0)]) hx hb dX11_layPaths_190 hl (k := 1) rfl (by rw [show Int32.ofInt 1 = nI 1 from by decide]; exact nI_add _ _) (by decide) rfl (fun ls hl => ?_)
                    refine lv_goto (tgt := 57) hx hb dX11_layPaths_193 (by decide) ?_
                    exact ih57_11 (j9 + 1) (by omega) (by omega) g46 _ _ hP hD hS ls (lv_sub hl [0, 2] rfl)
                  · skip
                    have tn1162_ : nIT j45 := fun _ => nI_toInt (by first | omega | (have t := nleI c50; omega))
                    have n52 : j45 < 10 := by have t := nleI c50; rw [show (nI (j45)).toInt = ((j45 : Nat) : Int) from tn1162_ ()] at t; have : (10 : Int32).toInt = 10 := qI_10; omega
                    refine lv_aload_n hx hb dX11_layPaths_73 rfl (lv_at hl 2 rfl) ?_
                    refine va_get (D := (dC, dI)) (ci := 11) (v := .ref ah) (C := RX11) (T := TX11) (N := 35) hx hb hg inG11 hown hK.1 hP 0 rfl rfl 28 (by decide) (hg _ wt_906) (fun _ h9 => h9) rfl dX11_layPaths_74 ?_
                    refine lv_bipush (v := 10) hx hb dX11_layPaths_77 (by decide) ?_
                    refine lv_iload_n hx hb dX11_layPaths_79 rfl (lv_at hl 1 rfl) ?_
                    refine lv_imul hx hb dX11_layPaths_80 ?_
                    refine lv_cg (y := nI (10 * j9)) (by rw [show (10 : Int32) = nI 10 from rfl]; exact pk_mul _ _) ?_
                    refine lv_iload_n hx hb dX11_layPaths_81 rfl (lv_at hl 0 rfl) ?_
                    refine lv_iadd hx hb dX11_layPaths_82 ?_
                    refine lv_cg (y := nI ((10 * j9) + j45)) (by exact nI_add _ _) ?_
                    have tn1163_ : nIT B := fun _ => nI_toInt (by first | omega | (have t_hj6 := hj6; have t_n8 := n8; have t_hj13 := hj13; have t_n44 := n44; have t_hj49 := hj49; have t_n52 := n52; omega))
                    have tn1164_ : nIT T := fun _ => nI_toInt (by first | omega | (have t_hj6 := hj6; have t_n8 := n8; have t_hj13 := hj13; have t_n44 := n44; have t_hj49 := hj49; have t_n52 := n52; omega))
                    have tn1165_ : nIT S := fun _ => nI_toInt (by first | omega | (have t_hj6 := hj6; have t_n8 := n8; have t_hj13 := hj13; have t_n44 := n44; have t_hj49 := hj49; have t_n52 := n52; omega))
                    have tn1166_ : nIT M := fun _ => nI_toInt (by first | omega | (have t_hj6 := hj6; have t_n8 := n8; have t_hj13 := hj13; have t_n44 := n44; have t_hj49 := hj49; have t_n52 := n52; omega))
                    refine va_iald hx hb hK.1 hP 3 0 rfl rfl (vp_in_nI (by first | omega | (have t_hj6 := hj6; have t_n8 := n8; have t_hj13 := hj13; have t_n44 := n44; have t_hj49 := hj49; have t_n52 := n52; have t_n0 : (nI N).toInt = (N : Int) := tn1160_ (); have t_n1 : (nI B).toInt = (B : Int) := tn1163_ (); have t_n2 : (nI T).toInt = (T : Int) := tn1164_ (); have t_n3 : (nI S).toInt = (S : Int) := tn1165_ (); have t_n4 : (nI M).toInt = (M : Int) := tn1166_ (); have t_n5 : (nI j1).toInt = (j1 : Int) := tn1136_ (); have t_n6 : (nI j9).toInt = (j9 : Int) := tn1159_ (); have t_n7 : (nI j45).toInt = (j45 : Int) := tn1162_ (); omega)) (by decide)) dX11_layPaths_83 ?_
                    refine lv_cg (y := g46 ((10 * j9) + j45)) (by rw [nI_clamp (by omega)]) ?_
                    refine lv_istore_n (lv' := [(3, .int (g46 ((10 * j9) + j45))), (2, .int (nI j45)), (1, .int (nI j9)), (0, .ref h0)]) hx hb dX11_layPaths_84 rfl hl (by decide) rfl (fun ls hl => ?_)
                    refine lv_aload_n hx hb dX11_layPaths_85 rfl (lv_at hl 3 rfl) ?_
                    refine lv_iload_n hx hb dX11_layPaths_86 rfl (lv_at hl 2 rfl) ?_
                    refine lv_iload_n hx hb dX11_layPaths_87 rfl (lv_at hl 1 rfl) ?_
                    refine lv_iconst (v := 1) hx hb dX11_layPaths_88 (by decide) ?_
                    have hPc := hP.sub (ws' := [(h0, .inr (11, [.ref st, .int (nI N), .int (nI B), .ref rp, .int vrs, .int vrb, .int vhs, .int vca, .int vxs, .int vxb, .ref tp, .int (nI T), .int vfa, .int vbr, .int vba, .int vsp, .int vhe, .int vtk, .int vva, .ref cu, .ref lt, .ref od, .ref th, .ref be, .ref ln, .int (nI S), .ref ma, .int (nI M), .ref ah, .ref bh, .ref ik, .ref la, .ref lg, .ref ce, .int vto])), (st, .inl (G 0, 196, .inl fst)), (ma, .inl (G 0, 12, .inl fma))]) [0, 1, 2] rfl
                    refine va_calli (va_runV (As := [.int (nI j9), .int (nI j45), .int 1]) (rest := []) ⟨hx, hb, hml, hown, hg⟩ (c_X11_depthThen l dC dI G _ h0 j9 j45 st N B rp tp T cu lt od th be ln S ma M ah bh ik la lg ce 1 vrs vrb vhs vca vxs vxb vfa vbr vba vsp vhe vtk vva vto fst fma hN hB_ hT_ hS0 hM_ hst (by first | omega | (have t_hj6 := hj6; have t_n8 := n8; have t_hj13 := hj13; have t_n44 := n44; have t_hj49 := hj49; have t_n52 := n52; have t_n0 : (nI N).toInt = (N : Int) := tn1160_ (); have t_n1 : (nI B).toInt = (B : Int) := tn1163_ (); have t_n2 : (nI T).toInt = (T : Int) := tn1164_ (); have t_n3 : (nI S).toInt = (S : Int) := tn1165_ (); have t_n4 : (nI M).toInt = (M : Int) := tn1166_ (); have t_n5 : (nI j1).toInt = (j1 : Int) := tn1136_ (); have t_n6 : (nI j9).toInt = (j9 : Int) := tn1159_ (); have t_n7 : (nI j45).toInt = (j45 : Int) := tn1162_ (); omega)) (by first | omega | (have t_hj6 := hj6; have t_n8 := n8; have t_hj13 := hj13; have t_n44 := n44; have t_hj49 := hj49; have t_n52 := n52; have t_n0 : (nI N).toInt = (N : Int) := tn1160_ (); have t_n1 : (nI B).toInt = (B : Int) := tn1163_ (); have t_n2 : (nI T).toInt = (T : Int) := tn1164_ (); have t_n3 : (nI S).toInt = (S : Int) := tn1165_ (); have t_n4 : (nI M).toInt = (M : Int) := tn1166_ (); have t_n5 : (nI j1).toInt = (j1 : Int) := tn1136_ (); have t_n6 : (nI j9).toInt = (j9 : Int) := tn1159_ (); have t_n7 : (nI j45).toInt = (j45 : Int) := tn1162_ (); omega))) (kwV hg mfX11_depthThen wt_1224 ⟨Nat.le_of_ble_eq_true rfl, Nat.le_of_ble_eq_true rfl⟩) (preVR hK hPc (ci := 11) rfl rfl) rfl rfl hl.1 rfl (lv_room (Nat.le_of_ble_eq_true rfl)) dX11_layPaths_89 ⟨Nat.le_of_ble_eq_true rfl, Nat.le_of_ble_eq_true rfl⟩) hS (fun q h1 h2 => absurd h2 (Nat.not_le.mpr h1)) (fun q h => hA q (Nat.le_trans hS.1 h)) (fun r53 ur53 t H1 locs ht hvm w54 hB hz1 hk1 hS => ?_)
                    have hP := keepR hP hk1
                    obtain ⟨w54, w54x⟩ := w54
                    rcases w54 with w541 | ⟨w540, w541, w542⟩
                    · skip
                      refine lv_cg (y := (-4)) w541 ?_
                      refine lv_istore (lv' := [(4, .int (-4)), (3, .int (g46 ((10 * j9) + j45))), (2, .int (nI j45)), (1, .int (nI j9)), (0, .ref h0)]) hx hb dX11_layPaths_92 hl (by decide) rfl (fun ls hl => ?_)
                      refine lv_aload_n hx hb dX11_layPaths_94 rfl (lv_at hl 4 rfl) ?_
                      refine lv_iload_n hx hb dX11_layPaths_95 rfl (lv_at hl 3 rfl) ?_
                      refine lv_iload_n hx hb dX11_layPaths_96 rfl (lv_at hl 2 rfl) ?_
                      refine lv_iconst (v := 0) hx hb dX11_layPaths_97 (by decide) ?_
                      have hPc := hP.sub (ws' := [(h0, .inr (11, [.ref st, .int (nI N), .int (nI B), .ref rp, .int vrs, .int vrb, .int vhs, .int vca, .int vxs, .int vxb, .ref tp, .int (nI T), .int vfa, .int vbr, .int vba, .int vsp, .int vhe, .int vtk, .int vva, .ref cu, .ref lt, .ref od, .ref th, .ref be, .ref ln, .int (nI S), .ref ma, .int (nI M), .ref ah, .ref bh, .ref ik, .ref la, .ref lg, .ref ce, .int vto])), (st, .inl (G 0, 196, .inl fst)), (ma, .inl (G 0, 12, .inl fma))]) [0, 1, 2] rfl
                      refine va_calli (va_runV (As := [.int (nI j9), .int (nI j45), .int 0]) (rest := []) ⟨hx, hb, hml, hown, hg⟩ (c_X11_depthThen l dC dI G _ h0 j9 j45 st N B rp tp T cu lt od th be ln S ma M ah bh ik la lg ce 0 vrs vrb vhs vca vxs vxb vfa vbr vba vsp vhe vtk vva vto fst fma hN hB_ hT_ hS0 hM_ hst (by first | omega | (have t_hj6 := hj6; have t_n8 := n8; have t_hj13 := hj13; have t_n44 := n44; have t_hj49 := hj49; have t_n52 := n52; have t_n0 : (nI N).toInt = (N : Int) := tn1160_ (); have t_n1 : (nI B).toInt = (B : Int) := tn1163_ (); have t_n2 : (nI T).toInt = (T : Int) := tn1164_ (); have t_n3 : (nI S).toInt = (S : Int) := tn1165_ (); have t_n4 : (nI M).toInt = (M : Int) := tn1166_ (); have t_n5 : (nI j1).toInt = (j1 : Int) := tn1136_ (); have t_n6 : (nI j9).toInt = (j9 : Int) := tn1159_ (); have t_n7 : (nI j45).toInt = (j45 : Int) := tn1162_ (); omega)) (by first | omega | (have t_hj6 := hj6; have t_n8 := n8; have t_hj13 := hj13; have t_n44 := n44; have t_hj49 := hj49; have t_n52 := n52; have t_n0 : (nI N).toInt = (N : Int) := tn1160_ (); have t_n1 : (nI B).toInt = (B : Int) := tn1163_ (); have t_n2 : (nI T).toInt = (T : Int) := tn1164_ (); have t_n3 : (nI S).toInt = (S : Int) := tn1165_ (); have t_n4 : (nI M).toInt = (M : Int) := tn1166_ (); have t_n5 : (nI j1).toInt = (j1 : Int) := tn1136_ (); have t_n6 : (nI j9).toInt = (j9 : Int) := tn1159_ (); have t_n7 : (nI j45).toInt = (j45 : Int) := tn1162_ (); omega))) (kwV hg mfX11_depthThen wt_1224 ⟨Nat.le_of_ble_eq_true rfl, Nat.le_of_ble_eq_true rfl⟩) (preVR hK hPc (ci := 11) rfl rfl) rfl rfl hl.1 rfl (lv_room (Nat.le_of_ble_eq_true rfl)) dX11_layPaths_98 ⟨Nat.le_of_ble_eq_true rfl, Nat.le_of_ble_eq_true rfl⟩) hS (fun q h1 h2 => absurd h2 (Nat.not_le.mpr h1)) (fun q h => hA q (Nat.le_trans hS.1 h)) (fun r55 ur55 t H1 locs ht hvm w56 hB hz1 hk1 hS => ?_)
                      have hP := keepR hP hk1
                      obtain ⟨w56, w56x⟩ := w56
                      rcases w56 with w561 | ⟨w560, w561, w562⟩
                      · skip
                        refine lv_cg (y := (-4)) w561 ?_
                        refine lv_istore (lv' := [(5, .int (-4)), (4, .int (-4)), (3, .int (g46 ((10 * j9) + j45))), (2, .int (nI j45)), (1, .int (nI j9)), (0, .ref h0)]) hx hb dX11_layPaths_101 hl (by decide) rfl (fun ls hl => ?_)
                        refine lv_iload_n hx hb dX11_layPaths_103 rfl (lv_at hl 3 rfl) ?_
                        refine lv_if_ne (tgt := 132) hx hb dX11_layPaths_104 (by decide) (fun c57 => ?_) (fun c57 => ?_)
                        · skip
                          have n58 : j45 ≠ 0 := by have t := neI c57; rw [show (nI (j45)).toInt = ((j45 : Nat) : Int) from tn1162_ ()] at t; have : (0 : Int32).toInt = 0 := qI_0; omega
                          refine lv_iload hx hb dX11_layPaths_132 (lv_at hl 1 rfl) ?_
                          refine lv_bipush (v := (-4)) hx hb dX11_layPaths_134 (by decide) ?_
                          refine lv_icmp_eq (tgt := 158) hx hb dX11_layPaths_136 (by decide) (fun c59 => ?_) (fun c59 => ?_)
                          · skip
                            refine lv_iload hx hb dX11_layPaths_158 (lv_at hl 0 rfl) ?_
                            refine lv_bipush (v := (-4)) hx hb dX11_layPaths_160 (by decide) ?_
                            refine lv_icmp_eq (tgt := 184) hx hb dX11_layPaths_162 (by decide) (fun c60 => ?_) (fun c60 => ?_)
                            · skip
                              refine lv_iinc (v := nI (j45 + 1)) (lv' := [(2, .int (nI (j45 + 1))), (5, .int (-4)), (4, .int (-4)), (3, .int (g46 ((10 * j9) + j45))), (1, .int (nI j9)), (0, .ref h0)]) hx hb dX11_layPaths_184 hl (k := 3) rfl (by rw [show Int32.ofInt 1 = nI 1 from by decide]; exact nI_add _ _) (by decide) rfl (fun ls hl => ?_)
                              refine lv_goto (tgt := 67) hx hb dX11_layPaths_187 (by decide) ?_
                              exact ih67_47 (j45 + 1) (by omega) (by omega) g46 _ _ hP hD hS ls (lv_sub hl [0, 4, 5] rfl)
                            · skip
                              exact absurd c60 (by decide)
                          · skip
                            exact absurd c59 (by decide)
                        · skip
                          have n61 : j45 = 0 := by have t := eqI c57; rw [show (nI (j45)).toInt = ((j45 : Nat) : Int) from tn1162_ ()] at t; have : (0 : Int32).toInt = 0 := qI_0; omega
                          refine lv_aload_n hx hb dX11_layPaths_107 rfl (lv_at hl 5 rfl) ?_
                          refine lv_iload_n hx hb dX11_layPaths_108 rfl (lv_at hl 4 rfl) ?_
                          refine lv_iconst (v := 0) hx hb dX11_layPaths_109 (by decide) ?_
                          have hPc := hP.sub (ws' := [(h0, .inr (11, [.ref st, .int (nI N), .int (nI B), .ref rp, .int vrs, .int vrb, .int vhs, .int vca, .int vxs, .int vxb, .ref tp, .int (nI T), .int vfa, .int vbr, .int vba, .int vsp, .int vhe, .int vtk, .int vva, .ref cu, .ref lt, .ref od, .ref th, .ref be, .ref ln, .int (nI S), .ref ma, .int (nI M), .ref ah, .ref bh, .ref ik, .ref la, .ref lg, .ref ce, .int vto])), (ma, .inl (G 0, 12, .inl fma))]) [0, 2] rfl
                          refine va_calli (va_runV (As := [.int (nI j9), .int 0]) (rest := []) ⟨hx, hb, hml, hown, hg⟩ (c_X11_isMarked l dC dI G _ h0 st N B rp tp T cu lt od th be ln S ma M ah bh ik la lg ce (nI j9) 0 vrs vrb vhs vca vxs vxb vfa vbr vba vsp vhe vtk vva vto fma hN hB_ hT_ hS0 hM_) (kwV hg mfX11_isMarked wt_1228 ⟨Nat.le_of_ble_eq_true rfl, Nat.le_of_ble_eq_true rfl⟩) (preVR hK hPc (ci := 11) rfl rfl) rfl rfl hl.1 rfl (lv_room (Nat.le_of_ble_eq_true rfl)) dX11_layPaths_110 ⟨Nat.le_of_ble_eq_true rfl, Nat.le_of_ble_eq_true rfl⟩) hS (fun q h1 h2 => absurd h2 (Nat.not_le.mpr h1)) (fun q h => hA q (Nat.le_trans hS.1 h)) (fun r62 ur62 t H1 locs ht hvm w63 hB hz1 hk1 hS => ?_)
                          have hP := keepR hP hk1
                          obtain ⟨w63, w63x⟩ := w63
                          refine lv_if_eq (tgt := 132) hx hb dX11_layPaths_113 (by decide) (fun c64 => ?_) (fun c64 => ?_)
                          · skip
                            refine lv_iload hx hb dX11_layPaths_132 (lv_at hl 1 rfl) ?_
                            refine lv_bipush (v := (-4)) hx hb dX11_layPaths_134 (by decide) ?_
                            refine lv_icmp_eq (tgt := 158) hx hb dX11_layPaths_136 (by decide) (fun c65 => ?_) (fun c65 => ?_)
                            · skip
                              refine lv_iload hx hb dX11_layPaths_158 (lv_at hl 0 rfl) ?_
                              refine lv_bipush (v := (-4)) hx hb dX11_layPaths_160 (by decide) ?_
                              refine lv_icmp_eq (tgt := 184) hx hb dX11_layPaths_162 (by decide) (fun c66 => ?_) (fun c66 => ?_)
                              · skip
                                refine lv_iinc (v := nI (j45 + 1)) (lv' := [(2, .int (nI (j45 + 1))), (5, .int (-4)), (4, .int (-4)), (3, .int (g46 ((10 * j9) + j45))), (1, .int (nI j9)), (0, .ref h0)]) hx hb dX11_layPaths_184 hl (k := 3) rfl (by rw [show Int32.ofInt 1 = nI 1 from by decide]; exact nI_add _ _) (by decide) rfl (fun ls hl => ?_)
                                refine lv_goto (tgt := 67) hx hb dX11_layPaths_187 (by decide) ?_
                                exact ih67_47 (j45 + 1) (by omega) (by omega) g46 _ _ hP hD hS ls (lv_sub hl [0, 4, 5] rfl)
                              · skip
                                exact absurd c66 (by decide)
                            · skip
                              exact absurd c65 (by decide)
                          · skip
                            refine lv_aload_n hx hb dX11_layPaths_116 rfl (lv_at hl 5 rfl) ?_
                            refine va_get (D := (dC, dI)) (ci := 11) (v := .ref ah) (C := RX11) (T := TX11) (N := 35) hx hb hg inG11 hown hK.1 hP 0 rfl rfl 28 (by decide) (hg _ wt_906) (fun _ h9 => h9) rfl dX11_layPaths_117 ?_
                            refine lv_bipush (v := 10) hx hb dX11_layPaths_120 (by decide) ?_
                            refine lv_iload_n hx hb dX11_layPaths_122 rfl (lv_at hl 4 rfl) ?_
                            refine lv_imul hx hb dX11_layPaths_123 ?_
                            refine lv_cg (y := nI (10 * j9)) (by rw [show (10 : Int32) = nI 10 from rfl]; exact pk_mul _ _) ?_
                            refine lv_bipush (v := 10) hx hb dX11_layPaths_124 (by decide) ?_
                            refine lv_iadd hx hb dX11_layPaths_126 ?_
                            refine lv_cg (y := nI ((10 * j9) + 10)) (by rw [show (10 : Int32) = nI 10 from rfl]; exact nI_add _ _) ?_
                            refine lv_dup2_11 hx hb dX11_layPaths_127 rfl rfl ?_
                            refine va_iald hx hb hK.1 hP 3 0 rfl rfl (vp_in_nI (by first | omega | (have t_hj6 := hj6; have t_n8 := n8; have t_hj13 := hj13; have t_n44 := n44; have t_hj49 := hj49; have t_n52 := n52; have t_n61 := n61; have t_c64 := neI c64; have : (0 : Int32).toInt = 0 := qI_0; have t_n0 : (nI N).toInt = (N : Int) := tn1160_ (); have t_n1 : (nI B).toInt = (B : Int) := tn1163_ (); have t_n2 : (nI T).toInt = (T : Int) := tn1164_ (); have t_n3 : (nI S).toInt = (S : Int) := tn1165_ (); have t_n4 : (nI M).toInt = (M : Int) := tn1166_ (); have t_n5 : (nI j1).toInt = (j1 : Int) := tn1136_ (); have t_n6 : (nI j9).toInt = (j9 : Int) := tn1159_ (); have t_n7 : (nI j45).toInt = (j45 : Int) := tn1162_ (); omega)) (by decide)) dX11_layPaths_128 ?_
                            refine lv_cg (y := g46 ((10 * j9) + 10)) (by rw [nI_clamp (by omega)]) ?_
                            refine lv_iload_n hx hb dX11_layPaths_129 rfl (lv_at hl 2 rfl) ?_
                            refine lv_iadd hx hb dX11_layPaths_130 ?_
                            refine lv_topi (fun v67 ev67 => ?_)
                            refine va_iast hx hb hK.1 hP hD hS 3 0 rfl rfl (vp_in_nI (by first | omega | (have t_hj6 := hj6; have t_n8 := n8; have t_hj13 := hj13; have t_n44 := n44; have t_hj49 := hj49; have t_n52 := n52; have t_n61 := n61; have t_c64 := neI c64; have : (0 : Int32).toInt = 0 := qI_0; have t_n0 : (nI N).toInt = (N : Int) := tn1160_ (); have t_n1 : (nI B).toInt = (B : Int) := tn1163_ (); have t_n2 : (nI T).toInt = (T : Int) := tn1164_ (); have t_n3 : (nI S).toInt = (S : Int) := tn1165_ (); have t_n4 : (nI M).toInt = (M : Int) := tn1166_ (); have t_n5 : (nI j1).toInt = (j1 : Int) := tn1136_ (); have t_n6 : (nI j9).toInt = (j9 : Int) := tn1159_ (); have t_n7 : (nI j45).toInt = (j45 : Int) := tn1162_ (); omega)) (by decide)) dX11_layPaths_131 (fun H locs hP hD hS => ?_)
                            rw [nI_clamp (by omega)] at hP hD
                            have hP : va_P (dC, dI) vwCl [(h0, .inr (11, [.ref st, .int (nI N), .int (nI B), .ref rp, .int vrs, .int vrb, .int vhs, .int vca, .int vxs, .int vxb, .ref tp, .int (nI T), .int vfa, .int vbr, .int vba, .int vsp, .int vhe, .int vtk, .int vva, .ref cu, .ref lt, .ref od, .ref th, .ref be, .ref ln, .int (nI S), .ref ma, .int (nI M), .ref ah, .ref bh, .ref ik, .ref la, .ref lg, .ref ce, .int vto])), (st, .inl (G 0, 196, .inl fst)), (ma, .inl (G 0, 12, .inl fma)), (ah, .inl (G 0, 110, .inl (upd g46 ((10 * j9) + 10) v67))), (bh, .inl (G 0, 110, .inl g3))] H := hP
                            have hD : va_D A [(h0, .inr (11, [.ref st, .int (nI N), .int (nI B), .ref rp, .int vrs, .int vrb, .int vhs, .int vca, .int vxs, .int vxb, .ref tp, .int (nI T), .int vfa, .int vbr, .int vba, .int vsp, .int vhe, .int vtk, .int vva, .ref cu, .ref lt, .ref od, .ref th, .ref be, .ref ln, .int (nI S), .ref ma, .int (nI M), .ref ah, .ref bh, .ref ik, .ref la, .ref lg, .ref ce, .int vto])), (st, .inl (G 0, 196, .inl fst)), (ma, .inl (G 0, 12, .inl fma)), (ah, .inl (G 0, 110, .inl (upd g46 ((10 * j9) + 10) v67))), (bh, .inl (G 0, 110, .inl g3))] := hD
                            refine lv_iload hx hb dX11_layPaths_132 (lv_at hl 1 rfl) ?_
                            refine lv_bipush (v := (-4)) hx hb dX11_layPaths_134 (by decide) ?_
                            refine lv_icmp_eq (tgt := 158) hx hb dX11_layPaths_136 (by decide) (fun c68 => ?_) (fun c68 => ?_)
                            · skip
                              refine lv_iload hx hb dX11_layPaths_158 (lv_at hl 0 rfl) ?_
                              refine lv_bipush (v := (-4)) hx hb dX11_layPaths_160 (by decide) ?_
                              refine lv_icmp_eq (tgt := 184) hx hb dX11_layPaths_162 (by decide) (fun c69 => ?_) (fun c69 => ?_)
                              · skip
                                refine lv_iinc (v := nI (j45 + 1)) (lv' := [(2, .int (nI (j45 + 1))), (5, .int (-4)), (4, .int (-4)), (3, .int (g46 ((10 * j9) + j45))), (1, .int (nI j9)), (0, .ref h0)]) hx hb dX11_layPaths_184 hl (k := 3) rfl (by rw [show Int32.ofInt 1 = nI 1 from by decide]; exact nI_add _ _) (by decide) rfl (fun ls hl => ?_)
                                refine lv_goto (tgt := 67) hx hb dX11_layPaths_187 (by decide) ?_
                                exact ih67_47 (j45 + 1) (by omega) (by omega) (upd g46 ((10 * j9) + 10) v67) _ _ hP hD hS ls (lv_sub hl [0, 4, 5] rfl)
                              · skip
                                exact absurd c69 (by decide)
                            · skip
                              exact absurd c68 (by decide)
                      · skip
                        refine lv_cg (y := nI w560) w561 ?_
                        refine lv_istore (lv' := [(5, .int (nI w560)), (4, .int (-4)), (3, .int (g46 ((10 * j9) + j45))), (2, .int (nI j45)), (1, .int (nI j9)), (0, .ref h0)]) hx hb dX11_layPaths_101 hl (by decide) rfl (fun ls hl => ?_)
                        refine lv_iload_n hx hb dX11_layPaths_103 rfl (lv_at hl 3 rfl) ?_
                        refine lv_if_ne (tgt := 132) hx hb dX11_layPaths_104 (by decide) (fun c70 => ?_) (fun c70 => ?_)
                        · skip
                          have n71 : j45 ≠ 0 := by have t := neI c70; rw [show (nI (j45)).toInt = ((j45 : Nat) : Int) from tn1162_ ()] at t; have : (0 : Int32).toInt = 0 := qI_0; omega
                          refine lv_iload hx hb dX11_layPaths_132 (lv_at hl 1 rfl) ?_
                          refine lv_bipush (v := (-4)) hx hb dX11_layPaths_134 (by decide) ?_
                          refine lv_icmp_eq (tgt := 158) hx hb dX11_layPaths_136 (by decide) (fun c72 => ?_) (fun c72 => ?_)
                          · skip
                            refine lv_iload hx hb dX11_layPaths_158 (lv_at hl 0 rfl) ?_
                            refine lv_bipush (v := (-4)) hx hb dX11_layPaths_160 (by decide) ?_
                            refine lv_icmp_eq (tgt := 184) hx hb dX11_layPaths_162 (by decide) (fun c73 => ?_) (fun c73 => ?_)
                            · skip
                              have t_hj6 := hj6
                              have t_n8 := n8
                              have t_hj13 := hj13
                              have t_n44 := n44
                              have t_hj49 := hj49
                              have t_n52 := n52
                              have t_w562 := w562
                              have t_n71 := n71
                              have t_c72 := eqI c72
                              have t_c73 := eqI c73
                              have : ((-4) : Int32).toInt = -4 := qI_m4
                              have t_n0 : (nI N).toInt = (N : Int) := tn1160_ ()
                              have t_n1 : (nI B).toInt = (B : Int) := tn1163_ ()
                              have t_n2 : (nI T).toInt = (T : Int) := tn1164_ ()
                              have t_n3 : (nI S).toInt = (S : Int) := tn1165_ ()
                              have t_n4 : (nI M).toInt = (M : Int) := tn1166_ ()
                              have t_n5 : (nI j1).toInt = (j1 : Int) := tn1136_ ()
                              have t_n6 : (nI j9).toInt = (j9 : Int) := tn1159_ ()
                              have t_n7 : (nI j45).toInt = (j45 : Int) := tn1162_ ()
                              have tn1167_ : nIT w560 := fun _ => nI_toInt (by omega)
                              have t_n8 : (nI w560).toInt = (w560 : Int) := tn1167_ ()
                              exfalso; omega
                            · skip
                              refine lv_aload_n hx hb dX11_layPaths_165 rfl (lv_at hl 5 rfl) ?_
                              refine va_get (D := (dC, dI)) (ci := 11) (v := .ref ah) (C := RX11) (T := TX11) (N := 35) hx hb hg inG11 hown hK.1 hP 0 rfl rfl 28 (by decide) (hg _ wt_906) (fun _ h9 => h9) rfl dX11_layPaths_166 ?_
                              refine lv_bipush (v := 10) hx hb dX11_layPaths_169 (by decide) ?_
                              refine lv_iload_n hx hb dX11_layPaths_171 rfl (lv_at hl 4 rfl) ?_
                              refine lv_imul hx hb dX11_layPaths_172 ?_
                              refine lv_cg (y := nI (10 * j9)) (by rw [show (10 : Int32) = nI 10 from rfl]; exact pk_mul _ _) ?_
                              refine lv_bipush (v := 10) hx hb dX11_layPaths_173 (by decide) ?_
                              refine lv_iadd hx hb dX11_layPaths_175 ?_
                              refine lv_cg (y := nI ((10 * j9) + 10)) (by rw [show (10 : Int32) = nI 10 from rfl]; exact nI_add _ _) ?_
                              refine lv_iload hx hb dX11_layPaths_176 (lv_at hl 0 rfl) ?_
                              refine lv_iadd hx hb dX11_layPaths_178 ?_
                              refine lv_cg (y := nI (((10 * j9) + 10) + w560)) (by exact nI_add _ _) ?_
                              refine lv_dup2_11 hx hb dX11_layPaths_179 rfl rfl ?_
                              have tn1168_ : nIT w560 := fun _ => nI_toInt (by first | omega | (have t_hj6 := hj6; have t_n8 := n8; have t_hj13 := hj13; have t_n44 := n44; have t_hj49 := hj49; have t_n52 := n52; have t_w562 := w562; have t_n71 := n71; have t_c72 := eqI c72; have t_c73 := neI c73; have : ((-4) : Int32).toInt = -4 := qI_m4; omega))
                              refine va_iald hx hb hK.1 hP 3 0 rfl rfl (vp_in_nI (by first | omega | (have t_hj6 := hj6; have t_n8 := n8; have t_hj13 := hj13; have t_n44 := n44; have t_hj49 := hj49; have t_n52 := n52; have t_w562 := w562; have t_n71 := n71; have t_c72 := eqI c72; have t_c73 := neI c73; have : ((-4) : Int32).toInt = -4 := qI_m4; have t_n0 : (nI N).toInt = (N : Int) := tn1160_ (); have t_n1 : (nI B).toInt = (B : Int) := tn1163_ (); have t_n2 : (nI T).toInt = (T : Int) := tn1164_ (); have t_n3 : (nI S).toInt = (S : Int) := tn1165_ (); have t_n4 : (nI M).toInt = (M : Int) := tn1166_ (); have t_n5 : (nI j1).toInt = (j1 : Int) := tn1136_ (); have t_n6 : (nI j9).toInt = (j9 : Int) := tn1159_ (); have t_n7 : (nI j45).toInt = (j45 : Int) := tn1162_ (); have t_n8 : (nI w560).toInt = (w560 : Int) := tn1168_ (); omega)) (by decide)) dX11_layPaths_180 ?_
                              refine lv_cg (y := g46 (((10 * j9) + 10) + w560)) (by rw [nI_clamp (by omega)]) ?_
                              refine lv_iload_n hx hb dX11_layPaths_181 rfl (lv_at hl 2 rfl) ?_
                              refine lv_iadd hx hb dX11_layPaths_182 ?_
                              refine lv_topi (fun v74 ev74 => ?_)
                              refine va_iast hx hb hK.1 hP hD hS 3 0 rfl rfl (vp_in_nI (by first | omega | (have t_hj6 := hj6; have t_n8 := n8; have t_hj13 := hj13; have t_n44 := n44; have t_hj49 := hj49; have t_n52 := n52; have t_w562 := w562; have t_n71 := n71; have t_c72 := eqI c72; have t_c73 := neI c73; have : ((-4) : Int32).toInt = -4 := qI_m4; have t_n0 : (nI N).toInt = (N : Int) := tn1160_ (); have t_n1 : (nI B).toInt = (B : Int) := tn1163_ (); have t_n2 : (nI T).toInt = (T : Int) := tn1164_ (); have t_n3 : (nI S).toInt = (S : Int) := tn1165_ (); have t_n4 : (nI M).toInt = (M : Int) := tn1166_ (); have t_n5 : (nI j1).toInt = (j1 : Int) := tn1136_ (); have t_n6 : (nI j9).toInt = (j9 : Int) := tn1159_ (); have t_n7 : (nI j45).toInt = (j45 : Int) := tn1162_ (); have t_n8 : (nI w560).toInt = (w560 : Int) := tn1168_ (); omega)) (by decide)) dX11_layPaths_183 (fun H locs hP hD hS => ?_)
                              rw [nI_clamp (by omega)] at hP hD
                              have hP : va_P (dC, dI) vwCl [(h0, .inr (11, [.ref st, .int (nI N), .int (nI B), .ref rp, .int vrs, .int vrb, .int vhs, .int vca, .int vxs, .int vxb, .ref tp, .int (nI T), .int vfa, .int vbr, .int vba, .int vsp, .int vhe, .int vtk, .int vva, .ref cu, .ref lt, .ref od, .ref th, .ref be, .ref ln, .int (nI S), .ref ma, .int (nI M), .ref ah, .ref bh, .ref ik, .ref la, .ref lg, .ref ce, .int vto])), (st, .inl (G 0, 196, .inl fst)), (ma, .inl (G 0, 12, .inl fma)), (ah, .inl (G 0, 110, .inl (upd g46 (((10 * j9) + 10) + w560) v74))), (bh, .inl (G 0, 110, .inl g3))] H := hP
                              have hD : va_D A [(h0, .inr (11, [.ref st, .int (nI N), .int (nI B), .ref rp, .int vrs, .int vrb, .int vhs, .int vca, .int vxs, .int vxb, .ref tp, .int (nI T), .int vfa, .int vbr, .int vba, .int vsp, .int vhe, .int vtk, .int vva, .ref cu, .ref lt, .ref od, .ref th, .ref be, .ref ln, .int (nI S), .ref ma, .int (nI M), .ref ah, .ref bh, .ref ik, .ref la, .ref lg, .ref ce, .int vto])), (st, .inl (G 0, 196, .inl fst)), (ma, .inl (G 0, 12, .inl fma)), (ah, .inl (G 0, 110, .inl (upd g46 (((10 * j9) + 10) + w560) v74))), (bh, .inl (G 0, 110, .inl g3))] := hD
                              refine lv_iinc (v := nI (j45 + 1)) (lv' := [(2, .int (nI (j45 + 1))), (5, .int (nI w560)), (4, .int (-4)), (3, .int (g46 ((10 * j9) + j45))), (1, .int (nI j9)), (0, .ref h0)]) hx hb dX11_layPaths_184 hl (k := 3) rfl (by rw [show Int32.ofInt 1 = nI 1 from by decide]; exact nI_add _ _) (by decide) rfl (fun ls hl => ?_)
                              refine lv_goto (tgt := 67) hx hb dX11_layPaths_187 (by decide) ?_
                              exact ih67_47 (j45 + 1) (by omega) (by omega) (upd g46 (((10 * j9) + 10) + w560) v74) _ _ hP hD hS ls (lv_sub hl [0, 4, 5] rfl)
                          · skip
                            exact absurd c72 (by decide)
                        · skip
                          have n75 : j45 = 0 := by have t := eqI c70; rw [show (nI (j45)).toInt = ((j45 : Nat) : Int) from tn1162_ ()] at t; have : (0 : Int32).toInt = 0 := qI_0; omega
                          refine lv_aload_n hx hb dX11_layPaths_107 rfl (lv_at hl 5 rfl) ?_
                          refine lv_iload_n hx hb dX11_layPaths_108 rfl (lv_at hl 4 rfl) ?_
                          refine lv_iconst (v := 0) hx hb dX11_layPaths_109 (by decide) ?_
                          have hPc := hP.sub (ws' := [(h0, .inr (11, [.ref st, .int (nI N), .int (nI B), .ref rp, .int vrs, .int vrb, .int vhs, .int vca, .int vxs, .int vxb, .ref tp, .int (nI T), .int vfa, .int vbr, .int vba, .int vsp, .int vhe, .int vtk, .int vva, .ref cu, .ref lt, .ref od, .ref th, .ref be, .ref ln, .int (nI S), .ref ma, .int (nI M), .ref ah, .ref bh, .ref ik, .ref la, .ref lg, .ref ce, .int vto])), (ma, .inl (G 0, 12, .inl fma))]) [0, 2] rfl
                          have tn1169_ : nIT w560 := fun _ => nI_toInt (by first | omega | (have t_hj6 := hj6; have t_n8 := n8; have t_hj13 := hj13; have t_n44 := n44; have t_hj49 := hj49; have t_n52 := n52; have t_w562 := w562; have t_n75 := n75; omega))
                          refine va_calli (va_runV (As := [.int (nI j9), .int 0]) (rest := []) ⟨hx, hb, hml, hown, hg⟩ (c_X11_isMarked l dC dI G _ h0 st N B rp tp T cu lt od th be ln S ma M ah bh ik la lg ce (nI j9) 0 vrs vrb vhs vca vxs vxb vfa vbr vba vsp vhe vtk vva vto fma hN hB_ hT_ hS0 hM_) (kwV hg mfX11_isMarked wt_1228 ⟨Nat.le_of_ble_eq_true rfl, Nat.le_of_ble_eq_true rfl⟩) (preVR hK hPc (ci := 11) rfl rfl) rfl rfl hl.1 rfl (lv_room (Nat.le_of_ble_eq_true rfl)) dX11_layPaths_110 ⟨Nat.le_of_ble_eq_true rfl, Nat.le_of_ble_eq_true rfl⟩) hS (fun q h1 h2 => absurd h2 (Nat.not_le.mpr h1)) (fun q h => hA q (Nat.le_trans hS.1 h)) (fun r76 ur76 t H1 locs ht hvm w77 hB hz1 hk1 hS => ?_)
                          have hP := keepR hP hk1
                          obtain ⟨w77, w77x⟩ := w77
                          refine lv_if_eq (tgt := 132) hx hb dX11_layPaths_113 (by decide) (fun c78 => ?_) (fun c78 => ?_)
                          · skip
                            refine lv_iload hx hb dX11_layPaths_132 (lv_at hl 1 rfl) ?_
                            refine lv_bipush (v := (-4)) hx hb dX11_layPaths_134 (by decide) ?_
                            refine lv_icmp_eq (tgt := 158) hx hb dX11_layPaths_136 (by decide) (fun c79 => ?_) (fun c79 => ?_)
                            · skip
                              refine lv_iload hx hb dX11_layPaths_158 (lv_at hl 0 rfl) ?_
                              refine lv_bipush (v := (-4)) hx hb dX11_layPaths_160 (by decide) ?_
                              refine lv_icmp_eq (tgt := 184) hx hb dX11_layPaths_162 (by decide) (fun c80 => ?_) (fun c80 => ?_)
                              · skip
                                have t_hj6 := hj6
                                have t_n8 := n8
                                have t_hj13 := hj13
                                have t_n44 := n44
                                have t_hj49 := hj49
                                have t_n52 := n52
                                have t_w562 := w562
                                have t_n75 := n75
                                have t_c78 := eqI c78
                                have t_c79 := eqI c79
                                have t_c80 := eqI c80
                                have : ((-4) : Int32).toInt = -4 := qI_m4
                                have : (0 : Int32).toInt = 0 := qI_0
                                have t_n0 : (nI N).toInt = (N : Int) := tn1160_ ()
                                have t_n1 : (nI B).toInt = (B : Int) := tn1163_ ()
                                have t_n2 : (nI T).toInt = (T : Int) := tn1164_ ()
                                have t_n3 : (nI S).toInt = (S : Int) := tn1165_ ()
                                have t_n4 : (nI M).toInt = (M : Int) := tn1166_ ()
                                have t_n5 : (nI j1).toInt = (j1 : Int) := tn1136_ ()
                                have t_n6 : (nI j9).toInt = (j9 : Int) := tn1159_ ()
                                have t_n7 : (nI j45).toInt = (j45 : Int) := tn1162_ ()
                                have t_n8 : (nI w560).toInt = (w560 : Int) := tn1169_ ()
                                exfalso; omega
                              · skip
                                refine lv_aload_n hx hb dX11_layPaths_165 rfl (lv_at hl 5 rfl) ?_
                                refine va_get (D := (dC, dI)) (ci := 11) (v := .ref ah) (C := RX11) (T := TX11) (N := 35) hx hb hg inG11 hown hK.1 hP 0 rfl rfl 28 (by decide) (hg _ wt_906) (fun _ h9 => h9) rfl dX11_layPaths_166 ?_
                                refine lv_bipush (v := 10) hx hb dX11_layPaths_169 (by decide) ?_
                                refine lv_iload_n hx hb dX11_layPaths_171 rfl (lv_at hl 4 rfl) ?_
                                refine lv_imul hx hb dX11_layPaths_172 ?_
                                refine lv_cg (y := nI (10 * j9)) (by rw [show (10 : Int32) = nI 10 from rfl]; exact pk_mul _ _) ?_
                                refine lv_bipush (v := 10) hx hb dX11_layPaths_173 (by decide) ?_
                                refine lv_iadd hx hb dX11_layPaths_175 ?_
                                refine lv_cg (y := nI ((10 * j9) + 10)) (by rw [show (10 : Int32) = nI 10 from rfl]; exact nI_add _ _) ?_
                                refine lv_iload hx hb dX11_layPaths_176 (lv_at hl 0 rfl) ?_
                                refine lv_iadd hx hb dX11_layPaths_178 ?_
                                refine lv_cg (y := nI (((10 * j9) + 10) + w560)) (by exact nI_add _ _) ?_
                                refine lv_dup2_11 hx hb dX11_layPaths_179 rfl rfl ?_
                                refine va_iald hx hb hK.1 hP 3 0 rfl rfl (vp_in_nI (by first | omega | (have t_hj6 := hj6; have t_n8 := n8; have t_hj13 := hj13; have t_n44 := n44; have t_hj49 := hj49; have t_n52 := n52; have t_w562 := w562; have t_n75 := n75; have t_c78 := eqI c78; have t_c79 := eqI c79; have t_c80 := neI c80; have : ((-4) : Int32).toInt = -4 := qI_m4; have : (0 : Int32).toInt = 0 := qI_0; have t_n0 : (nI N).toInt = (N : Int) := tn1160_ (); have t_n1 : (nI B).toInt = (B : Int) := tn1163_ (); have t_n2 : (nI T).toInt = (T : Int) := tn1164_ (); have t_n3 : (nI S).toInt = (S : Int) := tn1165_ (); have t_n4 : (nI M).toInt = (M : Int) := tn1166_ (); have t_n5 : (nI j1).toInt = (j1 : Int) := tn1136_ (); have t_n6 : (nI j9).toInt = (j9 : Int) := tn1159_ (); have t_n7 : (nI j45).toInt = (j45 : Int) := tn1162_ (); have t_n8 : (nI w560).toInt = (w560 : Int) := tn1169_ (); omega)) (by decide)) dX11_layPaths_180 ?_
                                refine lv_cg (y := g46 (((10 * j9) + 10) + w560)) (by rw [nI_clamp (by omega)]) ?_
                                refine lv_iload_n hx hb dX11_layPaths_181 rfl (lv_at hl 2 rfl) ?_
                                refine lv_iadd hx hb dX11_layPaths_182 ?_
                                refine lv_topi (fun v81 ev81 => ?_)
                                refine va_iast hx hb hK.1 hP hD hS 3 0 rfl rfl (vp_in_nI (by first | omega | (have t_hj6 := hj6; have t_n8 := n8; have t_hj13 := hj13; have t_n44 := n44; have t_hj49 := hj49; have t_n52 := n52; have t_w562 := w562; have t_n75 := n75; have t_c78 := eqI c78; have t_c79 := eqI c79; have t_c80 := neI c80; have : ((-4) : Int32).toInt = -4 := qI_m4; have : (0 : Int32).toInt = 0 := qI_0; have t_n0 : (nI N).toInt = (N : Int) := tn1160_ (); have t_n1 : (nI B).toInt = (B : Int) := tn1163_ (); have t_n2 : (nI T).toInt = (T : Int) := tn1164_ (); have t_n3 : (nI S).toInt = (S : Int) := tn1165_ (); have t_n4 : (nI M).toInt = (M : Int) := tn1166_ (); have t_n5 : (nI j1).toInt = (j1 : Int) := tn1136_ (); have t_n6 : (nI j9).toInt = (j9 : Int) := tn1159_ (); have t_n7 : (nI j45).toInt = (j45 : Int) := tn1162_ (); have t_n8 : (nI w560).toInt = (w560 : Int) := tn1169_ (); omega)) (by decide)) dX11_layPaths_183 (fun H locs hP hD hS => ?_)
                                rw [nI_clamp (by omega)] at hP hD
                                have hP : va_P (dC, dI) vwCl [(h0, .inr (11, [.ref st, .int (nI N), .int (nI B), .ref rp, .int vrs, .int vrb, .int vhs, .int vca, .int vxs, .int vxb, .ref tp, .int (nI T), .int vfa, .int vbr, .int vba, .int vsp, .int vhe, .int vtk, .int vva, .ref cu, .ref lt, .ref od, .ref th, .ref be, .ref ln, .int (nI S), .ref ma, .int (nI M), .ref ah, .ref bh, .ref ik, .ref la, .ref lg, .ref ce, .int vto])), (st, .inl (G 0, 196, .inl fst)), (ma, .inl (G 0, 12, .inl fma)), (ah, .inl (G 0, 110, .inl (upd g46 (((10 * j9) + 10) + w560) v81))), (bh, .inl (G 0, 110, .inl g3))] H := hP
                                have hD : va_D A [(h0, .inr (11, [.ref st, .int (nI N), .int (nI B), .ref rp, .int vrs, .int vrb, .int vhs, .int vca, .int vxs, .int vxb, .ref tp, .int (nI T), .int vfa, .int vbr, .int vba, .int vsp, .int vhe, .int vtk, .int vva, .ref cu, .ref lt, .ref od, .ref th, .ref be, .ref ln, .int (nI S), .ref ma, .int (nI M), .ref ah, .ref bh, .ref ik, .ref la, .ref lg, .ref ce, .int vto])), (st, .inl (G 0, 196, .inl fst)), (ma, .inl (G 0, 12, .inl fma)), (ah, .inl (G 0, 110, .inl (upd g46 (((10 * j9) + 10) + w560) v81))), (bh, .inl (G 0, 110, .inl g3))] := hD
                                refine lv_iinc (v := nI (j45 + 1)) (lv' := [(2, .int (nI (j45 + 1))), (5, .int (nI w560)), (4, .int (-4)), (3, .int (g46 ((10 * j9) + j45))), (1, .int (nI j9)), (0, .ref h0)]) hx hb dX11_layPaths_184 hl (k := 3) rfl (by rw [show Int32.ofInt 1 = nI 1 from by decide]; exact nI_add _ _) (by decide) rfl (fun ls hl => ?_)
                                refine lv_goto (tgt := 67) hx hb dX11_layPaths_187 (by decide) ?_
                                exact ih67_47 (j45 + 1) (by omega) (by omega) (upd g46 (((10 * j9) + 10) + w560) v81) _ _ hP hD hS ls (lv_sub hl [0, 4, 5] rfl)
                            · skip
                              exact absurd c79 (by decide)
                          · skip
                            refine lv_aload_n hx hb dX11_layPaths_116 rfl (lv_at hl 5 rfl) ?_
                            refine va_get (D := (dC, dI)) (ci := 11) (v := .ref ah) (C := RX11) (T := TX11) (N := 35) hx hb hg inG11 hown hK.1 hP 0 rfl rfl 28 (by decide) (hg _ wt_906) (fun _ h9 => h9) rfl dX11_layPaths_117 ?_
                            refine lv_bipush (v := 10) hx hb dX11_layPaths_120 (by decide) ?_
                            refine lv_iload_n hx hb dX11_layPaths_122 rfl (lv_at hl 4 rfl) ?_
                            refine lv_imul hx hb dX11_layPaths_123 ?_
                            refine lv_cg (y := nI (10 * j9)) (by rw [show (10 : Int32) = nI 10 from rfl]; exact pk_mul _ _) ?_
                            refine lv_bipush (v := 10) hx hb dX11_layPaths_124 (by decide) ?_
                            refine lv_iadd hx hb dX11_layPaths_126 ?_
                            refine lv_cg (y := nI ((10 * j9) + 10)) (by rw [show (10 : Int32) = nI 10 from rfl]; exact nI_add _ _) ?_
                            refine lv_dup2_11 hx hb dX11_layPaths_127 rfl rfl ?_
                            refine va_iald hx hb hK.1 hP 3 0 rfl rfl (vp_in_nI (by first | omega | (have t_hj6 := hj6; have t_n8 := n8; have t_hj13 := hj13; have t_n44 := n44; have t_hj49 := hj49; have t_n52 := n52; have t_w562 := w562; have t_n75 := n75; have t_c78 := neI c78; have : (0 : Int32).toInt = 0 := qI_0; have t_n0 : (nI N).toInt = (N : Int) := tn1160_ (); have t_n1 : (nI B).toInt = (B : Int) := tn1163_ (); have t_n2 : (nI T).toInt = (T : Int) := tn1164_ (); have t_n3 : (nI S).toInt = (S : Int) := tn1165_ (); have t_n4 : (nI M).toInt = (M : Int) := tn1166_ (); have t_n5 : (nI j1).toInt = (j1 : Int) := tn1136_ (); have t_n6 : (nI j9).toInt = (j9 : Int) := tn1159_ (); have t_n7 : (nI j45).toInt = (j45 : Int) := tn1162_ (); have t_n8 : (nI w560).toInt = (w560 : Int) := tn1169_ (); omega)) (by decide)) dX11_layPaths_128 ?_
                            refine lv_cg (y := g46 ((10 * j9) + 10)) (by rw [nI_clamp (by omega)]) ?_
                            refine lv_iload_n hx hb dX11_layPaths_129 rfl (lv_at hl 2 rfl) ?_
                            refine lv_iadd hx hb dX11_layPaths_130 ?_
                            refine lv_topi (fun v82 ev82 => ?_)
                            refine va_iast hx hb hK.1 hP hD hS 3 0 rfl rfl (vp_in_nI (by first | omega | (have t_hj6 := hj6; have t_n8 := n8; have t_hj13 := hj13; have t_n44 := n44; have t_hj49 := hj49; have t_n52 := n52; have t_w562 := w562; have t_n75 := n75; have t_c78 := neI c78; have : (0 : Int32).toInt = 0 := qI_0; have t_n0 : (nI N).toInt = (N : Int) := tn1160_ (); have t_n1 : (nI B).toInt = (B : Int) := tn1163_ (); have t_n2 : (nI T).toInt = (T : Int) := tn1164_ (); have t_n3 : (nI S).toInt = (S : Int) := tn1165_ (); have t_n4 : (nI M).toInt = (M : Int) := tn1166_ (); have t_n5 : (nI j1).toInt = (j1 : Int) := tn1136_ (); have t_n6 : (nI j9).toInt = (j9 : Int) := tn1159_ (); have t_n7 : (nI j45).toInt = (j45 : Int) := tn1162_ (); have t_n8 : (nI w560).toInt = (w560 : Int) := tn1169_ (); omega)) (by decide)) dX11_layPaths_131 (fun H locs hP hD hS => ?_)
                            rw [nI_clamp (by omega)] at hP hD
                            have hP : va_P (dC, dI) vwCl [(h0, .inr (11, [.ref st, .int (nI N), .int (nI B), .ref rp, .int vrs, .int vrb, .int vhs, .int vca, .int vxs, .int vxb, .ref tp, .int (nI T), .int vfa, .int vbr, .int vba, .int vsp, .int vhe, .int vtk, .int vva, .ref cu, .ref lt, .ref od, .ref th, .ref be, .ref ln, .int (nI S), .ref ma, .int (nI M), .ref ah, .ref bh, .ref ik, .ref la, .ref lg, .ref ce, .int vto])), (st, .inl (G 0, 196, .inl fst)), (ma, .inl (G 0, 12, .inl fma)), (ah, .inl (G 0, 110, .inl (upd g46 ((10 * j9) + 10) v82))), (bh, .inl (G 0, 110, .inl g3))] H := hP
                            have hD : va_D A [(h0, .inr (11, [.ref st, .int (nI N), .int (nI B), .ref rp, .int vrs, .int vrb, .int vhs, .int vca, .int vxs, .int vxb, .ref tp, .int (nI T), .int vfa, .int vbr, .int vba, .int vsp, .int vhe, .int vtk, .int vva, .ref cu, .ref lt, .ref od, .ref th, .ref be, .ref ln, .int (nI S), .ref ma, .int (nI M), .ref ah, .ref bh, .ref ik, .ref la, .ref lg, .ref ce, .int vto])), (st, .inl (G 0, 196, .inl fst)), (ma, .inl (G 0, 12, .inl fma)), (ah, .inl (G 0, 110, .inl (upd g46 ((10 * j9) + 10) v82))), (bh, .inl (G 0, 110, .inl g3))] := hD
                            refine lv_iload hx hb dX11_layPaths_132 (lv_at hl 1 rfl) ?_
                            refine lv_bipush (v := (-4)) hx hb dX11_layPaths_134 (by decide) ?_
                            refine lv_icmp_eq (tgt := 158) hx hb dX11_layPaths_136 (by decide) (fun c83 => ?_) (fun c83 => ?_)
                            · skip
                              refine lv_iload hx hb dX11_layPaths_158 (lv_at hl 0 rfl) ?_
                              refine lv_bipush (v := (-4)) hx hb dX11_layPaths_160 (by decide) ?_
                              refine lv_icmp_eq (tgt := 184) hx hb dX11_layPaths_162 (by decide) (fun c84 => ?_) (fun c84 => ?_)
                              · skip
                                have t_hj6 := hj6
                                have t_n8 := n8
                                have t_hj13 := hj13
                                have t_n44 := n44
                                have t_hj49 := hj49
                                have t_n52 := n52
                                have t_w562 := w562
                                have t_n75 := n75
                                have t_c78 := neI c78
                                have t_c83 := eqI c83
                                have t_c84 := eqI c84
                                have : ((-4) : Int32).toInt = -4 := qI_m4
                                have : (0 : Int32).toInt = 0 := qI_0
                                have t_n0 : (nI N).toInt = (N : Int) := tn1160_ ()
                                have t_n1 : (nI B).toInt = (B : Int) := tn1163_ ()
                                have t_n2 : (nI T).toInt = (T : Int) := tn1164_ ()
                                have t_n3 : (nI S).toInt = (S : Int) := tn1165_ ()
                                have t_n4 : (nI M).toInt = (M : Int) := tn1166_ ()
                                have t_n5 : (nI j1).toInt = (j1 : Int) := tn1136_ ()
                                have t_n6 : (nI j9).toInt = (j9 : Int) := tn1159_ ()
                                have t_n7 : (nI j45).toInt = (j45 : Int) := tn1162_ ()
                                have t_n8 : (nI w560).toInt = (w560 : Int) := tn1169_ ()
                                exfalso; omega
                              · skip
                                refine lv_aload_n hx hb dX11_layPaths_165 rfl (lv_at hl 5 rfl) ?_
                                refine va_get (D := (dC, dI)) (ci := 11) (v := .ref ah) (C := RX11) (T := TX11) (N := 35) hx hb hg inG11 hown hK.1 hP 0 rfl rfl 28 (by decide) (hg _ wt_906) (fun _ h9 => h9) rfl dX11_layPaths_166 ?_
                                refine lv_bipush (v := 10) hx hb dX11_layPaths_169 (by decide) ?_
                                refine lv_iload_n hx hb dX11_layPaths_171 rfl (lv_at hl 4 rfl) ?_
                                refine lv_imul hx hb dX11_layPaths_172 ?_
                                refine lv_cg (y := nI (10 * j9)) (by rw [show (10 : Int32) = nI 10 from rfl]; exact pk_mul _ _) ?_
                                refine lv_bipush (v := 10) hx hb dX11_layPaths_173 (by decide) ?_
                                refine lv_iadd hx hb dX11_layPaths_175 ?_
                                refine lv_cg (y := nI ((10 * j9) + 10)) (by rw [show (10 : Int32) = nI 10 from rfl]; exact nI_add _ _) ?_
                                refine lv_iload hx hb dX11_layPaths_176 (lv_at hl 0 rfl) ?_
                                refine lv_iadd hx hb dX11_layPaths_178 ?_
                                refine lv_cg (y := nI (((10 * j9) + 10) + w560)) (by exact nI_add _ _) ?_
                                refine lv_dup2_11 hx hb dX11_layPaths_179 rfl rfl ?_
                                refine va_iald hx hb hK.1 hP 3 0 rfl rfl (vp_in_nI (by first | omega | (have t_hj6 := hj6; have t_n8 := n8; have t_hj13 := hj13; have t_n44 := n44; have t_hj49 := hj49; have t_n52 := n52; have t_w562 := w562; have t_n75 := n75; have t_c78 := neI c78; have t_c83 := eqI c83; have t_c84 := neI c84; have : ((-4) : Int32).toInt = -4 := qI_m4; have : (0 : Int32).toInt = 0 := qI_0; have t_n0 : (nI N).toInt = (N : Int) := tn1160_ (); have t_n1 : (nI B).toInt = (B : Int) := tn1163_ (); have t_n2 : (nI T).toInt = (T : Int) := tn1164_ (); have t_n3 : (nI S).toInt = (S : Int) := tn1165_ (); have t_n4 : (nI M).toInt = (M : Int) := tn1166_ (); have t_n5 : (nI j1).toInt = (j1 : Int) := tn1136_ (); have t_n6 : (nI j9).toInt = (j9 : Int) := tn1159_ (); have t_n7 : (nI j45).toInt = (j45 : Int) := tn1162_ (); have t_n8 : (nI w560).toInt = (w560 : Int) := tn1169_ (); omega)) (by decide)) dX11_layPaths_180 ?_
                                refine lv_cg (y := (upd g46 ((10 * j9) + 10) v82) (((10 * j9) + 10) + w560)) (by rw [nI_clamp (by omega)]) ?_
                                refine lv_iload_n hx hb dX11_layPaths_181 rfl (lv_at hl 2 rfl) ?_
                                refine lv_iadd hx hb dX11_layPaths_182 ?_
                                refine lv_topi (fun v85 ev85 => ?_)
                                refine va_iast hx hb hK.1 hP hD hS 3 0 rfl rfl (vp_in_nI (by first | omega | (have t_hj6 := hj6; have t_n8 := n8; have t_hj13 := hj13; have t_n44 := n44; have t_hj49 := hj49; have t_n52 := n52; have t_w562 := w562; have t_n75 := n75; have t_c78 := neI c78; have t_c83 := eqI c83; have t_c84 := neI c84; have : ((-4) : Int32).toInt = -4 := qI_m4; have : (0 : Int32).toInt = 0 := qI_0; have t_n0 : (nI N).toInt = (N : Int) := tn1160_ (); have t_n1 : (nI B).toInt = (B : Int) := tn1163_ (); have t_n2 : (nI T).toInt = (T : Int) := tn1164_ (); have t_n3 : (nI S).toInt = (S : Int) := tn1165_ (); have t_n4 : (nI M).toInt = (M : Int) := tn1166_ (); have t_n5 : (nI j1).toInt = (j1 : Int) := tn1136_ (); have t_n6 : (nI j9).toInt = (j9 : Int) := tn1159_ (); have t_n7 : (nI j45).toInt = (j45 : Int) := tn1162_ (); have t_n8 : (nI w560).toInt = (w560 : Int) := tn1169_ (); omega)) (by decide)) dX11_layPaths_183 (fun H locs hP hD hS => ?_)
                                rw [nI_clamp (by omega)] at hP hD
                                have hP : va_P (dC, dI) vwCl [(h0, .inr (11, [.ref st, .int (nI N), .int (nI B), .ref rp, .int vrs, .int vrb, .int vhs, .int vca, .int vxs, .int vxb, .ref tp, .int (nI T), .int vfa, .int vbr, .int vba, .int vsp, .int vhe, .int vtk, .int vva, .ref cu, .ref lt, .ref od, .ref th, .ref be, .ref ln, .int (nI S), .ref ma, .int (nI M), .ref ah, .ref bh, .ref ik, .ref la, .ref lg, .ref ce, .int vto])), (st, .inl (G 0, 196, .inl fst)), (ma, .inl (G 0, 12, .inl fma)), (ah, .inl (G 0, 110, .inl (upd (upd g46 ((10 * j9) + 10) v82) (((10 * j9) + 10) + w560) v85))), (bh, .inl (G 0, 110, .inl g3))] H := hP
                                have hD : va_D A [(h0, .inr (11, [.ref st, .int (nI N), .int (nI B), .ref rp, .int vrs, .int vrb, .int vhs, .int vca, .int vxs, .int vxb, .ref tp, .int (nI T), .int vfa, .int vbr, .int vba, .int vsp, .int vhe, .int vtk, .int vva, .ref cu, .ref lt, .ref od, .ref th, .ref be, .ref ln, .int (nI S), .ref ma, .int (nI M), .ref ah, .ref bh, .ref ik, .ref la, .ref lg, .ref ce, .int vto])), (st, .inl (G 0, 196, .inl fst)), (ma, .inl (G 0, 12, .inl fma)), (ah, .inl (G 0, 110, .inl (upd (upd g46 ((10 * j9) + 10) v82) (((10 * j9) + 10) + w560) v85))), (bh, .inl (G 0, 110, .inl g3))] := hD
                                refine lv_iinc (v := nI (j45 + 1)) (lv' := [(2, .int (nI (j45 + 1))), (5, .int (nI w560)), (4, .int (-4)), (3, .int (g46 ((10 * j9) + j45))), (1, .int (nI j9)), (0, .ref h0)]) hx hb dX11_layPaths_184 hl (k := 3) rfl (by rw [show Int32.ofInt 1 = nI 1 from by decide]; exact nI_add _ _) (by decide) rfl (fun ls hl => ?_)
                                refine lv_goto (tgt := 67) hx hb dX11_layPaths_187 (by decide) ?_
                                exact ih67_47 (j45 + 1) (by omega) (by omega) (upd (upd g46 ((10 * j9) + 10) v82) (((10 * j9) + 10) + w560) v85) _ _ hP hD hS ls (lv_sub hl [0, 4, 5] rfl)
                            · skip
                              exact absurd c83 (by decide)
                    · skip
                      refine lv_cg (y := nI w540) w541 ?_
                      refine lv_istore (lv' := [(4, .int (nI w540)), (3, .int (g46 ((10 * j9) + j45))), (2, .int (nI j45)), (1, .int (nI j9)), (0, .ref h0)]) hx hb dX11_layPaths_92 hl (by decide) rfl (fun ls hl => ?_)
                      refine lv_aload_n hx hb dX11_layPaths_94 rfl (lv_at hl 4 rfl) ?_
                      refine lv_iload_n hx hb dX11_layPaths_95 rfl (lv_at hl 3 rfl) ?_
                      refine lv_iload_n hx hb dX11_layPaths_96 rfl (lv_at hl 2 rfl) ?_
                      refine lv_iconst (v := 0) hx hb dX11_layPaths_97 (by decide) ?_
                      have hPc := hP.sub (ws' := [(h0, .inr (11, [.ref st, .int (nI N), .int (nI B), .ref rp, .int vrs, .int vrb, .int vhs, .int vca, .int vxs, .int vxb, .ref tp, .int (nI T), .int vfa, .int vbr, .int vba, .int vsp, .int vhe, .int vtk, .int vva, .ref cu, .ref lt, .ref od, .ref th, .ref be, .ref ln, .int (nI S), .ref ma, .int (nI M), .ref ah, .ref bh, .ref ik, .ref la, .ref lg, .ref ce, .int vto])), (st, .inl (G 0, 196, .inl fst)), (ma, .inl (G 0, 12, .inl fma))]) [0, 1, 2] rfl
                      have tn1170_ : nIT w540 := fun _ => nI_toInt (by first | omega | (have t_hj6 := hj6; have t_n8 := n8; have t_hj13 := hj13; have t_n44 := n44; have t_hj49 := hj49; have t_n52 := n52; have t_w542 := w542; omega))
                      refine va_calli (va_runV (As := [.int (nI j9), .int (nI j45), .int 0]) (rest := []) ⟨hx, hb, hml, hown, hg⟩ (c_X11_depthThen l dC dI G _ h0 j9 j45 st N B rp tp T cu lt od th be ln S ma M ah bh ik la lg ce 0 vrs vrb vhs vca vxs vxb vfa vbr vba vsp vhe vtk vva vto fst fma hN hB_ hT_ hS0 hM_ hst (by first | omega | (have t_hj6 := hj6; have t_n8 := n8; have t_hj13 := hj13; have t_n44 := n44; have t_hj49 := hj49; have t_n52 := n52; have t_w542 := w542; have t_n0 : (nI N).toInt = (N : Int) := tn1160_ (); have t_n1 : (nI B).toInt = (B : Int) := tn1163_ (); have t_n2 : (nI T).toInt = (T : Int) := tn1164_ (); have t_n3 : (nI S).toInt = (S : Int) := tn1165_ (); have t_n4 : (nI M).toInt = (M : Int) := tn1166_ (); have t_n5 : (nI j1).toInt = (j1 : Int) := tn1136_ (); have t_n6 : (nI j9).toInt = (j9 : Int) := tn1159_ (); have t_n7 : (nI j45).toInt = (j45 : Int) := tn1162_ (); have t_n8 : (nI w540).toInt = (w540 : Int) := tn1170_ (); omega)) (by first | omega | (have t_hj6 := hj6; have t_n8 := n8; have t_hj13 := hj13; have t_n44 := n44; have t_hj49 := hj49; have t_n52 := n52; have t_w542 := w542; have t_n0 : (nI N).toInt = (N : Int) := tn1160_ (); have t_n1 : (nI B).toInt = (B : Int) := tn1163_ (); have t_n2 : (nI T).toInt = (T : Int) := tn1164_ (); have t_n3 : (nI S).toInt = (S : Int) := tn1165_ (); have t_n4 : (nI M).toInt = (M : Int) := tn1166_ (); have t_n5 : (nI j1).toInt = (j1 : Int) := tn1136_ (); have t_n6 : (nI j9).toInt = (j9 : Int) := tn1159_ (); have t_n7 : (nI j45).toInt = (j45 : Int) := tn1162_ (); have t_n8 : (nI w540).toInt = (w540 : Int) := tn1170_ (); omega))) (kwV hg mfX11_depthThen wt_1224 ⟨Nat.le_of_ble_eq_true rfl, Nat.le_of_ble_eq_true rfl⟩) (preVR hK hPc (ci := 11) rfl rfl) rfl rfl hl.1 rfl (lv_room (Nat.le_of_ble_eq_true rfl)) dX11_layPaths_98 ⟨Nat.le_of_ble_eq_true rfl, Nat.le_of_ble_eq_true rfl⟩) hS (fun q h1 h2 => absurd h2 (Nat.not_le.mpr h1)) (fun q h => hA q (Nat.le_trans hS.1 h)) (fun r86 ur86 t H1 locs ht hvm w87 hB hz1 hk1 hS => ?_)
                      have hP := keepR hP hk1
                      obtain ⟨w87, w87x⟩ := w87
                      rcases w87 with w871 | ⟨w870, w871, w872⟩
                      · skip
                        refine lv_cg (y := (-4)) w871 ?_
                        refine lv_istore (lv' := [(5, .int (-4)), (4, .int (nI w540)), (3, .int (g46 ((10 * j9) + j45))), (2, .int (nI j45)), (1, .int (nI j9)), (0, .ref h0)]) hx hb dX11_layPaths_101 hl (by decide) rfl (fun ls hl => ?_)
                        refine lv_iload_n hx hb dX11_layPaths_103 rfl (lv_at hl 3 rfl) ?_
                        refine lv_if_ne (tgt := 132) hx hb dX11_layPaths_104 (by decide) (fun c88 => ?_) (fun c88 => ?_)
                        · skip
                          have n89 : j45 ≠ 0 := by have t := neI c88; rw [show (nI (j45)).toInt = ((j45 : Nat) : Int) from tn1162_ ()] at t; have : (0 : Int32).toInt = 0 := qI_0; omega
                          refine lv_iload hx hb dX11_layPaths_132 (lv_at hl 1 rfl) ?_
                          refine lv_bipush (v := (-4)) hx hb dX11_layPaths_134 (by decide) ?_
                          refine lv_icmp_eq (tgt := 158) hx hb dX11_layPaths_136 (by decide) (fun c90 => ?_) (fun c90 => ?_)
                          · skip
                            have t_hj6 := hj6
                            have t_n8 := n8
                            have t_hj13 := hj13
                            have t_n44 := n44
                            have t_hj49 := hj49
                            have t_n52 := n52
                            have t_w542 := w542
                            have t_n89 := n89
                            have t_c90 := eqI c90
                            have : ((-4) : Int32).toInt = -4 := qI_m4
                            have t_n0 : (nI N).toInt = (N : Int) := tn1160_ ()
                            have t_n1 : (nI B).toInt = (B : Int) := tn1163_ ()
                            have t_n2 : (nI T).toInt = (T : Int) := tn1164_ ()
                            have t_n3 : (nI S).toInt = (S : Int) := tn1165_ ()
                            have t_n4 : (nI M).toInt = (M : Int) := tn1166_ ()
                            have t_n5 : (nI j1).toInt = (j1 : Int) := tn1136_ ()
                            have t_n6 : (nI j9).toInt = (j9 : Int) := tn1159_ ()
                            have t_n7 : (nI j45).toInt = (j45 : Int) := tn1162_ ()
                            have t_n8 : (nI w540).toInt = (w540 : Int) := tn1170_ ()
                            exfalso; omega
                          · skip
                            refine lv_aload_n hx hb dX11_layPaths_139 rfl (lv_at hl 5 rfl) ?_
                            refine va_get (D := (dC, dI)) (ci := 11) (v := .ref ah) (C := RX11) (T := TX11) (N := 35) hx hb hg inG11 hown hK.1 hP 0 rfl rfl 28 (by decide) (hg _ wt_906) (fun _ h9 => h9) rfl dX11_layPaths_140 ?_
                            refine lv_bipush (v := 10) hx hb dX11_layPaths_143 (by decide) ?_
                            refine lv_iload_n hx hb dX11_layPaths_145 rfl (lv_at hl 4 rfl) ?_
                            refine lv_imul hx hb dX11_layPaths_146 ?_
                            refine lv_cg (y := nI (10 * j9)) (by rw [show (10 : Int32) = nI 10 from rfl]; exact pk_mul _ _) ?_
                            refine lv_bipush (v := 10) hx hb dX11_layPaths_147 (by decide) ?_
                            refine lv_iadd hx hb dX11_layPaths_149 ?_
                            refine lv_cg (y := nI ((10 * j9) + 10)) (by rw [show (10 : Int32) = nI 10 from rfl]; exact nI_add _ _) ?_
                            refine lv_iload hx hb dX11_layPaths_150 (lv_at hl 1 rfl) ?_
                            refine lv_iadd hx hb dX11_layPaths_152 ?_
                            refine lv_cg (y := nI (((10 * j9) + 10) + w540)) (by exact nI_add _ _) ?_
                            refine lv_dup2_11 hx hb dX11_layPaths_153 rfl rfl ?_
                            refine va_iald hx hb hK.1 hP 3 0 rfl rfl (vp_in_nI (by first | omega | (have t_hj6 := hj6; have t_n8 := n8; have t_hj13 := hj13; have t_n44 := n44; have t_hj49 := hj49; have t_n52 := n52; have t_w542 := w542; have t_n89 := n89; have t_c90 := neI c90; have : ((-4) : Int32).toInt = -4 := qI_m4; have t_n0 : (nI N).toInt = (N : Int) := tn1160_ (); have t_n1 : (nI B).toInt = (B : Int) := tn1163_ (); have t_n2 : (nI T).toInt = (T : Int) := tn1164_ (); have t_n3 : (nI S).toInt = (S : Int) := tn1165_ (); have t_n4 : (nI M).toInt = (M : Int) := tn1166_ (); have t_n5 : (nI j1).toInt = (j1 : Int) := tn1136_ (); have t_n6 : (nI j9).toInt = (j9 : Int) := tn1159_ (); have t_n7 : (nI j45).toInt = (j45 : Int) := tn1162_ (); have t_n8 : (nI w540).toInt = (w540 : Int) := tn1170_ (); omega)) (by decide)) dX11_layPaths_154 ?_
                            refine lv_cg (y := g46 (((10 * j9) + 10) + w540)) (by rw [nI_clamp (by omega)]) ?_
                            refine lv_iload_n hx hb dX11_layPaths_155 rfl (lv_at hl 2 rfl) ?_
                            refine lv_iadd hx hb dX11_layPaths_156 ?_
                            refine lv_topi (fun v91 ev91 => ?_)
                            refine va_iast hx hb hK.1 hP hD hS 3 0 rfl rfl (vp_in_nI (by first | omega | (have t_hj6 := hj6; have t_n8 := n8; have t_hj13 := hj13; have t_n44 := n44; have t_hj49 := hj49; have t_n52 := n52; have t_w542 := w542; have t_n89 := n89; have t_c90 := neI c90; have : ((-4) : Int32).toInt = -4 := qI_m4; have t_n0 : (nI N).toInt = (N : Int) := tn1160_ (); have t_n1 : (nI B).toInt = (B : Int) := tn1163_ (); have t_n2 : (nI T).toInt = (T : Int) := tn1164_ (); have t_n3 : (nI S).toInt = (S : Int) := tn1165_ (); have t_n4 : (nI M).toInt = (M : Int) := tn1166_ (); have t_n5 : (nI j1).toInt = (j1 : Int) := tn1136_ (); have t_n6 : (nI j9).toInt = (j9 : Int) := tn1159_ (); have t_n7 : (nI j45).toInt = (j45 : Int) := tn1162_ (); have t_n8 : (nI w540).toInt = (w540 : Int) := tn1170_ (); omega)) (by decide)) dX11_layPaths_157 (fun H locs hP hD hS => ?_)
                            rw [nI_clamp (by omega)] at hP hD
                            have hP : va_P (dC, dI) vwCl [(h0, .inr (11, [.ref st, .int (nI N), .int (nI B), .ref rp, .int vrs, .int vrb, .int vhs, .int vca, .int vxs, .int vxb, .ref tp, .int (nI T), .int vfa, .int vbr, .int vba, .int vsp, .int vhe, .int vtk, .int vva, .ref cu, .ref lt, .ref od, .ref th, .ref be, .ref ln, .int (nI S), .ref ma, .int (nI M), .ref ah, .ref bh, .ref ik, .ref la, .ref lg, .ref ce, .int vto])), (st, .inl (G 0, 196, .inl fst)), (ma, .inl (G 0, 12, .inl fma)), (ah, .inl (G 0, 110, .inl (upd g46 (((10 * j9) + 10) + w540) v91))), (bh, .inl (G 0, 110, .inl g3))] H := hP
                            have hD : va_D A [(h0, .inr (11, [.ref st, .int (nI N), .int (nI B), .ref rp, .int vrs, .int vrb, .int vhs, .int vca, .int vxs, .int vxb, .ref tp, .int (nI T), .int vfa, .int vbr, .int vba, .int vsp, .int vhe, .int vtk, .int vva, .ref cu, .ref lt, .ref od, .ref th, .ref be, .ref ln, .int (nI S), .ref ma, .int (nI M), .ref ah, .ref bh, .ref ik, .ref la, .ref lg, .ref ce, .int vto])), (st, .inl (G 0, 196, .inl fst)), (ma, .inl (G 0, 12, .inl fma)), (ah, .inl (G 0, 110, .inl (upd g46 (((10 * j9) + 10) + w540) v91))), (bh, .inl (G 0, 110, .inl g3))] := hD
                            refine lv_iload hx hb dX11_layPaths_158 (lv_at hl 0 rfl) ?_
                            refine lv_bipush (v := (-4)) hx hb dX11_layPaths_160 (by decide) ?_
                            refine lv_icmp_eq (tgt := 184) hx hb dX11_layPaths_162 (by decide) (fun c92 => ?_) (fun c92 => ?_)
                            · skip
                              refine lv_iinc (v := nI (j45 + 1)) (lv' := [(2, .int (nI (j45 + 1))), (5, .int (-4)), (4, .int (nI w540)), (3, .int (g46 ((10 * j9) + j45))), (1, .int (nI j9)), (0, .ref h0)]) hx hb dX11_layPaths_184 hl (k := 3) rfl (by rw [show Int32.ofInt 1 = nI 1 from by decide]; exact nI_add _ _) (by decide) rfl (fun ls hl => ?_)
                              refine lv_goto (tgt := 67) hx hb dX11_layPaths_187 (by decide) ?_
                              exact ih67_47 (j45 + 1) (by omega) (by omega) (upd g46 (((10 * j9) + 10) + w540) v91) _ _ hP hD hS ls (lv_sub hl [0, 4, 5] rfl)
                            · skip
                              exact absurd c92 (by decide)
                        · skip
                          have n93 : j45 = 0 := by have t := eqI c88; rw [show (nI (j45)).toInt = ((j45 : Nat) : Int) from tn1162_ ()] at t; have : (0 : Int32).toInt = 0 := qI_0; omega
                          refine lv_aload_n hx hb dX11_layPaths_107 rfl (lv_at hl 5 rfl) ?_
                          refine lv_iload_n hx hb dX11_layPaths_108 rfl (lv_at hl 4 rfl) ?_
                          refine lv_iconst (v := 0) hx hb dX11_layPaths_109 (by decide) ?_
                          have hPc := hP.sub (ws' := [(h0, .inr (11, [.ref st, .int (nI N), .int (nI B), .ref rp, .int vrs, .int vrb, .int vhs, .int vca, .int vxs, .int vxb, .ref tp, .int (nI T), .int vfa, .int vbr, .int vba, .int vsp, .int vhe, .int vtk, .int vva, .ref cu, .ref lt, .ref od, .ref th, .ref be, .ref ln, .int (nI S), .ref ma, .int (nI M), .ref ah, .ref bh, .ref ik, .ref la, .ref lg, .ref ce, .int vto])), (ma, .inl (G 0, 12, .inl fma))]) [0, 2] rfl
                          refine va_calli (va_runV (As := [.int (nI j9), .int 0]) (rest := []) ⟨hx, hb, hml, hown, hg⟩ (c_X11_isMarked l dC dI G _ h0 st N B rp tp T cu lt od th be ln S ma M ah bh ik la lg ce (nI j9) 0 vrs vrb vhs vca vxs vxb vfa vbr vba vsp vhe vtk vva vto fma hN hB_ hT_ hS0 hM_) (kwV hg mfX11_isMarked wt_1228 ⟨Nat.le_of_ble_eq_true rfl, Nat.le_of_ble_eq_true rfl⟩) (preVR hK hPc (ci := 11) rfl rfl) rfl rfl hl.1 rfl (lv_room (Nat.le_of_ble_eq_true rfl)) dX11_layPaths_110 ⟨Nat.le_of_ble_eq_true rfl, Nat.le_of_ble_eq_true rfl⟩) hS (fun q h1 h2 => absurd h2 (Nat.not_le.mpr h1)) (fun q h => hA q (Nat.le_trans hS.1 h)) (fun r94 ur94 t H1 locs ht hvm w95 hB hz1 hk1 hS => ?_)
                          have hP := keepR hP hk1
                          obtain ⟨w95, w95x⟩ := w95
                          refine lv_if_eq (tgt := 132) hx hb dX11_layPaths_113 (by decide) (fun c96 => ?_) (fun c96 => ?_)
                          · skip
                            refine lv_iload hx hb dX11_layPaths_132 (lv_at hl 1 rfl) ?_
                            refine lv_bipush (v := (-4)) hx hb dX11_layPaths_134 (by decide) ?_
                            refine lv_icmp_eq (tgt := 158) hx hb dX11_layPaths_136 (by decide) (fun c97 => ?_) (fun c97 => ?_)
                            · skip
                              have t_hj6 := hj6
                              have t_n8 := n8
                              have t_hj13 := hj13
                              have t_n44 := n44
                              have t_hj49 := hj49
                              have t_n52 := n52
                              have t_w542 := w542
                              have t_n93 := n93
                              have t_c96 := eqI c96
                              have t_c97 := eqI c97
                              have : ((-4) : Int32).toInt = -4 := qI_m4
                              have : (0 : Int32).toInt = 0 := qI_0
                              have t_n0 : (nI N).toInt = (N : Int) := tn1160_ ()
                              have t_n1 : (nI B).toInt = (B : Int) := tn1163_ ()
                              have t_n2 : (nI T).toInt = (T : Int) := tn1164_ ()
                              have t_n3 : (nI S).toInt = (S : Int) := tn1165_ ()
                              have t_n4 : (nI M).toInt = (M : Int) := tn1166_ ()
                              have t_n5 : (nI j1).toInt = (j1 : Int) := tn1136_ ()
                              have t_n6 : (nI j9).toInt = (j9 : Int) := tn1159_ ()
                              have t_n7 : (nI j45).toInt = (j45 : Int) := tn1162_ ()
                              have t_n8 : (nI w540).toInt = (w540 : Int) := tn1170_ ()
                              exfalso; omega
                            · skip
                              refine lv_aload_n hx hb dX11_layPaths_139 rfl (lv_at hl 5 rfl) ?_
                              refine va_get (D := (dC, dI)) (ci := 11) (v := .ref ah) (C := RX11) (T := TX11) (N := 35) hx hb hg inG11 hown hK.1 hP 0 rfl rfl 28 (by decide) (hg _ wt_906) (fun _ h9 => h9) rfl dX11_layPaths_140 ?_
                              refine lv_bipush (v := 10) hx hb dX11_layPaths_143 (by decide) ?_
                              refine lv_iload_n hx hb dX11_layPaths_145 rfl (lv_at hl 4 rfl) ?_
                              refine lv_imul hx hb dX11_layPaths_146 ?_
                              refine lv_cg (y := nI (10 * j9)) (by rw [show (10 : Int32) = nI 10 from rfl]; exact pk_mul _ _) ?_
                              refine lv_bipush (v := 10) hx hb dX11_layPaths_147 (by decide) ?_
                              refine lv_iadd hx hb dX11_layPaths_149 ?_
                              refine lv_cg (y := nI ((10 * j9) + 10)) (by rw [show (10 : Int32) = nI 10 from rfl]; exact nI_add _ _) ?_
                              refine lv_iload hx hb dX11_layPaths_150 (lv_at hl 1 rfl) ?_
                              refine lv_iadd hx hb dX11_layPaths_152 ?_
                              refine lv_cg (y := nI (((10 * j9) + 10) + w540)) (by exact nI_add _ _) ?_
                              refine lv_dup2_11 hx hb dX11_layPaths_153 rfl rfl ?_
                              refine va_iald hx hb hK.1 hP 3 0 rfl rfl (vp_in_nI (by first | omega | (have t_hj6 := hj6; have t_n8 := n8; have t_hj13 := hj13; have t_n44 := n44; have t_hj49 := hj49; have t_n52 := n52; have t_w542 := w542; have t_n93 := n93; have t_c96 := eqI c96; have t_c97 := neI c97; have : ((-4) : Int32).toInt = -4 := qI_m4; have : (0 : Int32).toInt = 0 := qI_0; have t_n0 : (nI N).toInt = (N : Int) := tn1160_ (); have t_n1 : (nI B).toInt = (B : Int) := tn1163_ (); have t_n2 : (nI T).toInt = (T : Int) := tn1164_ (); have t_n3 : (nI S).toInt = (S : Int) := tn1165_ (); have t_n4 : (nI M).toInt = (M : Int) := tn1166_ (); have t_n5 : (nI j1).toInt = (j1 : Int) := tn1136_ (); have t_n6 : (nI j9).toInt = (j9 : Int) := tn1159_ (); have t_n7 : (nI j45).toInt = (j45 : Int) := tn1162_ (); have t_n8 : (nI w540).toInt = (w540 : Int) := tn1170_ (); omega)) (by decide)) dX11_layPaths_154 ?_
                              refine lv_cg (y := g46 (((10 * j9) + 10) + w540)) (by rw [nI_clamp (by omega)]) ?_
                              refine lv_iload_n hx hb dX11_layPaths_155 rfl (lv_at hl 2 rfl) ?_
                              refine lv_iadd hx hb dX11_layPaths_156 ?_
                              refine lv_topi (fun v98 ev98 => ?_)
                              refine va_iast hx hb hK.1 hP hD hS 3 0 rfl rfl (vp_in_nI (by first | omega | (have t_hj6 := hj6; have t_n8 := n8; have t_hj13 := hj13; have t_n44 := n44; have t_hj49 := hj49; have t_n52 := n52; have t_w542 := w542; have t_n93 := n93; have t_c96 := eqI c96; have t_c97 := neI c97; have : ((-4) : Int32).toInt = -4 := qI_m4; have : (0 : Int32).toInt = 0 := qI_0; have t_n0 : (nI N).toInt = (N : Int) := tn1160_ (); have t_n1 : (nI B).toInt = (B : Int) := tn1163_ (); have t_n2 : (nI T).toInt = (T : Int) := tn1164_ (); have t_n3 : (nI S).toInt = (S : Int) := tn1165_ (); have t_n4 : (nI M).toInt = (M : Int) := tn1166_ (); have t_n5 : (nI j1).toInt = (j1 : Int) := tn1136_ (); have t_n6 : (nI j9).toInt = (j9 : Int) := tn1159_ (); have t_n7 : (nI j45).toInt = (j45 : Int) := tn1162_ (); have t_n8 : (nI w540).toInt = (w540 : Int) := tn1170_ (); omega)) (by decide)) dX11_layPaths_157 (fun H locs hP hD hS => ?_)
                              rw [nI_clamp (by omega)] at hP hD
                              have hP : va_P (dC, dI) vwCl [(h0, .inr (11, [.ref st, .int (nI N), .int (nI B), .ref rp, .int vrs, .int vrb, .int vhs, .int vca, .int vxs, .int vxb, .ref tp, .int (nI T), .int vfa, .int vbr, .int vba, .int vsp, .int vhe, .int vtk, .int vva, .ref cu, .ref lt, .ref od, .ref th, .ref be, .ref ln, .int (nI S), .ref ma, .int (nI M), .ref ah, .ref bh, .ref ik, .ref la, .ref lg, .ref ce, .int vto])), (st, .inl (G 0, 196, .inl fst)), (ma, .inl (G 0, 12, .inl fma)), (ah, .inl (G 0, 110, .inl (upd g46 (((10 * j9) + 10) + w540) v98))), (bh, .inl (G 0, 110, .inl g3))] H := hP
                              have hD : va_D A [(h0, .inr (11, [.ref st, .int (nI N), .int (nI B), .ref rp, .int vrs, .int vrb, .int vhs, .int vca, .int vxs, .int vxb, .ref tp, .int (nI T), .int vfa, .int vbr, .int vba, .int vsp, .int vhe, .int vtk, .int vva, .ref cu, .ref lt, .ref od, .ref th, .ref be, .ref ln, .int (nI S), .ref ma, .int (nI M), .ref ah, .ref bh, .ref ik, .ref la, .ref lg, .ref ce, .int vto])), (st, .inl (G 0, 196, .inl fst)), (ma, .inl (G 0, 12, .inl fma)), (ah, .inl (G 0, 110, .inl (upd g46 (((10 * j9) + 10) + w540) v98))), (bh, .inl (G 0, 110, .inl g3))] := hD
                              refine lv_iload hx hb dX11_layPaths_158 (lv_at hl 0 rfl) ?_
                              refine lv_bipush (v := (-4)) hx hb dX11_layPaths_160 (by decide) ?_
                              refine lv_icmp_eq (tgt := 184) hx hb dX11_layPaths_162 (by decide) (fun c99 => ?_) (fun c99 => ?_)
                              · skip
                                refine lv_iinc (v := nI (j45 + 1)) (lv' := [(2, .int (nI (j45 + 1))), (5, .int (-4)), (4, .int (nI w540)), (3, .int (g46 ((10 * j9) + j45))), (1, .int (nI j9)), (0, .ref h0)]) hx hb dX11_layPaths_184 hl (k := 3) rfl (by rw [show Int32.ofInt 1 = nI 1 from by decide]; exact nI_add _ _) (by decide) rfl (fun ls hl => ?_)
                                refine lv_goto (tgt := 67) hx hb dX11_layPaths_187 (by decide) ?_
                                exact ih67_47 (j45 + 1) (by omega) (by omega) (upd g46 (((10 * j9) + 10) + w540) v98) _ _ hP hD hS ls (lv_sub hl [0, 4, 5] rfl)
                              · skip
                                exact absurd c99 (by decide)
                          · skip
                            refine lv_aload_n hx hb dX11_layPaths_116 rfl (lv_at hl 5 rfl) ?_
                            refine va_get (D := (dC, dI)) (ci := 11) (v := .ref ah) (C := RX11) (T := TX11) (N := 35) hx hb hg inG11 hown hK.1 hP 0 rfl rfl 28 (by decide) (hg _ wt_906) (fun _ h9 => h9) rfl dX11_layPaths_117 ?_
                            refine lv_bipush (v := 10) hx hb dX11_layPaths_120 (by decide) ?_
                            refine lv_iload_n hx hb dX11_layPaths_122 rfl (lv_at hl 4 rfl) ?_
                            refine lv_imul hx hb dX11_layPaths_123 ?_
                            refine lv_cg (y := nI (10 * j9)) (by rw [show (10 : Int32) = nI 10 from rfl]; exact pk_mul _ _) ?_
                            refine lv_bipush (v := 10) hx hb dX11_layPaths_124 (by decide) ?_
                            refine lv_iadd hx hb dX11_layPaths_126 ?_
                            refine lv_cg (y := nI ((10 * j9) + 10)) (by rw [show (10 : Int32) = nI 10 from rfl]; exact nI_add _ _) ?_
                            refine lv_dup2_11 hx hb dX11_layPaths_127 rfl rfl ?_
                            refine va_iald hx hb hK.1 hP 3 0 rfl rfl (vp_in_nI (by first | omega | (have t_hj6 := hj6; have t_n8 := n8; have t_hj13 := hj13; have t_n44 := n44; have t_hj49 := hj49; have t_n52 := n52; have t_w542 := w542; have t_n93 := n93; have t_c96 := neI c96; have : (0 : Int32).toInt = 0 := qI_0; have t_n0 : (nI N).toInt = (N : Int) := tn1160_ (); have t_n1 : (nI B).toInt = (B : Int) := tn1163_ (); have t_n2 : (nI T).toInt = (T : Int) := tn1164_ (); have t_n3 : (nI S).toInt = (S : Int) := tn1165_ (); have t_n4 : (nI M).toInt = (M : Int) := tn1166_ (); have t_n5 : (nI j1).toInt = (j1 : Int) := tn1136_ (); have t_n6 : (nI j9).toInt = (j9 : Int) := tn1159_ (); have t_n7 : (nI j45).toInt = (j45 : Int) := tn1162_ (); have t_n8 : (nI w540).toInt = (w540 : Int) := tn1170_ (); omega)) (by decide)) dX11_layPaths_128 ?_
                            refine lv_cg (y := g46 ((10 * j9) + 10)) (by rw [nI_clamp (by omega)]) ?_
                            refine lv_iload_n hx hb dX11_layPaths_129 rfl (lv_at hl 2 rfl) ?_
                            refine lv_iadd hx hb dX11_layPaths_130 ?_
                            refine lv_topi (fun v100 ev100 => ?_)
                            refine va_iast hx hb hK.1 hP hD hS 3 0 rfl rfl (vp_in_nI (by first | omega | (have t_hj6 := hj6; have t_n8 := n8; have t_hj13 := hj13; have t_n44 := n44; have t_hj49 := hj49; have t_n52 := n52; have t_w542 := w542; have t_n93 := n93; have t_c96 := neI c96; have : (0 : Int32).toInt = 0 := qI_0; have t_n0 : (nI N).toInt = (N : Int) := tn1160_ (); have t_n1 : (nI B).toInt = (B : Int) := tn1163_ (); have t_n2 : (nI T).toInt = (T : Int) := tn1164_ (); have t_n3 : (nI S).toInt = (S : Int) := tn1165_ (); have t_n4 : (nI M).toInt = (M : Int) := tn1166_ (); have t_n5 : (nI j1).toInt = (j1 : Int) := tn1136_ (); have t_n6 : (nI j9).toInt = (j9 : Int) := tn1159_ (); have t_n7 : (nI j45).toInt = (j45 : Int) := tn1162_ (); have t_n8 : (nI w540).toInt = (w540 : Int) := tn1170_ (); omega)) (by decide)) dX11_layPaths_131 (fun H locs hP hD hS => ?_)
                            rw [nI_clamp (by omega)] at hP hD
                            have hP : va_P (dC, dI) vwCl [(h0, .inr (11, [.ref st, .int (nI N), .int (nI B), .ref rp, .int vrs, .int vrb, .int vhs, .int vca, .int vxs, .int vxb, .ref tp, .int (nI T), .int vfa, .int vbr, .int vba, .int vsp, .int vhe, .int vtk, .int vva, .ref cu, .ref lt, .ref od, .ref th, .ref be, .ref ln, .int (nI S), .ref ma, .int (nI M), .ref ah, .ref bh, .ref ik, .ref la, .ref lg, .ref ce, .int vto])), (st, .inl (G 0, 196, .inl fst)), (ma, .inl (G 0, 12, .inl fma)), (ah, .inl (G 0, 110, .inl (upd g46 ((10 * j9) + 10) v100))), (bh, .inl (G 0, 110, .inl g3))] H := hP
                            have hD : va_D A [(h0, .inr (11, [.ref st, .int (nI N), .int (nI B), .ref rp, .int vrs, .int vrb, .int vhs, .int vca, .int vxs, .int vxb, .ref tp, .int (nI T), .int vfa, .int vbr, .int vba, .int vsp, .int vhe, .int vtk, .int vva, .ref cu, .ref lt, .ref od, .ref th, .ref be, .ref ln, .int (nI S), .ref ma, .int (nI M), .ref ah, .ref bh, .ref ik, .ref la, .ref lg, .ref ce, .int vto])), (st, .inl (G 0, 196, .inl fst)), (ma, .inl (G 0, 12, .inl fma)), (ah, .inl (G 0, 110, .inl (upd g46 ((10 * j9) + 10) v100))), (bh, .inl (G 0, 110, .inl g3))] := hD
                            refine lv_iload hx hb dX11_layPaths_132 (lv_at hl 1 rfl) ?_
                            refine lv_bipush (v := (-4)) hx hb dX11_layPaths_134 (by decide) ?_
                            refine lv_icmp_eq (tgt := 158) hx hb dX11_layPaths_136 (by decide) (fun c101 => ?_) (fun c101 => ?_)
                            · skip
                              have t_hj6 := hj6
                              have t_n8 := n8
                              have t_hj13 := hj13
                              have t_n44 := n44
                              have t_hj49 := hj49
                              have t_n52 := n52
                              have t_w542 := w542
                              have t_n93 := n93
                              have t_c96 := neI c96
                              have t_c101 := eqI c101
                              have : ((-4) : Int32).toInt = -4 := qI_m4
                              have : (0 : Int32).toInt = 0 := qI_0
                              have t_n0 : (nI N).toInt = (N : Int) := tn1160_ ()
                              have t_n1 : (nI B).toInt = (B : Int) := tn1163_ ()
                              have t_n2 : (nI T).toInt = (T : Int) := tn1164_ ()
                              have t_n3 : (nI S).toInt = (S : Int) := tn1165_ ()
                              have t_n4 : (nI M).toInt = (M : Int) := tn1166_ ()
                              have t_n5 : (nI j1).toInt = (j1 : Int) := tn1136_ ()
                              have t_n6 : (nI j9).toInt = (j9 : Int) := tn1159_ ()
                              have t_n7 : (nI j45).toInt = (j45 : Int) := tn1162_ ()
                              have t_n8 : (nI w540).toInt = (w540 : Int) := tn1170_ ()
                              exfalso; omega
                            · skip
                              refine lv_aload_n hx hb dX11_layPaths_139 rfl (lv_at hl 5 rfl) ?_
                              refine va_get (D := (dC, dI)) (ci := 11) (v := .ref ah) (C := RX11) (T := TX11) (N := 35) hx hb hg inG11 hown hK.1 hP 0 rfl rfl 28 (by decide) (hg _ wt_906) (fun _ h9 => h9) rfl dX11_layPaths_140 ?_
                              refine lv_bipush (v := 10) hx hb dX11_layPaths_143 (by decide) ?_
                              refine lv_iload_n hx hb dX11_layPaths_145 rfl (lv_at hl 4 rfl) ?_
                              refine lv_imul hx hb dX11_layPaths_146 ?_
                              refine lv_cg (y := nI (10 * j9)) (by rw [show (10 : Int32) = nI 10 from rfl]; exact pk_mul _ _) ?_
                              refine lv_bipush (v := 10) hx hb dX11_layPaths_147 (by decide) ?_
                              refine lv_iadd hx hb dX11_layPaths_149 ?_
                              refine lv_cg (y := nI ((10 * j9) + 10)) (by rw [show (10 : Int32) = nI 10 from rfl]; exact nI_add _ _) ?_
                              refine lv_iload hx hb dX11_layPaths_150 (lv_at hl 1 rfl) ?_
                              refine lv_iadd hx hb dX11_layPaths_152 ?_
                              refine lv_cg (y := nI (((10 * j9) + 10) + w540)) (by exact nI_add _ _) ?_
                              refine lv_dup2_11 hx hb dX11_layPaths_153 rfl rfl ?_
                              refine va_iald hx hb hK.1 hP 3 0 rfl rfl (vp_in_nI (by first | omega | (have t_hj6 := hj6; have t_n8 := n8; have t_hj13 := hj13; have t_n44 := n44; have t_hj49 := hj49; have t_n52 := n52; have t_w542 := w542; have t_n93 := n93; have t_c96 := neI c96; have t_c101 := neI c101; have : ((-4) : Int32).toInt = -4 := qI_m4; have : (0 : Int32).toInt = 0 := qI_0; have t_n0 : (nI N).toInt = (N : Int) := tn1160_ (); have t_n1 : (nI B).toInt = (B : Int) := tn1163_ (); have t_n2 : (nI T).toInt = (T : Int) := tn1164_ (); have t_n3 : (nI S).toInt = (S : Int) := tn1165_ (); have t_n4 : (nI M).toInt = (M : Int) := tn1166_ (); have t_n5 : (nI j1).toInt = (j1 : Int) := tn1136_ (); have t_n6 : (nI j9).toInt = (j9 : Int) := tn1159_ (); have t_n7 : (nI j45).toInt = (j45 : Int) := tn1162_ (); have t_n8 : (nI w540).toInt = (w540 : Int) := tn1170_ (); omega)) (by decide)) dX11_layPaths_154 ?_
                              refine lv_cg (y := (upd g46 ((10 * j9) + 10) v100) (((10 * j9) + 10) + w540)) (by rw [nI_clamp (by omega)]) ?_
                              refine lv_iload_n hx hb dX11_layPaths_155 rfl (lv_at hl 2 rfl) ?_
                              refine lv_iadd hx hb dX11_layPaths_156 ?_
                              refine lv_topi (fun v102 ev102 => ?_)
                              refine va_iast hx hb hK.1 hP hD hS 3 0 rfl rfl (vp_in_nI (by first | omega | (have t_hj6 := hj6; have t_n8 := n8; have t_hj13 := hj13; have t_n44 := n44; have t_hj49 := hj49; have t_n52 := n52; have t_w542 := w542; have t_n93 := n93; have t_c96 := neI c96; have t_c101 := neI c101; have : ((-4) : Int32).toInt = -4 := qI_m4; have : (0 : Int32).toInt = 0 := qI_0; have t_n0 : (nI N).toInt = (N : Int) := tn1160_ (); have t_n1 : (nI B).toInt = (B : Int) := tn1163_ (); have t_n2 : (nI T).toInt = (T : Int) := tn1164_ (); have t_n3 : (nI S).toInt = (S : Int) := tn1165_ (); have t_n4 : (nI M).toInt = (M : Int) := tn1166_ (); have t_n5 : (nI j1).toInt = (j1 : Int) := tn1136_ (); have t_n6 : (nI j9).toInt = (j9 : Int) := tn1159_ (); have t_n7 : (nI j45).toInt = (j45 : Int) := tn1162_ (); have t_n8 : (nI w540).toInt = (w540 : Int) := tn1170_ (); omega)) (by decide)) dX11_layPaths_157 (fun H locs hP hD hS => ?_)
                              rw [nI_clamp (by omega)] at hP hD
                              have hP : va_P (dC, dI) vwCl [(h0, .inr (11, [.ref st, .int (nI N), .int (nI B), .ref rp, .int vrs, .int vrb, .int vhs, .int vca, .int vxs, .int vxb, .ref tp, .int (nI T), .int vfa, .int vbr, .int vba, .int vsp, .int vhe, .int vtk, .int vva, .ref cu, .ref lt, .ref od, .ref th, .ref be, .ref ln, .int (nI S), .ref ma, .int (nI M), .ref ah, .ref bh, .ref ik, .ref la, .ref lg, .ref ce, .int vto])), (st, .inl (G 0, 196, .inl fst)), (ma, .inl (G 0, 12, .inl fma)), (ah, .inl (G 0, 110, .inl (upd (upd g46 ((10 * j9) + 10) v100) (((10 * j9) + 10) + w540) v102))), (bh, .inl (G 0, 110, .inl g3))] H := hP
                              have hD : va_D A [(h0, .inr (11, [.ref st, .int (nI N), .int (nI B), .ref rp, .int vrs, .int vrb, .int vhs, .int vca, .int vxs, .int vxb, .ref tp, .int (nI T), .int vfa, .int vbr, .int vba, .int vsp, .int vhe, .int vtk, .int vva, .ref cu, .ref lt, .ref od, .ref th, .ref be, .ref ln, .int (nI S), .ref ma, .int (nI M), .ref ah, .ref bh, .ref ik, .ref la, .ref lg, .ref ce, .int vto])), (st, .inl (G 0, 196, .inl fst)), (ma, .inl (G 0, 12, .inl fma)), (ah, .inl (G 0, 110, .inl (upd (upd g46 ((10 * j9) + 10) v100) (((10 * j9) + 10) + w540) v102))), (bh, .inl (G 0, 110, .inl g3))] := hD
                              refine lv_iload hx hb dX11_layPaths_158 (lv_at hl 0 rfl) ?_
                              refine lv_bipush (v := (-4)) hx hb dX11_layPaths_160 (by decide) ?_
                              refine lv_icmp_eq (tgt := 184) hx hb dX11_layPaths_162 (by decide) (fun c103 => ?_) (fun c103 => ?_)
                              · skip
                                refine lv_iinc (v := nI (j45 + 1)) (lv' := [(2, .int (nI (j45 + 1))), (5, .int (-4)), (4, .int (nI w540)), (3, .int (g46 ((10 * j9) + j45))), (1, .int (nI j9)), (0, .ref h0)]) hx hb dX11_layPaths_184 hl (k := 3) rfl (by rw [show Int32.ofInt 1 = nI 1 from by decide]; exact nI_add _ _) (by decide) rfl (fun ls hl => ?_)
                                refine lv_goto (tgt := 67) hx hb dX11_layPaths_187 (by decide) ?_
                                exact ih67_47 (j45 + 1) (by omega) (by omega) (upd (upd g46 ((10 * j9) + 10) v100) (((10 * j9) + 10) + w540) v102) _ _ hP hD hS ls (lv_sub hl [0, 4, 5] rfl)
                              · skip
                                exact absurd c103 (by decide)
                      · skip
                        refine lv_cg (y := nI w870) w871 ?_
                        refine lv_istore (lv' := [(5, .int (nI w870)), (4, .int (nI w540)), (3, .int (g46 ((10 * j9) + j45))), (2, .int (nI j45)), (1, .int (nI j9)), (0, .ref h0)]) hx hb dX11_layPaths_101 hl (by decide) rfl (fun ls hl => ?_)
                        refine lv_iload_n hx hb dX11_layPaths_103 rfl (lv_at hl 3 rfl) ?_
                        refine lv_if_ne (tgt := 132) hx hb dX11_layPaths_104 (by decide) (fun c104 => ?_) (fun c104 => ?_)
                        · skip
                          have n105 : j45 ≠ 0 := by have t := neI c104; rw [show (nI (j45)).toInt = ((j45 : Nat) : Int) from tn1162_ ()] at t; have : (0 : Int32).toInt = 0 := qI_0; omega
                          refine lv_iload hx hb dX11_layPaths_132 (lv_at hl 1 rfl) ?_
                          refine lv_bipush (v := (-4)) hx hb dX11_layPaths_134 (by decide) ?_
                          refine lv_icmp_eq (tgt := 158) hx hb dX11_layPaths_136 (by decide) (fun c106 => ?_) (fun c106 => ?_)
                          · skip
                            have t_hj6 := hj6
                            have t_n8 := n8
                            have t_hj13 := hj13
                            have t_n44 := n44
                            have t_hj49 := hj49
                            have t_n52 := n52
                            have t_w542 := w542
                            have t_w872 := w872
                            have t_n105 := n105
                            have t_c106 := eqI c106
                            have : ((-4) : Int32).toInt = -4 := qI_m4
                            have t_n0 : (nI N).toInt = (N : Int) := tn1160_ ()
                            have t_n1 : (nI B).toInt = (B : Int) := tn1163_ ()
                            have t_n2 : (nI T).toInt = (T : Int) := tn1164_ ()
                            have t_n3 : (nI S).toInt = (S : Int) := tn1165_ ()
                            have t_n4 : (nI M).toInt = (M : Int) := tn1166_ ()
                            have t_n5 : (nI j1).toInt = (j1 : Int) := tn1136_ ()
                            have t_n6 : (nI j9).toInt = (j9 : Int) := tn1159_ ()
                            have t_n7 : (nI j45).toInt = (j45 : Int) := tn1162_ ()
                            have t_n8 : (nI w540).toInt = (w540 : Int) := tn1170_ ()
                            have tn1171_ : nIT w870 := fun _ => nI_toInt (by omega)
                            have t_n9 : (nI w870).toInt = (w870 : Int) := tn1171_ ()
                            exfalso; omega
                          · skip
                            refine lv_aload_n hx hb dX11_layPaths_139 rfl (lv_at hl 5 rfl) ?_
                            refine va_get (D := (dC, dI)) (ci := 11) (v := .ref ah) (C := RX11) (T := TX11) (N := 35) hx hb hg inG11 hown hK.1 hP 0 rfl rfl 28 (by decide) (hg _ wt_906) (fun _ h9 => h9) rfl dX11_layPaths_140 ?_
                            refine lv_bipush (v := 10) hx hb dX11_layPaths_143 (by decide) ?_
                            refine lv_iload_n hx hb dX11_layPaths_145 rfl (lv_at hl 4 rfl) ?_
                            refine lv_imul hx hb dX11_layPaths_146 ?_
                            refine lv_cg (y := nI (10 * j9)) (by rw [show (10 : Int32) = nI 10 from rfl]; exact pk_mul _ _) ?_
                            refine lv_bipush (v := 10) hx hb dX11_layPaths_147 (by decide) ?_
                            refine lv_iadd hx hb dX11_layPaths_149 ?_
                            refine lv_cg (y := nI ((10 * j9) + 10)) (by rw [show (10 : Int32) = nI 10 from rfl]; exact nI_add _ _) ?_
                            refine lv_iload hx hb dX11_layPaths_150 (lv_at hl 1 rfl) ?_
                            refine lv_iadd hx hb dX11_layPaths_152 ?_
                            refine lv_cg (y := nI (((10 * j9) + 10) + w540)) (by exact nI_add _ _) ?_
                            refine lv_dup2_11 hx hb dX11_layPaths_153 rfl rfl ?_
                            have tn1172_ : nIT w870 := fun _ => nI_toInt (by first | omega | (have t_hj6 := hj6; have t_n8 := n8; have t_hj13 := hj13; have t_n44 := n44; have t_hj49 := hj49; have t_n52 := n52; have t_w542 := w542; have t_w872 := w872; have t_n105 := n105; have t_c106 := neI c106; have : ((-4) : Int32).toInt = -4 := qI_m4; omega))
                            refine va_iald hx hb hK.1 hP 3 0 rfl rfl (vp_in_nI (by first | omega | (have t_hj6 := hj6; have t_n8 := n8; have t_hj13 := hj13; have t_n44 := n44; have t_hj49 := hj49; have t_n52 := n52; have t_w542 := w542; have t_w872 := w872; have t_n105 := n105; have t_c106 := neI c106; have : ((-4) : Int32).toInt = -4 := qI_m4; have t_n0 : (nI N).toInt = (N : Int) := tn1160_ (); have t_n1 : (nI B).toInt = (B : Int) := tn1163_ (); have t_n2 : (nI T).toInt = (T : Int) := tn1164_ (); have t_n3 : (nI S).toInt = (S : Int) := tn1165_ (); have t_n4 : (nI M).toInt = (M : Int) := tn1166_ (); have t_n5 : (nI j1).toInt = (j1 : Int) := tn1136_ (); have t_n6 : (nI j9).toInt = (j9 : Int) := tn1159_ (); have t_n7 : (nI j45).toInt = (j45 : Int) := tn1162_ (); have t_n8 : (nI w540).toInt = (w540 : Int) := tn1170_ (); have t_n9 : (nI w870).toInt = (w870 : Int) := tn1172_ (); omega)) (by decide)) dX11_layPaths_154 ?_
                            refine lv_cg (y := g46 (((10 * j9) + 10) + w540)) (by rw [nI_clamp (by omega)]) ?_
                            refine lv_iload_n hx hb dX11_layPaths_155 rfl (lv_at hl 2 rfl) ?_
                            refine lv_iadd hx hb dX11_layPaths_156 ?_
                            refine lv_topi (fun v107 ev107 => ?_)
                            refine va_iast hx hb hK.1 hP hD hS 3 0 rfl rfl (vp_in_nI (by first | omega | (have t_hj6 := hj6; have t_n8 := n8; have t_hj13 := hj13; have t_n44 := n44; have t_hj49 := hj49; have t_n52 := n52; have t_w542 := w542; have t_w872 := w872; have t_n105 := n105; have t_c106 := neI c106; have : ((-4) : Int32).toInt = -4 := qI_m4; have t_n0 : (nI N).toInt = (N : Int) := tn1160_ (); have t_n1 : (nI B).toInt = (B : Int) := tn1163_ (); have t_n2 : (nI T).toInt = (T : Int) := tn1164_ (); have t_n3 : (nI S).toInt = (S : Int) := tn1165_ (); have t_n4 : (nI M).toInt = (M : Int) := tn1166_ (); have t_n5 : (nI j1).toInt = (j1 : Int) := tn1136_ (); have t_n6 : (nI j9).toInt = (j9 : Int) := tn1159_ (); have t_n7 : (nI j45).toInt = (j45 : Int) := tn1162_ (); have t_n8 : (nI w540).toInt = (w540 : Int) := tn1170_ (); have t_n9 : (nI w870).toInt = (w870 : Int) := tn1172_ (); omega)) (by decide)) dX11_layPaths_157 (fun H locs hP hD hS => ?_)
                            rw [nI_clamp (by omega)] at hP hD
                            have hP : va_P (dC, dI) vwCl [(h0, .inr (11, [.ref st, .int (nI N), .int (nI B), .ref rp, .int vrs, .int vrb, .int vhs, .int vca, .int vxs, .int vxb, .ref tp, .int (nI T), .int vfa, .int vbr, .int vba, .int vsp, .int vhe, .int vtk, .int vva, .ref cu, .ref lt, .ref od, .ref th, .ref be, .ref ln, .int (nI S), .ref ma, .int (nI M), .ref ah, .ref bh, .ref ik, .ref la, .ref lg, .ref ce, .int vto])), (st, .inl (G 0, 196, .inl fst)), (ma, .inl (G 0, 12, .inl fma)), (ah, .inl (G 0, 110, .inl (upd g46 (((10 * j9) + 10) + w540) v107))), (bh, .inl (G 0, 110, .inl g3))] H := hP
                            have hD : va_D A [(h0, .inr (11, [.ref st, .int (nI N), .int (nI B), .ref rp, .int vrs, .int vrb, .int vhs, .int vca, .int vxs, .int vxb, .ref tp, .int (nI T), .int vfa, .int vbr, .int vba, .int vsp, .int vhe, .int vtk, .int vva, .ref cu, .ref lt, .ref od, .ref th, .ref be, .ref ln, .int (nI S), .ref ma, .int (nI M), .ref ah, .ref bh, .ref ik, .ref la, .ref lg, .ref ce, .int vto])), (st, .inl (G 0, 196, .inl fst)), (ma, .inl (G 0, 12, .inl fma)), (ah, .inl (G 0, 110, .inl (upd g46 (((10 * j9) + 10) + w540) v107))), (bh, .inl (G 0, 110, .inl g3))] := hD
                            refine lv_iload hx hb dX11_layPaths_158 (lv_at hl 0 rfl) ?_
                            refine lv_bipush (v := (-4)) hx hb dX11_layPaths_160 (by decide) ?_
                            refine lv_icmp_eq (tgt := 184) hx hb dX11_layPaths_162 (by decide) (fun c108 => ?_) (fun c108 => ?_)
                            · skip
                              have t_hj6 := hj6
                              have t_n8 := n8
                              have t_hj13 := hj13
                              have t_n44 := n44
                              have t_hj49 := hj49
                              have t_n52 := n52
                              have t_w542 := w542
                              have t_w872 := w872
                              have t_n105 := n105
                              have t_c106 := neI c106
                              have t_c108 := eqI c108
                              have : ((-4) : Int32).toInt = -4 := qI_m4
                              have t_n0 : (nI N).toInt = (N : Int) := tn1160_ ()
                              have t_n1 : (nI B).toInt = (B : Int) := tn1163_ ()
                              have t_n2 : (nI T).toInt = (T : Int) := tn1164_ ()
                              have t_n3 : (nI S).toInt = (S : Int) := tn1165_ ()
                              have t_n4 : (nI M).toInt = (M : Int) := tn1166_ ()
                              have t_n5 : (nI j1).toInt = (j1 : Int) := tn1136_ ()
                              have t_n6 : (nI j9).toInt = (j9 : Int) := tn1159_ ()
                              have t_n7 : (nI j45).toInt = (j45 : Int) := tn1162_ ()
                              have t_n8 : (nI w540).toInt = (w540 : Int) := tn1170_ ()
                              have t_n9 : (nI w870).toInt = (w870 : Int) := tn1172_ ()
                              exfalso; omega
                            · skip
                              refine lv_aload_n hx hb dX11_layPaths_165 rfl (lv_at hl 5 rfl) ?_
                              refine va_get (D := (dC, dI)) (ci := 11) (v := .ref ah) (C := RX11) (T := TX11) (N := 35) hx hb hg inG11 hown hK.1 hP 0 rfl rfl 28 (by decide) (hg _ wt_906) (fun _ h9 => h9) rfl dX11_layPaths_166 ?_
                              refine lv_bipush (v := 10) hx hb dX11_layPaths_169 (by decide) ?_
                              refine lv_iload_n hx hb dX11_layPaths_171 rfl (lv_at hl 4 rfl) ?_
                              refine lv_imul hx hb dX11_layPaths_172 ?_
                              refine lv_cg (y := nI (10 * j9)) (by rw [show (10 : Int32) = nI 10 from rfl]; exact pk_mul _ _) ?_
                              refine lv_bipush (v := 10) hx hb dX11_layPaths_173 (by decide) ?_
                              refine lv_iadd hx hb dX11_layPaths_175 ?_
                              refine lv_cg (y := nI ((10 * j9) + 10)) (by rw [show (10 : Int32) = nI 10 from rfl]; exact nI_add _ _) ?_
                              refine lv_iload hx hb dX11_layPaths_176 (lv_at hl 0 rfl) ?_
                              refine lv_iadd hx hb dX11_layPaths_178 ?_
                              refine lv_cg (y := nI (((10 * j9) + 10) + w870)) (by exact nI_add _ _) ?_
                              refine lv_dup2_11 hx hb dX11_layPaths_179 rfl rfl ?_
                              refine va_iald hx hb hK.1 hP 3 0 rfl rfl (vp_in_nI (by first | omega | (have t_hj6 := hj6; have t_n8 := n8; have t_hj13 := hj13; have t_n44 := n44; have t_hj49 := hj49; have t_n52 := n52; have t_w542 := w542; have t_w872 := w872; have t_n105 := n105; have t_c106 := neI c106; have t_c108 := neI c108; have : ((-4) : Int32).toInt = -4 := qI_m4; have t_n0 : (nI N).toInt = (N : Int) := tn1160_ (); have t_n1 : (nI B).toInt = (B : Int) := tn1163_ (); have t_n2 : (nI T).toInt = (T : Int) := tn1164_ (); have t_n3 : (nI S).toInt = (S : Int) := tn1165_ (); have t_n4 : (nI M).toInt = (M : Int) := tn1166_ (); have t_n5 : (nI j1).toInt = (j1 : Int) := tn1136_ (); have t_n6 : (nI j9).toInt = (j9 : Int) := tn1159_ (); have t_n7 : (nI j45).toInt = (j45 : Int) := tn1162_ (); have t_n8 : (nI w540).toInt = (w540 : Int) := tn1170_ (); have t_n9 : (nI w870).toInt = (w870 : Int) := tn1172_ (); omega)) (by decide)) dX11_layPaths_180 ?_
                              refine lv_cg (y := (upd g46 (((10 * j9) + 10) + w540) v107) (((10 * j9) + 10) + w870)) (by rw [nI_clamp (by omega)]) ?_
                              refine lv_iload_n hx hb dX11_layPaths_181 rfl (lv_at hl 2 rfl) ?_
                              refine lv_iadd hx hb dX11_layPaths_182 ?_
                              refine lv_topi (fun v109 ev109 => ?_)
                              refine va_iast hx hb hK.1 hP hD hS 3 0 rfl rfl (vp_in_nI (by first | omega | (have t_hj6 := hj6; have t_n8 := n8; have t_hj13 := hj13; have t_n44 := n44; have t_hj49 := hj49; have t_n52 := n52; have t_w542 := w542; have t_w872 := w872; have t_n105 := n105; have t_c106 := neI c106; have t_c108 := neI c108; have : ((-4) : Int32).toInt = -4 := qI_m4; have t_n0 : (nI N).toInt = (N : Int) := tn1160_ (); have t_n1 : (nI B).toInt = (B : Int) := tn1163_ (); have t_n2 : (nI T).toInt = (T : Int) := tn1164_ (); have t_n3 : (nI S).toInt = (S : Int) := tn1165_ (); have t_n4 : (nI M).toInt = (M : Int) := tn1166_ (); have t_n5 : (nI j1).toInt = (j1 : Int) := tn1136_ (); have t_n6 : (nI j9).toInt = (j9 : Int) := tn1159_ (); have t_n7 : (nI j45).toInt = (j45 : Int) := tn1162_ (); have t_n8 : (nI w540).toInt = (w540 : Int) := tn1170_ (); have t_n9 : (nI w870).toInt = (w870 : Int) := tn1172_ (); omega)) (by decide)) dX11_layPaths_183 (fun H locs hP hD hS => ?_)
                              rw [nI_clamp (by omega)] at hP hD
                              have hP : va_P (dC, dI) vwCl [(h0, .inr (11, [.ref st, .int (nI N), .int (nI B), .ref rp, .int vrs, .int vrb, .int vhs, .int vca, .int vxs, .int vxb, .ref tp, .int (nI T), .int vfa, .int vbr, .int vba, .int vsp, .int vhe, .int vtk, .int vva, .ref cu, .ref lt, .ref od, .ref th, .ref be, .ref ln, .int (nI S), .ref ma, .int (nI M), .ref ah, .ref bh, .ref ik, .ref la, .ref lg, .ref ce, .int vto])), (st, .inl (G 0, 196, .inl fst)), (ma, .inl (G 0, 12, .inl fma)), (ah, .inl (G 0, 110, .inl (upd (upd g46 (((10 * j9) + 10) + w540) v107) (((10 * j9) + 10) + w870) v109))), (bh, .inl (G 0, 110, .inl g3))] H := hP
                              have hD : va_D A [(h0, .inr (11, [.ref st, .int (nI N), .int (nI B), .ref rp, .int vrs, .int vrb, .int vhs, .int vca, .int vxs, .int vxb, .ref tp, .int (nI T), .int vfa, .int vbr, .int vba, .int vsp, .int vhe, .int vtk, .int vva, .ref cu, .ref lt, .ref od, .ref th, .ref be, .ref ln, .int (nI S), .ref ma, .int (nI M), .ref ah, .ref bh, .ref ik, .ref la, .ref lg, .ref ce, .int vto])), (st, .inl (G 0, 196, .inl fst)), (ma, .inl (G 0, 12, .inl fma)), (ah, .inl (G 0, 110, .inl (upd (upd g46 (((10 * j9) + 10) + w540) v107) (((10 * j9) + 10) + w870) v109))), (bh, .inl (G 0, 110, .inl g3))] := hD
                              refine lv_iinc (v := nI (j45 + 1)) (lv' := [(2, .int (nI (j45 + 1))), (5, .int (nI w870)), (4, .int (nI w540)), (3, .int (g46 ((10 * j9) + j45))), (1, .int (nI j9)), (0, .ref h0)]) hx hb dX11_layPaths_184 hl (k := 3) rfl (by rw [show Int32.ofInt 1 = nI 1 from by decide]; exact nI_add _ _) (by decide) rfl (fun ls hl => ?_)
                              refine lv_goto (tgt := 67) hx hb dX11_layPaths_187 (by decide) ?_
                              exact ih67_47 (j45 + 1) (by omega) (by omega) (upd (upd g46 (((10 * j9) + 10) + w540) v107) (((10 * j9) + 10) + w870) v109) _ _ hP hD hS ls (lv_sub hl [0, 4, 5] rfl)
                        · skip
                          have n110 : j45 = 0 := by have t := eqI c104; rw [show (nI (j45)).toInt = ((j45 : Nat) : Int) from tn1162_ ()] at t; have : (0 : Int32).toInt = 0 := qI_0; omega
                          refine lv_aload_n hx hb dX11_layPaths_107 rfl (lv_at hl 5 rfl) ?_
                          refine lv_iload_n hx hb dX11_layPaths_108 rfl (lv_at hl 4 rfl) ?_
                          refine lv_iconst (v := 0) hx hb dX11_layPaths_109 (by decide) ?_
                          have hPc := hP.sub (ws' := [(h0, .inr (11, [.ref st, .int (nI N), .int (nI B), .ref rp, .int vrs, .int vrb, .int vhs, .int vca, .int vxs, .int vxb, .ref tp, .int (nI T), .int vfa, .int vbr, .int vba, .int vsp, .int vhe, .int vtk, .int vva, .ref cu, .ref lt, .ref od, .ref th, .ref be, .ref ln, .int (nI S), .ref ma, .int (nI M), .ref ah, .ref bh, .ref ik, .ref la, .ref lg, .ref ce, .int vto])), (ma, .inl (G 0, 12, .inl fma))]) [0, 2] rfl
                          have tn1173_ : nIT w870 := fun _ => nI_toInt (by first | omega | (have t_hj6 := hj6; have t_n8 := n8; have t_hj13 := hj13; have t_n44 := n44; have t_hj49 := hj49; have t_n52 := n52; have t_w542 := w542; have t_w872 := w872; have t_n110 := n110; omega))
                          refine va_calli (va_runV (As := [.int (nI j9), .int 0]) (rest := []) ⟨hx, hb, hml, hown, hg⟩ (c_X11_isMarked l dC dI G _ h0 st N B rp tp T cu lt od th be ln S ma M ah bh ik la lg ce (nI j9) 0 vrs vrb vhs vca vxs vxb vfa vbr vba vsp vhe vtk vva vto fma hN hB_ hT_ hS0 hM_) (kwV hg mfX11_isMarked wt_1228 ⟨Nat.le_of_ble_eq_true rfl, Nat.le_of_ble_eq_true rfl⟩) (preVR hK hPc (ci := 11) rfl rfl) rfl rfl hl.1 rfl (lv_room (Nat.le_of_ble_eq_true rfl)) dX11_layPaths_110 ⟨Nat.le_of_ble_eq_true rfl, Nat.le_of_ble_eq_true rfl⟩) hS (fun q h1 h2 => absurd h2 (Nat.not_le.mpr h1)) (fun q h => hA q (Nat.le_trans hS.1 h)) (fun r111 ur111 t H1 locs ht hvm w112 hB hz1 hk1 hS => ?_)
                          have hP := keepR hP hk1
                          obtain ⟨w112, w112x⟩ := w112
                          refine lv_if_eq (tgt := 132) hx hb dX11_layPaths_113 (by decide) (fun c113 => ?_) (fun c113 => ?_)
                          · skip
                            refine lv_iload hx hb dX11_layPaths_132 (lv_at hl 1 rfl) ?_
                            refine lv_bipush (v := (-4)) hx hb dX11_layPaths_134 (by decide) ?_
                            refine lv_icmp_eq (tgt := 158) hx hb dX11_layPaths_136 (by decide) (fun c114 => ?_) (fun c114 => ?_)
                            · skip
                              have t_hj6 := hj6
                              have t_n8 := n8
                              have t_hj13 := hj13
                              have t_n44 := n44
                              have t_hj49 := hj49
                              have t_n52 := n52
                              have t_w542 := w542
                              have t_w872 := w872
                              have t_n110 := n110
                              have t_c113 := eqI c113
                              have t_c114 := eqI c114
                              have : ((-4) : Int32).toInt = -4 := qI_m4
                              have : (0 : Int32).toInt = 0 := qI_0
                              have t_n0 : (nI N).toInt = (N : Int) := tn1160_ ()
                              have t_n1 : (nI B).toInt = (B : Int) := tn1163_ ()
                              have t_n2 : (nI T).toInt = (T : Int) := tn1164_ ()
                              have t_n3 : (nI S).toInt = (S : Int) := tn1165_ ()
                              have t_n4 : (nI M).toInt = (M : Int) := tn1166_ ()
                              have t_n5 : (nI j1).toInt = (j1 : Int) := tn1136_ ()
                              have t_n6 : (nI j9).toInt = (j9 : Int) := tn1159_ ()
                              have t_n7 : (nI j45).toInt = (j45 : Int) := tn1162_ ()
                              have t_n8 : (nI w540).toInt = (w540 : Int) := tn1170_ ()
                              have t_n9 : (nI w870).toInt = (w870 : Int) := tn1173_ ()
                              exfalso; omega
                            · skip
                              refine lv_aload_n hx hb dX11_layPaths_139 rfl (lv_at hl 5 rfl) ?_
                              refine va_get (D := (dC, dI)) (ci := 11) (v := .ref ah) (C := RX11) (T := TX11) (N := 35) hx hb hg inG11 hown hK.1 hP 0 rfl rfl 28 (by decide) (hg _ wt_906) (fun _ h9 => h9) rfl dX11_layPaths_140 ?_
                              refine lv_bipush (v := 10) hx hb dX11_layPaths_143 (by decide) ?_
                              refine lv_iload_n hx hb dX11_layPaths_145 rfl (lv_at hl 4 rfl) ?_
                              refine lv_imul hx hb dX11_layPaths_146 ?_
                              refine lv_cg (y := nI (10 * j9)) (by rw [show (10 : Int32) = nI 10 from rfl]; exact pk_mul _ _) ?_
                              refine lv_bipush (v := 10) hx hb dX11_layPaths_147 (by decide) ?_
                              refine lv_iadd hx hb dX11_layPaths_149 ?_
                              refine lv_cg (y := nI ((10 * j9) + 10)) (by rw [show (10 : Int32) = nI 10 from rfl]; exact nI_add _ _) ?_
                              refine lv_iload hx hb dX11_layPaths_150 (lv_at hl 1 rfl) ?_
                              refine lv_iadd hx hb dX11_layPaths_152 ?_
                              refine lv_cg (y := nI (((10 * j9) + 10) + w540)) (by exact nI_add _ _) ?_
                              refine lv_dup2_11 hx hb dX11_layPaths_153 rfl rfl ?_
                              refine va_iald hx hb hK.1 hP 3 0 rfl rfl (vp_in_nI (by first | omega | (have t_hj6 := hj6; have t_n8 := n8; have t_hj13 := hj13; have t_n44 := n44; have t_hj49 := hj49; have t_n52 := n52; have t_w542 := w542; have t_w872 := w872; have t_n110 := n110; have t_c113 := eqI c113; have t_c114 := neI c114; have : ((-4) : Int32).toInt = -4 := qI_m4; have : (0 : Int32).toInt = 0 := qI_0; have t_n0 : (nI N).toInt = (N : Int) := tn1160_ (); have t_n1 : (nI B).toInt = (B : Int) := tn1163_ (); have t_n2 : (nI T).toInt = (T : Int) := tn1164_ (); have t_n3 : (nI S).toInt = (S : Int) := tn1165_ (); have t_n4 : (nI M).toInt = (M : Int) := tn1166_ (); have t_n5 : (nI j1).toInt = (j1 : Int) := tn1136_ (); have t_n6 : (nI j9).toInt = (j9 : Int) := tn1159_ (); have t_n7 : (nI j45).toInt = (j45 : Int) := tn1162_ (); have t_n8 : (nI w540).toInt = (w540 : Int) := tn1170_ (); have t_n9 : (nI w870).toInt = (w870 : Int) := tn1173_ (); omega)) (by decide)) dX11_layPaths_154 ?_
                              refine lv_cg (y := g46 (((10 * j9) + 10) + w540)) (by rw [nI_clamp (by omega)]) ?_
                              refine lv_iload_n hx hb dX11_layPaths_155 rfl (lv_at hl 2 rfl) ?_
                              refine lv_iadd hx hb dX11_layPaths_156 ?_
                              refine lv_topi (fun v115 ev115 => ?_)
                              refine va_iast hx hb hK.1 hP hD hS 3 0 rfl rfl (vp_in_nI (by first | omega | (have t_hj6 := hj6; have t_n8 := n8; have t_hj13 := hj13; have t_n44 := n44; have t_hj49 := hj49; have t_n52 := n52; have t_w542 := w542; have t_w872 := w872; have t_n110 := n110; have t_c113 := eqI c113; have t_c114 := neI c114; have : ((-4) : Int32).toInt = -4 := qI_m4; have : (0 : Int32).toInt = 0 := qI_0; have t_n0 : (nI N).toInt = (N : Int) := tn1160_ (); have t_n1 : (nI B).toInt = (B : Int) := tn1163_ (); have t_n2 : (nI T).toInt = (T : Int) := tn1164_ (); have t_n3 : (nI S).toInt = (S : Int) := tn1165_ (); have t_n4 : (nI M).toInt = (M : Int) := tn1166_ (); have t_n5 : (nI j1).toInt = (j1 : Int) := tn1136_ (); have t_n6 : (nI j9).toInt = (j9 : Int) := tn1159_ (); have t_n7 : (nI j45).toInt = (j45 : Int) := tn1162_ (); have t_n8 : (nI w540).toInt = (w540 : Int) := tn1170_ (); have t_n9 : (nI w870).toInt = (w870 : Int) := tn1173_ (); omega)) (by decide)) dX11_layPaths_157 (fun H locs hP hD hS => ?_)
                              rw [nI_clamp (by omega)] at hP hD
                              have hP : va_P (dC, dI) vwCl [(h0, .inr (11, [.ref st, .int (nI N), .int (nI B), .ref rp, .int vrs, .int vrb, .int vhs, .int vca, .int vxs, .int vxb, .ref tp, .int (nI T), .int vfa, .int vbr, .int vba, .int vsp, .int vhe, .int vtk, .int vva, .ref cu, .ref lt, .ref od, .ref th, .ref be, .ref ln, .int (nI S), .ref ma, .int (nI M), .ref ah, .ref bh, .ref ik, .ref la, .ref lg, .ref ce, .int vto])), (st, .inl (G 0, 196, .inl fst)), (ma, .inl (G 0, 12, .inl fma)), (ah, .inl (G 0, 110, .inl (upd g46 (((10 * j9) + 10) + w540) v115))), (bh, .inl (G 0, 110, .inl g3))] H := hP
                              have hD : va_D A [(h0, .inr (11, [.ref st, .int (nI N), .int (nI B), .ref rp, .int vrs, .int vrb, .int vhs, .int vca, .int vxs, .int vxb, .ref tp, .int (nI T), .int vfa, .int vbr, .int vba, .int vsp, .int vhe, .int vtk, .int vva, .ref cu, .ref lt, .ref od, .ref th, .ref be, .ref ln, .int (nI S), .ref ma, .int (nI M), .ref ah, .ref bh, .ref ik, .ref la, .ref lg, .ref ce, .int vto])), (st, .inl (G 0, 196, .inl fst)), (ma, .inl (G 0, 12, .inl fma)), (ah, .inl (G 0, 110, .inl (upd g46 (((10 * j9) + 10) + w540) v115))), (bh, .inl (G 0, 110, .inl g3))] := hD
                              refine lv_iload hx hb dX11_layPaths_158 (lv_at hl 0 rfl) ?_
                              refine lv_bipush (v := (-4)) hx hb dX11_layPaths_160 (by decide) ?_
                              refine lv_icmp_eq (tgt := 184) hx hb dX11_layPaths_162 (by decide) (fun c116 => ?_) (fun c116 => ?_)
                              · skip
                                have t_hj6 := hj6
                                have t_n8 := n8
                                have t_hj13 := hj13
                                have t_n44 := n44
                                have t_hj49 := hj49
                                have t_n52 := n52
                                have t_w542 := w542
                                have t_w872 := w872
                                have t_n110 := n110
                                have t_c113 := eqI c113
                                have t_c114 := neI c114
                                have t_c116 := eqI c116
                                have : ((-4) : Int32).toInt = -4 := qI_m4
                                have : (0 : Int32).toInt = 0 := qI_0
                                have t_n0 : (nI N).toInt = (N : Int) := tn1160_ ()
                                have t_n1 : (nI B).toInt = (B : Int) := tn1163_ ()
                                have t_n2 : (nI T).toInt = (T : Int) := tn1164_ ()
                                have t_n3 : (nI S).toInt = (S : Int) := tn1165_ ()
                                have t_n4 : (nI M).toInt = (M : Int) := tn1166_ ()
                                have t_n5 : (nI j1).toInt = (j1 : Int) := tn1136_ ()
                                have t_n6 : (nI j9).toInt = (j9 : Int) := tn1159_ ()
                                have t_n7 : (nI j45).toInt = (j45 : Int) := tn1162_ ()
                                have t_n8 : (nI w540).toInt = (w540 : Int) := tn1170_ ()
                                have t_n9 : (nI w870).toInt = (w870 : Int) := tn1173_ ()
                                exfalso; omega
                              · skip
                                refine lv_aload_n hx hb dX11_layPaths_165 rfl (lv_at hl 5 rfl) ?_
                                refine va_get (D := (dC, dI)) (ci := 11) (v := .ref ah) (C := RX11) (T := TX11) (N := 35) hx hb hg inG11 hown hK.1 hP 0 rfl rfl 28 (by decide) (hg _ wt_906) (fun _ h9 => h9) rfl dX11_layPaths_166 ?_
                                refine lv_bipush (v := 10) hx hb dX11_layPaths_169 (by decide) ?_
                                refine lv_iload_n hx hb dX11_layPaths_171 rfl (lv_at hl 4 rfl) ?_
                                refine lv_imul hx hb dX11_layPaths_172 ?_
                                refine lv_cg (y := nI (10 * j9)) (by rw [show (10 : Int32) = nI 10 from rfl]; exact pk_mul _ _) ?_
                                refine lv_bipush (v := 10) hx hb dX11_layPaths_173 (by decide) ?_
                                refine lv_iadd hx hb dX11_layPaths_175 ?_
                                refine lv_cg (y := nI ((10 * j9) + 10)) (by rw [show (10 : Int32) = nI 10 from rfl]; exact nI_add _ _) ?_
                                refine lv_iload hx hb dX11_layPaths_176 (lv_at hl 0 rfl) ?_
                                refine lv_iadd hx hb dX11_layPaths_178 ?_
                                refine lv_cg (y := nI (((10 * j9) + 10) + w870)) (by exact nI_add _ _) ?_
                                refine lv_dup2_11 hx hb dX11_layPaths_179 rfl rfl ?_
                                refine va_iald hx hb hK.1 hP 3 0 rfl rfl (vp_in_nI (by first | omega | (have t_hj6 := hj6; have t_n8 := n8; have t_hj13 := hj13; have t_n44 := n44; have t_hj49 := hj49; have t_n52 := n52; have t_w542 := w542; have t_w872 := w872; have t_n110 := n110; have t_c113 := eqI c113; have t_c114 := neI c114; have t_c116 := neI c116; have : ((-4) : Int32).toInt = -4 := qI_m4; have : (0 : Int32).toInt = 0 := qI_0; have t_n0 : (nI N).toInt = (N : Int) := tn1160_ (); have t_n1 : (nI B).toInt = (B : Int) := tn1163_ (); have t_n2 : (nI T).toInt = (T : Int) := tn1164_ (); have t_n3 : (nI S).toInt = (S : Int) := tn1165_ (); have t_n4 : (nI M).toInt = (M : Int) := tn1166_ (); have t_n5 : (nI j1).toInt = (j1 : Int) := tn1136_ (); have t_n6 : (nI j9).toInt = (j9 : Int) := tn1159_ (); have t_n7 : (nI j45).toInt = (j45 : Int) := tn1162_ (); have t_n8 : (nI w540).toInt = (w540 : Int) := tn1170_ (); have t_n9 : (nI w870).toInt = (w870 : Int) := tn1173_ (); omega)) (by decide)) dX11_layPaths_180 ?_
                                refine lv_cg (y := (upd g46 (((10 * j9) + 10) + w540) v115) (((10 * j9) + 10) + w870)) (by rw [nI_clamp (by omega)]) ?_
                                refine lv_iload_n hx hb dX11_layPaths_181 rfl (lv_at hl 2 rfl) ?_
                                refine lv_iadd hx hb dX11_layPaths_182 ?_
                                refine lv_topi (fun v117 ev117 => ?_)
                                refine va_iast hx hb hK.1 hP hD hS 3 0 rfl rfl (vp_in_nI (by first | omega | (have t_hj6 := hj6; have t_n8 := n8; have t_hj13 := hj13; have t_n44 := n44; have t_hj49 := hj49; have t_n52 := n52; have t_w542 := w542; have t_w872 := w872; have t_n110 := n110; have t_c113 := eqI c113; have t_c114 := neI c114; have t_c116 := neI c116; have : ((-4) : Int32).toInt = -4 := qI_m4; have : (0 : Int32).toInt = 0 := qI_0; have t_n0 : (nI N).toInt = (N : Int) := tn1160_ (); have t_n1 : (nI B).toInt = (B : Int) := tn1163_ (); have t_n2 : (nI T).toInt = (T : Int) := tn1164_ (); have t_n3 : (nI S).toInt = (S : Int) := tn1165_ (); have t_n4 : (nI M).toInt = (M : Int) := tn1166_ (); have t_n5 : (nI j1).toInt = (j1 : Int) := tn1136_ (); have t_n6 : (nI j9).toInt = (j9 : Int) := tn1159_ (); have t_n7 : (nI j45).toInt = (j45 : Int) := tn1162_ (); have t_n8 : (nI w540).toInt = (w540 : Int) := tn1170_ (); have t_n9 : (nI w870).toInt = (w870 : Int) := tn1173_ (); omega)) (by decide)) dX11_layPaths_183 (fun H locs hP hD hS => ?_)
                                rw [nI_clamp (by omega)] at hP hD
                                have hP : va_P (dC, dI) vwCl [(h0, .inr (11, [.ref st, .int (nI N), .int (nI B), .ref rp, .int vrs, .int vrb, .int vhs, .int vca, .int vxs, .int vxb, .ref tp, .int (nI T), .int vfa, .int vbr, .int vba, .int vsp, .int vhe, .int vtk, .int vva, .ref cu, .ref lt, .ref od, .ref th, .ref be, .ref ln, .int (nI S), .ref ma, .int (nI M), .ref ah, .ref bh, .ref ik, .ref la, .ref lg, .ref ce, .int vto])), (st, .inl (G 0, 196, .inl fst)), (ma, .inl (G 0, 12, .inl fma)), (ah, .inl (G 0, 110, .inl (upd (upd g46 (((10 * j9) + 10) + w540) v115) (((10 * j9) + 10) + w870) v117))), (bh, .inl (G 0, 110, .inl g3))] H := hP
                                have hD : va_D A [(h0, .inr (11, [.ref st, .int (nI N), .int (nI B), .ref rp, .int vrs, .int vrb, .int vhs, .int vca, .int vxs, .int vxb, .ref tp, .int (nI T), .int vfa, .int vbr, .int vba, .int vsp, .int vhe, .int vtk, .int vva, .ref cu, .ref lt, .ref od, .ref th, .ref be, .ref ln, .int (nI S), .ref ma, .int (nI M), .ref ah, .ref bh, .ref ik, .ref la, .ref lg, .ref ce, .int vto])), (st, .inl (G 0, 196, .inl fst)), (ma, .inl (G 0, 12, .inl fma)), (ah, .inl (G 0, 110, .inl (upd (upd g46 (((10 * j9) + 10) + w540) v115) (((10 * j9) + 10) + w870) v117))), (bh, .inl (G 0, 110, .inl g3))] := hD
                                refine lv_iinc (v := nI (j45 + 1)) (lv' := [(2, .int (nI (j45 + 1))), (5, .int (nI w870)), (4, .int (nI w540)), (3, .int (g46 ((10 * j9) + j45))), (1, .int (nI j9)), (0, .ref h0)]) hx hb dX11_layPaths_184 hl (k := 3) rfl (by rw [show Int32.ofInt 1 = nI 1 from by decide]; exact nI_add _ _) (by decide) rfl (fun ls hl => ?_)
                                refine lv_goto (tgt := 67) hx hb dX11_layPaths_187 (by decide) ?_
                                exact ih67_47 (j45 + 1) (by omega) (by omega) (upd (upd g46 (((10 * j9) + 10) + w540) v115) (((10 * j9) + 10) + w870) v117) _ _ hP hD hS ls (lv_sub hl [0, 4, 5] rfl)
                          · skip
                            refine lv_aload_n hx hb dX11_layPaths_116 rfl (lv_at hl 5 rfl) ?_
                            refine va_get (D := (dC, dI)) (ci := 11) (v := .ref ah) (C := RX11) (T := TX11) (N := 35) hx hb hg inG11 hown hK.1 hP 0 rfl rfl 28 (by decide) (hg _ wt_906) (fun _ h9 => h9) rfl dX11_layPaths_117 ?_
                            refine lv_bipush (v := 10) hx hb dX11_layPaths_120 (by decide) ?_
                            refine lv_iload_n hx hb dX11_layPaths_122 rfl (lv_at hl 4 rfl) ?_
                            refine lv_imul hx hb dX11_layPaths_123 ?_
                            refine lv_cg (y := nI (10 * j9)) (by rw [show (10 : Int32) = nI 10 from rfl]; exact pk_mul _ _) ?_
                            refine lv_bipush (v := 10) hx hb dX11_layPaths_124 (by decide) ?_
                            refine lv_iadd hx hb dX11_layPaths_126 ?_
                            refine lv_cg (y := nI ((10 * j9) + 10)) (by rw [show (10 : Int32) = nI 10 from rfl]; exact nI_add _ _) ?_
                            refine lv_dup2_11 hx hb dX11_layPaths_127 rfl rfl ?_
                            refine va_iald hx hb hK.1 hP 3 0 rfl rfl (vp_in_nI (by first | omega | (have t_hj6 := hj6; have t_n8 := n8; have t_hj13 := hj13; have t_n44 := n44; have t_hj49 := hj49; have t_n52 := n52; have t_w542 := w542; have t_w872 := w872; have t_n110 := n110; have t_c113 := neI c113; have : (0 : Int32).toInt = 0 := qI_0; have t_n0 : (nI N).toInt = (N : Int) := tn1160_ (); have t_n1 : (nI B).toInt = (B : Int) := tn1163_ (); have t_n2 : (nI T).toInt = (T : Int) := tn1164_ (); have t_n3 : (nI S).toInt = (S : Int) := tn1165_ (); have t_n4 : (nI M).toInt = (M : Int) := tn1166_ (); have t_n5 : (nI j1).toInt = (j1 : Int) := tn1136_ (); have t_n6 : (nI j9).toInt = (j9 : Int) := tn1159_ (); have t_n7 : (nI j45).toInt = (j45 : Int) := tn1162_ (); have t_n8 : (nI w540).toInt = (w540 : Int) := tn1170_ (); have t_n9 : (nI w870).toInt = (w870 : Int) := tn1173_ (); omega)) (by decide)) dX11_layPaths_128 ?_
                            refine lv_cg (y := g46 ((10 * j9) + 10)) (by rw [nI_clamp (by omega)]) ?_
                            refine lv_iload_n hx hb dX11_layPaths_129 rfl (lv_at hl 2 rfl) ?_
                            refine lv_iadd hx hb dX11_layPaths_130 ?_
                            refine lv_topi (fun v118 ev118 => ?_)
                            refine va_iast hx hb hK.1 hP hD hS 3 0 rfl rfl (vp_in_nI (by first | omega | (have t_hj6 := hj6; have t_n8 := n8; have t_hj13 := hj13; have t_n44 := n44; have t_hj49 := hj49; have t_n52 := n52; have t_w542 := w542; have t_w872 := w872; have t_n110 := n110; have t_c113 := neI c113; have : (0 : Int32).toInt = 0 := qI_0; have t_n0 : (nI N).toInt = (N : Int) := tn1160_ (); have t_n1 : (nI B).toInt = (B : Int) := tn1163_ (); have t_n2 : (nI T).toInt = (T : Int) := tn1164_ (); have t_n3 : (nI S).toInt = (S : Int) := tn1165_ (); have t_n4 : (nI M).toInt = (M : Int) := tn1166_ (); have t_n5 : (nI j1).toInt = (j1 : Int) := tn1136_ (); have t_n6 : (nI j9).toInt = (j9 : Int) := tn1159_ (); have t_n7 : (nI j45).toInt = (j45 : Int) := tn1162_ (); have t_n8 : (nI w540).toInt = (w540 : Int) := tn1170_ (); have t_n9 : (nI w870).toInt = (w870 : Int) := tn1173_ (); omega)) (by decide)) dX11_layPaths_131 (fun H locs hP hD hS => ?_)
                            rw [nI_clamp (by omega)] at hP hD
                            have hP : va_P (dC, dI) vwCl [(h0, .inr (11, [.ref st, .int (nI N), .int (nI B), .ref rp, .int vrs, .int vrb, .int vhs, .int vca, .int vxs, .int vxb, .ref tp, .int (nI T), .int vfa, .int vbr, .int vba, .int vsp, .int vhe, .int vtk, .int vva, .ref cu, .ref lt, .ref od, .ref th, .ref be, .ref ln, .int (nI S), .ref ma, .int (nI M), .ref ah, .ref bh, .ref ik, .ref la, .ref lg, .ref ce, .int vto])), (st, .inl (G 0, 196, .inl fst)), (ma, .inl (G 0, 12, .inl fma)), (ah, .inl (G 0, 110, .inl (upd g46 ((10 * j9) + 10) v118))), (bh, .inl (G 0, 110, .inl g3))] H := hP
                            have hD : va_D A [(h0, .inr (11, [.ref st, .int (nI N), .int (nI B), .ref rp, .int vrs, .int vrb, .int vhs, .int vca, .int vxs, .int vxb, .ref tp, .int (nI T), .int vfa, .int vbr, .int vba, .int vsp, .int vhe, .int vtk, .int vva, .ref cu, .ref lt, .ref od, .ref th, .ref be, .ref ln, .int (nI S), .ref ma, .int (nI M), .ref ah, .ref bh, .ref ik, .ref la, .ref lg, .ref ce, .int vto])), (st, .inl (G 0, 196, .inl fst)), (ma, .inl (G 0, 12, .inl fma)), (ah, .inl (G 0, 110, .inl (upd g46 ((10 * j9) + 10) v118))), (bh, .inl (G 0, 110, .inl g3))] := hD
                            refine lv_iload hx hb dX11_layPaths_132 (lv_at hl 1 rfl) ?_
                            refine lv_bipush (v := (-4)) hx hb dX11_layPaths_134 (by decide) ?_
                            refine lv_icmp_eq (tgt := 158) hx hb dX11_layPaths_136 (by decide) (fun c119 => ?_) (fun c119 => ?_)
                            · skip
                              have t_hj6 := hj6
                              have t_n8 := n8
                              have t_hj13 := hj13
                              have t_n44 := n44
                              have t_hj49 := hj49
                              have t_n52 := n52
                              have t_w542 := w542
                              have t_w872 := w872
                              have t_n110 := n110
                              have t_c113 := neI c113
                              have t_c119 := eqI c119
                              have : ((-4) : Int32).toInt = -4 := qI_m4
                              have : (0 : Int32).toInt = 0 := qI_0
                              have t_n0 : (nI N).toInt = (N : Int) := tn1160_ ()
                              have t_n1 : (nI B).toInt = (B : Int) := tn1163_ ()
                              have t_n2 : (nI T).toInt = (T : Int) := tn1164_ ()
                              have t_n3 : (nI S).toInt = (S : Int) := tn1165_ ()
                              have t_n4 : (nI M).toInt = (M : Int) := tn1166_ ()
                              have t_n5 : (nI j1).toInt = (j1 : Int) := tn1136_ ()
                              have t_n6 : (nI j9).toInt = (j9 : Int) := tn1159_ ()
                              have t_n7 : (nI j45).toInt = (j45 : Int) := tn1162_ ()
                              have t_n8 : (nI w540).toInt = (w540 : Int) := tn1170_ ()
                              have t_n9 : (nI w870).toInt = (w870 : Int) := tn1173_ ()
                              exfalso; omega
                            · skip
                              refine lv_aload_n hx hb dX11_layPaths_139 rfl (lv_at hl 5 rfl) ?_
                              refine va_get (D := (dC, dI)) (ci := 11) (v := .ref ah) (C := RX11) (T := TX11) (N := 35) hx hb hg inG11 hown hK.1 hP 0 rfl rfl 28 (by decide) (hg _ wt_906) (fun _ h9 => h9) rfl dX11_layPaths_140 ?_
                              refine lv_bipush (v := 10) hx hb dX11_layPaths_143 (by decide) ?_
                              refine lv_iload_n hx hb dX11_layPaths_145 rfl (lv_at hl 4 rfl) ?_
                              refine lv_imul hx hb dX11_layPaths_146 ?_
                              refine lv_cg (y := nI (10 * j9)) (by rw [show (10 : Int32) = nI 10 from rfl]; exact pk_mul _ _) ?_
                              refine lv_bipush (v := 10) hx hb dX11_layPaths_147 (by decide) ?_
                              refine lv_iadd hx hb dX11_layPaths_149 ?_
                              refine lv_cg (y := nI ((10 * j9) + 10)) (by rw [show (10 : Int32) = nI 10 from rfl]; exact nI_add _ _) ?_
                              refine lv_iload hx hb dX11_layPaths_150 (lv_at hl 1 rfl) ?_
                              refine lv_iadd hx hb dX11_layPaths_152 ?_
                              refine lv_cg (y := nI (((10 * j9) + 10) + w540)) (by exact nI_add _ _) ?_
                              refine lv_dup2_11 hx hb dX11_layPaths_153 rfl rfl ?_
                              refine va_iald hx hb hK.1 hP 3 0 rfl rfl (vp_in_nI (by first | omega | (have t_hj6 := hj6; have t_n8 := n8; have t_hj13 := hj13; have t_n44 := n44; have t_hj49 := hj49; have t_n52 := n52; have t_w542 := w542; have t_w872 := w872; have t_n110 := n110; have t_c113 := neI c113; have t_c119 := neI c119; have : ((-4) : Int32).toInt = -4 := qI_m4; have : (0 : Int32).toInt = 0 := qI_0; have t_n0 : (nI N).toInt = (N : Int) := tn1160_ (); have t_n1 : (nI B).toInt = (B : Int) := tn1163_ (); have t_n2 : (nI T).toInt = (T : Int) := tn1164_ (); have t_n3 : (nI S).toInt = (S : Int) := tn1165_ (); have t_n4 : (nI M).toInt = (M : Int) := tn1166_ (); have t_n5 : (nI j1).toInt = (j1 : Int) := tn1136_ (); have t_n6 : (nI j9).toInt = (j9 : Int) := tn1159_ (); have t_n7 : (nI j45).toInt = (j45 : Int) := tn1162_ (); have t_n8 : (nI w540).toInt = (w540 : Int) := tn1170_ (); have t_n9 : (nI w870).toInt = (w870 : Int) := tn1173_ (); omega)) (by decide)) dX11_layPaths_154 ?_
                              refine lv_cg (y := (upd g46 ((10 * j9) + 10) v118) (((10 * j9) + 10) + w540)) (by rw [nI_clamp (by omega)]) ?_
                              refine lv_iload_n hx hb dX11_layPaths_155 rfl (lv_at hl 2 rfl) ?_
                              refine lv_iadd hx hb dX11_layPaths_156 ?_
                              refine lv_topi (fun v120 ev120 => ?_)
                              refine va_iast hx hb hK.1 hP hD hS 3 0 rfl rfl (vp_in_nI (by first | omega | (have t_hj6 := hj6; have t_n8 := n8; have t_hj13 := hj13; have t_n44 := n44; have t_hj49 := hj49; have t_n52 := n52; have t_w542 := w542; have t_w872 := w872; have t_n110 := n110; have t_c113 := neI c113; have t_c119 := neI c119; have : ((-4) : Int32).toInt = -4 := qI_m4; have : (0 : Int32).toInt = 0 := qI_0; have t_n0 : (nI N).toInt = (N : Int) := tn1160_ (); have t_n1 : (nI B).toInt = (B : Int) := tn1163_ (); have t_n2 : (nI T).toInt = (T : Int) := tn1164_ (); have t_n3 : (nI S).toInt = (S : Int) := tn1165_ (); have t_n4 : (nI M).toInt = (M : Int) := tn1166_ (); have t_n5 : (nI j1).toInt = (j1 : Int) := tn1136_ (); have t_n6 : (nI j9).toInt = (j9 : Int) := tn1159_ (); have t_n7 : (nI j45).toInt = (j45 : Int) := tn1162_ (); have t_n8 : (nI w540).toInt = (w540 : Int) := tn1170_ (); have t_n9 : (nI w870).toInt = (w870 : Int) := tn1173_ (); omega)) (by decide)) dX11_layPaths_157 (fun H locs hP hD hS => ?_)
                              rw [nI_clamp (by omega)] at hP hD
                              have hP : va_P (dC, dI) vwCl [(h0, .inr (11, [.ref st, .int (nI N), .int (nI B), .ref rp, .int vrs, .int vrb, .int vhs, .int vca, .int vxs, .int vxb, .ref tp, .int (nI T), .int vfa, .int vbr, .int vba, .int vsp, .int vhe, .int vtk, .int vva, .ref cu, .ref lt, .ref od, .ref th, .ref be, .ref ln, .int (nI S), .ref ma, .int (nI M), .ref ah, .ref bh, .ref ik, .ref la, .ref lg, .ref ce, .int vto])), (st, .inl (G 0, 196, .inl fst)), (ma, .inl (G 0, 12, .inl fma)), (ah, .inl (G 0, 110, .inl (upd (upd g46 ((10 * j9) + 10) v118) (((10 * j9) + 10) + w540) v120))), (bh, .inl (G 0, 110, .inl g3))] H := hP
                              have hD : va_D A [(h0, .inr (11, [.ref st, .int (nI N), .int (nI B), .ref rp, .int vrs, .int vrb, .int vhs, .int vca, .int vxs, .int vxb, .ref tp, .int (nI T), .int vfa, .int vbr, .int vba, .int vsp, .int vhe, .int vtk, .int vva, .ref cu, .ref lt, .ref od, .ref th, .ref be, .ref ln, .int (nI S), .ref ma, .int (nI M), .ref ah, .ref bh, .ref ik, .ref la, .ref lg, .ref ce, .int vto])), (st, .inl (G 0, 196, .inl fst)), (ma, .inl (G 0, 12, .inl fma)), (ah, .inl (G 0, 110, .inl (upd (upd g46 ((10 * j9) + 10) v118) (((10 * j9) + 10) + w540) v120))), (bh, .inl (G 0, 110, .inl g3))] := hD
                              refine lv_iload hx hb dX11_layPaths_158 (lv_at hl 0 rfl) ?_
                              refine lv_bipush (v := (-4)) hx hb dX11_layPaths_160 (by decide) ?_
                              refine lv_icmp_eq (tgt := 184) hx hb dX11_layPaths_162 (by decide) (fun c121 => ?_) (fun c121 => ?_)
                              · skip
                                have t_hj6 := hj6
                                have t_n8 := n8
                                have t_hj13 := hj13
                                have t_n44 := n44
                                have t_hj49 := hj49
                                have t_n52 := n52
                                have t_w542 := w542
                                have t_w872 := w872
                                have t_n110 := n110
                                have t_c113 := neI c113
                                have t_c119 := neI c119
                                have t_c121 := eqI c121
                                have : ((-4) : Int32).toInt = -4 := qI_m4
                                have : (0 : Int32).toInt = 0 := qI_0
                                have t_n0 : (nI N).toInt = (N : Int) := tn1160_ ()
                                have t_n1 : (nI B).toInt = (B : Int) := tn1163_ ()
                                have t_n2 : (nI T).toInt = (T : Int) := tn1164_ ()
                                have t_n3 : (nI S).toInt = (S : Int) := tn1165_ ()
                                have t_n4 : (nI M).toInt = (M : Int) := tn1166_ ()
                                have t_n5 : (nI j1).toInt = (j1 : Int) := tn1136_ ()
                                have t_n6 : (nI j9).toInt = (j9 : Int) := tn1159_ ()
                                have t_n7 : (nI j45).toInt = (j45 : Int) := tn1162_ ()
                                have t_n8 : (nI w540).toInt = (w540 : Int) := tn1170_ ()
                                have t_n9 : (nI w870).toInt = (w870 : Int) := tn1173_ ()
                                exfalso; omega
                              · skip
                                refine lv_aload_n hx hb dX11_layPaths_165 rfl (lv_at hl 5 rfl) ?_
                                refine va_get (D := (dC, dI)) (ci := 11) (v := .ref ah) (C := RX11) (T := TX11) (N := 35) hx hb hg inG11 hown hK.1 hP 0 rfl rfl 28 (by decide) (hg _ wt_906) (fun _ h9 => h9) rfl dX11_layPaths_166 ?_
                                refine lv_bipush (v := 10) hx hb dX11_layPaths_169 (by decide) ?_
                                refine lv_iload_n hx hb dX11_layPaths_171 rfl (lv_at hl 4 rfl) ?_
                                refine lv_imul hx hb dX11_layPaths_172 ?_
                                refine lv_cg (y := nI (10 * j9)) (by rw [show (10 : Int32) = nI 10 from rfl]; exact pk_mul _ _) ?_
                                refine lv_bipush (v := 10) hx hb dX11_layPaths_173 (by decide) ?_
                                refine lv_iadd hx hb dX11_layPaths_175 ?_
                                refine lv_cg (y := nI ((10 * j9) + 10)) (by rw [show (10 : Int32) = nI 10 from rfl]; exact nI_add _ _) ?_
                                refine lv_iload hx hb dX11_layPaths_176 (lv_at hl 0 rfl) ?_
                                refine lv_iadd hx hb dX11_layPaths_178 ?_
                                refine lv_cg (y := nI (((10 * j9) + 10) + w870)) (by exact nI_add _ _) ?_
                                refine lv_dup2_11 hx hb dX11_layPaths_179 rfl rfl ?_
                                refine va_iald hx hb hK.1 hP 3 0 rfl rfl (vp_in_nI (by first | omega | (have t_hj6 := hj6; have t_n8 := n8; have t_hj13 := hj13; have t_n44 := n44; have t_hj49 := hj49; have t_n52 := n52; have t_w542 := w542; have t_w872 := w872; have t_n110 := n110; have t_c113 := neI c113; have t_c119 := neI c119; have t_c121 := neI c121; have : ((-4) : Int32).toInt = -4 := qI_m4; have : (0 : Int32).toInt = 0 := qI_0; have t_n0 : (nI N).toInt = (N : Int) := tn1160_ (); have t_n1 : (nI B).toInt = (B : Int) := tn1163_ (); have t_n2 : (nI T).toInt = (T : Int) := tn1164_ (); have t_n3 : (nI S).toInt = (S : Int) := tn1165_ (); have t_n4 : (nI M).toInt = (M : Int) := tn1166_ (); have t_n5 : (nI j1).toInt = (j1 : Int) := tn1136_ (); have t_n6 : (nI j9).toInt = (j9 : Int) := tn1159_ (); have t_n7 : (nI j45).toInt = (j45 : Int) := tn1162_ (); have t_n8 : (nI w540).toInt = (w540 : Int) := tn1170_ (); have t_n9 : (nI w870).toInt = (w870 : Int) := tn1173_ (); omega)) (by decide)) dX11_layPaths_180 ?_
                                refine lv_cg (y := (upd (upd g46 ((10 * j9) + 10) v118) (((10 * j9) + 10) + w540) v120) (((10 * j9) + 10) + w870)) (by rw [nI_clamp (by omega)]) ?_
                                refine lv_iload_n hx hb dX11_layPaths_181 rfl (lv_at hl 2 rfl) ?_
                                refine lv_iadd hx hb dX11_layPaths_182 ?_
                                refine lv_topi (fun v122 ev122 => ?_)
                                refine va_iast hx hb hK.1 hP hD hS 3 0 rfl rfl (vp_in_nI (by first | omega | (have t_hj6 := hj6; have t_n8 := n8; have t_hj13 := hj13; have t_n44 := n44; have t_hj49 := hj49; have t_n52 := n52; have t_w542 := w542; have t_w872 := w872; have t_n110 := n110; have t_c113 := neI c113; have t_c119 := neI c119; have t_c121 := neI c121; have : ((-4) : Int32).toInt = -4 := qI_m4; have : (0 : Int32).toInt = 0 := qI_0; have t_n0 : (nI N).toInt = (N : Int) := tn1160_ (); have t_n1 : (nI B).toInt = (B : Int) := tn1163_ (); have t_n2 : (nI T).toInt = (T : Int) := tn1164_ (); have t_n3 : (nI S).toInt = (S : Int) := tn1165_ (); have t_n4 : (nI M).toInt = (M : Int) := tn1166_ (); have t_n5 : (nI j1).toInt = (j1 : Int) := tn1136_ (); have t_n6 : (nI j9).toInt = (j9 : Int) := tn1159_ (); have t_n7 : (nI j45).toInt = (j45 : Int) := tn1162_ (); have t_n8 : (nI w540).toInt = (w540 : Int) := tn1170_ (); have t_n9 : (nI w870).toInt = (w870 : Int) := tn1173_ (); omega)) (by decide)) dX11_layPaths_183 (fun H locs hP hD hS => ?_)
                                rw [nI_clamp (by omega)] at hP hD
                                have hP : va_P (dC, dI) vwCl [(h0, .inr (11, [.ref st, .int (nI N), .int (nI B), .ref rp, .int vrs, .int vrb, .int vhs, .int vca, .int vxs, .int vxb, .ref tp, .int (nI T), .int vfa, .int vbr, .int vba, .int vsp, .int vhe, .int vtk, .int vva, .ref cu, .ref lt, .ref od, .ref th, .ref be, .ref ln, .int (nI S), .ref ma, .int (nI M), .ref ah, .ref bh, .ref ik, .ref la, .ref lg, .ref ce, .int vto])), (st, .inl (G 0, 196, .inl fst)), (ma, .inl (G 0, 12, .inl fma)), (ah, .inl (G 0, 110, .inl (upd (upd (upd g46 ((10 * j9) + 10) v118) (((10 * j9) + 10) + w540) v120) (((10 * j9) + 10) + w870) v122))), (bh, .inl (G 0, 110, .inl g3))] H := hP
                                have hD : va_D A [(h0, .inr (11, [.ref st, .int (nI N), .int (nI B), .ref rp, .int vrs, .int vrb, .int vhs, .int vca, .int vxs, .int vxb, .ref tp, .int (nI T), .int vfa, .int vbr, .int vba, .int vsp, .int vhe, .int vtk, .int vva, .ref cu, .ref lt, .ref od, .ref th, .ref be, .ref ln, .int (nI S), .ref ma, .int (nI M), .ref ah, .ref bh, .ref ik, .ref la, .ref lg, .ref ce, .int vto])), (st, .inl (G 0, 196, .inl fst)), (ma, .inl (G 0, 12, .inl fma)), (ah, .inl (G 0, 110, .inl (upd (upd (upd g46 ((10 * j9) + 10) v118) (((10 * j9) + 10) + w540) v120) (((10 * j9) + 10) + w870) v122))), (bh, .inl (G 0, 110, .inl g3))] := hD
                                refine lv_iinc (v := nI (j45 + 1)) (lv' := [(2, .int (nI (j45 + 1))), (5, .int (nI w870)), (4, .int (nI w540)), (3, .int (g46 ((10 * j9) + j45))), (1, .int (nI j9)), (0, .ref h0)]) hx hb dX11_layPaths_184 hl (k := 3) rfl (by rw [show Int32.ofInt 1 = nI 1 from by decide]; exact nI_add _ _) (by decide) rfl (fun ls hl => ?_)
                                refine lv_goto (tgt := 67) hx hb dX11_layPaths_187 (by decide) ?_
                                exact ih67_47 (j45 + 1) (by omega) (by omega) (upd (upd (upd g46 ((10 * j9) + 10) v118) (((10 * j9) + 10) + w540) v120) (((10 * j9) + 10) + w870) v122) _ _ hP hD hS ls (lv_sub hl [0, 4, 5] rfl)
              exact loop67_47 (10 + 1) 0 (by omega) (by omega) g10 _ _ hP hD hS ls (lv_sub hl [0, 1, 2] rfl)
        exact loop57_11 (N + 1) 0 (by omega) (by omega) g2 _ _ hP hD hS ls (lv_sub hl [0, 1] rfl)
      · skip
        have tn1174_ : nIT j1 := fun _ => nI_toInt (by first | omega | (have t := nleI c7; omega))
        have n123 : j1 < 110 := by have t := nleI c7; rw [show (nI (j1)).toInt = ((j1 : Nat) : Int) from tn1174_ ()] at t; have : (110 : Int32).toInt = 110 := qI_110; omega
        refine lv_aload_n hx hb dX11_layPaths_8 rfl (lv_at hl 1 rfl) ?_
        refine va_get (D := (dC, dI)) (ci := 11) (v := .ref ah) (C := RX11) (T := TX11) (N := 35) hx hb hg inG11 hown hK.1 hP 0 rfl rfl 28 (by decide) (hg _ wt_906) (fun _ h9 => h9) rfl dX11_layPaths_9 ?_
        refine lv_iload_n hx hb dX11_layPaths_12 rfl (lv_at hl 0 rfl) ?_
        refine lv_iload_n hx hb dX11_layPaths_13 rfl (lv_at hl 0 rfl) ?_
        refine lv_aload_n hx hb dX11_layPaths_14 rfl (lv_at hl 1 rfl) ?_
        have hPc := hP.sub (ws' := [(h0, .inr (11, [.ref st, .int (nI N), .int (nI B), .ref rp, .int vrs, .int vrb, .int vhs, .int vca, .int vxs, .int vxb, .ref tp, .int (nI T), .int vfa, .int vbr, .int vba, .int vsp, .int vhe, .int vtk, .int vva, .ref cu, .ref lt, .ref od, .ref th, .ref be, .ref ln, .int (nI S), .ref ma, .int (nI M), .ref ah, .ref bh, .ref ik, .ref la, .ref lg, .ref ce, .int vto])), (st, .inl (G 0, 196, .inl fst))]) [0, 1] rfl
        have tn1175_ : nIT N := fun _ => nI_toInt (by first | omega | (have t_hj6 := hj6; have t_n123 := n123; omega))
        have tn1176_ : nIT B := fun _ => nI_toInt (by first | omega | (have t_hj6 := hj6; have t_n123 := n123; omega))
        have tn1177_ : nIT T := fun _ => nI_toInt (by first | omega | (have t_hj6 := hj6; have t_n123 := n123; omega))
        have tn1178_ : nIT S := fun _ => nI_toInt (by first | omega | (have t_hj6 := hj6; have t_n123 := n123; omega))
        have tn1179_ : nIT M := fun _ => nI_toInt (by first | omega | (have t_hj6 := hj6; have t_n123 := n123; omega))
        refine va_calli (va_runV (As := []) (rest := [.int (nI j1), .int (nI j1), .ref ah]) ⟨hx, hb, hml, hown, hg⟩ (c_X11_startNow l dC dI G _ h0 st N B rp tp T cu lt od th be ln S ma M ah bh ik la lg ce vrs vrb vhs vca vxs vxb vfa vbr vba vsp vhe vtk vva vto fst hN hB_ hT_ hS0 hM_ hst) (kwV hg mfX11_startNow wt_1044 ⟨Nat.le_of_ble_eq_true rfl, Nat.le_of_ble_eq_true rfl⟩) (preVR hK hPc (ci := 11) rfl rfl) rfl rfl hl.1 rfl (lv_room (Nat.le_of_ble_eq_true rfl)) dX11_layPaths_15 ⟨Nat.le_of_ble_eq_true rfl, Nat.le_of_ble_eq_true rfl⟩) hS (fun q h1 h2 => absurd h2 (Nat.not_le.mpr h1)) (fun q h => hA q (Nat.le_trans hS.1 h)) (fun r124 ur124 t H1 locs ht hvm w125 hB hz1 hk1 hS => ?_)
        have hP := keepR hP hk1
        obtain ⟨w125, w125x⟩ := w125
        obtain ⟨k126, w125, w125a, w125b⟩ := w125
        subst w125
        have cut26_128 : ∀ (y127 : Int32) (H : Heap) (locs : List Loc), va_P (dC, dI) vwCl [(h0, .inr (11, [.ref st, .int (nI N), .int (nI B), .ref rp, .int vrs, .int vrb, .int vhs, .int vca, .int vxs, .int vxb, .ref tp, .int (nI T), .int vfa, .int vbr, .int vba, .int vsp, .int vhe, .int vtk, .int vva, .ref cu, .ref lt, .ref od, .ref th, .ref be, .ref ln, .int (nI S), .ref ma, .int (nI M), .ref ah, .ref bh, .ref ik, .ref la, .ref lg, .ref ce, .int vto])), (st, .inl (G 0, 196, .inl fst)), (ma, .inl (G 0, 12, .inl fma)), (ah, .inl (G 0, 110, .inl g2)), (bh, .inl (G 0, 110, .inl g3))] H → va_D A [(h0, .inr (11, [.ref st, .int (nI N), .int (nI B), .ref rp, .int vrs, .int vrb, .int vhs, .int vca, .int vxs, .int vxb, .ref tp, .int (nI T), .int vfa, .int vbr, .int vba, .int vsp, .int vhe, .int vtk, .int vva, .ref cu, .ref lt, .ref od, .ref th, .ref be, .ref ln, .int (nI S), .ref ma, .int (nI M), .ref ah, .ref bh, .ref ik, .ref la, .ref lg, .ref ce, .int vto])), (st, .inl (G 0, 196, .inl fst)), (ma, .inl (G 0, 12, .inl fma)), (ah, .inl (G 0, 110, .inl g2)), (bh, .inl (G 0, 110, .inl g3))] → va_S A s.heap H locs → ∀ (ls : Array Slot), lv_has ls 6 [(1, .int (nI j1)), (0, .ref h0)] → W p l e (headSpec (Cond.code yX11_layPaths cX11_layPaths 6 none :: GT) ({ frames := 5, cells := 0, slots := 0, locals := 121 } : Room)).room s m ([.ref h0] : List Value).toArray below meth c H locs 0 0 (MQ below (va_Qv (fun (u : (Nat → Int32) × (Nat → Int32)) => match u with | (oah, obh) => True) (fun (u : (Nat → Int32) × (Nat → Int32)) (t : State) => match u with | (oah, obh) => va_P (dC, dI) vwCl [(h0, .inr (11, [.ref st, .int (nI N), .int (nI B), .ref rp, .int vrs, .int vrb, .int vhs, .int vca, .int vxs, .int vxb, .ref tp, .int (nI T), .int vfa, .int vbr, .int vba, .int vsp, .int vhe, .int vtk, .int vva, .ref cu, .ref lt, .ref od, .ref th, .ref be, .ref ln, .int (nI S), .ref ma, .int (nI M), .ref ah, .ref bh, .ref ik, .ref la, .ref lg, .ref ce, .int vto])), (st, .inl (G 0, 196, .inl fst)), (ma, .inl (G 0, 12, .inl fma)), (ah, .inl (G 0, 110, .inl oah)), (bh, .inl (G 0, 110, .inl obh))] t.heap ∧ va_D A [(h0, .inr (11, [.ref st, .int (nI N), .int (nI B), .ref rp, .int vrs, .int vrb, .int vhs, .int vca, .int vxs, .int vxb, .ref tp, .int (nI T), .int vfa, .int vbr, .int vba, .int vsp, .int vhe, .int vtk, .int vva, .ref cu, .ref lt, .ref od, .ref th, .ref be, .ref ln, .int (nI S), .ref ma, .int (nI M), .ref ah, .ref bh, .ref ik, .ref la, .ref lg, .ref ce, .int vto])), (st, .inl (G 0, 196, .inl fst)), (ma, .inl (G 0, 12, .inl fma)), (ah, .inl (G 0, 110, .inl oah)), (bh, .inl (G 0, 110, .inl obh))]) A) ([.ref h0] : List Value).toArray s 0 0 A) (F0 m 26 ls [.int y127, .int (nI j1), .ref ah]) := by
          intro y127 H locs hP hD hS ls hl
          have tn1180_ : nIT k126 := fun _ => nI_toInt (by first | omega | (have t_hj6 := hj6; have t_n123 := n123; have t_w125a := w125a; have t_w125b := w125b; omega))
          refine va_iast hx hb hK.1 hP hD hS 3 0 rfl rfl (vp_in_nI (by first | omega | (have t_hj6 := hj6; have t_n123 := n123; have t_w125a := w125a; have t_w125b := w125b; have t_n0 : (nI N).toInt = (N : Int) := tn1175_ (); have t_n1 : (nI B).toInt = (B : Int) := tn1176_ (); have t_n2 : (nI T).toInt = (T : Int) := tn1177_ (); have t_n3 : (nI S).toInt = (S : Int) := tn1178_ (); have t_n4 : (nI M).toInt = (M : Int) := tn1179_ (); have t_n5 : (nI j1).toInt = (j1 : Int) := tn1174_ (); have t_n6 : (nI k126).toInt = (k126 : Int) := tn1180_ (); omega)) (by decide)) dX11_layPaths_26 (fun H locs hP hD hS => ?_)
          rw [nI_clamp (by omega)] at hP hD
          have hP : va_P (dC, dI) vwCl [(h0, .inr (11, [.ref st, .int (nI N), .int (nI B), .ref rp, .int vrs, .int vrb, .int vhs, .int vca, .int vxs, .int vxb, .ref tp, .int (nI T), .int vfa, .int vbr, .int vba, .int vsp, .int vhe, .int vtk, .int vva, .ref cu, .ref lt, .ref od, .ref th, .ref be, .ref ln, .int (nI S), .ref ma, .int (nI M), .ref ah, .ref bh, .ref ik, .ref la, .ref lg, .ref ce, .int vto])), (st, .inl (G 0, 196, .inl fst)), (ma, .inl (G 0, 12, .inl fma)), (ah, .inl (G 0, 110, .inl (upd g2 j1 y127))), (bh, .inl (G 0, 110, .inl g3))] H := hP
          have hD : va_D A [(h0, .inr (11, [.ref st, .int (nI N), .int (nI B), .ref rp, .int vrs, .int vrb, .int vhs, .int vca, .int vxs, .int vxb, .ref tp, .int (nI T), .int vfa, .int vbr, .int vba, .int vsp, .int vhe, .int vtk, .int vva, .ref cu, .ref lt, .ref od, .ref th, .ref be, .ref ln, .int (nI S), .ref ma, .int (nI M), .ref ah, .ref bh, .ref ik, .ref la, .ref lg, .ref ce, .int vto])), (st, .inl (G 0, 196, .inl fst)), (ma, .inl (G 0, 12, .inl fma)), (ah, .inl (G 0, 110, .inl (upd g2 j1 y127))), (bh, .inl (G 0, 110, .inl g3))] := hD
          refine lv_aload_n hx hb dX11_layPaths_27 rfl (lv_at hl 1 rfl) ?_
          refine va_get (D := (dC, dI)) (ci := 11) (v := .ref bh) (C := RX11) (T := TX11) (N := 35) hx hb hg inG11 hown hK.1 hP 0 rfl rfl 29 (by decide) (hg _ wt_907) (fun _ h9 => h9) rfl dX11_layPaths_28 ?_
          refine lv_iload_n hx hb dX11_layPaths_31 rfl (lv_at hl 0 rfl) ?_
          refine lv_iload_n hx hb dX11_layPaths_32 rfl (lv_at hl 0 rfl) ?_
          refine lv_bipush (v := 10) hx hb dX11_layPaths_33 (by decide) ?_
          refine lv_idiv hx hb dX11_layPaths_35 (by decide) ?_
          refine lv_cg (y := nI (j1 / 10)) (by rw [show (10 : Int32) = nI 10 from rfl]; exact pk_div (by omega) (by omega) (by omega)) ?_
          refine lv_aload_n hx hb dX11_layPaths_36 rfl (lv_at hl 1 rfl) ?_
          refine va_get (D := (dC, dI)) (ci := 11) (v := .int (nI N)) (C := RX11) (T := TX11) (N := 35) hx hb hg inG11 hown hK.1 hP 0 rfl rfl 1 (by decide) (hg _ wt_879) (fun _ h9 => h9) rfl dX11_layPaths_37 ?_
          have cut48_130 : ∀ (y129 : Int32) (H : Heap) (locs : List Loc), va_P (dC, dI) vwCl [(h0, .inr (11, [.ref st, .int (nI N), .int (nI B), .ref rp, .int vrs, .int vrb, .int vhs, .int vca, .int vxs, .int vxb, .ref tp, .int (nI T), .int vfa, .int vbr, .int vba, .int vsp, .int vhe, .int vtk, .int vva, .ref cu, .ref lt, .ref od, .ref th, .ref be, .ref ln, .int (nI S), .ref ma, .int (nI M), .ref ah, .ref bh, .ref ik, .ref la, .ref lg, .ref ce, .int vto])), (st, .inl (G 0, 196, .inl fst)), (ma, .inl (G 0, 12, .inl fma)), (ah, .inl (G 0, 110, .inl (upd g2 j1 y127))), (bh, .inl (G 0, 110, .inl g3))] H → va_D A [(h0, .inr (11, [.ref st, .int (nI N), .int (nI B), .ref rp, .int vrs, .int vrb, .int vhs, .int vca, .int vxs, .int vxb, .ref tp, .int (nI T), .int vfa, .int vbr, .int vba, .int vsp, .int vhe, .int vtk, .int vva, .ref cu, .ref lt, .ref od, .ref th, .ref be, .ref ln, .int (nI S), .ref ma, .int (nI M), .ref ah, .ref bh, .ref ik, .ref la, .ref lg, .ref ce, .int vto])), (st, .inl (G 0, 196, .inl fst)), (ma, .inl (G 0, 12, .inl fma)), (ah, .inl (G 0, 110, .inl (upd g2 j1 y127))), (bh, .inl (G 0, 110, .inl g3))] → va_S A s.heap H locs → ∀ (ls : Array Slot), lv_has ls 6 [(1, .int (nI j1)), (0, .ref h0)] → W p l e (headSpec (Cond.code yX11_layPaths cX11_layPaths 6 none :: GT) ({ frames := 5, cells := 0, slots := 0, locals := 121 } : Room)).room s m ([.ref h0] : List Value).toArray below meth c H locs 0 0 (MQ below (va_Qv (fun (u : (Nat → Int32) × (Nat → Int32)) => match u with | (oah, obh) => True) (fun (u : (Nat → Int32) × (Nat → Int32)) (t : State) => match u with | (oah, obh) => va_P (dC, dI) vwCl [(h0, .inr (11, [.ref st, .int (nI N), .int (nI B), .ref rp, .int vrs, .int vrb, .int vhs, .int vca, .int vxs, .int vxb, .ref tp, .int (nI T), .int vfa, .int vbr, .int vba, .int vsp, .int vhe, .int vtk, .int vva, .ref cu, .ref lt, .ref od, .ref th, .ref be, .ref ln, .int (nI S), .ref ma, .int (nI M), .ref ah, .ref bh, .ref ik, .ref la, .ref lg, .ref ce, .int vto])), (st, .inl (G 0, 196, .inl fst)), (ma, .inl (G 0, 12, .inl fma)), (ah, .inl (G 0, 110, .inl oah)), (bh, .inl (G 0, 110, .inl obh))] t.heap ∧ va_D A [(h0, .inr (11, [.ref st, .int (nI N), .int (nI B), .ref rp, .int vrs, .int vrb, .int vhs, .int vca, .int vxs, .int vxb, .ref tp, .int (nI T), .int vfa, .int vbr, .int vba, .int vsp, .int vhe, .int vtk, .int vva, .ref cu, .ref lt, .ref od, .ref th, .ref be, .ref ln, .int (nI S), .ref ma, .int (nI M), .ref ah, .ref bh, .ref ik, .ref la, .ref lg, .ref ce, .int vto])), (st, .inl (G 0, 196, .inl fst)), (ma, .inl (G 0, 12, .inl fma)), (ah, .inl (G 0, 110, .inl oah)), (bh, .inl (G 0, 110, .inl obh))]) A) ([.ref h0] : List Value).toArray s 0 0 A) (F0 m 48 ls [.int y129, .int (nI j1), .ref bh]) := by
            intro y129 H locs hP hD hS ls hl
            refine va_iast hx hb hK.1 hP hD hS 4 0 rfl rfl (vp_in_nI (by first | omega | (have t_hj6 := hj6; have t_n123 := n123; have t_w125a := w125a; have t_w125b := w125b; have t_n0 : (nI N).toInt = (N : Int) := tn1175_ (); have t_n1 : (nI B).toInt = (B : Int) := tn1176_ (); have t_n2 : (nI T).toInt = (T : Int) := tn1177_ (); have t_n3 : (nI S).toInt = (S : Int) := tn1178_ (); have t_n4 : (nI M).toInt = (M : Int) := tn1179_ (); have t_n5 : (nI j1).toInt = (j1 : Int) := tn1174_ (); have t_n6 : (nI k126).toInt = (k126 : Int) := tn1180_ (); omega)) (by decide)) dX11_layPaths_48 (fun H locs hP hD hS => ?_)
            rw [nI_clamp (by omega)] at hP hD
            have hP : va_P (dC, dI) vwCl [(h0, .inr (11, [.ref st, .int (nI N), .int (nI B), .ref rp, .int vrs, .int vrb, .int vhs, .int vca, .int vxs, .int vxb, .ref tp, .int (nI T), .int vfa, .int vbr, .int vba, .int vsp, .int vhe, .int vtk, .int vva, .ref cu, .ref lt, .ref od, .ref th, .ref be, .ref ln, .int (nI S), .ref ma, .int (nI M), .ref ah, .ref bh, .ref ik, .ref la, .ref lg, .ref ce, .int vto])), (st, .inl (G 0, 196, .inl fst)), (ma, .inl (G 0, 12, .inl fma)), (ah, .inl (G 0, 110, .inl (upd g2 j1 y127))), (bh, .inl (G 0, 110, .inl (upd g3 j1 y129)))] H := hP
            have hD : va_D A [(h0, .inr (11, [.ref st, .int (nI N), .int (nI B), .ref rp, .int vrs, .int vrb, .int vhs, .int vca, .int vxs, .int vxb, .ref tp, .int (nI T), .int vfa, .int vbr, .int vba, .int vsp, .int vhe, .int vtk, .int vva, .ref cu, .ref lt, .ref od, .ref th, .ref be, .ref ln, .int (nI S), .ref ma, .int (nI M), .ref ah, .ref bh, .ref ik, .ref la, .ref lg, .ref ce, .int vto])), (st, .inl (G 0, 196, .inl fst)), (ma, .inl (G 0, 12, .inl fma)), (ah, .inl (G 0, 110, .inl (upd g2 j1 y127))), (bh, .inl (G 0, 110, .inl (upd g3 j1 y129)))] := hD
            refine lv_iinc (v := nI (j1 + 1)) (lv' := [(1, .int (nI (j1 + 1))), (0, .ref h0)]) hx hb dX11_layPaths_49 hl (k := 0) rfl (by rw [show Int32.ofInt 1 = nI 1 from by decide]; exact nI_add _ _) (by decide) rfl (fun ls hl => ?_)
            refine lv_goto (tgt := 2) hx hb dX11_layPaths_52 (by decide) ?_
            exact ih2_4 (j1 + 1) (by omega) (by omega) (upd g2 j1 y127) (upd g3 j1 y129) _ _ hP hD hS ls (lv_sub hl [0, 1] rfl)
          refine lv_icmp_ne (tgt := 47) hx hb dX11_layPaths_40 (by decide) (fun c131 => ?_) (fun c131 => ?_)
          · skip
            have tn1181_ : nIT (j1 / 10) := fun _ => nI_toInt (by first | omega | (have t := neI c131; omega))
            have n132 : (j1 / 10) ≠ N := by have t := neI c131; rw [show (nI (j1 / 10)).toInt = ((j1 / 10 : Nat) : Int) from tn1181_ ()] at t; rw [show (nI (N)).toInt = ((N : Nat) : Int) from tn1175_ ()] at t; omega
            refine lv_iconst (v := 0) hx hb dX11_layPaths_47 (by decide) ?_
            exact cut48_130 0 _ _ hP hD hS ls (lv_sub hl [0, 1] rfl)
          · skip
            have tn1182_ : nIT (j1 / 10) := fun _ => nI_toInt (by first | omega | (have t := eqI c131; omega))
            have n133 : (j1 / 10) = N := by have t := eqI c131; rw [show (nI (j1 / 10)).toInt = ((j1 / 10 : Nat) : Int) from tn1182_ ()] at t; rw [show (nI (N)).toInt = ((N : Nat) : Int) from tn1175_ ()] at t; omega
            refine lv_iconst (v := 1) hx hb dX11_layPaths_43 (by decide) ?_
            refine lv_goto (tgt := 48) hx hb dX11_layPaths_44 (by decide) ?_
            exact cut48_130 1 _ _ hP hD hS ls (lv_sub hl [0, 1] rfl)
        refine lv_icmp_ne (tgt := 25) hx hb dX11_layPaths_18 (by decide) (fun c134 => ?_) (fun c134 => ?_)
        · skip
          have tn1183_ : nIT k126 := fun _ => nI_toInt (by omega)
          have n135 : j1 ≠ k126 := by have t := neI c134; rw [show (nI (j1)).toInt = ((j1 : Nat) : Int) from tn1174_ ()] at t; rw [show (nI (k126)).toInt = ((k126 : Nat) : Int) from tn1183_ ()] at t; omega
          refine lv_iconst (v := 0) hx hb dX11_layPaths_25 (by decide) ?_
          exact cut26_128 0 _ _ hP hD hS ls (lv_sub hl [0, 1] rfl)
        · skip
          have tn1184_ : nIT k126 := fun _ => nI_toInt (by omega)
          have n136 : j1 = k126 := by have t := eqI c134; rw [show (nI (j1)).toInt = ((j1 : Nat) : Int) from tn1174_ ()] at t; rw [show (nI (k126)).toInt = ((k126 : Nat) : Int) from tn1184_ ()] at t; omega
          refine lv_iconst (v := 1) hx hb dX11_layPaths_21 (by decide) ?_
          refine lv_goto (tgt := 26) hx hb dX11_layPaths_22 (by decide) ?_
          exact cut26_128 1 _ _ hP hD hS ls (lv_sub hl [0, 1] rfl)
  exact loop2_4 (110 + 1) 0 (by omega) (by omega) fah fbh _ _ hP hD hS ls (lv_sub hl [0, 1] rfl)

set_option maxHeartbeats 1000000 in
set_option maxRecDepth 100000 in
theorem c_X11_paths (l : Launch) (dC : Nat → ClassId) (dI : Nat → Nat → Nat) (G : Nat → ClassId) (sz : Nat) (h0 st N B rp tp T cu lt od th be ln S ma M ah bh ik la lg ce : Nat) (vrs vrb vhs vca vxs vxb vfa vbr vba vsp vhe vtk vva vto : Int32) (fst : Nat → Int32) (fma : Nat → Int32) (fah : Nat → Int32) (fbh : Nat → Int32) (hN : N ≤ 10) (hB : B ≤ 6) (hT : T ≤ 320) (hS0 : S ≤ 8) (hM : M ≤ 6) (hst : OKS fst) : Met l yX11_paths (Cond.code yX11_paths cX11_paths 1 (some .int) :: GT) ({ frames := 6, cells := 0, slots := 0, locals := 146 } : Room) (PcW [.ref h0] dC dI G [(h0, .inr (11, [.ref st, .int (nI N), .int (nI B), .ref rp, .int vrs, .int vrb, .int vhs, .int vca, .int vxs, .int vxb, .ref tp, .int (nI T), .int vfa, .int vbr, .int vba, .int vsp, .int vhe, .int vtk, .int vva, .ref cu, .ref lt, .ref od, .ref th, .ref be, .ref ln, .int (nI S), .ref ma, .int (nI M), .ref ah, .ref bh, .ref ik, .ref la, .ref lg, .ref ce, .int vto])), (st, .inl (G 0, 196, .inl fst)), (ma, .inl (G 0, 12, .inl fma)), (ah, .inl (G 0, 110, .inl fah)), (bh, .inl (G 0, 110, .inl fbh))] sz) (va_Qi (fun (r : Int32) (u : (Nat → Int32) × (Nat → Int32)) => match u with | (oah, obh) => (True) ∧ True) (fun (u : (Nat → Int32) × (Nat → Int32)) (t : State) => match u with | (oah, obh) => va_P (dC, dI) vwCl [(h0, .inr (11, [.ref st, .int (nI N), .int (nI B), .ref rp, .int vrs, .int vrb, .int vhs, .int vca, .int vxs, .int vxb, .ref tp, .int (nI T), .int vfa, .int vbr, .int vba, .int vsp, .int vhe, .int vtk, .int vva, .ref cu, .ref lt, .ref od, .ref th, .ref be, .ref ln, .int (nI S), .ref ma, .int (nI M), .ref ah, .ref bh, .ref ik, .ref la, .ref lg, .ref ce, .int vto])), (st, .inl (G 0, 196, .inl fst)), (ma, .inl (G 0, 12, .inl fma)), (ah, .inl (G 0, 110, .inl oah)), (bh, .inl (G 0, 110, .inl obh))] t.heap ∧ va_D (va_A [(h0, .inr (11, [.ref st, .int (nI N), .int (nI B), .ref rp, .int vrs, .int vrb, .int vhs, .int vca, .int vxs, .int vxb, .ref tp, .int (nI T), .int vfa, .int vbr, .int vba, .int vsp, .int vhe, .int vtk, .int vva, .ref cu, .ref lt, .ref od, .ref th, .ref be, .ref ln, .int (nI S), .ref ma, .int (nI M), .ref ah, .ref bh, .ref ik, .ref la, .ref lg, .ref ce, .int vto])), (st, .inl (G 0, 196, .inl fst)), (ma, .inl (G 0, 12, .inl fma)), (ah, .inl (G 0, 110, .inl fah)), (bh, .inl (G 0, 110, .inl fbh))] sz) [(h0, .inr (11, [.ref st, .int (nI N), .int (nI B), .ref rp, .int vrs, .int vrb, .int vhs, .int vca, .int vxs, .int vxb, .ref tp, .int (nI T), .int vfa, .int vbr, .int vba, .int vsp, .int vhe, .int vtk, .int vva, .ref cu, .ref lt, .ref od, .ref th, .ref be, .ref ln, .int (nI S), .ref ma, .int (nI M), .ref ah, .ref bh, .ref ik, .ref la, .ref lg, .ref ce, .int vto])), (st, .inl (G 0, 196, .inl fst)), (ma, .inl (G 0, 12, .inl fma)), (ah, .inl (G 0, 110, .inl oah)), (bh, .inl (G 0, 110, .inl obh))]) (va_A [(h0, .inr (11, [.ref st, .int (nI N), .int (nI B), .ref rp, .int vrs, .int vrb, .int vhs, .int vca, .int vxs, .int vxb, .ref tp, .int (nI T), .int vfa, .int vbr, .int vba, .int vsp, .int vhe, .int vtk, .int vva, .ref cu, .ref lt, .ref od, .ref th, .ref be, .ref ln, .int (nI S), .ref ma, .int (nI M), .ref ah, .ref bh, .ref ik, .ref la, .ref lg, .ref ce, .int vto])), (st, .inl (G 0, 196, .inl fst)), (ma, .inl (G 0, 12, .inl fma)), (ah, .inl (G 0, 110, .inl fah)), (bh, .inl (G 0, 110, .inl fbh))] sz)) 0 0 (va_A [(h0, .inr (11, [.ref st, .int (nI N), .int (nI B), .ref rp, .int vrs, .int vrb, .int vhs, .int vca, .int vxs, .int vxb, .ref tp, .int (nI T), .int vfa, .int vbr, .int vba, .int vsp, .int vhe, .int vtk, .int vva, .ref cu, .ref lt, .ref od, .ref th, .ref be, .ref ln, .int (nI S), .ref ma, .int (nI M), .ref ah, .ref bh, .ref ik, .ref la, .ref lg, .ref ce, .int vto])), (st, .inl (G 0, 196, .inl fst)), (ma, .inl (G 0, 12, .inl fma)), (ah, .inl (G 0, 110, .inl fah)), (bh, .inl (G 0, 110, .inl fbh))] sz) := by
  have hB_ := hB
  have hM_ := hM
  have hT_ := hT
  refine Met.ofW (cc := cX11_paths) (maxL := 1) (ret := (some .int)) (by decide) rfl ?_
  intro p e s m args below meth c s₁ Bd hml hv
  obtain ⟨rfl, hsz, hP, hK, hD0⟩ := hv
  have hx := Bd.exec
  have hb := Bd.bytes
  have hr := Bd.returns
  have hg : ∀ w ∈ GT, w.before ([.ref h0] : List Value).toArray s = true := fun w h => atoms_spec (ws := Cond.code yX11_paths cX11_paths 1 (some .int) :: GT) Bd.pre w (List.mem_cons_of_mem _ h)
  have hown : s.vm.findClass RX11 = some m.cls := findClass_of_methodNamed Bd.named
  have hlocks := Bd.notSynchronized
  subst hsz
  have hD := hD0.self (sz := s.heap.size)
  generalize hAe : va_A [(h0, .inr (11, [.ref st, .int (nI N), .int (nI B), .ref rp, .int vrs, .int vrb, .int vhs, .int vca, .int vxs, .int vxb, .ref tp, .int (nI T), .int vfa, .int vbr, .int vba, .int vsp, .int vhe, .int vtk, .int vva, .ref cu, .ref lt, .ref od, .ref th, .ref be, .ref ln, .int (nI S), .ref ma, .int (nI M), .ref ah, .ref bh, .ref ik, .ref la, .ref lg, .ref ce, .int vto])), (st, .inl (G 0, 196, .inl fst)), (ma, .inl (G 0, 12, .inl fma)), (ah, .inl (G 0, 110, .inl fah)), (bh, .inl (G 0, 110, .inl fbh))] s.heap.size = A at hD ⊢
  have hA : ∀ q : Nat, s.heap.size ≤ q → A q := fun q h => by rw [← hAe]; exact Or.inr h
  have hS : va_S A s.heap s.heap [] := va_S.rf
  have hl := lv_entry ([.ref h0]) (n := 1) (Nat.le_of_ble_eq_true rfl)
  rw [lg_entry_eq]
  generalize (lg_sl ([.ref h0]) ++ List.replicate (1 - (lg_sl ([.ref h0])).length) Slot.unset).toArray = ls at hl ⊢
  have hl : lv_has ls 1 [(0, .ref h0)] := hl
  refine lv_aload_n hx hb dX11_paths_0 rfl (lv_at hl 0 rfl) ?_
  have hPc := hP.sub (ws' := [(h0, .inr (11, [.ref st, .int (nI N), .int (nI B), .ref rp, .int vrs, .int vrb, .int vhs, .int vca, .int vxs, .int vxb, .ref tp, .int (nI T), .int vfa, .int vbr, .int vba, .int vsp, .int vhe, .int vtk, .int vva, .ref cu, .ref lt, .ref od, .ref th, .ref be, .ref ln, .int (nI S), .ref ma, .int (nI M), .ref ah, .ref bh, .ref ik, .ref la, .ref lg, .ref ce, .int vto])), (st, .inl (G 0, 196, .inl fst)), (ma, .inl (G 0, 12, .inl fma)), (ah, .inl (G 0, 110, .inl fah)), (bh, .inl (G 0, 110, .inl fbh))]) [0, 1, 2, 3, 4] rfl
  have hDc := hD.sub (ws' := [(h0, .inr (11, [.ref st, .int (nI N), .int (nI B), .ref rp, .int vrs, .int vrb, .int vhs, .int vca, .int vxs, .int vxb, .ref tp, .int (nI T), .int vfa, .int vbr, .int vba, .int vsp, .int vhe, .int vtk, .int vva, .ref cu, .ref lt, .ref od, .ref th, .ref be, .ref ln, .int (nI S), .ref ma, .int (nI M), .ref ah, .ref bh, .ref ik, .ref la, .ref lg, .ref ce, .int vto])), (st, .inl (G 0, 196, .inl fst)), (ma, .inl (G 0, 12, .inl fma)), (ah, .inl (G 0, 110, .inl fah)), (bh, .inl (G 0, 110, .inl fbh))]) [0, 1, 2, 3, 4] (by decide) rfl
  have hFc := va_free (wc := [(h0, .inr (11, [.ref st, .int (nI N), .int (nI B), .ref rp, .int vrs, .int vrb, .int vhs, .int vca, .int vxs, .int vxb, .ref tp, .int (nI T), .int vfa, .int vbr, .int vba, .int vsp, .int vhe, .int vtk, .int vva, .ref cu, .ref lt, .ref od, .ref th, .ref be, .ref ln, .int (nI S), .ref ma, .int (nI M), .ref ah, .ref bh, .ref ik, .ref la, .ref lg, .ref ce, .int vto])), (st, .inl (G 0, 196, .inl fst)), (ma, .inl (G 0, 12, .inl fma)), (ah, .inl (G 0, 110, .inl fah)), (bh, .inl (G 0, 110, .inl fbh))]) hD hS hA [0, 1, 2, 3, 4] rfl
  have tn1185_ : nIT N := fun _ => nI_toInt (by omega)
  have tn1186_ : nIT B := fun _ => nI_toInt (by omega)
  have tn1187_ : nIT T := fun _ => nI_toInt (by omega)
  have tn1188_ : nIT S := fun _ => nI_toInt (by omega)
  have tn1189_ : nIT M := fun _ => nI_toInt (by omega)
  refine va_callv (va_runV (As := []) (rest := []) ⟨hx, hb, hml, hown, hg⟩ (c_X11_layPaths l dC dI G _ h0 st N B rp tp T cu lt od th be ln S ma M ah bh ik la lg ce vrs vrb vhs vca vxs vxb vfa vbr vba vsp vhe vtk vva vto fst fma fah fbh hN hB_ hT_ hS0 hM_ hst) (kwV hg mfX11_layPaths wt_1220 ⟨Nat.le_of_ble_eq_true rfl, Nat.le_of_ble_eq_true rfl⟩) (preVW hK hPc hDc (ci := 11) rfl rfl) rfl rfl hl.1 rfl (lv_room (Nat.le_of_ble_eq_true rfl)) dX11_paths_1 ⟨Nat.le_of_ble_eq_true rfl, Nat.le_of_ble_eq_true rfl⟩) hS (fun q _ h => hFc q h) hFc (fun ur1 t H1 locs ht hvm w2 hB hz1 hk1 hS => ?_)
  obtain ⟨u3, u4⟩ := ur1
  obtain ⟨hP1, hD1⟩ := hB
  rw [ht] at hP1
  obtain ⟨hP, hD⟩ := va_join (wr := []) (w1 := [(h0, .inr (11, [.ref st, .int (nI N), .int (nI B), .ref rp, .int vrs, .int vrb, .int vhs, .int vca, .int vxs, .int vxb, .ref tp, .int (nI T), .int vfa, .int vbr, .int vba, .int vsp, .int vhe, .int vtk, .int vva, .ref cu, .ref lt, .ref od, .ref th, .ref be, .ref ln, .int (nI S), .ref ma, .int (nI M), .ref ah, .ref bh, .ref ik, .ref la, .ref lg, .ref ce, .int vto])), (st, .inl (G 0, 196, .inl fst)), (ma, .inl (G 0, 12, .inl fma)), (ah, .inl (G 0, 110, .inl u3)), (bh, .inl (G 0, 110, .inl u4))]) hP hD [0, 1, 2, 3, 4] [] rfl rfl (by decide) (by decide) hk1 hFc hP1 hD1
  generalize H1 = H at hP hS ⊢
  have hP : va_P (dC, dI) vwCl [(h0, .inr (11, [.ref st, .int (nI N), .int (nI B), .ref rp, .int vrs, .int vrb, .int vhs, .int vca, .int vxs, .int vxb, .ref tp, .int (nI T), .int vfa, .int vbr, .int vba, .int vsp, .int vhe, .int vtk, .int vva, .ref cu, .ref lt, .ref od, .ref th, .ref be, .ref ln, .int (nI S), .ref ma, .int (nI M), .ref ah, .ref bh, .ref ik, .ref la, .ref lg, .ref ce, .int vto])), (st, .inl (G 0, 196, .inl fst)), (ma, .inl (G 0, 12, .inl fma)), (ah, .inl (G 0, 110, .inl u3)), (bh, .inl (G 0, 110, .inl u4))] H := hP
  have hD : va_D A [(h0, .inr (11, [.ref st, .int (nI N), .int (nI B), .ref rp, .int vrs, .int vrb, .int vhs, .int vca, .int vxs, .int vxb, .ref tp, .int (nI T), .int vfa, .int vbr, .int vba, .int vsp, .int vhe, .int vtk, .int vva, .ref cu, .ref lt, .ref od, .ref th, .ref be, .ref ln, .int (nI S), .ref ma, .int (nI M), .ref ah, .ref bh, .ref ik, .ref la, .ref lg, .ref ce, .int vto])), (st, .inl (G 0, 196, .inl fst)), (ma, .inl (G 0, 12, .inl fma)), (ah, .inl (G 0, 110, .inl u3)), (bh, .inl (G 0, 110, .inl u4))] := hD
  refine lv_aload_n hx hb dX11_paths_4 rfl (lv_at hl 0 rfl) ?_
  refine va_get (D := (dC, dI)) (ci := 11) (v := .ref bh) (C := RX11) (T := TX11) (N := 35) hx hb hg inG11 hown hK.1 hP 0 rfl rfl 29 (by decide) (hg _ wt_907) (fun _ h9 => h9) rfl dX11_paths_5 ?_
  refine lv_aload_n hx hb dX11_paths_8 rfl (lv_at hl 0 rfl) ?_
  have hPc := hP.sub (ws' := [(h0, .inr (11, [.ref st, .int (nI N), .int (nI B), .ref rp, .int vrs, .int vrb, .int vhs, .int vca, .int vxs, .int vxb, .ref tp, .int (nI T), .int vfa, .int vbr, .int vba, .int vsp, .int vhe, .int vtk, .int vva, .ref cu, .ref lt, .ref od, .ref th, .ref be, .ref ln, .int (nI S), .ref ma, .int (nI M), .ref ah, .ref bh, .ref ik, .ref la, .ref lg, .ref ce, .int vto])), (st, .inl (G 0, 196, .inl fst))]) [0, 1] rfl
  refine va_calli (va_runV (As := []) (rest := [.ref bh]) ⟨hx, hb, hml, hown, hg⟩ (c_X11_startNow l dC dI G _ h0 st N B rp tp T cu lt od th be ln S ma M ah bh ik la lg ce vrs vrb vhs vca vxs vxb vfa vbr vba vsp vhe vtk vva vto fst hN hB_ hT_ hS0 hM_ hst) (kwV hg mfX11_startNow wt_1044 ⟨Nat.le_of_ble_eq_true rfl, Nat.le_of_ble_eq_true rfl⟩) (preVR hK hPc (ci := 11) rfl rfl) rfl rfl hl.1 rfl (lv_room (Nat.le_of_ble_eq_true rfl)) dX11_paths_9 ⟨Nat.le_of_ble_eq_true rfl, Nat.le_of_ble_eq_true rfl⟩) hS (fun q h1 h2 => absurd h2 (Nat.not_le.mpr h1)) (fun q h => hA q (Nat.le_trans hS.1 h)) (fun r5 ur5 t H1 locs ht hvm w6 hB hz1 hk1 hS => ?_)
  have hP := keepR hP hk1
  obtain ⟨w6, w6x⟩ := w6
  obtain ⟨k7, w6, w6a, w6b⟩ := w6
  subst w6
  have tn1190_ : nIT k7 := fun _ => nI_toInt (by first | omega | (have t_w6a := w6a; have t_w6b := w6b; omega))
  refine va_iald hx hb hK.1 hP 4 0 rfl rfl (vp_in_nI (by first | omega | (have t_w6a := w6a; have t_w6b := w6b; have t_n0 : (nI N).toInt = (N : Int) := tn1185_ (); have t_n1 : (nI B).toInt = (B : Int) := tn1186_ (); have t_n2 : (nI T).toInt = (T : Int) := tn1187_ (); have t_n3 : (nI S).toInt = (S : Int) := tn1188_ (); have t_n4 : (nI M).toInt = (M : Int) := tn1189_ (); have t_n5 : (nI k7).toInt = (k7 : Int) := tn1190_ (); omega)) (by decide)) dX11_paths_12 ?_
  refine lv_cg (y := u4 k7) (by rw [nI_clamp (by omega)]) ?_
  have hpost : True := by
    trivial
  have hP9 := hP.sub (ws' := [(h0, .inr (11, [.ref st, .int (nI N), .int (nI B), .ref rp, .int vrs, .int vrb, .int vhs, .int vca, .int vxs, .int vxb, .ref tp, .int (nI T), .int vfa, .int vbr, .int vba, .int vsp, .int vhe, .int vtk, .int vva, .ref cu, .ref lt, .ref od, .ref th, .ref be, .ref ln, .int (nI S), .ref ma, .int (nI M), .ref ah, .ref bh, .ref ik, .ref la, .ref lg, .ref ce, .int vto])), (st, .inl (G 0, 196, .inl fst)), (ma, .inl (G 0, 12, .inl fma)), (ah, .inl (G 0, 110, .inl u3)), (bh, .inl (G 0, 110, .inl u4))]) [0, 1, 2, 3, 4] rfl
  have hD9 := hD.sub (ws' := [(h0, .inr (11, [.ref st, .int (nI N), .int (nI B), .ref rp, .int vrs, .int vrb, .int vhs, .int vca, .int vxs, .int vxb, .ref tp, .int (nI T), .int vfa, .int vbr, .int vba, .int vsp, .int vhe, .int vtk, .int vva, .ref cu, .ref lt, .ref od, .ref th, .ref be, .ref ln, .int (nI S), .ref ma, .int (nI M), .ref ah, .ref bh, .ref ik, .ref la, .ref lg, .ref ce, .int vto])), (st, .inl (G 0, 196, .inl fst)), (ma, .inl (G 0, 12, .inl fma)), (ah, .inl (G 0, 110, .inl u3)), (bh, .inl (G 0, 110, .inl u4))]) [0, 1, 2, 3, 4] (by decide) rfl
  refine W.widen (k := 0) (n := 0) (Nat.le_of_ble_eq_true rfl) (Nat.le_of_ble_eq_true rfl) ?_
  exact W.iret (v := u4 k7) hx hb hr (fun t ht hW => ⟨⟨u4 k7, (u3, u4), rfl, ⟨hpost, trivial⟩, ⟨by rw [ht]; exact hP9, hD9⟩⟩, hS.F ht⟩) hS.2.2 dX11_paths_13

set_option maxHeartbeats 1000000 in
set_option maxRecDepth 100000 in
theorem c_X11_eye (l : Launch) (dC : Nat → ClassId) (dI : Nat → Nat → Nat) (G : Nat → ClassId) (sz : Nat) (h0 st N B rp tp T cu lt od th be ln S ma M ah bh ik la lg ce : Nat) (d vrs vrb vhs vca vxs vxb vfa vbr vba vsp vhe vtk vva vto : Int32) (fst : Nat → Int32) (fma : Nat → Int32) (fah : Nat → Int32) (fbh : Nat → Int32) (hN : N ≤ 10) (hB : B ≤ 6) (hT : T ≤ 320) (hS0 : S ≤ 8) (hM : M ≤ 6) (hst : OKS fst) : Met l yX11_eye (Cond.code yX11_eye cX11_eye 4 (some .int) :: GT) ({ frames := 6, cells := 0, slots := 0, locals := 146 } : Room) (PcW [.ref h0, .int d] dC dI G [(h0, .inr (11, [.ref st, .int (nI N), .int (nI B), .ref rp, .int vrs, .int vrb, .int vhs, .int vca, .int vxs, .int vxb, .ref tp, .int (nI T), .int vfa, .int vbr, .int vba, .int vsp, .int vhe, .int vtk, .int vva, .ref cu, .ref lt, .ref od, .ref th, .ref be, .ref ln, .int (nI S), .ref ma, .int (nI M), .ref ah, .ref bh, .ref ik, .ref la, .ref lg, .ref ce, .int vto])), (st, .inl (G 0, 196, .inl fst)), (ma, .inl (G 0, 12, .inl fma)), (ah, .inl (G 0, 110, .inl fah)), (bh, .inl (G 0, 110, .inl fbh))] sz) (va_Qi (fun (r : Int32) (u : (Nat → Int32) × (Nat → Int32)) => match u with | (oah, obh) => (True) ∧ True) (fun (u : (Nat → Int32) × (Nat → Int32)) (t : State) => match u with | (oah, obh) => va_P (dC, dI) vwCl [(h0, .inr (11, [.ref st, .int (nI N), .int (nI B), .ref rp, .int vrs, .int vrb, .int vhs, .int vca, .int vxs, .int vxb, .ref tp, .int (nI T), .int vfa, .int vbr, .int vba, .int vsp, .int vhe, .int vtk, .int vva, .ref cu, .ref lt, .ref od, .ref th, .ref be, .ref ln, .int (nI S), .ref ma, .int (nI M), .ref ah, .ref bh, .ref ik, .ref la, .ref lg, .ref ce, .int vto])), (st, .inl (G 0, 196, .inl fst)), (ma, .inl (G 0, 12, .inl fma)), (ah, .inl (G 0, 110, .inl oah)), (bh, .inl (G 0, 110, .inl obh))] t.heap ∧ va_D (va_A [(h0, .inr (11, [.ref st, .int (nI N), .int (nI B), .ref rp, .int vrs, .int vrb, .int vhs, .int vca, .int vxs, .int vxb, .ref tp, .int (nI T), .int vfa, .int vbr, .int vba, .int vsp, .int vhe, .int vtk, .int vva, .ref cu, .ref lt, .ref od, .ref th, .ref be, .ref ln, .int (nI S), .ref ma, .int (nI M), .ref ah, .ref bh, .ref ik, .ref la, .ref lg, .ref ce, .int vto])), (st, .inl (G 0, 196, .inl fst)), (ma, .inl (G 0, 12, .inl fma)), (ah, .inl (G 0, 110, .inl fah)), (bh, .inl (G 0, 110, .inl fbh))] sz) [(h0, .inr (11, [.ref st, .int (nI N), .int (nI B), .ref rp, .int vrs, .int vrb, .int vhs, .int vca, .int vxs, .int vxb, .ref tp, .int (nI T), .int vfa, .int vbr, .int vba, .int vsp, .int vhe, .int vtk, .int vva, .ref cu, .ref lt, .ref od, .ref th, .ref be, .ref ln, .int (nI S), .ref ma, .int (nI M), .ref ah, .ref bh, .ref ik, .ref la, .ref lg, .ref ce, .int vto])), (st, .inl (G 0, 196, .inl fst)), (ma, .inl (G 0, 12, .inl fma)), (ah, .inl (G 0, 110, .inl oah)), (bh, .inl (G 0, 110, .inl obh))]) (va_A [(h0, .inr (11, [.ref st, .int (nI N), .int (nI B), .ref rp, .int vrs, .int vrb, .int vhs, .int vca, .int vxs, .int vxb, .ref tp, .int (nI T), .int vfa, .int vbr, .int vba, .int vsp, .int vhe, .int vtk, .int vva, .ref cu, .ref lt, .ref od, .ref th, .ref be, .ref ln, .int (nI S), .ref ma, .int (nI M), .ref ah, .ref bh, .ref ik, .ref la, .ref lg, .ref ce, .int vto])), (st, .inl (G 0, 196, .inl fst)), (ma, .inl (G 0, 12, .inl fma)), (ah, .inl (G 0, 110, .inl fah)), (bh, .inl (G 0, 110, .inl fbh))] sz)) 0 0 (va_A [(h0, .inr (11, [.ref st, .int (nI N), .int (nI B), .ref rp, .int vrs, .int vrb, .int vhs, .int vca, .int vxs, .int vxb, .ref tp, .int (nI T), .int vfa, .int vbr, .int vba, .int vsp, .int vhe, .int vtk, .int vva, .ref cu, .ref lt, .ref od, .ref th, .ref be, .ref ln, .int (nI S), .ref ma, .int (nI M), .ref ah, .ref bh, .ref ik, .ref la, .ref lg, .ref ce, .int vto])), (st, .inl (G 0, 196, .inl fst)), (ma, .inl (G 0, 12, .inl fma)), (ah, .inl (G 0, 110, .inl fah)), (bh, .inl (G 0, 110, .inl fbh))] sz) := by
  have hB_ := hB
  have hM_ := hM
  have hT_ := hT
  refine Met.ofW (cc := cX11_eye) (maxL := 4) (ret := (some .int)) (by decide) rfl ?_
  intro p e s m args below meth c s₁ Bd hml hv
  obtain ⟨rfl, hsz, hP, hK, hD0⟩ := hv
  have hx := Bd.exec
  have hb := Bd.bytes
  have hr := Bd.returns
  have hg : ∀ w ∈ GT, w.before ([.ref h0, .int d] : List Value).toArray s = true := fun w h => atoms_spec (ws := Cond.code yX11_eye cX11_eye 4 (some .int) :: GT) Bd.pre w (List.mem_cons_of_mem _ h)
  have hown : s.vm.findClass RX11 = some m.cls := findClass_of_methodNamed Bd.named
  have hlocks := Bd.notSynchronized
  subst hsz
  have hD := hD0.self (sz := s.heap.size)
  generalize hAe : va_A [(h0, .inr (11, [.ref st, .int (nI N), .int (nI B), .ref rp, .int vrs, .int vrb, .int vhs, .int vca, .int vxs, .int vxb, .ref tp, .int (nI T), .int vfa, .int vbr, .int vba, .int vsp, .int vhe, .int vtk, .int vva, .ref cu, .ref lt, .ref od, .ref th, .ref be, .ref ln, .int (nI S), .ref ma, .int (nI M), .ref ah, .ref bh, .ref ik, .ref la, .ref lg, .ref ce, .int vto])), (st, .inl (G 0, 196, .inl fst)), (ma, .inl (G 0, 12, .inl fma)), (ah, .inl (G 0, 110, .inl fah)), (bh, .inl (G 0, 110, .inl fbh))] s.heap.size = A at hD ⊢
  have hA : ∀ q : Nat, s.heap.size ≤ q → A q := fun q h => by rw [← hAe]; exact Or.inr h
  have hS : va_S A s.heap s.heap [] := va_S.rf
  have hl := lv_entry ([.ref h0, .int d]) (n := 4) (Nat.le_of_ble_eq_true rfl)
  rw [lg_entry_eq]
  generalize (lg_sl ([.ref h0, .int d]) ++ List.replicate (4 - (lg_sl ([.ref h0, .int d])).length) Slot.unset).toArray = ls at hl ⊢
  have hl : lv_has ls 4 [(0, .ref h0), (1, .int d)] := hl
  refine lv_iload_n hx hb dX11_eye_0 rfl (lv_at hl 1 rfl) ?_
  refine lv_i2l (v := d.toInt64) hx hb dX11_eye_1 rfl ?_
  refine lv_lconst (v := 0) hx hb dX11_eye_2 (by decide) ?_
  refine lv_ldc2 (v := 9) hx hb hown (hg _ wt_1069) dX11_eye_3 ?_
  have hPc := hP.sub (ws' := []) [] rfl
  refine va_calli (va_runS (As := [.long d.toInt64, .long 0, .long 9]) (rest := []) ⟨hx, hb, hml, hown, hg⟩ (c_X11_in l dC dI G _ d.toInt64 0 9) (kwS hg mfX11_in wt_992 ⟨Nat.le_of_ble_eq_true rfl, Nat.le_of_ble_eq_true rfl⟩) (preSR hK hPc) rfl rfl hl.1 rfl (lv_room (Nat.le_of_ble_eq_true rfl)) dX11_eye_6 ⟨Nat.le_of_ble_eq_true rfl, Nat.le_of_ble_eq_true rfl⟩) hS (fun q h1 h2 => absurd h2 (Nat.not_le.mpr h1)) (fun q h => hA q (Nat.le_trans hS.1 h)) (fun r1 ur1 t H1 locs ht hvm w2 hB hz1 hk1 hS => ?_)
  have hP := keepR hP hk1
  obtain ⟨w2, w2x⟩ := w2
  try simp only [l_ii, show (0 : Int64).toInt = 0 from by decide, show (9 : Int64).toInt = 9 from by decide] at w2
  subst w2
  refine lv_if_ne (tgt := 14) hx hb dX11_eye_9 (by decide) (fun c3 => ?_) (fun c3 => ?_)
  · skip
    have b4 := if10_p c3
    obtain ⟨dd, hdd, rfl⟩ : ∃ j : Nat, j < 10 ∧ d = nI j := by
      have t_b4 := b4
      have tn1191_ : nIT N := fun _ => nI_toInt (by omega)
      have t_n0 : (nI N).toInt = (N : Int) := tn1191_ ()
      have tn1192_ : nIT B := fun _ => nI_toInt (by omega)
      have t_n1 : (nI B).toInt = (B : Int) := tn1192_ ()
      have tn1193_ : nIT T := fun _ => nI_toInt (by omega)
      have t_n2 : (nI T).toInt = (T : Int) := tn1193_ ()
      have tn1194_ : nIT S := fun _ => nI_toInt (by omega)
      have t_n3 : (nI S).toInt = (S : Int) := tn1194_ ()
      have tn1195_ : nIT M := fun _ => nI_toInt (by omega)
      have t_n4 : (nI M).toInt = (M : Int) := tn1195_ ()
      exact i32_nat (by omega) (by omega)
    refine lv_aload_n hx hb dX11_eye_14 rfl (lv_at hl 0 rfl) ?_
    have hPc := hP.sub (ws' := [(h0, .inr (11, [.ref st, .int (nI N), .int (nI B), .ref rp, .int vrs, .int vrb, .int vhs, .int vca, .int vxs, .int vxb, .ref tp, .int (nI T), .int vfa, .int vbr, .int vba, .int vsp, .int vhe, .int vtk, .int vva, .ref cu, .ref lt, .ref od, .ref th, .ref be, .ref ln, .int (nI S), .ref ma, .int (nI M), .ref ah, .ref bh, .ref ik, .ref la, .ref lg, .ref ce, .int vto])), (st, .inl (G 0, 196, .inl fst)), (ma, .inl (G 0, 12, .inl fma)), (ah, .inl (G 0, 110, .inl fah)), (bh, .inl (G 0, 110, .inl fbh))]) [0, 1, 2, 3, 4] rfl
    have hDc := hD.sub (ws' := [(h0, .inr (11, [.ref st, .int (nI N), .int (nI B), .ref rp, .int vrs, .int vrb, .int vhs, .int vca, .int vxs, .int vxb, .ref tp, .int (nI T), .int vfa, .int vbr, .int vba, .int vsp, .int vhe, .int vtk, .int vva, .ref cu, .ref lt, .ref od, .ref th, .ref be, .ref ln, .int (nI S), .ref ma, .int (nI M), .ref ah, .ref bh, .ref ik, .ref la, .ref lg, .ref ce, .int vto])), (st, .inl (G 0, 196, .inl fst)), (ma, .inl (G 0, 12, .inl fma)), (ah, .inl (G 0, 110, .inl fah)), (bh, .inl (G 0, 110, .inl fbh))]) [0, 1, 2, 3, 4] (by decide) rfl
    have hFc := va_free (wc := [(h0, .inr (11, [.ref st, .int (nI N), .int (nI B), .ref rp, .int vrs, .int vrb, .int vhs, .int vca, .int vxs, .int vxb, .ref tp, .int (nI T), .int vfa, .int vbr, .int vba, .int vsp, .int vhe, .int vtk, .int vva, .ref cu, .ref lt, .ref od, .ref th, .ref be, .ref ln, .int (nI S), .ref ma, .int (nI M), .ref ah, .ref bh, .ref ik, .ref la, .ref lg, .ref ce, .int vto])), (st, .inl (G 0, 196, .inl fst)), (ma, .inl (G 0, 12, .inl fma)), (ah, .inl (G 0, 110, .inl fah)), (bh, .inl (G 0, 110, .inl fbh))]) hD hS hA [0, 1, 2, 3, 4] rfl
    have tn1196_ : nIT N := fun _ => nI_toInt (by first | omega | (have t_b4 := b4; have t_hdd := hdd; omega))
    have tn1197_ : nIT B := fun _ => nI_toInt (by first | omega | (have t_b4 := b4; have t_hdd := hdd; omega))
    have tn1198_ : nIT T := fun _ => nI_toInt (by first | omega | (have t_b4 := b4; have t_hdd := hdd; omega))
    have tn1199_ : nIT S := fun _ => nI_toInt (by first | omega | (have t_b4 := b4; have t_hdd := hdd; omega))
    have tn1200_ : nIT M := fun _ => nI_toInt (by first | omega | (have t_b4 := b4; have t_hdd := hdd; omega))
    have tn1201_ : nIT dd := fun _ => nI_toInt (by first | omega | (have t_b4 := b4; have t_hdd := hdd; omega))
    refine va_callv (va_runV (As := []) (rest := []) ⟨hx, hb, hml, hown, hg⟩ (c_X11_layPaths l dC dI G _ h0 st N B rp tp T cu lt od th be ln S ma M ah bh ik la lg ce vrs vrb vhs vca vxs vxb vfa vbr vba vsp vhe vtk vva vto fst fma fah fbh hN hB_ hT_ hS0 hM_ hst) (kwV hg mfX11_layPaths wt_1220 ⟨Nat.le_of_ble_eq_true rfl, Nat.le_of_ble_eq_true rfl⟩) (preVW hK hPc hDc (ci := 11) rfl rfl) rfl rfl hl.1 rfl (lv_room (Nat.le_of_ble_eq_true rfl)) dX11_eye_15 ⟨Nat.le_of_ble_eq_true rfl, Nat.le_of_ble_eq_true rfl⟩) hS (fun q _ h => hFc q h) hFc (fun ur5 t H1 locs ht hvm w6 hB hz1 hk1 hS => ?_)
    obtain ⟨u7, u8⟩ := ur5
    obtain ⟨hP1, hD1⟩ := hB
    rw [ht] at hP1
    obtain ⟨hP, hD⟩ := va_join (wr := []) (w1 := [(h0, .inr (11, [.ref st, .int (nI N), .int (nI B), .ref rp, .int vrs, .int vrb, .int vhs, .int vca, .int vxs, .int vxb, .ref tp, .int (nI T), .int vfa, .int vbr, .int vba, .int vsp, .int vhe, .int vtk, .int vva, .ref cu, .ref lt, .ref od, .ref th, .ref be, .ref ln, .int (nI S), .ref ma, .int (nI M), .ref ah, .ref bh, .ref ik, .ref la, .ref lg, .ref ce, .int vto])), (st, .inl (G 0, 196, .inl fst)), (ma, .inl (G 0, 12, .inl fma)), (ah, .inl (G 0, 110, .inl u7)), (bh, .inl (G 0, 110, .inl u8))]) hP hD [0, 1, 2, 3, 4] [] rfl rfl (by decide) (by decide) hk1 hFc hP1 hD1
    generalize H1 = H at hP hS ⊢
    have hP : va_P (dC, dI) vwCl [(h0, .inr (11, [.ref st, .int (nI N), .int (nI B), .ref rp, .int vrs, .int vrb, .int vhs, .int vca, .int vxs, .int vxb, .ref tp, .int (nI T), .int vfa, .int vbr, .int vba, .int vsp, .int vhe, .int vtk, .int vva, .ref cu, .ref lt, .ref od, .ref th, .ref be, .ref ln, .int (nI S), .ref ma, .int (nI M), .ref ah, .ref bh, .ref ik, .ref la, .ref lg, .ref ce, .int vto])), (st, .inl (G 0, 196, .inl fst)), (ma, .inl (G 0, 12, .inl fma)), (ah, .inl (G 0, 110, .inl u7)), (bh, .inl (G 0, 110, .inl u8))] H := hP
    have hD : va_D A [(h0, .inr (11, [.ref st, .int (nI N), .int (nI B), .ref rp, .int vrs, .int vrb, .int vhs, .int vca, .int vxs, .int vxb, .ref tp, .int (nI T), .int vfa, .int vbr, .int vba, .int vsp, .int vhe, .int vtk, .int vva, .ref cu, .ref lt, .ref od, .ref th, .ref be, .ref ln, .int (nI S), .ref ma, .int (nI M), .ref ah, .ref bh, .ref ik, .ref la, .ref lg, .ref ce, .int vto])), (st, .inl (G 0, 196, .inl fst)), (ma, .inl (G 0, 12, .inl fma)), (ah, .inl (G 0, 110, .inl u7)), (bh, .inl (G 0, 110, .inl u8))] := hD
    refine lv_iconst (v := 0) hx hb dX11_eye_18 (by decide) ?_
    refine lv_istore_n (lv' := [(2, .int 0), (0, .ref h0), (1, .int (nI dd))]) hx hb dX11_eye_19 rfl hl (by decide) rfl (fun ls hl => ?_)
    refine lv_iconst (v := 0) hx hb dX11_eye_20 (by decide) ?_
    refine lv_istore_n (lv' := [(3, .int 0), (2, .int 0), (0, .ref h0), (1, .int (nI dd))]) hx hb dX11_eye_21 rfl hl (by decide) rfl (fun ls hl => ?_)
    have loop22_11 : ∀ (nf j9 : Nat), N + 1 ≤ j9 + nf → j9 ≤ N → ∀ (y10 : Int32) (H : Heap) (locs : List Loc), va_P (dC, dI) vwCl [(h0, .inr (11, [.ref st, .int (nI N), .int (nI B), .ref rp, .int vrs, .int vrb, .int vhs, .int vca, .int vxs, .int vxb, .ref tp, .int (nI T), .int vfa, .int vbr, .int vba, .int vsp, .int vhe, .int vtk, .int vva, .ref cu, .ref lt, .ref od, .ref th, .ref be, .ref ln, .int (nI S), .ref ma, .int (nI M), .ref ah, .ref bh, .ref ik, .ref la, .ref lg, .ref ce, .int vto])), (st, .inl (G 0, 196, .inl fst)), (ma, .inl (G 0, 12, .inl fma)), (ah, .inl (G 0, 110, .inl u7)), (bh, .inl (G 0, 110, .inl u8))] H → va_D A [(h0, .inr (11, [.ref st, .int (nI N), .int (nI B), .ref rp, .int vrs, .int vrb, .int vhs, .int vca, .int vxs, .int vxb, .ref tp, .int (nI T), .int vfa, .int vbr, .int vba, .int vsp, .int vhe, .int vtk, .int vva, .ref cu, .ref lt, .ref od, .ref th, .ref be, .ref ln, .int (nI S), .ref ma, .int (nI M), .ref ah, .ref bh, .ref ik, .ref la, .ref lg, .ref ce, .int vto])), (st, .inl (G 0, 196, .inl fst)), (ma, .inl (G 0, 12, .inl fma)), (ah, .inl (G 0, 110, .inl u7)), (bh, .inl (G 0, 110, .inl u8))] → va_S A s.heap H locs → ∀ (ls : Array Slot), lv_has ls 4 [(3, .int (nI j9)), (2, .int y10), (0, .ref h0), (1, .int (nI dd))] → W p l e (headSpec (Cond.code yX11_eye cX11_eye 4 (some .int) :: GT) ({ frames := 6, cells := 0, slots := 0, locals := 146 } : Room)).room s m ([.ref h0, .int (nI dd)] : List Value).toArray below meth c H locs 0 0 (MQ below (va_Qi (fun (r : Int32) (u : (Nat → Int32) × (Nat → Int32)) => match u with | (oah, obh) => (True) ∧ True) (fun (u : (Nat → Int32) × (Nat → Int32)) (t : State) => match u with | (oah, obh) => va_P (dC, dI) vwCl [(h0, .inr (11, [.ref st, .int (nI N), .int (nI B), .ref rp, .int vrs, .int vrb, .int vhs, .int vca, .int vxs, .int vxb, .ref tp, .int (nI T), .int vfa, .int vbr, .int vba, .int vsp, .int vhe, .int vtk, .int vva, .ref cu, .ref lt, .ref od, .ref th, .ref be, .ref ln, .int (nI S), .ref ma, .int (nI M), .ref ah, .ref bh, .ref ik, .ref la, .ref lg, .ref ce, .int vto])), (st, .inl (G 0, 196, .inl fst)), (ma, .inl (G 0, 12, .inl fma)), (ah, .inl (G 0, 110, .inl oah)), (bh, .inl (G 0, 110, .inl obh))] t.heap ∧ va_D A [(h0, .inr (11, [.ref st, .int (nI N), .int (nI B), .ref rp, .int vrs, .int vrb, .int vhs, .int vca, .int vxs, .int vxb, .ref tp, .int (nI T), .int vfa, .int vbr, .int vba, .int vsp, .int vhe, .int vtk, .int vva, .ref cu, .ref lt, .ref od, .ref th, .ref be, .ref ln, .int (nI S), .ref ma, .int (nI M), .ref ah, .ref bh, .ref ik, .ref la, .ref lg, .ref ce, .int vto])), (st, .inl (G 0, 196, .inl fst)), (ma, .inl (G 0, 12, .inl fma)), (ah, .inl (G 0, 110, .inl oah)), (bh, .inl (G 0, 110, .inl obh))]) A) ([.ref h0, .int (nI dd)] : List Value).toArray s 0 0 A) (F0 m 22 ls []) := by
      intro nf
      induction nf with
      | zero => intro j9 h1 h2; exact absurd h1 (by omega)
      | succ nf ih22_11 =>
        intro j9 hn12 hj13 y10 H locs hP hD hS ls hl
        refine lv_iload_n hx hb dX11_eye_22 rfl (lv_at hl 0 rfl) ?_
        refine lv_aload_n hx hb dX11_eye_23 rfl (lv_at hl 2 rfl) ?_
        refine va_get (D := (dC, dI)) (ci := 11) (v := .int (nI N)) (C := RX11) (T := TX11) (N := 35) hx hb hg inG11 hown hK.1 hP 0 rfl rfl 1 (by decide) (hg _ wt_879) (fun _ h9 => h9) rfl dX11_eye_24 ?_
        refine lv_icmp_ge (tgt := 80) hx hb dX11_eye_27 (by decide) (fun c14 => ?_) (fun c14 => ?_)
        · skip
          have tn1202_ : nIT j9 := fun _ => nI_toInt (by first | omega | (have t := leI c14; omega))
          have n15 : N ≤ j9 := by have t := leI c14; rw [show (nI (j9)).toInt = ((j9 : Nat) : Int) from tn1202_ ()] at t; rw [show (nI (N)).toInt = ((N : Nat) : Int) from tn1196_ ()] at t; omega
          refine lv_iload_n hx hb dX11_eye_80 rfl (lv_at hl 1 rfl) ?_
          have hpost : True := by
            trivial
          have hP9 := hP.sub (ws' := [(h0, .inr (11, [.ref st, .int (nI N), .int (nI B), .ref rp, .int vrs, .int vrb, .int vhs, .int vca, .int vxs, .int vxb, .ref tp, .int (nI T), .int vfa, .int vbr, .int vba, .int vsp, .int vhe, .int vtk, .int vva, .ref cu, .ref lt, .ref od, .ref th, .ref be, .ref ln, .int (nI S), .ref ma, .int (nI M), .ref ah, .ref bh, .ref ik, .ref la, .ref lg, .ref ce, .int vto])), (st, .inl (G 0, 196, .inl fst)), (ma, .inl (G 0, 12, .inl fma)), (ah, .inl (G 0, 110, .inl u7)), (bh, .inl (G 0, 110, .inl u8))]) [0, 1, 2, 3, 4] rfl
          have hD9 := hD.sub (ws' := [(h0, .inr (11, [.ref st, .int (nI N), .int (nI B), .ref rp, .int vrs, .int vrb, .int vhs, .int vca, .int vxs, .int vxb, .ref tp, .int (nI T), .int vfa, .int vbr, .int vba, .int vsp, .int vhe, .int vtk, .int vva, .ref cu, .ref lt, .ref od, .ref th, .ref be, .ref ln, .int (nI S), .ref ma, .int (nI M), .ref ah, .ref bh, .ref ik, .ref la, .ref lg, .ref ce, .int vto])), (st, .inl (G 0, 196, .inl fst)), (ma, .inl (G 0, 12, .inl fma)), (ah, .inl (G 0, 110, .inl u7)), (bh, .inl (G 0, 110, .inl u8))]) [0, 1, 2, 3, 4] (by decide) rfl
          refine W.widen (k := 0) (n := 0) (Nat.le_of_ble_eq_true rfl) (Nat.le_of_ble_eq_true rfl) ?_
          exact W.iret (v := y10) hx hb hr (fun t ht hW => ⟨⟨y10, (u7, u8), rfl, ⟨hpost, trivial⟩, ⟨by rw [ht]; exact hP9, hD9⟩⟩, hS.F ht⟩) hS.2.2 dX11_eye_81
        · skip
          have tn1203_ : nIT j9 := fun _ => nI_toInt (by first | omega | (have t := nleI c14; omega))
          have n16 : j9 < N := by have t := nleI c14; rw [show (nI (j9)).toInt = ((j9 : Nat) : Int) from tn1203_ ()] at t; rw [show (nI (N)).toInt = ((N : Nat) : Int) from tn1196_ ()] at t; omega
          refine lv_iload_n hx hb dX11_eye_30 rfl (lv_at hl 1 rfl) ?_
          refine lv_aload_n hx hb dX11_eye_31 rfl (lv_at hl 2 rfl) ?_
          refine va_get (D := (dC, dI)) (ci := 11) (v := .ref ah) (C := RX11) (T := TX11) (N := 35) hx hb hg inG11 hown hK.1 hP 0 rfl rfl 28 (by decide) (hg _ wt_906) (fun _ h9 => h9) rfl dX11_eye_32 ?_
          refine lv_bipush (v := 10) hx hb dX11_eye_35 (by decide) ?_
          refine lv_iload_n hx hb dX11_eye_37 rfl (lv_at hl 0 rfl) ?_
          refine lv_imul hx hb dX11_eye_38 ?_
          refine lv_cg (y := nI (10 * j9)) (by rw [show (10 : Int32) = nI 10 from rfl]; exact pk_mul _ _) ?_
          refine lv_bipush (v := 10) hx hb dX11_eye_39 (by decide) ?_
          refine lv_iadd hx hb dX11_eye_41 ?_
          refine lv_cg (y := nI ((10 * j9) + 10)) (by rw [show (10 : Int32) = nI 10 from rfl]; exact nI_add _ _) ?_
          refine lv_iload_n hx hb dX11_eye_42 rfl (lv_at hl 3 rfl) ?_
          refine lv_iadd hx hb dX11_eye_43 ?_
          refine lv_cg (y := nI (((10 * j9) + 10) + dd)) (by exact nI_add _ _) ?_
          refine va_iald hx hb hK.1 hP 3 0 rfl rfl (vp_in_nI (by first | omega | (have t_b4 := b4; have t_hdd := hdd; have t_hj13 := hj13; have t_n16 := n16; have t_n0 : (nI N).toInt = (N : Int) := tn1196_ (); have t_n1 : (nI B).toInt = (B : Int) := tn1197_ (); have t_n2 : (nI T).toInt = (T : Int) := tn1198_ (); have t_n3 : (nI S).toInt = (S : Int) := tn1199_ (); have t_n4 : (nI M).toInt = (M : Int) := tn1200_ (); have t_n5 : (nI dd).toInt = (dd : Int) := tn1201_ (); have t_n6 : (nI j9).toInt = (j9 : Int) := tn1203_ (); omega)) (by decide)) dX11_eye_44 ?_
          refine lv_cg (y := u7 (((10 * j9) + 10) + dd)) (by rw [nI_clamp (by omega)]) ?_
          have cut72_18 : ∀ (y17 : Int32) (H : Heap) (locs : List Loc), va_P (dC, dI) vwCl [(h0, .inr (11, [.ref st, .int (nI N), .int (nI B), .ref rp, .int vrs, .int vrb, .int vhs, .int vca, .int vxs, .int vxb, .ref tp, .int (nI T), .int vfa, .int vbr, .int vba, .int vsp, .int vhe, .int vtk, .int vva, .ref cu, .ref lt, .ref od, .ref th, .ref be, .ref ln, .int (nI S), .ref ma, .int (nI M), .ref ah, .ref bh, .ref ik, .ref la, .ref lg, .ref ce, .int vto])), (st, .inl (G 0, 196, .inl fst)), (ma, .inl (G 0, 12, .inl fma)), (ah, .inl (G 0, 110, .inl u7)), (bh, .inl (G 0, 110, .inl u8))] H → va_D A [(h0, .inr (11, [.ref st, .int (nI N), .int (nI B), .ref rp, .int vrs, .int vrb, .int vhs, .int vca, .int vxs, .int vxb, .ref tp, .int (nI T), .int vfa, .int vbr, .int vba, .int vsp, .int vhe, .int vtk, .int vva, .ref cu, .ref lt, .ref od, .ref th, .ref be, .ref ln, .int (nI S), .ref ma, .int (nI M), .ref ah, .ref bh, .ref ik, .ref la, .ref lg, .ref ce, .int vto])), (st, .inl (G 0, 196, .inl fst)), (ma, .inl (G 0, 12, .inl fma)), (ah, .inl (G 0, 110, .inl u7)), (bh, .inl (G 0, 110, .inl u8))] → va_S A s.heap H locs → ∀ (ls : Array Slot), lv_has ls 4 [(3, .int (nI j9)), (2, .int y10), (0, .ref h0), (1, .int (nI dd))] → W p l e (headSpec (Cond.code yX11_eye cX11_eye 4 (some .int) :: GT) ({ frames := 6, cells := 0, slots := 0, locals := 146 } : Room)).room s m ([.ref h0, .int (nI dd)] : List Value).toArray below meth c H locs 0 0 (MQ below (va_Qi (fun (r : Int32) (u : (Nat → Int32) × (Nat → Int32)) => match u with | (oah, obh) => (True) ∧ True) (fun (u : (Nat → Int32) × (Nat → Int32)) (t : State) => match u with | (oah, obh) => va_P (dC, dI) vwCl [(h0, .inr (11, [.ref st, .int (nI N), .int (nI B), .ref rp, .int vrs, .int vrb, .int vhs, .int vca, .int vxs, .int vxb, .ref tp, .int (nI T), .int vfa, .int vbr, .int vba, .int vsp, .int vhe, .int vtk, .int vva, .ref cu, .ref lt, .ref od, .ref th, .ref be, .ref ln, .int (nI S), .ref ma, .int (nI M), .ref ah, .ref bh, .ref ik, .ref la, .ref lg, .ref ce, .int vto])), (st, .inl (G 0, 196, .inl fst)), (ma, .inl (G 0, 12, .inl fma)), (ah, .inl (G 0, 110, .inl oah)), (bh, .inl (G 0, 110, .inl obh))] t.heap ∧ va_D A [(h0, .inr (11, [.ref st, .int (nI N), .int (nI B), .ref rp, .int vrs, .int vrb, .int vhs, .int vca, .int vxs, .int vxb, .ref tp, .int (nI T), .int vfa, .int vbr, .int vba, .int vsp, .int vhe, .int vtk, .int vva, .ref cu, .ref lt, .ref od, .ref th, .ref be, .ref ln, .int (nI S), .ref ma, .int (nI M), .ref ah, .ref bh, .ref ik, .ref la, .ref lg, .ref ce, .int vto])), (st, .inl (G 0, 196, .inl fst)), (ma, .inl (G 0, 12, .inl fma)), (ah, .inl (G 0, 110, .inl oah)), (bh, .inl (G 0, 110, .inl obh))]) A) ([.ref h0, .int (nI dd)] : List Value).toArray s 0 0 A) (F0 m 72 ls [.int y17, .int y10]) := by
            intro y17 H locs hP hD hS ls hl
            refine lv_ior hx hb dX11_eye_72 ?_
            refine lv_istore_n (lv' := [(2, .int (y10 ||| y17)), (3, .int (nI j9)), (0, .ref h0), (1, .int (nI dd))]) hx hb dX11_eye_73 rfl hl (by decide) rfl (fun ls hl => ?_)
            refine lv_iinc (v := nI (j9 + 1)) (lv' := [(3, .int (nI (j9 + 1))), (2, .int (y10 ||| y17)), (0, .ref h0), (1, .int (nI dd))]) hx hb dX11_eye_74 hl (k := 1) rfl (by rw [show Int32.ofInt 1 = nI 1 from by decide]; exact nI_add _ _) (by decide) rfl (fun ls hl => ?_)
            refine lv_goto (tgt := 22) hx hb dX11_eye_77 (by decide) ?_
            exact ih22_11 (j9 + 1) (by omega) (by omega) (y10 ||| y17) _ _ hP hD hS ls (lv_sub hl [0, 1, 2, 3] rfl)
          have cut71_19 : ∀ (H : Heap) (locs : List Loc), va_P (dC, dI) vwCl [(h0, .inr (11, [.ref st, .int (nI N), .int (nI B), .ref rp, .int vrs, .int vrb, .int vhs, .int vca, .int vxs, .int vxb, .ref tp, .int (nI T), .int vfa, .int vbr, .int vba, .int vsp, .int vhe, .int vtk, .int vva, .ref cu, .ref lt, .ref od, .ref th, .ref be, .ref ln, .int (nI S), .ref ma, .int (nI M), .ref ah, .ref bh, .ref ik, .ref la, .ref lg, .ref ce, .int vto])), (st, .inl (G 0, 196, .inl fst)), (ma, .inl (G 0, 12, .inl fma)), (ah, .inl (G 0, 110, .inl u7)), (bh, .inl (G 0, 110, .inl u8))] H → va_D A [(h0, .inr (11, [.ref st, .int (nI N), .int (nI B), .ref rp, .int vrs, .int vrb, .int vhs, .int vca, .int vxs, .int vxb, .ref tp, .int (nI T), .int vfa, .int vbr, .int vba, .int vsp, .int vhe, .int vtk, .int vva, .ref cu, .ref lt, .ref od, .ref th, .ref be, .ref ln, .int (nI S), .ref ma, .int (nI M), .ref ah, .ref bh, .ref ik, .ref la, .ref lg, .ref ce, .int vto])), (st, .inl (G 0, 196, .inl fst)), (ma, .inl (G 0, 12, .inl fma)), (ah, .inl (G 0, 110, .inl u7)), (bh, .inl (G 0, 110, .inl u8))] → va_S A s.heap H locs → ∀ (ls : Array Slot), lv_has ls 4 [(3, .int (nI j9)), (2, .int y10), (0, .ref h0), (1, .int (nI dd))] → W p l e (headSpec (Cond.code yX11_eye cX11_eye 4 (some .int) :: GT) ({ frames := 6, cells := 0, slots := 0, locals := 146 } : Room)).room s m ([.ref h0, .int (nI dd)] : List Value).toArray below meth c H locs 0 0 (MQ below (va_Qi (fun (r : Int32) (u : (Nat → Int32) × (Nat → Int32)) => match u with | (oah, obh) => (True) ∧ True) (fun (u : (Nat → Int32) × (Nat → Int32)) (t : State) => match u with | (oah, obh) => va_P (dC, dI) vwCl [(h0, .inr (11, [.ref st, .int (nI N), .int (nI B), .ref rp, .int vrs, .int vrb, .int vhs, .int vca, .int vxs, .int vxb, .ref tp, .int (nI T), .int vfa, .int vbr, .int vba, .int vsp, .int vhe, .int vtk, .int vva, .ref cu, .ref lt, .ref od, .ref th, .ref be, .ref ln, .int (nI S), .ref ma, .int (nI M), .ref ah, .ref bh, .ref ik, .ref la, .ref lg, .ref ce, .int vto])), (st, .inl (G 0, 196, .inl fst)), (ma, .inl (G 0, 12, .inl fma)), (ah, .inl (G 0, 110, .inl oah)), (bh, .inl (G 0, 110, .inl obh))] t.heap ∧ va_D A [(h0, .inr (11, [.ref st, .int (nI N), .int (nI B), .ref rp, .int vrs, .int vrb, .int vhs, .int vca, .int vxs, .int vxb, .ref tp, .int (nI T), .int vfa, .int vbr, .int vba, .int vsp, .int vhe, .int vtk, .int vva, .ref cu, .ref lt, .ref od, .ref th, .ref be, .ref ln, .int (nI S), .ref ma, .int (nI M), .ref ah, .ref bh, .ref ik, .ref la, .ref lg, .ref ce, .int vto])), (st, .inl (G 0, 196, .inl fst)), (ma, .inl (G 0, 12, .inl fma)), (ah, .inl (G 0, 110, .inl oah)), (bh, .inl (G 0, 110, .inl obh))]) A) ([.ref h0, .int (nI dd)] : List Value).toArray s 0 0 A) (F0 m 71 ls [.int y10]) := by
            intro  H locs hP hD hS ls hl
            refine lv_iconst (v := 0) hx hb dX11_eye_71 (by decide) ?_
            exact cut72_18 0 _ _ hP hD hS ls (lv_sub hl [0, 1, 2, 3] rfl)
          refine lv_if_le (tgt := 71) hx hb dX11_eye_45 (by decide) (fun c20 => ?_) (fun c20 => ?_)
          · skip
            exact cut71_19  _ _ hP hD hS ls (lv_sub hl [0, 1, 2, 3] rfl)
          · skip
            refine lv_aload_n hx hb dX11_eye_48 rfl (lv_at hl 2 rfl) ?_
            refine va_get (D := (dC, dI)) (ci := 11) (v := .ref bh) (C := RX11) (T := TX11) (N := 35) hx hb hg inG11 hown hK.1 hP 0 rfl rfl 29 (by decide) (hg _ wt_907) (fun _ h9 => h9) rfl dX11_eye_49 ?_
            refine lv_bipush (v := 10) hx hb dX11_eye_52 (by decide) ?_
            refine lv_iload_n hx hb dX11_eye_54 rfl (lv_at hl 0 rfl) ?_
            refine lv_imul hx hb dX11_eye_55 ?_
            refine lv_cg (y := nI (10 * j9)) (by rw [show (10 : Int32) = nI 10 from rfl]; exact pk_mul _ _) ?_
            refine lv_bipush (v := 10) hx hb dX11_eye_56 (by decide) ?_
            refine lv_iadd hx hb dX11_eye_58 ?_
            refine lv_cg (y := nI ((10 * j9) + 10)) (by rw [show (10 : Int32) = nI 10 from rfl]; exact nI_add _ _) ?_
            refine lv_iload_n hx hb dX11_eye_59 rfl (lv_at hl 3 rfl) ?_
            refine lv_iadd hx hb dX11_eye_60 ?_
            refine lv_cg (y := nI (((10 * j9) + 10) + dd)) (by exact nI_add _ _) ?_
            refine va_iald hx hb hK.1 hP 4 0 rfl rfl (vp_in_nI (by first | omega | (have t_b4 := b4; have t_hdd := hdd; have t_hj13 := hj13; have t_n16 := n16; have t_c20 := nleI c20; have : (0 : Int32).toInt = 0 := qI_0; have t_n0 : (nI N).toInt = (N : Int) := tn1196_ (); have t_n1 : (nI B).toInt = (B : Int) := tn1197_ (); have t_n2 : (nI T).toInt = (T : Int) := tn1198_ (); have t_n3 : (nI S).toInt = (S : Int) := tn1199_ (); have t_n4 : (nI M).toInt = (M : Int) := tn1200_ (); have t_n5 : (nI dd).toInt = (dd : Int) := tn1201_ (); have t_n6 : (nI j9).toInt = (j9 : Int) := tn1203_ (); omega)) (by decide)) dX11_eye_61 ?_
            refine lv_cg (y := u8 (((10 * j9) + 10) + dd)) (by rw [nI_clamp (by omega)]) ?_
            refine lv_if_le (tgt := 71) hx hb dX11_eye_62 (by decide) (fun c21 => ?_) (fun c21 => ?_)
            · skip
              exact cut71_19  _ _ hP hD hS ls (lv_sub hl [0, 1, 2, 3] rfl)
            · skip
              refine lv_iconst (v := 1) hx hb dX11_eye_65 (by decide) ?_
              refine lv_iload_n hx hb dX11_eye_66 rfl (lv_at hl 0 rfl) ?_
              refine lv_ishl hx hb dX11_eye_67 ?_
              refine lv_goto (tgt := 72) hx hb dX11_eye_68 (by decide) ?_
              exact cut72_18 (1 <<< ((nI j9) &&& 31)) _ _ hP hD hS ls (lv_sub hl [0, 1, 2, 3] rfl)
    exact loop22_11 (N + 1) 0 (by omega) (by omega) 0 _ _ hP hD hS ls (lv_sub hl [0, 1, 2, 3] rfl)
  · skip
    have b22 := if10_n c3
    refine lv_iconst (v := (-1)) hx hb dX11_eye_12 (by decide) ?_
    have hpost : True := by
      trivial
    have hP9 := hP.sub (ws' := [(h0, .inr (11, [.ref st, .int (nI N), .int (nI B), .ref rp, .int vrs, .int vrb, .int vhs, .int vca, .int vxs, .int vxb, .ref tp, .int (nI T), .int vfa, .int vbr, .int vba, .int vsp, .int vhe, .int vtk, .int vva, .ref cu, .ref lt, .ref od, .ref th, .ref be, .ref ln, .int (nI S), .ref ma, .int (nI M), .ref ah, .ref bh, .ref ik, .ref la, .ref lg, .ref ce, .int vto])), (st, .inl (G 0, 196, .inl fst)), (ma, .inl (G 0, 12, .inl fma)), (ah, .inl (G 0, 110, .inl fah)), (bh, .inl (G 0, 110, .inl fbh))]) [0, 1, 2, 3, 4] rfl
    have hD9 := hD.sub (ws' := [(h0, .inr (11, [.ref st, .int (nI N), .int (nI B), .ref rp, .int vrs, .int vrb, .int vhs, .int vca, .int vxs, .int vxb, .ref tp, .int (nI T), .int vfa, .int vbr, .int vba, .int vsp, .int vhe, .int vtk, .int vva, .ref cu, .ref lt, .ref od, .ref th, .ref be, .ref ln, .int (nI S), .ref ma, .int (nI M), .ref ah, .ref bh, .ref ik, .ref la, .ref lg, .ref ce, .int vto])), (st, .inl (G 0, 196, .inl fst)), (ma, .inl (G 0, 12, .inl fma)), (ah, .inl (G 0, 110, .inl fah)), (bh, .inl (G 0, 110, .inl fbh))]) [0, 1, 2, 3, 4] (by decide) rfl
    refine W.widen (k := 0) (n := 0) (Nat.le_of_ble_eq_true rfl) (Nat.le_of_ble_eq_true rfl) ?_
    exact W.iret (v := (-1)) hx hb hr (fun t ht hW => ⟨⟨(-1), (fah, fbh), rfl, ⟨hpost, trivial⟩, ⟨by rw [ht]; exact hP9, hD9⟩⟩, hS.F ht⟩) hS.2.2 dX11_eye_13

set_option maxHeartbeats 1000000 in
set_option maxRecDepth 100000 in
theorem c_X11_sure (l : Launch) (dC : Nat → ClassId) (dI : Nat → Nat → Nat) (G : Nat → ClassId) (sz : Nat) (h0 st N B rp tp T cu lt od th be ln S ma M ah bh ik la lg ce : Nat) (what vrs vrb vhs vca vxs vxb vfa vbr vba vsp vhe vtk vva vto : Int32) (fst : Nat → Int32) (fma : Nat → Int32) (fah : Nat → Int32) (fbh : Nat → Int32) (hN : N ≤ 10) (hB : B ≤ 6) (hT : T ≤ 320) (hS0 : S ≤ 8) (hM : M ≤ 6) (hst : OKS fst) : Met l yX11_sure (Cond.code yX11_sure cX11_sure 7 (some .int) :: GT) ({ frames := 6, cells := 0, slots := 0, locals := 146 } : Room) (PcW [.ref h0, .int what] dC dI G [(h0, .inr (11, [.ref st, .int (nI N), .int (nI B), .ref rp, .int vrs, .int vrb, .int vhs, .int vca, .int vxs, .int vxb, .ref tp, .int (nI T), .int vfa, .int vbr, .int vba, .int vsp, .int vhe, .int vtk, .int vva, .ref cu, .ref lt, .ref od, .ref th, .ref be, .ref ln, .int (nI S), .ref ma, .int (nI M), .ref ah, .ref bh, .ref ik, .ref la, .ref lg, .ref ce, .int vto])), (st, .inl (G 0, 196, .inl fst)), (ma, .inl (G 0, 12, .inl fma)), (ah, .inl (G 0, 110, .inl fah)), (bh, .inl (G 0, 110, .inl fbh))] sz) (va_Qi (fun (r : Int32) (u : (Nat → Int32) × (Nat → Int32)) => match u with | (oah, obh) => (True) ∧ True) (fun (u : (Nat → Int32) × (Nat → Int32)) (t : State) => match u with | (oah, obh) => va_P (dC, dI) vwCl [(h0, .inr (11, [.ref st, .int (nI N), .int (nI B), .ref rp, .int vrs, .int vrb, .int vhs, .int vca, .int vxs, .int vxb, .ref tp, .int (nI T), .int vfa, .int vbr, .int vba, .int vsp, .int vhe, .int vtk, .int vva, .ref cu, .ref lt, .ref od, .ref th, .ref be, .ref ln, .int (nI S), .ref ma, .int (nI M), .ref ah, .ref bh, .ref ik, .ref la, .ref lg, .ref ce, .int vto])), (st, .inl (G 0, 196, .inl fst)), (ma, .inl (G 0, 12, .inl fma)), (ah, .inl (G 0, 110, .inl oah)), (bh, .inl (G 0, 110, .inl obh))] t.heap ∧ va_D (va_A [(h0, .inr (11, [.ref st, .int (nI N), .int (nI B), .ref rp, .int vrs, .int vrb, .int vhs, .int vca, .int vxs, .int vxb, .ref tp, .int (nI T), .int vfa, .int vbr, .int vba, .int vsp, .int vhe, .int vtk, .int vva, .ref cu, .ref lt, .ref od, .ref th, .ref be, .ref ln, .int (nI S), .ref ma, .int (nI M), .ref ah, .ref bh, .ref ik, .ref la, .ref lg, .ref ce, .int vto])), (st, .inl (G 0, 196, .inl fst)), (ma, .inl (G 0, 12, .inl fma)), (ah, .inl (G 0, 110, .inl fah)), (bh, .inl (G 0, 110, .inl fbh))] sz) [(h0, .inr (11, [.ref st, .int (nI N), .int (nI B), .ref rp, .int vrs, .int vrb, .int vhs, .int vca, .int vxs, .int vxb, .ref tp, .int (nI T), .int vfa, .int vbr, .int vba, .int vsp, .int vhe, .int vtk, .int vva, .ref cu, .ref lt, .ref od, .ref th, .ref be, .ref ln, .int (nI S), .ref ma, .int (nI M), .ref ah, .ref bh, .ref ik, .ref la, .ref lg, .ref ce, .int vto])), (st, .inl (G 0, 196, .inl fst)), (ma, .inl (G 0, 12, .inl fma)), (ah, .inl (G 0, 110, .inl oah)), (bh, .inl (G 0, 110, .inl obh))]) (va_A [(h0, .inr (11, [.ref st, .int (nI N), .int (nI B), .ref rp, .int vrs, .int vrb, .int vhs, .int vca, .int vxs, .int vxb, .ref tp, .int (nI T), .int vfa, .int vbr, .int vba, .int vsp, .int vhe, .int vtk, .int vva, .ref cu, .ref lt, .ref od, .ref th, .ref be, .ref ln, .int (nI S), .ref ma, .int (nI M), .ref ah, .ref bh, .ref ik, .ref la, .ref lg, .ref ce, .int vto])), (st, .inl (G 0, 196, .inl fst)), (ma, .inl (G 0, 12, .inl fma)), (ah, .inl (G 0, 110, .inl fah)), (bh, .inl (G 0, 110, .inl fbh))] sz)) 0 0 (va_A [(h0, .inr (11, [.ref st, .int (nI N), .int (nI B), .ref rp, .int vrs, .int vrb, .int vhs, .int vca, .int vxs, .int vxb, .ref tp, .int (nI T), .int vfa, .int vbr, .int vba, .int vsp, .int vhe, .int vtk, .int vva, .ref cu, .ref lt, .ref od, .ref th, .ref be, .ref ln, .int (nI S), .ref ma, .int (nI M), .ref ah, .ref bh, .ref ik, .ref la, .ref lg, .ref ce, .int vto])), (st, .inl (G 0, 196, .inl fst)), (ma, .inl (G 0, 12, .inl fma)), (ah, .inl (G 0, 110, .inl fah)), (bh, .inl (G 0, 110, .inl fbh))] sz) := by
  have hB_ := hB
  have hM_ := hM
  have hT_ := hT
  refine Met.ofW (cc := cX11_sure) (maxL := 7) (ret := (some .int)) (by decide) rfl ?_
  intro p e s m args below meth c s₁ Bd hml hv
  obtain ⟨rfl, hsz, hP, hK, hD0⟩ := hv
  have hx := Bd.exec
  have hb := Bd.bytes
  have hr := Bd.returns
  have hg : ∀ w ∈ GT, w.before ([.ref h0, .int what] : List Value).toArray s = true := fun w h => atoms_spec (ws := Cond.code yX11_sure cX11_sure 7 (some .int) :: GT) Bd.pre w (List.mem_cons_of_mem _ h)
  have hown : s.vm.findClass RX11 = some m.cls := findClass_of_methodNamed Bd.named
  have hlocks := Bd.notSynchronized
  subst hsz
  have hD := hD0.self (sz := s.heap.size)
  generalize hAe : va_A [(h0, .inr (11, [.ref st, .int (nI N), .int (nI B), .ref rp, .int vrs, .int vrb, .int vhs, .int vca, .int vxs, .int vxb, .ref tp, .int (nI T), .int vfa, .int vbr, .int vba, .int vsp, .int vhe, .int vtk, .int vva, .ref cu, .ref lt, .ref od, .ref th, .ref be, .ref ln, .int (nI S), .ref ma, .int (nI M), .ref ah, .ref bh, .ref ik, .ref la, .ref lg, .ref ce, .int vto])), (st, .inl (G 0, 196, .inl fst)), (ma, .inl (G 0, 12, .inl fma)), (ah, .inl (G 0, 110, .inl fah)), (bh, .inl (G 0, 110, .inl fbh))] s.heap.size = A at hD ⊢
  have hA : ∀ q : Nat, s.heap.size ≤ q → A q := fun q h => by rw [← hAe]; exact Or.inr h
  have hS : va_S A s.heap s.heap [] := va_S.rf
  have hl := lv_entry ([.ref h0, .int what]) (n := 7) (Nat.le_of_ble_eq_true rfl)
  rw [lg_entry_eq]
  generalize (lg_sl ([.ref h0, .int what]) ++ List.replicate (7 - (lg_sl ([.ref h0, .int what])).length) Slot.unset).toArray = ls at hl ⊢
  have hl : lv_has ls 7 [(0, .ref h0), (1, .int what)] := hl
  refine lv_iload_n hx hb dX11_sure_0 rfl (lv_at hl 1 rfl) ?_
  refine lv_i2l (v := what.toInt64) hx hb dX11_sure_1 rfl ?_
  refine lv_lconst (v := 0) hx hb dX11_sure_2 (by decide) ?_
  refine lv_lconst (v := 1) hx hb dX11_sure_3 (by decide) ?_
  have hPc := hP.sub (ws' := []) [] rfl
  refine va_calli (va_runS (As := [.long what.toInt64, .long 0, .long 1]) (rest := []) ⟨hx, hb, hml, hown, hg⟩ (c_X11_in l dC dI G _ what.toInt64 0 1) (kwS hg mfX11_in wt_992 ⟨Nat.le_of_ble_eq_true rfl, Nat.le_of_ble_eq_true rfl⟩) (preSR hK hPc) rfl rfl hl.1 rfl (lv_room (Nat.le_of_ble_eq_true rfl)) dX11_sure_4 ⟨Nat.le_of_ble_eq_true rfl, Nat.le_of_ble_eq_true rfl⟩) hS (fun q h1 h2 => absurd h2 (Nat.not_le.mpr h1)) (fun q h => hA q (Nat.le_trans hS.1 h)) (fun r1 ur1 t H1 locs ht hvm w2 hB hz1 hk1 hS => ?_)
  have hP := keepR hP hk1
  obtain ⟨w2, w2x⟩ := w2
  try simp only [l_ii, show (0 : Int64).toInt = 0 from by decide, show (1 : Int64).toInt = 1 from by decide] at w2
  subst w2
  refine lv_if_ne (tgt := 12) hx hb dX11_sure_7 (by decide) (fun c3 => ?_) (fun c3 => ?_)
  · skip
    have b4 := if10_p c3
    refine lv_aload_n hx hb dX11_sure_12 rfl (lv_at hl 0 rfl) ?_
    have hPc := hP.sub (ws' := [(h0, .inr (11, [.ref st, .int (nI N), .int (nI B), .ref rp, .int vrs, .int vrb, .int vhs, .int vca, .int vxs, .int vxb, .ref tp, .int (nI T), .int vfa, .int vbr, .int vba, .int vsp, .int vhe, .int vtk, .int vva, .ref cu, .ref lt, .ref od, .ref th, .ref be, .ref ln, .int (nI S), .ref ma, .int (nI M), .ref ah, .ref bh, .ref ik, .ref la, .ref lg, .ref ce, .int vto])), (st, .inl (G 0, 196, .inl fst)), (ma, .inl (G 0, 12, .inl fma)), (ah, .inl (G 0, 110, .inl fah)), (bh, .inl (G 0, 110, .inl fbh))]) [0, 1, 2, 3, 4] rfl
    have hDc := hD.sub (ws' := [(h0, .inr (11, [.ref st, .int (nI N), .int (nI B), .ref rp, .int vrs, .int vrb, .int vhs, .int vca, .int vxs, .int vxb, .ref tp, .int (nI T), .int vfa, .int vbr, .int vba, .int vsp, .int vhe, .int vtk, .int vva, .ref cu, .ref lt, .ref od, .ref th, .ref be, .ref ln, .int (nI S), .ref ma, .int (nI M), .ref ah, .ref bh, .ref ik, .ref la, .ref lg, .ref ce, .int vto])), (st, .inl (G 0, 196, .inl fst)), (ma, .inl (G 0, 12, .inl fma)), (ah, .inl (G 0, 110, .inl fah)), (bh, .inl (G 0, 110, .inl fbh))]) [0, 1, 2, 3, 4] (by decide) rfl
    have hFc := va_free (wc := [(h0, .inr (11, [.ref st, .int (nI N), .int (nI B), .ref rp, .int vrs, .int vrb, .int vhs, .int vca, .int vxs, .int vxb, .ref tp, .int (nI T), .int vfa, .int vbr, .int vba, .int vsp, .int vhe, .int vtk, .int vva, .ref cu, .ref lt, .ref od, .ref th, .ref be, .ref ln, .int (nI S), .ref ma, .int (nI M), .ref ah, .ref bh, .ref ik, .ref la, .ref lg, .ref ce, .int vto])), (st, .inl (G 0, 196, .inl fst)), (ma, .inl (G 0, 12, .inl fma)), (ah, .inl (G 0, 110, .inl fah)), (bh, .inl (G 0, 110, .inl fbh))]) hD hS hA [0, 1, 2, 3, 4] rfl
    have tn1204_ : nIT N := fun _ => nI_toInt (by first | omega | (have t_b4 := b4; omega))
    have tn1205_ : nIT B := fun _ => nI_toInt (by first | omega | (have t_b4 := b4; omega))
    have tn1206_ : nIT T := fun _ => nI_toInt (by first | omega | (have t_b4 := b4; omega))
    have tn1207_ : nIT S := fun _ => nI_toInt (by first | omega | (have t_b4 := b4; omega))
    have tn1208_ : nIT M := fun _ => nI_toInt (by first | omega | (have t_b4 := b4; omega))
    refine va_callv (va_runV (As := []) (rest := []) ⟨hx, hb, hml, hown, hg⟩ (c_X11_layPaths l dC dI G _ h0 st N B rp tp T cu lt od th be ln S ma M ah bh ik la lg ce vrs vrb vhs vca vxs vxb vfa vbr vba vsp vhe vtk vva vto fst fma fah fbh hN hB_ hT_ hS0 hM_ hst) (kwV hg mfX11_layPaths wt_1220 ⟨Nat.le_of_ble_eq_true rfl, Nat.le_of_ble_eq_true rfl⟩) (preVW hK hPc hDc (ci := 11) rfl rfl) rfl rfl hl.1 rfl (lv_room (Nat.le_of_ble_eq_true rfl)) dX11_sure_13 ⟨Nat.le_of_ble_eq_true rfl, Nat.le_of_ble_eq_true rfl⟩) hS (fun q _ h => hFc q h) hFc (fun ur5 t H1 locs ht hvm w6 hB hz1 hk1 hS => ?_)
    obtain ⟨u7, u8⟩ := ur5
    obtain ⟨hP1, hD1⟩ := hB
    rw [ht] at hP1
    obtain ⟨hP, hD⟩ := va_join (wr := []) (w1 := [(h0, .inr (11, [.ref st, .int (nI N), .int (nI B), .ref rp, .int vrs, .int vrb, .int vhs, .int vca, .int vxs, .int vxb, .ref tp, .int (nI T), .int vfa, .int vbr, .int vba, .int vsp, .int vhe, .int vtk, .int vva, .ref cu, .ref lt, .ref od, .ref th, .ref be, .ref ln, .int (nI S), .ref ma, .int (nI M), .ref ah, .ref bh, .ref ik, .ref la, .ref lg, .ref ce, .int vto])), (st, .inl (G 0, 196, .inl fst)), (ma, .inl (G 0, 12, .inl fma)), (ah, .inl (G 0, 110, .inl u7)), (bh, .inl (G 0, 110, .inl u8))]) hP hD [0, 1, 2, 3, 4] [] rfl rfl (by decide) (by decide) hk1 hFc hP1 hD1
    generalize H1 = H at hP hS ⊢
    have hP : va_P (dC, dI) vwCl [(h0, .inr (11, [.ref st, .int (nI N), .int (nI B), .ref rp, .int vrs, .int vrb, .int vhs, .int vca, .int vxs, .int vxb, .ref tp, .int (nI T), .int vfa, .int vbr, .int vba, .int vsp, .int vhe, .int vtk, .int vva, .ref cu, .ref lt, .ref od, .ref th, .ref be, .ref ln, .int (nI S), .ref ma, .int (nI M), .ref ah, .ref bh, .ref ik, .ref la, .ref lg, .ref ce, .int vto])), (st, .inl (G 0, 196, .inl fst)), (ma, .inl (G 0, 12, .inl fma)), (ah, .inl (G 0, 110, .inl u7)), (bh, .inl (G 0, 110, .inl u8))] H := hP
    have hD : va_D A [(h0, .inr (11, [.ref st, .int (nI N), .int (nI B), .ref rp, .int vrs, .int vrb, .int vhs, .int vca, .int vxs, .int vxb, .ref tp, .int (nI T), .int vfa, .int vbr, .int vba, .int vsp, .int vhe, .int vtk, .int vva, .ref cu, .ref lt, .ref od, .ref th, .ref be, .ref ln, .int (nI S), .ref ma, .int (nI M), .ref ah, .ref bh, .ref ik, .ref la, .ref lg, .ref ce, .int vto])), (st, .inl (G 0, 196, .inl fst)), (ma, .inl (G 0, 12, .inl fma)), (ah, .inl (G 0, 110, .inl u7)), (bh, .inl (G 0, 110, .inl u8))] := hD
    refine lv_aload_n hx hb dX11_sure_16 rfl (lv_at hl 0 rfl) ?_
    refine va_get (D := (dC, dI)) (ci := 11) (v := .ref bh) (C := RX11) (T := TX11) (N := 35) hx hb hg inG11 hown hK.1 hP 0 rfl rfl 29 (by decide) (hg _ wt_907) (fun _ h9 => h9) rfl dX11_sure_17 ?_
    refine lv_aload_n hx hb dX11_sure_20 rfl (lv_at hl 0 rfl) ?_
    have hPc := hP.sub (ws' := [(h0, .inr (11, [.ref st, .int (nI N), .int (nI B), .ref rp, .int vrs, .int vrb, .int vhs, .int vca, .int vxs, .int vxb, .ref tp, .int (nI T), .int vfa, .int vbr, .int vba, .int vsp, .int vhe, .int vtk, .int vva, .ref cu, .ref lt, .ref od, .ref th, .ref be, .ref ln, .int (nI S), .ref ma, .int (nI M), .ref ah, .ref bh, .ref ik, .ref la, .ref lg, .ref ce, .int vto])), (st, .inl (G 0, 196, .inl fst))]) [0, 1] rfl
    refine va_calli (va_runV (As := []) (rest := [.ref bh]) ⟨hx, hb, hml, hown, hg⟩ (c_X11_startNow l dC dI G _ h0 st N B rp tp T cu lt od th be ln S ma M ah bh ik la lg ce vrs vrb vhs vca vxs vxb vfa vbr vba vsp vhe vtk vva vto fst hN hB_ hT_ hS0 hM_ hst) (kwV hg mfX11_startNow wt_1044 ⟨Nat.le_of_ble_eq_true rfl, Nat.le_of_ble_eq_true rfl⟩) (preVR hK hPc (ci := 11) rfl rfl) rfl rfl hl.1 rfl (lv_room (Nat.le_of_ble_eq_true rfl)) dX11_sure_21 ⟨Nat.le_of_ble_eq_true rfl, Nat.le_of_ble_eq_true rfl⟩) hS (fun q h1 h2 => absurd h2 (Nat.not_le.mpr h1)) (fun q h => hA q (Nat.le_trans hS.1 h)) (fun r9 ur9 t H1 locs ht hvm w10 hB hz1 hk1 hS => ?_)
    have hP := keepR hP hk1
    obtain ⟨w10, w10x⟩ := w10
    obtain ⟨k11, w10, w10a, w10b⟩ := w10
    subst w10
    have tn1209_ : nIT k11 := fun _ => nI_toInt (by first | omega | (have t_b4 := b4; have t_w10a := w10a; have t_w10b := w10b; omega))
    refine va_iald hx hb hK.1 hP 4 0 rfl rfl (vp_in_nI (by first | omega | (have t_b4 := b4; have t_w10a := w10a; have t_w10b := w10b; have t_n0 : (nI N).toInt = (N : Int) := tn1204_ (); have t_n1 : (nI B).toInt = (B : Int) := tn1205_ (); have t_n2 : (nI T).toInt = (T : Int) := tn1206_ (); have t_n3 : (nI S).toInt = (S : Int) := tn1207_ (); have t_n4 : (nI M).toInt = (M : Int) := tn1208_ (); have t_n5 : (nI k11).toInt = (k11 : Int) := tn1209_ (); omega)) (by decide)) dX11_sure_24 ?_
    refine lv_cg (y := u8 k11) (by rw [nI_clamp (by omega)]) ?_
    refine lv_istore_n (lv' := [(2, .int (u8 k11)), (0, .ref h0), (1, .int what)]) hx hb dX11_sure_25 rfl hl (by decide) rfl (fun ls hl => ?_)
    refine lv_iload_n hx hb dX11_sure_26 rfl (lv_at hl 0 rfl) ?_
    refine lv_if_ne (tgt := 33) hx hb dX11_sure_27 (by decide) (fun c12 => ?_) (fun c12 => ?_)
    · skip
      refine lv_iconst (v := 0) hx hb dX11_sure_33 (by decide) ?_
      refine lv_istore_n (lv' := [(3, .int 0), (2, .int (u8 k11)), (0, .ref h0), (1, .int what)]) hx hb dX11_sure_34 rfl hl (by decide) rfl (fun ls hl => ?_)
      refine lv_iconst (v := 0) hx hb dX11_sure_35 (by decide) ?_
      refine lv_istore (lv' := [(4, .int 0), (3, .int 0), (2, .int (u8 k11)), (0, .ref h0), (1, .int what)]) hx hb dX11_sure_36 hl (by decide) rfl (fun ls hl => ?_)
      have loop38_15 : ∀ (nf j13 : Nat), N + 1 ≤ j13 + nf → j13 ≤ N → ∀ (y14 : Int32) (H : Heap) (locs : List Loc), va_P (dC, dI) vwCl [(h0, .inr (11, [.ref st, .int (nI N), .int (nI B), .ref rp, .int vrs, .int vrb, .int vhs, .int vca, .int vxs, .int vxb, .ref tp, .int (nI T), .int vfa, .int vbr, .int vba, .int vsp, .int vhe, .int vtk, .int vva, .ref cu, .ref lt, .ref od, .ref th, .ref be, .ref ln, .int (nI S), .ref ma, .int (nI M), .ref ah, .ref bh, .ref ik, .ref la, .ref lg, .ref ce, .int vto])), (st, .inl (G 0, 196, .inl fst)), (ma, .inl (G 0, 12, .inl fma)), (ah, .inl (G 0, 110, .inl u7)), (bh, .inl (G 0, 110, .inl u8))] H → va_D A [(h0, .inr (11, [.ref st, .int (nI N), .int (nI B), .ref rp, .int vrs, .int vrb, .int vhs, .int vca, .int vxs, .int vxb, .ref tp, .int (nI T), .int vfa, .int vbr, .int vba, .int vsp, .int vhe, .int vtk, .int vva, .ref cu, .ref lt, .ref od, .ref th, .ref be, .ref ln, .int (nI S), .ref ma, .int (nI M), .ref ah, .ref bh, .ref ik, .ref la, .ref lg, .ref ce, .int vto])), (st, .inl (G 0, 196, .inl fst)), (ma, .inl (G 0, 12, .inl fma)), (ah, .inl (G 0, 110, .inl u7)), (bh, .inl (G 0, 110, .inl u8))] → va_S A s.heap H locs → ∀ (ls : Array Slot), lv_has ls 7 [(4, .int (nI j13)), (3, .int y14), (2, .int (u8 k11)), (0, .ref h0), (1, .int what)] → W p l e (headSpec (Cond.code yX11_sure cX11_sure 7 (some .int) :: GT) ({ frames := 6, cells := 0, slots := 0, locals := 146 } : Room)).room s m ([.ref h0, .int what] : List Value).toArray below meth c H locs 0 0 (MQ below (va_Qi (fun (r : Int32) (u : (Nat → Int32) × (Nat → Int32)) => match u with | (oah, obh) => (True) ∧ True) (fun (u : (Nat → Int32) × (Nat → Int32)) (t : State) => match u with | (oah, obh) => va_P (dC, dI) vwCl [(h0, .inr (11, [.ref st, .int (nI N), .int (nI B), .ref rp, .int vrs, .int vrb, .int vhs, .int vca, .int vxs, .int vxb, .ref tp, .int (nI T), .int vfa, .int vbr, .int vba, .int vsp, .int vhe, .int vtk, .int vva, .ref cu, .ref lt, .ref od, .ref th, .ref be, .ref ln, .int (nI S), .ref ma, .int (nI M), .ref ah, .ref bh, .ref ik, .ref la, .ref lg, .ref ce, .int vto])), (st, .inl (G 0, 196, .inl fst)), (ma, .inl (G 0, 12, .inl fma)), (ah, .inl (G 0, 110, .inl oah)), (bh, .inl (G 0, 110, .inl obh))] t.heap ∧ va_D A [(h0, .inr (11, [.ref st, .int (nI N), .int (nI B), .ref rp, .int vrs, .int vrb, .int vhs, .int vca, .int vxs, .int vxb, .ref tp, .int (nI T), .int vfa, .int vbr, .int vba, .int vsp, .int vhe, .int vtk, .int vva, .ref cu, .ref lt, .ref od, .ref th, .ref be, .ref ln, .int (nI S), .ref ma, .int (nI M), .ref ah, .ref bh, .ref ik, .ref la, .ref lg, .ref ce, .int vto])), (st, .inl (G 0, 196, .inl fst)), (ma, .inl (G 0, 12, .inl fma)), (ah, .inl (G 0, 110, .inl oah)), (bh, .inl (G 0, 110, .inl obh))]) A) ([.ref h0, .int what] : List Value).toArray s 0 0 A) (F0 m 38 ls []) := by
        intro nf
        induction nf with
        | zero => intro j13 h1 h2; exact absurd h1 (by omega)
        | succ nf ih38_15 =>
          intro j13 hn16 hj17 y14 H locs hP hD hS ls hl
          refine lv_iload hx hb dX11_sure_38 (lv_at hl 0 rfl) ?_
          refine lv_aload_n hx hb dX11_sure_40 rfl (lv_at hl 3 rfl) ?_
          refine va_get (D := (dC, dI)) (ci := 11) (v := .int (nI N)) (C := RX11) (T := TX11) (N := 35) hx hb hg inG11 hown hK.1 hP 0 rfl rfl 1 (by decide) (hg _ wt_879) (fun _ h9 => h9) rfl dX11_sure_41 ?_
          refine lv_icmp_ge (tgt := 125) hx hb dX11_sure_44 (by decide) (fun c18 => ?_) (fun c18 => ?_)
          · skip
            have tn1210_ : nIT j13 := fun _ => nI_toInt (by first | omega | (have t := leI c18; omega))
            have n19 : N ≤ j13 := by have t := leI c18; rw [show (nI (j13)).toInt = ((j13 : Nat) : Int) from tn1210_ ()] at t; rw [show (nI (N)).toInt = ((N : Nat) : Int) from tn1204_ ()] at t; omega
            refine lv_iload_n hx hb dX11_sure_125 rfl (lv_at hl 1 rfl) ?_
            have hpost : True := by
              trivial
            have hP9 := hP.sub (ws' := [(h0, .inr (11, [.ref st, .int (nI N), .int (nI B), .ref rp, .int vrs, .int vrb, .int vhs, .int vca, .int vxs, .int vxb, .ref tp, .int (nI T), .int vfa, .int vbr, .int vba, .int vsp, .int vhe, .int vtk, .int vva, .ref cu, .ref lt, .ref od, .ref th, .ref be, .ref ln, .int (nI S), .ref ma, .int (nI M), .ref ah, .ref bh, .ref ik, .ref la, .ref lg, .ref ce, .int vto])), (st, .inl (G 0, 196, .inl fst)), (ma, .inl (G 0, 12, .inl fma)), (ah, .inl (G 0, 110, .inl u7)), (bh, .inl (G 0, 110, .inl u8))]) [0, 1, 2, 3, 4] rfl
            have hD9 := hD.sub (ws' := [(h0, .inr (11, [.ref st, .int (nI N), .int (nI B), .ref rp, .int vrs, .int vrb, .int vhs, .int vca, .int vxs, .int vxb, .ref tp, .int (nI T), .int vfa, .int vbr, .int vba, .int vsp, .int vhe, .int vtk, .int vva, .ref cu, .ref lt, .ref od, .ref th, .ref be, .ref ln, .int (nI S), .ref ma, .int (nI M), .ref ah, .ref bh, .ref ik, .ref la, .ref lg, .ref ce, .int vto])), (st, .inl (G 0, 196, .inl fst)), (ma, .inl (G 0, 12, .inl fma)), (ah, .inl (G 0, 110, .inl u7)), (bh, .inl (G 0, 110, .inl u8))]) [0, 1, 2, 3, 4] (by decide) rfl
            refine W.widen (k := 0) (n := 0) (Nat.le_of_ble_eq_true rfl) (Nat.le_of_ble_eq_true rfl) ?_
            exact W.iret (v := y14) hx hb hr (fun t ht hW => ⟨⟨y14, (u7, u8), rfl, ⟨hpost, trivial⟩, ⟨by rw [ht]; exact hP9, hD9⟩⟩, hS.F ht⟩) hS.2.2 dX11_sure_126
          · skip
            have tn1211_ : nIT j13 := fun _ => nI_toInt (by first | omega | (have t := nleI c18; omega))
            have n20 : j13 < N := by have t := nleI c18; rw [show (nI (j13)).toInt = ((j13 : Nat) : Int) from tn1211_ ()] at t; rw [show (nI (N)).toInt = ((N : Nat) : Int) from tn1204_ ()] at t; omega
            refine lv_iconst (v := 0) hx hb dX11_sure_47 (by decide) ?_
            refine lv_istore (lv' := [(5, .int 0), (4, .int (nI j13)), (3, .int y14), (2, .int (u8 k11)), (0, .ref h0), (1, .int what)]) hx hb dX11_sure_48 hl (by decide) rfl (fun ls hl => ?_)
            refine lv_iconst (v := 0) hx hb dX11_sure_50 (by decide) ?_
            refine lv_istore (lv' := [(6, .int 0), (5, .int 0), (4, .int (nI j13)), (3, .int y14), (2, .int (u8 k11)), (0, .ref h0), (1, .int what)]) hx hb dX11_sure_51 hl (by decide) rfl (fun ls hl => ?_)
            have loop53_23 : ∀ (nf j21 : Nat), 10 + 1 ≤ j21 + nf → j21 ≤ 10 → ∀ (y22 : Int32) (H : Heap) (locs : List Loc), va_P (dC, dI) vwCl [(h0, .inr (11, [.ref st, .int (nI N), .int (nI B), .ref rp, .int vrs, .int vrb, .int vhs, .int vca, .int vxs, .int vxb, .ref tp, .int (nI T), .int vfa, .int vbr, .int vba, .int vsp, .int vhe, .int vtk, .int vva, .ref cu, .ref lt, .ref od, .ref th, .ref be, .ref ln, .int (nI S), .ref ma, .int (nI M), .ref ah, .ref bh, .ref ik, .ref la, .ref lg, .ref ce, .int vto])), (st, .inl (G 0, 196, .inl fst)), (ma, .inl (G 0, 12, .inl fma)), (ah, .inl (G 0, 110, .inl u7)), (bh, .inl (G 0, 110, .inl u8))] H → va_D A [(h0, .inr (11, [.ref st, .int (nI N), .int (nI B), .ref rp, .int vrs, .int vrb, .int vhs, .int vca, .int vxs, .int vxb, .ref tp, .int (nI T), .int vfa, .int vbr, .int vba, .int vsp, .int vhe, .int vtk, .int vva, .ref cu, .ref lt, .ref od, .ref th, .ref be, .ref ln, .int (nI S), .ref ma, .int (nI M), .ref ah, .ref bh, .ref ik, .ref la, .ref lg, .ref ce, .int vto])), (st, .inl (G 0, 196, .inl fst)), (ma, .inl (G 0, 12, .inl fma)), (ah, .inl (G 0, 110, .inl u7)), (bh, .inl (G 0, 110, .inl u8))] → va_S A s.heap H locs → ∀ (ls : Array Slot), lv_has ls 7 [(6, .int (nI j21)), (5, .int y22), (4, .int (nI j13)), (3, .int y14), (2, .int (u8 k11)), (0, .ref h0), (1, .int what)] → W p l e (headSpec (Cond.code yX11_sure cX11_sure 7 (some .int) :: GT) ({ frames := 6, cells := 0, slots := 0, locals := 146 } : Room)).room s m ([.ref h0, .int what] : List Value).toArray below meth c H locs 0 0 (MQ below (va_Qi (fun (r : Int32) (u : (Nat → Int32) × (Nat → Int32)) => match u with | (oah, obh) => (True) ∧ True) (fun (u : (Nat → Int32) × (Nat → Int32)) (t : State) => match u with | (oah, obh) => va_P (dC, dI) vwCl [(h0, .inr (11, [.ref st, .int (nI N), .int (nI B), .ref rp, .int vrs, .int vrb, .int vhs, .int vca, .int vxs, .int vxb, .ref tp, .int (nI T), .int vfa, .int vbr, .int vba, .int vsp, .int vhe, .int vtk, .int vva, .ref cu, .ref lt, .ref od, .ref th, .ref be, .ref ln, .int (nI S), .ref ma, .int (nI M), .ref ah, .ref bh, .ref ik, .ref la, .ref lg, .ref ce, .int vto])), (st, .inl (G 0, 196, .inl fst)), (ma, .inl (G 0, 12, .inl fma)), (ah, .inl (G 0, 110, .inl oah)), (bh, .inl (G 0, 110, .inl obh))] t.heap ∧ va_D A [(h0, .inr (11, [.ref st, .int (nI N), .int (nI B), .ref rp, .int vrs, .int vrb, .int vhs, .int vca, .int vxs, .int vxb, .ref tp, .int (nI T), .int vfa, .int vbr, .int vba, .int vsp, .int vhe, .int vtk, .int vva, .ref cu, .ref lt, .ref od, .ref th, .ref be, .ref ln, .int (nI S), .ref ma, .int (nI M), .ref ah, .ref bh, .ref ik, .ref la, .ref lg, .ref ce, .int vto])), (st, .inl (G 0, 196, .inl fst)), (ma, .inl (G 0, 12, .inl fma)), (ah, .inl (G 0, 110, .inl oah)), (bh, .inl (G 0, 110, .inl obh))]) A) ([.ref h0, .int what] : List Value).toArray s 0 0 A) (F0 m 53 ls []) := by
              intro nf
              induction nf with
              | zero => intro j21 h1 h2; exact absurd h1 (by omega)
              | succ nf ih53_23 =>
                intro j21 hn24 hj25 y22 H locs hP hD hS ls hl
                refine lv_iload hx hb dX11_sure_53 (lv_at hl 0 rfl) ?_
                refine lv_bipush (v := 10) hx hb dX11_sure_55 (by decide) ?_
                refine lv_icmp_ge (tgt := 102) hx hb dX11_sure_57 (by decide) (fun c26 => ?_) (fun c26 => ?_)
                · skip
                  have tn1212_ : nIT j21 := fun _ => nI_toInt (by first | omega | (have t := leI c26; omega))
                  have n27 : 10 ≤ j21 := by have t := leI c26; rw [show (nI (j21)).toInt = ((j21 : Nat) : Int) from tn1212_ ()] at t; have : (10 : Int32).toInt = 10 := qI_10; omega
                  refine lv_iload_n hx hb dX11_sure_102 rfl (lv_at hl 3 rfl) ?_
                  refine lv_iload hx hb dX11_sure_103 (lv_at hl 1 rfl) ?_
                  refine lv_iload_n hx hb dX11_sure_105 rfl (lv_at hl 4 rfl) ?_
                  have cut117_29 : ∀ (y28 : Int32) (H : Heap) (locs : List Loc), va_P (dC, dI) vwCl [(h0, .inr (11, [.ref st, .int (nI N), .int (nI B), .ref rp, .int vrs, .int vrb, .int vhs, .int vca, .int vxs, .int vxb, .ref tp, .int (nI T), .int vfa, .int vbr, .int vba, .int vsp, .int vhe, .int vtk, .int vva, .ref cu, .ref lt, .ref od, .ref th, .ref be, .ref ln, .int (nI S), .ref ma, .int (nI M), .ref ah, .ref bh, .ref ik, .ref la, .ref lg, .ref ce, .int vto])), (st, .inl (G 0, 196, .inl fst)), (ma, .inl (G 0, 12, .inl fma)), (ah, .inl (G 0, 110, .inl u7)), (bh, .inl (G 0, 110, .inl u8))] H → va_D A [(h0, .inr (11, [.ref st, .int (nI N), .int (nI B), .ref rp, .int vrs, .int vrb, .int vhs, .int vca, .int vxs, .int vxb, .ref tp, .int (nI T), .int vfa, .int vbr, .int vba, .int vsp, .int vhe, .int vtk, .int vva, .ref cu, .ref lt, .ref od, .ref th, .ref be, .ref ln, .int (nI S), .ref ma, .int (nI M), .ref ah, .ref bh, .ref ik, .ref la, .ref lg, .ref ce, .int vto])), (st, .inl (G 0, 196, .inl fst)), (ma, .inl (G 0, 12, .inl fma)), (ah, .inl (G 0, 110, .inl u7)), (bh, .inl (G 0, 110, .inl u8))] → va_S A s.heap H locs → ∀ (ls : Array Slot), lv_has ls 7 [(6, .int (nI j21)), (5, .int y22), (4, .int (nI j13)), (3, .int y14), (2, .int (u8 k11)), (0, .ref h0), (1, .int what)] → W p l e (headSpec (Cond.code yX11_sure cX11_sure 7 (some .int) :: GT) ({ frames := 6, cells := 0, slots := 0, locals := 146 } : Room)).room s m ([.ref h0, .int what] : List Value).toArray below meth c H locs 0 0 (MQ below (va_Qi (fun (r : Int32) (u : (Nat → Int32) × (Nat → Int32)) => match u with | (oah, obh) => (True) ∧ True) (fun (u : (Nat → Int32) × (Nat → Int32)) (t : State) => match u with | (oah, obh) => va_P (dC, dI) vwCl [(h0, .inr (11, [.ref st, .int (nI N), .int (nI B), .ref rp, .int vrs, .int vrb, .int vhs, .int vca, .int vxs, .int vxb, .ref tp, .int (nI T), .int vfa, .int vbr, .int vba, .int vsp, .int vhe, .int vtk, .int vva, .ref cu, .ref lt, .ref od, .ref th, .ref be, .ref ln, .int (nI S), .ref ma, .int (nI M), .ref ah, .ref bh, .ref ik, .ref la, .ref lg, .ref ce, .int vto])), (st, .inl (G 0, 196, .inl fst)), (ma, .inl (G 0, 12, .inl fma)), (ah, .inl (G 0, 110, .inl oah)), (bh, .inl (G 0, 110, .inl obh))] t.heap ∧ va_D A [(h0, .inr (11, [.ref st, .int (nI N), .int (nI B), .ref rp, .int vrs, .int vrb, .int vhs, .int vca, .int vxs, .int vxb, .ref tp, .int (nI T), .int vfa, .int vbr, .int vba, .int vsp, .int vhe, .int vtk, .int vva, .ref cu, .ref lt, .ref od, .ref th, .ref be, .ref ln, .int (nI S), .ref ma, .int (nI M), .ref ah, .ref bh, .ref ik, .ref la, .ref lg, .ref ce, .int vto])), (st, .inl (G 0, 196, .inl fst)), (ma, .inl (G 0, 12, .inl fma)), (ah, .inl (G 0, 110, .inl oah)), (bh, .inl (G 0, 110, .inl obh))]) A) ([.ref h0, .int what] : List Value).toArray s 0 0 A) (F0 m 117 ls [.int y28, .int y14]) := by
                    intro y28 H locs hP hD hS ls hl
                    refine lv_ior hx hb dX11_sure_117 ?_
                    refine lv_istore_n (lv' := [(3, .int (y14 ||| y28)), (6, .int (nI j21)), (5, .int y22), (4, .int (nI j13)), (2, .int (u8 k11)), (0, .ref h0), (1, .int what)]) hx hb dX11_sure_118 rfl hl (by decide) rfl (fun ls hl => ?_)
                    refine lv_iinc (v := nI (j13 + 1)) (lv' := [(4, .int (nI (j13 + 1))), (3, .int (y14 ||| y28)), (6, .int (nI j21)), (5, .int y22), (2, .int (u8 k11)), (0, .ref h0), (1, .int what)]) hx hb dX11_sure_119 hl (k := 3) rfl (by rw [show Int32.ofInt 1 = nI 1 from by decide]; exact nI_add _ _) (by decide) rfl (fun ls hl => ?_)
                    refine lv_goto (tgt := 38) hx hb dX11_sure_122 (by decide) ?_
                    exact ih38_15 (j13 + 1) (by omega) (by omega) (y14 ||| y28) _ _ hP hD hS ls (lv_sub hl [0, 1, 4, 5, 6] rfl)
                  refine lv_icmp_ne (tgt := 116) hx hb dX11_sure_106 (by decide) (fun c30 => ?_) (fun c30 => ?_)
                  · skip
                    refine lv_iconst (v := 0) hx hb dX11_sure_116 (by decide) ?_
                    exact cut117_29 0 _ _ hP hD hS ls (lv_sub hl [0, 1, 2, 3, 4, 5, 6] rfl)
                  · skip
                    refine lv_iconst (v := 1) hx hb dX11_sure_109 (by decide) ?_
                    refine lv_iload hx hb dX11_sure_110 (lv_at hl 2 rfl) ?_
                    refine lv_ishl hx hb dX11_sure_112 ?_
                    refine lv_goto (tgt := 117) hx hb dX11_sure_113 (by decide) ?_
                    exact cut117_29 (1 <<< ((nI j13) &&& 31)) _ _ hP hD hS ls (lv_sub hl [0, 1, 2, 3, 4, 5, 6] rfl)
                · skip
                  have tn1213_ : nIT j21 := fun _ => nI_toInt (by first | omega | (have t := nleI c26; omega))
                  have n31 : j21 < 10 := by have t := nleI c26; rw [show (nI (j21)).toInt = ((j21 : Nat) : Int) from tn1213_ ()] at t; have : (10 : Int32).toInt = 10 := qI_10; omega
                  refine lv_iload hx hb dX11_sure_60 (lv_at hl 1 rfl) ?_
                  refine lv_aload_n hx hb dX11_sure_62 rfl (lv_at hl 5 rfl) ?_
                  refine va_get (D := (dC, dI)) (ci := 11) (v := .ref ah) (C := RX11) (T := TX11) (N := 35) hx hb hg inG11 hown hK.1 hP 0 rfl rfl 28 (by decide) (hg _ wt_906) (fun _ h9 => h9) rfl dX11_sure_63 ?_
                  refine lv_bipush (v := 10) hx hb dX11_sure_66 (by decide) ?_
                  refine lv_iload hx hb dX11_sure_68 (lv_at hl 2 rfl) ?_
                  refine lv_imul hx hb dX11_sure_70 ?_
                  refine lv_cg (y := nI (10 * j13)) (by rw [show (10 : Int32) = nI 10 from rfl]; exact pk_mul _ _) ?_
                  refine lv_iload hx hb dX11_sure_71 (lv_at hl 0 rfl) ?_
                  refine lv_iadd hx hb dX11_sure_73 ?_
                  refine lv_cg (y := nI ((10 * j13) + j21)) (by exact nI_add _ _) ?_
                  refine va_iald hx hb hK.1 hP 3 0 rfl rfl (vp_in_nI (by first | omega | (have t_b4 := b4; have t_w10a := w10a; have t_w10b := w10b; have t_c12 := neI c12; have t_hj17 := hj17; have t_n20 := n20; have t_hj25 := hj25; have t_n31 := n31; have : (0 : Int32).toInt = 0 := qI_0; have t_n0 : (nI N).toInt = (N : Int) := tn1204_ (); have t_n1 : (nI B).toInt = (B : Int) := tn1205_ (); have t_n2 : (nI T).toInt = (T : Int) := tn1206_ (); have t_n3 : (nI S).toInt = (S : Int) := tn1207_ (); have t_n4 : (nI M).toInt = (M : Int) := tn1208_ (); have t_n5 : (nI k11).toInt = (k11 : Int) := tn1209_ (); have t_n6 : (nI j13).toInt = (j13 : Int) := tn1211_ (); have t_n7 : (nI j21).toInt = (j21 : Int) := tn1213_ (); omega)) (by decide)) dX11_sure_74 ?_
                  refine lv_cg (y := u7 ((10 * j13) + j21)) (by rw [nI_clamp (by omega)]) ?_
                  refine lv_aload_n hx hb dX11_sure_75 rfl (lv_at hl 5 rfl) ?_
                  refine lv_iload hx hb dX11_sure_76 (lv_at hl 2 rfl) ?_
                  refine lv_iload hx hb dX11_sure_78 (lv_at hl 0 rfl) ?_
                  refine lv_iload_n hx hb dX11_sure_80 rfl (lv_at hl 6 rfl) ?_
                  have cut89_33 : ∀ (y32 : Int32) (H : Heap) (locs : List Loc), va_P (dC, dI) vwCl [(h0, .inr (11, [.ref st, .int (nI N), .int (nI B), .ref rp, .int vrs, .int vrb, .int vhs, .int vca, .int vxs, .int vxb, .ref tp, .int (nI T), .int vfa, .int vbr, .int vba, .int vsp, .int vhe, .int vtk, .int vva, .ref cu, .ref lt, .ref od, .ref th, .ref be, .ref ln, .int (nI S), .ref ma, .int (nI M), .ref ah, .ref bh, .ref ik, .ref la, .ref lg, .ref ce, .int vto])), (st, .inl (G 0, 196, .inl fst)), (ma, .inl (G 0, 12, .inl fma)), (ah, .inl (G 0, 110, .inl u7)), (bh, .inl (G 0, 110, .inl u8))] H → va_D A [(h0, .inr (11, [.ref st, .int (nI N), .int (nI B), .ref rp, .int vrs, .int vrb, .int vhs, .int vca, .int vxs, .int vxb, .ref tp, .int (nI T), .int vfa, .int vbr, .int vba, .int vsp, .int vhe, .int vtk, .int vva, .ref cu, .ref lt, .ref od, .ref th, .ref be, .ref ln, .int (nI S), .ref ma, .int (nI M), .ref ah, .ref bh, .ref ik, .ref la, .ref lg, .ref ce, .int vto])), (st, .inl (G 0, 196, .inl fst)), (ma, .inl (G 0, 12, .inl fma)), (ah, .inl (G 0, 110, .inl u7)), (bh, .inl (G 0, 110, .inl u8))] → va_S A s.heap H locs → ∀ (ls : Array Slot), lv_has ls 7 [(6, .int (nI j21)), (5, .int y22), (4, .int (nI j13)), (3, .int y14), (2, .int (u8 k11)), (0, .ref h0), (1, .int what)] → W p l e (headSpec (Cond.code yX11_sure cX11_sure 7 (some .int) :: GT) ({ frames := 6, cells := 0, slots := 0, locals := 146 } : Room)).room s m ([.ref h0, .int what] : List Value).toArray below meth c H locs 0 0 (MQ below (va_Qi (fun (r : Int32) (u : (Nat → Int32) × (Nat → Int32)) => match u with | (oah, obh) => (True) ∧ True) (fun (u : (Nat → Int32) × (Nat → Int32)) (t : State) => match u with | (oah, obh) => va_P (dC, dI) vwCl [(h0, .inr (11, [.ref st, .int (nI N), .int (nI B), .ref rp, .int vrs, .int vrb, .int vhs, .int vca, .int vxs, .int vxb, .ref tp, .int (nI T), .int vfa, .int vbr, .int vba, .int vsp, .int vhe, .int vtk, .int vva, .ref cu, .ref lt, .ref od, .ref th, .ref be, .ref ln, .int (nI S), .ref ma, .int (nI M), .ref ah, .ref bh, .ref ik, .ref la, .ref lg, .ref ce, .int vto])), (st, .inl (G 0, 196, .inl fst)), (ma, .inl (G 0, 12, .inl fma)), (ah, .inl (G 0, 110, .inl oah)), (bh, .inl (G 0, 110, .inl obh))] t.heap ∧ va_D A [(h0, .inr (11, [.ref st, .int (nI N), .int (nI B), .ref rp, .int vrs, .int vrb, .int vhs, .int vca, .int vxs, .int vxb, .ref tp, .int (nI T), .int vfa, .int vbr, .int vba, .int vsp, .int vhe, .int vtk, .int vva, .ref cu, .ref lt, .ref od, .ref th, .ref be, .ref ln, .int (nI S), .ref ma, .int (nI M), .ref ah, .ref bh, .ref ik, .ref la, .ref lg, .ref ce, .int vto])), (st, .inl (G 0, 196, .inl fst)), (ma, .inl (G 0, 12, .inl fma)), (ah, .inl (G 0, 110, .inl oah)), (bh, .inl (G 0, 110, .inl obh))]) A) ([.ref h0, .int what] : List Value).toArray s 0 0 A) (F0 m 89 ls [.int y32, .int (nI j21), .int (nI j13), .ref h0, .int (u7 ((10 * j13) + j21)), .int y22]) := by
                    intro y32 H locs hP hD hS ls hl
                    have hPc := hP.sub (ws' := [(h0, .inr (11, [.ref st, .int (nI N), .int (nI B), .ref rp, .int vrs, .int vrb, .int vhs, .int vca, .int vxs, .int vxb, .ref tp, .int (nI T), .int vfa, .int vbr, .int vba, .int vsp, .int vhe, .int vtk, .int vva, .ref cu, .ref lt, .ref od, .ref th, .ref be, .ref ln, .int (nI S), .ref ma, .int (nI M), .ref ah, .ref bh, .ref ik, .ref la, .ref lg, .ref ce, .int vto])), (st, .inl (G 0, 196, .inl fst)), (ma, .inl (G 0, 12, .inl fma)), (bh, .inl (G 0, 110, .inl u8))]) [0, 1, 2, 4] rfl
                    refine va_calli (va_runV (As := [.int (nI j13), .int (nI j21), .int y32]) (rest := [.int (u7 ((10 * j13) + j21)), .int y22]) ⟨hx, hb, hml, hown, hg⟩ (c_X11_onward l dC dI G _ h0 j13 j21 st N B rp tp T cu lt od th be ln S ma M ah bh ik la lg ce y32 vrs vrb vhs vca vxs vxb vfa vbr vba vsp vhe vtk vva vto fst fma u8 hN hB_ hT_ hS0 hM_ hst (by first | omega | (have t_b4 := b4; have t_w10a := w10a; have t_w10b := w10b; have t_c12 := neI c12; have t_hj17 := hj17; have t_n20 := n20; have t_hj25 := hj25; have t_n31 := n31; have : (0 : Int32).toInt = 0 := qI_0; have t_n0 : (nI N).toInt = (N : Int) := tn1204_ (); have t_n1 : (nI B).toInt = (B : Int) := tn1205_ (); have t_n2 : (nI T).toInt = (T : Int) := tn1206_ (); have t_n3 : (nI S).toInt = (S : Int) := tn1207_ (); have t_n4 : (nI M).toInt = (M : Int) := tn1208_ (); have t_n5 : (nI k11).toInt = (k11 : Int) := tn1209_ (); have t_n6 : (nI j13).toInt = (j13 : Int) := tn1211_ (); have t_n7 : (nI j21).toInt = (j21 : Int) := tn1213_ (); omega)) (by first | omega | (have t_b4 := b4; have t_w10a := w10a; have t_w10b := w10b; have t_c12 := neI c12; have t_hj17 := hj17; have t_n20 := n20; have t_hj25 := hj25; have t_n31 := n31; have : (0 : Int32).toInt = 0 := qI_0; have t_n0 : (nI N).toInt = (N : Int) := tn1204_ (); have t_n1 : (nI B).toInt = (B : Int) := tn1205_ (); have t_n2 : (nI T).toInt = (T : Int) := tn1206_ (); have t_n3 : (nI S).toInt = (S : Int) := tn1207_ (); have t_n4 : (nI M).toInt = (M : Int) := tn1208_ (); have t_n5 : (nI k11).toInt = (k11 : Int) := tn1209_ (); have t_n6 : (nI j13).toInt = (j13 : Int) := tn1211_ (); have t_n7 : (nI j21).toInt = (j21 : Int) := tn1213_ (); omega))) (kwV hg mfX11_onward wt_1232 ⟨Nat.le_of_ble_eq_true rfl, Nat.le_of_ble_eq_true rfl⟩) (preVR hK hPc (ci := 11) rfl rfl) rfl rfl hl.1 rfl (lv_room (Nat.le_of_ble_eq_true rfl)) dX11_sure_89 ⟨Nat.le_of_ble_eq_true rfl, Nat.le_of_ble_eq_true rfl⟩) hS (fun q h1 h2 => absurd h2 (Nat.not_le.mpr h1)) (fun q h => hA q (Nat.le_trans hS.1 h)) (fun r34 ur34 t H1 locs ht hvm w35 hB hz1 hk1 hS => ?_)
                    have hP := keepR hP hk1
                    obtain ⟨w35, w35x⟩ := w35
                    refine lv_imul hx hb dX11_sure_92 ?_
                    refine lv_topi (fun v36 ev36 => ?_)
                    refine lv_iadd hx hb dX11_sure_93 ?_
                    refine lv_istore (lv' := [(5, .int (y22 + v36)), (6, .int (nI j21)), (4, .int (nI j13)), (3, .int y14), (2, .int (u8 k11)), (0, .ref h0), (1, .int what)]) hx hb dX11_sure_94 hl (by decide) rfl (fun ls hl => ?_)
                    refine lv_iinc (v := nI (j21 + 1)) (lv' := [(6, .int (nI (j21 + 1))), (5, .int (y22 + v36)), (4, .int (nI j13)), (3, .int y14), (2, .int (u8 k11)), (0, .ref h0), (1, .int what)]) hx hb dX11_sure_96 hl (k := 1) rfl (by rw [show Int32.ofInt 1 = nI 1 from by decide]; exact nI_add _ _) (by decide) rfl (fun ls hl => ?_)
                    refine lv_goto (tgt := 53) hx hb dX11_sure_99 (by decide) ?_
                    exact ih53_23 (j21 + 1) (by omega) (by omega) (y22 + v36) _ _ hP hD hS ls (lv_sub hl [0, 1, 2, 3, 4, 5, 6] rfl)
                  refine lv_if_ne (tgt := 88) hx hb dX11_sure_81 (by decide) (fun c37 => ?_) (fun c37 => ?_)
                  · skip
                    refine lv_iconst (v := 0) hx hb dX11_sure_88 (by decide) ?_
                    exact cut89_33 0 _ _ hP hD hS ls (lv_sub hl [0, 1, 2, 3, 4, 5, 6] rfl)
                  · skip
                    refine lv_iconst (v := 1) hx hb dX11_sure_84 (by decide) ?_
                    refine lv_goto (tgt := 89) hx hb dX11_sure_85 (by decide) ?_
                    exact cut89_33 1 _ _ hP hD hS ls (lv_sub hl [0, 1, 2, 3, 4, 5, 6] rfl)
            exact loop53_23 (10 + 1) 0 (by omega) (by omega) 0 _ _ hP hD hS ls (lv_sub hl [0, 1, 2, 3, 4, 5, 6] rfl)
      exact loop38_15 (N + 1) 0 (by omega) (by omega) 0 _ _ hP hD hS ls (lv_sub hl [0, 1, 2, 3, 4] rfl)
    · skip
      refine lv_bipush (v := (-4)) hx hb dX11_sure_30 (by decide) ?_
      have hpost : True := by
        trivial
      have hP9 := hP.sub (ws' := [(h0, .inr (11, [.ref st, .int (nI N), .int (nI B), .ref rp, .int vrs, .int vrb, .int vhs, .int vca, .int vxs, .int vxb, .ref tp, .int (nI T), .int vfa, .int vbr, .int vba, .int vsp, .int vhe, .int vtk, .int vva, .ref cu, .ref lt, .ref od, .ref th, .ref be, .ref ln, .int (nI S), .ref ma, .int (nI M), .ref ah, .ref bh, .ref ik, .ref la, .ref lg, .ref ce, .int vto])), (st, .inl (G 0, 196, .inl fst)), (ma, .inl (G 0, 12, .inl fma)), (ah, .inl (G 0, 110, .inl u7)), (bh, .inl (G 0, 110, .inl u8))]) [0, 1, 2, 3, 4] rfl
      have hD9 := hD.sub (ws' := [(h0, .inr (11, [.ref st, .int (nI N), .int (nI B), .ref rp, .int vrs, .int vrb, .int vhs, .int vca, .int vxs, .int vxb, .ref tp, .int (nI T), .int vfa, .int vbr, .int vba, .int vsp, .int vhe, .int vtk, .int vva, .ref cu, .ref lt, .ref od, .ref th, .ref be, .ref ln, .int (nI S), .ref ma, .int (nI M), .ref ah, .ref bh, .ref ik, .ref la, .ref lg, .ref ce, .int vto])), (st, .inl (G 0, 196, .inl fst)), (ma, .inl (G 0, 12, .inl fma)), (ah, .inl (G 0, 110, .inl u7)), (bh, .inl (G 0, 110, .inl u8))]) [0, 1, 2, 3, 4] (by decide) rfl
      refine W.widen (k := 0) (n := 0) (Nat.le_of_ble_eq_true rfl) (Nat.le_of_ble_eq_true rfl) ?_
      exact W.iret (v := (-4)) hx hb hr (fun t ht hW => ⟨⟨(-4), (u7, u8), rfl, ⟨hpost, trivial⟩, ⟨by rw [ht]; exact hP9, hD9⟩⟩, hS.F ht⟩) hS.2.2 dX11_sure_32
  · skip
    have b38 := if10_n c3
    refine lv_iconst (v := (-1)) hx hb dX11_sure_10 (by decide) ?_
    have hpost : True := by
      trivial
    have hP9 := hP.sub (ws' := [(h0, .inr (11, [.ref st, .int (nI N), .int (nI B), .ref rp, .int vrs, .int vrb, .int vhs, .int vca, .int vxs, .int vxb, .ref tp, .int (nI T), .int vfa, .int vbr, .int vba, .int vsp, .int vhe, .int vtk, .int vva, .ref cu, .ref lt, .ref od, .ref th, .ref be, .ref ln, .int (nI S), .ref ma, .int (nI M), .ref ah, .ref bh, .ref ik, .ref la, .ref lg, .ref ce, .int vto])), (st, .inl (G 0, 196, .inl fst)), (ma, .inl (G 0, 12, .inl fma)), (ah, .inl (G 0, 110, .inl fah)), (bh, .inl (G 0, 110, .inl fbh))]) [0, 1, 2, 3, 4] rfl
    have hD9 := hD.sub (ws' := [(h0, .inr (11, [.ref st, .int (nI N), .int (nI B), .ref rp, .int vrs, .int vrb, .int vhs, .int vca, .int vxs, .int vxb, .ref tp, .int (nI T), .int vfa, .int vbr, .int vba, .int vsp, .int vhe, .int vtk, .int vva, .ref cu, .ref lt, .ref od, .ref th, .ref be, .ref ln, .int (nI S), .ref ma, .int (nI M), .ref ah, .ref bh, .ref ik, .ref la, .ref lg, .ref ce, .int vto])), (st, .inl (G 0, 196, .inl fst)), (ma, .inl (G 0, 12, .inl fma)), (ah, .inl (G 0, 110, .inl fah)), (bh, .inl (G 0, 110, .inl fbh))]) [0, 1, 2, 3, 4] (by decide) rfl
    refine W.widen (k := 0) (n := 0) (Nat.le_of_ble_eq_true rfl) (Nat.le_of_ble_eq_true rfl) ?_
    exact W.iret (v := (-1)) hx hb hr (fun t ht hW => ⟨⟨(-1), (fah, fbh), rfl, ⟨hpost, trivial⟩, ⟨by rw [ht]; exact hP9, hD9⟩⟩, hS.F ht⟩) hS.2.2 dX11_sure_11
