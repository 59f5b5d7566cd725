theorem nIm1 {n : Nat} (h : n ≤ 1000) : (nI n - 1).toInt = (n : Int) - 1 := by
  cases n with
  | zero => decide
  | succ k => rw [show nI (k + 1) - 1 = nI k from nI_pred k, nI_toInt (by omega)]; omega
theorem start_nat {x : Int32} (h : okS 48 x) : ∃ k : Nat, x + 5 = nI k ∧ 1 ≤ k ∧ k ≤ 9 := by
  have h1 := h.2.2 (by decide)
  have e : (x + 5).toInt = x.toInt + 5 := by
    have e0 : (x + 5).toInt = (x.toInt + (5 : Int32).toInt).bmod (2 ^ 32) := Int32.toInt_add x 5
    have e1 : (5 : Int32).toInt = 5 := by decide
    rw [e1, Int.bmod_eq_of_le (by omega) (by omega)] at e0
    exact e0
  obtain ⟨j, hj, ej⟩ := i32_nat (x := x + 5) (n := 10) (by omega) (by omega)
  refine ⟨j, ej, ?_, by omega⟩
  have t := congrArg Int32.toInt ej
  rw [nI_toInt (by omega)] at t
  omega
theorem okS_lo {q : Nat} {x : Int32} (h : q < 38) (h0 : 0 ≤ x.toInt) (h1 : x.toInt ≤ 9) : okS q x := ⟨fun _ => ⟨h0, h1⟩, fun h2 => absurd h2 (by omega), fun h2 => absurd h2 (by omega)⟩
theorem okS_or {q : Nat} {x : Int32} (h : 38 ≤ q) (h' : q < 48) (h0 : 0 ≤ x.toInt) (h1 : x.toInt ≤ 5) : okS q x := ⟨fun h2 => absurd h2 (by omega), fun _ _ => ⟨h0, h1⟩, fun h2 => absurd h2 (by omega)⟩
theorem okS_sd {x : Int32} (h0 : 1 ≤ x.toInt) (h1 : x.toInt ≤ 9) : okS 48 (x - 5) := by
  have e0 : (x - 5).toInt = (x.toInt - (5 : Int32).toInt).bmod (2 ^ 32) := Int32.toInt_sub x 5
  have e1 : (5 : Int32).toInt = 5 := by decide
  rw [e1, Int.bmod_eq_of_le (by omega) (by omega)] at e0
  exact ⟨fun h2 => absurd h2 (by decide), fun _ h2 => absurd h2 (by decide), fun _ => ⟨by omega, by omega⟩⟩
theorem ord_nat {fs : Nat → Int32} (h : OKS fs) {q : Nat} (hq : q < 196) (h1 : 38 ≤ q % 49) (h2 : q % 49 < 48) : ∃ j : Nat, j < 6 ∧ fs q = nI j := by
  have k := (h q hq).2.1 h1 h2
  exact i32_nat (by omega) (by omega)
def powF : Nat → Int64
  | 0 => 1
  | n + 1 => powF n * 20
theorem powF_ne {n : Nat} (h : n ≤ 10) : (powF n).toInt ≠ 0 := by
  rcases (show n = 0 ∨ n = 1 ∨ n = 2 ∨ n = 3 ∨ n = 4 ∨ n = 5 ∨ n = 6 ∨ n = 7 ∨ n = 8 ∨ n = 9 ∨ n = 10 by omega) with h|h|h|h|h|h|h|h|h|h|h <;> subst h <;> decide
theorem rem_lt {a b : Int64} (hb : b.toInt ≠ 0) : (a - a / b * b).toInt.natAbs < b.toInt.natAbs := by
  have e1 : (a - a / b * b).toInt = (a.toInt - (a / b * b).toInt).bmod (2 ^ 64) := Int64.toInt_sub a (a / b * b)
  have e2 : (a / b * b).toInt = ((a / b).toInt * b.toInt).bmod (2 ^ 64) := Int64.toInt_mul (a / b) b
  have e3 : (a / b).toInt = (a.toInt.tdiv b.toInt).bmod (2 ^ 64) := Int64.toInt_div a b
  have e4 : (a - a / b * b).toInt = (a.toInt - a.toInt.tdiv b.toInt * b.toInt).bmod (2 ^ 64) := by
    rw [e1, e2, e3]
    simp only [Int.sub_bmod_bmod, Int.bmod_mul_bmod]
  have e5 : a.toInt - a.toInt.tdiv b.toInt * b.toInt = a.toInt.tmod b.toInt := by
    have := Int.tmod_add_mul_tdiv a.toInt b.toInt
    have c := Int.mul_comm b.toInt (a.toInt.tdiv b.toInt)
    omega
  have hl := b.toInt_lt
  have hg := b.le_toInt
  have hlt : (a.toInt.tmod b.toInt).natAbs < b.toInt.natAbs := by
    rw [Int.natAbs_tmod]
    exact Nat.mod_lt _ (by omega)
  rw [e4, e5, Int.bmod_eq_of_le (by omega) (by omega)]
  exact hlt
def hQt (fs : Nat → Int32) (i : Nat) (q : Int32) : Int32 := if q = 0 then fs (2 * i) else 0
def hK' (x : Int32) : Int32 := if x = 1 then 2 else if x = 3 then 1 else 0
def hPos (x : Int32) : Int32 := if x ≤ 0 then 0 else x
def hTr (k c : Int32) : Int32 := if k = 2 ∧ ¬ c < 5 then 1 else 0
def hAbs (x : Int32) : Int32 := if 0 ≤ x then x else -x
def hJo (k x : Int32) : Int32 := if k = 5 then x / 2 else x
def hTop (x : Int32) : Int32 := if x ≤ 20 then x else 20
def rhS (fs : Nat → Int32) (i b : Nat) (q : Int32) : Int32 := hPos (hQt fs i q - hK' (fs (20 + 3 * b))) + hPos (fs (2 * i + 1) - fs (20 + 3 * b + 2)) + hTr (fs (20 + 3 * b)) (fs (2 * i + 1))
def rhN (fs : Nat → Int32) (i b : Nat) (q : Int32) : Int32 := hTop (rhS fs i b q)
def rhB (fs : Nat → Int32) (i a b : Nat) (q : Int32) : Int32 := hTop (if a = b ∨ (fs (20 + 3 * b) = 4 ∧ fs (20 + 3 * a) = 4) then rhS fs i b q else rhS fs i b q + hJo (fs (20 + 3 * b)) (hAbs (fs (20 + 3 * a + 1) - fs (20 + 3 * b + 1))))
set_option maxHeartbeats 1000000 in
set_option maxRecDepth 100000 in
theorem c_X11_end (l : Launch) (dC : Nat → ClassId) (dI : Nat → Nat → Nat) (G : Nat → ClassId) (sz : Nat) (h0 st N B rp tp T cu lt od th be ln S ma M ah bh ik la lg ce : Nat) (n vrs vrb vhs vca vxs vxb vfa vbr vba vsp vhe vtk vva vto : Int32) (hN : N ≤ 10) (hB : B ≤ 6) (hT : T ≤ 320) (hS0 : S ≤ 8) (hM : M ≤ 6) : Met l yX11_end (Cond.code yX11_end cX11_end 3 (some .int) :: GT) ({ frames := 1, cells := 0, slots := 0, locals := 25 } : Room) (PcW [.ref h0, .int n] dC dI G [(h0, .inr (11, [.ref st, .int (nI N), .int (nI B), .ref rp, .int vrs, .int vrb, .int vhs, .int vca, .int vxs, .int vxb, .ref tp, .int (nI T), .int vfa, .int vbr, .int vba, .int vsp, .int vhe, .int vtk, .int vva, .ref cu, .ref lt, .ref od, .ref th, .ref be, .ref ln, .int (nI S), .ref ma, .int (nI M), .ref ah, .ref bh, .ref ik, .ref la, .ref lg, .ref ce, .int vto]))] sz) (va_Qi (fun (r : Int32) (u : Nat) => match u with | oT => (r = if 0 ≤ n.toInt ∧ n.toInt ≤ ((T : Nat) : Int) then nI T else -1) ∧ oT = (if 0 ≤ n.toInt ∧ n.toInt ≤ ((T : Nat) : Int) then n.toNatClampNeg else T) ∧ oT ≤ 320) (fun (u : Nat) (t : State) => match u with | oT => va_P (dC, dI) vwCl [(h0, .inr (11, [.ref st, .int (nI N), .int (nI B), .ref rp, .int vrs, .int vrb, .int vhs, .int vca, .int vxs, .int vxb, .ref tp, .int (nI oT), .int vfa, .int vbr, .int vba, .int vsp, .int vhe, .int vtk, .int vva, .ref cu, .ref lt, .ref od, .ref th, .ref be, .ref ln, .int (nI S), .ref ma, .int (nI M), .ref ah, .ref bh, .ref ik, .ref la, .ref lg, .ref ce, .int vto]))] t.heap ∧ va_D (va_A [(h0, .inr (11, [.ref st, .int (nI N), .int (nI B), .ref rp, .int vrs, .int vrb, .int vhs, .int vca, .int vxs, .int vxb, .ref tp, .int (nI T), .int vfa, .int vbr, .int vba, .int vsp, .int vhe, .int vtk, .int vva, .ref cu, .ref lt, .ref od, .ref th, .ref be, .ref ln, .int (nI S), .ref ma, .int (nI M), .ref ah, .ref bh, .ref ik, .ref la, .ref lg, .ref ce, .int vto]))] sz) [(h0, .inr (11, [.ref st, .int (nI N), .int (nI B), .ref rp, .int vrs, .int vrb, .int vhs, .int vca, .int vxs, .int vxb, .ref tp, .int (nI oT), .int vfa, .int vbr, .int vba, .int vsp, .int vhe, .int vtk, .int vva, .ref cu, .ref lt, .ref od, .ref th, .ref be, .ref ln, .int (nI S), .ref ma, .int (nI M), .ref ah, .ref bh, .ref ik, .ref la, .ref lg, .ref ce, .int vto]))]) (va_A [(h0, .inr (11, [.ref st, .int (nI N), .int (nI B), .ref rp, .int vrs, .int vrb, .int vhs, .int vca, .int vxs, .int vxb, .ref tp, .int (nI T), .int vfa, .int vbr, .int vba, .int vsp, .int vhe, .int vtk, .int vva, .ref cu, .ref lt, .ref od, .ref th, .ref be, .ref ln, .int (nI S), .ref ma, .int (nI M), .ref ah, .ref bh, .ref ik, .ref la, .ref lg, .ref ce, .int vto]))] sz)) 0 0 (va_A [(h0, .inr (11, [.ref st, .int (nI N), .int (nI B), .ref rp, .int vrs, .int vrb, .int vhs, .int vca, .int vxs, .int vxb, .ref tp, .int (nI T), .int vfa, .int vbr, .int vba, .int vsp, .int vhe, .int vtk, .int vva, .ref cu, .ref lt, .ref od, .ref th, .ref be, .ref ln, .int (nI S), .ref ma, .int (nI M), .ref ah, .ref bh, .ref ik, .ref la, .ref lg, .ref ce, .int vto]))] sz) := by
  refine Met.ofW (cc := cX11_end) (maxL := 3) (ret := (some .int)) (by decide) rfl ?_
  intro p e s m args below meth c s₁ Bd hml hv
  obtain ⟨rfl, hsz, hP, hK, hD0⟩ := hv
  have hx := Bd.exec
  have hb := Bd.bytes
  have hr := Bd.returns
  have hg : ∀ w ∈ GT, w.before ([.ref h0, .int n] : List Value).toArray s = true := fun w h => atoms_spec (ws := Cond.code yX11_end cX11_end 3 (some .int) :: GT) Bd.pre w (List.mem_cons_of_mem _ h)
  have hown : s.vm.findClass RX11 = some m.cls := findClass_of_methodNamed Bd.named
  have hlocks := Bd.notSynchronized
  subst hsz
  have hD := hD0.self (sz := s.heap.size)
  generalize hAe : va_A [(h0, .inr (11, [.ref st, .int (nI N), .int (nI B), .ref rp, .int vrs, .int vrb, .int vhs, .int vca, .int vxs, .int vxb, .ref tp, .int (nI T), .int vfa, .int vbr, .int vba, .int vsp, .int vhe, .int vtk, .int vva, .ref cu, .ref lt, .ref od, .ref th, .ref be, .ref ln, .int (nI S), .ref ma, .int (nI M), .ref ah, .ref bh, .ref ik, .ref la, .ref lg, .ref ce, .int vto]))] s.heap.size = A at hD ⊢
  have hA : ∀ q : Nat, s.heap.size ≤ q → A q := fun q h => by rw [← hAe]; exact Or.inr h
  have hS : va_S A s.heap s.heap [] := va_S.rf
  have hl := lv_entry ([.ref h0, .int n]) (n := 3) (Nat.le_of_ble_eq_true rfl)
  rw [lg_entry_eq]
  generalize (lg_sl ([.ref h0, .int n]) ++ List.replicate (3 - (lg_sl ([.ref h0, .int n])).length) Slot.unset).toArray = ls at hl ⊢
  have hl : lv_has ls 3 [(0, .ref h0), (1, .int n)] := hl
  refine lv_iload_n hx hb dX11_end_0 rfl (lv_at hl 1 rfl) ?_
  refine lv_i2l (v := n.toInt64) hx hb dX11_end_1 rfl ?_
  refine lv_lconst (v := 0) hx hb dX11_end_2 (by decide) ?_
  refine lv_aload_n hx hb dX11_end_3 rfl (lv_at hl 0 rfl) ?_
  refine va_get (D := (dC, dI)) (ci := 11) (v := .int (nI T)) (C := RX11) (T := TX11) (N := 35) hx hb hg inG11 hown hK.1 hP 0 rfl rfl 11 (by decide) (hg _ wt_889) (fun _ h9 => h9) rfl dX11_end_4 ?_
  refine lv_i2l (v := (nI T).toInt64) hx hb dX11_end_7 rfl ?_
  have hPc := hP.sub (ws' := []) [] rfl
  refine va_calli (va_runS (As := [.long n.toInt64, .long 0, .long ((nI T).toInt64)]) (rest := []) ⟨hx, hb, hml, hown, hg⟩ (c_X11_in l dC dI G _ n.toInt64 0 ((nI T).toInt64) ) (kwS hg mfX11_in wt_992 ⟨Nat.le_of_ble_eq_true rfl, Nat.le_of_ble_eq_true rfl⟩) (preSR hK hPc) rfl rfl hl.1 rfl (lv_room (Nat.le_of_ble_eq_true rfl)) dX11_end_8 ⟨Nat.le_of_ble_eq_true rfl, Nat.le_of_ble_eq_true rfl⟩) hS (fun q h1 h2 => absurd h2 (Nat.not_le.mpr h1)) (fun q h => hA q (Nat.le_trans hS.1 h)) (fun r1 ur1 t H1 locs ht hvm w2 hB hz1 hk1 hS => ?_)
  have hP := keepR hP hk1
  obtain ⟨w2, w2x⟩ := w2
  try simp only [l_ii, show (0 : Int64).toInt = 0 from by decide] at w2
  subst w2
  refine lv_if_ne (tgt := 16) hx hb dX11_end_11 (by decide) (fun c3 => ?_) (fun c3 => ?_)
  · skip
    have b4 := if10_p c3
    obtain ⟨nn, hnn, rfl⟩ : ∃ j : Nat, j < 321 ∧ n = nI j := by
      have t_b4 := b4
      have t_n0 : (nI N).toInt = (N : Int) := nI_toInt (by omega)
      have t_n1 : (nI B).toInt = (B : Int) := nI_toInt (by omega)
      have t_n2 : (nI T).toInt = (T : Int) := nI_toInt (by omega)
      have t_n3 : (nI S).toInt = (S : Int) := nI_toInt (by omega)
      have t_n4 : (nI M).toInt = (M : Int) := nI_toInt (by omega)
      exact i32_nat (by omega) (by omega)
    refine lv_aload_n hx hb dX11_end_16 rfl (lv_at hl 0 rfl) ?_
    refine va_get (D := (dC, dI)) (ci := 11) (v := .int (nI T)) (C := RX11) (T := TX11) (N := 35) hx hb hg inG11 hown hK.1 hP 0 rfl rfl 11 (by decide) (hg _ wt_889) (fun _ h9 => h9) rfl dX11_end_17 ?_
    refine lv_istore_n (lv' := [(2, .int (nI T)), (0, .ref h0), (1, .int (nI nn))]) hx hb dX11_end_20 rfl hl (by decide) rfl (fun ls hl => ?_)
    refine lv_aload_n hx hb dX11_end_21 rfl (lv_at hl 1 rfl) ?_
    refine lv_iload_n hx hb dX11_end_22 rfl (lv_at hl 2 rfl) ?_
    refine va_put (D := (dC, dI)) (ci := 11) (v := .int (nI nn)) (ty := .int) (C := RX11) (T := TX11) (N := 35) hx hb hg inG11 tyX11 tyX11_ok nmX11 hown hK.1 hP hD hS 0 rfl rfl 11 (by decide) (hg _ wt_889) (fun _ h9 => h9) rfl (by decide +kernel) rfl rfl (Nat.le_of_ble_eq_true rfl) dX11_end_23 (fun H locs hP hD hS => ?_)
    have hP : va_P (dC, dI) vwCl [(h0, .inr (11, [.ref st, .int (nI N), .int (nI B), .ref rp, .int vrs, .int vrb, .int vhs, .int vca, .int vxs, .int vxb, .ref tp, .int (nI nn), .int vfa, .int vbr, .int vba, .int vsp, .int vhe, .int vtk, .int vva, .ref cu, .ref lt, .ref od, .ref th, .ref be, .ref ln, .int (nI S), .ref ma, .int (nI M), .ref ah, .ref bh, .ref ik, .ref la, .ref lg, .ref ce, .int vto]))] H := hP
    have hD : va_D A [(h0, .inr (11, [.ref st, .int (nI N), .int (nI B), .ref rp, .int vrs, .int vrb, .int vhs, .int vca, .int vxs, .int vxb, .ref tp, .int (nI nn), .int vfa, .int vbr, .int vba, .int vsp, .int vhe, .int vtk, .int vva, .ref cu, .ref lt, .ref od, .ref th, .ref be, .ref ln, .int (nI S), .ref ma, .int (nI M), .ref ah, .ref bh, .ref ik, .ref la, .ref lg, .ref ce, .int vto]))] := hD
    refine lv_iload_n hx hb dX11_end_26 rfl (lv_at hl 0 rfl) ?_
    have hpost : (nI T : Int32) = if 0 ≤ (nI nn).toInt ∧ (nI nn).toInt ≤ ((T : Nat) : Int) then nI T else -1 := by
      have t_b4 := b4
      have t_hnn := hnn
      have t_n0 : (nI N).toInt = (N : Int) := nI_toInt (by omega)
      have t_n1 : (nI B).toInt = (B : Int) := nI_toInt (by omega)
      have t_n2 : (nI T).toInt = (T : Int) := nI_toInt (by omega)
      have t_n3 : (nI S).toInt = (S : Int) := nI_toInt (by omega)
      have t_n4 : (nI M).toInt = (M : Int) := nI_toInt (by omega)
      have t_n5 : (nI nn).toInt = (nn : Int) := nI_toInt (by omega)
      have t_n0 : (nI N).toInt = (N : Int) := nI_toInt (by omega)
      have t_n1 : (nI B).toInt = (B : Int) := nI_toInt (by omega)
      have t_n2 : (nI T).toInt = (T : Int) := nI_toInt (by omega)
      have t_n3 : (nI S).toInt = (S : Int) := nI_toInt (by omega)
      have t_n4 : (nI M).toInt = (M : Int) := nI_toInt (by omega)
      have t_n5 : (nI nn).toInt = (nn : Int) := nI_toInt (by omega)
      first | rfl | ((repeat' split) <;> first | rfl | omega)
    have hP9 := hP.sub (ws' := [(h0, .inr (11, [.ref st, .int (nI N), .int (nI B), .ref rp, .int vrs, .int vrb, .int vhs, .int vca, .int vxs, .int vxb, .ref tp, .int (nI nn), .int vfa, .int vbr, .int vba, .int vsp, .int vhe, .int vtk, .int vva, .ref cu, .ref lt, .ref od, .ref th, .ref be, .ref ln, .int (nI S), .ref ma, .int (nI M), .ref ah, .ref bh, .ref ik, .ref la, .ref lg, .ref ce, .int vto]))]) [0] rfl
    have hD9 := hD.sub (ws' := [(h0, .inr (11, [.ref st, .int (nI N), .int (nI B), .ref rp, .int vrs, .int vrb, .int vhs, .int vca, .int vxs, .int vxb, .ref tp, .int (nI nn), .int vfa, .int vbr, .int vba, .int vsp, .int vhe, .int vtk, .int vva, .ref cu, .ref lt, .ref od, .ref th, .ref be, .ref ln, .int (nI S), .ref ma, .int (nI M), .ref ah, .ref bh, .ref ik, .ref la, .ref lg, .ref ce, .int vto]))]) [0] (by decide) rfl
    refine W.widen (k := 0) (n := 0) (by omega) (by omega) ?_
    exact W.iret (v := nI T) hx hb hr (fun t ht hW => ⟨⟨nI T, nn, rfl, ⟨hpost, (by have t_b4 := b4; have t_hnn := hnn; have t_n0 : (nI N).toInt = (N : Int) := nI_toInt (by omega); have t_n1 : (nI B).toInt = (B : Int) := nI_toInt (by omega); have t_n2 : (nI T).toInt = (T : Int) := nI_toInt (by omega); have t_n3 : (nI S).toInt = (S : Int) := nI_toInt (by omega); have t_n4 : (nI M).toInt = (M : Int) := nI_toInt (by omega); have t_n5 : (nI nn).toInt = (nn : Int) := nI_toInt (by omega); refine ⟨?_, by omega⟩; split <;> first | exact (nI_clamp (by omega)).symm | rfl | omega)⟩, ⟨by rw [ht]; exact hP9, hD9⟩⟩, hS.F ht⟩) hS.2.2 dX11_end_27
  · skip
    have b5 := if10_n c3
    refine lv_iconst (v := (-1)) hx hb dX11_end_14 (by decide) ?_
    have hpost : ((-1) : Int32) = if 0 ≤ n.toInt ∧ n.toInt ≤ ((T : Nat) : Int) then nI T else -1 := by
      have t_b5 := b5
      have t_n0 : (nI N).toInt = (N : Int) := nI_toInt (by omega)
      have t_n1 : (nI B).toInt = (B : Int) := nI_toInt (by omega)
      have t_n2 : (nI T).toInt = (T : Int) := nI_toInt (by omega)
      have t_n3 : (nI S).toInt = (S : Int) := nI_toInt (by omega)
      have t_n4 : (nI M).toInt = (M : Int) := nI_toInt (by omega)
      have t_n0 : (nI N).toInt = (N : Int) := nI_toInt (by omega)
      have t_n1 : (nI B).toInt = (B : Int) := nI_toInt (by omega)
      have t_n2 : (nI T).toInt = (T : Int) := nI_toInt (by omega)
      have t_n3 : (nI S).toInt = (S : Int) := nI_toInt (by omega)
      have t_n4 : (nI M).toInt = (M : Int) := nI_toInt (by omega)
      first | rfl | ((repeat' split) <;> first | rfl | omega)
    have hP9 := hP.sub (ws' := [(h0, .inr (11, [.ref st, .int (nI N), .int (nI B), .ref rp, .int vrs, .int vrb, .int vhs, .int vca, .int vxs, .int vxb, .ref tp, .int (nI T), .int vfa, .int vbr, .int vba, .int vsp, .int vhe, .int vtk, .int vva, .ref cu, .ref lt, .ref od, .ref th, .ref be, .ref ln, .int (nI S), .ref ma, .int (nI M), .ref ah, .ref bh, .ref ik, .ref la, .ref lg, .ref ce, .int vto]))]) [0] rfl
    have hD9 := hD.sub (ws' := [(h0, .inr (11, [.ref st, .int (nI N), .int (nI B), .ref rp, .int vrs, .int vrb, .int vhs, .int vca, .int vxs, .int vxb, .ref tp, .int (nI T), .int vfa, .int vbr, .int vba, .int vsp, .int vhe, .int vtk, .int vva, .ref cu, .ref lt, .ref od, .ref th, .ref be, .ref ln, .int (nI S), .ref ma, .int (nI M), .ref ah, .ref bh, .ref ik, .ref la, .ref lg, .ref ce, .int vto]))]) [0] (by decide) rfl
    refine W.widen (k := 0) (n := 0) (by omega) (by omega) ?_
    exact W.iret (v := (-1)) hx hb hr (fun t ht hW => ⟨⟨(-1), T, rfl, ⟨hpost, (by have t_b5 := b5; have t_n0 : (nI N).toInt = (N : Int) := nI_toInt (by omega); have t_n1 : (nI B).toInt = (B : Int) := nI_toInt (by omega); have t_n2 : (nI T).toInt = (T : Int) := nI_toInt (by omega); have t_n3 : (nI S).toInt = (S : Int) := nI_toInt (by omega); have t_n4 : (nI M).toInt = (M : Int) := nI_toInt (by omega); refine ⟨?_, by omega⟩; split <;> first | exact (nI_clamp (by omega)).symm | rfl | omega)⟩, ⟨by rw [ht]; exact hP9, hD9⟩⟩, hS.F ht⟩) hS.2.2 dX11_end_15

set_option maxHeartbeats 1000000 in
set_option maxRecDepth 100000 in
theorem c_X11_torn (l : Launch) (dC : Nat → ClassId) (dI : Nat → Nat → Nat) (G : Nat → ClassId) (sz : Nat) (h0 st N B rp tp T cu lt od th be ln S ma M ah bh ik la lg ce : Nat) (vrs vrb vhs vca vxs vxb vfa vbr vba vsp vhe vtk vva vto : Int32) (hN : N ≤ 10) (hB : B ≤ 6) (hT : T ≤ 320) (hS0 : S ≤ 8) (hM : M ≤ 6) : Met l yX11_torn (Cond.code yX11_torn cX11_torn 1 (some .int) :: GT) ({ frames := 0, cells := 0, slots := 0, locals := 0 } : Room) (PcR [.ref h0] dC dI G [(h0, .inr (11, [.ref st, .int (nI N), .int (nI B), .ref rp, .int vrs, .int vrb, .int vhs, .int vca, .int vxs, .int vxb, .ref tp, .int (nI T), .int vfa, .int vbr, .int vba, .int vsp, .int vhe, .int vtk, .int vva, .ref cu, .ref lt, .ref od, .ref th, .ref be, .ref ln, .int (nI S), .ref ma, .int (nI M), .ref ah, .ref bh, .ref ik, .ref la, .ref lg, .ref ce, .int vto]))] sz) (va_Qi (fun (r : Int32) (u : Unit) => match u with | _ => (True) ∧ True) (fun _ _ => True) (fun q : Nat => sz ≤ q)) 0 0 (fun q : Nat => sz ≤ q) := by
  refine Met.ofW (cc := cX11_torn) (maxL := 1) (ret := (some .int)) (by decide) rfl ?_
  intro p e s m args below meth c s₁ Bd hml hv
  obtain ⟨rfl, hsz, hP, hK⟩ := hv
  have hx := Bd.exec
  have hb := Bd.bytes
  have hr := Bd.returns
  have hg : ∀ w ∈ GT, w.before ([.ref h0] : List Value).toArray s = true := fun w h => atoms_spec (ws := Cond.code yX11_torn cX11_torn 1 (some .int) :: GT) Bd.pre w (List.mem_cons_of_mem _ h)
  have hown : s.vm.findClass RX11 = some m.cls := findClass_of_methodNamed Bd.named
  have hlocks := Bd.notSynchronized
  subst hsz
  have hA : ∀ q : Nat, s.heap.size ≤ q → (fun q : Nat => s.heap.size ≤ q) q := fun _ h => h
  have hS : va_S (fun q : Nat => s.heap.size ≤ q) s.heap s.heap [] := va_S.rf
  have hl := lv_entry ([.ref h0]) (n := 1) (Nat.le_of_ble_eq_true rfl)
  rw [lg_entry_eq]
  generalize (lg_sl ([.ref h0]) ++ List.replicate (1 - (lg_sl ([.ref h0])).length) Slot.unset).toArray = ls at hl ⊢
  have hl : lv_has ls 1 [(0, .ref h0)] := hl
  refine lv_aload_n hx hb dX11_torn_0 rfl (lv_at hl 0 rfl) ?_
  refine va_get (D := (dC, dI)) (ci := 11) (v := .int vto) (C := RX11) (T := TX11) (N := 35) hx hb hg inG11 hown hK.1 hP 0 rfl rfl 34 (by decide) (hg _ wt_912) (fun _ h9 => h9) rfl dX11_torn_1 ?_
  have hpost : True := by
    trivial
  refine W.widen (k := 0) (n := 0) (by omega) (by omega) ?_
  exact W.iret (v := vto) hx hb hr (fun t ht hW => ⟨⟨vto, (), rfl, ⟨hpost, trivial⟩, trivial⟩, hS.F ht⟩) hS.2.2 dX11_torn_4

set_option maxHeartbeats 1000000 in
set_option maxRecDepth 100000 in
theorem c_X11_isStretch (l : Launch) (dC : Nat → ClassId) (dI : Nat → Nat → Nat) (G : Nat → ClassId) (sz : Nat) (h0 st N B rp tp T cu lt od th be ln S ma M ah bh ik la lg ce : Nat) (i vrs vrb vhs vca vxs vxb vfa vbr vba vsp vhe vtk vva vto : Int32) (hN : N ≤ 10) (hB : B ≤ 6) (hT : T ≤ 320) (hS0 : S ≤ 8) (hM : M ≤ 6) : Met l yX11_isStretch (Cond.code yX11_isStretch cX11_isStretch 2 (some .boolean) :: GT) ({ frames := 1, cells := 0, slots := 0, locals := 25 } : Room) (PcR [.ref h0, .int i] dC dI G [(h0, .inr (11, [.ref st, .int (nI N), .int (nI B), .ref rp, .int vrs, .int vrb, .int vhs, .int vca, .int vxs, .int vxb, .ref tp, .int (nI T), .int vfa, .int vbr, .int vba, .int vsp, .int vhe, .int vtk, .int vva, .ref cu, .ref lt, .ref od, .ref th, .ref be, .ref ln, .int (nI S), .ref ma, .int (nI M), .ref ah, .ref bh, .ref ik, .ref la, .ref lg, .ref ce, .int vto]))] sz) (va_Qi (fun (r : Int32) (u : Unit) => match u with | _ => (r = if 0 ≤ i.toInt ∧ i.toInt < ((N : Nat) : Int) then 1 else 0) ∧ True) (fun _ _ => True) (fun q : Nat => sz ≤ q)) 0 0 (fun q : Nat => sz ≤ q) := by
  refine Met.ofW (cc := cX11_isStretch) (maxL := 2) (ret := (some .boolean)) (by decide) rfl ?_
  intro p e s m args below meth c s₁ Bd hml hv
  obtain ⟨rfl, hsz, hP, hK⟩ := hv
  have hx := Bd.exec
  have hb := Bd.bytes
  have hr := Bd.returns
  have hg : ∀ w ∈ GT, w.before ([.ref h0, .int i] : List Value).toArray s = true := fun w h => atoms_spec (ws := Cond.code yX11_isStretch cX11_isStretch 2 (some .boolean) :: GT) Bd.pre w (List.mem_cons_of_mem _ h)
  have hown : s.vm.findClass RX11 = some m.cls := findClass_of_methodNamed Bd.named
  have hlocks := Bd.notSynchronized
  subst hsz
  have hA : ∀ q : Nat, s.heap.size ≤ q → (fun q : Nat => s.heap.size ≤ q) q := fun _ h => h
  have hS : va_S (fun q : Nat => s.heap.size ≤ q) s.heap s.heap [] := va_S.rf
  have hl := lv_entry ([.ref h0, .int i]) (n := 2) (Nat.le_of_ble_eq_true rfl)
  rw [lg_entry_eq]
  generalize (lg_sl ([.ref h0, .int i]) ++ List.replicate (2 - (lg_sl ([.ref h0, .int i])).length) Slot.unset).toArray = ls at hl ⊢
  have hl : lv_has ls 2 [(0, .ref h0), (1, .int i)] := hl
  refine lv_iload_n hx hb dX11_isStretch_0 rfl (lv_at hl 1 rfl) ?_
  refine lv_i2l (v := i.toInt64) hx hb dX11_isStretch_1 rfl ?_
  refine lv_lconst (v := 0) hx hb dX11_isStretch_2 (by decide) ?_
  refine lv_aload_n hx hb dX11_isStretch_3 rfl (lv_at hl 0 rfl) ?_
  refine va_get (D := (dC, dI)) (ci := 11) (v := .int (nI N)) (C := RX11) (T := TX11) (N := 35) hx hb hg inG11 hown hK.1 hP 0 rfl rfl 1 (by decide) (hg _ wt_879) (fun _ h9 => h9) rfl dX11_isStretch_4 ?_
  refine lv_iconst (v := 1) hx hb dX11_isStretch_7 (by decide) ?_
  refine lv_isub hx hb dX11_isStretch_8 ?_
  refine lv_i2l (v := ((nI N) - 1).toInt64) hx hb dX11_isStretch_9 rfl ?_
  have hPc := hP.sub (ws' := []) [] rfl
  refine va_calli (va_runS (As := [.long i.toInt64, .long 0, .long (((nI N) - 1).toInt64)]) (rest := []) ⟨hx, hb, hml, hown, hg⟩ (c_X11_in l dC dI G _ i.toInt64 0 (((nI N) - 1).toInt64) ) (kwS hg mfX11_in wt_992 ⟨Nat.le_of_ble_eq_true rfl, Nat.le_of_ble_eq_true rfl⟩) (preSR hK hPc) rfl rfl hl.1 rfl (lv_room (Nat.le_of_ble_eq_true rfl)) dX11_isStretch_10 ⟨Nat.le_of_ble_eq_true rfl, Nat.le_of_ble_eq_true rfl⟩) hS (fun q h1 h2 => absurd h2 (Nat.not_le.mpr h1)) (fun q h => hA q (Nat.le_trans hS.1 h)) (fun r1 ur1 t H1 locs ht hvm w2 hB hz1 hk1 hS => ?_)
  have hP := keepR hP hk1
  obtain ⟨w2, w2x⟩ := w2
  try simp only [l_ii, show (0 : Int64).toInt = 0 from by decide] at w2
  subst w2
  have hpost : (if 0 ≤ i.toInt ∧ i.toInt ≤ ((nI N) - 1).toInt then 1 else 0 : Int32) = if 0 ≤ i.toInt ∧ i.toInt < ((N : Nat) : Int) then 1 else 0 := by
    have e9 := nIm1 (n := N) (by omega)
    (repeat' split) <;> first | rfl | omega
  refine W.widen (k := 0) (n := 0) (by omega) (by omega) ?_
  exact W.zret (v := if 0 ≤ i.toInt ∧ i.toInt ≤ ((nI N) - 1).toInt then 1 else 0) hx hb hr (by first | rfl | decide | exact zn01 (by split <;> simp)) (fun t ht hW => ⟨⟨if 0 ≤ i.toInt ∧ i.toInt ≤ ((nI N) - 1).toInt then 1 else 0, (), rfl, ⟨hpost, trivial⟩, trivial⟩, hS.F ht⟩) hS.2.2 dX11_isStretch_13

set_option maxHeartbeats 1000000 in
set_option maxRecDepth 100000 in
theorem c_X11_isBearer (l : Launch) (dC : Nat → ClassId) (dI : Nat → Nat → Nat) (G : Nat → ClassId) (sz : Nat) (h0 st N B rp tp T cu lt od th be ln S ma M ah bh ik la lg ce : Nat) (i vrs vrb vhs vca vxs vxb vfa vbr vba vsp vhe vtk vva vto : Int32) (hN : N ≤ 10) (hB : B ≤ 6) (hT : T ≤ 320) (hS0 : S ≤ 8) (hM : M ≤ 6) : Met l yX11_isBearer (Cond.code yX11_isBearer cX11_isBearer 2 (some .boolean) :: GT) ({ frames := 1, cells := 0, slots := 0, locals := 25 } : Room) (PcR [.ref h0, .int i] dC dI G [(h0, .inr (11, [.ref st, .int (nI N), .int (nI B), .ref rp, .int vrs, .int vrb, .int vhs, .int vca, .int vxs, .int vxb, .ref tp, .int (nI T), .int vfa, .int vbr, .int vba, .int vsp, .int vhe, .int vtk, .int vva, .ref cu, .ref lt, .ref od, .ref th, .ref be, .ref ln, .int (nI S), .ref ma, .int (nI M), .ref ah, .ref bh, .ref ik, .ref la, .ref lg, .ref ce, .int vto]))] sz) (va_Qi (fun (r : Int32) (u : Unit) => match u with | _ => (r = if 0 ≤ i.toInt ∧ i.toInt < ((B : Nat) : Int) then 1 else 0) ∧ True) (fun _ _ => True) (fun q : Nat => sz ≤ q)) 0 0 (fun q : Nat => sz ≤ q) := by
  refine Met.ofW (cc := cX11_isBearer) (maxL := 2) (ret := (some .boolean)) (by decide) rfl ?_
  intro p e s m args below meth c s₁ Bd hml hv
  obtain ⟨rfl, hsz, hP, hK⟩ := hv
  have hx := Bd.exec
  have hb := Bd.bytes
  have hr := Bd.returns
  have hg : ∀ w ∈ GT, w.before ([.ref h0, .int i] : List Value).toArray s = true := fun w h => atoms_spec (ws := Cond.code yX11_isBearer cX11_isBearer 2 (some .boolean) :: GT) Bd.pre w (List.mem_cons_of_mem _ h)
  have hown : s.vm.findClass RX11 = some m.cls := findClass_of_methodNamed Bd.named
  have hlocks := Bd.notSynchronized
  subst hsz
  have hA : ∀ q : Nat, s.heap.size ≤ q → (fun q : Nat => s.heap.size ≤ q) q := fun _ h => h
  have hS : va_S (fun q : Nat => s.heap.size ≤ q) s.heap s.heap [] := va_S.rf
  have hl := lv_entry ([.ref h0, .int i]) (n := 2) (Nat.le_of_ble_eq_true rfl)
  rw [lg_entry_eq]
  generalize (lg_sl ([.ref h0, .int i]) ++ List.replicate (2 - (lg_sl ([.ref h0, .int i])).length) Slot.unset).toArray = ls at hl ⊢
  have hl : lv_has ls 2 [(0, .ref h0), (1, .int i)] := hl
  refine lv_iload_n hx hb dX11_isBearer_0 rfl (lv_at hl 1 rfl) ?_
  refine lv_i2l (v := i.toInt64) hx hb dX11_isBearer_1 rfl ?_
  refine lv_lconst (v := 0) hx hb dX11_isBearer_2 (by decide) ?_
  refine lv_aload_n hx hb dX11_isBearer_3 rfl (lv_at hl 0 rfl) ?_
  refine va_get (D := (dC, dI)) (ci := 11) (v := .int (nI B)) (C := RX11) (T := TX11) (N := 35) hx hb hg inG11 hown hK.1 hP 0 rfl rfl 2 (by decide) (hg _ wt_880) (fun _ h9 => h9) rfl dX11_isBearer_4 ?_
  refine lv_iconst (v := 1) hx hb dX11_isBearer_7 (by decide) ?_
  refine lv_isub hx hb dX11_isBearer_8 ?_
  refine lv_i2l (v := ((nI B) - 1).toInt64) hx hb dX11_isBearer_9 rfl ?_
  have hPc := hP.sub (ws' := []) [] rfl
  refine va_calli (va_runS (As := [.long i.toInt64, .long 0, .long (((nI B) - 1).toInt64)]) (rest := []) ⟨hx, hb, hml, hown, hg⟩ (c_X11_in l dC dI G _ i.toInt64 0 (((nI B) - 1).toInt64) ) (kwS hg mfX11_in wt_992 ⟨Nat.le_of_ble_eq_true rfl, Nat.le_of_ble_eq_true rfl⟩) (preSR hK hPc) rfl rfl hl.1 rfl (lv_room (Nat.le_of_ble_eq_true rfl)) dX11_isBearer_10 ⟨Nat.le_of_ble_eq_true rfl, Nat.le_of_ble_eq_true rfl⟩) hS (fun q h1 h2 => absurd h2 (Nat.not_le.mpr h1)) (fun q h => hA q (Nat.le_trans hS.1 h)) (fun r1 ur1 t H1 locs ht hvm w2 hB hz1 hk1 hS => ?_)
  have hP := keepR hP hk1
  obtain ⟨w2, w2x⟩ := w2
  try simp only [l_ii, show (0 : Int64).toInt = 0 from by decide] at w2
  subst w2
  have hpost : (if 0 ≤ i.toInt ∧ i.toInt ≤ ((nI B) - 1).toInt then 1 else 0 : Int32) = if 0 ≤ i.toInt ∧ i.toInt < ((B : Nat) : Int) then 1 else 0 := by
    have e9 := nIm1 (n := B) (by omega)
    (repeat' split) <;> first | rfl | omega
  refine W.widen (k := 0) (n := 0) (by omega) (by omega) ?_
  exact W.zret (v := if 0 ≤ i.toInt ∧ i.toInt ≤ ((nI B) - 1).toInt then 1 else 0) hx hb hr (by first | rfl | decide | exact zn01 (by split <;> simp)) (fun t ht hW => ⟨⟨if 0 ≤ i.toInt ∧ i.toInt ≤ ((nI B) - 1).toInt then 1 else 0, (), rfl, ⟨hpost, trivial⟩, trivial⟩, hS.F ht⟩) hS.2.2 dX11_isBearer_13

set_option maxHeartbeats 1000000 in
set_option maxRecDepth 100000 in
theorem c_X11_startNow (l : Launch) (dC : Nat → ClassId) (dI : Nat → Nat → Nat) (G : Nat → ClassId) (sz : Nat) (h0 st N B rp tp T cu lt od th be ln S ma M ah bh ik la lg ce : Nat) (vrs vrb vhs vca vxs vxb vfa vbr vba vsp vhe vtk vva vto : Int32) (fst : Nat → Int32) (hN : N ≤ 10) (hB : B ≤ 6) (hT : T ≤ 320) (hS0 : S ≤ 8) (hM : M ≤ 6) (hst : OKS fst) : Met l yX11_startNow (Cond.code yX11_startNow cX11_startNow 1 (some .int) :: GT) ({ frames := 0, cells := 0, slots := 0, locals := 0 } : Room) (PcR [.ref h0] dC dI G [(h0, .inr (11, [.ref st, .int (nI N), .int (nI B), .ref rp, .int vrs, .int vrb, .int vhs, .int vca, .int vxs, .int vxb, .ref tp, .int (nI T), .int vfa, .int vbr, .int vba, .int vsp, .int vhe, .int vtk, .int vva, .ref cu, .ref lt, .ref od, .ref th, .ref be, .ref ln, .int (nI S), .ref ma, .int (nI M), .ref ah, .ref bh, .ref ik, .ref la, .ref lg, .ref ce, .int vto])), (st, .inl (G 0, 196, .inl fst))] sz) (va_Qi (fun (r : Int32) (u : Unit) => match u with | _ => (∃ k : Nat, r = nI k ∧ 1 ≤ k ∧ k ≤ 9) ∧ True) (fun _ _ => True) (fun q : Nat => sz ≤ q)) 0 0 (fun q : Nat => sz ≤ q) := by
  refine Met.ofW (cc := cX11_startNow) (maxL := 1) (ret := (some .int)) (by decide) rfl ?_
  intro p e s m args below meth c s₁ Bd hml hv
  obtain ⟨rfl, hsz, hP, hK⟩ := hv
  have hx := Bd.exec
  have hb := Bd.bytes
  have hr := Bd.returns
  have hg : ∀ w ∈ GT, w.before ([.ref h0] : List Value).toArray s = true := fun w h => atoms_spec (ws := Cond.code yX11_startNow cX11_startNow 1 (some .int) :: GT) Bd.pre w (List.mem_cons_of_mem _ h)
  have hown : s.vm.findClass RX11 = some m.cls := findClass_of_methodNamed Bd.named
  have hlocks := Bd.notSynchronized
  subst hsz
  have hA : ∀ q : Nat, s.heap.size ≤ q → (fun q : Nat => s.heap.size ≤ q) q := fun _ h => h
  have hS : va_S (fun q : Nat => s.heap.size ≤ q) s.heap s.heap [] := va_S.rf
  have hl := lv_entry ([.ref h0]) (n := 1) (Nat.le_of_ble_eq_true rfl)
  rw [lg_entry_eq]
  generalize (lg_sl ([.ref h0]) ++ List.replicate (1 - (lg_sl ([.ref h0])).length) Slot.unset).toArray = ls at hl ⊢
  have hl : lv_has ls 1 [(0, .ref h0)] := hl
  refine lv_aload_n hx hb dX11_startNow_0 rfl (lv_at hl 0 rfl) ?_
  refine va_get (D := (dC, dI)) (ci := 11) (v := .ref st) (C := RX11) (T := TX11) (N := 35) hx hb hg inG11 hown hK.1 hP 0 rfl rfl 0 (by decide) (hg _ wt_878) (fun _ h9 => h9) rfl dX11_startNow_1 ?_
  refine lv_bipush (v := 48) hx hb dX11_startNow_4 (by decide) ?_
  refine va_iald hx hb hK.1 hP 1 0 rfl rfl (vp_in_iff.mpr ⟨by decide, by decide⟩) dX11_startNow_6 ?_
  refine lv_cg (y := fst 48) (by rfl) ?_
  refine lv_iconst (v := 5) hx hb dX11_startNow_7 (by decide) ?_
  refine lv_iadd hx hb dX11_startNow_8 ?_
  have hpost : ∃ k : Nat, ((fst 48) + 5 : Int32) = nI k ∧ 1 ≤ k ∧ k ≤ 9 := by
    exact start_nat (hst 48 (by omega))
  refine W.widen (k := 0) (n := 0) (by omega) (by omega) ?_
  exact W.iret (v := (fst 48) + 5) hx hb hr (fun t ht hW => ⟨⟨(fst 48) + 5, (), rfl, ⟨hpost, trivial⟩, trivial⟩, hS.F ht⟩) hS.2.2 dX11_startNow_9

set_option maxHeartbeats 1000000 in
set_option maxRecDepth 100000 in
theorem c_X11_rule (l : Launch) (dC : Nat → ClassId) (dI : Nat → Nat → Nat) (G : Nat → ClassId) (sz : Nat) (h0 st N B rp tp T cu lt od th be ln S ma M ah bh ik la lg ce : Nat) (what vrs vrb vhs vca vxs vxb vfa vbr vba vsp vhe vtk vva vto : Int32) (fst : Nat → Int32) (hN : N ≤ 10) (hB : B ≤ 6) (hT : T ≤ 320) (hS0 : S ≤ 8) (hM : M ≤ 6) (hst : OKS fst) : Met l yX11_rule (Cond.code yX11_rule cX11_rule 2 (some .int) :: GT) ({ frames := 1, cells := 0, slots := 0, locals := 20 } : Room) (PcR [.ref h0, .int what] dC dI G [(h0, .inr (11, [.ref st, .int (nI N), .int (nI B), .ref rp, .int vrs, .int vrb, .int vhs, .int vca, .int vxs, .int vxb, .ref tp, .int (nI T), .int vfa, .int vbr, .int vba, .int vsp, .int vhe, .int vtk, .int vva, .ref cu, .ref lt, .ref od, .ref th, .ref be, .ref ln, .int (nI S), .ref ma, .int (nI M), .ref ah, .ref bh, .ref ik, .ref la, .ref lg, .ref ce, .int vto])), (st, .inl (G 0, 196, .inl fst))] sz) (va_Qi (fun (r : Int32) (u : Unit) => match u with | _ => (True) ∧ True) (fun _ _ => True) (fun q : Nat => sz ≤ q)) 0 0 (fun q : Nat => sz ≤ q) := by
  refine Met.ofW (cc := cX11_rule) (maxL := 2) (ret := (some .int)) (by decide) rfl ?_
  intro p e s m args below meth c s₁ Bd hml hv
  obtain ⟨rfl, hsz, hP, hK⟩ := hv
  have hx := Bd.exec
  have hb := Bd.bytes
  have hr := Bd.returns
  have hg : ∀ w ∈ GT, w.before ([.ref h0, .int what] : List Value).toArray s = true := fun w h => atoms_spec (ws := Cond.code yX11_rule cX11_rule 2 (some .int) :: GT) Bd.pre w (List.mem_cons_of_mem _ h)
  have hown : s.vm.findClass RX11 = some m.cls := findClass_of_methodNamed Bd.named
  have hlocks := Bd.notSynchronized
  subst hsz
  have hA : ∀ q : Nat, s.heap.size ≤ q → (fun q : Nat => s.heap.size ≤ q) q := fun _ h => h
  have hS : va_S (fun q : Nat => s.heap.size ≤ q) s.heap s.heap [] := va_S.rf
  have hl := lv_entry ([.ref h0, .int what]) (n := 2) (Nat.le_of_ble_eq_true rfl)
  rw [lg_entry_eq]
  generalize (lg_sl ([.ref h0, .int what]) ++ List.replicate (2 - (lg_sl ([.ref h0, .int what])).length) Slot.unset).toArray = ls at hl ⊢
  have hl : lv_has ls 2 [(0, .ref h0), (1, .int what)] := hl
  refine lv_iload_n hx hb dX11_rule_0 rfl (lv_at hl 1 rfl) ?_
  refine lv_if_ne (tgt := 11) hx hb dX11_rule_1 (by decide) (fun c1 => ?_) (fun c1 => ?_)
  · skip
    refine lv_iload_n hx hb dX11_rule_11 rfl (lv_at hl 1 rfl) ?_
    refine lv_iconst (v := 1) hx hb dX11_rule_12 (by decide) ?_
    refine lv_icmp_ne (tgt := 23) hx hb dX11_rule_13 (by decide) (fun c2 => ?_) (fun c2 => ?_)
    · skip
      refine lv_iload_n hx hb dX11_rule_23 rfl (lv_at hl 1 rfl) ?_
      refine lv_iconst (v := 2) hx hb dX11_rule_24 (by decide) ?_
      refine lv_icmp_ne (tgt := 35) hx hb dX11_rule_25 (by decide) (fun c3 => ?_) (fun c3 => ?_)
      · skip
        refine lv_iconst (v := (-1)) hx hb dX11_rule_35 (by decide) ?_
        have hpost : True := by
          trivial
        refine W.widen (k := 0) (n := 0) (by omega) (by omega) ?_
        exact W.iret (v := (-1)) hx hb hr (fun t ht hW => ⟨⟨(-1), (), rfl, ⟨hpost, trivial⟩, trivial⟩, hS.F ht⟩) hS.2.2 dX11_rule_36
      · skip
        refine lv_aload_n hx hb dX11_rule_28 rfl (lv_at hl 0 rfl) ?_
        have hPc := hP.sub (ws' := [(h0, .inr (11, [.ref st, .int (nI N), .int (nI B), .ref rp, .int vrs, .int vrb, .int vhs, .int vca, .int vxs, .int vxb, .ref tp, .int (nI T), .int vfa, .int vbr, .int vba, .int vsp, .int vhe, .int vtk, .int vva, .ref cu, .ref lt, .ref od, .ref th, .ref be, .ref ln, .int (nI S), .ref ma, .int (nI M), .ref ah, .ref bh, .ref ik, .ref la, .ref lg, .ref ce, .int vto])), (st, .inl (G 0, 196, .inl fst))]) [0, 1] rfl
        refine va_calli (va_runV (As := []) (rest := []) ⟨hx, hb, hml, hown, hg⟩ (c_X11_startNow l dC dI G _ h0 st N B rp tp T cu lt od th be ln S ma M ah bh ik la lg ce vrs vrb vhs vca vxs vxb vfa vbr vba vsp vhe vtk vva vto fst (by have t_c1 := neI c1; have t_c2 := neI c2; have t_c3 := eqI c3; have : (0 : Int32).toInt = 0 := (by decide); have : (1 : Int32).toInt = 1 := (by decide); have : (2 : Int32).toInt = 2 := (by decide); have t_n0 : (nI N).toInt = (N : Int) := nI_toInt (by omega); have t_n1 : (nI B).toInt = (B : Int) := nI_toInt (by omega); have t_n2 : (nI T).toInt = (T : Int) := nI_toInt (by omega); have t_n3 : (nI S).toInt = (S : Int) := nI_toInt (by omega); have t_n4 : (nI M).toInt = (M : Int) := nI_toInt (by omega); omega) (by have t_c1 := neI c1; have t_c2 := neI c2; have t_c3 := eqI c3; have : (0 : Int32).toInt = 0 := (by decide); have : (1 : Int32).toInt = 1 := (by decide); have : (2 : Int32).toInt = 2 := (by decide); have t_n0 : (nI N).toInt = (N : Int) := nI_toInt (by omega); have t_n1 : (nI B).toInt = (B : Int) := nI_toInt (by omega); have t_n2 : (nI T).toInt = (T : Int) := nI_toInt (by omega); have t_n3 : (nI S).toInt = (S : Int) := nI_toInt (by omega); have t_n4 : (nI M).toInt = (M : Int) := nI_toInt (by omega); omega) (by have t_c1 := neI c1; have t_c2 := neI c2; have t_c3 := eqI c3; have : (0 : Int32).toInt = 0 := (by decide); have : (1 : Int32).toInt = 1 := (by decide); have : (2 : Int32).toInt = 2 := (by decide); have t_n0 : (nI N).toInt = (N : Int) := nI_toInt (by omega); have t_n1 : (nI B).toInt = (B : Int) := nI_toInt (by omega); have t_n2 : (nI T).toInt = (T : Int) := nI_toInt (by omega); have t_n3 : (nI S).toInt = (S : Int) := nI_toInt (by omega); have t_n4 : (nI M).toInt = (M : Int) := nI_toInt (by omega); omega) (by have t_c1 := neI c1; have t_c2 := neI c2; have t_c3 := eqI c3; have : (0 : Int32).toInt = 0 := (by decide); have : (1 : Int32).toInt = 1 := (by decide); have : (2 : Int32).toInt = 2 := (by decide); have t_n0 : (nI N).toInt = (N : Int) := nI_toInt (by omega); have t_n1 : (nI B).toInt = (B : Int) := nI_toInt (by omega); have t_n2 : (nI T).toInt = (T : Int) := nI_toInt (by omega); have t_n3 : (nI S).toInt = (S : Int) := nI_toInt (by omega); have t_n4 : (nI M).toInt = (M : Int) := nI_toInt (by omega); omega) (by have t_c1 := neI c1; have t_c2 := neI c2; have t_c3 := eqI c3; have : (0 : Int32).toInt = 0 := (by decide); have : (1 : Int32).toInt = 1 := (by decide); have : (2 : Int32).toInt = 2 := (by decide); have t_n0 : (nI N).toInt = (N : Int) := nI_toInt (by omega); have t_n1 : (nI B).toInt = (B : Int) := nI_toInt (by omega); have t_n2 : (nI T).toInt = (T : Int) := nI_toInt (by omega); have t_n3 : (nI S).toInt = (S : Int) := nI_toInt (by omega); have t_n4 : (nI M).toInt = (M : Int) := nI_toInt (by omega); omega) (by have t_c1 := neI c1; have t_c2 := neI c2; have t_c3 := eqI c3; have : (0 : Int32).toInt = 0 := (by decide); have : (1 : Int32).toInt = 1 := (by decide); have : (2 : Int32).toInt = 2 := (by decide); have t_n0 : (nI N).toInt = (N : Int) := nI_toInt (by omega); have t_n1 : (nI B).toInt = (B : Int) := nI_toInt (by omega); have t_n2 : (nI T).toInt = (T : Int) := nI_toInt (by omega); have t_n3 : (nI S).toInt = (S : Int) := nI_toInt (by omega); have t_n4 : (nI M).toInt = (M : Int) := nI_toInt (by omega); omega)) (kwV hg mfX11_startNow wt_1044 ⟨Nat.le_of_ble_eq_true rfl, Nat.le_of_ble_eq_true rfl⟩) (preVR hK hPc (ci := 11) rfl rfl) rfl rfl hl.1 rfl (lv_room (Nat.le_of_ble_eq_true rfl)) dX11_rule_29 ⟨Nat.le_of_ble_eq_true rfl, Nat.le_of_ble_eq_true rfl⟩) hS (fun q h1 h2 => absurd h2 (Nat.not_le.mpr h1)) (fun q h => hA q (Nat.le_trans hS.1 h)) (fun r4 ur4 t H1 locs ht hvm w5 hB hz1 hk1 hS => ?_)
        have hP := keepR hP hk1
        obtain ⟨w5, w5x⟩ := w5
        obtain ⟨k6, w5, w5a, w5b⟩ := w5
        subst w5
        refine lv_goto (tgt := 36) hx hb dX11_rule_32 (by decide) ?_
        have hpost : True := by
          trivial
        refine W.widen (k := 0) (n := 0) (by omega) (by omega) ?_
        exact W.iret (v := nI k6) hx hb hr (fun t ht hW => ⟨⟨nI k6, (), rfl, ⟨hpost, trivial⟩, trivial⟩, hS.F ht⟩) hS.2.2 dX11_rule_36
    · skip
      refine lv_aload_n hx hb dX11_rule_16 rfl (lv_at hl 0 rfl) ?_
      refine va_get (D := (dC, dI)) (ci := 11) (v := .int (nI B)) (C := RX11) (T := TX11) (N := 35) hx hb hg inG11 hown hK.1 hP 0 rfl rfl 2 (by decide) (hg _ wt_880) (fun _ h9 => h9) rfl dX11_rule_17 ?_
      refine lv_goto (tgt := 36) hx hb dX11_rule_20 (by decide) ?_
      have hpost : True := by
        trivial
      refine W.widen (k := 0) (n := 0) (by omega) (by omega) ?_
      exact W.iret (v := nI B) hx hb hr (fun t ht hW => ⟨⟨nI B, (), rfl, ⟨hpost, trivial⟩, trivial⟩, hS.F ht⟩) hS.2.2 dX11_rule_36
  · skip
    refine lv_aload_n hx hb dX11_rule_4 rfl (lv_at hl 0 rfl) ?_
    refine va_get (D := (dC, dI)) (ci := 11) (v := .int (nI N)) (C := RX11) (T := TX11) (N := 35) hx hb hg inG11 hown hK.1 hP 0 rfl rfl 1 (by decide) (hg _ wt_879) (fun _ h9 => h9) rfl dX11_rule_5 ?_
    refine lv_goto (tgt := 36) hx hb dX11_rule_8 (by decide) ?_
    have hpost : True := by
      trivial
    refine W.widen (k := 0) (n := 0) (by omega) (by omega) ?_
    exact W.iret (v := nI N) hx hb hr (fun t ht hW => ⟨⟨nI N, (), rfl, ⟨hpost, trivial⟩, trivial⟩, hS.F ht⟩) hS.2.2 dX11_rule_36

set_option maxHeartbeats 1000000 in
set_option maxRecDepth 100000 in
theorem c_X11_stretch (l : Launch) (dC : Nat → ClassId) (dI : Nat → Nat → Nat) (G : Nat → ClassId) (sz : Nat) (h0 st N B rp tp T cu lt od th be ln S ma M ah bh ik la lg ce : Nat) (i what vrs vrb vhs vca vxs vxb vfa vbr vba vsp vhe vtk vva vto : Int32) (fst : Nat → Int32) (hN : N ≤ 10) (hB : B ≤ 6) (hT : T ≤ 320) (hS0 : S ≤ 8) (hM : M ≤ 6) : Met l yX11_stretch (Cond.code yX11_stretch cX11_stretch 3 (some .int) :: GT) ({ frames := 2, cells := 0, slots := 0, locals := 46 } : Room) (PcR [.ref h0, .int i, .int what] dC dI G [(h0, .inr (11, [.ref st, .int (nI N), .int (nI B), .ref rp, .int vrs, .int vrb, .int vhs, .int vca, .int vxs, .int vxb, .ref tp, .int (nI T), .int vfa, .int vbr, .int vba, .int vsp, .int vhe, .int vtk, .int vva, .ref cu, .ref lt, .ref od, .ref th, .ref be, .ref ln, .int (nI S), .ref ma, .int (nI M), .ref ah, .ref bh, .ref ik, .ref la, .ref lg, .ref ce, .int vto])), (st, .inl (G 0, 196, .inl fst))] sz) (va_Qi (fun (r : Int32) (u : Unit) => match u with | _ => (True) ∧ True) (fun _ _ => True) (fun q : Nat => sz ≤ q)) 0 0 (fun q : Nat => sz ≤ q) := by
  refine Met.ofW (cc := cX11_stretch) (maxL := 3) (ret := (some .int)) (by decide) rfl ?_
  intro p e s m args below meth c s₁ Bd hml hv
  obtain ⟨rfl, hsz, hP, hK⟩ := hv
  have hx := Bd.exec
  have hb := Bd.bytes
  have hr := Bd.returns
  have hg : ∀ w ∈ GT, w.before ([.ref h0, .int i, .int what] : List Value).toArray s = true := fun w h => atoms_spec (ws := Cond.code yX11_stretch cX11_stretch 3 (some .int) :: GT) Bd.pre w (List.mem_cons_of_mem _ h)
  have hown : s.vm.findClass RX11 = some m.cls := findClass_of_methodNamed Bd.named
  have hlocks := Bd.notSynchronized
  subst hsz
  have hA : ∀ q : Nat, s.heap.size ≤ q → (fun q : Nat => s.heap.size ≤ q) q := fun _ h => h
  have hS : va_S (fun q : Nat => s.heap.size ≤ q) s.heap s.heap [] := va_S.rf
  have hl := lv_entry ([.ref h0, .int i, .int what]) (n := 3) (Nat.le_of_ble_eq_true rfl)
  rw [lg_entry_eq]
  generalize (lg_sl ([.ref h0, .int i, .int what]) ++ List.replicate (3 - (lg_sl ([.ref h0, .int i, .int what])).length) Slot.unset).toArray = ls at hl ⊢
  have hl : lv_has ls 3 [(0, .ref h0), (1, .int i), (2, .int what)] := hl
  refine lv_aload_n hx hb dX11_stretch_0 rfl (lv_at hl 0 rfl) ?_
  refine lv_iload_n hx hb dX11_stretch_1 rfl (lv_at hl 1 rfl) ?_
  have hPc := hP.sub (ws' := [(h0, .inr (11, [.ref st, .int (nI N), .int (nI B), .ref rp, .int vrs, .int vrb, .int vhs, .int vca, .int vxs, .int vxb, .ref tp, .int (nI T), .int vfa, .int vbr, .int vba, .int vsp, .int vhe, .int vtk, .int vva, .ref cu, .ref lt, .ref od, .ref th, .ref be, .ref ln, .int (nI S), .ref ma, .int (nI M), .ref ah, .ref bh, .ref ik, .ref la, .ref lg, .ref ce, .int vto]))]) [0] rfl
  refine va_calli (va_runV (As := [.int i]) (rest := []) ⟨hx, hb, hml, hown, hg⟩ (c_X11_isStretch l dC dI G _ h0 st N B rp tp T cu lt od th be ln S ma M ah bh ik la lg ce i vrs vrb vhs vca vxs vxb vfa vbr vba vsp vhe vtk vva vto (by have t_n0 : (nI N).toInt = (N : Int) := nI_toInt (by omega); have t_n1 : (nI B).toInt = (B : Int) := nI_toInt (by omega); have t_n2 : (nI T).toInt = (T : Int) := nI_toInt (by omega); have t_n3 : (nI S).toInt = (S : Int) := nI_toInt (by omega); have t_n4 : (nI M).toInt = (M : Int) := nI_toInt (by omega); omega) (by have t_n0 : (nI N).toInt = (N : Int) := nI_toInt (by omega); have t_n1 : (nI B).toInt = (B : Int) := nI_toInt (by omega); have t_n2 : (nI T).toInt = (T : Int) := nI_toInt (by omega); have t_n3 : (nI S).toInt = (S : Int) := nI_toInt (by omega); have t_n4 : (nI M).toInt = (M : Int) := nI_toInt (by omega); omega) (by have t_n0 : (nI N).toInt = (N : Int) := nI_toInt (by omega); have t_n1 : (nI B).toInt = (B : Int) := nI_toInt (by omega); have t_n2 : (nI T).toInt = (T : Int) := nI_toInt (by omega); have t_n3 : (nI S).toInt = (S : Int) := nI_toInt (by omega); have t_n4 : (nI M).toInt = (M : Int) := nI_toInt (by omega); omega) (by have t_n0 : (nI N).toInt = (N : Int) := nI_toInt (by omega); have t_n1 : (nI B).toInt = (B : Int) := nI_toInt (by omega); have t_n2 : (nI T).toInt = (T : Int) := nI_toInt (by omega); have t_n3 : (nI S).toInt = (S : Int) := nI_toInt (by omega); have t_n4 : (nI M).toInt = (M : Int) := nI_toInt (by omega); omega) (by have t_n0 : (nI N).toInt = (N : Int) := nI_toInt (by omega); have t_n1 : (nI B).toInt = (B : Int) := nI_toInt (by omega); have t_n2 : (nI T).toInt = (T : Int) := nI_toInt (by omega); have t_n3 : (nI S).toInt = (S : Int) := nI_toInt (by omega); have t_n4 : (nI M).toInt = (M : Int) := nI_toInt (by omega); omega)) (kwV hg mfX11_isStretch wt_1052 ⟨Nat.le_of_ble_eq_true rfl, Nat.le_of_ble_eq_true rfl⟩) (preVR hK hPc (ci := 11) rfl rfl) rfl rfl hl.1 rfl (lv_room (Nat.le_of_ble_eq_true rfl)) dX11_stretch_2 ⟨Nat.le_of_ble_eq_true rfl, Nat.le_of_ble_eq_true rfl⟩) hS (fun q h1 h2 => absurd h2 (Nat.not_le.mpr h1)) (fun q h => hA q (Nat.le_trans hS.1 h)) (fun r1 ur1 t H1 locs ht hvm w2 hB hz1 hk1 hS => ?_)
  have hP := keepR hP hk1
  obtain ⟨w2, w2x⟩ := w2
  try simp only [l_ii, show (0 : Int32).toInt = 0 from by decide] at w2
  try rw [nI_toInt (n := N) (by omega)] at w2
  subst w2
  refine lv_if_eq (tgt := 20) hx hb dX11_stretch_5 (by decide) (fun c3 => ?_) (fun c3 => ?_)
  · skip
    have b4 := if10_n c3
    refine lv_iconst (v := (-1)) hx hb dX11_stretch_20 (by decide) ?_
    have hpost : True := by
      trivial
    refine W.widen (k := 0) (n := 0) (by omega) (by omega) ?_
    exact W.iret (v := (-1)) hx hb hr (fun t ht hW => ⟨⟨(-1), (), rfl, ⟨hpost, trivial⟩, trivial⟩, hS.F ht⟩) hS.2.2 dX11_stretch_21
  · skip
    have b5 := if10_p c3
    refine lv_iload_n hx hb dX11_stretch_8 rfl (lv_at hl 2 rfl) ?_
    refine lv_i2l (v := what.toInt64) hx hb dX11_stretch_9 rfl ?_
    refine lv_lconst (v := 0) hx hb dX11_stretch_10 (by decide) ?_
    refine lv_ldc2 (v := 2) hx hb hown (hg _ wt_1056) dX11_stretch_11 ?_
    have hPc := hP.sub (ws' := []) [] rfl
    refine va_calli (va_runS (As := [.long what.toInt64, .long 0, .long 2]) (rest := []) ⟨hx, hb, hml, hown, hg⟩ (c_X11_in l dC dI G _ what.toInt64 0 2 ) (kwS hg mfX11_in wt_992 ⟨Nat.le_of_ble_eq_true rfl, Nat.le_of_ble_eq_true rfl⟩) (preSR hK hPc) rfl rfl hl.1 rfl (lv_room (Nat.le_of_ble_eq_true rfl)) dX11_stretch_14 ⟨Nat.le_of_ble_eq_true rfl, Nat.le_of_ble_eq_true rfl⟩) hS (fun q h1 h2 => absurd h2 (Nat.not_le.mpr h1)) (fun q h => hA q (Nat.le_trans hS.1 h)) (fun r6 ur6 t H1 locs ht hvm w7 hB hz1 hk1 hS => ?_)
    have hP := keepR hP hk1
    obtain ⟨w7, w7x⟩ := w7
    try simp only [l_ii, show (0 : Int64).toInt = 0 from by decide, show (2 : Int64).toInt = 2 from by decide] at w7
    subst w7
    refine lv_if_ne (tgt := 22) hx hb dX11_stretch_17 (by decide) (fun c8 => ?_) (fun c8 => ?_)
    · skip
      have b9 := if10_p c8
      obtain ⟨ii, hii, rfl⟩ : ∃ j : Nat, j < 10 ∧ i = nI j := by
        have t_b5 := b5
        have t_b9 := b9
        have t_n0 : (nI N).toInt = (N : Int) := nI_toInt (by omega)
        have t_n1 : (nI B).toInt = (B : Int) := nI_toInt (by omega)
        have t_n2 : (nI T).toInt = (T : Int) := nI_toInt (by omega)
        have t_n3 : (nI S).toInt = (S : Int) := nI_toInt (by omega)
        have t_n4 : (nI M).toInt = (M : Int) := nI_toInt (by omega)
        exact i32_nat (by omega) (by omega)
      obtain ⟨wh, hwh, rfl⟩ : ∃ j : Nat, j < 3 ∧ what = nI j := by
        have t_b5 := b5
        have t_b9 := b9
        have t_hii := hii
        have t_n0 : (nI N).toInt = (N : Int) := nI_toInt (by omega)
        have t_n1 : (nI B).toInt = (B : Int) := nI_toInt (by omega)
        have t_n2 : (nI T).toInt = (T : Int) := nI_toInt (by omega)
        have t_n3 : (nI S).toInt = (S : Int) := nI_toInt (by omega)
        have t_n4 : (nI M).toInt = (M : Int) := nI_toInt (by omega)
        have t_n5 : (nI ii).toInt = (ii : Int) := nI_toInt (by omega)
        exact i32_nat (by omega) (by omega)
      refine lv_iload_n hx hb dX11_stretch_22 rfl (lv_at hl 2 rfl) ?_
      refine lv_iconst (v := 2) hx hb dX11_stretch_23 (by decide) ?_
      refine lv_icmp_ne (tgt := 39) hx hb dX11_stretch_24 (by decide) (fun c10 => ?_) (fun c10 => ?_)
      · skip
        have n11 : wh ≠ 2 := by have t := neI c10; rw [nI_toInt (n := wh) (by omega)] at t; have : (2 : Int32).toInt = 2 := (by decide); omega
        refine lv_aload_n hx hb dX11_stretch_39 rfl (lv_at hl 0 rfl) ?_
        refine va_get (D := (dC, dI)) (ci := 11) (v := .ref st) (C := RX11) (T := TX11) (N := 35) hx hb hg inG11 hown hK.1 hP 0 rfl rfl 0 (by decide) (hg _ wt_878) (fun _ h9 => h9) rfl dX11_stretch_40 ?_
        refine lv_iconst (v := 2) hx hb dX11_stretch_43 (by decide) ?_
        refine lv_iload_n hx hb dX11_stretch_44 rfl (lv_at hl 1 rfl) ?_
        refine lv_imul hx hb dX11_stretch_45 ?_
        refine lv_cg (y := nI (2 * ii)) (by rw [show (2 : Int32) = nI 2 from rfl]; exact pk_mul _ _) ?_
        refine lv_iload_n hx hb dX11_stretch_46 rfl (lv_at hl 2 rfl) ?_
        refine lv_iadd hx hb dX11_stretch_47 ?_
        refine lv_cg (y := nI ((2 * ii) + wh)) (by exact nI_add _ _) ?_
        refine va_iald hx hb hK.1 hP 1 0 rfl rfl (vp_in_nI (by have t_b5 := b5; have t_b9 := b9; have t_hii := hii; have t_hwh := hwh; have t_n11 := n11; have t_n0 : (nI N).toInt = (N : Int) := nI_toInt (by omega); have t_n1 : (nI B).toInt = (B : Int) := nI_toInt (by omega); have t_n2 : (nI T).toInt = (T : Int) := nI_toInt (by omega); have t_n3 : (nI S).toInt = (S : Int) := nI_toInt (by omega); have t_n4 : (nI M).toInt = (M : Int) := nI_toInt (by omega); have t_n5 : (nI ii).toInt = (ii : Int) := nI_toInt (by omega); have t_n6 : (nI wh).toInt = (wh : Int) := nI_toInt (by omega); omega) (by decide)) dX11_stretch_48 ?_
        refine lv_cg (y := fst ((2 * ii) + wh)) (by rw [nI_clamp (by omega)]) ?_
        have hpost : True := by
          trivial
        refine W.widen (k := 0) (n := 0) (by omega) (by omega) ?_
        exact W.iret (v := fst ((2 * ii) + wh)) hx hb hr (fun t ht hW => ⟨⟨fst ((2 * ii) + wh), (), rfl, ⟨hpost, trivial⟩, trivial⟩, hS.F ht⟩) hS.2.2 dX11_stretch_49
      · skip
        have n12 : wh = 2 := by have t := eqI c10; rw [nI_toInt (n := wh) (by omega)] at t; have : (2 : Int32).toInt = 2 := (by decide); omega
        refine lv_aload_n hx hb dX11_stretch_27 rfl (lv_at hl 0 rfl) ?_
        refine va_get (D := (dC, dI)) (ci := 11) (v := .ref st) (C := RX11) (T := TX11) (N := 35) hx hb hg inG11 hown hK.1 hP 0 rfl rfl 0 (by decide) (hg _ wt_878) (fun _ h9 => h9) rfl dX11_stretch_28 ?_
        refine lv_bipush (v := 38) hx hb dX11_stretch_31 (by decide) ?_
        refine lv_iload_n hx hb dX11_stretch_33 rfl (lv_at hl 1 rfl) ?_
        refine lv_iadd hx hb dX11_stretch_34 ?_
        refine lv_cg (y := nI (38 + ii)) (by rw [show (38 : Int32) = nI 38 from rfl]; exact nI_add _ _) ?_
        refine va_iald hx hb hK.1 hP 1 0 rfl rfl (vp_in_nI (by have t_b5 := b5; have t_b9 := b9; have t_hii := hii; have t_hwh := hwh; have t_n12 := n12; have t_n0 : (nI N).toInt = (N : Int) := nI_toInt (by omega); have t_n1 : (nI B).toInt = (B : Int) := nI_toInt (by omega); have t_n2 : (nI T).toInt = (T : Int) := nI_toInt (by omega); have t_n3 : (nI S).toInt = (S : Int) := nI_toInt (by omega); have t_n4 : (nI M).toInt = (M : Int) := nI_toInt (by omega); have t_n5 : (nI ii).toInt = (ii : Int) := nI_toInt (by omega); have t_n6 : (nI wh).toInt = (wh : Int) := nI_toInt (by omega); omega) (by decide)) dX11_stretch_35 ?_
        refine lv_cg (y := fst (38 + ii)) (by rw [nI_clamp (by omega)]) ?_
        refine lv_goto (tgt := 49) hx hb dX11_stretch_36 (by decide) ?_
        have hpost : True := by
          trivial
        refine W.widen (k := 0) (n := 0) (by omega) (by omega) ?_
        exact W.iret (v := fst (38 + ii)) hx hb hr (fun t ht hW => ⟨⟨fst (38 + ii), (), rfl, ⟨hpost, trivial⟩, trivial⟩, hS.F ht⟩) hS.2.2 dX11_stretch_49
    · skip
      have b13 := if10_n c8
      refine lv_iconst (v := (-1)) hx hb dX11_stretch_20 (by decide) ?_
      have hpost : True := by
        trivial
      refine W.widen (k := 0) (n := 0) (by omega) (by omega) ?_
      exact W.iret (v := (-1)) hx hb hr (fun t ht hW => ⟨⟨(-1), (), rfl, ⟨hpost, trivial⟩, trivial⟩, hS.F ht⟩) hS.2.2 dX11_stretch_21

set_option maxHeartbeats 1000000 in
set_option maxRecDepth 100000 in
theorem c_X11_bearer (l : Launch) (dC : Nat → ClassId) (dI : Nat → Nat → Nat) (G : Nat → ClassId) (sz : Nat) (h0 st N B rp tp T cu lt od th be ln S ma M ah bh ik la lg ce : Nat) (i what vrs vrb vhs vca vxs vxb vfa vbr vba vsp vhe vtk vva vto : Int32) (fst : Nat → Int32) (hN : N ≤ 10) (hB : B ≤ 6) (hT : T ≤ 320) (hS0 : S ≤ 8) (hM : M ≤ 6) : Met l yX11_bearer (Cond.code yX11_bearer cX11_bearer 3 (some .int) :: GT) ({ frames := 2, cells := 0, slots := 0, locals := 46 } : Room) (PcR [.ref h0, .int i, .int what] dC dI G [(h0, .inr (11, [.ref st, .int (nI N), .int (nI B), .ref rp, .int vrs, .int vrb, .int vhs, .int vca, .int vxs, .int vxb, .ref tp, .int (nI T), .int vfa, .int vbr, .int vba, .int vsp, .int vhe, .int vtk, .int vva, .ref cu, .ref lt, .ref od, .ref th, .ref be, .ref ln, .int (nI S), .ref ma, .int (nI M), .ref ah, .ref bh, .ref ik, .ref la, .ref lg, .ref ce, .int vto])), (st, .inl (G 0, 196, .inl fst))] sz) (va_Qi (fun (r : Int32) (u : Unit) => match u with | _ => (True) ∧ True) (fun _ _ => True) (fun q : Nat => sz ≤ q)) 0 0 (fun q : Nat => sz ≤ q) := by
  refine Met.ofW (cc := cX11_bearer) (maxL := 3) (ret := (some .int)) (by decide) rfl ?_
  intro p e s m args below meth c s₁ Bd hml hv
  obtain ⟨rfl, hsz, hP, hK⟩ := hv
  have hx := Bd.exec
  have hb := Bd.bytes
  have hr := Bd.returns
  have hg : ∀ w ∈ GT, w.before ([.ref h0, .int i, .int what] : List Value).toArray s = true := fun w h => atoms_spec (ws := Cond.code yX11_bearer cX11_bearer 3 (some .int) :: GT) Bd.pre w (List.mem_cons_of_mem _ h)
  have hown : s.vm.findClass RX11 = some m.cls := findClass_of_methodNamed Bd.named
  have hlocks := Bd.notSynchronized
  subst hsz
  have hA : ∀ q : Nat, s.heap.size ≤ q → (fun q : Nat => s.heap.size ≤ q) q := fun _ h => h
  have hS : va_S (fun q : Nat => s.heap.size ≤ q) s.heap s.heap [] := va_S.rf
  have hl := lv_entry ([.ref h0, .int i, .int what]) (n := 3) (Nat.le_of_ble_eq_true rfl)
  rw [lg_entry_eq]
  generalize (lg_sl ([.ref h0, .int i, .int what]) ++ List.replicate (3 - (lg_sl ([.ref h0, .int i, .int what])).length) Slot.unset).toArray = ls at hl ⊢
  have hl : lv_has ls 3 [(0, .ref h0), (1, .int i), (2, .int what)] := hl
  refine lv_aload_n hx hb dX11_bearer_0 rfl (lv_at hl 0 rfl) ?_
  refine lv_iload_n hx hb dX11_bearer_1 rfl (lv_at hl 1 rfl) ?_
  have hPc := hP.sub (ws' := [(h0, .inr (11, [.ref st, .int (nI N), .int (nI B), .ref rp, .int vrs, .int vrb, .int vhs, .int vca, .int vxs, .int vxb, .ref tp, .int (nI T), .int vfa, .int vbr, .int vba, .int vsp, .int vhe, .int vtk, .int vva, .ref cu, .ref lt, .ref od, .ref th, .ref be, .ref ln, .int (nI S), .ref ma, .int (nI M), .ref ah, .ref bh, .ref ik, .ref la, .ref lg, .ref ce, .int vto]))]) [0] rfl
  refine va_calli (va_runV (As := [.int i]) (rest := []) ⟨hx, hb, hml, hown, hg⟩ (c_X11_isBearer l dC dI G _ h0 st N B rp tp T cu lt od th be ln S ma M ah bh ik la lg ce i vrs vrb vhs vca vxs vxb vfa vbr vba vsp vhe vtk vva vto (by have t_n0 : (nI N).toInt = (N : Int) := nI_toInt (by omega); have t_n1 : (nI B).toInt = (B : Int) := nI_toInt (by omega); have t_n2 : (nI T).toInt = (T : Int) := nI_toInt (by omega); have t_n3 : (nI S).toInt = (S : Int) := nI_toInt (by omega); have t_n4 : (nI M).toInt = (M : Int) := nI_toInt (by omega); omega) (by have t_n0 : (nI N).toInt = (N : Int) := nI_toInt (by omega); have t_n1 : (nI B).toInt = (B : Int) := nI_toInt (by omega); have t_n2 : (nI T).toInt = (T : Int) := nI_toInt (by omega); have t_n3 : (nI S).toInt = (S : Int) := nI_toInt (by omega); have t_n4 : (nI M).toInt = (M : Int) := nI_toInt (by omega); omega) (by have t_n0 : (nI N).toInt = (N : Int) := nI_toInt (by omega); have t_n1 : (nI B).toInt = (B : Int) := nI_toInt (by omega); have t_n2 : (nI T).toInt = (T : Int) := nI_toInt (by omega); have t_n3 : (nI S).toInt = (S : Int) := nI_toInt (by omega); have t_n4 : (nI M).toInt = (M : Int) := nI_toInt (by omega); omega) (by have t_n0 : (nI N).toInt = (N : Int) := nI_toInt (by omega); have t_n1 : (nI B).toInt = (B : Int) := nI_toInt (by omega); have t_n2 : (nI T).toInt = (T : Int) := nI_toInt (by omega); have t_n3 : (nI S).toInt = (S : Int) := nI_toInt (by omega); have t_n4 : (nI M).toInt = (M : Int) := nI_toInt (by omega); omega) (by have t_n0 : (nI N).toInt = (N : Int) := nI_toInt (by omega); have t_n1 : (nI B).toInt = (B : Int) := nI_toInt (by omega); have t_n2 : (nI T).toInt = (T : Int) := nI_toInt (by omega); have t_n3 : (nI S).toInt = (S : Int) := nI_toInt (by omega); have t_n4 : (nI M).toInt = (M : Int) := nI_toInt (by omega); omega)) (kwV hg mfX11_isBearer wt_1061 ⟨Nat.le_of_ble_eq_true rfl, Nat.le_of_ble_eq_true rfl⟩) (preVR hK hPc (ci := 11) rfl rfl) rfl rfl hl.1 rfl (lv_room (Nat.le_of_ble_eq_true rfl)) dX11_bearer_2 ⟨Nat.le_of_ble_eq_true rfl, Nat.le_of_ble_eq_true rfl⟩) hS (fun q h1 h2 => absurd h2 (Nat.not_le.mpr h1)) (fun q h => hA q (Nat.le_trans hS.1 h)) (fun r1 ur1 t H1 locs ht hvm w2 hB hz1 hk1 hS => ?_)
  have hP := keepR hP hk1
  obtain ⟨w2, w2x⟩ := w2
  try simp only [l_ii, show (0 : Int32).toInt = 0 from by decide] at w2
  try rw [nI_toInt (n := B) (by omega)] at w2
  subst w2
  refine lv_if_eq (tgt := 36) hx hb dX11_bearer_5 (by decide) (fun c3 => ?_) (fun c3 => ?_)
  · skip
    have b4 := if10_n c3
    refine lv_iconst (v := (-1)) hx hb dX11_bearer_36 (by decide) ?_
    have hpost : True := by
      trivial
    refine W.widen (k := 0) (n := 0) (by omega) (by omega) ?_
    exact W.iret (v := (-1)) hx hb hr (fun t ht hW => ⟨⟨(-1), (), rfl, ⟨hpost, trivial⟩, trivial⟩, hS.F ht⟩) hS.2.2 dX11_bearer_37
  · skip
    have b5 := if10_p c3
    refine lv_iload_n hx hb dX11_bearer_8 rfl (lv_at hl 2 rfl) ?_
    refine lv_i2l (v := what.toInt64) hx hb dX11_bearer_9 rfl ?_
    refine lv_lconst (v := 0) hx hb dX11_bearer_10 (by decide) ?_
    refine lv_ldc2 (v := 2) hx hb hown (hg _ wt_1056) dX11_bearer_11 ?_
    have hPc := hP.sub (ws' := []) [] rfl
    refine va_calli (va_runS (As := [.long what.toInt64, .long 0, .long 2]) (rest := []) ⟨hx, hb, hml, hown, hg⟩ (c_X11_in l dC dI G _ what.toInt64 0 2 ) (kwS hg mfX11_in wt_992 ⟨Nat.le_of_ble_eq_true rfl, Nat.le_of_ble_eq_true rfl⟩) (preSR hK hPc) rfl rfl hl.1 rfl (lv_room (Nat.le_of_ble_eq_true rfl)) dX11_bearer_14 ⟨Nat.le_of_ble_eq_true rfl, Nat.le_of_ble_eq_true rfl⟩) hS (fun q h1 h2 => absurd h2 (Nat.not_le.mpr h1)) (fun q h => hA q (Nat.le_trans hS.1 h)) (fun r6 ur6 t H1 locs ht hvm w7 hB hz1 hk1 hS => ?_)
    have hP := keepR hP hk1
    obtain ⟨w7, w7x⟩ := w7
    try simp only [l_ii, show (0 : Int64).toInt = 0 from by decide, show (2 : Int64).toInt = 2 from by decide] at w7
    subst w7
    refine lv_if_eq (tgt := 36) hx hb dX11_bearer_17 (by decide) (fun c8 => ?_) (fun c8 => ?_)
    · skip
      have b9 := if10_n c8
      refine lv_iconst (v := (-1)) hx hb dX11_bearer_36 (by decide) ?_
      have hpost : True := by
        trivial
      refine W.widen (k := 0) (n := 0) (by omega) (by omega) ?_
      exact W.iret (v := (-1)) hx hb hr (fun t ht hW => ⟨⟨(-1), (), rfl, ⟨hpost, trivial⟩, trivial⟩, hS.F ht⟩) hS.2.2 dX11_bearer_37
    · skip
      have b10 := if10_p c8
      obtain ⟨ii, hii, rfl⟩ : ∃ j : Nat, j < 6 ∧ i = nI j := by
        have t_b5 := b5
        have t_b10 := b10
        have t_n0 : (nI N).toInt = (N : Int) := nI_toInt (by omega)
        have t_n1 : (nI B).toInt = (B : Int) := nI_toInt (by omega)
        have t_n2 : (nI T).toInt = (T : Int) := nI_toInt (by omega)
        have t_n3 : (nI S).toInt = (S : Int) := nI_toInt (by omega)
        have t_n4 : (nI M).toInt = (M : Int) := nI_toInt (by omega)
        exact i32_nat (by omega) (by omega)
      obtain ⟨wh, hwh, rfl⟩ : ∃ j : Nat, j < 3 ∧ what = nI j := by
        have t_b5 := b5
        have t_b10 := b10
        have t_hii := hii
        have t_n0 : (nI N).toInt = (N : Int) := nI_toInt (by omega)
        have t_n1 : (nI B).toInt = (B : Int) := nI_toInt (by omega)
        have t_n2 : (nI T).toInt = (T : Int) := nI_toInt (by omega)
        have t_n3 : (nI S).toInt = (S : Int) := nI_toInt (by omega)
        have t_n4 : (nI M).toInt = (M : Int) := nI_toInt (by omega)
        have t_n5 : (nI ii).toInt = (ii : Int) := nI_toInt (by omega)
        exact i32_nat (by omega) (by omega)
      refine lv_aload_n hx hb dX11_bearer_20 rfl (lv_at hl 0 rfl) ?_
      refine va_get (D := (dC, dI)) (ci := 11) (v := .ref st) (C := RX11) (T := TX11) (N := 35) hx hb hg inG11 hown hK.1 hP 0 rfl rfl 0 (by decide) (hg _ wt_878) (fun _ h9 => h9) rfl dX11_bearer_21 ?_
      refine lv_bipush (v := 20) hx hb dX11_bearer_24 (by decide) ?_
      refine lv_iconst (v := 3) hx hb dX11_bearer_26 (by decide) ?_
      refine lv_iload_n hx hb dX11_bearer_27 rfl (lv_at hl 1 rfl) ?_
      refine lv_imul hx hb dX11_bearer_28 ?_
      refine lv_cg (y := nI (3 * ii)) (by rw [show (3 : Int32) = nI 3 from rfl]; exact pk_mul _ _) ?_
      refine lv_iadd hx hb dX11_bearer_29 ?_
      refine lv_cg (y := nI (20 + (3 * ii))) (by rw [show (20 : Int32) = nI 20 from rfl]; exact nI_add _ _) ?_
      refine lv_iload_n hx hb dX11_bearer_30 rfl (lv_at hl 2 rfl) ?_
      refine lv_iadd hx hb dX11_bearer_31 ?_
      refine lv_cg (y := nI ((20 + (3 * ii)) + wh)) (by exact nI_add _ _) ?_
      refine va_iald hx hb hK.1 hP 1 0 rfl rfl (vp_in_nI (by have t_b5 := b5; have t_b10 := b10; have t_hii := hii; have t_hwh := hwh; have t_n0 : (nI N).toInt = (N : Int) := nI_toInt (by omega); have t_n1 : (nI B).toInt = (B : Int) := nI_toInt (by omega); have t_n2 : (nI T).toInt = (T : Int) := nI_toInt (by omega); have t_n3 : (nI S).toInt = (S : Int) := nI_toInt (by omega); have t_n4 : (nI M).toInt = (M : Int) := nI_toInt (by omega); have t_n5 : (nI ii).toInt = (ii : Int) := nI_toInt (by omega); have t_n6 : (nI wh).toInt = (wh : Int) := nI_toInt (by omega); omega) (by decide)) dX11_bearer_32 ?_
      refine lv_cg (y := fst ((20 + (3 * ii)) + wh)) (by rw [nI_clamp (by omega)]) ?_
      refine lv_goto (tgt := 37) hx hb dX11_bearer_33 (by decide) ?_
      have hpost : True := by
        trivial
      refine W.widen (k := 0) (n := 0) (by omega) (by omega) ?_
      exact W.iret (v := fst ((20 + (3 * ii)) + wh)) hx hb hr (fun t ht hW => ⟨⟨fst ((20 + (3 * ii)) + wh), (), rfl, ⟨hpost, trivial⟩, trivial⟩, hS.F ht⟩) hS.2.2 dX11_bearer_37

set_option maxHeartbeats 1000000 in
set_option maxRecDepth 100000 in
theorem c_X11_sets0 (l : Launch) (dC : Nat → ClassId) (dI : Nat → Nat → Nat) (G : Nat → ClassId) (sz : Nat) (h0 st N B rp tp T cu lt od th be ln S ma M ah bh ik la lg ce : Nat) (x1 x2 vrs vrb vhs vca vxs vxb vfa vbr vba vsp vhe vtk vva vto : Int32) (fst : Nat → Int32) (hN : N ≤ 10) (hB : B ≤ 6) (hT : T ≤ 320) (hS0 : S ≤ 8) (hM : M ≤ 6) (hst : OKS fst) : Met l yX11_sets (Cond.code yX11_sets cX11_sets 5 (some .int) :: GT) ({ frames := 0, cells := 0, slots := 0, locals := 0 } : Room) (PcW [.ref h0, .int 0, .int x1, .int x2] dC dI G [(h0, .inr (11, [.ref st, .int (nI N), .int (nI B), .ref rp, .int vrs, .int vrb, .int vhs, .int vca, .int vxs, .int vxb, .ref tp, .int (nI T), .int vfa, .int vbr, .int vba, .int vsp, .int vhe, .int vtk, .int vva, .ref cu, .ref lt, .ref od, .ref th, .ref be, .ref ln, .int (nI S), .ref ma, .int (nI M), .ref ah, .ref bh, .ref ik, .ref la, .ref lg, .ref ce, .int vto])), (st, .inl (G 0, 196, .inl fst))] sz) (va_Qi (fun (r : Int32) (u : (Nat → Int32)) => match u with | ost => (True) ∧ OKS ost) (fun (u : (Nat → Int32)) (t : State) => match u with | ost => va_P (dC, dI) vwCl [(h0, .inr (11, [.ref st, .int (nI N), .int (nI B), .ref rp, .int vrs, .int vrb, .int vhs, .int vca, .int vxs, .int vxb, .ref tp, .int (nI T), .int vfa, .int vbr, .int vba, .int vsp, .int vhe, .int vtk, .int vva, .ref cu, .ref lt, .ref od, .ref th, .ref be, .ref ln, .int (nI S), .ref ma, .int (nI M), .ref ah, .ref bh, .ref ik, .ref la, .ref lg, .ref ce, .int vto])), (st, .inl (G 0, 196, .inl ost))] t.heap ∧ va_D (va_A [(h0, .inr (11, [.ref st, .int (nI N), .int (nI B), .ref rp, .int vrs, .int vrb, .int vhs, .int vca, .int vxs, .int vxb, .ref tp, .int (nI T), .int vfa, .int vbr, .int vba, .int vsp, .int vhe, .int vtk, .int vva, .ref cu, .ref lt, .ref od, .ref th, .ref be, .ref ln, .int (nI S), .ref ma, .int (nI M), .ref ah, .ref bh, .ref ik, .ref la, .ref lg, .ref ce, .int vto])), (st, .inl (G 0, 196, .inl fst))] sz) [(h0, .inr (11, [.ref st, .int (nI N), .int (nI B), .ref rp, .int vrs, .int vrb, .int vhs, .int vca, .int vxs, .int vxb, .ref tp, .int (nI T), .int vfa, .int vbr, .int vba, .int vsp, .int vhe, .int vtk, .int vva, .ref cu, .ref lt, .ref od, .ref th, .ref be, .ref ln, .int (nI S), .ref ma, .int (nI M), .ref ah, .ref bh, .ref ik, .ref la, .ref lg, .ref ce, .int vto])), (st, .inl (G 0, 196, .inl ost))]) (va_A [(h0, .inr (11, [.ref st, .int (nI N), .int (nI B), .ref rp, .int vrs, .int vrb, .int vhs, .int vca, .int vxs, .int vxb, .ref tp, .int (nI T), .int vfa, .int vbr, .int vba, .int vsp, .int vhe, .int vtk, .int vva, .ref cu, .ref lt, .ref od, .ref th, .ref be, .ref ln, .int (nI S), .ref ma, .int (nI M), .ref ah, .ref bh, .ref ik, .ref la, .ref lg, .ref ce, .int vto])), (st, .inl (G 0, 196, .inl fst))] sz)) 0 0 (va_A [(h0, .inr (11, [.ref st, .int (nI N), .int (nI B), .ref rp, .int vrs, .int vrb, .int vhs, .int vca, .int vxs, .int vxb, .ref tp, .int (nI T), .int vfa, .int vbr, .int vba, .int vsp, .int vhe, .int vtk, .int vva, .ref cu, .ref lt, .ref od, .ref th, .ref be, .ref ln, .int (nI S), .ref ma, .int (nI M), .ref ah, .ref bh, .ref ik, .ref la, .ref lg, .ref ce, .int vto])), (st, .inl (G 0, 196, .inl fst))] sz) := by
  refine Met.ofW (cc := cX11_sets) (maxL := 5) (ret := (some .int)) (by decide) rfl ?_
  intro p e s m args below meth c s₁ Bd hml hv
  obtain ⟨rfl, hsz, hP, hK, hD0⟩ := hv
  have hx := Bd.exec
  have hb := Bd.bytes
  have hr := Bd.returns
  have hg : ∀ w ∈ GT, w.before ([.ref h0, .int 0, .int x1, .int x2] : List Value).toArray s = true := fun w h => atoms_spec (ws := Cond.code yX11_sets cX11_sets 5 (some .int) :: GT) Bd.pre w (List.mem_cons_of_mem _ h)
  have hown : s.vm.findClass RX11 = some m.cls := findClass_of_methodNamed Bd.named
  have hlocks := Bd.notSynchronized
  subst hsz
  have hD := hD0.self (sz := s.heap.size)
  generalize hAe : va_A [(h0, .inr (11, [.ref st, .int (nI N), .int (nI B), .ref rp, .int vrs, .int vrb, .int vhs, .int vca, .int vxs, .int vxb, .ref tp, .int (nI T), .int vfa, .int vbr, .int vba, .int vsp, .int vhe, .int vtk, .int vva, .ref cu, .ref lt, .ref od, .ref th, .ref be, .ref ln, .int (nI S), .ref ma, .int (nI M), .ref ah, .ref bh, .ref ik, .ref la, .ref lg, .ref ce, .int vto])), (st, .inl (G 0, 196, .inl fst))] s.heap.size = A at hD ⊢
  have hA : ∀ q : Nat, s.heap.size ≤ q → A q := fun q h => by rw [← hAe]; exact Or.inr h
  have hS : va_S A s.heap s.heap [] := va_S.rf
  have hl := lv_entry ([.ref h0, .int 0, .int x1, .int x2]) (n := 5) (Nat.le_of_ble_eq_true rfl)
  rw [lg_entry_eq]
  generalize (lg_sl ([.ref h0, .int 0, .int x1, .int x2]) ++ List.replicate (5 - (lg_sl ([.ref h0, .int 0, .int x1, .int x2])).length) Slot.unset).toArray = ls at hl ⊢
  have hl : lv_has ls 5 [(0, .ref h0), (1, .int 0), (2, .int x1), (3, .int x2)] := hl
  refine lv_iload_n hx hb dX11_sets_0 rfl (lv_at hl 1 rfl) ?_
  refine lv_if_ne (tgt := 6) hx hb dX11_sets_1 (by decide) (fun c1 => ?_) (fun c1 => ?_)
  · skip
    exact absurd c1 (by decide)
  · skip
    refine lv_iconst (v := (-1)) hx hb dX11_sets_4 (by decide) ?_
    have hpost : True := by
      trivial
    have hP9 := hP.sub (ws' := [(h0, .inr (11, [.ref st, .int (nI N), .int (nI B), .ref rp, .int vrs, .int vrb, .int vhs, .int vca, .int vxs, .int vxb, .ref tp, .int (nI T), .int vfa, .int vbr, .int vba, .int vsp, .int vhe, .int vtk, .int vva, .ref cu, .ref lt, .ref od, .ref th, .ref be, .ref ln, .int (nI S), .ref ma, .int (nI M), .ref ah, .ref bh, .ref ik, .ref la, .ref lg, .ref ce, .int vto])), (st, .inl (G 0, 196, .inl fst))]) [0, 1] rfl
    have hD9 := hD.sub (ws' := [(h0, .inr (11, [.ref st, .int (nI N), .int (nI B), .ref rp, .int vrs, .int vrb, .int vhs, .int vca, .int vxs, .int vxb, .ref tp, .int (nI T), .int vfa, .int vbr, .int vba, .int vsp, .int vhe, .int vtk, .int vva, .ref cu, .ref lt, .ref od, .ref th, .ref be, .ref ln, .int (nI S), .ref ma, .int (nI M), .ref ah, .ref bh, .ref ik, .ref la, .ref lg, .ref ce, .int vto])), (st, .inl (G 0, 196, .inl fst))]) [0, 1] (by decide) rfl
    refine W.widen (k := 0) (n := 0) (by omega) (by omega) ?_
    exact W.iret (v := (-1)) hx hb hr (fun t ht hW => ⟨⟨(-1), fst, rfl, ⟨hpost, hst⟩, ⟨by rw [ht]; exact hP9, hD9⟩⟩, hS.F ht⟩) hS.2.2 dX11_sets_5

set_option maxHeartbeats 1000000 in
set_option maxRecDepth 100000 in
theorem c_X11_sets1 (l : Launch) (dC : Nat → ClassId) (dI : Nat → Nat → Nat) (G : Nat → ClassId) (sz : Nat) (h0 k st N B rp tp T cu lt od th be ln S ma M ah bh ik la lg ce : Nat) (x2 vrs vrb vhs vca vxs vxb vfa vbr vba vsp vhe vtk vva vto : Int32) (fst : Nat → Int32) (hN : N ≤ 10) (hB : B ≤ 6) (hT : T ≤ 320) (hS0 : S ≤ 8) (hM : M ≤ 6) (hst : OKS fst) (hk : k < 196) (hok : okS k x2) : Met l yX11_sets (Cond.code yX11_sets cX11_sets 5 (some .int) :: GT) ({ frames := 0, cells := 0, slots := 0, locals := 0 } : Room) (PcW [.ref h0, .int 1, .int (nI k), .int x2] dC dI G [(h0, .inr (11, [.ref st, .int (nI N), .int (nI B), .ref rp, .int vrs, .int vrb, .int vhs, .int vca, .int vxs, .int vxb, .ref tp, .int (nI T), .int vfa, .int vbr, .int vba, .int vsp, .int vhe, .int vtk, .int vva, .ref cu, .ref lt, .ref od, .ref th, .ref be, .ref ln, .int (nI S), .ref ma, .int (nI M), .ref ah, .ref bh, .ref ik, .ref la, .ref lg, .ref ce, .int vto])), (st, .inl (G 0, 196, .inl fst))] sz) (va_Qi (fun (r : Int32) (u : (Nat → Int32)) => match u with | ost => (True) ∧ OKS ost) (fun (u : (Nat → Int32)) (t : State) => match u with | ost => va_P (dC, dI) vwCl [(h0, .inr (11, [.ref st, .int (nI N), .int (nI B), .ref rp, .int vrs, .int vrb, .int vhs, .int vca, .int vxs, .int vxb, .ref tp, .int (nI T), .int vfa, .int vbr, .int vba, .int vsp, .int vhe, .int vtk, .int vva, .ref cu, .ref lt, .ref od, .ref th, .ref be, .ref ln, .int (nI S), .ref ma, .int (nI M), .ref ah, .ref bh, .ref ik, .ref la, .ref lg, .ref ce, .int vto])), (st, .inl (G 0, 196, .inl ost))] t.heap ∧ va_D (va_A [(h0, .inr (11, [.ref st, .int (nI N), .int (nI B), .ref rp, .int vrs, .int vrb, .int vhs, .int vca, .int vxs, .int vxb, .ref tp, .int (nI T), .int vfa, .int vbr, .int vba, .int vsp, .int vhe, .int vtk, .int vva, .ref cu, .ref lt, .ref od, .ref th, .ref be, .ref ln, .int (nI S), .ref ma, .int (nI M), .ref ah, .ref bh, .ref ik, .ref la, .ref lg, .ref ce, .int vto])), (st, .inl (G 0, 196, .inl fst))] sz) [(h0, .inr (11, [.ref st, .int (nI N), .int (nI B), .ref rp, .int vrs, .int vrb, .int vhs, .int vca, .int vxs, .int vxb, .ref tp, .int (nI T), .int vfa, .int vbr, .int vba, .int vsp, .int vhe, .int vtk, .int vva, .ref cu, .ref lt, .ref od, .ref th, .ref be, .ref ln, .int (nI S), .ref ma, .int (nI M), .ref ah, .ref bh, .ref ik, .ref la, .ref lg, .ref ce, .int vto])), (st, .inl (G 0, 196, .inl ost))]) (va_A [(h0, .inr (11, [.ref st, .int (nI N), .int (nI B), .ref rp, .int vrs, .int vrb, .int vhs, .int vca, .int vxs, .int vxb, .ref tp, .int (nI T), .int vfa, .int vbr, .int vba, .int vsp, .int vhe, .int vtk, .int vva, .ref cu, .ref lt, .ref od, .ref th, .ref be, .ref ln, .int (nI S), .ref ma, .int (nI M), .ref ah, .ref bh, .ref ik, .ref la, .ref lg, .ref ce, .int vto])), (st, .inl (G 0, 196, .inl fst))] sz)) 0 0 (va_A [(h0, .inr (11, [.ref st, .int (nI N), .int (nI B), .ref rp, .int vrs, .int vrb, .int vhs, .int vca, .int vxs, .int vxb, .ref tp, .int (nI T), .int vfa, .int vbr, .int vba, .int vsp, .int vhe, .int vtk, .int vva, .ref cu, .ref lt, .ref od, .ref th, .ref be, .ref ln, .int (nI S), .ref ma, .int (nI M), .ref ah, .ref bh, .ref ik, .ref la, .ref lg, .ref ce, .int vto])), (st, .inl (G 0, 196, .inl fst))] sz) := by
  refine Met.ofW (cc := cX11_sets) (maxL := 5) (ret := (some .int)) (by decide) rfl ?_
  intro p e s m args below meth c s₁ Bd hml hv
  obtain ⟨rfl, hsz, hP, hK, hD0⟩ := hv
  have hx := Bd.exec
  have hb := Bd.bytes
  have hr := Bd.returns
  have hg : ∀ w ∈ GT, w.before ([.ref h0, .int 1, .int (nI k), .int x2] : List Value).toArray s = true := fun w h => atoms_spec (ws := Cond.code yX11_sets cX11_sets 5 (some .int) :: GT) Bd.pre w (List.mem_cons_of_mem _ h)
  have hown : s.vm.findClass RX11 = some m.cls := findClass_of_methodNamed Bd.named
  have hlocks := Bd.notSynchronized
  subst hsz
  have hD := hD0.self (sz := s.heap.size)
  generalize hAe : va_A [(h0, .inr (11, [.ref st, .int (nI N), .int (nI B), .ref rp, .int vrs, .int vrb, .int vhs, .int vca, .int vxs, .int vxb, .ref tp, .int (nI T), .int vfa, .int vbr, .int vba, .int vsp, .int vhe, .int vtk, .int vva, .ref cu, .ref lt, .ref od, .ref th, .ref be, .ref ln, .int (nI S), .ref ma, .int (nI M), .ref ah, .ref bh, .ref ik, .ref la, .ref lg, .ref ce, .int vto])), (st, .inl (G 0, 196, .inl fst))] s.heap.size = A at hD ⊢
  have hA : ∀ q : Nat, s.heap.size ≤ q → A q := fun q h => by rw [← hAe]; exact Or.inr h
  have hS : va_S A s.heap s.heap [] := va_S.rf
  have hl := lv_entry ([.ref h0, .int 1, .int (nI k), .int x2]) (n := 5) (Nat.le_of_ble_eq_true rfl)
  rw [lg_entry_eq]
  generalize (lg_sl ([.ref h0, .int 1, .int (nI k), .int x2]) ++ List.replicate (5 - (lg_sl ([.ref h0, .int 1, .int (nI k), .int x2])).length) Slot.unset).toArray = ls at hl ⊢
  have hl : lv_has ls 5 [(0, .ref h0), (1, .int 1), (2, .int (nI k)), (3, .int x2)] := hl
  refine lv_iload_n hx hb dX11_sets_0 rfl (lv_at hl 1 rfl) ?_
  refine lv_if_ne (tgt := 6) hx hb dX11_sets_1 (by decide) (fun c1 => ?_) (fun c1 => ?_)
  · skip
    refine lv_aload_n hx hb dX11_sets_6 rfl (lv_at hl 0 rfl) ?_
    refine va_get (D := (dC, dI)) (ci := 11) (v := .ref st) (C := RX11) (T := TX11) (N := 35) hx hb hg inG11 hown hK.1 hP 0 rfl rfl 0 (by decide) (hg _ wt_878) (fun _ h9 => h9) rfl dX11_sets_7 ?_
    refine lv_iload_n hx hb dX11_sets_10 rfl (lv_at hl 2 rfl) ?_
    refine va_iald hx hb hK.1 hP 1 0 rfl rfl (vp_in_nI (by have t_c1 := neI c1; have : (0 : Int32).toInt = 0 := (by decide); have : (1 : Int32).toInt = 1 := (by decide); have t_n0 : (nI k).toInt = (k : Int) := nI_toInt (by omega); have t_n1 : (nI N).toInt = (N : Int) := nI_toInt (by omega); have t_n2 : (nI B).toInt = (B : Int) := nI_toInt (by omega); have t_n3 : (nI T).toInt = (T : Int) := nI_toInt (by omega); have t_n4 : (nI S).toInt = (S : Int) := nI_toInt (by omega); have t_n5 : (nI M).toInt = (M : Int) := nI_toInt (by omega); omega) (by decide)) dX11_sets_11 ?_
    refine lv_cg (y := fst k) (by rw [nI_clamp (by omega)]) ?_
    refine lv_istore (lv' := [(4, .int (fst k)), (0, .ref h0), (1, .int 1), (2, .int (nI k)), (3, .int x2)]) hx hb dX11_sets_12 hl (by decide) rfl (fun ls hl => ?_)
    refine lv_aload_n hx hb dX11_sets_14 rfl (lv_at hl 1 rfl) ?_
    refine va_get (D := (dC, dI)) (ci := 11) (v := .ref st) (C := RX11) (T := TX11) (N := 35) hx hb hg inG11 hown hK.1 hP 0 rfl rfl 0 (by decide) (hg _ wt_878) (fun _ h9 => h9) rfl dX11_sets_15 ?_
    refine lv_iload_n hx hb dX11_sets_18 rfl (lv_at hl 3 rfl) ?_
    refine lv_iload_n hx hb dX11_sets_19 rfl (lv_at hl 4 rfl) ?_
    refine va_iast hx hb hK.1 hP hD hS 1 0 rfl rfl (vp_in_nI (by have t_c1 := neI c1; have : (0 : Int32).toInt = 0 := (by decide); have : (1 : Int32).toInt = 1 := (by decide); have t_n0 : (nI k).toInt = (k : Int) := nI_toInt (by omega); have t_n1 : (nI N).toInt = (N : Int) := nI_toInt (by omega); have t_n2 : (nI B).toInt = (B : Int) := nI_toInt (by omega); have t_n3 : (nI T).toInt = (T : Int) := nI_toInt (by omega); have t_n4 : (nI S).toInt = (S : Int) := nI_toInt (by omega); have t_n5 : (nI M).toInt = (M : Int) := nI_toInt (by omega); omega) (by decide)) dX11_sets_20 (fun H locs hP hD hS => ?_)
    rw [nI_clamp (by omega)] at hP hD
    have hP : va_P (dC, dI) vwCl [(h0, .inr (11, [.ref st, .int (nI N), .int (nI B), .ref rp, .int vrs, .int vrb, .int vhs, .int vca, .int vxs, .int vxb, .ref tp, .int (nI T), .int vfa, .int vbr, .int vba, .int vsp, .int vhe, .int vtk, .int vva, .ref cu, .ref lt, .ref od, .ref th, .ref be, .ref ln, .int (nI S), .ref ma, .int (nI M), .ref ah, .ref bh, .ref ik, .ref la, .ref lg, .ref ce, .int vto])), (st, .inl (G 0, 196, .inl (upd fst k x2)))] H := hP
    have hD : va_D A [(h0, .inr (11, [.ref st, .int (nI N), .int (nI B), .ref rp, .int vrs, .int vrb, .int vhs, .int vca, .int vxs, .int vxb, .ref tp, .int (nI T), .int vfa, .int vbr, .int vba, .int vsp, .int vhe, .int vtk, .int vva, .ref cu, .ref lt, .ref od, .ref th, .ref be, .ref ln, .int (nI S), .ref ma, .int (nI M), .ref ah, .ref bh, .ref ik, .ref la, .ref lg, .ref ce, .int vto])), (st, .inl (G 0, 196, .inl (upd fst k x2)))] := hD
    refine lv_iload hx hb dX11_sets_21 (lv_at hl 0 rfl) ?_
    have hpost : True := by
      trivial
    have hP9 := hP.sub (ws' := [(h0, .inr (11, [.ref st, .int (nI N), .int (nI B), .ref rp, .int vrs, .int vrb, .int vhs, .int vca, .int vxs, .int vxb, .ref tp, .int (nI T), .int vfa, .int vbr, .int vba, .int vsp, .int vhe, .int vtk, .int vva, .ref cu, .ref lt, .ref od, .ref th, .ref be, .ref ln, .int (nI S), .ref ma, .int (nI M), .ref ah, .ref bh, .ref ik, .ref la, .ref lg, .ref ce, .int vto])), (st, .inl (G 0, 196, .inl (upd fst k x2)))]) [0, 1] rfl
    have hD9 := hD.sub (ws' := [(h0, .inr (11, [.ref st, .int (nI N), .int (nI B), .ref rp, .int vrs, .int vrb, .int vhs, .int vca, .int vxs, .int vxb, .ref tp, .int (nI T), .int vfa, .int vbr, .int vba, .int vsp, .int vhe, .int vtk, .int vva, .ref cu, .ref lt, .ref od, .ref th, .ref be, .ref ln, .int (nI S), .ref ma, .int (nI M), .ref ah, .ref bh, .ref ik, .ref la, .ref lg, .ref ce, .int vto])), (st, .inl (G 0, 196, .inl (upd fst k x2)))]) [0, 1] (by decide) rfl
    refine W.widen (k := 0) (n := 0) (by omega) (by omega) ?_
    exact W.iret (v := fst k) hx hb hr (fun t ht hW => ⟨⟨fst k, (upd fst k x2), rfl, ⟨hpost, (hst.upd hok)⟩, ⟨by rw [ht]; exact hP9, hD9⟩⟩, hS.F ht⟩) hS.2.2 dX11_sets_23
  · skip
    exact absurd c1 (by decide)

set_option maxHeartbeats 1000000 in
set_option maxRecDepth 100000 in
theorem c_X11_start (l : Launch) (dC : Nat → ClassId) (dI : Nat → Nat → Nat) (G : Nat → ClassId) (sz : Nat) (h0 st N B rp tp T cu lt od th be ln S ma M ah bh ik la lg ce : Nat) (v vrs vrb vhs vca vxs vxb vfa vbr vba vsp vhe vtk vva vto : Int32) (fst : Nat → Int32) (hN : N ≤ 10) (hB : B ≤ 6) (hT : T ≤ 320) (hS0 : S ≤ 8) (hM : M ≤ 6) (hst : OKS fst) : Met l yX11_start (Cond.code yX11_start cX11_start 2 (some .int) :: GT) ({ frames := 1, cells := 0, slots := 0, locals := 25 } : Room) (PcW [.ref h0, .int v] dC dI G [(h0, .inr (11, [.ref st, .int (nI N), .int (nI B), .ref rp, .int vrs, .int vrb, .int vhs, .int vca, .int vxs, .int vxb, .ref tp, .int (nI T), .int vfa, .int vbr, .int vba, .int vsp, .int vhe, .int vtk, .int vva, .ref cu, .ref lt, .ref od, .ref th, .ref be, .ref ln, .int (nI S), .ref ma, .int (nI M), .ref ah, .ref bh, .ref ik, .ref la, .ref lg, .ref ce, .int vto])), (st, .inl (G 0, 196, .inl fst))] sz) (va_Qi (fun (r : Int32) (u : (Nat → Int32)) => match u with | ost => (True) ∧ OKS ost) (fun (u : (Nat → Int32)) (t : State) => match u with | ost => va_P (dC, dI) vwCl [(h0, .inr (11, [.ref st, .int (nI N), .int (nI B), .ref rp, .int vrs, .int vrb, .int vhs, .int vca, .int vxs, .int vxb, .ref tp, .int (nI T), .int vfa, .int vbr, .int vba, .int vsp, .int vhe, .int vtk, .int vva, .ref cu, .ref lt, .ref od, .ref th, .ref be, .ref ln, .int (nI S), .ref ma, .int (nI M), .ref ah, .ref bh, .ref ik, .ref la, .ref lg, .ref ce, .int vto])), (st, .inl (G 0, 196, .inl ost))] t.heap ∧ va_D (va_A [(h0, .inr (11, [.ref st, .int (nI N), .int (nI B), .ref rp, .int vrs, .int vrb, .int vhs, .int vca, .int vxs, .int vxb, .ref tp, .int (nI T), .int vfa, .int vbr, .int vba, .int vsp, .int vhe, .int vtk, .int vva, .ref cu, .ref lt, .ref od, .ref th, .ref be, .ref ln, .int (nI S), .ref ma, .int (nI M), .ref ah, .ref bh, .ref ik, .ref la, .ref lg, .ref ce, .int vto])), (st, .inl (G 0, 196, .inl fst))] sz) [(h0, .inr (11, [.ref st, .int (nI N), .int (nI B), .ref rp, .int vrs, .int vrb, .int vhs, .int vca, .int vxs, .int vxb, .ref tp, .int (nI T), .int vfa, .int vbr, .int vba, .int vsp, .int vhe, .int vtk, .int vva, .ref cu, .ref lt, .ref od, .ref th, .ref be, .ref ln, .int (nI S), .ref ma, .int (nI M), .ref ah, .ref bh, .ref ik, .ref la, .ref lg, .ref ce, .int vto])), (st, .inl (G 0, 196, .inl ost))]) (va_A [(h0, .inr (11, [.ref st, .int (nI N), .int (nI B), .ref rp, .int vrs, .int vrb, .int vhs, .int vca, .int vxs, .int vxb, .ref tp, .int (nI T), .int vfa, .int vbr, .int vba, .int vsp, .int vhe, .int vtk, .int vva, .ref cu, .ref lt, .ref od, .ref th, .ref be, .ref ln, .int (nI S), .ref ma, .int (nI M), .ref ah, .ref bh, .ref ik, .ref la, .ref lg, .ref ce, .int vto])), (st, .inl (G 0, 196, .inl fst))] sz)) 0 0 (va_A [(h0, .inr (11, [.ref st, .int (nI N), .int (nI B), .ref rp, .int vrs, .int vrb, .int vhs, .int vca, .int vxs, .int vxb, .ref tp, .int (nI T), .int vfa, .int vbr, .int vba, .int vsp, .int vhe, .int vtk, .int vva, .ref cu, .ref lt, .ref od, .ref th, .ref be, .ref ln, .int (nI S), .ref ma, .int (nI M), .ref ah, .ref bh, .ref ik, .ref la, .ref lg, .ref ce, .int vto])), (st, .inl (G 0, 196, .inl fst))] sz) := by
  refine Met.ofW (cc := cX11_start) (maxL := 2) (ret := (some .int)) (by decide) rfl ?_
  intro p e s m args below meth c s₁ Bd hml hv
  obtain ⟨rfl, hsz, hP, hK, hD0⟩ := hv
  have hx := Bd.exec
  have hb := Bd.bytes
  have hr := Bd.returns
  have hg : ∀ w ∈ GT, w.before ([.ref h0, .int v] : List Value).toArray s = true := fun w h => atoms_spec (ws := Cond.code yX11_start cX11_start 2 (some .int) :: GT) Bd.pre w (List.mem_cons_of_mem _ h)
  have hown : s.vm.findClass RX11 = some m.cls := findClass_of_methodNamed Bd.named
  have hlocks := Bd.notSynchronized
  subst hsz
  have hD := hD0.self (sz := s.heap.size)
  generalize hAe : va_A [(h0, .inr (11, [.ref st, .int (nI N), .int (nI B), .ref rp, .int vrs, .int vrb, .int vhs, .int vca, .int vxs, .int vxb, .ref tp, .int (nI T), .int vfa, .int vbr, .int vba, .int vsp, .int vhe, .int vtk, .int vva, .ref cu, .ref lt, .ref od, .ref th, .ref be, .ref ln, .int (nI S), .ref ma, .int (nI M), .ref ah, .ref bh, .ref ik, .ref la, .ref lg, .ref ce, .int vto])), (st, .inl (G 0, 196, .inl fst))] s.heap.size = A at hD ⊢
  have hA : ∀ q : Nat, s.heap.size ≤ q → A q := fun q h => by rw [← hAe]; exact Or.inr h
  have hS : va_S A s.heap s.heap [] := va_S.rf
  have hl := lv_entry ([.ref h0, .int v]) (n := 2) (Nat.le_of_ble_eq_true rfl)
  rw [lg_entry_eq]
  generalize (lg_sl ([.ref h0, .int v]) ++ List.replicate (2 - (lg_sl ([.ref h0, .int v])).length) Slot.unset).toArray = ls at hl ⊢
  have hl : lv_has ls 2 [(0, .ref h0), (1, .int v)] := hl
  refine lv_iload_n hx hb dX11_start_0 rfl (lv_at hl 1 rfl) ?_
  refine lv_i2l (v := v.toInt64) hx hb dX11_start_1 rfl ?_
  refine lv_lconst (v := 1) hx hb dX11_start_2 (by decide) ?_
  refine lv_ldc2 (v := 9) hx hb hown (hg _ wt_1069) dX11_start_3 ?_
  have hPc := hP.sub (ws' := []) [] rfl
  refine va_calli (va_runS (As := [.long v.toInt64, .long 1, .long 9]) (rest := []) ⟨hx, hb, hml, hown, hg⟩ (c_X11_in l dC dI G _ v.toInt64 1 9 ) (kwS hg mfX11_in wt_992 ⟨Nat.le_of_ble_eq_true rfl, Nat.le_of_ble_eq_true rfl⟩) (preSR hK hPc) rfl rfl hl.1 rfl (lv_room (Nat.le_of_ble_eq_true rfl)) dX11_start_6 ⟨Nat.le_of_ble_eq_true rfl, Nat.le_of_ble_eq_true rfl⟩) hS (fun q h1 h2 => absurd h2 (Nat.not_le.mpr h1)) (fun q h => hA q (Nat.le_trans hS.1 h)) (fun r1 ur1 t H1 locs ht hvm w2 hB hz1 hk1 hS => ?_)
  have hP := keepR hP hk1
  obtain ⟨w2, w2x⟩ := w2
  try simp only [l_ii, show (1 : Int64).toInt = 1 from by decide, show (9 : Int64).toInt = 9 from by decide] at w2
  subst w2
  refine lv_if_ne (tgt := 14) hx hb dX11_start_9 (by decide) (fun c3 => ?_) (fun c3 => ?_)
  · skip
    have b4 := if10_p c3
    refine lv_iconst (v := 5) hx hb dX11_start_14 (by decide) ?_
    refine lv_aload_n hx hb dX11_start_15 rfl (lv_at hl 0 rfl) ?_
    refine lv_iconst (v := 1) hx hb dX11_start_16 (by decide) ?_
    refine lv_bipush (v := 48) hx hb dX11_start_17 (by decide) ?_
    refine lv_iload_n hx hb dX11_start_19 rfl (lv_at hl 1 rfl) ?_
    refine lv_iconst (v := 5) hx hb dX11_start_20 (by decide) ?_
    refine lv_isub hx hb dX11_start_21 ?_
    have hPc := hP.sub (ws' := [(h0, .inr (11, [.ref st, .int (nI N), .int (nI B), .ref rp, .int vrs, .int vrb, .int vhs, .int vca, .int vxs, .int vxb, .ref tp, .int (nI T), .int vfa, .int vbr, .int vba, .int vsp, .int vhe, .int vtk, .int vva, .ref cu, .ref lt, .ref od, .ref th, .ref be, .ref ln, .int (nI S), .ref ma, .int (nI M), .ref ah, .ref bh, .ref ik, .ref la, .ref lg, .ref ce, .int vto])), (st, .inl (G 0, 196, .inl fst))]) [0, 1] rfl
    have hDc := hD.sub (ws' := [(h0, .inr (11, [.ref st, .int (nI N), .int (nI B), .ref rp, .int vrs, .int vrb, .int vhs, .int vca, .int vxs, .int vxb, .ref tp, .int (nI T), .int vfa, .int vbr, .int vba, .int vsp, .int vhe, .int vtk, .int vva, .ref cu, .ref lt, .ref od, .ref th, .ref be, .ref ln, .int (nI S), .ref ma, .int (nI M), .ref ah, .ref bh, .ref ik, .ref la, .ref lg, .ref ce, .int vto])), (st, .inl (G 0, 196, .inl fst))]) [0, 1] (by decide) rfl
    have hFc := va_free (wc := [(h0, .inr (11, [.ref st, .int (nI N), .int (nI B), .ref rp, .int vrs, .int vrb, .int vhs, .int vca, .int vxs, .int vxb, .ref tp, .int (nI T), .int vfa, .int vbr, .int vba, .int vsp, .int vhe, .int vtk, .int vva, .ref cu, .ref lt, .ref od, .ref th, .ref be, .ref ln, .int (nI S), .ref ma, .int (nI M), .ref ah, .ref bh, .ref ik, .ref la, .ref lg, .ref ce, .int vto])), (st, .inl (G 0, 196, .inl fst))]) hD hS hA [0, 1] rfl
    refine va_calli (va_runV (As := [.int 1, .int 48, .int (v - 5)]) (rest := [.int 5]) ⟨hx, hb, hml, hown, hg⟩ (c_X11_sets1 l dC dI G _ h0 48 st N B rp tp T cu lt od th be ln S ma M ah bh ik la lg ce (v - 5) vrs vrb vhs vca vxs vxb vfa vbr vba vsp vhe vtk vva vto fst (by have t_b4 := b4; have t_n0 : (nI N).toInt = (N : Int) := nI_toInt (by omega); have t_n1 : (nI B).toInt = (B : Int) := nI_toInt (by omega); have t_n2 : (nI T).toInt = (T : Int) := nI_toInt (by omega); have t_n3 : (nI S).toInt = (S : Int) := nI_toInt (by omega); have t_n4 : (nI M).toInt = (M : Int) := nI_toInt (by omega); omega) (by have t_b4 := b4; have t_n0 : (nI N).toInt = (N : Int) := nI_toInt (by omega); have t_n1 : (nI B).toInt = (B : Int) := nI_toInt (by omega); have t_n2 : (nI T).toInt = (T : Int) := nI_toInt (by omega); have t_n3 : (nI S).toInt = (S : Int) := nI_toInt (by omega); have t_n4 : (nI M).toInt = (M : Int) := nI_toInt (by omega); omega) (by have t_b4 := b4; have t_n0 : (nI N).toInt = (N : Int) := nI_toInt (by omega); have t_n1 : (nI B).toInt = (B : Int) := nI_toInt (by omega); have t_n2 : (nI T).toInt = (T : Int) := nI_toInt (by omega); have t_n3 : (nI S).toInt = (S : Int) := nI_toInt (by omega); have t_n4 : (nI M).toInt = (M : Int) := nI_toInt (by omega); omega) (by have t_b4 := b4; have t_n0 : (nI N).toInt = (N : Int) := nI_toInt (by omega); have t_n1 : (nI B).toInt = (B : Int) := nI_toInt (by omega); have t_n2 : (nI T).toInt = (T : Int) := nI_toInt (by omega); have t_n3 : (nI S).toInt = (S : Int) := nI_toInt (by omega); have t_n4 : (nI M).toInt = (M : Int) := nI_toInt (by omega); omega) (by have t_b4 := b4; have t_n0 : (nI N).toInt = (N : Int) := nI_toInt (by omega); have t_n1 : (nI B).toInt = (B : Int) := nI_toInt (by omega); have t_n2 : (nI T).toInt = (T : Int) := nI_toInt (by omega); have t_n3 : (nI S).toInt = (S : Int) := nI_toInt (by omega); have t_n4 : (nI M).toInt = (M : Int) := nI_toInt (by omega); omega) hst (by have t_b4 := b4; have t_n0 : (nI N).toInt = (N : Int) := nI_toInt (by omega); have t_n1 : (nI B).toInt = (B : Int) := nI_toInt (by omega); have t_n2 : (nI T).toInt = (T : Int) := nI_toInt (by omega); have t_n3 : (nI S).toInt = (S : Int) := nI_toInt (by omega); have t_n4 : (nI M).toInt = (M : Int) := nI_toInt (by omega); omega) (okS_sd (by have t_b4 := b4; have t_n0 : (nI N).toInt = (N : Int) := nI_toInt (by omega); have t_n1 : (nI B).toInt = (B : Int) := nI_toInt (by omega); have t_n2 : (nI T).toInt = (T : Int) := nI_toInt (by omega); have t_n3 : (nI S).toInt = (S : Int) := nI_toInt (by omega); have t_n4 : (nI M).toInt = (M : Int) := nI_toInt (by omega); omega) (by have t_b4 := b4; have t_n0 : (nI N).toInt = (N : Int) := nI_toInt (by omega); have t_n1 : (nI B).toInt = (B : Int) := nI_toInt (by omega); have t_n2 : (nI T).toInt = (T : Int) := nI_toInt (by omega); have t_n3 : (nI S).toInt = (S : Int) := nI_toInt (by omega); have t_n4 : (nI M).toInt = (M : Int) := nI_toInt (by omega); omega))) (kwV hg mfX11_sets wt_1070 ⟨Nat.le_of_ble_eq_true rfl, Nat.le_of_ble_eq_true rfl⟩) (preVW hK hPc hDc (ci := 11) rfl rfl) rfl rfl hl.1 rfl (lv_room (Nat.le_of_ble_eq_true rfl)) dX11_start_22 ⟨Nat.le_of_ble_eq_true rfl, Nat.le_of_ble_eq_true rfl⟩) hS (fun q _ h => hFc q h) hFc (fun r5 ur5 t H1 locs ht hvm w6 hB hz1 hk1 hS => ?_)
    obtain ⟨u7, rfl⟩ : ∃ z, z = ur5 := ⟨_, rfl⟩
    obtain ⟨hP1, hD1⟩ := hB
    rw [ht] at hP1
    obtain ⟨hP, hD⟩ := va_join (wr := []) (w1 := [(h0, .inr (11, [.ref st, .int (nI N), .int (nI B), .ref rp, .int vrs, .int vrb, .int vhs, .int vca, .int vxs, .int vxb, .ref tp, .int (nI T), .int vfa, .int vbr, .int vba, .int vsp, .int vhe, .int vtk, .int vva, .ref cu, .ref lt, .ref od, .ref th, .ref be, .ref ln, .int (nI S), .ref ma, .int (nI M), .ref ah, .ref bh, .ref ik, .ref la, .ref lg, .ref ce, .int vto])), (st, .inl (G 0, 196, .inl u7))]) hP hD [0, 1] [] rfl rfl (by decide) (by decide) hk1 hFc hP1 hD1
    generalize H1 = H at hP hS ⊢
    have hP : va_P (dC, dI) vwCl [(h0, .inr (11, [.ref st, .int (nI N), .int (nI B), .ref rp, .int vrs, .int vrb, .int vhs, .int vca, .int vxs, .int vxb, .ref tp, .int (nI T), .int vfa, .int vbr, .int vba, .int vsp, .int vhe, .int vtk, .int vva, .ref cu, .ref lt, .ref od, .ref th, .ref be, .ref ln, .int (nI S), .ref ma, .int (nI M), .ref ah, .ref bh, .ref ik, .ref la, .ref lg, .ref ce, .int vto])), (st, .inl (G 0, 196, .inl u7))] H := hP
    have hD : va_D A [(h0, .inr (11, [.ref st, .int (nI N), .int (nI B), .ref rp, .int vrs, .int vrb, .int vhs, .int vca, .int vxs, .int vxb, .ref tp, .int (nI T), .int vfa, .int vbr, .int vba, .int vsp, .int vhe, .int vtk, .int vva, .ref cu, .ref lt, .ref od, .ref th, .ref be, .ref ln, .int (nI S), .ref ma, .int (nI M), .ref ah, .ref bh, .ref ik, .ref la, .ref lg, .ref ce, .int vto])), (st, .inl (G 0, 196, .inl u7))] := hD
    obtain ⟨w6, w6x⟩ := w6
    refine lv_iadd hx hb dX11_start_25 ?_
    have hpost : True := by
      trivial
    have hP9 := hP.sub (ws' := [(h0, .inr (11, [.ref st, .int (nI N), .int (nI B), .ref rp, .int vrs, .int vrb, .int vhs, .int vca, .int vxs, .int vxb, .ref tp, .int (nI T), .int vfa, .int vbr, .int vba, .int vsp, .int vhe, .int vtk, .int vva, .ref cu, .ref lt, .ref od, .ref th, .ref be, .ref ln, .int (nI S), .ref ma, .int (nI M), .ref ah, .ref bh, .ref ik, .ref la, .ref lg, .ref ce, .int vto])), (st, .inl (G 0, 196, .inl u7))]) [0, 1] rfl
    have hD9 := hD.sub (ws' := [(h0, .inr (11, [.ref st, .int (nI N), .int (nI B), .ref rp, .int vrs, .int vrb, .int vhs, .int vca, .int vxs, .int vxb, .ref tp, .int (nI T), .int vfa, .int vbr, .int vba, .int vsp, .int vhe, .int vtk, .int vva, .ref cu, .ref lt, .ref od, .ref th, .ref be, .ref ln, .int (nI S), .ref ma, .int (nI M), .ref ah, .ref bh, .ref ik, .ref la, .ref lg, .ref ce, .int vto])), (st, .inl (G 0, 196, .inl u7))]) [0, 1] (by decide) rfl
    refine W.widen (k := 0) (n := 0) (by omega) (by omega) ?_
    exact W.iret (v := 5 + r5) hx hb hr (fun t ht hW => ⟨⟨5 + r5, u7, rfl, ⟨hpost, w6x⟩, ⟨by rw [ht]; exact hP9, hD9⟩⟩, hS.F ht⟩) hS.2.2 dX11_start_26
  · skip
    have b8 := if10_n c3
    refine lv_iconst (v := (-1)) hx hb dX11_start_12 (by decide) ?_
    have hpost : True := by
      trivial
    have hP9 := hP.sub (ws' := [(h0, .inr (11, [.ref st, .int (nI N), .int (nI B), .ref rp, .int vrs, .int vrb, .int vhs, .int vca, .int vxs, .int vxb, .ref tp, .int (nI T), .int vfa, .int vbr, .int vba, .int vsp, .int vhe, .int vtk, .int vva, .ref cu, .ref lt, .ref od, .ref th, .ref be, .ref ln, .int (nI S), .ref ma, .int (nI M), .ref ah, .ref bh, .ref ik, .ref la, .ref lg, .ref ce, .int vto])), (st, .inl (G 0, 196, .inl fst))]) [0, 1] rfl
    have hD9 := hD.sub (ws' := [(h0, .inr (11, [.ref st, .int (nI N), .int (nI B), .ref rp, .int vrs, .int vrb, .int vhs, .int vca, .int vxs, .int vxb, .ref tp, .int (nI T), .int vfa, .int vbr, .int vba, .int vsp, .int vhe, .int vtk, .int vva, .ref cu, .ref lt, .ref od, .ref th, .ref be, .ref ln, .int (nI S), .ref ma, .int (nI M), .ref ah, .ref bh, .ref ik, .ref la, .ref lg, .ref ce, .int vto])), (st, .inl (G 0, 196, .inl fst))]) [0, 1] (by decide) rfl
    refine W.widen (k := 0) (n := 0) (by omega) (by omega) ?_
    exact W.iret (v := (-1)) hx hb hr (fun t ht hW => ⟨⟨(-1), fst, rfl, ⟨hpost, hst⟩, ⟨by rw [ht]; exact hP9, hD9⟩⟩, hS.F ht⟩) hS.2.2 dX11_start_13

set_option maxHeartbeats 1000000 in
set_option maxRecDepth 100000 in
theorem c_X11_noise (l : Launch) (dC : Nat → ClassId) (dI : Nat → Nat → Nat) (G : Nat → ClassId) (sz : Nat) (h0 st N B rp tp T cu lt od th be ln S ma M ah bh ik la lg ce : Nat) (i v vrs vrb vhs vca vxs vxb vfa vbr vba vsp vhe vtk vva vto : Int32) (fst : Nat → Int32) (hN : N ≤ 10) (hB : B ≤ 6) (hT : T ≤ 320) (hS0 : S ≤ 8) (hM : M ≤ 6) (hst : OKS fst) : Met l yX11_noise (Cond.code yX11_noise cX11_noise 3 (some .int) :: GT) ({ frames := 2, cells := 0, slots := 0, locals := 46 } : Room) (PcW [.ref h0, .int i, .int v] dC dI G [(h0, .inr (11, [.ref st, .int (nI N), .int (nI B), .ref rp, .int vrs, .int vrb, .int vhs, .int vca, .int vxs, .int vxb, .ref tp, .int (nI T), .int vfa, .int vbr, .int vba, .int vsp, .int vhe, .int vtk, .int vva, .ref cu, .ref lt, .ref od, .ref th, .ref be, .ref ln, .int (nI S), .ref ma, .int (nI M), .ref ah, .ref bh, .ref ik, .ref la, .ref lg, .ref ce, .int vto])), (st, .inl (G 0, 196, .inl fst))] sz) (va_Qi (fun (r : Int32) (u : (Nat → Int32)) => match u with | ost => (True) ∧ OKS ost) (fun (u : (Nat → Int32)) (t : State) => match u with | ost => va_P (dC, dI) vwCl [(h0, .inr (11, [.ref st, .int (nI N), .int (nI B), .ref rp, .int vrs, .int vrb, .int vhs, .int vca, .int vxs, .int vxb, .ref tp, .int (nI T), .int vfa, .int vbr, .int vba, .int vsp, .int vhe, .int vtk, .int vva, .ref cu, .ref lt, .ref od, .ref th, .ref be, .ref ln, .int (nI S), .ref ma, .int (nI M), .ref ah, .ref bh, .ref ik, .ref la, .ref lg, .ref ce, .int vto])), (st, .inl (G 0, 196, .inl ost))] t.heap ∧ va_D (va_A [(h0, .inr (11, [.ref st, .int (nI N), .int (nI B), .ref rp, .int vrs, .int vrb, .int vhs, .int vca, .int vxs, .int vxb, .ref tp, .int (nI T), .int vfa, .int vbr, .int vba, .int vsp, .int vhe, .int vtk, .int vva, .ref cu, .ref lt, .ref od, .ref th, .ref be, .ref ln, .int (nI S), .ref ma, .int (nI M), .ref ah, .ref bh, .ref ik, .ref la, .ref lg, .ref ce, .int vto])), (st, .inl (G 0, 196, .inl fst))] sz) [(h0, .inr (11, [.ref st, .int (nI N), .int (nI B), .ref rp, .int vrs, .int vrb, .int vhs, .int vca, .int vxs, .int vxb, .ref tp, .int (nI T), .int vfa, .int vbr, .int vba, .int vsp, .int vhe, .int vtk, .int vva, .ref cu, .ref lt, .ref od, .ref th, .ref be, .ref ln, .int (nI S), .ref ma, .int (nI M), .ref ah, .ref bh, .ref ik, .ref la, .ref lg, .ref ce, .int vto])), (st, .inl (G 0, 196, .inl ost))]) (va_A [(h0, .inr (11, [.ref st, .int (nI N), .int (nI B), .ref rp, .int vrs, .int vrb, .int vhs, .int vca, .int vxs, .int vxb, .ref tp, .int (nI T), .int vfa, .int vbr, .int vba, .int vsp, .int vhe, .int vtk, .int vva, .ref cu, .ref lt, .ref od, .ref th, .ref be, .ref ln, .int (nI S), .ref ma, .int (nI M), .ref ah, .ref bh, .ref ik, .ref la, .ref lg, .ref ce, .int vto])), (st, .inl (G 0, 196, .inl fst))] sz)) 0 0 (va_A [(h0, .inr (11, [.ref st, .int (nI N), .int (nI B), .ref rp, .int vrs, .int vrb, .int vhs, .int vca, .int vxs, .int vxb, .ref tp, .int (nI T), .int vfa, .int vbr, .int vba, .int vsp, .int vhe, .int vtk, .int vva, .ref cu, .ref lt, .ref od, .ref th, .ref be, .ref ln, .int (nI S), .ref ma, .int (nI M), .ref ah, .ref bh, .ref ik, .ref la, .ref lg, .ref ce, .int vto])), (st, .inl (G 0, 196, .inl fst))] sz) := by
  refine Met.ofW (cc := cX11_noise) (maxL := 3) (ret := (some .int)) (by decide) rfl ?_
  intro p e s m args below meth c s₁ Bd hml hv
  obtain ⟨rfl, hsz, hP, hK, hD0⟩ := hv
  have hx := Bd.exec
  have hb := Bd.bytes
  have hr := Bd.returns
  have hg : ∀ w ∈ GT, w.before ([.ref h0, .int i, .int v] : List Value).toArray s = true := fun w h => atoms_spec (ws := Cond.code yX11_noise cX11_noise 3 (some .int) :: GT) Bd.pre w (List.mem_cons_of_mem _ h)
  have hown : s.vm.findClass RX11 = some m.cls := findClass_of_methodNamed Bd.named
  have hlocks := Bd.notSynchronized
  subst hsz
  have hD := hD0.self (sz := s.heap.size)
  generalize hAe : va_A [(h0, .inr (11, [.ref st, .int (nI N), .int (nI B), .ref rp, .int vrs, .int vrb, .int vhs, .int vca, .int vxs, .int vxb, .ref tp, .int (nI T), .int vfa, .int vbr, .int vba, .int vsp, .int vhe, .int vtk, .int vva, .ref cu, .ref lt, .ref od, .ref th, .ref be, .ref ln, .int (nI S), .ref ma, .int (nI M), .ref ah, .ref bh, .ref ik, .ref la, .ref lg, .ref ce, .int vto])), (st, .inl (G 0, 196, .inl fst))] s.heap.size = A at hD ⊢
  have hA : ∀ q : Nat, s.heap.size ≤ q → A q := fun q h => by rw [← hAe]; exact Or.inr h
  have hS : va_S A s.heap s.heap [] := va_S.rf
  have hl := lv_entry ([.ref h0, .int i, .int v]) (n := 3) (Nat.le_of_ble_eq_true rfl)
  rw [lg_entry_eq]
  generalize (lg_sl ([.ref h0, .int i, .int v]) ++ List.replicate (3 - (lg_sl ([.ref h0, .int i, .int v])).length) Slot.unset).toArray = ls at hl ⊢
  have hl : lv_has ls 3 [(0, .ref h0), (1, .int i), (2, .int v)] := hl
  refine lv_aload_n hx hb dX11_noise_0 rfl (lv_at hl 0 rfl) ?_
  refine lv_aload_n hx hb dX11_noise_1 rfl (lv_at hl 0 rfl) ?_
  refine lv_iload_n hx hb dX11_noise_2 rfl (lv_at hl 1 rfl) ?_
  have hPc := hP.sub (ws' := [(h0, .inr (11, [.ref st, .int (nI N), .int (nI B), .ref rp, .int vrs, .int vrb, .int vhs, .int vca, .int vxs, .int vxb, .ref tp, .int (nI T), .int vfa, .int vbr, .int vba, .int vsp, .int vhe, .int vtk, .int vva, .ref cu, .ref lt, .ref od, .ref th, .ref be, .ref ln, .int (nI S), .ref ma, .int (nI M), .ref ah, .ref bh, .ref ik, .ref la, .ref lg, .ref ce, .int vto]))]) [0] rfl
  refine va_calli (va_runV (As := [.int i]) (rest := [.ref h0]) ⟨hx, hb, hml, hown, hg⟩ (c_X11_isStretch l dC dI G _ h0 st N B rp tp T cu lt od th be ln S ma M ah bh ik la lg ce i vrs vrb vhs vca vxs vxb vfa vbr vba vsp vhe vtk vva vto (by have t_n0 : (nI N).toInt = (N : Int) := nI_toInt (by omega); have t_n1 : (nI B).toInt = (B : Int) := nI_toInt (by omega); have t_n2 : (nI T).toInt = (T : Int) := nI_toInt (by omega); have t_n3 : (nI S).toInt = (S : Int) := nI_toInt (by omega); have t_n4 : (nI M).toInt = (M : Int) := nI_toInt (by omega); omega) (by have t_n0 : (nI N).toInt = (N : Int) := nI_toInt (by omega); have t_n1 : (nI B).toInt = (B : Int) := nI_toInt (by omega); have t_n2 : (nI T).toInt = (T : Int) := nI_toInt (by omega); have t_n3 : (nI S).toInt = (S : Int) := nI_toInt (by omega); have t_n4 : (nI M).toInt = (M : Int) := nI_toInt (by omega); omega) (by have t_n0 : (nI N).toInt = (N : Int) := nI_toInt (by omega); have t_n1 : (nI B).toInt = (B : Int) := nI_toInt (by omega); have t_n2 : (nI T).toInt = (T : Int) := nI_toInt (by omega); have t_n3 : (nI S).toInt = (S : Int) := nI_toInt (by omega); have t_n4 : (nI M).toInt = (M : Int) := nI_toInt (by omega); omega) (by have t_n0 : (nI N).toInt = (N : Int) := nI_toInt (by omega); have t_n1 : (nI B).toInt = (B : Int) := nI_toInt (by omega); have t_n2 : (nI T).toInt = (T : Int) := nI_toInt (by omega); have t_n3 : (nI S).toInt = (S : Int) := nI_toInt (by omega); have t_n4 : (nI M).toInt = (M : Int) := nI_toInt (by omega); omega) (by have t_n0 : (nI N).toInt = (N : Int) := nI_toInt (by omega); have t_n1 : (nI B).toInt = (B : Int) := nI_toInt (by omega); have t_n2 : (nI T).toInt = (T : Int) := nI_toInt (by omega); have t_n3 : (nI S).toInt = (S : Int) := nI_toInt (by omega); have t_n4 : (nI M).toInt = (M : Int) := nI_toInt (by omega); omega)) (kwV hg mfX11_isStretch wt_1052 ⟨Nat.le_of_ble_eq_true rfl, Nat.le_of_ble_eq_true rfl⟩) (preVR hK hPc (ci := 11) rfl rfl) rfl rfl hl.1 rfl (lv_room (Nat.le_of_ble_eq_true rfl)) dX11_noise_3 ⟨Nat.le_of_ble_eq_true rfl, Nat.le_of_ble_eq_true rfl⟩) hS (fun q h1 h2 => absurd h2 (Nat.not_le.mpr h1)) (fun q h => hA q (Nat.le_trans hS.1 h)) (fun r1 ur1 t H1 locs ht hvm w2 hB hz1 hk1 hS => ?_)
  have hP := keepR hP hk1
  obtain ⟨w2, w2x⟩ := w2
  try simp only [l_ii, show (0 : Int32).toInt = 0 from by decide] at w2
  try rw [nI_toInt (n := N) (by omega)] at w2
  subst w2
  refine lv_if_eq (tgt := 25) hx hb dX11_noise_6 (by decide) (fun c3 => ?_) (fun c3 => ?_)
  · skip
    have b4 := if10_n c3
    refine lv_iconst (v := 0) hx hb dX11_noise_25 (by decide) ?_
    refine lv_iconst (v := 2) hx hb dX11_noise_26 (by decide) ?_
    refine lv_iload_n hx hb dX11_noise_27 rfl (lv_at hl 1 rfl) ?_
    refine lv_imul hx hb dX11_noise_28 ?_
    refine lv_iload_n hx hb dX11_noise_29 rfl (lv_at hl 2 rfl) ?_
    have hPc := hP.sub (ws' := [(h0, .inr (11, [.ref st, .int (nI N), .int (nI B), .ref rp, .int vrs, .int vrb, .int vhs, .int vca, .int vxs, .int vxb, .ref tp, .int (nI T), .int vfa, .int vbr, .int vba, .int vsp, .int vhe, .int vtk, .int vva, .ref cu, .ref lt, .ref od, .ref th, .ref be, .ref ln, .int (nI S), .ref ma, .int (nI M), .ref ah, .ref bh, .ref ik, .ref la, .ref lg, .ref ce, .int vto])), (st, .inl (G 0, 196, .inl fst))]) [0, 1] rfl
    have hDc := hD.sub (ws' := [(h0, .inr (11, [.ref st, .int (nI N), .int (nI B), .ref rp, .int vrs, .int vrb, .int vhs, .int vca, .int vxs, .int vxb, .ref tp, .int (nI T), .int vfa, .int vbr, .int vba, .int vsp, .int vhe, .int vtk, .int vva, .ref cu, .ref lt, .ref od, .ref th, .ref be, .ref ln, .int (nI S), .ref ma, .int (nI M), .ref ah, .ref bh, .ref ik, .ref la, .ref lg, .ref ce, .int vto])), (st, .inl (G 0, 196, .inl fst))]) [0, 1] (by decide) rfl
    have hFc := va_free (wc := [(h0, .inr (11, [.ref st, .int (nI N), .int (nI B), .ref rp, .int vrs, .int vrb, .int vhs, .int vca, .int vxs, .int vxb, .ref tp, .int (nI T), .int vfa, .int vbr, .int vba, .int vsp, .int vhe, .int vtk, .int vva, .ref cu, .ref lt, .ref od, .ref th, .ref be, .ref ln, .int (nI S), .ref ma, .int (nI M), .ref ah, .ref bh, .ref ik, .ref la, .ref lg, .ref ce, .int vto])), (st, .inl (G 0, 196, .inl fst))]) hD hS hA [0, 1] rfl
    refine va_calli (va_runV (As := [.int 0, .int (2 * i), .int v]) (rest := []) ⟨hx, hb, hml, hown, hg⟩ (c_X11_sets0 l dC dI G _ h0 st N B rp tp T cu lt od th be ln S ma M ah bh ik la lg ce (2 * i) v vrs vrb vhs vca vxs vxb vfa vbr vba vsp vhe vtk vva vto fst (by have t_b4 := b4; have t_n0 : (nI N).toInt = (N : Int) := nI_toInt (by omega); have t_n1 : (nI B).toInt = (B : Int) := nI_toInt (by omega); have t_n2 : (nI T).toInt = (T : Int) := nI_toInt (by omega); have t_n3 : (nI S).toInt = (S : Int) := nI_toInt (by omega); have t_n4 : (nI M).toInt = (M : Int) := nI_toInt (by omega); omega) (by have t_b4 := b4; have t_n0 : (nI N).toInt = (N : Int) := nI_toInt (by omega); have t_n1 : (nI B).toInt = (B : Int) := nI_toInt (by omega); have t_n2 : (nI T).toInt = (T : Int) := nI_toInt (by omega); have t_n3 : (nI S).toInt = (S : Int) := nI_toInt (by omega); have t_n4 : (nI M).toInt = (M : Int) := nI_toInt (by omega); omega) (by have t_b4 := b4; have t_n0 : (nI N).toInt = (N : Int) := nI_toInt (by omega); have t_n1 : (nI B).toInt = (B : Int) := nI_toInt (by omega); have t_n2 : (nI T).toInt = (T : Int) := nI_toInt (by omega); have t_n3 : (nI S).toInt = (S : Int) := nI_toInt (by omega); have t_n4 : (nI M).toInt = (M : Int) := nI_toInt (by omega); omega) (by have t_b4 := b4; have t_n0 : (nI N).toInt = (N : Int) := nI_toInt (by omega); have t_n1 : (nI B).toInt = (B : Int) := nI_toInt (by omega); have t_n2 : (nI T).toInt = (T : Int) := nI_toInt (by omega); have t_n3 : (nI S).toInt = (S : Int) := nI_toInt (by omega); have t_n4 : (nI M).toInt = (M : Int) := nI_toInt (by omega); omega) (by have t_b4 := b4; have t_n0 : (nI N).toInt = (N : Int) := nI_toInt (by omega); have t_n1 : (nI B).toInt = (B : Int) := nI_toInt (by omega); have t_n2 : (nI T).toInt = (T : Int) := nI_toInt (by omega); have t_n3 : (nI S).toInt = (S : Int) := nI_toInt (by omega); have t_n4 : (nI M).toInt = (M : Int) := nI_toInt (by omega); omega) hst) (kwV hg mfX11_sets wt_1070 ⟨Nat.le_of_ble_eq_true rfl, Nat.le_of_ble_eq_true rfl⟩) (preVW hK hPc hDc (ci := 11) rfl rfl) rfl rfl hl.1 rfl (lv_room (Nat.le_of_ble_eq_true rfl)) dX11_noise_30 ⟨Nat.le_of_ble_eq_true rfl, Nat.le_of_ble_eq_true rfl⟩) hS (fun q _ h => hFc q h) hFc (fun r5 ur5 t H1 locs ht hvm w6 hB hz1 hk1 hS => ?_)
    obtain ⟨u7, rfl⟩ : ∃ z, z = ur5 := ⟨_, rfl⟩
    obtain ⟨hP1, hD1⟩ := hB
    rw [ht] at hP1
    obtain ⟨hP, hD⟩ := va_join (wr := []) (w1 := [(h0, .inr (11, [.ref st, .int (nI N), .int (nI B), .ref rp, .int vrs, .int vrb, .int vhs, .int vca, .int vxs, .int vxb, .ref tp, .int (nI T), .int vfa, .int vbr, .int vba, .int vsp, .int vhe, .int vtk, .int vva, .ref cu, .ref lt, .ref od, .ref th, .ref be, .ref ln, .int (nI S), .ref ma, .int (nI M), .ref ah, .ref bh, .ref ik, .ref la, .ref lg, .ref ce, .int vto])), (st, .inl (G 0, 196, .inl u7))]) hP hD [0, 1] [] rfl rfl (by decide) (by decide) hk1 hFc hP1 hD1
    generalize H1 = H at hP hS ⊢
    have hP : va_P (dC, dI) vwCl [(h0, .inr (11, [.ref st, .int (nI N), .int (nI B), .ref rp, .int vrs, .int vrb, .int vhs, .int vca, .int vxs, .int vxb, .ref tp, .int (nI T), .int vfa, .int vbr, .int vba, .int vsp, .int vhe, .int vtk, .int vva, .ref cu, .ref lt, .ref od, .ref th, .ref be, .ref ln, .int (nI S), .ref ma, .int (nI M), .ref ah, .ref bh, .ref ik, .ref la, .ref lg, .ref ce, .int vto])), (st, .inl (G 0, 196, .inl u7))] H := hP
    have hD : va_D A [(h0, .inr (11, [.ref st, .int (nI N), .int (nI B), .ref rp, .int vrs, .int vrb, .int vhs, .int vca, .int vxs, .int vxb, .ref tp, .int (nI T), .int vfa, .int vbr, .int vba, .int vsp, .int vhe, .int vtk, .int vva, .ref cu, .ref lt, .ref od, .ref th, .ref be, .ref ln, .int (nI S), .ref ma, .int (nI M), .ref ah, .ref bh, .ref ik, .ref la, .ref lg, .ref ce, .int vto])), (st, .inl (G 0, 196, .inl u7))] := hD
    obtain ⟨w6, w6x⟩ := w6
    have hpost : True := by
      trivial
    have hP9 := hP.sub (ws' := [(h0, .inr (11, [.ref st, .int (nI N), .int (nI B), .ref rp, .int vrs, .int vrb, .int vhs, .int vca, .int vxs, .int vxb, .ref tp, .int (nI T), .int vfa, .int vbr, .int vba, .int vsp, .int vhe, .int vtk, .int vva, .ref cu, .ref lt, .ref od, .ref th, .ref be, .ref ln, .int (nI S), .ref ma, .int (nI M), .ref ah, .ref bh, .ref ik, .ref la, .ref lg, .ref ce, .int vto])), (st, .inl (G 0, 196, .inl u7))]) [0, 1] rfl
    have hD9 := hD.sub (ws' := [(h0, .inr (11, [.ref st, .int (nI N), .int (nI B), .ref rp, .int vrs, .int vrb, .int vhs, .int vca, .int vxs, .int vxb, .ref tp, .int (nI T), .int vfa, .int vbr, .int vba, .int vsp, .int vhe, .int vtk, .int vva, .ref cu, .ref lt, .ref od, .ref th, .ref be, .ref ln, .int (nI S), .ref ma, .int (nI M), .ref ah, .ref bh, .ref ik, .ref la, .ref lg, .ref ce, .int vto])), (st, .inl (G 0, 196, .inl u7))]) [0, 1] (by decide) rfl
    refine W.widen (k := 0) (n := 0) (by omega) (by omega) ?_
    exact W.iret (v := r5) hx hb hr (fun t ht hW => ⟨⟨r5, u7, rfl, ⟨hpost, w6x⟩, ⟨by rw [ht]; exact hP9, hD9⟩⟩, hS.F ht⟩) hS.2.2 dX11_noise_33
  · skip
    have b8 := if10_p c3
    refine lv_iload_n hx hb dX11_noise_9 rfl (lv_at hl 2 rfl) ?_
    refine lv_i2l (v := v.toInt64) hx hb dX11_noise_10 rfl ?_
    refine lv_lconst (v := 0) hx hb dX11_noise_11 (by decide) ?_
    refine lv_ldc2 (v := 9) hx hb hown (hg _ wt_1069) dX11_noise_12 ?_
    have hPc := hP.sub (ws' := []) [] rfl
    refine va_calli (va_runS (As := [.long v.toInt64, .long 0, .long 9]) (rest := [.ref h0]) ⟨hx, hb, hml, hown, hg⟩ (c_X11_in l dC dI G _ v.toInt64 0 9 ) (kwS hg mfX11_in wt_992 ⟨Nat.le_of_ble_eq_true rfl, Nat.le_of_ble_eq_true rfl⟩) (preSR hK hPc) rfl rfl hl.1 rfl (lv_room (Nat.le_of_ble_eq_true rfl)) dX11_noise_15 ⟨Nat.le_of_ble_eq_true rfl, Nat.le_of_ble_eq_true rfl⟩) hS (fun q h1 h2 => absurd h2 (Nat.not_le.mpr h1)) (fun q h => hA q (Nat.le_trans hS.1 h)) (fun r9 ur9 t H1 locs ht hvm w10 hB hz1 hk1 hS => ?_)
    have hP := keepR hP hk1
    obtain ⟨w10, w10x⟩ := w10
    try simp only [l_ii, show (0 : Int64).toInt = 0 from by decide, show (9 : Int64).toInt = 9 from by decide] at w10
    subst w10
    refine lv_if_eq (tgt := 25) hx hb dX11_noise_18 (by decide) (fun c11 => ?_) (fun c11 => ?_)
    · skip
      have b12 := if10_n c11
      refine lv_iconst (v := 0) hx hb dX11_noise_25 (by decide) ?_
      refine lv_iconst (v := 2) hx hb dX11_noise_26 (by decide) ?_
      refine lv_iload_n hx hb dX11_noise_27 rfl (lv_at hl 1 rfl) ?_
      refine lv_imul hx hb dX11_noise_28 ?_
      refine lv_iload_n hx hb dX11_noise_29 rfl (lv_at hl 2 rfl) ?_
      have hPc := hP.sub (ws' := [(h0, .inr (11, [.ref st, .int (nI N), .int (nI B), .ref rp, .int vrs, .int vrb, .int vhs, .int vca, .int vxs, .int vxb, .ref tp, .int (nI T), .int vfa, .int vbr, .int vba, .int vsp, .int vhe, .int vtk, .int vva, .ref cu, .ref lt, .ref od, .ref th, .ref be, .ref ln, .int (nI S), .ref ma, .int (nI M), .ref ah, .ref bh, .ref ik, .ref la, .ref lg, .ref ce, .int vto])), (st, .inl (G 0, 196, .inl fst))]) [0, 1] rfl
      have hDc := hD.sub (ws' := [(h0, .inr (11, [.ref st, .int (nI N), .int (nI B), .ref rp, .int vrs, .int vrb, .int vhs, .int vca, .int vxs, .int vxb, .ref tp, .int (nI T), .int vfa, .int vbr, .int vba, .int vsp, .int vhe, .int vtk, .int vva, .ref cu, .ref lt, .ref od, .ref th, .ref be, .ref ln, .int (nI S), .ref ma, .int (nI M), .ref ah, .ref bh, .ref ik, .ref la, .ref lg, .ref ce, .int vto])), (st, .inl (G 0, 196, .inl fst))]) [0, 1] (by decide) rfl
      have hFc := va_free (wc := [(h0, .inr (11, [.ref st, .int (nI N), .int (nI B), .ref rp, .int vrs, .int vrb, .int vhs, .int vca, .int vxs, .int vxb, .ref tp, .int (nI T), .int vfa, .int vbr, .int vba, .int vsp, .int vhe, .int vtk, .int vva, .ref cu, .ref lt, .ref od, .ref th, .ref be, .ref ln, .int (nI S), .ref ma, .int (nI M), .ref ah, .ref bh, .ref ik, .ref la, .ref lg, .ref ce, .int vto])), (st, .inl (G 0, 196, .inl fst))]) hD hS hA [0, 1] rfl
      refine va_calli (va_runV (As := [.int 0, .int (2 * i), .int v]) (rest := []) ⟨hx, hb, hml, hown, hg⟩ (c_X11_sets0 l dC dI G _ h0 st N B rp tp T cu lt od th be ln S ma M ah bh ik la lg ce (2 * i) v vrs vrb vhs vca vxs vxb vfa vbr vba vsp vhe vtk vva vto fst (by have t_b8 := b8; have t_b12 := b12; have t_n0 : (nI N).toInt = (N : Int) := nI_toInt (by omega); have t_n1 : (nI B).toInt = (B : Int) := nI_toInt (by omega); have t_n2 : (nI T).toInt = (T : Int) := nI_toInt (by omega); have t_n3 : (nI S).toInt = (S : Int) := nI_toInt (by omega); have t_n4 : (nI M).toInt = (M : Int) := nI_toInt (by omega); omega) (by have t_b8 := b8; have t_b12 := b12; have t_n0 : (nI N).toInt = (N : Int) := nI_toInt (by omega); have t_n1 : (nI B).toInt = (B : Int) := nI_toInt (by omega); have t_n2 : (nI T).toInt = (T : Int) := nI_toInt (by omega); have t_n3 : (nI S).toInt = (S : Int) := nI_toInt (by omega); have t_n4 : (nI M).toInt = (M : Int) := nI_toInt (by omega); omega) (by have t_b8 := b8; have t_b12 := b12; have t_n0 : (nI N).toInt = (N : Int) := nI_toInt (by omega); have t_n1 : (nI B).toInt = (B : Int) := nI_toInt (by omega); have t_n2 : (nI T).toInt = (T : Int) := nI_toInt (by omega); have t_n3 : (nI S).toInt = (S : Int) := nI_toInt (by omega); have t_n4 : (nI M).toInt = (M : Int) := nI_toInt (by omega); omega) (by have t_b8 := b8; have t_b12 := b12; have t_n0 : (nI N).toInt = (N : Int) := nI_toInt (by omega); have t_n1 : (nI B).toInt = (B : Int) := nI_toInt (by omega); have t_n2 : (nI T).toInt = (T : Int) := nI_toInt (by omega); have t_n3 : (nI S).toInt = (S : Int) := nI_toInt (by omega); have t_n4 : (nI M).toInt = (M : Int) := nI_toInt (by omega); omega) (by have t_b8 := b8; have t_b12 := b12; have t_n0 : (nI N).toInt = (N : Int) := nI_toInt (by omega); have t_n1 : (nI B).toInt = (B : Int) := nI_toInt (by omega); have t_n2 : (nI T).toInt = (T : Int) := nI_toInt (by omega); have t_n3 : (nI S).toInt = (S : Int) := nI_toInt (by omega); have t_n4 : (nI M).toInt = (M : Int) := nI_toInt (by omega); omega) hst) (kwV hg mfX11_sets wt_1070 ⟨Nat.le_of_ble_eq_true rfl, Nat.le_of_ble_eq_true rfl⟩) (preVW hK hPc hDc (ci := 11) rfl rfl) rfl rfl hl.1 rfl (lv_room (Nat.le_of_ble_eq_true rfl)) dX11_noise_30 ⟨Nat.le_of_ble_eq_true rfl, Nat.le_of_ble_eq_true rfl⟩) hS (fun q _ h => hFc q h) hFc (fun r13 ur13 t H1 locs ht hvm w14 hB hz1 hk1 hS => ?_)
      obtain ⟨u15, rfl⟩ : ∃ z, z = ur13 := ⟨_, rfl⟩
      obtain ⟨hP1, hD1⟩ := hB
      rw [ht] at hP1
      obtain ⟨hP, hD⟩ := va_join (wr := []) (w1 := [(h0, .inr (11, [.ref st, .int (nI N), .int (nI B), .ref rp, .int vrs, .int vrb, .int vhs, .int vca, .int vxs, .int vxb, .ref tp, .int (nI T), .int vfa, .int vbr, .int vba, .int vsp, .int vhe, .int vtk, .int vva, .ref cu, .ref lt, .ref od, .ref th, .ref be, .ref ln, .int (nI S), .ref ma, .int (nI M), .ref ah, .ref bh, .ref ik, .ref la, .ref lg, .ref ce, .int vto])), (st, .inl (G 0, 196, .inl u15))]) hP hD [0, 1] [] rfl rfl (by decide) (by decide) hk1 hFc hP1 hD1
      generalize H1 = H at hP hS ⊢
      have hP : va_P (dC, dI) vwCl [(h0, .inr (11, [.ref st, .int (nI N), .int (nI B), .ref rp, .int vrs, .int vrb, .int vhs, .int vca, .int vxs, .int vxb, .ref tp, .int (nI T), .int vfa, .int vbr, .int vba, .int vsp, .int vhe, .int vtk, .int vva, .ref cu, .ref lt, .ref od, .ref th, .ref be, .ref ln, .int (nI S), .ref ma, .int (nI M), .ref ah, .ref bh, .ref ik, .ref la, .ref lg, .ref ce, .int vto])), (st, .inl (G 0, 196, .inl u15))] H := hP
      have hD : va_D A [(h0, .inr (11, [.ref st, .int (nI N), .int (nI B), .ref rp, .int vrs, .int vrb, .int vhs, .int vca, .int vxs, .int vxb, .ref tp, .int (nI T), .int vfa, .int vbr, .int vba, .int vsp, .int vhe, .int vtk, .int vva, .ref cu, .ref lt, .ref od, .ref th, .ref be, .ref ln, .int (nI S), .ref ma, .int (nI M), .ref ah, .ref bh, .ref ik, .ref la, .ref lg, .ref ce, .int vto])), (st, .inl (G 0, 196, .inl u15))] := hD
      obtain ⟨w14, w14x⟩ := w14
      have hpost : True := by
        trivial
      have hP9 := hP.sub (ws' := [(h0, .inr (11, [.ref st, .int (nI N), .int (nI B), .ref rp, .int vrs, .int vrb, .int vhs, .int vca, .int vxs, .int vxb, .ref tp, .int (nI T), .int vfa, .int vbr, .int vba, .int vsp, .int vhe, .int vtk, .int vva, .ref cu, .ref lt, .ref od, .ref th, .ref be, .ref ln, .int (nI S), .ref ma, .int (nI M), .ref ah, .ref bh, .ref ik, .ref la, .ref lg, .ref ce, .int vto])), (st, .inl (G 0, 196, .inl u15))]) [0, 1] rfl
      have hD9 := hD.sub (ws' := [(h0, .inr (11, [.ref st, .int (nI N), .int (nI B), .ref rp, .int vrs, .int vrb, .int vhs, .int vca, .int vxs, .int vxb, .ref tp, .int (nI T), .int vfa, .int vbr, .int vba, .int vsp, .int vhe, .int vtk, .int vva, .ref cu, .ref lt, .ref od, .ref th, .ref be, .ref ln, .int (nI S), .ref ma, .int (nI M), .ref ah, .ref bh, .ref ik, .ref la, .ref lg, .ref ce, .int vto])), (st, .inl (G 0, 196, .inl u15))]) [0, 1] (by decide) rfl
      refine W.widen (k := 0) (n := 0) (by omega) (by omega) ?_
      exact W.iret (v := r13) hx hb hr (fun t ht hW => ⟨⟨r13, u15, rfl, ⟨hpost, w14x⟩, ⟨by rw [ht]; exact hP9, hD9⟩⟩, hS.F ht⟩) hS.2.2 dX11_noise_33
    · skip
      have b16 := if10_p c11
      obtain ⟨ii, hii, rfl⟩ : ∃ j : Nat, j < 10 ∧ i = nI j := by
        have t_b8 := b8
        have t_b16 := b16
        have t_n0 : (nI N).toInt = (N : Int) := nI_toInt (by omega)
        have t_n1 : (nI B).toInt = (B : Int) := nI_toInt (by omega)
        have t_n2 : (nI T).toInt = (T : Int) := nI_toInt (by omega)
        have t_n3 : (nI S).toInt = (S : Int) := nI_toInt (by omega)
        have t_n4 : (nI M).toInt = (M : Int) := nI_toInt (by omega)
        exact i32_nat (by omega) (by omega)
      refine lv_iconst (v := 1) hx hb dX11_noise_21 (by decide) ?_
      refine lv_goto (tgt := 26) hx hb dX11_noise_22 (by decide) ?_
      refine lv_iconst (v := 2) hx hb dX11_noise_26 (by decide) ?_
      refine lv_iload_n hx hb dX11_noise_27 rfl (lv_at hl 1 rfl) ?_
      refine lv_imul hx hb dX11_noise_28 ?_
      refine lv_cg (y := nI (2 * ii)) (by rw [show (2 : Int32) = nI 2 from rfl]; exact pk_mul _ _) ?_
      refine lv_iload_n hx hb dX11_noise_29 rfl (lv_at hl 2 rfl) ?_
      have hPc := hP.sub (ws' := [(h0, .inr (11, [.ref st, .int (nI N), .int (nI B), .ref rp, .int vrs, .int vrb, .int vhs, .int vca, .int vxs, .int vxb, .ref tp, .int (nI T), .int vfa, .int vbr, .int vba, .int vsp, .int vhe, .int vtk, .int vva, .ref cu, .ref lt, .ref od, .ref th, .ref be, .ref ln, .int (nI S), .ref ma, .int (nI M), .ref ah, .ref bh, .ref ik, .ref la, .ref lg, .ref ce, .int vto])), (st, .inl (G 0, 196, .inl fst))]) [0, 1] rfl
      have hDc := hD.sub (ws' := [(h0, .inr (11, [.ref st, .int (nI N), .int (nI B), .ref rp, .int vrs, .int vrb, .int vhs, .int vca, .int vxs, .int vxb, .ref tp, .int (nI T), .int vfa, .int vbr, .int vba, .int vsp, .int vhe, .int vtk, .int vva, .ref cu, .ref lt, .ref od, .ref th, .ref be, .ref ln, .int (nI S), .ref ma, .int (nI M), .ref ah, .ref bh, .ref ik, .ref la, .ref lg, .ref ce, .int vto])), (st, .inl (G 0, 196, .inl fst))]) [0, 1] (by decide) rfl
      have hFc := va_free (wc := [(h0, .inr (11, [.ref st, .int (nI N), .int (nI B), .ref rp, .int vrs, .int vrb, .int vhs, .int vca, .int vxs, .int vxb, .ref tp, .int (nI T), .int vfa, .int vbr, .int vba, .int vsp, .int vhe, .int vtk, .int vva, .ref cu, .ref lt, .ref od, .ref th, .ref be, .ref ln, .int (nI S), .ref ma, .int (nI M), .ref ah, .ref bh, .ref ik, .ref la, .ref lg, .ref ce, .int vto])), (st, .inl (G 0, 196, .inl fst))]) hD hS hA [0, 1] rfl
      refine va_calli (va_runV (As := [.int 1, .int (nI (2 * ii)), .int v]) (rest := []) ⟨hx, hb, hml, hown, hg⟩ (c_X11_sets1 l dC dI G _ h0 (2 * ii) st N B rp tp T cu lt od th be ln S ma M ah bh ik la lg ce v vrs vrb vhs vca vxs vxb vfa vbr vba vsp vhe vtk vva vto fst (by have t_b8 := b8; have t_b16 := b16; have t_hii := hii; have t_n0 : (nI N).toInt = (N : Int) := nI_toInt (by omega); have t_n1 : (nI B).toInt = (B : Int) := nI_toInt (by omega); have t_n2 : (nI T).toInt = (T : Int) := nI_toInt (by omega); have t_n3 : (nI S).toInt = (S : Int) := nI_toInt (by omega); have t_n4 : (nI M).toInt = (M : Int) := nI_toInt (by omega); have t_n5 : (nI ii).toInt = (ii : Int) := nI_toInt (by omega); omega) (by have t_b8 := b8; have t_b16 := b16; have t_hii := hii; have t_n0 : (nI N).toInt = (N : Int) := nI_toInt (by omega); have t_n1 : (nI B).toInt = (B : Int) := nI_toInt (by omega); have t_n2 : (nI T).toInt = (T : Int) := nI_toInt (by omega); have t_n3 : (nI S).toInt = (S : Int) := nI_toInt (by omega); have t_n4 : (nI M).toInt = (M : Int) := nI_toInt (by omega); have t_n5 : (nI ii).toInt = (ii : Int) := nI_toInt (by omega); omega) (by have t_b8 := b8; have t_b16 := b16; have t_hii := hii; have t_n0 : (nI N).toInt = (N : Int) := nI_toInt (by omega); have t_n1 : (nI B).toInt = (B : Int) := nI_toInt (by omega); have t_n2 : (nI T).toInt = (T : Int) := nI_toInt (by omega); have t_n3 : (nI S).toInt = (S : Int) := nI_toInt (by omega); have t_n4 : (nI M).toInt = (M : Int) := nI_toInt (by omega); have t_n5 : (nI ii).toInt = (ii : Int) := nI_toInt (by omega); omega) (by have t_b8 := b8; have t_b16 := b16; have t_hii := hii; have t_n0 : (nI N).toInt = (N : Int) := nI_toInt (by omega); have t_n1 : (nI B).toInt = (B : Int) := nI_toInt (by omega); have t_n2 : (nI T).toInt = (T : Int) := nI_toInt (by omega); have t_n3 : (nI S).toInt = (S : Int) := nI_toInt (by omega); have t_n4 : (nI M).toInt = (M : Int) := nI_toInt (by omega); have t_n5 : (nI ii).toInt = (ii : Int) := nI_toInt (by omega); omega) (by have t_b8 := b8; have t_b16 := b16; have t_hii := hii; have t_n0 : (nI N).toInt = (N : Int) := nI_toInt (by omega); have t_n1 : (nI B).toInt = (B : Int) := nI_toInt (by omega); have t_n2 : (nI T).toInt = (T : Int) := nI_toInt (by omega); have t_n3 : (nI S).toInt = (S : Int) := nI_toInt (by omega); have t_n4 : (nI M).toInt = (M : Int) := nI_toInt (by omega); have t_n5 : (nI ii).toInt = (ii : Int) := nI_toInt (by omega); omega) hst (by have t_b8 := b8; have t_b16 := b16; have t_hii := hii; have t_n0 : (nI N).toInt = (N : Int) := nI_toInt (by omega); have t_n1 : (nI B).toInt = (B : Int) := nI_toInt (by omega); have t_n2 : (nI T).toInt = (T : Int) := nI_toInt (by omega); have t_n3 : (nI S).toInt = (S : Int) := nI_toInt (by omega); have t_n4 : (nI M).toInt = (M : Int) := nI_toInt (by omega); have t_n5 : (nI ii).toInt = (ii : Int) := nI_toInt (by omega); omega) (okS_lo (by have t_b8 := b8; have t_b16 := b16; have t_hii := hii; have t_n0 : (nI N).toInt = (N : Int) := nI_toInt (by omega); have t_n1 : (nI B).toInt = (B : Int) := nI_toInt (by omega); have t_n2 : (nI T).toInt = (T : Int) := nI_toInt (by omega); have t_n3 : (nI S).toInt = (S : Int) := nI_toInt (by omega); have t_n4 : (nI M).toInt = (M : Int) := nI_toInt (by omega); have t_n5 : (nI ii).toInt = (ii : Int) := nI_toInt (by omega); omega) (by have t_b8 := b8; have t_b16 := b16; have t_hii := hii; have t_n0 : (nI N).toInt = (N : Int) := nI_toInt (by omega); have t_n1 : (nI B).toInt = (B : Int) := nI_toInt (by omega); have t_n2 : (nI T).toInt = (T : Int) := nI_toInt (by omega); have t_n3 : (nI S).toInt = (S : Int) := nI_toInt (by omega); have t_n4 : (nI M).toInt = (M : Int) := nI_toInt (by omega); have t_n5 : (nI ii).toInt = (ii : Int) := nI_toInt (by omega); omega) (by have t_b8 := b8; have t_b16 := b16; have t_hii := hii; have t_n0 : (nI N).toInt = (N : Int) := nI_toInt (by omega); have t_n1 : (nI B).toInt = (B : Int) := nI_toInt (by omega); have t_n2 : (nI T).toInt = (T : Int) := nI_toInt (by omega); have t_n3 : (nI S).toInt = (S : Int) := nI_toInt (by omega); have t_n4 : (nI M).toInt = (M : Int) := nI_toInt (by omega); have t_n5 : (nI ii).toInt = (ii : Int) := nI_toInt (by omega); omega))) (kwV hg mfX11_sets wt_1070 ⟨Nat.le_of_ble_eq_true rfl, Nat.le_of_ble_eq_true rfl⟩) (preVW hK hPc hDc (ci := 11) rfl rfl) rfl rfl hl.1 rfl (lv_room (Nat.le_of_ble_eq_true rfl)) dX11_noise_30 ⟨Nat.le_of_ble_eq_true rfl, Nat.le_of_ble_eq_true rfl⟩) hS (fun q _ h => hFc q h) hFc (fun r17 ur17 t H1 locs ht hvm w18 hB hz1 hk1 hS => ?_)
      obtain ⟨u19, rfl⟩ : ∃ z, z = ur17 := ⟨_, rfl⟩
      obtain ⟨hP1, hD1⟩ := hB
      rw [ht] at hP1
      obtain ⟨hP, hD⟩ := va_join (wr := []) (w1 := [(h0, .inr (11, [.ref st, .int (nI N), .int (nI B), .ref rp, .int vrs, .int vrb, .int vhs, .int vca, .int vxs, .int vxb, .ref tp, .int (nI T), .int vfa, .int vbr, .int vba, .int vsp, .int vhe, .int vtk, .int vva, .ref cu, .ref lt, .ref od, .ref th, .ref be, .ref ln, .int (nI S), .ref ma, .int (nI M), .ref ah, .ref bh, .ref ik, .ref la, .ref lg, .ref ce, .int vto])), (st, .inl (G 0, 196, .inl u19))]) hP hD [0, 1] [] rfl rfl (by decide) (by decide) hk1 hFc hP1 hD1
      generalize H1 = H at hP hS ⊢
      have hP : va_P (dC, dI) vwCl [(h0, .inr (11, [.ref st, .int (nI N), .int (nI B), .ref rp, .int vrs, .int vrb, .int vhs, .int vca, .int vxs, .int vxb, .ref tp, .int (nI T), .int vfa, .int vbr, .int vba, .int vsp, .int vhe, .int vtk, .int vva, .ref cu, .ref lt, .ref od, .ref th, .ref be, .ref ln, .int (nI S), .ref ma, .int (nI M), .ref ah, .ref bh, .ref ik, .ref la, .ref lg, .ref ce, .int vto])), (st, .inl (G 0, 196, .inl u19))] H := hP
      have hD : va_D A [(h0, .inr (11, [.ref st, .int (nI N), .int (nI B), .ref rp, .int vrs, .int vrb, .int vhs, .int vca, .int vxs, .int vxb, .ref tp, .int (nI T), .int vfa, .int vbr, .int vba, .int vsp, .int vhe, .int vtk, .int vva, .ref cu, .ref lt, .ref od, .ref th, .ref be, .ref ln, .int (nI S), .ref ma, .int (nI M), .ref ah, .ref bh, .ref ik, .ref la, .ref lg, .ref ce, .int vto])), (st, .inl (G 0, 196, .inl u19))] := hD
      obtain ⟨w18, w18x⟩ := w18
      have hpost : True := by
        trivial
      have hP9 := hP.sub (ws' := [(h0, .inr (11, [.ref st, .int (nI N), .int (nI B), .ref rp, .int vrs, .int vrb, .int vhs, .int vca, .int vxs, .int vxb, .ref tp, .int (nI T), .int vfa, .int vbr, .int vba, .int vsp, .int vhe, .int vtk, .int vva, .ref cu, .ref lt, .ref od, .ref th, .ref be, .ref ln, .int (nI S), .ref ma, .int (nI M), .ref ah, .ref bh, .ref ik, .ref la, .ref lg, .ref ce, .int vto])), (st, .inl (G 0, 196, .inl u19))]) [0, 1] rfl
      have hD9 := hD.sub (ws' := [(h0, .inr (11, [.ref st, .int (nI N), .int (nI B), .ref rp, .int vrs, .int vrb, .int vhs, .int vca, .int vxs, .int vxb, .ref tp, .int (nI T), .int vfa, .int vbr, .int vba, .int vsp, .int vhe, .int vtk, .int vva, .ref cu, .ref lt, .ref od, .ref th, .ref be, .ref ln, .int (nI S), .ref ma, .int (nI M), .ref ah, .ref bh, .ref ik, .ref la, .ref lg, .ref ce, .int vto])), (st, .inl (G 0, 196, .inl u19))]) [0, 1] (by decide) rfl
      refine W.widen (k := 0) (n := 0) (by omega) (by omega) ?_
      exact W.iret (v := r17) hx hb hr (fun t ht hW => ⟨⟨r17, u19, rfl, ⟨hpost, w18x⟩, ⟨by rw [ht]; exact hP9, hD9⟩⟩, hS.F ht⟩) hS.2.2 dX11_noise_33

set_option maxHeartbeats 1000000 in
set_option maxRecDepth 100000 in
theorem c_X11_cold (l : Launch) (dC : Nat → ClassId) (dI : Nat → Nat → Nat) (G : Nat → ClassId) (sz : Nat) (h0 st N B rp tp T cu lt od th be ln S ma M ah bh ik la lg ce : Nat) (i v vrs vrb vhs vca vxs vxb vfa vbr vba vsp vhe vtk vva vto : Int32) (fst : Nat → Int32) (hN : N ≤ 10) (hB : B ≤ 6) (hT : T ≤ 320) (hS0 : S ≤ 8) (hM : M ≤ 6) (hst : OKS fst) : Met l yX11_cold (Cond.code yX11_cold cX11_cold 3 (some .int) :: GT) ({ frames := 2, cells := 0, slots := 0, locals := 46 } : Room) (PcW [.ref h0, .int i, .int v] dC dI G [(h0, .inr (11, [.ref st, .int (nI N), .int (nI B), .ref rp, .int vrs, .int vrb, .int vhs, .int vca, .int vxs, .int vxb, .ref tp, .int (nI T), .int vfa, .int vbr, .int vba, .int vsp, .int vhe, .int vtk, .int vva, .ref cu, .ref lt, .ref od, .ref th, .ref be, .ref ln, .int (nI S), .ref ma, .int (nI M), .ref ah, .ref bh, .ref ik, .ref la, .ref lg, .ref ce, .int vto])), (st, .inl (G 0, 196, .inl fst))] sz) (va_Qi (fun (r : Int32) (u : (Nat → Int32)) => match u with | ost => (True) ∧ OKS ost) (fun (u : (Nat → Int32)) (t : State) => match u with | ost => va_P (dC, dI) vwCl [(h0, .inr (11, [.ref st, .int (nI N), .int (nI B), .ref rp, .int vrs, .int vrb, .int vhs, .int vca, .int vxs, .int vxb, .ref tp, .int (nI T), .int vfa, .int vbr, .int vba, .int vsp, .int vhe, .int vtk, .int vva, .ref cu, .ref lt, .ref od, .ref th, .ref be, .ref ln, .int (nI S), .ref ma, .int (nI M), .ref ah, .ref bh, .ref ik, .ref la, .ref lg, .ref ce, .int vto])), (st, .inl (G 0, 196, .inl ost))] t.heap ∧ va_D (va_A [(h0, .inr (11, [.ref st, .int (nI N), .int (nI B), .ref rp, .int vrs, .int vrb, .int vhs, .int vca, .int vxs, .int vxb, .ref tp, .int (nI T), .int vfa, .int vbr, .int vba, .int vsp, .int vhe, .int vtk, .int vva, .ref cu, .ref lt, .ref od, .ref th, .ref be, .ref ln, .int (nI S), .ref ma, .int (nI M), .ref ah, .ref bh, .ref ik, .ref la, .ref lg, .ref ce, .int vto])), (st, .inl (G 0, 196, .inl fst))] sz) [(h0, .inr (11, [.ref st, .int (nI N), .int (nI B), .ref rp, .int vrs, .int vrb, .int vhs, .int vca, .int vxs, .int vxb, .ref tp, .int (nI T), .int vfa, .int vbr, .int vba, .int vsp, .int vhe, .int vtk, .int vva, .ref cu, .ref lt, .ref od, .ref th, .ref be, .ref ln, .int (nI S), .ref ma, .int (nI M), .ref ah, .ref bh, .ref ik, .ref la, .ref lg, .ref ce, .int vto])), (st, .inl (G 0, 196, .inl ost))]) (va_A [(h0, .inr (11, [.ref st, .int (nI N), .int (nI B), .ref rp, .int vrs, .int vrb, .int vhs, .int vca, .int vxs, .int vxb, .ref tp, .int (nI T), .int vfa, .int vbr, .int vba, .int vsp, .int vhe, .int vtk, .int vva, .ref cu, .ref lt, .ref od, .ref th, .ref be, .ref ln, .int (nI S), .ref ma, .int (nI M), .ref ah, .ref bh, .ref ik, .ref la, .ref lg, .ref ce, .int vto])), (st, .inl (G 0, 196, .inl fst))] sz)) 0 0 (va_A [(h0, .inr (11, [.ref st, .int (nI N), .int (nI B), .ref rp, .int vrs, .int vrb, .int vhs, .int vca, .int vxs, .int vxb, .ref tp, .int (nI T), .int vfa, .int vbr, .int vba, .int vsp, .int vhe, .int vtk, .int vva, .ref cu, .ref lt, .ref od, .ref th, .ref be, .ref ln, .int (nI S), .ref ma, .int (nI M), .ref ah, .ref bh, .ref ik, .ref la, .ref lg, .ref ce, .int vto])), (st, .inl (G 0, 196, .inl fst))] sz) := by
  refine Met.ofW (cc := cX11_cold) (maxL := 3) (ret := (some .int)) (by decide) rfl ?_
  intro p e s m args below meth c s₁ Bd hml hv
  obtain ⟨rfl, hsz, hP, hK, hD0⟩ := hv
  have hx := Bd.exec
  have hb := Bd.bytes
  have hr := Bd.returns
  have hg : ∀ w ∈ GT, w.before ([.ref h0, .int i, .int v] : List Value).toArray s = true := fun w h => atoms_spec (ws := Cond.code yX11_cold cX11_cold 3 (some .int) :: GT) Bd.pre w (List.mem_cons_of_mem _ h)
  have hown : s.vm.findClass RX11 = some m.cls := findClass_of_methodNamed Bd.named
  have hlocks := Bd.notSynchronized
  subst hsz
  have hD := hD0.self (sz := s.heap.size)
  generalize hAe : va_A [(h0, .inr (11, [.ref st, .int (nI N), .int (nI B), .ref rp, .int vrs, .int vrb, .int vhs, .int vca, .int vxs, .int vxb, .ref tp, .int (nI T), .int vfa, .int vbr, .int vba, .int vsp, .int vhe, .int vtk, .int vva, .ref cu, .ref lt, .ref od, .ref th, .ref be, .ref ln, .int (nI S), .ref ma, .int (nI M), .ref ah, .ref bh, .ref ik, .ref la, .ref lg, .ref ce, .int vto])), (st, .inl (G 0, 196, .inl fst))] s.heap.size = A at hD ⊢
  have hA : ∀ q : Nat, s.heap.size ≤ q → A q := fun q h => by rw [← hAe]; exact Or.inr h
  have hS : va_S A s.heap s.heap [] := va_S.rf
  have hl := lv_entry ([.ref h0, .int i, .int v]) (n := 3) (Nat.le_of_ble_eq_true rfl)
  rw [lg_entry_eq]
  generalize (lg_sl ([.ref h0, .int i, .int v]) ++ List.replicate (3 - (lg_sl ([.ref h0, .int i, .int v])).length) Slot.unset).toArray = ls at hl ⊢
  have hl : lv_has ls 3 [(0, .ref h0), (1, .int i), (2, .int v)] := hl
  refine lv_aload_n hx hb dX11_cold_0 rfl (lv_at hl 0 rfl) ?_
  refine lv_aload_n hx hb dX11_cold_1 rfl (lv_at hl 0 rfl) ?_
  refine lv_iload_n hx hb dX11_cold_2 rfl (lv_at hl 1 rfl) ?_
  have hPc := hP.sub (ws' := [(h0, .inr (11, [.ref st, .int (nI N), .int (nI B), .ref rp, .int vrs, .int vrb, .int vhs, .int vca, .int vxs, .int vxb, .ref tp, .int (nI T), .int vfa, .int vbr, .int vba, .int vsp, .int vhe, .int vtk, .int vva, .ref cu, .ref lt, .ref od, .ref th, .ref be, .ref ln, .int (nI S), .ref ma, .int (nI M), .ref ah, .ref bh, .ref ik, .ref la, .ref lg, .ref ce, .int vto]))]) [0] rfl
  refine va_calli (va_runV (As := [.int i]) (rest := [.ref h0]) ⟨hx, hb, hml, hown, hg⟩ (c_X11_isStretch l dC dI G _ h0 st N B rp tp T cu lt od th be ln S ma M ah bh ik la lg ce i vrs vrb vhs vca vxs vxb vfa vbr vba vsp vhe vtk vva vto (by have t_n0 : (nI N).toInt = (N : Int) := nI_toInt (by omega); have t_n1 : (nI B).toInt = (B : Int) := nI_toInt (by omega); have t_n2 : (nI T).toInt = (T : Int) := nI_toInt (by omega); have t_n3 : (nI S).toInt = (S : Int) := nI_toInt (by omega); have t_n4 : (nI M).toInt = (M : Int) := nI_toInt (by omega); omega) (by have t_n0 : (nI N).toInt = (N : Int) := nI_toInt (by omega); have t_n1 : (nI B).toInt = (B : Int) := nI_toInt (by omega); have t_n2 : (nI T).toInt = (T : Int) := nI_toInt (by omega); have t_n3 : (nI S).toInt = (S : Int) := nI_toInt (by omega); have t_n4 : (nI M).toInt = (M : Int) := nI_toInt (by omega); omega) (by have t_n0 : (nI N).toInt = (N : Int) := nI_toInt (by omega); have t_n1 : (nI B).toInt = (B : Int) := nI_toInt (by omega); have t_n2 : (nI T).toInt = (T : Int) := nI_toInt (by omega); have t_n3 : (nI S).toInt = (S : Int) := nI_toInt (by omega); have t_n4 : (nI M).toInt = (M : Int) := nI_toInt (by omega); omega) (by have t_n0 : (nI N).toInt = (N : Int) := nI_toInt (by omega); have t_n1 : (nI B).toInt = (B : Int) := nI_toInt (by omega); have t_n2 : (nI T).toInt = (T : Int) := nI_toInt (by omega); have t_n3 : (nI S).toInt = (S : Int) := nI_toInt (by omega); have t_n4 : (nI M).toInt = (M : Int) := nI_toInt (by omega); omega) (by have t_n0 : (nI N).toInt = (N : Int) := nI_toInt (by omega); have t_n1 : (nI B).toInt = (B : Int) := nI_toInt (by omega); have t_n2 : (nI T).toInt = (T : Int) := nI_toInt (by omega); have t_n3 : (nI S).toInt = (S : Int) := nI_toInt (by omega); have t_n4 : (nI M).toInt = (M : Int) := nI_toInt (by omega); omega)) (kwV hg mfX11_isStretch wt_1052 ⟨Nat.le_of_ble_eq_true rfl, Nat.le_of_ble_eq_true rfl⟩) (preVR hK hPc (ci := 11) rfl rfl) rfl rfl hl.1 rfl (lv_room (Nat.le_of_ble_eq_true rfl)) dX11_cold_3 ⟨Nat.le_of_ble_eq_true rfl, Nat.le_of_ble_eq_true rfl⟩) hS (fun q h1 h2 => absurd h2 (Nat.not_le.mpr h1)) (fun q h => hA q (Nat.le_trans hS.1 h)) (fun r1 ur1 t H1 locs ht hvm w2 hB hz1 hk1 hS => ?_)
  have hP := keepR hP hk1
  obtain ⟨w2, w2x⟩ := w2
  try simp only [l_ii, show (0 : Int32).toInt = 0 from by decide] at w2
  try rw [nI_toInt (n := N) (by omega)] at w2
  subst w2
  refine lv_if_eq (tgt := 25) hx hb dX11_cold_6 (by decide) (fun c3 => ?_) (fun c3 => ?_)
  · skip
    have b4 := if10_n c3
    refine lv_iconst (v := 0) hx hb dX11_cold_25 (by decide) ?_
    refine lv_iconst (v := 2) hx hb dX11_cold_26 (by decide) ?_
    refine lv_iload_n hx hb dX11_cold_27 rfl (lv_at hl 1 rfl) ?_
    refine lv_imul hx hb dX11_cold_28 ?_
    refine lv_iconst (v := 1) hx hb dX11_cold_29 (by decide) ?_
    refine lv_iadd hx hb dX11_cold_30 ?_
    refine lv_iload_n hx hb dX11_cold_31 rfl (lv_at hl 2 rfl) ?_
    have hPc := hP.sub (ws' := [(h0, .inr (11, [.ref st, .int (nI N), .int (nI B), .ref rp, .int vrs, .int vrb, .int vhs, .int vca, .int vxs, .int vxb, .ref tp, .int (nI T), .int vfa, .int vbr, .int vba, .int vsp, .int vhe, .int vtk, .int vva, .ref cu, .ref lt, .ref od, .ref th, .ref be, .ref ln, .int (nI S), .ref ma, .int (nI M), .ref ah, .ref bh, .ref ik, .ref la, .ref lg, .ref ce, .int vto])), (st, .inl (G 0, 196, .inl fst))]) [0, 1] rfl
    have hDc := hD.sub (ws' := [(h0, .inr (11, [.ref st, .int (nI N), .int (nI B), .ref rp, .int vrs, .int vrb, .int vhs, .int vca, .int vxs, .int vxb, .ref tp, .int (nI T), .int vfa, .int vbr, .int vba, .int vsp, .int vhe, .int vtk, .int vva, .ref cu, .ref lt, .ref od, .ref th, .ref be, .ref ln, .int (nI S), .ref ma, .int (nI M), .ref ah, .ref bh, .ref ik, .ref la, .ref lg, .ref ce, .int vto])), (st, .inl (G 0, 196, .inl fst))]) [0, 1] (by decide) rfl
    have hFc := va_free (wc := [(h0, .inr (11, [.ref st, .int (nI N), .int (nI B), .ref rp, .int vrs, .int vrb, .int vhs, .int vca, .int vxs, .int vxb, .ref tp, .int (nI T), .int vfa, .int vbr, .int vba, .int vsp, .int vhe, .int vtk, .int vva, .ref cu, .ref lt, .ref od, .ref th, .ref be, .ref ln, .int (nI S), .ref ma, .int (nI M), .ref ah, .ref bh, .ref ik, .ref la, .ref lg, .ref ce, .int vto])), (st, .inl (G 0, 196, .inl fst))]) hD hS hA [0, 1] rfl
    refine va_calli (va_runV (As := [.int 0, .int ((2 * i) + 1), .int v]) (rest := []) ⟨hx, hb, hml, hown, hg⟩ (c_X11_sets0 l dC dI G _ h0 st N B rp tp T cu lt od th be ln S ma M ah bh ik la lg ce ((2 * i) + 1) v vrs vrb vhs vca vxs vxb vfa vbr vba vsp vhe vtk vva vto fst (by have t_b4 := b4; have t_n0 : (nI N).toInt = (N : Int) := nI_toInt (by omega); have t_n1 : (nI B).toInt = (B : Int) := nI_toInt (by omega); have t_n2 : (nI T).toInt = (T : Int) := nI_toInt (by omega); have t_n3 : (nI S).toInt = (S : Int) := nI_toInt (by omega); have t_n4 : (nI M).toInt = (M : Int) := nI_toInt (by omega); omega) (by have t_b4 := b4; have t_n0 : (nI N).toInt = (N : Int) := nI_toInt (by omega); have t_n1 : (nI B).toInt = (B : Int) := nI_toInt (by omega); have t_n2 : (nI T).toInt = (T : Int) := nI_toInt (by omega); have t_n3 : (nI S).toInt = (S : Int) := nI_toInt (by omega); have t_n4 : (nI M).toInt = (M : Int) := nI_toInt (by omega); omega) (by have t_b4 := b4; have t_n0 : (nI N).toInt = (N : Int) := nI_toInt (by omega); have t_n1 : (nI B).toInt = (B : Int) := nI_toInt (by omega); have t_n2 : (nI T).toInt = (T : Int) := nI_toInt (by omega); have t_n3 : (nI S).toInt = (S : Int) := nI_toInt (by omega); have t_n4 : (nI M).toInt = (M : Int) := nI_toInt (by omega); omega) (by have t_b4 := b4; have t_n0 : (nI N).toInt = (N : Int) := nI_toInt (by omega); have t_n1 : (nI B).toInt = (B : Int) := nI_toInt (by omega); have t_n2 : (nI T).toInt = (T : Int) := nI_toInt (by omega); have t_n3 : (nI S).toInt = (S : Int) := nI_toInt (by omega); have t_n4 : (nI M).toInt = (M : Int) := nI_toInt (by omega); omega) (by have t_b4 := b4; have t_n0 : (nI N).toInt = (N : Int) := nI_toInt (by omega); have t_n1 : (nI B).toInt = (B : Int) := nI_toInt (by omega); have t_n2 : (nI T).toInt = (T : Int) := nI_toInt (by omega); have t_n3 : (nI S).toInt = (S : Int) := nI_toInt (by omega); have t_n4 : (nI M).toInt = (M : Int) := nI_toInt (by omega); omega) hst) (kwV hg mfX11_sets wt_1070 ⟨Nat.le_of_ble_eq_true rfl, Nat.le_of_ble_eq_true rfl⟩) (preVW hK hPc hDc (ci := 11) rfl rfl) rfl rfl hl.1 rfl (lv_room (Nat.le_of_ble_eq_true rfl)) dX11_cold_32 ⟨Nat.le_of_ble_eq_true rfl, Nat.le_of_ble_eq_true rfl⟩) hS (fun q _ h => hFc q h) hFc (fun r5 ur5 t H1 locs ht hvm w6 hB hz1 hk1 hS => ?_)
    obtain ⟨u7, rfl⟩ : ∃ z, z = ur5 := ⟨_, rfl⟩
    obtain ⟨hP1, hD1⟩ := hB
    rw [ht] at hP1
    obtain ⟨hP, hD⟩ := va_join (wr := []) (w1 := [(h0, .inr (11, [.ref st, .int (nI N), .int (nI B), .ref rp, .int vrs, .int vrb, .int vhs, .int vca, .int vxs, .int vxb, .ref tp, .int (nI T), .int vfa, .int vbr, .int vba, .int vsp, .int vhe, .int vtk, .int vva, .ref cu, .ref lt, .ref od, .ref th, .ref be, .ref ln, .int (nI S), .ref ma, .int (nI M), .ref ah, .ref bh, .ref ik, .ref la, .ref lg, .ref ce, .int vto])), (st, .inl (G 0, 196, .inl u7))]) hP hD [0, 1] [] rfl rfl (by decide) (by decide) hk1 hFc hP1 hD1
    generalize H1 = H at hP hS ⊢
    have hP : va_P (dC, dI) vwCl [(h0, .inr (11, [.ref st, .int (nI N), .int (nI B), .ref rp, .int vrs, .int vrb, .int vhs, .int vca, .int vxs, .int vxb, .ref tp, .int (nI T), .int vfa, .int vbr, .int vba, .int vsp, .int vhe, .int vtk, .int vva, .ref cu, .ref lt, .ref od, .ref th, .ref be, .ref ln, .int (nI S), .ref ma, .int (nI M), .ref ah, .ref bh, .ref ik, .ref la, .ref lg, .ref ce, .int vto])), (st, .inl (G 0, 196, .inl u7))] H := hP
    have hD : va_D A [(h0, .inr (11, [.ref st, .int (nI N), .int (nI B), .ref rp, .int vrs, .int vrb, .int vhs, .int vca, .int vxs, .int vxb, .ref tp, .int (nI T), .int vfa, .int vbr, .int vba, .int vsp, .int vhe, .int vtk, .int vva, .ref cu, .ref lt, .ref od, .ref th, .ref be, .ref ln, .int (nI S), .ref ma, .int (nI M), .ref ah, .ref bh, .ref ik, .ref la, .ref lg, .ref ce, .int vto])), (st, .inl (G 0, 196, .inl u7))] := hD
    obtain ⟨w6, w6x⟩ := w6
    have hpost : True := by
      trivial
    have hP9 := hP.sub (ws' := [(h0, .inr (11, [.ref st, .int (nI N), .int (nI B), .ref rp, .int vrs, .int vrb, .int vhs, .int vca, .int vxs, .int vxb, .ref tp, .int (nI T), .int vfa, .int vbr, .int vba, .int vsp, .int vhe, .int vtk, .int vva, .ref cu, .ref lt, .ref od, .ref th, .ref be, .ref ln, .int (nI S), .ref ma, .int (nI M), .ref ah, .ref bh, .ref ik, .ref la, .ref lg, .ref ce, .int vto])), (st, .inl (G 0, 196, .inl u7))]) [0, 1] rfl
    have hD9 := hD.sub (ws' := [(h0, .inr (11, [.ref st, .int (nI N), .int (nI B), .ref rp, .int vrs, .int vrb, .int vhs, .int vca, .int vxs, .int vxb, .ref tp, .int (nI T), .int vfa, .int vbr, .int vba, .int vsp, .int vhe, .int vtk, .int vva, .ref cu, .ref lt, .ref od, .ref th, .ref be, .ref ln, .int (nI S), .ref ma, .int (nI M), .ref ah, .ref bh, .ref ik, .ref la, .ref lg, .ref ce, .int vto])), (st, .inl (G 0, 196, .inl u7))]) [0, 1] (by decide) rfl
    refine W.widen (k := 0) (n := 0) (by omega) (by omega) ?_
    exact W.iret (v := r5) hx hb hr (fun t ht hW => ⟨⟨r5, u7, rfl, ⟨hpost, w6x⟩, ⟨by rw [ht]; exact hP9, hD9⟩⟩, hS.F ht⟩) hS.2.2 dX11_cold_35
  · skip
    have b8 := if10_p c3
    refine lv_iload_n hx hb dX11_cold_9 rfl (lv_at hl 2 rfl) ?_
    refine lv_i2l (v := v.toInt64) hx hb dX11_cold_10 rfl ?_
    refine lv_lconst (v := 0) hx hb dX11_cold_11 (by decide) ?_
    refine lv_ldc2 (v := 9) hx hb hown (hg _ wt_1069) dX11_cold_12 ?_
    have hPc := hP.sub (ws' := []) [] rfl
    refine va_calli (va_runS (As := [.long v.toInt64, .long 0, .long 9]) (rest := [.ref h0]) ⟨hx, hb, hml, hown, hg⟩ (c_X11_in l dC dI G _ v.toInt64 0 9 ) (kwS hg mfX11_in wt_992 ⟨Nat.le_of_ble_eq_true rfl, Nat.le_of_ble_eq_true rfl⟩) (preSR hK hPc) rfl rfl hl.1 rfl (lv_room (Nat.le_of_ble_eq_true rfl)) dX11_cold_15 ⟨Nat.le_of_ble_eq_true rfl, Nat.le_of_ble_eq_true rfl⟩) hS (fun q h1 h2 => absurd h2 (Nat.not_le.mpr h1)) (fun q h => hA q (Nat.le_trans hS.1 h)) (fun r9 ur9 t H1 locs ht hvm w10 hB hz1 hk1 hS => ?_)
    have hP := keepR hP hk1
    obtain ⟨w10, w10x⟩ := w10
    try simp only [l_ii, show (0 : Int64).toInt = 0 from by decide, show (9 : Int64).toInt = 9 from by decide] at w10
    subst w10
    refine lv_if_eq (tgt := 25) hx hb dX11_cold_18 (by decide) (fun c11 => ?_) (fun c11 => ?_)
    · skip
      have b12 := if10_n c11
      refine lv_iconst (v := 0) hx hb dX11_cold_25 (by decide) ?_
      refine lv_iconst (v := 2) hx hb dX11_cold_26 (by decide) ?_
      refine lv_iload_n hx hb dX11_cold_27 rfl (lv_at hl 1 rfl) ?_
      refine lv_imul hx hb dX11_cold_28 ?_
      refine lv_iconst (v := 1) hx hb dX11_cold_29 (by decide) ?_
      refine lv_iadd hx hb dX11_cold_30 ?_
      refine lv_iload_n hx hb dX11_cold_31 rfl (lv_at hl 2 rfl) ?_
      have hPc := hP.sub (ws' := [(h0, .inr (11, [.ref st, .int (nI N), .int (nI B), .ref rp, .int vrs, .int vrb, .int vhs, .int vca, .int vxs, .int vxb, .ref tp, .int (nI T), .int vfa, .int vbr, .int vba, .int vsp, .int vhe, .int vtk, .int vva, .ref cu, .ref lt, .ref od, .ref th, .ref be, .ref ln, .int (nI S), .ref ma, .int (nI M), .ref ah, .ref bh, .ref ik, .ref la, .ref lg, .ref ce, .int vto])), (st, .inl (G 0, 196, .inl fst))]) [0, 1] rfl
      have hDc := hD.sub (ws' := [(h0, .inr (11, [.ref st, .int (nI N), .int (nI B), .ref rp, .int vrs, .int vrb, .int vhs, .int vca, .int vxs, .int vxb, .ref tp, .int (nI T), .int vfa, .int vbr, .int vba, .int vsp, .int vhe, .int vtk, .int vva, .ref cu, .ref lt, .ref od, .ref th, .ref be, .ref ln, .int (nI S), .ref ma, .int (nI M), .ref ah, .ref bh, .ref ik, .ref la, .ref lg, .ref ce, .int vto])), (st, .inl (G 0, 196, .inl fst))]) [0, 1] (by decide) rfl
      have hFc := va_free (wc := [(h0, .inr (11, [.ref st, .int (nI N), .int (nI B), .ref rp, .int vrs, .int vrb, .int vhs, .int vca, .int vxs, .int vxb, .ref tp, .int (nI T), .int vfa, .int vbr, .int vba, .int vsp, .int vhe, .int vtk, .int vva, .ref cu, .ref lt, .ref od, .ref th, .ref be, .ref ln, .int (nI S), .ref ma, .int (nI M), .ref ah, .ref bh, .ref ik, .ref la, .ref lg, .ref ce, .int vto])), (st, .inl (G 0, 196, .inl fst))]) hD hS hA [0, 1] rfl
      refine va_calli (va_runV (As := [.int 0, .int ((2 * i) + 1), .int v]) (rest := []) ⟨hx, hb, hml, hown, hg⟩ (c_X11_sets0 l dC dI G _ h0 st N B rp tp T cu lt od th be ln S ma M ah bh ik la lg ce ((2 * i) + 1) v vrs vrb vhs vca vxs vxb vfa vbr vba vsp vhe vtk vva vto fst (by have t_b8 := b8; have t_b12 := b12; have t_n0 : (nI N).toInt = (N : Int) := nI_toInt (by omega); have t_n1 : (nI B).toInt = (B : Int) := nI_toInt (by omega); have t_n2 : (nI T).toInt = (T : Int) := nI_toInt (by omega); have t_n3 : (nI S).toInt = (S : Int) := nI_toInt (by omega); have t_n4 : (nI M).toInt = (M : Int) := nI_toInt (by omega); omega) (by have t_b8 := b8; have t_b12 := b12; have t_n0 : (nI N).toInt = (N : Int) := nI_toInt (by omega); have t_n1 : (nI B).toInt = (B : Int) := nI_toInt (by omega); have t_n2 : (nI T).toInt = (T : Int) := nI_toInt (by omega); have t_n3 : (nI S).toInt = (S : Int) := nI_toInt (by omega); have t_n4 : (nI M).toInt = (M : Int) := nI_toInt (by omega); omega) (by have t_b8 := b8; have t_b12 := b12; have t_n0 : (nI N).toInt = (N : Int) := nI_toInt (by omega); have t_n1 : (nI B).toInt = (B : Int) := nI_toInt (by omega); have t_n2 : (nI T).toInt = (T : Int) := nI_toInt (by omega); have t_n3 : (nI S).toInt = (S : Int) := nI_toInt (by omega); have t_n4 : (nI M).toInt = (M : Int) := nI_toInt (by omega); omega) (by have t_b8 := b8; have t_b12 := b12; have t_n0 : (nI N).toInt = (N : Int) := nI_toInt (by omega); have t_n1 : (nI B).toInt = (B : Int) := nI_toInt (by omega); have t_n2 : (nI T).toInt = (T : Int) := nI_toInt (by omega); have t_n3 : (nI S).toInt = (S : Int) := nI_toInt (by omega); have t_n4 : (nI M).toInt = (M : Int) := nI_toInt (by omega); omega) (by have t_b8 := b8; have t_b12 := b12; have t_n0 : (nI N).toInt = (N : Int) := nI_toInt (by omega); have t_n1 : (nI B).toInt = (B : Int) := nI_toInt (by omega); have t_n2 : (nI T).toInt = (T : Int) := nI_toInt (by omega); have t_n3 : (nI S).toInt = (S : Int) := nI_toInt (by omega); have t_n4 : (nI M).toInt = (M : Int) := nI_toInt (by omega); omega) hst) (kwV hg mfX11_sets wt_1070 ⟨Nat.le_of_ble_eq_true rfl, Nat.le_of_ble_eq_true rfl⟩) (preVW hK hPc hDc (ci := 11) rfl rfl) rfl rfl hl.1 rfl (lv_room (Nat.le_of_ble_eq_true rfl)) dX11_cold_32 ⟨Nat.le_of_ble_eq_true rfl, Nat.le_of_ble_eq_true rfl⟩) hS (fun q _ h => hFc q h) hFc (fun r13 ur13 t H1 locs ht hvm w14 hB hz1 hk1 hS => ?_)
      obtain ⟨u15, rfl⟩ : ∃ z, z = ur13 := ⟨_, rfl⟩
      obtain ⟨hP1, hD1⟩ := hB
      rw [ht] at hP1
      obtain ⟨hP, hD⟩ := va_join (wr := []) (w1 := [(h0, .inr (11, [.ref st, .int (nI N), .int (nI B), .ref rp, .int vrs, .int vrb, .int vhs, .int vca, .int vxs, .int vxb, .ref tp, .int (nI T), .int vfa, .int vbr, .int vba, .int vsp, .int vhe, .int vtk, .int vva, .ref cu, .ref lt, .ref od, .ref th, .ref be, .ref ln, .int (nI S), .ref ma, .int (nI M), .ref ah, .ref bh, .ref ik, .ref la, .ref lg, .ref ce, .int vto])), (st, .inl (G 0, 196, .inl u15))]) hP hD [0, 1] [] rfl rfl (by decide) (by decide) hk1 hFc hP1 hD1
      generalize H1 = H at hP hS ⊢
      have hP : va_P (dC, dI) vwCl [(h0, .inr (11, [.ref st, .int (nI N), .int (nI B), .ref rp, .int vrs, .int vrb, .int vhs, .int vca, .int vxs, .int vxb, .ref tp, .int (nI T), .int vfa, .int vbr, .int vba, .int vsp, .int vhe, .int vtk, .int vva, .ref cu, .ref lt, .ref od, .ref th, .ref be, .ref ln, .int (nI S), .ref ma, .int (nI M), .ref ah, .ref bh, .ref ik, .ref la, .ref lg, .ref ce, .int vto])), (st, .inl (G 0, 196, .inl u15))] H := hP
      have hD : va_D A [(h0, .inr (11, [.ref st, .int (nI N), .int (nI B), .ref rp, .int vrs, .int vrb, .int vhs, .int vca, .int vxs, .int vxb, .ref tp, .int (nI T), .int vfa, .int vbr, .int vba, .int vsp, .int vhe, .int vtk, .int vva, .ref cu, .ref lt, .ref od, .ref th, .ref be, .ref ln, .int (nI S), .ref ma, .int (nI M), .ref ah, .ref bh, .ref ik, .ref la, .ref lg, .ref ce, .int vto])), (st, .inl (G 0, 196, .inl u15))] := hD
      obtain ⟨w14, w14x⟩ := w14
      have hpost : True := by
        trivial
      have hP9 := hP.sub (ws' := [(h0, .inr (11, [.ref st, .int (nI N), .int (nI B), .ref rp, .int vrs, .int vrb, .int vhs, .int vca, .int vxs, .int vxb, .ref tp, .int (nI T), .int vfa, .int vbr, .int vba, .int vsp, .int vhe, .int vtk, .int vva, .ref cu, .ref lt, .ref od, .ref th, .ref be, .ref ln, .int (nI S), .ref ma, .int (nI M), .ref ah, .ref bh, .ref ik, .ref la, .ref lg, .ref ce, .int vto])), (st, .inl (G 0, 196, .inl u15))]) [0, 1] rfl
      have hD9 := hD.sub (ws' := [(h0, .inr (11, [.ref st, .int (nI N), .int (nI B), .ref rp, .int vrs, .int vrb, .int vhs, .int vca, .int vxs, .int vxb, .ref tp, .int (nI T), .int vfa, .int vbr, .int vba, .int vsp, .int vhe, .int vtk, .int vva, .ref cu, .ref lt, .ref od, .ref th, .ref be, .ref ln, .int (nI S), .ref ma, .int (nI M), .ref ah, .ref bh, .ref ik, .ref la, .ref lg, .ref ce, .int vto])), (st, .inl (G 0, 196, .inl u15))]) [0, 1] (by decide) rfl
      refine W.widen (k := 0) (n := 0) (by omega) (by omega) ?_
      exact W.iret (v := r13) hx hb hr (fun t ht hW => ⟨⟨r13, u15, rfl, ⟨hpost, w14x⟩, ⟨by rw [ht]; exact hP9, hD9⟩⟩, hS.F ht⟩) hS.2.2 dX11_cold_35
    · skip
      have b16 := if10_p c11
      obtain ⟨ii, hii, rfl⟩ : ∃ j : Nat, j < 10 ∧ i = nI j := by
        have t_b8 := b8
        have t_b16 := b16
        have t_n0 : (nI N).toInt = (N : Int) := nI_toInt (by omega)
        have t_n1 : (nI B).toInt = (B : Int) := nI_toInt (by omega)
        have t_n2 : (nI T).toInt = (T : Int) := nI_toInt (by omega)
        have t_n3 : (nI S).toInt = (S : Int) := nI_toInt (by omega)
        have t_n4 : (nI M).toInt = (M : Int) := nI_toInt (by omega)
        exact i32_nat (by omega) (by omega)
      refine lv_iconst (v := 1) hx hb dX11_cold_21 (by decide) ?_
      refine lv_goto (tgt := 26) hx hb dX11_cold_22 (by decide) ?_
      refine lv_iconst (v := 2) hx hb dX11_cold_26 (by decide) ?_
      refine lv_iload_n hx hb dX11_cold_27 rfl (lv_at hl 1 rfl) ?_
      refine lv_imul hx hb dX11_cold_28 ?_
      refine lv_cg (y := nI (2 * ii)) (by rw [show (2 : Int32) = nI 2 from rfl]; exact pk_mul _ _) ?_
      refine lv_iconst (v := 1) hx hb dX11_cold_29 (by decide) ?_
      refine lv_iadd hx hb dX11_cold_30 ?_
      refine lv_cg (y := nI ((2 * ii) + 1)) (by rw [show (1 : Int32) = nI 1 from rfl]; exact nI_add _ _) ?_
      refine lv_iload_n hx hb dX11_cold_31 rfl (lv_at hl 2 rfl) ?_
      have hPc := hP.sub (ws' := [(h0, .inr (11, [.ref st, .int (nI N), .int (nI B), .ref rp, .int vrs, .int vrb, .int vhs, .int vca, .int vxs, .int vxb, .ref tp, .int (nI T), .int vfa, .int vbr, .int vba, .int vsp, .int vhe, .int vtk, .int vva, .ref cu, .ref lt, .ref od, .ref th, .ref be, .ref ln, .int (nI S), .ref ma, .int (nI M), .ref ah, .ref bh, .ref ik, .ref la, .ref lg, .ref ce, .int vto])), (st, .inl (G 0, 196, .inl fst))]) [0, 1] rfl
      have hDc := hD.sub (ws' := [(h0, .inr (11, [.ref st, .int (nI N), .int (nI B), .ref rp, .int vrs, .int vrb, .int vhs, .int vca, .int vxs, .int vxb, .ref tp, .int (nI T), .int vfa, .int vbr, .int vba, .int vsp, .int vhe, .int vtk, .int vva, .ref cu, .ref lt, .ref od, .ref th, .ref be, .ref ln, .int (nI S), .ref ma, .int (nI M), .ref ah, .ref bh, .ref ik, .ref la, .ref lg, .ref ce, .int vto])), (st, .inl (G 0, 196, .inl fst))]) [0, 1] (by decide) rfl
      have hFc := va_free (wc := [(h0, .inr (11, [.ref st, .int (nI N), .int (nI B), .ref rp, .int vrs, .int vrb, .int vhs, .int vca, .int vxs, .int vxb, .ref tp, .int (nI T), .int vfa, .int vbr, .int vba, .int vsp, .int vhe, .int vtk, .int vva, .ref cu, .ref lt, .ref od, .ref th, .ref be, .ref ln, .int (nI S), .ref ma, .int (nI M), .ref ah, .ref bh, .ref ik, .ref la, .ref lg, .ref ce, .int vto])), (st, .inl (G 0, 196, .inl fst))]) hD hS hA [0, 1] rfl
      refine va_calli (va_runV (As := [.int 1, .int (nI ((2 * ii) + 1)), .int v]) (rest := []) ⟨hx, hb, hml, hown, hg⟩ (c_X11_sets1 l dC dI G _ h0 ((2 * ii) + 1) st N B rp tp T cu lt od th be ln S ma M ah bh ik la lg ce v vrs vrb vhs vca vxs vxb vfa vbr vba vsp vhe vtk vva vto fst (by have t_b8 := b8; have t_b16 := b16; have t_hii := hii; have t_n0 : (nI N).toInt = (N : Int) := nI_toInt (by omega); have t_n1 : (nI B).toInt = (B : Int) := nI_toInt (by omega); have t_n2 : (nI T).toInt = (T : Int) := nI_toInt (by omega); have t_n3 : (nI S).toInt = (S : Int) := nI_toInt (by omega); have t_n4 : (nI M).toInt = (M : Int) := nI_toInt (by omega); have t_n5 : (nI ii).toInt = (ii : Int) := nI_toInt (by omega); omega) (by have t_b8 := b8; have t_b16 := b16; have t_hii := hii; have t_n0 : (nI N).toInt = (N : Int) := nI_toInt (by omega); have t_n1 : (nI B).toInt = (B : Int) := nI_toInt (by omega); have t_n2 : (nI T).toInt = (T : Int) := nI_toInt (by omega); have t_n3 : (nI S).toInt = (S : Int) := nI_toInt (by omega); have t_n4 : (nI M).toInt = (M : Int) := nI_toInt (by omega); have t_n5 : (nI ii).toInt = (ii : Int) := nI_toInt (by omega); omega) (by have t_b8 := b8; have t_b16 := b16; have t_hii := hii; have t_n0 : (nI N).toInt = (N : Int) := nI_toInt (by omega); have t_n1 : (nI B).toInt = (B : Int) := nI_toInt (by omega); have t_n2 : (nI T).toInt = (T : Int) := nI_toInt (by omega); have t_n3 : (nI S).toInt = (S : Int) := nI_toInt (by omega); have t_n4 : (nI M).toInt = (M : Int) := nI_toInt (by omega); have t_n5 : (nI ii).toInt = (ii : Int) := nI_toInt (by omega); omega) (by have t_b8 := b8; have t_b16 := b16; have t_hii := hii; have t_n0 : (nI N).toInt = (N : Int) := nI_toInt (by omega); have t_n1 : (nI B).toInt = (B : Int) := nI_toInt (by omega); have t_n2 : (nI T).toInt = (T : Int) := nI_toInt (by omega); have t_n3 : (nI S).toInt = (S : Int) := nI_toInt (by omega); have t_n4 : (nI M).toInt = (M : Int) := nI_toInt (by omega); have t_n5 : (nI ii).toInt = (ii : Int) := nI_toInt (by omega); omega) (by have t_b8 := b8; have t_b16 := b16; have t_hii := hii; have t_n0 : (nI N).toInt = (N : Int) := nI_toInt (by omega); have t_n1 : (nI B).toInt = (B : Int) := nI_toInt (by omega); have t_n2 : (nI T).toInt = (T : Int) := nI_toInt (by omega); have t_n3 : (nI S).toInt = (S : Int) := nI_toInt (by omega); have t_n4 : (nI M).toInt = (M : Int) := nI_toInt (by omega); have t_n5 : (nI ii).toInt = (ii : Int) := nI_toInt (by omega); omega) hst (by have t_b8 := b8; have t_b16 := b16; have t_hii := hii; have t_n0 : (nI N).toInt = (N : Int) := nI_toInt (by omega); have t_n1 : (nI B).toInt = (B : Int) := nI_toInt (by omega); have t_n2 : (nI T).toInt = (T : Int) := nI_toInt (by omega); have t_n3 : (nI S).toInt = (S : Int) := nI_toInt (by omega); have t_n4 : (nI M).toInt = (M : Int) := nI_toInt (by omega); have t_n5 : (nI ii).toInt = (ii : Int) := nI_toInt (by omega); omega) (okS_lo (by have t_b8 := b8; have t_b16 := b16; have t_hii := hii; have t_n0 : (nI N).toInt = (N : Int) := nI_toInt (by omega); have t_n1 : (nI B).toInt = (B : Int) := nI_toInt (by omega); have t_n2 : (nI T).toInt = (T : Int) := nI_toInt (by omega); have t_n3 : (nI S).toInt = (S : Int) := nI_toInt (by omega); have t_n4 : (nI M).toInt = (M : Int) := nI_toInt (by omega); have t_n5 : (nI ii).toInt = (ii : Int) := nI_toInt (by omega); omega) (by have t_b8 := b8; have t_b16 := b16; have t_hii := hii; have t_n0 : (nI N).toInt = (N : Int) := nI_toInt (by omega); have t_n1 : (nI B).toInt = (B : Int) := nI_toInt (by omega); have t_n2 : (nI T).toInt = (T : Int) := nI_toInt (by omega); have t_n3 : (nI S).toInt = (S : Int) := nI_toInt (by omega); have t_n4 : (nI M).toInt = (M : Int) := nI_toInt (by omega); have t_n5 : (nI ii).toInt = (ii : Int) := nI_toInt (by omega); omega) (by have t_b8 := b8; have t_b16 := b16; have t_hii := hii; have t_n0 : (nI N).toInt = (N : Int) := nI_toInt (by omega); have t_n1 : (nI B).toInt = (B : Int) := nI_toInt (by omega); have t_n2 : (nI T).toInt = (T : Int) := nI_toInt (by omega); have t_n3 : (nI S).toInt = (S : Int) := nI_toInt (by omega); have t_n4 : (nI M).toInt = (M : Int) := nI_toInt (by omega); have t_n5 : (nI ii).toInt = (ii : Int) := nI_toInt (by omega); omega))) (kwV hg mfX11_sets wt_1070 ⟨Nat.le_of_ble_eq_true rfl, Nat.le_of_ble_eq_true rfl⟩) (preVW hK hPc hDc (ci := 11) rfl rfl) rfl rfl hl.1 rfl (lv_room (Nat.le_of_ble_eq_true rfl)) dX11_cold_32 ⟨Nat.le_of_ble_eq_true rfl, Nat.le_of_ble_eq_true rfl⟩) hS (fun q _ h => hFc q h) hFc (fun r17 ur17 t H1 locs ht hvm w18 hB hz1 hk1 hS => ?_)
      obtain ⟨u19, rfl⟩ : ∃ z, z = ur17 := ⟨_, rfl⟩
      obtain ⟨hP1, hD1⟩ := hB
      rw [ht] at hP1
      obtain ⟨hP, hD⟩ := va_join (wr := []) (w1 := [(h0, .inr (11, [.ref st, .int (nI N), .int (nI B), .ref rp, .int vrs, .int vrb, .int vhs, .int vca, .int vxs, .int vxb, .ref tp, .int (nI T), .int vfa, .int vbr, .int vba, .int vsp, .int vhe, .int vtk, .int vva, .ref cu, .ref lt, .ref od, .ref th, .ref be, .ref ln, .int (nI S), .ref ma, .int (nI M), .ref ah, .ref bh, .ref ik, .ref la, .ref lg, .ref ce, .int vto])), (st, .inl (G 0, 196, .inl u19))]) hP hD [0, 1] [] rfl rfl (by decide) (by decide) hk1 hFc hP1 hD1
      generalize H1 = H at hP hS ⊢
      have hP : va_P (dC, dI) vwCl [(h0, .inr (11, [.ref st, .int (nI N), .int (nI B), .ref rp, .int vrs, .int vrb, .int vhs, .int vca, .int vxs, .int vxb, .ref tp, .int (nI T), .int vfa, .int vbr, .int vba, .int vsp, .int vhe, .int vtk, .int vva, .ref cu, .ref lt, .ref od, .ref th, .ref be, .ref ln, .int (nI S), .ref ma, .int (nI M), .ref ah, .ref bh, .ref ik, .ref la, .ref lg, .ref ce, .int vto])), (st, .inl (G 0, 196, .inl u19))] H := hP
      have hD : va_D A [(h0, .inr (11, [.ref st, .int (nI N), .int (nI B), .ref rp, .int vrs, .int vrb, .int vhs, .int vca, .int vxs, .int vxb, .ref tp, .int (nI T), .int vfa, .int vbr, .int vba, .int vsp, .int vhe, .int vtk, .int vva, .ref cu, .ref lt, .ref od, .ref th, .ref be, .ref ln, .int (nI S), .ref ma, .int (nI M), .ref ah, .ref bh, .ref ik, .ref la, .ref lg, .ref ce, .int vto])), (st, .inl (G 0, 196, .inl u19))] := hD
      obtain ⟨w18, w18x⟩ := w18
      have hpost : True := by
        trivial
      have hP9 := hP.sub (ws' := [(h0, .inr (11, [.ref st, .int (nI N), .int (nI B), .ref rp, .int vrs, .int vrb, .int vhs, .int vca, .int vxs, .int vxb, .ref tp, .int (nI T), .int vfa, .int vbr, .int vba, .int vsp, .int vhe, .int vtk, .int vva, .ref cu, .ref lt, .ref od, .ref th, .ref be, .ref ln, .int (nI S), .ref ma, .int (nI M), .ref ah, .ref bh, .ref ik, .ref la, .ref lg, .ref ce, .int vto])), (st, .inl (G 0, 196, .inl u19))]) [0, 1] rfl
      have hD9 := hD.sub (ws' := [(h0, .inr (11, [.ref st, .int (nI N), .int (nI B), .ref rp, .int vrs, .int vrb, .int vhs, .int vca, .int vxs, .int vxb, .ref tp, .int (nI T), .int vfa, .int vbr, .int vba, .int vsp, .int vhe, .int vtk, .int vva, .ref cu, .ref lt, .ref od, .ref th, .ref be, .ref ln, .int (nI S), .ref ma, .int (nI M), .ref ah, .ref bh, .ref ik, .ref la, .ref lg, .ref ce, .int vto])), (st, .inl (G 0, 196, .inl u19))]) [0, 1] (by decide) rfl
      refine W.widen (k := 0) (n := 0) (by omega) (by omega) ?_
      exact W.iret (v := r17) hx hb hr (fun t ht hW => ⟨⟨r17, u19, rfl, ⟨hpost, w18x⟩, ⟨by rw [ht]; exact hP9, hD9⟩⟩, hS.F ht⟩) hS.2.2 dX11_cold_35

set_option maxHeartbeats 1000000 in
set_option maxRecDepth 100000 in
theorem c_X11_step (l : Launch) (dC : Nat → ClassId) (dI : Nat → Nat → Nat) (G : Nat → ClassId) (sz : Nat) (h0 st N B rp tp T cu lt od th be ln S ma M ah bh ik la lg ce : Nat) (i v vrs vrb vhs vca vxs vxb vfa vbr vba vsp vhe vtk vva vto : Int32) (fst : Nat → Int32) (hN : N ≤ 10) (hB : B ≤ 6) (hT : T ≤ 320) (hS0 : S ≤ 8) (hM : M ≤ 6) (hst : OKS fst) : Met l yX11_step (Cond.code yX11_step cX11_step 3 (some .int) :: GT) ({ frames := 2, cells := 0, slots := 0, locals := 46 } : Room) (PcW [.ref h0, .int i, .int v] dC dI G [(h0, .inr (11, [.ref st, .int (nI N), .int (nI B), .ref rp, .int vrs, .int vrb, .int vhs, .int vca, .int vxs, .int vxb, .ref tp, .int (nI T), .int vfa, .int vbr, .int vba, .int vsp, .int vhe, .int vtk, .int vva, .ref cu, .ref lt, .ref od, .ref th, .ref be, .ref ln, .int (nI S), .ref ma, .int (nI M), .ref ah, .ref bh, .ref ik, .ref la, .ref lg, .ref ce, .int vto])), (st, .inl (G 0, 196, .inl fst))] sz) (va_Qi (fun (r : Int32) (u : (Nat → Int32)) => match u with | ost => (True) ∧ OKS ost) (fun (u : (Nat → Int32)) (t : State) => match u with | ost => va_P (dC, dI) vwCl [(h0, .inr (11, [.ref st, .int (nI N), .int (nI B), .ref rp, .int vrs, .int vrb, .int vhs, .int vca, .int vxs, .int vxb, .ref tp, .int (nI T), .int vfa, .int vbr, .int vba, .int vsp, .int vhe, .int vtk, .int vva, .ref cu, .ref lt, .ref od, .ref th, .ref be, .ref ln, .int (nI S), .ref ma, .int (nI M), .ref ah, .ref bh, .ref ik, .ref la, .ref lg, .ref ce, .int vto])), (st, .inl (G 0, 196, .inl ost))] t.heap ∧ va_D (va_A [(h0, .inr (11, [.ref st, .int (nI N), .int (nI B), .ref rp, .int vrs, .int vrb, .int vhs, .int vca, .int vxs, .int vxb, .ref tp, .int (nI T), .int vfa, .int vbr, .int vba, .int vsp, .int vhe, .int vtk, .int vva, .ref cu, .ref lt, .ref od, .ref th, .ref be, .ref ln, .int (nI S), .ref ma, .int (nI M), .ref ah, .ref bh, .ref ik, .ref la, .ref lg, .ref ce, .int vto])), (st, .inl (G 0, 196, .inl fst))] sz) [(h0, .inr (11, [.ref st, .int (nI N), .int (nI B), .ref rp, .int vrs, .int vrb, .int vhs, .int vca, .int vxs, .int vxb, .ref tp, .int (nI T), .int vfa, .int vbr, .int vba, .int vsp, .int vhe, .int vtk, .int vva, .ref cu, .ref lt, .ref od, .ref th, .ref be, .ref ln, .int (nI S), .ref ma, .int (nI M), .ref ah, .ref bh, .ref ik, .ref la, .ref lg, .ref ce, .int vto])), (st, .inl (G 0, 196, .inl ost))]) (va_A [(h0, .inr (11, [.ref st, .int (nI N), .int (nI B), .ref rp, .int vrs, .int vrb, .int vhs, .int vca, .int vxs, .int vxb, .ref tp, .int (nI T), .int vfa, .int vbr, .int vba, .int vsp, .int vhe, .int vtk, .int vva, .ref cu, .ref lt, .ref od, .ref th, .ref be, .ref ln, .int (nI S), .ref ma, .int (nI M), .ref ah, .ref bh, .ref ik, .ref la, .ref lg, .ref ce, .int vto])), (st, .inl (G 0, 196, .inl fst))] sz)) 0 0 (va_A [(h0, .inr (11, [.ref st, .int (nI N), .int (nI B), .ref rp, .int vrs, .int vrb, .int vhs, .int vca, .int vxs, .int vxb, .ref tp, .int (nI T), .int vfa, .int vbr, .int vba, .int vsp, .int vhe, .int vtk, .int vva, .ref cu, .ref lt, .ref od, .ref th, .ref be, .ref ln, .int (nI S), .ref ma, .int (nI M), .ref ah, .ref bh, .ref ik, .ref la, .ref lg, .ref ce, .int vto])), (st, .inl (G 0, 196, .inl fst))] sz) := by
  refine Met.ofW (cc := cX11_step) (maxL := 3) (ret := (some .int)) (by decide) rfl ?_
  intro p e s m args below meth c s₁ Bd hml hv
  obtain ⟨rfl, hsz, hP, hK, hD0⟩ := hv
  have hx := Bd.exec
  have hb := Bd.bytes
  have hr := Bd.returns
  have hg : ∀ w ∈ GT, w.before ([.ref h0, .int i, .int v] : List Value).toArray s = true := fun w h => atoms_spec (ws := Cond.code yX11_step cX11_step 3 (some .int) :: GT) Bd.pre w (List.mem_cons_of_mem _ h)
  have hown : s.vm.findClass RX11 = some m.cls := findClass_of_methodNamed Bd.named
  have hlocks := Bd.notSynchronized
  subst hsz
  have hD := hD0.self (sz := s.heap.size)
  generalize hAe : va_A [(h0, .inr (11, [.ref st, .int (nI N), .int (nI B), .ref rp, .int vrs, .int vrb, .int vhs, .int vca, .int vxs, .int vxb, .ref tp, .int (nI T), .int vfa, .int vbr, .int vba, .int vsp, .int vhe, .int vtk, .int vva, .ref cu, .ref lt, .ref od, .ref th, .ref be, .ref ln, .int (nI S), .ref ma, .int (nI M), .ref ah, .ref bh, .ref ik, .ref la, .ref lg, .ref ce, .int vto])), (st, .inl (G 0, 196, .inl fst))] s.heap.size = A at hD ⊢
  have hA : ∀ q : Nat, s.heap.size ≤ q → A q := fun q h => by rw [← hAe]; exact Or.inr h
  have hS : va_S A s.heap s.heap [] := va_S.rf
  have hl := lv_entry ([.ref h0, .int i, .int v]) (n := 3) (Nat.le_of_ble_eq_true rfl)
  rw [lg_entry_eq]
  generalize (lg_sl ([.ref h0, .int i, .int v]) ++ List.replicate (3 - (lg_sl ([.ref h0, .int i, .int v])).length) Slot.unset).toArray = ls at hl ⊢
  have hl : lv_has ls 3 [(0, .ref h0), (1, .int i), (2, .int v)] := hl
  refine lv_aload_n hx hb dX11_step_0 rfl (lv_at hl 0 rfl) ?_
  refine lv_aload_n hx hb dX11_step_1 rfl (lv_at hl 0 rfl) ?_
  refine lv_iload_n hx hb dX11_step_2 rfl (lv_at hl 1 rfl) ?_
  have hPc := hP.sub (ws' := [(h0, .inr (11, [.ref st, .int (nI N), .int (nI B), .ref rp, .int vrs, .int vrb, .int vhs, .int vca, .int vxs, .int vxb, .ref tp, .int (nI T), .int vfa, .int vbr, .int vba, .int vsp, .int vhe, .int vtk, .int vva, .ref cu, .ref lt, .ref od, .ref th, .ref be, .ref ln, .int (nI S), .ref ma, .int (nI M), .ref ah, .ref bh, .ref ik, .ref la, .ref lg, .ref ce, .int vto]))]) [0] rfl
  refine va_calli (va_runV (As := [.int i]) (rest := [.ref h0]) ⟨hx, hb, hml, hown, hg⟩ (c_X11_isBearer l dC dI G _ h0 st N B rp tp T cu lt od th be ln S ma M ah bh ik la lg ce i vrs vrb vhs vca vxs vxb vfa vbr vba vsp vhe vtk vva vto (by have t_n0 : (nI N).toInt = (N : Int) := nI_toInt (by omega); have t_n1 : (nI B).toInt = (B : Int) := nI_toInt (by omega); have t_n2 : (nI T).toInt = (T : Int) := nI_toInt (by omega); have t_n3 : (nI S).toInt = (S : Int) := nI_toInt (by omega); have t_n4 : (nI M).toInt = (M : Int) := nI_toInt (by omega); omega) (by have t_n0 : (nI N).toInt = (N : Int) := nI_toInt (by omega); have t_n1 : (nI B).toInt = (B : Int) := nI_toInt (by omega); have t_n2 : (nI T).toInt = (T : Int) := nI_toInt (by omega); have t_n3 : (nI S).toInt = (S : Int) := nI_toInt (by omega); have t_n4 : (nI M).toInt = (M : Int) := nI_toInt (by omega); omega) (by have t_n0 : (nI N).toInt = (N : Int) := nI_toInt (by omega); have t_n1 : (nI B).toInt = (B : Int) := nI_toInt (by omega); have t_n2 : (nI T).toInt = (T : Int) := nI_toInt (by omega); have t_n3 : (nI S).toInt = (S : Int) := nI_toInt (by omega); have t_n4 : (nI M).toInt = (M : Int) := nI_toInt (by omega); omega) (by have t_n0 : (nI N).toInt = (N : Int) := nI_toInt (by omega); have t_n1 : (nI B).toInt = (B : Int) := nI_toInt (by omega); have t_n2 : (nI T).toInt = (T : Int) := nI_toInt (by omega); have t_n3 : (nI S).toInt = (S : Int) := nI_toInt (by omega); have t_n4 : (nI M).toInt = (M : Int) := nI_toInt (by omega); omega) (by have t_n0 : (nI N).toInt = (N : Int) := nI_toInt (by omega); have t_n1 : (nI B).toInt = (B : Int) := nI_toInt (by omega); have t_n2 : (nI T).toInt = (T : Int) := nI_toInt (by omega); have t_n3 : (nI S).toInt = (S : Int) := nI_toInt (by omega); have t_n4 : (nI M).toInt = (M : Int) := nI_toInt (by omega); omega)) (kwV hg mfX11_isBearer wt_1061 ⟨Nat.le_of_ble_eq_true rfl, Nat.le_of_ble_eq_true rfl⟩) (preVR hK hPc (ci := 11) rfl rfl) rfl rfl hl.1 rfl (lv_room (Nat.le_of_ble_eq_true rfl)) dX11_step_3 ⟨Nat.le_of_ble_eq_true rfl, Nat.le_of_ble_eq_true rfl⟩) hS (fun q h1 h2 => absurd h2 (Nat.not_le.mpr h1)) (fun q h => hA q (Nat.le_trans hS.1 h)) (fun r1 ur1 t H1 locs ht hvm w2 hB hz1 hk1 hS => ?_)
  have hP := keepR hP hk1
  obtain ⟨w2, w2x⟩ := w2
  try simp only [l_ii, show (0 : Int32).toInt = 0 from by decide] at w2
  try rw [nI_toInt (n := B) (by omega)] at w2
  subst w2
  refine lv_if_eq (tgt := 25) hx hb dX11_step_6 (by decide) (fun c3 => ?_) (fun c3 => ?_)
  · skip
    have b4 := if10_n c3
    refine lv_iconst (v := 0) hx hb dX11_step_25 (by decide) ?_
    refine lv_bipush (v := 20) hx hb dX11_step_26 (by decide) ?_
    refine lv_iconst (v := 3) hx hb dX11_step_28 (by decide) ?_
    refine lv_iload_n hx hb dX11_step_29 rfl (lv_at hl 1 rfl) ?_
    refine lv_imul hx hb dX11_step_30 ?_
    refine lv_iadd hx hb dX11_step_31 ?_
    refine lv_iconst (v := 1) hx hb dX11_step_32 (by decide) ?_
    refine lv_iadd hx hb dX11_step_33 ?_
    refine lv_iload_n hx hb dX11_step_34 rfl (lv_at hl 2 rfl) ?_
    have hPc := hP.sub (ws' := [(h0, .inr (11, [.ref st, .int (nI N), .int (nI B), .ref rp, .int vrs, .int vrb, .int vhs, .int vca, .int vxs, .int vxb, .ref tp, .int (nI T), .int vfa, .int vbr, .int vba, .int vsp, .int vhe, .int vtk, .int vva, .ref cu, .ref lt, .ref od, .ref th, .ref be, .ref ln, .int (nI S), .ref ma, .int (nI M), .ref ah, .ref bh, .ref ik, .ref la, .ref lg, .ref ce, .int vto])), (st, .inl (G 0, 196, .inl fst))]) [0, 1] rfl
    have hDc := hD.sub (ws' := [(h0, .inr (11, [.ref st, .int (nI N), .int (nI B), .ref rp, .int vrs, .int vrb, .int vhs, .int vca, .int vxs, .int vxb, .ref tp, .int (nI T), .int vfa, .int vbr, .int vba, .int vsp, .int vhe, .int vtk, .int vva, .ref cu, .ref lt, .ref od, .ref th, .ref be, .ref ln, .int (nI S), .ref ma, .int (nI M), .ref ah, .ref bh, .ref ik, .ref la, .ref lg, .ref ce, .int vto])), (st, .inl (G 0, 196, .inl fst))]) [0, 1] (by decide) rfl
    have hFc := va_free (wc := [(h0, .inr (11, [.ref st, .int (nI N), .int (nI B), .ref rp, .int vrs, .int vrb, .int vhs, .int vca, .int vxs, .int vxb, .ref tp, .int (nI T), .int vfa, .int vbr, .int vba, .int vsp, .int vhe, .int vtk, .int vva, .ref cu, .ref lt, .ref od, .ref th, .ref be, .ref ln, .int (nI S), .ref ma, .int (nI M), .ref ah, .ref bh, .ref ik, .ref la, .ref lg, .ref ce, .int vto])), (st, .inl (G 0, 196, .inl fst))]) hD hS hA [0, 1] rfl
    refine va_calli (va_runV (As := [.int 0, .int ((20 + (3 * i)) + 1), .int v]) (rest := []) ⟨hx, hb, hml, hown, hg⟩ (c_X11_sets0 l dC dI G _ h0 st N B rp tp T cu lt od th be ln S ma M ah bh ik la lg ce ((20 + (3 * i)) + 1) v vrs vrb vhs vca vxs vxb vfa vbr vba vsp vhe vtk vva vto fst (by have t_b4 := b4; have t_n0 : (nI N).toInt = (N : Int) := nI_toInt (by omega); have t_n1 : (nI B).toInt = (B : Int) := nI_toInt (by omega); have t_n2 : (nI T).toInt = (T : Int) := nI_toInt (by omega); have t_n3 : (nI S).toInt = (S : Int) := nI_toInt (by omega); have t_n4 : (nI M).toInt = (M : Int) := nI_toInt (by omega); omega) (by have t_b4 := b4; have t_n0 : (nI N).toInt = (N : Int) := nI_toInt (by omega); have t_n1 : (nI B).toInt = (B : Int) := nI_toInt (by omega); have t_n2 : (nI T).toInt = (T : Int) := nI_toInt (by omega); have t_n3 : (nI S).toInt = (S : Int) := nI_toInt (by omega); have t_n4 : (nI M).toInt = (M : Int) := nI_toInt (by omega); omega) (by have t_b4 := b4; have t_n0 : (nI N).toInt = (N : Int) := nI_toInt (by omega); have t_n1 : (nI B).toInt = (B : Int) := nI_toInt (by omega); have t_n2 : (nI T).toInt = (T : Int) := nI_toInt (by omega); have t_n3 : (nI S).toInt = (S : Int) := nI_toInt (by omega); have t_n4 : (nI M).toInt = (M : Int) := nI_toInt (by omega); omega) (by have t_b4 := b4; have t_n0 : (nI N).toInt = (N : Int) := nI_toInt (by omega); have t_n1 : (nI B).toInt = (B : Int) := nI_toInt (by omega); have t_n2 : (nI T).toInt = (T : Int) := nI_toInt (by omega); have t_n3 : (nI S).toInt = (S : Int) := nI_toInt (by omega); have t_n4 : (nI M).toInt = (M : Int) := nI_toInt (by omega); omega) (by have t_b4 := b4; have t_n0 : (nI N).toInt = (N : Int) := nI_toInt (by omega); have t_n1 : (nI B).toInt = (B : Int) := nI_toInt (by omega); have t_n2 : (nI T).toInt = (T : Int) := nI_toInt (by omega); have t_n3 : (nI S).toInt = (S : Int) := nI_toInt (by omega); have t_n4 : (nI M).toInt = (M : Int) := nI_toInt (by omega); omega) hst) (kwV hg mfX11_sets wt_1070 ⟨Nat.le_of_ble_eq_true rfl, Nat.le_of_ble_eq_true rfl⟩) (preVW hK hPc hDc (ci := 11) rfl rfl) rfl rfl hl.1 rfl (lv_room (Nat.le_of_ble_eq_true rfl)) dX11_step_35 ⟨Nat.le_of_ble_eq_true rfl, Nat.le_of_ble_eq_true rfl⟩) hS (fun q _ h => hFc q h) hFc (fun r5 ur5 t H1 locs ht hvm w6 hB hz1 hk1 hS => ?_)
    obtain ⟨u7, rfl⟩ : ∃ z, z = ur5 := ⟨_, rfl⟩
    obtain ⟨hP1, hD1⟩ := hB
    rw [ht] at hP1
    obtain ⟨hP, hD⟩ := va_join (wr := []) (w1 := [(h0, .inr (11, [.ref st, .int (nI N), .int (nI B), .ref rp, .int vrs, .int vrb, .int vhs, .int vca, .int vxs, .int vxb, .ref tp, .int (nI T), .int vfa, .int vbr, .int vba, .int vsp, .int vhe, .int vtk, .int vva, .ref cu, .ref lt, .ref od, .ref th, .ref be, .ref ln, .int (nI S), .ref ma, .int (nI M), .ref ah, .ref bh, .ref ik, .ref la, .ref lg, .ref ce, .int vto])), (st, .inl (G 0, 196, .inl u7))]) hP hD [0, 1] [] rfl rfl (by decide) (by decide) hk1 hFc hP1 hD1
    generalize H1 = H at hP hS ⊢
    have hP : va_P (dC, dI) vwCl [(h0, .inr (11, [.ref st, .int (nI N), .int (nI B), .ref rp, .int vrs, .int vrb, .int vhs, .int vca, .int vxs, .int vxb, .ref tp, .int (nI T), .int vfa, .int vbr, .int vba, .int vsp, .int vhe, .int vtk, .int vva, .ref cu, .ref lt, .ref od, .ref th, .ref be, .ref ln, .int (nI S), .ref ma, .int (nI M), .ref ah, .ref bh, .ref ik, .ref la, .ref lg, .ref ce, .int vto])), (st, .inl (G 0, 196, .inl u7))] H := hP
    have hD : va_D A [(h0, .inr (11, [.ref st, .int (nI N), .int (nI B), .ref rp, .int vrs, .int vrb, .int vhs, .int vca, .int vxs, .int vxb, .ref tp, .int (nI T), .int vfa, .int vbr, .int vba, .int vsp, .int vhe, .int vtk, .int vva, .ref cu, .ref lt, .ref od, .ref th, .ref be, .ref ln, .int (nI S), .ref ma, .int (nI M), .ref ah, .ref bh, .ref ik, .ref la, .ref lg, .ref ce, .int vto])), (st, .inl (G 0, 196, .inl u7))] := hD
    obtain ⟨w6, w6x⟩ := w6
    have hpost : True := by
      trivial
    have hP9 := hP.sub (ws' := [(h0, .inr (11, [.ref st, .int (nI N), .int (nI B), .ref rp, .int vrs, .int vrb, .int vhs, .int vca, .int vxs, .int vxb, .ref tp, .int (nI T), .int vfa, .int vbr, .int vba, .int vsp, .int vhe, .int vtk, .int vva, .ref cu, .ref lt, .ref od, .ref th, .ref be, .ref ln, .int (nI S), .ref ma, .int (nI M), .ref ah, .ref bh, .ref ik, .ref la, .ref lg, .ref ce, .int vto])), (st, .inl (G 0, 196, .inl u7))]) [0, 1] rfl
    have hD9 := hD.sub (ws' := [(h0, .inr (11, [.ref st, .int (nI N), .int (nI B), .ref rp, .int vrs, .int vrb, .int vhs, .int vca, .int vxs, .int vxb, .ref tp, .int (nI T), .int vfa, .int vbr, .int vba, .int vsp, .int vhe, .int vtk, .int vva, .ref cu, .ref lt, .ref od, .ref th, .ref be, .ref ln, .int (nI S), .ref ma, .int (nI M), .ref ah, .ref bh, .ref ik, .ref la, .ref lg, .ref ce, .int vto])), (st, .inl (G 0, 196, .inl u7))]) [0, 1] (by decide) rfl
    refine W.widen (k := 0) (n := 0) (by omega) (by omega) ?_
    exact W.iret (v := r5) hx hb hr (fun t ht hW => ⟨⟨r5, u7, rfl, ⟨hpost, w6x⟩, ⟨by rw [ht]; exact hP9, hD9⟩⟩, hS.F ht⟩) hS.2.2 dX11_step_38
  · skip
    have b8 := if10_p c3
    refine lv_iload_n hx hb dX11_step_9 rfl (lv_at hl 2 rfl) ?_
    refine lv_i2l (v := v.toInt64) hx hb dX11_step_10 rfl ?_
    refine lv_lconst (v := 0) hx hb dX11_step_11 (by decide) ?_
    refine lv_ldc2 (v := 9) hx hb hown (hg _ wt_1069) dX11_step_12 ?_
    have hPc := hP.sub (ws' := []) [] rfl
    refine va_calli (va_runS (As := [.long v.toInt64, .long 0, .long 9]) (rest := [.ref h0]) ⟨hx, hb, hml, hown, hg⟩ (c_X11_in l dC dI G _ v.toInt64 0 9 ) (kwS hg mfX11_in wt_992 ⟨Nat.le_of_ble_eq_true rfl, Nat.le_of_ble_eq_true rfl⟩) (preSR hK hPc) rfl rfl hl.1 rfl (lv_room (Nat.le_of_ble_eq_true rfl)) dX11_step_15 ⟨Nat.le_of_ble_eq_true rfl, Nat.le_of_ble_eq_true rfl⟩) hS (fun q h1 h2 => absurd h2 (Nat.not_le.mpr h1)) (fun q h => hA q (Nat.le_trans hS.1 h)) (fun r9 ur9 t H1 locs ht hvm w10 hB hz1 hk1 hS => ?_)
    have hP := keepR hP hk1
    obtain ⟨w10, w10x⟩ := w10
    try simp only [l_ii, show (0 : Int64).toInt = 0 from by decide, show (9 : Int64).toInt = 9 from by decide] at w10
    subst w10
    refine lv_if_eq (tgt := 25) hx hb dX11_step_18 (by decide) (fun c11 => ?_) (fun c11 => ?_)
    · skip
      have b12 := if10_n c11
      refine lv_iconst (v := 0) hx hb dX11_step_25 (by decide) ?_
      refine lv_bipush (v := 20) hx hb dX11_step_26 (by decide) ?_
      refine lv_iconst (v := 3) hx hb dX11_step_28 (by decide) ?_
      refine lv_iload_n hx hb dX11_step_29 rfl (lv_at hl 1 rfl) ?_
      refine lv_imul hx hb dX11_step_30 ?_
      refine lv_iadd hx hb dX11_step_31 ?_
      refine lv_iconst (v := 1) hx hb dX11_step_32 (by decide) ?_
      refine lv_iadd hx hb dX11_step_33 ?_
      refine lv_iload_n hx hb dX11_step_34 rfl (lv_at hl 2 rfl) ?_
      have hPc := hP.sub (ws' := [(h0, .inr (11, [.ref st, .int (nI N), .int (nI B), .ref rp, .int vrs, .int vrb, .int vhs, .int vca, .int vxs, .int vxb, .ref tp, .int (nI T), .int vfa, .int vbr, .int vba, .int vsp, .int vhe, .int vtk, .int vva, .ref cu, .ref lt, .ref od, .ref th, .ref be, .ref ln, .int (nI S), .ref ma, .int (nI M), .ref ah, .ref bh, .ref ik, .ref la, .ref lg, .ref ce, .int vto])), (st, .inl (G 0, 196, .inl fst))]) [0, 1] rfl
      have hDc := hD.sub (ws' := [(h0, .inr (11, [.ref st, .int (nI N), .int (nI B), .ref rp, .int vrs, .int vrb, .int vhs, .int vca, .int vxs, .int vxb, .ref tp, .int (nI T), .int vfa, .int vbr, .int vba, .int vsp, .int vhe, .int vtk, .int vva, .ref cu, .ref lt, .ref od, .ref th, .ref be, .ref ln, .int (nI S), .ref ma, .int (nI M), .ref ah, .ref bh, .ref ik, .ref la, .ref lg, .ref ce, .int vto])), (st, .inl (G 0, 196, .inl fst))]) [0, 1] (by decide) rfl
      have hFc := va_free (wc := [(h0, .inr (11, [.ref st, .int (nI N), .int (nI B), .ref rp, .int vrs, .int vrb, .int vhs, .int vca, .int vxs, .int vxb, .ref tp, .int (nI T), .int vfa, .int vbr, .int vba, .int vsp, .int vhe, .int vtk, .int vva, .ref cu, .ref lt, .ref od, .ref th, .ref be, .ref ln, .int (nI S), .ref ma, .int (nI M), .ref ah, .ref bh, .ref ik, .ref la, .ref lg, .ref ce, .int vto])), (st, .inl (G 0, 196, .inl fst))]) hD hS hA [0, 1] rfl
      refine va_calli (va_runV (As := [.int 0, .int ((20 + (3 * i)) + 1), .int v]) (rest := []) ⟨hx, hb, hml, hown, hg⟩ (c_X11_sets0 l dC dI G _ h0 st N B rp tp T cu lt od th be ln S ma M ah bh ik la lg ce ((20 + (3 * i)) + 1) v vrs vrb vhs vca vxs vxb vfa vbr vba vsp vhe vtk vva vto fst (by have t_b8 := b8; have t_b12 := b12; have t_n0 : (nI N).toInt = (N : Int) := nI_toInt (by omega); have t_n1 : (nI B).toInt = (B : Int) := nI_toInt (by omega); have t_n2 : (nI T).toInt = (T : Int) := nI_toInt (by omega); have t_n3 : (nI S).toInt = (S : Int) := nI_toInt (by omega); have t_n4 : (nI M).toInt = (M : Int) := nI_toInt (by omega); omega) (by have t_b8 := b8; have t_b12 := b12; have t_n0 : (nI N).toInt = (N : Int) := nI_toInt (by omega); have t_n1 : (nI B).toInt = (B : Int) := nI_toInt (by omega); have t_n2 : (nI T).toInt = (T : Int) := nI_toInt (by omega); have t_n3 : (nI S).toInt = (S : Int) := nI_toInt (by omega); have t_n4 : (nI M).toInt = (M : Int) := nI_toInt (by omega); omega) (by have t_b8 := b8; have t_b12 := b12; have t_n0 : (nI N).toInt = (N : Int) := nI_toInt (by omega); have t_n1 : (nI B).toInt = (B : Int) := nI_toInt (by omega); have t_n2 : (nI T).toInt = (T : Int) := nI_toInt (by omega); have t_n3 : (nI S).toInt = (S : Int) := nI_toInt (by omega); have t_n4 : (nI M).toInt = (M : Int) := nI_toInt (by omega); omega) (by have t_b8 := b8; have t_b12 := b12; have t_n0 : (nI N).toInt = (N : Int) := nI_toInt (by omega); have t_n1 : (nI B).toInt = (B : Int) := nI_toInt (by omega); have t_n2 : (nI T).toInt = (T : Int) := nI_toInt (by omega); have t_n3 : (nI S).toInt = (S : Int) := nI_toInt (by omega); have t_n4 : (nI M).toInt = (M : Int) := nI_toInt (by omega); omega) (by have t_b8 := b8; have t_b12 := b12; have t_n0 : (nI N).toInt = (N : Int) := nI_toInt (by omega); have t_n1 : (nI B).toInt = (B : Int) := nI_toInt (by omega); have t_n2 : (nI T).toInt = (T : Int) := nI_toInt (by omega); have t_n3 : (nI S).toInt = (S : Int) := nI_toInt (by omega); have t_n4 : (nI M).toInt = (M : Int) := nI_toInt (by omega); omega) hst) (kwV hg mfX11_sets wt_1070 ⟨Nat.le_of_ble_eq_true rfl, Nat.le_of_ble_eq_true rfl⟩) (preVW hK hPc hDc (ci := 11) rfl rfl) rfl rfl hl.1 rfl (lv_room (Nat.le_of_ble_eq_true rfl)) dX11_step_35 ⟨Nat.le_of_ble_eq_true rfl, Nat.le_of_ble_eq_true rfl⟩) hS (fun q _ h => hFc q h) hFc (fun r13 ur13 t H1 locs ht hvm w14 hB hz1 hk1 hS => ?_)
      obtain ⟨u15, rfl⟩ : ∃ z, z = ur13 := ⟨_, rfl⟩
      obtain ⟨hP1, hD1⟩ := hB
      rw [ht] at hP1
      obtain ⟨hP, hD⟩ := va_join (wr := []) (w1 := [(h0, .inr (11, [.ref st, .int (nI N), .int (nI B), .ref rp, .int vrs, .int vrb, .int vhs, .int vca, .int vxs, .int vxb, .ref tp, .int (nI T), .int vfa, .int vbr, .int vba, .int vsp, .int vhe, .int vtk, .int vva, .ref cu, .ref lt, .ref od, .ref th, .ref be, .ref ln, .int (nI S), .ref ma, .int (nI M), .ref ah, .ref bh, .ref ik, .ref la, .ref lg, .ref ce, .int vto])), (st, .inl (G 0, 196, .inl u15))]) hP hD [0, 1] [] rfl rfl (by decide) (by decide) hk1 hFc hP1 hD1
      generalize H1 = H at hP hS ⊢
      have hP : va_P (dC, dI) vwCl [(h0, .inr (11, [.ref st, .int (nI N), .int (nI B), .ref rp, .int vrs, .int vrb, .int vhs, .int vca, .int vxs, .int vxb, .ref tp, .int (nI T), .int vfa, .int vbr, .int vba, .int vsp, .int vhe, .int vtk, .int vva, .ref cu, .ref lt, .ref od, .ref th, .ref be, .ref ln, .int (nI S), .ref ma, .int (nI M), .ref ah, .ref bh, .ref ik, .ref la, .ref lg, .ref ce, .int vto])), (st, .inl (G 0, 196, .inl u15))] H := hP
      have hD : va_D A [(h0, .inr (11, [.ref st, .int (nI N), .int (nI B), .ref rp, .int vrs, .int vrb, .int vhs, .int vca, .int vxs, .int vxb, .ref tp, .int (nI T), .int vfa, .int vbr, .int vba, .int vsp, .int vhe, .int vtk, .int vva, .ref cu, .ref lt, .ref od, .ref th, .ref be, .ref ln, .int (nI S), .ref ma, .int (nI M), .ref ah, .ref bh, .ref ik, .ref la, .ref lg, .ref ce, .int vto])), (st, .inl (G 0, 196, .inl u15))] := hD
      obtain ⟨w14, w14x⟩ := w14
      have hpost : True := by
        trivial
      have hP9 := hP.sub (ws' := [(h0, .inr (11, [.ref st, .int (nI N), .int (nI B), .ref rp, .int vrs, .int vrb, .int vhs, .int vca, .int vxs, .int vxb, .ref tp, .int (nI T), .int vfa, .int vbr, .int vba, .int vsp, .int vhe, .int vtk, .int vva, .ref cu, .ref lt, .ref od, .ref th, .ref be, .ref ln, .int (nI S), .ref ma, .int (nI M), .ref ah, .ref bh, .ref ik, .ref la, .ref lg, .ref ce, .int vto])), (st, .inl (G 0, 196, .inl u15))]) [0, 1] rfl
      have hD9 := hD.sub (ws' := [(h0, .inr (11, [.ref st, .int (nI N), .int (nI B), .ref rp, .int vrs, .int vrb, .int vhs, .int vca, .int vxs, .int vxb, .ref tp, .int (nI T), .int vfa, .int vbr, .int vba, .int vsp, .int vhe, .int vtk, .int vva, .ref cu, .ref lt, .ref od, .ref th, .ref be, .ref ln, .int (nI S), .ref ma, .int (nI M), .ref ah, .ref bh, .ref ik, .ref la, .ref lg, .ref ce, .int vto])), (st, .inl (G 0, 196, .inl u15))]) [0, 1] (by decide) rfl
      refine W.widen (k := 0) (n := 0) (by omega) (by omega) ?_
      exact W.iret (v := r13) hx hb hr (fun t ht hW => ⟨⟨r13, u15, rfl, ⟨hpost, w14x⟩, ⟨by rw [ht]; exact hP9, hD9⟩⟩, hS.F ht⟩) hS.2.2 dX11_step_38
    · skip
      have b16 := if10_p c11
      obtain ⟨ii, hii, rfl⟩ : ∃ j : Nat, j < 6 ∧ i = nI j := by
        have t_b8 := b8
        have t_b16 := b16
        have t_n0 : (nI N).toInt = (N : Int) := nI_toInt (by omega)
        have t_n1 : (nI B).toInt = (B : Int) := nI_toInt (by omega)
        have t_n2 : (nI T).toInt = (T : Int) := nI_toInt (by omega)
        have t_n3 : (nI S).toInt = (S : Int) := nI_toInt (by omega)
        have t_n4 : (nI M).toInt = (M : Int) := nI_toInt (by omega)
        exact i32_nat (by omega) (by omega)
      refine lv_iconst (v := 1) hx hb dX11_step_21 (by decide) ?_
      refine lv_goto (tgt := 26) hx hb dX11_step_22 (by decide) ?_
      refine lv_bipush (v := 20) hx hb dX11_step_26 (by decide) ?_
      refine lv_iconst (v := 3) hx hb dX11_step_28 (by decide) ?_
      refine lv_iload_n hx hb dX11_step_29 rfl (lv_at hl 1 rfl) ?_
      refine lv_imul hx hb dX11_step_30 ?_
      refine lv_cg (y := nI (3 * ii)) (by rw [show (3 : Int32) = nI 3 from rfl]; exact pk_mul _ _) ?_
      refine lv_iadd hx hb dX11_step_31 ?_
      refine lv_cg (y := nI (20 + (3 * ii))) (by rw [show (20 : Int32) = nI 20 from rfl]; exact nI_add _ _) ?_
      refine lv_iconst (v := 1) hx hb dX11_step_32 (by decide) ?_
      refine lv_iadd hx hb dX11_step_33 ?_
      refine lv_cg (y := nI ((20 + (3 * ii)) + 1)) (by rw [show (1 : Int32) = nI 1 from rfl]; exact nI_add _ _) ?_
      refine lv_iload_n hx hb dX11_step_34 rfl (lv_at hl 2 rfl) ?_
      have hPc := hP.sub (ws' := [(h0, .inr (11, [.ref st, .int (nI N), .int (nI B), .ref rp, .int vrs, .int vrb, .int vhs, .int vca, .int vxs, .int vxb, .ref tp, .int (nI T), .int vfa, .int vbr, .int vba, .int vsp, .int vhe, .int vtk, .int vva, .ref cu, .ref lt, .ref od, .ref th, .ref be, .ref ln, .int (nI S), .ref ma, .int (nI M), .ref ah, .ref bh, .ref ik, .ref la, .ref lg, .ref ce, .int vto])), (st, .inl (G 0, 196, .inl fst))]) [0, 1] rfl
      have hDc := hD.sub (ws' := [(h0, .inr (11, [.ref st, .int (nI N), .int (nI B), .ref rp, .int vrs, .int vrb, .int vhs, .int vca, .int vxs, .int vxb, .ref tp, .int (nI T), .int vfa, .int vbr, .int vba, .int vsp, .int vhe, .int vtk, .int vva, .ref cu, .ref lt, .ref od, .ref th, .ref be, .ref ln, .int (nI S), .ref ma, .int (nI M), .ref ah, .ref bh, .ref ik, .ref la, .ref lg, .ref ce, .int vto])), (st, .inl (G 0, 196, .inl fst))]) [0, 1] (by decide) rfl
      have hFc := va_free (wc := [(h0, .inr (11, [.ref st, .int (nI N), .int (nI B), .ref rp, .int vrs, .int vrb, .int vhs, .int vca, .int vxs, .int vxb, .ref tp, .int (nI T), .int vfa, .int vbr, .int vba, .int vsp, .int vhe, .int vtk, .int vva, .ref cu, .ref lt, .ref od, .ref th, .ref be, .ref ln, .int (nI S), .ref ma, .int (nI M), .ref ah, .ref bh, .ref ik, .ref la, .ref lg, .ref ce, .int vto])), (st, .inl (G 0, 196, .inl fst))]) hD hS hA [0, 1] rfl
      refine va_calli (va_runV (As := [.int 1, .int (nI ((20 + (3 * ii)) + 1)), .int v]) (rest := []) ⟨hx, hb, hml, hown, hg⟩ (c_X11_sets1 l dC dI G _ h0 ((20 + (3 * ii)) + 1) st N B rp tp T cu lt od th be ln S ma M ah bh ik la lg ce v vrs vrb vhs vca vxs vxb vfa vbr vba vsp vhe vtk vva vto fst (by have t_b8 := b8; have t_b16 := b16; have t_hii := hii; have t_n0 : (nI N).toInt = (N : Int) := nI_toInt (by omega); have t_n1 : (nI B).toInt = (B : Int) := nI_toInt (by omega); have t_n2 : (nI T).toInt = (T : Int) := nI_toInt (by omega); have t_n3 : (nI S).toInt = (S : Int) := nI_toInt (by omega); have t_n4 : (nI M).toInt = (M : Int) := nI_toInt (by omega); have t_n5 : (nI ii).toInt = (ii : Int) := nI_toInt (by omega); omega) (by have t_b8 := b8; have t_b16 := b16; have t_hii := hii; have t_n0 : (nI N).toInt = (N : Int) := nI_toInt (by omega); have t_n1 : (nI B).toInt = (B : Int) := nI_toInt (by omega); have t_n2 : (nI T).toInt = (T : Int) := nI_toInt (by omega); have t_n3 : (nI S).toInt = (S : Int) := nI_toInt (by omega); have t_n4 : (nI M).toInt = (M : Int) := nI_toInt (by omega); have t_n5 : (nI ii).toInt = (ii : Int) := nI_toInt (by omega); omega) (by have t_b8 := b8; have t_b16 := b16; have t_hii := hii; have t_n0 : (nI N).toInt = (N : Int) := nI_toInt (by omega); have t_n1 : (nI B).toInt = (B : Int) := nI_toInt (by omega); have t_n2 : (nI T).toInt = (T : Int) := nI_toInt (by omega); have t_n3 : (nI S).toInt = (S : Int) := nI_toInt (by omega); have t_n4 : (nI M).toInt = (M : Int) := nI_toInt (by omega); have t_n5 : (nI ii).toInt = (ii : Int) := nI_toInt (by omega); omega) (by have t_b8 := b8; have t_b16 := b16; have t_hii := hii; have t_n0 : (nI N).toInt = (N : Int) := nI_toInt (by omega); have t_n1 : (nI B).toInt = (B : Int) := nI_toInt (by omega); have t_n2 : (nI T).toInt = (T : Int) := nI_toInt (by omega); have t_n3 : (nI S).toInt = (S : Int) := nI_toInt (by omega); have t_n4 : (nI M).toInt = (M : Int) := nI_toInt (by omega); have t_n5 : (nI ii).toInt = (ii : Int) := nI_toInt (by omega); omega) (by have t_b8 := b8; have t_b16 := b16; have t_hii := hii; have t_n0 : (nI N).toInt = (N : Int) := nI_toInt (by omega); have t_n1 : (nI B).toInt = (B : Int) := nI_toInt (by omega); have t_n2 : (nI T).toInt = (T : Int) := nI_toInt (by omega); have t_n3 : (nI S).toInt = (S : Int) := nI_toInt (by omega); have t_n4 : (nI M).toInt = (M : Int) := nI_toInt (by omega); have t_n5 : (nI ii).toInt = (ii : Int) := nI_toInt (by omega); omega) hst (by have t_b8 := b8; have t_b16 := b16; have t_hii := hii; have t_n0 : (nI N).toInt = (N : Int) := nI_toInt (by omega); have t_n1 : (nI B).toInt = (B : Int) := nI_toInt (by omega); have t_n2 : (nI T).toInt = (T : Int) := nI_toInt (by omega); have t_n3 : (nI S).toInt = (S : Int) := nI_toInt (by omega); have t_n4 : (nI M).toInt = (M : Int) := nI_toInt (by omega); have t_n5 : (nI ii).toInt = (ii : Int) := nI_toInt (by omega); omega) (okS_lo (by have t_b8 := b8; have t_b16 := b16; have t_hii := hii; have t_n0 : (nI N).toInt = (N : Int) := nI_toInt (by omega); have t_n1 : (nI B).toInt = (B : Int) := nI_toInt (by omega); have t_n2 : (nI T).toInt = (T : Int) := nI_toInt (by omega); have t_n3 : (nI S).toInt = (S : Int) := nI_toInt (by omega); have t_n4 : (nI M).toInt = (M : Int) := nI_toInt (by omega); have t_n5 : (nI ii).toInt = (ii : Int) := nI_toInt (by omega); omega) (by have t_b8 := b8; have t_b16 := b16; have t_hii := hii; have t_n0 : (nI N).toInt = (N : Int) := nI_toInt (by omega); have t_n1 : (nI B).toInt = (B : Int) := nI_toInt (by omega); have t_n2 : (nI T).toInt = (T : Int) := nI_toInt (by omega); have t_n3 : (nI S).toInt = (S : Int) := nI_toInt (by omega); have t_n4 : (nI M).toInt = (M : Int) := nI_toInt (by omega); have t_n5 : (nI ii).toInt = (ii : Int) := nI_toInt (by omega); omega) (by have t_b8 := b8; have t_b16 := b16; have t_hii := hii; have t_n0 : (nI N).toInt = (N : Int) := nI_toInt (by omega); have t_n1 : (nI B).toInt = (B : Int) := nI_toInt (by omega); have t_n2 : (nI T).toInt = (T : Int) := nI_toInt (by omega); have t_n3 : (nI S).toInt = (S : Int) := nI_toInt (by omega); have t_n4 : (nI M).toInt = (M : Int) := nI_toInt (by omega); have t_n5 : (nI ii).toInt = (ii : Int) := nI_toInt (by omega); omega))) (kwV hg mfX11_sets wt_1070 ⟨Nat.le_of_ble_eq_true rfl, Nat.le_of_ble_eq_true rfl⟩) (preVW hK hPc hDc (ci := 11) rfl rfl) rfl rfl hl.1 rfl (lv_room (Nat.le_of_ble_eq_true rfl)) dX11_step_35 ⟨Nat.le_of_ble_eq_true rfl, Nat.le_of_ble_eq_true rfl⟩) hS (fun q _ h => hFc q h) hFc (fun r17 ur17 t H1 locs ht hvm w18 hB hz1 hk1 hS => ?_)
      obtain ⟨u19, rfl⟩ : ∃ z, z = ur17 := ⟨_, rfl⟩
      obtain ⟨hP1, hD1⟩ := hB
      rw [ht] at hP1
      obtain ⟨hP, hD⟩ := va_join (wr := []) (w1 := [(h0, .inr (11, [.ref st, .int (nI N), .int (nI B), .ref rp, .int vrs, .int vrb, .int vhs, .int vca, .int vxs, .int vxb, .ref tp, .int (nI T), .int vfa, .int vbr, .int vba, .int vsp, .int vhe, .int vtk, .int vva, .ref cu, .ref lt, .ref od, .ref th, .ref be, .ref ln, .int (nI S), .ref ma, .int (nI M), .ref ah, .ref bh, .ref ik, .ref la, .ref lg, .ref ce, .int vto])), (st, .inl (G 0, 196, .inl u19))]) hP hD [0, 1] [] rfl rfl (by decide) (by decide) hk1 hFc hP1 hD1
      generalize H1 = H at hP hS ⊢
      have hP : va_P (dC, dI) vwCl [(h0, .inr (11, [.ref st, .int (nI N), .int (nI B), .ref rp, .int vrs, .int vrb, .int vhs, .int vca, .int vxs, .int vxb, .ref tp, .int (nI T), .int vfa, .int vbr, .int vba, .int vsp, .int vhe, .int vtk, .int vva, .ref cu, .ref lt, .ref od, .ref th, .ref be, .ref ln, .int (nI S), .ref ma, .int (nI M), .ref ah, .ref bh, .ref ik, .ref la, .ref lg, .ref ce, .int vto])), (st, .inl (G 0, 196, .inl u19))] H := hP
      have hD : va_D A [(h0, .inr (11, [.ref st, .int (nI N), .int (nI B), .ref rp, .int vrs, .int vrb, .int vhs, .int vca, .int vxs, .int vxb, .ref tp, .int (nI T), .int vfa, .int vbr, .int vba, .int vsp, .int vhe, .int vtk, .int vva, .ref cu, .ref lt, .ref od, .ref th, .ref be, .ref ln, .int (nI S), .ref ma, .int (nI M), .ref ah, .ref bh, .ref ik, .ref la, .ref lg, .ref ce, .int vto])), (st, .inl (G 0, 196, .inl u19))] := hD
      obtain ⟨w18, w18x⟩ := w18
      have hpost : True := by
        trivial
      have hP9 := hP.sub (ws' := [(h0, .inr (11, [.ref st, .int (nI N), .int (nI B), .ref rp, .int vrs, .int vrb, .int vhs, .int vca, .int vxs, .int vxb, .ref tp, .int (nI T), .int vfa, .int vbr, .int vba, .int vsp, .int vhe, .int vtk, .int vva, .ref cu, .ref lt, .ref od, .ref th, .ref be, .ref ln, .int (nI S), .ref ma, .int (nI M), .ref ah, .ref bh, .ref ik, .ref la, .ref lg, .ref ce, .int vto])), (st, .inl (G 0, 196, .inl u19))]) [0, 1] rfl
      have hD9 := hD.sub (ws' := [(h0, .inr (11, [.ref st, .int (nI N), .int (nI B), .ref rp, .int vrs, .int vrb, .int vhs, .int vca, .int vxs, .int vxb, .ref tp, .int (nI T), .int vfa, .int vbr, .int vba, .int vsp, .int vhe, .int vtk, .int vva, .ref cu, .ref lt, .ref od, .ref th, .ref be, .ref ln, .int (nI S), .ref ma, .int (nI M), .ref ah, .ref bh, .ref ik, .ref la, .ref lg, .ref ce, .int vto])), (st, .inl (G 0, 196, .inl u19))]) [0, 1] (by decide) rfl
      refine W.widen (k := 0) (n := 0) (by omega) (by omega) ?_
      exact W.iret (v := r17) hx hb hr (fun t ht hW => ⟨⟨r17, u19, rfl, ⟨hpost, w18x⟩, ⟨by rw [ht]; exact hP9, hD9⟩⟩, hS.F ht⟩) hS.2.2 dX11_step_38

set_option maxHeartbeats 1000000 in
set_option maxRecDepth 100000 in
theorem c_X11_warm (l : Launch) (dC : Nat → ClassId) (dI : Nat → Nat → Nat) (G : Nat → ClassId) (sz : Nat) (h0 st N B rp tp T cu lt od th be ln S ma M ah bh ik la lg ce : Nat) (i v vrs vrb vhs vca vxs vxb vfa vbr vba vsp vhe vtk vva vto : Int32) (fst : Nat → Int32) (hN : N ≤ 10) (hB : B ≤ 6) (hT : T ≤ 320) (hS0 : S ≤ 8) (hM : M ≤ 6) (hst : OKS fst) : Met l yX11_warm (Cond.code yX11_warm cX11_warm 3 (some .int) :: GT) ({ frames := 2, cells := 0, slots := 0, locals := 46 } : Room) (PcW [.ref h0, .int i, .int v] dC dI G [(h0, .inr (11, [.ref st, .int (nI N), .int (nI B), .ref rp, .int vrs, .int vrb, .int vhs, .int vca, .int vxs, .int vxb, .ref tp, .int (nI T), .int vfa, .int vbr, .int vba, .int vsp, .int vhe, .int vtk, .int vva, .ref cu, .ref lt, .ref od, .ref th, .ref be, .ref ln, .int (nI S), .ref ma, .int (nI M), .ref ah, .ref bh, .ref ik, .ref la, .ref lg, .ref ce, .int vto])), (st, .inl (G 0, 196, .inl fst))] sz) (va_Qi (fun (r : Int32) (u : (Nat → Int32)) => match u with | ost => (True) ∧ OKS ost) (fun (u : (Nat → Int32)) (t : State) => match u with | ost => va_P (dC, dI) vwCl [(h0, .inr (11, [.ref st, .int (nI N), .int (nI B), .ref rp, .int vrs, .int vrb, .int vhs, .int vca, .int vxs, .int vxb, .ref tp, .int (nI T), .int vfa, .int vbr, .int vba, .int vsp, .int vhe, .int vtk, .int vva, .ref cu, .ref lt, .ref od, .ref th, .ref be, .ref ln, .int (nI S), .ref ma, .int (nI M), .ref ah, .ref bh, .ref ik, .ref la, .ref lg, .ref ce, .int vto])), (st, .inl (G 0, 196, .inl ost))] t.heap ∧ va_D (va_A [(h0, .inr (11, [.ref st, .int (nI N), .int (nI B), .ref rp, .int vrs, .int vrb, .int vhs, .int vca, .int vxs, .int vxb, .ref tp, .int (nI T), .int vfa, .int vbr, .int vba, .int vsp, .int vhe, .int vtk, .int vva, .ref cu, .ref lt, .ref od, .ref th, .ref be, .ref ln, .int (nI S), .ref ma, .int (nI M), .ref ah, .ref bh, .ref ik, .ref la, .ref lg, .ref ce, .int vto])), (st, .inl (G 0, 196, .inl fst))] sz) [(h0, .inr (11, [.ref st, .int (nI N), .int (nI B), .ref rp, .int vrs, .int vrb, .int vhs, .int vca, .int vxs, .int vxb, .ref tp, .int (nI T), .int vfa, .int vbr, .int vba, .int vsp, .int vhe, .int vtk, .int vva, .ref cu, .ref lt, .ref od, .ref th, .ref be, .ref ln, .int (nI S), .ref ma, .int (nI M), .ref ah, .ref bh, .ref ik, .ref la, .ref lg, .ref ce, .int vto])), (st, .inl (G 0, 196, .inl ost))]) (va_A [(h0, .inr (11, [.ref st, .int (nI N), .int (nI B), .ref rp, .int vrs, .int vrb, .int vhs, .int vca, .int vxs, .int vxb, .ref tp, .int (nI T), .int vfa, .int vbr, .int vba, .int vsp, .int vhe, .int vtk, .int vva, .ref cu, .ref lt, .ref od, .ref th, .ref be, .ref ln, .int (nI S), .ref ma, .int (nI M), .ref ah, .ref bh, .ref ik, .ref la, .ref lg, .ref ce, .int vto])), (st, .inl (G 0, 196, .inl fst))] sz)) 0 0 (va_A [(h0, .inr (11, [.ref st, .int (nI N), .int (nI B), .ref rp, .int vrs, .int vrb, .int vhs, .int vca, .int vxs, .int vxb, .ref tp, .int (nI T), .int vfa, .int vbr, .int vba, .int vsp, .int vhe, .int vtk, .int vva, .ref cu, .ref lt, .ref od, .ref th, .ref be, .ref ln, .int (nI S), .ref ma, .int (nI M), .ref ah, .ref bh, .ref ik, .ref la, .ref lg, .ref ce, .int vto])), (st, .inl (G 0, 196, .inl fst))] sz) := by
  refine Met.ofW (cc := cX11_warm) (maxL := 3) (ret := (some .int)) (by decide) rfl ?_
  intro p e s m args below meth c s₁ Bd hml hv
  obtain ⟨rfl, hsz, hP, hK, hD0⟩ := hv
  have hx := Bd.exec
  have hb := Bd.bytes
  have hr := Bd.returns
  have hg : ∀ w ∈ GT, w.before ([.ref h0, .int i, .int v] : List Value).toArray s = true := fun w h => atoms_spec (ws := Cond.code yX11_warm cX11_warm 3 (some .int) :: GT) Bd.pre w (List.mem_cons_of_mem _ h)
  have hown : s.vm.findClass RX11 = some m.cls := findClass_of_methodNamed Bd.named
  have hlocks := Bd.notSynchronized
  subst hsz
  have hD := hD0.self (sz := s.heap.size)
  generalize hAe : va_A [(h0, .inr (11, [.ref st, .int (nI N), .int (nI B), .ref rp, .int vrs, .int vrb, .int vhs, .int vca, .int vxs, .int vxb, .ref tp, .int (nI T), .int vfa, .int vbr, .int vba, .int vsp, .int vhe, .int vtk, .int vva, .ref cu, .ref lt, .ref od, .ref th, .ref be, .ref ln, .int (nI S), .ref ma, .int (nI M), .ref ah, .ref bh, .ref ik, .ref la, .ref lg, .ref ce, .int vto])), (st, .inl (G 0, 196, .inl fst))] s.heap.size = A at hD ⊢
  have hA : ∀ q : Nat, s.heap.size ≤ q → A q := fun q h => by rw [← hAe]; exact Or.inr h
  have hS : va_S A s.heap s.heap [] := va_S.rf
  have hl := lv_entry ([.ref h0, .int i, .int v]) (n := 3) (Nat.le_of_ble_eq_true rfl)
  rw [lg_entry_eq]
  generalize (lg_sl ([.ref h0, .int i, .int v]) ++ List.replicate (3 - (lg_sl ([.ref h0, .int i, .int v])).length) Slot.unset).toArray = ls at hl ⊢
  have hl : lv_has ls 3 [(0, .ref h0), (1, .int i), (2, .int v)] := hl
  refine lv_aload_n hx hb dX11_warm_0 rfl (lv_at hl 0 rfl) ?_
  refine lv_aload_n hx hb dX11_warm_1 rfl (lv_at hl 0 rfl) ?_
  refine lv_iload_n hx hb dX11_warm_2 rfl (lv_at hl 1 rfl) ?_
  have hPc := hP.sub (ws' := [(h0, .inr (11, [.ref st, .int (nI N), .int (nI B), .ref rp, .int vrs, .int vrb, .int vhs, .int vca, .int vxs, .int vxb, .ref tp, .int (nI T), .int vfa, .int vbr, .int vba, .int vsp, .int vhe, .int vtk, .int vva, .ref cu, .ref lt, .ref od, .ref th, .ref be, .ref ln, .int (nI S), .ref ma, .int (nI M), .ref ah, .ref bh, .ref ik, .ref la, .ref lg, .ref ce, .int vto]))]) [0] rfl
  refine va_calli (va_runV (As := [.int i]) (rest := [.ref h0]) ⟨hx, hb, hml, hown, hg⟩ (c_X11_isBearer l dC dI G _ h0 st N B rp tp T cu lt od th be ln S ma M ah bh ik la lg ce i vrs vrb vhs vca vxs vxb vfa vbr vba vsp vhe vtk vva vto (by have t_n0 : (nI N).toInt = (N : Int) := nI_toInt (by omega); have t_n1 : (nI B).toInt = (B : Int) := nI_toInt (by omega); have t_n2 : (nI T).toInt = (T : Int) := nI_toInt (by omega); have t_n3 : (nI S).toInt = (S : Int) := nI_toInt (by omega); have t_n4 : (nI M).toInt = (M : Int) := nI_toInt (by omega); omega) (by have t_n0 : (nI N).toInt = (N : Int) := nI_toInt (by omega); have t_n1 : (nI B).toInt = (B : Int) := nI_toInt (by omega); have t_n2 : (nI T).toInt = (T : Int) := nI_toInt (by omega); have t_n3 : (nI S).toInt = (S : Int) := nI_toInt (by omega); have t_n4 : (nI M).toInt = (M : Int) := nI_toInt (by omega); omega) (by have t_n0 : (nI N).toInt = (N : Int) := nI_toInt (by omega); have t_n1 : (nI B).toInt = (B : Int) := nI_toInt (by omega); have t_n2 : (nI T).toInt = (T : Int) := nI_toInt (by omega); have t_n3 : (nI S).toInt = (S : Int) := nI_toInt (by omega); have t_n4 : (nI M).toInt = (M : Int) := nI_toInt (by omega); omega) (by have t_n0 : (nI N).toInt = (N : Int) := nI_toInt (by omega); have t_n1 : (nI B).toInt = (B : Int) := nI_toInt (by omega); have t_n2 : (nI T).toInt = (T : Int) := nI_toInt (by omega); have t_n3 : (nI S).toInt = (S : Int) := nI_toInt (by omega); have t_n4 : (nI M).toInt = (M : Int) := nI_toInt (by omega); omega) (by have t_n0 : (nI N).toInt = (N : Int) := nI_toInt (by omega); have t_n1 : (nI B).toInt = (B : Int) := nI_toInt (by omega); have t_n2 : (nI T).toInt = (T : Int) := nI_toInt (by omega); have t_n3 : (nI S).toInt = (S : Int) := nI_toInt (by omega); have t_n4 : (nI M).toInt = (M : Int) := nI_toInt (by omega); omega)) (kwV hg mfX11_isBearer wt_1061 ⟨Nat.le_of_ble_eq_true rfl, Nat.le_of_ble_eq_true rfl⟩) (preVR hK hPc (ci := 11) rfl rfl) rfl rfl hl.1 rfl (lv_room (Nat.le_of_ble_eq_true rfl)) dX11_warm_3 ⟨Nat.le_of_ble_eq_true rfl, Nat.le_of_ble_eq_true rfl⟩) hS (fun q h1 h2 => absurd h2 (Nat.not_le.mpr h1)) (fun q h => hA q (Nat.le_trans hS.1 h)) (fun r1 ur1 t H1 locs ht hvm w2 hB hz1 hk1 hS => ?_)
  have hP := keepR hP hk1
  obtain ⟨w2, w2x⟩ := w2
  try simp only [l_ii, show (0 : Int32).toInt = 0 from by decide] at w2
  try rw [nI_toInt (n := B) (by omega)] at w2
  subst w2
  refine lv_if_eq (tgt := 25) hx hb dX11_warm_6 (by decide) (fun c3 => ?_) (fun c3 => ?_)
  · skip
    have b4 := if10_n c3
    refine lv_iconst (v := 0) hx hb dX11_warm_25 (by decide) ?_
    refine lv_bipush (v := 20) hx hb dX11_warm_26 (by decide) ?_
    refine lv_iconst (v := 3) hx hb dX11_warm_28 (by decide) ?_
    refine lv_iload_n hx hb dX11_warm_29 rfl (lv_at hl 1 rfl) ?_
    refine lv_imul hx hb dX11_warm_30 ?_
    refine lv_iadd hx hb dX11_warm_31 ?_
    refine lv_iconst (v := 2) hx hb dX11_warm_32 (by decide) ?_
    refine lv_iadd hx hb dX11_warm_33 ?_
    refine lv_iload_n hx hb dX11_warm_34 rfl (lv_at hl 2 rfl) ?_
    have hPc := hP.sub (ws' := [(h0, .inr (11, [.ref st, .int (nI N), .int (nI B), .ref rp, .int vrs, .int vrb, .int vhs, .int vca, .int vxs, .int vxb, .ref tp, .int (nI T), .int vfa, .int vbr, .int vba, .int vsp, .int vhe, .int vtk, .int vva, .ref cu, .ref lt, .ref od, .ref th, .ref be, .ref ln, .int (nI S), .ref ma, .int (nI M), .ref ah, .ref bh, .ref ik, .ref la, .ref lg, .ref ce, .int vto])), (st, .inl (G 0, 196, .inl fst))]) [0, 1] rfl
    have hDc := hD.sub (ws' := [(h0, .inr (11, [.ref st, .int (nI N), .int (nI B), .ref rp, .int vrs, .int vrb, .int vhs, .int vca, .int vxs, .int vxb, .ref tp, .int (nI T), .int vfa, .int vbr, .int vba, .int vsp, .int vhe, .int vtk, .int vva, .ref cu, .ref lt, .ref od, .ref th, .ref be, .ref ln, .int (nI S), .ref ma, .int (nI M), .ref ah, .ref bh, .ref ik, .ref la, .ref lg, .ref ce, .int vto])), (st, .inl (G 0, 196, .inl fst))]) [0, 1] (by decide) rfl
    have hFc := va_free (wc := [(h0, .inr (11, [.ref st, .int (nI N), .int (nI B), .ref rp, .int vrs, .int vrb, .int vhs, .int vca, .int vxs, .int vxb, .ref tp, .int (nI T), .int vfa, .int vbr, .int vba, .int vsp, .int vhe, .int vtk, .int vva, .ref cu, .ref lt, .ref od, .ref th, .ref be, .ref ln, .int (nI S), .ref ma, .int (nI M), .ref ah, .ref bh, .ref ik, .ref la, .ref lg, .ref ce, .int vto])), (st, .inl (G 0, 196, .inl fst))]) hD hS hA [0, 1] rfl
    refine va_calli (va_runV (As := [.int 0, .int ((20 + (3 * i)) + 2), .int v]) (rest := []) ⟨hx, hb, hml, hown, hg⟩ (c_X11_sets0 l dC dI G _ h0 st N B rp tp T cu lt od th be ln S ma M ah bh ik la lg ce ((20 + (3 * i)) + 2) v vrs vrb vhs vca vxs vxb vfa vbr vba vsp vhe vtk vva vto fst (by have t_b4 := b4; have t_n0 : (nI N).toInt = (N : Int) := nI_toInt (by omega); have t_n1 : (nI B).toInt = (B : Int) := nI_toInt (by omega); have t_n2 : (nI T).toInt = (T : Int) := nI_toInt (by omega); have t_n3 : (nI S).toInt = (S : Int) := nI_toInt (by omega); have t_n4 : (nI M).toInt = (M : Int) := nI_toInt (by omega); omega) (by have t_b4 := b4; have t_n0 : (nI N).toInt = (N : Int) := nI_toInt (by omega); have t_n1 : (nI B).toInt = (B : Int) := nI_toInt (by omega); have t_n2 : (nI T).toInt = (T : Int) := nI_toInt (by omega); have t_n3 : (nI S).toInt = (S : Int) := nI_toInt (by omega); have t_n4 : (nI M).toInt = (M : Int) := nI_toInt (by omega); omega) (by have t_b4 := b4; have t_n0 : (nI N).toInt = (N : Int) := nI_toInt (by omega); have t_n1 : (nI B).toInt = (B : Int) := nI_toInt (by omega); have t_n2 : (nI T).toInt = (T : Int) := nI_toInt (by omega); have t_n3 : (nI S).toInt = (S : Int) := nI_toInt (by omega); have t_n4 : (nI M).toInt = (M : Int) := nI_toInt (by omega); omega) (by have t_b4 := b4; have t_n0 : (nI N).toInt = (N : Int) := nI_toInt (by omega); have t_n1 : (nI B).toInt = (B : Int) := nI_toInt (by omega); have t_n2 : (nI T).toInt = (T : Int) := nI_toInt (by omega); have t_n3 : (nI S).toInt = (S : Int) := nI_toInt (by omega); have t_n4 : (nI M).toInt = (M : Int) := nI_toInt (by omega); omega) (by have t_b4 := b4; have t_n0 : (nI N).toInt = (N : Int) := nI_toInt (by omega); have t_n1 : (nI B).toInt = (B : Int) := nI_toInt (by omega); have t_n2 : (nI T).toInt = (T : Int) := nI_toInt (by omega); have t_n3 : (nI S).toInt = (S : Int) := nI_toInt (by omega); have t_n4 : (nI M).toInt = (M : Int) := nI_toInt (by omega); omega) hst) (kwV hg mfX11_sets wt_1070 ⟨Nat.le_of_ble_eq_true rfl, Nat.le_of_ble_eq_true rfl⟩) (preVW hK hPc hDc (ci := 11) rfl rfl) rfl rfl hl.1 rfl (lv_room (Nat.le_of_ble_eq_true rfl)) dX11_warm_35 ⟨Nat.le_of_ble_eq_true rfl, Nat.le_of_ble_eq_true rfl⟩) hS (fun q _ h => hFc q h) hFc (fun r5 ur5 t H1 locs ht hvm w6 hB hz1 hk1 hS => ?_)
    obtain ⟨u7, rfl⟩ : ∃ z, z = ur5 := ⟨_, rfl⟩
    obtain ⟨hP1, hD1⟩ := hB
    rw [ht] at hP1
    obtain ⟨hP, hD⟩ := va_join (wr := []) (w1 := [(h0, .inr (11, [.ref st, .int (nI N), .int (nI B), .ref rp, .int vrs, .int vrb, .int vhs, .int vca, .int vxs, .int vxb, .ref tp, .int (nI T), .int vfa, .int vbr, .int vba, .int vsp, .int vhe, .int vtk, .int vva, .ref cu, .ref lt, .ref od, .ref th, .ref be, .ref ln, .int (nI S), .ref ma, .int (nI M), .ref ah, .ref bh, .ref ik, .ref la, .ref lg, .ref ce, .int vto])), (st, .inl (G 0, 196, .inl u7))]) hP hD [0, 1] [] rfl rfl (by decide) (by decide) hk1 hFc hP1 hD1
    generalize H1 = H at hP hS ⊢
    have hP : va_P (dC, dI) vwCl [(h0, .inr (11, [.ref st, .int (nI N), .int (nI B), .ref rp, .int vrs, .int vrb, .int vhs, .int vca, .int vxs, .int vxb, .ref tp, .int (nI T), .int vfa, .int vbr, .int vba, .int vsp, .int vhe, .int vtk, .int vva, .ref cu, .ref lt, .ref od, .ref th, .ref be, .ref ln, .int (nI S), .ref ma, .int (nI M), .ref ah, .ref bh, .ref ik, .ref la, .ref lg, .ref ce, .int vto])), (st, .inl (G 0, 196, .inl u7))] H := hP
    have hD : va_D A [(h0, .inr (11, [.ref st, .int (nI N), .int (nI B), .ref rp, .int vrs, .int vrb, .int vhs, .int vca, .int vxs, .int vxb, .ref tp, .int (nI T), .int vfa, .int vbr, .int vba, .int vsp, .int vhe, .int vtk, .int vva, .ref cu, .ref lt, .ref od, .ref th, .ref be, .ref ln, .int (nI S), .ref ma, .int (nI M), .ref ah, .ref bh, .ref ik, .ref la, .ref lg, .ref ce, .int vto])), (st, .inl (G 0, 196, .inl u7))] := hD
    obtain ⟨w6, w6x⟩ := w6
    have hpost : True := by
      trivial
    have hP9 := hP.sub (ws' := [(h0, .inr (11, [.ref st, .int (nI N), .int (nI B), .ref rp, .int vrs, .int vrb, .int vhs, .int vca, .int vxs, .int vxb, .ref tp, .int (nI T), .int vfa, .int vbr, .int vba, .int vsp, .int vhe, .int vtk, .int vva, .ref cu, .ref lt, .ref od, .ref th, .ref be, .ref ln, .int (nI S), .ref ma, .int (nI M), .ref ah, .ref bh, .ref ik, .ref la, .ref lg, .ref ce, .int vto])), (st, .inl (G 0, 196, .inl u7))]) [0, 1] rfl
    have hD9 := hD.sub (ws' := [(h0, .inr (11, [.ref st, .int (nI N), .int (nI B), .ref rp, .int vrs, .int vrb, .int vhs, .int vca, .int vxs, .int vxb, .ref tp, .int (nI T), .int vfa, .int vbr, .int vba, .int vsp, .int vhe, .int vtk, .int vva, .ref cu, .ref lt, .ref od, .ref th, .ref be, .ref ln, .int (nI S), .ref ma, .int (nI M), .ref ah, .ref bh, .ref ik, .ref la, .ref lg, .ref ce, .int vto])), (st, .inl (G 0, 196, .inl u7))]) [0, 1] (by decide) rfl
    refine W.widen (k := 0) (n := 0) (by omega) (by omega) ?_
    exact W.iret (v := r5) hx hb hr (fun t ht hW => ⟨⟨r5, u7, rfl, ⟨hpost, w6x⟩, ⟨by rw [ht]; exact hP9, hD9⟩⟩, hS.F ht⟩) hS.2.2 dX11_warm_38
  · skip
    have b8 := if10_p c3
    refine lv_iload_n hx hb dX11_warm_9 rfl (lv_at hl 2 rfl) ?_
    refine lv_i2l (v := v.toInt64) hx hb dX11_warm_10 rfl ?_
    refine lv_lconst (v := 0) hx hb dX11_warm_11 (by decide) ?_
    refine lv_ldc2 (v := 9) hx hb hown (hg _ wt_1069) dX11_warm_12 ?_
    have hPc := hP.sub (ws' := []) [] rfl
    refine va_calli (va_runS (As := [.long v.toInt64, .long 0, .long 9]) (rest := [.ref h0]) ⟨hx, hb, hml, hown, hg⟩ (c_X11_in l dC dI G _ v.toInt64 0 9 ) (kwS hg mfX11_in wt_992 ⟨Nat.le_of_ble_eq_true rfl, Nat.le_of_ble_eq_true rfl⟩) (preSR hK hPc) rfl rfl hl.1 rfl (lv_room (Nat.le_of_ble_eq_true rfl)) dX11_warm_15 ⟨Nat.le_of_ble_eq_true rfl, Nat.le_of_ble_eq_true rfl⟩) hS (fun q h1 h2 => absurd h2 (Nat.not_le.mpr h1)) (fun q h => hA q (Nat.le_trans hS.1 h)) (fun r9 ur9 t H1 locs ht hvm w10 hB hz1 hk1 hS => ?_)
    have hP := keepR hP hk1
    obtain ⟨w10, w10x⟩ := w10
    try simp only [l_ii, show (0 : Int64).toInt = 0 from by decide, show (9 : Int64).toInt = 9 from by decide] at w10
    subst w10
    refine lv_if_eq (tgt := 25) hx hb dX11_warm_18 (by decide) (fun c11 => ?_) (fun c11 => ?_)
    · skip
      have b12 := if10_n c11
      refine lv_iconst (v := 0) hx hb dX11_warm_25 (by decide) ?_
      refine lv_bipush (v := 20) hx hb dX11_warm_26 (by decide) ?_
      refine lv_iconst (v := 3) hx hb dX11_warm_28 (by decide) ?_
      refine lv_iload_n hx hb dX11_warm_29 rfl (lv_at hl 1 rfl) ?_
      refine lv_imul hx hb dX11_warm_30 ?_
      refine lv_iadd hx hb dX11_warm_31 ?_
      refine lv_iconst (v := 2) hx hb dX11_warm_32 (by decide) ?_
      refine lv_iadd hx hb dX11_warm_33 ?_
      refine lv_iload_n hx hb dX11_warm_34 rfl (lv_at hl 2 rfl) ?_
      have hPc := hP.sub (ws' := [(h0, .inr (11, [.ref st, .int (nI N), .int (nI B), .ref rp, .int vrs, .int vrb, .int vhs, .int vca, .int vxs, .int vxb, .ref tp, .int (nI T), .int vfa, .int vbr, .int vba, .int vsp, .int vhe, .int vtk, .int vva, .ref cu, .ref lt, .ref od, .ref th, .ref be, .ref ln, .int (nI S), .ref ma, .int (nI M), .ref ah, .ref bh, .ref ik, .ref la, .ref lg, .ref ce, .int vto])), (st, .inl (G 0, 196, .inl fst))]) [0, 1] rfl
      have hDc := hD.sub (ws' := [(h0, .inr (11, [.ref st, .int (nI N), .int (nI B), .ref rp, .int vrs, .int vrb, .int vhs, .int vca, .int vxs, .int vxb, .ref tp, .int (nI T), .int vfa, .int vbr, .int vba, .int vsp, .int vhe, .int vtk, .int vva, .ref cu, .ref lt, .ref od, .ref th, .ref be, .ref ln, .int (nI S), .ref ma, .int (nI M), .ref ah, .ref bh, .ref ik, .ref la, .ref lg, .ref ce, .int vto])), (st, .inl (G 0, 196, .inl fst))]) [0, 1] (by decide) rfl
      have hFc := va_free (wc := [(h0, .inr (11, [.ref st, .int (nI N), .int (nI B), .ref rp, .int vrs, .int vrb, .int vhs, .int vca, .int vxs, .int vxb, .ref tp, .int (nI T), .int vfa, .int vbr, .int vba, .int vsp, .int vhe, .int vtk, .int vva, .ref cu, .ref lt, .ref od, .ref th, .ref be, .ref ln, .int (nI S), .ref ma, .int (nI M), .ref ah, .ref bh, .ref ik, .ref la, .ref lg, .ref ce, .int vto])), (st, .inl (G 0, 196, .inl fst))]) hD hS hA [0, 1] rfl
      refine va_calli (va_runV (As := [.int 0, .int ((20 + (3 * i)) + 2), .int v]) (rest := []) ⟨hx, hb, hml, hown, hg⟩ (c_X11_sets0 l dC dI G _ h0 st N B rp tp T cu lt od th be ln S ma M ah bh ik la lg ce ((20 + (3 * i)) + 2) v vrs vrb vhs vca vxs vxb vfa vbr vba vsp vhe vtk vva vto fst (by have t_b8 := b8; have t_b12 := b12; have t_n0 : (nI N).toInt = (N : Int) := nI_toInt (by omega); have t_n1 : (nI B).toInt = (B : Int) := nI_toInt (by omega); have t_n2 : (nI T).toInt = (T : Int) := nI_toInt (by omega); have t_n3 : (nI S).toInt = (S : Int) := nI_toInt (by omega); have t_n4 : (nI M).toInt = (M : Int) := nI_toInt (by omega); omega) (by have t_b8 := b8; have t_b12 := b12; have t_n0 : (nI N).toInt = (N : Int) := nI_toInt (by omega); have t_n1 : (nI B).toInt = (B : Int) := nI_toInt (by omega); have t_n2 : (nI T).toInt = (T : Int) := nI_toInt (by omega); have t_n3 : (nI S).toInt = (S : Int) := nI_toInt (by omega); have t_n4 : (nI M).toInt = (M : Int) := nI_toInt (by omega); omega) (by have t_b8 := b8; have t_b12 := b12; have t_n0 : (nI N).toInt = (N : Int) := nI_toInt (by omega); have t_n1 : (nI B).toInt = (B : Int) := nI_toInt (by omega); have t_n2 : (nI T).toInt = (T : Int) := nI_toInt (by omega); have t_n3 : (nI S).toInt = (S : Int) := nI_toInt (by omega); have t_n4 : (nI M).toInt = (M : Int) := nI_toInt (by omega); omega) (by have t_b8 := b8; have t_b12 := b12; have t_n0 : (nI N).toInt = (N : Int) := nI_toInt (by omega); have t_n1 : (nI B).toInt = (B : Int) := nI_toInt (by omega); have t_n2 : (nI T).toInt = (T : Int) := nI_toInt (by omega); have t_n3 : (nI S).toInt = (S : Int) := nI_toInt (by omega); have t_n4 : (nI M).toInt = (M : Int) := nI_toInt (by omega); omega) (by have t_b8 := b8; have t_b12 := b12; have t_n0 : (nI N).toInt = (N : Int) := nI_toInt (by omega); have t_n1 : (nI B).toInt = (B : Int) := nI_toInt (by omega); have t_n2 : (nI T).toInt = (T : Int) := nI_toInt (by omega); have t_n3 : (nI S).toInt = (S : Int) := nI_toInt (by omega); have t_n4 : (nI M).toInt = (M : Int) := nI_toInt (by omega); omega) hst) (kwV hg mfX11_sets wt_1070 ⟨Nat.le_of_ble_eq_true rfl, Nat.le_of_ble_eq_true rfl⟩) (preVW hK hPc hDc (ci := 11) rfl rfl) rfl rfl hl.1 rfl (lv_room (Nat.le_of_ble_eq_true rfl)) dX11_warm_35 ⟨Nat.le_of_ble_eq_true rfl, Nat.le_of_ble_eq_true rfl⟩) hS (fun q _ h => hFc q h) hFc (fun r13 ur13 t H1 locs ht hvm w14 hB hz1 hk1 hS => ?_)
      obtain ⟨u15, rfl⟩ : ∃ z, z = ur13 := ⟨_, rfl⟩
      obtain ⟨hP1, hD1⟩ := hB
      rw [ht] at hP1
      obtain ⟨hP, hD⟩ := va_join (wr := []) (w1 := [(h0, .inr (11, [.ref st, .int (nI N), .int (nI B), .ref rp, .int vrs, .int vrb, .int vhs, .int vca, .int vxs, .int vxb, .ref tp, .int (nI T), .int vfa, .int vbr, .int vba, .int vsp, .int vhe, .int vtk, .int vva, .ref cu, .ref lt, .ref od, .ref th, .ref be, .ref ln, .int (nI S), .ref ma, .int (nI M), .ref ah, .ref bh, .ref ik, .ref la, .ref lg, .ref ce, .int vto])), (st, .inl (G 0, 196, .inl u15))]) hP hD [0, 1] [] rfl rfl (by decide) (by decide) hk1 hFc hP1 hD1
      generalize H1 = H at hP hS ⊢
      have hP : va_P (dC, dI) vwCl [(h0, .inr (11, [.ref st, .int (nI N), .int (nI B), .ref rp, .int vrs, .int vrb, .int vhs, .int vca, .int vxs, .int vxb, .ref tp, .int (nI T), .int vfa, .int vbr, .int vba, .int vsp, .int vhe, .int vtk, .int vva, .ref cu, .ref lt, .ref od, .ref th, .ref be, .ref ln, .int (nI S), .ref ma, .int (nI M), .ref ah, .ref bh, .ref ik, .ref la, .ref lg, .ref ce, .int vto])), (st, .inl (G 0, 196, .inl u15))] H := hP
      have hD : va_D A [(h0, .inr (11, [.ref st, .int (nI N), .int (nI B), .ref rp, .int vrs, .int vrb, .int vhs, .int vca, .int vxs, .int vxb, .ref tp, .int (nI T), .int vfa, .int vbr, .int vba, .int vsp, .int vhe, .int vtk, .int vva, .ref cu, .ref lt, .ref od, .ref th, .ref be, .ref ln, .int (nI S), .ref ma, .int (nI M), .ref ah, .ref bh, .ref ik, .ref la, .ref lg, .ref ce, .int vto])), (st, .inl (G 0, 196, .inl u15))] := hD
      obtain ⟨w14, w14x⟩ := w14
      have hpost : True := by
        trivial
      have hP9 := hP.sub (ws' := [(h0, .inr (11, [.ref st, .int (nI N), .int (nI B), .ref rp, .int vrs, .int vrb, .int vhs, .int vca, .int vxs, .int vxb, .ref tp, .int (nI T), .int vfa, .int vbr, .int vba, .int vsp, .int vhe, .int vtk, .int vva, .ref cu, .ref lt, .ref od, .ref th, .ref be, .ref ln, .int (nI S), .ref ma, .int (nI M), .ref ah, .ref bh, .ref ik, .ref la, .ref lg, .ref ce, .int vto])), (st, .inl (G 0, 196, .inl u15))]) [0, 1] rfl
      have hD9 := hD.sub (ws' := [(h0, .inr (11, [.ref st, .int (nI N), .int (nI B), .ref rp, .int vrs, .int vrb, .int vhs, .int vca, .int vxs, .int vxb, .ref tp, .int (nI T), .int vfa, .int vbr, .int vba, .int vsp, .int vhe, .int vtk, .int vva, .ref cu, .ref lt, .ref od, .ref th, .ref be, .ref ln, .int (nI S), .ref ma, .int (nI M), .ref ah, .ref bh, .ref ik, .ref la, .ref lg, .ref ce, .int vto])), (st, .inl (G 0, 196, .inl u15))]) [0, 1] (by decide) rfl
      refine W.widen (k := 0) (n := 0) (by omega) (by omega) ?_
      exact W.iret (v := r13) hx hb hr (fun t ht hW => ⟨⟨r13, u15, rfl, ⟨hpost, w14x⟩, ⟨by rw [ht]; exact hP9, hD9⟩⟩, hS.F ht⟩) hS.2.2 dX11_warm_38
    · skip
      have b16 := if10_p c11
      obtain ⟨ii, hii, rfl⟩ : ∃ j : Nat, j < 6 ∧ i = nI j := by
        have t_b8 := b8
        have t_b16 := b16
        have t_n0 : (nI N).toInt = (N : Int) := nI_toInt (by omega)
        have t_n1 : (nI B).toInt = (B : Int) := nI_toInt (by omega)
        have t_n2 : (nI T).toInt = (T : Int) := nI_toInt (by omega)
        have t_n3 : (nI S).toInt = (S : Int) := nI_toInt (by omega)
        have t_n4 : (nI M).toInt = (M : Int) := nI_toInt (by omega)
        exact i32_nat (by omega) (by omega)
      refine lv_iconst (v := 1) hx hb dX11_warm_21 (by decide) ?_
      refine lv_goto (tgt := 26) hx hb dX11_warm_22 (by decide) ?_
      refine lv_bipush (v := 20) hx hb dX11_warm_26 (by decide) ?_
      refine lv_iconst (v := 3) hx hb dX11_warm_28 (by decide) ?_
      refine lv_iload_n hx hb dX11_warm_29 rfl (lv_at hl 1 rfl) ?_
      refine lv_imul hx hb dX11_warm_30 ?_
      refine lv_cg (y := nI (3 * ii)) (by rw [show (3 : Int32) = nI 3 from rfl]; exact pk_mul _ _) ?_
      refine lv_iadd hx hb dX11_warm_31 ?_
      refine lv_cg (y := nI (20 + (3 * ii))) (by rw [show (20 : Int32) = nI 20 from rfl]; exact nI_add _ _) ?_
      refine lv_iconst (v := 2) hx hb dX11_warm_32 (by decide) ?_
      refine lv_iadd hx hb dX11_warm_33 ?_
      refine lv_cg (y := nI ((20 + (3 * ii)) + 2)) (by rw [show (2 : Int32) = nI 2 from rfl]; exact nI_add _ _) ?_
      refine lv_iload_n hx hb dX11_warm_34 rfl (lv_at hl 2 rfl) ?_
      have hPc := hP.sub (ws' := [(h0, .inr (11, [.ref st, .int (nI N), .int (nI B), .ref rp, .int vrs, .int vrb, .int vhs, .int vca, .int vxs, .int vxb, .ref tp, .int (nI T), .int vfa, .int vbr, .int vba, .int vsp, .int vhe, .int vtk, .int vva, .ref cu, .ref lt, .ref od, .ref th, .ref be, .ref ln, .int (nI S), .ref ma, .int (nI M), .ref ah, .ref bh, .ref ik, .ref la, .ref lg, .ref ce, .int vto])), (st, .inl (G 0, 196, .inl fst))]) [0, 1] rfl
      have hDc := hD.sub (ws' := [(h0, .inr (11, [.ref st, .int (nI N), .int (nI B), .ref rp, .int vrs, .int vrb, .int vhs, .int vca, .int vxs, .int vxb, .ref tp, .int (nI T), .int vfa, .int vbr, .int vba, .int vsp, .int vhe, .int vtk, .int vva, .ref cu, .ref lt, .ref od, .ref th, .ref be, .ref ln, .int (nI S), .ref ma, .int (nI M), .ref ah, .ref bh, .ref ik, .ref la, .ref lg, .ref ce, .int vto])), (st, .inl (G 0, 196, .inl fst))]) [0, 1] (by decide) rfl
      have hFc := va_free (wc := [(h0, .inr (11, [.ref st, .int (nI N), .int (nI B), .ref rp, .int vrs, .int vrb, .int vhs, .int vca, .int vxs, .int vxb, .ref tp, .int (nI T), .int vfa, .int vbr, .int vba, .int vsp, .int vhe, .int vtk, .int vva, .ref cu, .ref lt, .ref od, .ref th, .ref be, .ref ln, .int (nI S), .ref ma, .int (nI M), .ref ah, .ref bh, .ref ik, .ref la, .ref lg, .ref ce, .int vto])), (st, .inl (G 0, 196, .inl fst))]) hD hS hA [0, 1] rfl
      refine va_calli (va_runV (As := [.int 1, .int (nI ((20 + (3 * ii)) + 2)), .int v]) (rest := []) ⟨hx, hb, hml, hown, hg⟩ (c_X11_sets1 l dC dI G _ h0 ((20 + (3 * ii)) + 2) st N B rp tp T cu lt od th be ln S ma M ah bh ik la lg ce v vrs vrb vhs vca vxs vxb vfa vbr vba vsp vhe vtk vva vto fst (by have t_b8 := b8; have t_b16 := b16; have t_hii := hii; have t_n0 : (nI N).toInt = (N : Int) := nI_toInt (by omega); have t_n1 : (nI B).toInt = (B : Int) := nI_toInt (by omega); have t_n2 : (nI T).toInt = (T : Int) := nI_toInt (by omega); have t_n3 : (nI S).toInt = (S : Int) := nI_toInt (by omega); have t_n4 : (nI M).toInt = (M : Int) := nI_toInt (by omega); have t_n5 : (nI ii).toInt = (ii : Int) := nI_toInt (by omega); omega) (by have t_b8 := b8; have t_b16 := b16; have t_hii := hii; have t_n0 : (nI N).toInt = (N : Int) := nI_toInt (by omega); have t_n1 : (nI B).toInt = (B : Int) := nI_toInt (by omega); have t_n2 : (nI T).toInt = (T : Int) := nI_toInt (by omega); have t_n3 : (nI S).toInt = (S : Int) := nI_toInt (by omega); have t_n4 : (nI M).toInt = (M : Int) := nI_toInt (by omega); have t_n5 : (nI ii).toInt = (ii : Int) := nI_toInt (by omega); omega) (by have t_b8 := b8; have t_b16 := b16; have t_hii := hii; have t_n0 : (nI N).toInt = (N : Int) := nI_toInt (by omega); have t_n1 : (nI B).toInt = (B : Int) := nI_toInt (by omega); have t_n2 : (nI T).toInt = (T : Int) := nI_toInt (by omega); have t_n3 : (nI S).toInt = (S : Int) := nI_toInt (by omega); have t_n4 : (nI M).toInt = (M : Int) := nI_toInt (by omega); have t_n5 : (nI ii).toInt = (ii : Int) := nI_toInt (by omega); omega) (by have t_b8 := b8; have t_b16 := b16; have t_hii := hii; have t_n0 : (nI N).toInt = (N : Int) := nI_toInt (by omega); have t_n1 : (nI B).toInt = (B : Int) := nI_toInt (by omega); have t_n2 : (nI T).toInt = (T : Int) := nI_toInt (by omega); have t_n3 : (nI S).toInt = (S : Int) := nI_toInt (by omega); have t_n4 : (nI M).toInt = (M : Int) := nI_toInt (by omega); have t_n5 : (nI ii).toInt = (ii : Int) := nI_toInt (by omega); omega) (by have t_b8 := b8; have t_b16 := b16; have t_hii := hii; have t_n0 : (nI N).toInt = (N : Int) := nI_toInt (by omega); have t_n1 : (nI B).toInt = (B : Int) := nI_toInt (by omega); have t_n2 : (nI T).toInt = (T : Int) := nI_toInt (by omega); have t_n3 : (nI S).toInt = (S : Int) := nI_toInt (by omega); have t_n4 : (nI M).toInt = (M : Int) := nI_toInt (by omega); have t_n5 : (nI ii).toInt = (ii : Int) := nI_toInt (by omega); omega) hst (by have t_b8 := b8; have t_b16 := b16; have t_hii := hii; have t_n0 : (nI N).toInt = (N : Int) := nI_toInt (by omega); have t_n1 : (nI B).toInt = (B : Int) := nI_toInt (by omega); have t_n2 : (nI T).toInt = (T : Int) := nI_toInt (by omega); have t_n3 : (nI S).toInt = (S : Int) := nI_toInt (by omega); have t_n4 : (nI M).toInt = (M : Int) := nI_toInt (by omega); have t_n5 : (nI ii).toInt = (ii : Int) := nI_toInt (by omega); omega) (okS_lo (by have t_b8 := b8; have t_b16 := b16; have t_hii := hii; have t_n0 : (nI N).toInt = (N : Int) := nI_toInt (by omega); have t_n1 : (nI B).toInt = (B : Int) := nI_toInt (by omega); have t_n2 : (nI T).toInt = (T : Int) := nI_toInt (by omega); have t_n3 : (nI S).toInt = (S : Int) := nI_toInt (by omega); have t_n4 : (nI M).toInt = (M : Int) := nI_toInt (by omega); have t_n5 : (nI ii).toInt = (ii : Int) := nI_toInt (by omega); omega) (by have t_b8 := b8; have t_b16 := b16; have t_hii := hii; have t_n0 : (nI N).toInt = (N : Int) := nI_toInt (by omega); have t_n1 : (nI B).toInt = (B : Int) := nI_toInt (by omega); have t_n2 : (nI T).toInt = (T : Int) := nI_toInt (by omega); have t_n3 : (nI S).toInt = (S : Int) := nI_toInt (by omega); have t_n4 : (nI M).toInt = (M : Int) := nI_toInt (by omega); have t_n5 : (nI ii).toInt = (ii : Int) := nI_toInt (by omega); omega) (by have t_b8 := b8; have t_b16 := b16; have t_hii := hii; have t_n0 : (nI N).toInt = (N : Int) := nI_toInt (by omega); have t_n1 : (nI B).toInt = (B : Int) := nI_toInt (by omega); have t_n2 : (nI T).toInt = (T : Int) := nI_toInt (by omega); have t_n3 : (nI S).toInt = (S : Int) := nI_toInt (by omega); have t_n4 : (nI M).toInt = (M : Int) := nI_toInt (by omega); have t_n5 : (nI ii).toInt = (ii : Int) := nI_toInt (by omega); omega))) (kwV hg mfX11_sets wt_1070 ⟨Nat.le_of_ble_eq_true rfl, Nat.le_of_ble_eq_true rfl⟩) (preVW hK hPc hDc (ci := 11) rfl rfl) rfl rfl hl.1 rfl (lv_room (Nat.le_of_ble_eq_true rfl)) dX11_warm_35 ⟨Nat.le_of_ble_eq_true rfl, Nat.le_of_ble_eq_true rfl⟩) hS (fun q _ h => hFc q h) hFc (fun r17 ur17 t H1 locs ht hvm w18 hB hz1 hk1 hS => ?_)
      obtain ⟨u19, rfl⟩ : ∃ z, z = ur17 := ⟨_, rfl⟩
      obtain ⟨hP1, hD1⟩ := hB
      rw [ht] at hP1
      obtain ⟨hP, hD⟩ := va_join (wr := []) (w1 := [(h0, .inr (11, [.ref st, .int (nI N), .int (nI B), .ref rp, .int vrs, .int vrb, .int vhs, .int vca, .int vxs, .int vxb, .ref tp, .int (nI T), .int vfa, .int vbr, .int vba, .int vsp, .int vhe, .int vtk, .int vva, .ref cu, .ref lt, .ref od, .ref th, .ref be, .ref ln, .int (nI S), .ref ma, .int (nI M), .ref ah, .ref bh, .ref ik, .ref la, .ref lg, .ref ce, .int vto])), (st, .inl (G 0, 196, .inl u19))]) hP hD [0, 1] [] rfl rfl (by decide) (by decide) hk1 hFc hP1 hD1
      generalize H1 = H at hP hS ⊢
      have hP : va_P (dC, dI) vwCl [(h0, .inr (11, [.ref st, .int (nI N), .int (nI B), .ref rp, .int vrs, .int vrb, .int vhs, .int vca, .int vxs, .int vxb, .ref tp, .int (nI T), .int vfa, .int vbr, .int vba, .int vsp, .int vhe, .int vtk, .int vva, .ref cu, .ref lt, .ref od, .ref th, .ref be, .ref ln, .int (nI S), .ref ma, .int (nI M), .ref ah, .ref bh, .ref ik, .ref la, .ref lg, .ref ce, .int vto])), (st, .inl (G 0, 196, .inl u19))] H := hP
      have hD : va_D A [(h0, .inr (11, [.ref st, .int (nI N), .int (nI B), .ref rp, .int vrs, .int vrb, .int vhs, .int vca, .int vxs, .int vxb, .ref tp, .int (nI T), .int vfa, .int vbr, .int vba, .int vsp, .int vhe, .int vtk, .int vva, .ref cu, .ref lt, .ref od, .ref th, .ref be, .ref ln, .int (nI S), .ref ma, .int (nI M), .ref ah, .ref bh, .ref ik, .ref la, .ref lg, .ref ce, .int vto])), (st, .inl (G 0, 196, .inl u19))] := hD
      obtain ⟨w18, w18x⟩ := w18
      have hpost : True := by
        trivial
      have hP9 := hP.sub (ws' := [(h0, .inr (11, [.ref st, .int (nI N), .int (nI B), .ref rp, .int vrs, .int vrb, .int vhs, .int vca, .int vxs, .int vxb, .ref tp, .int (nI T), .int vfa, .int vbr, .int vba, .int vsp, .int vhe, .int vtk, .int vva, .ref cu, .ref lt, .ref od, .ref th, .ref be, .ref ln, .int (nI S), .ref ma, .int (nI M), .ref ah, .ref bh, .ref ik, .ref la, .ref lg, .ref ce, .int vto])), (st, .inl (G 0, 196, .inl u19))]) [0, 1] rfl
      have hD9 := hD.sub (ws' := [(h0, .inr (11, [.ref st, .int (nI N), .int (nI B), .ref rp, .int vrs, .int vrb, .int vhs, .int vca, .int vxs, .int vxb, .ref tp, .int (nI T), .int vfa, .int vbr, .int vba, .int vsp, .int vhe, .int vtk, .int vva, .ref cu, .ref lt, .ref od, .ref th, .ref be, .ref ln, .int (nI S), .ref ma, .int (nI M), .ref ah, .ref bh, .ref ik, .ref la, .ref lg, .ref ce, .int vto])), (st, .inl (G 0, 196, .inl u19))]) [0, 1] (by decide) rfl
      refine W.widen (k := 0) (n := 0) (by omega) (by omega) ?_
      exact W.iret (v := r17) hx hb hr (fun t ht hW => ⟨⟨r17, u19, rfl, ⟨hpost, w18x⟩, ⟨by rw [ht]; exact hP9, hD9⟩⟩, hS.F ht⟩) hS.2.2 dX11_warm_38

set_option maxHeartbeats 1000000 in
set_option maxRecDepth 100000 in
theorem c_X11_puts (l : Launch) (dC : Nat → ClassId) (dI : Nat → Nat → Nat) (G : Nat → ClassId) (sz : Nat) (h0 st N B rp tp T cu lt od th be ln S ma M ah bh ik la lg ce : Nat) (i v vrs vrb vhs vca vxs vxb vfa vbr vba vsp vhe vtk vva vto : Int32) (fst : Nat → Int32) (hN : N ≤ 10) (hB : B ≤ 6) (hT : T ≤ 320) (hS0 : S ≤ 8) (hM : M ≤ 6) (hst : OKS fst) : Met l yX11_puts (Cond.code yX11_puts cX11_puts 3 (some .int) :: GT) ({ frames := 2, cells := 0, slots := 0, locals := 46 } : Room) (PcW [.ref h0, .int i, .int v] dC dI G [(h0, .inr (11, [.ref st, .int (nI N), .int (nI B), .ref rp, .int vrs, .int vrb, .int vhs, .int vca, .int vxs, .int vxb, .ref tp, .int (nI T), .int vfa, .int vbr, .int vba, .int vsp, .int vhe, .int vtk, .int vva, .ref cu, .ref lt, .ref od, .ref th, .ref be, .ref ln, .int (nI S), .ref ma, .int (nI M), .ref ah, .ref bh, .ref ik, .ref la, .ref lg, .ref ce, .int vto])), (st, .inl (G 0, 196, .inl fst))] sz) (va_Qi (fun (r : Int32) (u : (Nat → Int32)) => match u with | ost => (True) ∧ OKS ost) (fun (u : (Nat → Int32)) (t : State) => match u with | ost => va_P (dC, dI) vwCl [(h0, .inr (11, [.ref st, .int (nI N), .int (nI B), .ref rp, .int vrs, .int vrb, .int vhs, .int vca, .int vxs, .int vxb, .ref tp, .int (nI T), .int vfa, .int vbr, .int vba, .int vsp, .int vhe, .int vtk, .int vva, .ref cu, .ref lt, .ref od, .ref th, .ref be, .ref ln, .int (nI S), .ref ma, .int (nI M), .ref ah, .ref bh, .ref ik, .ref la, .ref lg, .ref ce, .int vto])), (st, .inl (G 0, 196, .inl ost))] t.heap ∧ va_D (va_A [(h0, .inr (11, [.ref st, .int (nI N), .int (nI B), .ref rp, .int vrs, .int vrb, .int vhs, .int vca, .int vxs, .int vxb, .ref tp, .int (nI T), .int vfa, .int vbr, .int vba, .int vsp, .int vhe, .int vtk, .int vva, .ref cu, .ref lt, .ref od, .ref th, .ref be, .ref ln, .int (nI S), .ref ma, .int (nI M), .ref ah, .ref bh, .ref ik, .ref la, .ref lg, .ref ce, .int vto])), (st, .inl (G 0, 196, .inl fst))] sz) [(h0, .inr (11, [.ref st, .int (nI N), .int (nI B), .ref rp, .int vrs, .int vrb, .int vhs, .int vca, .int vxs, .int vxb, .ref tp, .int (nI T), .int vfa, .int vbr, .int vba, .int vsp, .int vhe, .int vtk, .int vva, .ref cu, .ref lt, .ref od, .ref th, .ref be, .ref ln, .int (nI S), .ref ma, .int (nI M), .ref ah, .ref bh, .ref ik, .ref la, .ref lg, .ref ce, .int vto])), (st, .inl (G 0, 196, .inl ost))]) (va_A [(h0, .inr (11, [.ref st, .int (nI N), .int (nI B), .ref rp, .int vrs, .int vrb, .int vhs, .int vca, .int vxs, .int vxb, .ref tp, .int (nI T), .int vfa, .int vbr, .int vba, .int vsp, .int vhe, .int vtk, .int vva, .ref cu, .ref lt, .ref od, .ref th, .ref be, .ref ln, .int (nI S), .ref ma, .int (nI M), .ref ah, .ref bh, .ref ik, .ref la, .ref lg, .ref ce, .int vto])), (st, .inl (G 0, 196, .inl fst))] sz)) 0 0 (va_A [(h0, .inr (11, [.ref st, .int (nI N), .int (nI B), .ref rp, .int vrs, .int vrb, .int vhs, .int vca, .int vxs, .int vxb, .ref tp, .int (nI T), .int vfa, .int vbr, .int vba, .int vsp, .int vhe, .int vtk, .int vva, .ref cu, .ref lt, .ref od, .ref th, .ref be, .ref ln, .int (nI S), .ref ma, .int (nI M), .ref ah, .ref bh, .ref ik, .ref la, .ref lg, .ref ce, .int vto])), (st, .inl (G 0, 196, .inl fst))] sz) := by
  refine Met.ofW (cc := cX11_puts) (maxL := 3) (ret := (some .int)) (by decide) rfl ?_
  intro p e s m args below meth c s₁ Bd hml hv
  obtain ⟨rfl, hsz, hP, hK, hD0⟩ := hv
  have hx := Bd.exec
  have hb := Bd.bytes
  have hr := Bd.returns
  have hg : ∀ w ∈ GT, w.before ([.ref h0, .int i, .int v] : List Value).toArray s = true := fun w h => atoms_spec (ws := Cond.code yX11_puts cX11_puts 3 (some .int) :: GT) Bd.pre w (List.mem_cons_of_mem _ h)
  have hown : s.vm.findClass RX11 = some m.cls := findClass_of_methodNamed Bd.named
  have hlocks := Bd.notSynchronized
  subst hsz
  have hD := hD0.self (sz := s.heap.size)
  generalize hAe : va_A [(h0, .inr (11, [.ref st, .int (nI N), .int (nI B), .ref rp, .int vrs, .int vrb, .int vhs, .int vca, .int vxs, .int vxb, .ref tp, .int (nI T), .int vfa, .int vbr, .int vba, .int vsp, .int vhe, .int vtk, .int vva, .ref cu, .ref lt, .ref od, .ref th, .ref be, .ref ln, .int (nI S), .ref ma, .int (nI M), .ref ah, .ref bh, .ref ik, .ref la, .ref lg, .ref ce, .int vto])), (st, .inl (G 0, 196, .inl fst))] s.heap.size = A at hD ⊢
  have hA : ∀ q : Nat, s.heap.size ≤ q → A q := fun q h => by rw [← hAe]; exact Or.inr h
  have hS : va_S A s.heap s.heap [] := va_S.rf
  have hl := lv_entry ([.ref h0, .int i, .int v]) (n := 3) (Nat.le_of_ble_eq_true rfl)
  rw [lg_entry_eq]
  generalize (lg_sl ([.ref h0, .int i, .int v]) ++ List.replicate (3 - (lg_sl ([.ref h0, .int i, .int v])).length) Slot.unset).toArray = ls at hl ⊢
  have hl : lv_has ls 3 [(0, .ref h0), (1, .int i), (2, .int v)] := hl
  refine lv_aload_n hx hb dX11_puts_0 rfl (lv_at hl 0 rfl) ?_
  refine lv_aload_n hx hb dX11_puts_1 rfl (lv_at hl 0 rfl) ?_
  refine lv_iload_n hx hb dX11_puts_2 rfl (lv_at hl 1 rfl) ?_
  have hPc := hP.sub (ws' := [(h0, .inr (11, [.ref st, .int (nI N), .int (nI B), .ref rp, .int vrs, .int vrb, .int vhs, .int vca, .int vxs, .int vxb, .ref tp, .int (nI T), .int vfa, .int vbr, .int vba, .int vsp, .int vhe, .int vtk, .int vva, .ref cu, .ref lt, .ref od, .ref th, .ref be, .ref ln, .int (nI S), .ref ma, .int (nI M), .ref ah, .ref bh, .ref ik, .ref la, .ref lg, .ref ce, .int vto]))]) [0] rfl
  refine va_calli (va_runV (As := [.int i]) (rest := [.ref h0]) ⟨hx, hb, hml, hown, hg⟩ (c_X11_isStretch l dC dI G _ h0 st N B rp tp T cu lt od th be ln S ma M ah bh ik la lg ce i vrs vrb vhs vca vxs vxb vfa vbr vba vsp vhe vtk vva vto (by have t_n0 : (nI N).toInt = (N : Int) := nI_toInt (by omega); have t_n1 : (nI B).toInt = (B : Int) := nI_toInt (by omega); have t_n2 : (nI T).toInt = (T : Int) := nI_toInt (by omega); have t_n3 : (nI S).toInt = (S : Int) := nI_toInt (by omega); have t_n4 : (nI M).toInt = (M : Int) := nI_toInt (by omega); omega) (by have t_n0 : (nI N).toInt = (N : Int) := nI_toInt (by omega); have t_n1 : (nI B).toInt = (B : Int) := nI_toInt (by omega); have t_n2 : (nI T).toInt = (T : Int) := nI_toInt (by omega); have t_n3 : (nI S).toInt = (S : Int) := nI_toInt (by omega); have t_n4 : (nI M).toInt = (M : Int) := nI_toInt (by omega); omega) (by have t_n0 : (nI N).toInt = (N : Int) := nI_toInt (by omega); have t_n1 : (nI B).toInt = (B : Int) := nI_toInt (by omega); have t_n2 : (nI T).toInt = (T : Int) := nI_toInt (by omega); have t_n3 : (nI S).toInt = (S : Int) := nI_toInt (by omega); have t_n4 : (nI M).toInt = (M : Int) := nI_toInt (by omega); omega) (by have t_n0 : (nI N).toInt = (N : Int) := nI_toInt (by omega); have t_n1 : (nI B).toInt = (B : Int) := nI_toInt (by omega); have t_n2 : (nI T).toInt = (T : Int) := nI_toInt (by omega); have t_n3 : (nI S).toInt = (S : Int) := nI_toInt (by omega); have t_n4 : (nI M).toInt = (M : Int) := nI_toInt (by omega); omega) (by have t_n0 : (nI N).toInt = (N : Int) := nI_toInt (by omega); have t_n1 : (nI B).toInt = (B : Int) := nI_toInt (by omega); have t_n2 : (nI T).toInt = (T : Int) := nI_toInt (by omega); have t_n3 : (nI S).toInt = (S : Int) := nI_toInt (by omega); have t_n4 : (nI M).toInt = (M : Int) := nI_toInt (by omega); omega)) (kwV hg mfX11_isStretch wt_1052 ⟨Nat.le_of_ble_eq_true rfl, Nat.le_of_ble_eq_true rfl⟩) (preVR hK hPc (ci := 11) rfl rfl) rfl rfl hl.1 rfl (lv_room (Nat.le_of_ble_eq_true rfl)) dX11_puts_3 ⟨Nat.le_of_ble_eq_true rfl, Nat.le_of_ble_eq_true rfl⟩) hS (fun q h1 h2 => absurd h2 (Nat.not_le.mpr h1)) (fun q h => hA q (Nat.le_trans hS.1 h)) (fun r1 ur1 t H1 locs ht hvm w2 hB hz1 hk1 hS => ?_)
  have hP := keepR hP hk1
  obtain ⟨w2, w2x⟩ := w2
  try simp only [l_ii, show (0 : Int32).toInt = 0 from by decide] at w2
  try rw [nI_toInt (n := N) (by omega)] at w2
  subst w2
  refine lv_if_eq (tgt := 21) hx hb dX11_puts_6 (by decide) (fun c3 => ?_) (fun c3 => ?_)
  · skip
    have b4 := if10_n c3
    refine lv_iconst (v := 0) hx hb dX11_puts_21 (by decide) ?_
    refine lv_bipush (v := 38) hx hb dX11_puts_22 (by decide) ?_
    refine lv_iload_n hx hb dX11_puts_24 rfl (lv_at hl 1 rfl) ?_
    refine lv_iadd hx hb dX11_puts_25 ?_
    refine lv_iload_n hx hb dX11_puts_26 rfl (lv_at hl 2 rfl) ?_
    have hPc := hP.sub (ws' := [(h0, .inr (11, [.ref st, .int (nI N), .int (nI B), .ref rp, .int vrs, .int vrb, .int vhs, .int vca, .int vxs, .int vxb, .ref tp, .int (nI T), .int vfa, .int vbr, .int vba, .int vsp, .int vhe, .int vtk, .int vva, .ref cu, .ref lt, .ref od, .ref th, .ref be, .ref ln, .int (nI S), .ref ma, .int (nI M), .ref ah, .ref bh, .ref ik, .ref la, .ref lg, .ref ce, .int vto])), (st, .inl (G 0, 196, .inl fst))]) [0, 1] rfl
    have hDc := hD.sub (ws' := [(h0, .inr (11, [.ref st, .int (nI N), .int (nI B), .ref rp, .int vrs, .int vrb, .int vhs, .int vca, .int vxs, .int vxb, .ref tp, .int (nI T), .int vfa, .int vbr, .int vba, .int vsp, .int vhe, .int vtk, .int vva, .ref cu, .ref lt, .ref od, .ref th, .ref be, .ref ln, .int (nI S), .ref ma, .int (nI M), .ref ah, .ref bh, .ref ik, .ref la, .ref lg, .ref ce, .int vto])), (st, .inl (G 0, 196, .inl fst))]) [0, 1] (by decide) rfl
    have hFc := va_free (wc := [(h0, .inr (11, [.ref st, .int (nI N), .int (nI B), .ref rp, .int vrs, .int vrb, .int vhs, .int vca, .int vxs, .int vxb, .ref tp, .int (nI T), .int vfa, .int vbr, .int vba, .int vsp, .int vhe, .int vtk, .int vva, .ref cu, .ref lt, .ref od, .ref th, .ref be, .ref ln, .int (nI S), .ref ma, .int (nI M), .ref ah, .ref bh, .ref ik, .ref la, .ref lg, .ref ce, .int vto])), (st, .inl (G 0, 196, .inl fst))]) hD hS hA [0, 1] rfl
    refine va_calli (va_runV (As := [.int 0, .int (38 + i), .int v]) (rest := []) ⟨hx, hb, hml, hown, hg⟩ (c_X11_sets0 l dC dI G _ h0 st N B rp tp T cu lt od th be ln S ma M ah bh ik la lg ce (38 + i) v vrs vrb vhs vca vxs vxb vfa vbr vba vsp vhe vtk vva vto fst (by have t_b4 := b4; have t_n0 : (nI N).toInt = (N : Int) := nI_toInt (by omega); have t_n1 : (nI B).toInt = (B : Int) := nI_toInt (by omega); have t_n2 : (nI T).toInt = (T : Int) := nI_toInt (by omega); have t_n3 : (nI S).toInt = (S : Int) := nI_toInt (by omega); have t_n4 : (nI M).toInt = (M : Int) := nI_toInt (by omega); omega) (by have t_b4 := b4; have t_n0 : (nI N).toInt = (N : Int) := nI_toInt (by omega); have t_n1 : (nI B).toInt = (B : Int) := nI_toInt (by omega); have t_n2 : (nI T).toInt = (T : Int) := nI_toInt (by omega); have t_n3 : (nI S).toInt = (S : Int) := nI_toInt (by omega); have t_n4 : (nI M).toInt = (M : Int) := nI_toInt (by omega); omega) (by have t_b4 := b4; have t_n0 : (nI N).toInt = (N : Int) := nI_toInt (by omega); have t_n1 : (nI B).toInt = (B : Int) := nI_toInt (by omega); have t_n2 : (nI T).toInt = (T : Int) := nI_toInt (by omega); have t_n3 : (nI S).toInt = (S : Int) := nI_toInt (by omega); have t_n4 : (nI M).toInt = (M : Int) := nI_toInt (by omega); omega) (by have t_b4 := b4; have t_n0 : (nI N).toInt = (N : Int) := nI_toInt (by omega); have t_n1 : (nI B).toInt = (B : Int) := nI_toInt (by omega); have t_n2 : (nI T).toInt = (T : Int) := nI_toInt (by omega); have t_n3 : (nI S).toInt = (S : Int) := nI_toInt (by omega); have t_n4 : (nI M).toInt = (M : Int) := nI_toInt (by omega); omega) (by have t_b4 := b4; have t_n0 : (nI N).toInt = (N : Int) := nI_toInt (by omega); have t_n1 : (nI B).toInt = (B : Int) := nI_toInt (by omega); have t_n2 : (nI T).toInt = (T : Int) := nI_toInt (by omega); have t_n3 : (nI S).toInt = (S : Int) := nI_toInt (by omega); have t_n4 : (nI M).toInt = (M : Int) := nI_toInt (by omega); omega) hst) (kwV hg mfX11_sets wt_1070 ⟨Nat.le_of_ble_eq_true rfl, Nat.le_of_ble_eq_true rfl⟩) (preVW hK hPc hDc (ci := 11) rfl rfl) rfl rfl hl.1 rfl (lv_room (Nat.le_of_ble_eq_true rfl)) dX11_puts_27 ⟨Nat.le_of_ble_eq_true rfl, Nat.le_of_ble_eq_true rfl⟩) hS (fun q _ h => hFc q h) hFc (fun r5 ur5 t H1 locs ht hvm w6 hB hz1 hk1 hS => ?_)
    obtain ⟨u7, rfl⟩ : ∃ z, z = ur5 := ⟨_, rfl⟩
    obtain ⟨hP1, hD1⟩ := hB
    rw [ht] at hP1
    obtain ⟨hP, hD⟩ := va_join (wr := []) (w1 := [(h0, .inr (11, [.ref st, .int (nI N), .int (nI B), .ref rp, .int vrs, .int vrb, .int vhs, .int vca, .int vxs, .int vxb, .ref tp, .int (nI T), .int vfa, .int vbr, .int vba, .int vsp, .int vhe, .int vtk, .int vva, .ref cu, .ref lt, .ref od, .ref th, .ref be, .ref ln, .int (nI S), .ref ma, .int (nI M), .ref ah, .ref bh, .ref ik, .ref la, .ref lg, .ref ce, .int vto])), (st, .inl (G 0, 196, .inl u7))]) hP hD [0, 1] [] rfl rfl (by decide) (by decide) hk1 hFc hP1 hD1
    generalize H1 = H at hP hS ⊢
    have hP : va_P (dC, dI) vwCl [(h0, .inr (11, [.ref st, .int (nI N), .int (nI B), .ref rp, .int vrs, .int vrb, .int vhs, .int vca, .int vxs, .int vxb, .ref tp, .int (nI T), .int vfa, .int vbr, .int vba, .int vsp, .int vhe, .int vtk, .int vva, .ref cu, .ref lt, .ref od, .ref th, .ref be, .ref ln, .int (nI S), .ref ma, .int (nI M), .ref ah, .ref bh, .ref ik, .ref la, .ref lg, .ref ce, .int vto])), (st, .inl (G 0, 196, .inl u7))] H := hP
    have hD : va_D A [(h0, .inr (11, [.ref st, .int (nI N), .int (nI B), .ref rp, .int vrs, .int vrb, .int vhs, .int vca, .int vxs, .int vxb, .ref tp, .int (nI T), .int vfa, .int vbr, .int vba, .int vsp, .int vhe, .int vtk, .int vva, .ref cu, .ref lt, .ref od, .ref th, .ref be, .ref ln, .int (nI S), .ref ma, .int (nI M), .ref ah, .ref bh, .ref ik, .ref la, .ref lg, .ref ce, .int vto])), (st, .inl (G 0, 196, .inl u7))] := hD
    obtain ⟨w6, w6x⟩ := w6
    have hpost : True := by
      trivial
    have hP9 := hP.sub (ws' := [(h0, .inr (11, [.ref st, .int (nI N), .int (nI B), .ref rp, .int vrs, .int vrb, .int vhs, .int vca, .int vxs, .int vxb, .ref tp, .int (nI T), .int vfa, .int vbr, .int vba, .int vsp, .int vhe, .int vtk, .int vva, .ref cu, .ref lt, .ref od, .ref th, .ref be, .ref ln, .int (nI S), .ref ma, .int (nI M), .ref ah, .ref bh, .ref ik, .ref la, .ref lg, .ref ce, .int vto])), (st, .inl (G 0, 196, .inl u7))]) [0, 1] rfl
    have hD9 := hD.sub (ws' := [(h0, .inr (11, [.ref st, .int (nI N), .int (nI B), .ref rp, .int vrs, .int vrb, .int vhs, .int vca, .int vxs, .int vxb, .ref tp, .int (nI T), .int vfa, .int vbr, .int vba, .int vsp, .int vhe, .int vtk, .int vva, .ref cu, .ref lt, .ref od, .ref th, .ref be, .ref ln, .int (nI S), .ref ma, .int (nI M), .ref ah, .ref bh, .ref ik, .ref la, .ref lg, .ref ce, .int vto])), (st, .inl (G 0, 196, .inl u7))]) [0, 1] (by decide) rfl
    refine W.widen (k := 0) (n := 0) (by omega) (by omega) ?_
    exact W.iret (v := r5) hx hb hr (fun t ht hW => ⟨⟨r5, u7, rfl, ⟨hpost, w6x⟩, ⟨by rw [ht]; exact hP9, hD9⟩⟩, hS.F ht⟩) hS.2.2 dX11_puts_30
  · skip
    have b8 := if10_p c3
    refine lv_aload_n hx hb dX11_puts_9 rfl (lv_at hl 0 rfl) ?_
    refine lv_iload_n hx hb dX11_puts_10 rfl (lv_at hl 2 rfl) ?_
    have hPc := hP.sub (ws' := [(h0, .inr (11, [.ref st, .int (nI N), .int (nI B), .ref rp, .int vrs, .int vrb, .int vhs, .int vca, .int vxs, .int vxb, .ref tp, .int (nI T), .int vfa, .int vbr, .int vba, .int vsp, .int vhe, .int vtk, .int vva, .ref cu, .ref lt, .ref od, .ref th, .ref be, .ref ln, .int (nI S), .ref ma, .int (nI M), .ref ah, .ref bh, .ref ik, .ref la, .ref lg, .ref ce, .int vto]))]) [0] rfl
    refine va_calli (va_runV (As := [.int v]) (rest := [.ref h0]) ⟨hx, hb, hml, hown, hg⟩ (c_X11_isBearer l dC dI G _ h0 st N B rp tp T cu lt od th be ln S ma M ah bh ik la lg ce v vrs vrb vhs vca vxs vxb vfa vbr vba vsp vhe vtk vva vto (by have t_b8 := b8; have t_n0 : (nI N).toInt = (N : Int) := nI_toInt (by omega); have t_n1 : (nI B).toInt = (B : Int) := nI_toInt (by omega); have t_n2 : (nI T).toInt = (T : Int) := nI_toInt (by omega); have t_n3 : (nI S).toInt = (S : Int) := nI_toInt (by omega); have t_n4 : (nI M).toInt = (M : Int) := nI_toInt (by omega); omega) (by have t_b8 := b8; have t_n0 : (nI N).toInt = (N : Int) := nI_toInt (by omega); have t_n1 : (nI B).toInt = (B : Int) := nI_toInt (by omega); have t_n2 : (nI T).toInt = (T : Int) := nI_toInt (by omega); have t_n3 : (nI S).toInt = (S : Int) := nI_toInt (by omega); have t_n4 : (nI M).toInt = (M : Int) := nI_toInt (by omega); omega) (by have t_b8 := b8; have t_n0 : (nI N).toInt = (N : Int) := nI_toInt (by omega); have t_n1 : (nI B).toInt = (B : Int) := nI_toInt (by omega); have t_n2 : (nI T).toInt = (T : Int) := nI_toInt (by omega); have t_n3 : (nI S).toInt = (S : Int) := nI_toInt (by omega); have t_n4 : (nI M).toInt = (M : Int) := nI_toInt (by omega); omega) (by have t_b8 := b8; have t_n0 : (nI N).toInt = (N : Int) := nI_toInt (by omega); have t_n1 : (nI B).toInt = (B : Int) := nI_toInt (by omega); have t_n2 : (nI T).toInt = (T : Int) := nI_toInt (by omega); have t_n3 : (nI S).toInt = (S : Int) := nI_toInt (by omega); have t_n4 : (nI M).toInt = (M : Int) := nI_toInt (by omega); omega) (by have t_b8 := b8; have t_n0 : (nI N).toInt = (N : Int) := nI_toInt (by omega); have t_n1 : (nI B).toInt = (B : Int) := nI_toInt (by omega); have t_n2 : (nI T).toInt = (T : Int) := nI_toInt (by omega); have t_n3 : (nI S).toInt = (S : Int) := nI_toInt (by omega); have t_n4 : (nI M).toInt = (M : Int) := nI_toInt (by omega); omega)) (kwV hg mfX11_isBearer wt_1061 ⟨Nat.le_of_ble_eq_true rfl, Nat.le_of_ble_eq_true rfl⟩) (preVR hK hPc (ci := 11) rfl rfl) rfl rfl hl.1 rfl (lv_room (Nat.le_of_ble_eq_true rfl)) dX11_puts_11 ⟨Nat.le_of_ble_eq_true rfl, Nat.le_of_ble_eq_true rfl⟩) hS (fun q h1 h2 => absurd h2 (Nat.not_le.mpr h1)) (fun q h => hA q (Nat.le_trans hS.1 h)) (fun r9 ur9 t H1 locs ht hvm w10 hB hz1 hk1 hS => ?_)
    have hP := keepR hP hk1
    obtain ⟨w10, w10x⟩ := w10
    try simp only [l_ii, show (0 : Int32).toInt = 0 from by decide] at w10
    try rw [nI_toInt (n := B) (by omega)] at w10
    subst w10
    refine lv_if_eq (tgt := 21) hx hb dX11_puts_14 (by decide) (fun c11 => ?_) (fun c11 => ?_)
    · skip
      have b12 := if10_n c11
      refine lv_iconst (v := 0) hx hb dX11_puts_21 (by decide) ?_
      refine lv_bipush (v := 38) hx hb dX11_puts_22 (by decide) ?_
      refine lv_iload_n hx hb dX11_puts_24 rfl (lv_at hl 1 rfl) ?_
      refine lv_iadd hx hb dX11_puts_25 ?_
      refine lv_iload_n hx hb dX11_puts_26 rfl (lv_at hl 2 rfl) ?_
      have hPc := hP.sub (ws' := [(h0, .inr (11, [.ref st, .int (nI N), .int (nI B), .ref rp, .int vrs, .int vrb, .int vhs, .int vca, .int vxs, .int vxb, .ref tp, .int (nI T), .int vfa, .int vbr, .int vba, .int vsp, .int vhe, .int vtk, .int vva, .ref cu, .ref lt, .ref od, .ref th, .ref be, .ref ln, .int (nI S), .ref ma, .int (nI M), .ref ah, .ref bh, .ref ik, .ref la, .ref lg, .ref ce, .int vto])), (st, .inl (G 0, 196, .inl fst))]) [0, 1] rfl
      have hDc := hD.sub (ws' := [(h0, .inr (11, [.ref st, .int (nI N), .int (nI B), .ref rp, .int vrs, .int vrb, .int vhs, .int vca, .int vxs, .int vxb, .ref tp, .int (nI T), .int vfa, .int vbr, .int vba, .int vsp, .int vhe, .int vtk, .int vva, .ref cu, .ref lt, .ref od, .ref th, .ref be, .ref ln, .int (nI S), .ref ma, .int (nI M), .ref ah, .ref bh, .ref ik, .ref la, .ref lg, .ref ce, .int vto])), (st, .inl (G 0, 196, .inl fst))]) [0, 1] (by decide) rfl
      have hFc := va_free (wc := [(h0, .inr (11, [.ref st, .int (nI N), .int (nI B), .ref rp, .int vrs, .int vrb, .int vhs, .int vca, .int vxs, .int vxb, .ref tp, .int (nI T), .int vfa, .int vbr, .int vba, .int vsp, .int vhe, .int vtk, .int vva, .ref cu, .ref lt, .ref od, .ref th, .ref be, .ref ln, .int (nI S), .ref ma, .int (nI M), .ref ah, .ref bh, .ref ik, .ref la, .ref lg, .ref ce, .int vto])), (st, .inl (G 0, 196, .inl fst))]) hD hS hA [0, 1] rfl
      refine va_calli (va_runV (As := [.int 0, .int (38 + i), .int v]) (rest := []) ⟨hx, hb, hml, hown, hg⟩ (c_X11_sets0 l dC dI G _ h0 st N B rp tp T cu lt od th be ln S ma M ah bh ik la lg ce (38 + i) v vrs vrb vhs vca vxs vxb vfa vbr vba vsp vhe vtk vva vto fst (by have t_b8 := b8; have t_b12 := b12; have t_n0 : (nI N).toInt = (N : Int) := nI_toInt (by omega); have t_n1 : (nI B).toInt = (B : Int) := nI_toInt (by omega); have t_n2 : (nI T).toInt = (T : Int) := nI_toInt (by omega); have t_n3 : (nI S).toInt = (S : Int) := nI_toInt (by omega); have t_n4 : (nI M).toInt = (M : Int) := nI_toInt (by omega); omega) (by have t_b8 := b8; have t_b12 := b12; have t_n0 : (nI N).toInt = (N : Int) := nI_toInt (by omega); have t_n1 : (nI B).toInt = (B : Int) := nI_toInt (by omega); have t_n2 : (nI T).toInt = (T : Int) := nI_toInt (by omega); have t_n3 : (nI S).toInt = (S : Int) := nI_toInt (by omega); have t_n4 : (nI M).toInt = (M : Int) := nI_toInt (by omega); omega) (by have t_b8 := b8; have t_b12 := b12; have t_n0 : (nI N).toInt = (N : Int) := nI_toInt (by omega); have t_n1 : (nI B).toInt = (B : Int) := nI_toInt (by omega); have t_n2 : (nI T).toInt = (T : Int) := nI_toInt (by omega); have t_n3 : (nI S).toInt = (S : Int) := nI_toInt (by omega); have t_n4 : (nI M).toInt = (M : Int) := nI_toInt (by omega); omega) (by have t_b8 := b8; have t_b12 := b12; have t_n0 : (nI N).toInt = (N : Int) := nI_toInt (by omega); have t_n1 : (nI B).toInt = (B : Int) := nI_toInt (by omega); have t_n2 : (nI T).toInt = (T : Int) := nI_toInt (by omega); have t_n3 : (nI S).toInt = (S : Int) := nI_toInt (by omega); have t_n4 : (nI M).toInt = (M : Int) := nI_toInt (by omega); omega) (by have t_b8 := b8; have t_b12 := b12; have t_n0 : (nI N).toInt = (N : Int) := nI_toInt (by omega); have t_n1 : (nI B).toInt = (B : Int) := nI_toInt (by omega); have t_n2 : (nI T).toInt = (T : Int) := nI_toInt (by omega); have t_n3 : (nI S).toInt = (S : Int) := nI_toInt (by omega); have t_n4 : (nI M).toInt = (M : Int) := nI_toInt (by omega); omega) hst) (kwV hg mfX11_sets wt_1070 ⟨Nat.le_of_ble_eq_true rfl, Nat.le_of_ble_eq_true rfl⟩) (preVW hK hPc hDc (ci := 11) rfl rfl) rfl rfl hl.1 rfl (lv_room (Nat.le_of_ble_eq_true rfl)) dX11_puts_27 ⟨Nat.le_of_ble_eq_true rfl, Nat.le_of_ble_eq_true rfl⟩) hS (fun q _ h => hFc q h) hFc (fun r13 ur13 t H1 locs ht hvm w14 hB hz1 hk1 hS => ?_)
      obtain ⟨u15, rfl⟩ : ∃ z, z = ur13 := ⟨_, rfl⟩
      obtain ⟨hP1, hD1⟩ := hB
      rw [ht] at hP1
      obtain ⟨hP, hD⟩ := va_join (wr := []) (w1 := [(h0, .inr (11, [.ref st, .int (nI N), .int (nI B), .ref rp, .int vrs, .int vrb, .int vhs, .int vca, .int vxs, .int vxb, .ref tp, .int (nI T), .int vfa, .int vbr, .int vba, .int vsp, .int vhe, .int vtk, .int vva, .ref cu, .ref lt, .ref od, .ref th, .ref be, .ref ln, .int (nI S), .ref ma, .int (nI M), .ref ah, .ref bh, .ref ik, .ref la, .ref lg, .ref ce, .int vto])), (st, .inl (G 0, 196, .inl u15))]) hP hD [0, 1] [] rfl rfl (by decide) (by decide) hk1 hFc hP1 hD1
      generalize H1 = H at hP hS ⊢
      have hP : va_P (dC, dI) vwCl [(h0, .inr (11, [.ref st, .int (nI N), .int (nI B), .ref rp, .int vrs, .int vrb, .int vhs, .int vca, .int vxs, .int vxb, .ref tp, .int (nI T), .int vfa, .int vbr, .int vba, .int vsp, .int vhe, .int vtk, .int vva, .ref cu, .ref lt, .ref od, .ref th, .ref be, .ref ln, .int (nI S), .ref ma, .int (nI M), .ref ah, .ref bh, .ref ik, .ref la, .ref lg, .ref ce, .int vto])), (st, .inl (G 0, 196, .inl u15))] H := hP
      have hD : va_D A [(h0, .inr (11, [.ref st, .int (nI N), .int (nI B), .ref rp, .int vrs, .int vrb, .int vhs, .int vca, .int vxs, .int vxb, .ref tp, .int (nI T), .int vfa, .int vbr, .int vba, .int vsp, .int vhe, .int vtk, .int vva, .ref cu, .ref lt, .ref od, .ref th, .ref be, .ref ln, .int (nI S), .ref ma, .int (nI M), .ref ah, .ref bh, .ref ik, .ref la, .ref lg, .ref ce, .int vto])), (st, .inl (G 0, 196, .inl u15))] := hD
      obtain ⟨w14, w14x⟩ := w14
      have hpost : True := by
        trivial
      have hP9 := hP.sub (ws' := [(h0, .inr (11, [.ref st, .int (nI N), .int (nI B), .ref rp, .int vrs, .int vrb, .int vhs, .int vca, .int vxs, .int vxb, .ref tp, .int (nI T), .int vfa, .int vbr, .int vba, .int vsp, .int vhe, .int vtk, .int vva, .ref cu, .ref lt, .ref od, .ref th, .ref be, .ref ln, .int (nI S), .ref ma, .int (nI M), .ref ah, .ref bh, .ref ik, .ref la, .ref lg, .ref ce, .int vto])), (st, .inl (G 0, 196, .inl u15))]) [0, 1] rfl
      have hD9 := hD.sub (ws' := [(h0, .inr (11, [.ref st, .int (nI N), .int (nI B), .ref rp, .int vrs, .int vrb, .int vhs, .int vca, .int vxs, .int vxb, .ref tp, .int (nI T), .int vfa, .int vbr, .int vba, .int vsp, .int vhe, .int vtk, .int vva, .ref cu, .ref lt, .ref od, .ref th, .ref be, .ref ln, .int (nI S), .ref ma, .int (nI M), .ref ah, .ref bh, .ref ik, .ref la, .ref lg, .ref ce, .int vto])), (st, .inl (G 0, 196, .inl u15))]) [0, 1] (by decide) rfl
      refine W.widen (k := 0) (n := 0) (by omega) (by omega) ?_
      exact W.iret (v := r13) hx hb hr (fun t ht hW => ⟨⟨r13, u15, rfl, ⟨hpost, w14x⟩, ⟨by rw [ht]; exact hP9, hD9⟩⟩, hS.F ht⟩) hS.2.2 dX11_puts_30
    · skip
      have b16 := if10_p c11
      obtain ⟨ii, hii, rfl⟩ : ∃ j : Nat, j < 10 ∧ i = nI j := by
        have t_b8 := b8
        have t_b16 := b16
        have t_n0 : (nI N).toInt = (N : Int) := nI_toInt (by omega)
        have t_n1 : (nI B).toInt = (B : Int) := nI_toInt (by omega)
        have t_n2 : (nI T).toInt = (T : Int) := nI_toInt (by omega)
        have t_n3 : (nI S).toInt = (S : Int) := nI_toInt (by omega)
        have t_n4 : (nI M).toInt = (M : Int) := nI_toInt (by omega)
        exact i32_nat (by omega) (by omega)
      refine lv_iconst (v := 1) hx hb dX11_puts_17 (by decide) ?_
      refine lv_goto (tgt := 22) hx hb dX11_puts_18 (by decide) ?_
      refine lv_bipush (v := 38) hx hb dX11_puts_22 (by decide) ?_
      refine lv_iload_n hx hb dX11_puts_24 rfl (lv_at hl 1 rfl) ?_
      refine lv_iadd hx hb dX11_puts_25 ?_
      refine lv_cg (y := nI (38 + ii)) (by rw [show (38 : Int32) = nI 38 from rfl]; exact nI_add _ _) ?_
      refine lv_iload_n hx hb dX11_puts_26 rfl (lv_at hl 2 rfl) ?_
      have hPc := hP.sub (ws' := [(h0, .inr (11, [.ref st, .int (nI N), .int (nI B), .ref rp, .int vrs, .int vrb, .int vhs, .int vca, .int vxs, .int vxb, .ref tp, .int (nI T), .int vfa, .int vbr, .int vba, .int vsp, .int vhe, .int vtk, .int vva, .ref cu, .ref lt, .ref od, .ref th, .ref be, .ref ln, .int (nI S), .ref ma, .int (nI M), .ref ah, .ref bh, .ref ik, .ref la, .ref lg, .ref ce, .int vto])), (st, .inl (G 0, 196, .inl fst))]) [0, 1] rfl
      have hDc := hD.sub (ws' := [(h0, .inr (11, [.ref st, .int (nI N), .int (nI B), .ref rp, .int vrs, .int vrb, .int vhs, .int vca, .int vxs, .int vxb, .ref tp, .int (nI T), .int vfa, .int vbr, .int vba, .int vsp, .int vhe, .int vtk, .int vva, .ref cu, .ref lt, .ref od, .ref th, .ref be, .ref ln, .int (nI S), .ref ma, .int (nI M), .ref ah, .ref bh, .ref ik, .ref la, .ref lg, .ref ce, .int vto])), (st, .inl (G 0, 196, .inl fst))]) [0, 1] (by decide) rfl
      have hFc := va_free (wc := [(h0, .inr (11, [.ref st, .int (nI N), .int (nI B), .ref rp, .int vrs, .int vrb, .int vhs, .int vca, .int vxs, .int vxb, .ref tp, .int (nI T), .int vfa, .int vbr, .int vba, .int vsp, .int vhe, .int vtk, .int vva, .ref cu, .ref lt, .ref od, .ref th, .ref be, .ref ln, .int (nI S), .ref ma, .int (nI M), .ref ah, .ref bh, .ref ik, .ref la, .ref lg, .ref ce, .int vto])), (st, .inl (G 0, 196, .inl fst))]) hD hS hA [0, 1] rfl
      refine va_calli (va_runV (As := [.int 1, .int (nI (38 + ii)), .int v]) (rest := []) ⟨hx, hb, hml, hown, hg⟩ (c_X11_sets1 l dC dI G _ h0 (38 + ii) st N B rp tp T cu lt od th be ln S ma M ah bh ik la lg ce v vrs vrb vhs vca vxs vxb vfa vbr vba vsp vhe vtk vva vto fst (by have t_b8 := b8; have t_b16 := b16; have t_hii := hii; have t_n0 : (nI N).toInt = (N : Int) := nI_toInt (by omega); have t_n1 : (nI B).toInt = (B : Int) := nI_toInt (by omega); have t_n2 : (nI T).toInt = (T : Int) := nI_toInt (by omega); have t_n3 : (nI S).toInt = (S : Int) := nI_toInt (by omega); have t_n4 : (nI M).toInt = (M : Int) := nI_toInt (by omega); have t_n5 : (nI ii).toInt = (ii : Int) := nI_toInt (by omega); omega) (by have t_b8 := b8; have t_b16 := b16; have t_hii := hii; have t_n0 : (nI N).toInt = (N : Int) := nI_toInt (by omega); have t_n1 : (nI B).toInt = (B : Int) := nI_toInt (by omega); have t_n2 : (nI T).toInt = (T : Int) := nI_toInt (by omega); have t_n3 : (nI S).toInt = (S : Int) := nI_toInt (by omega); have t_n4 : (nI M).toInt = (M : Int) := nI_toInt (by omega); have t_n5 : (nI ii).toInt = (ii : Int) := nI_toInt (by omega); omega) (by have t_b8 := b8; have t_b16 := b16; have t_hii := hii; have t_n0 : (nI N).toInt = (N : Int) := nI_toInt (by omega); have t_n1 : (nI B).toInt = (B : Int) := nI_toInt (by omega); have t_n2 : (nI T).toInt = (T : Int) := nI_toInt (by omega); have t_n3 : (nI S).toInt = (S : Int) := nI_toInt (by omega); have t_n4 : (nI M).toInt = (M : Int) := nI_toInt (by omega); have t_n5 : (nI ii).toInt = (ii : Int) := nI_toInt (by omega); omega) (by have t_b8 := b8; have t_b16 := b16; have t_hii := hii; have t_n0 : (nI N).toInt = (N : Int) := nI_toInt (by omega); have t_n1 : (nI B).toInt = (B : Int) := nI_toInt (by omega); have t_n2 : (nI T).toInt = (T : Int) := nI_toInt (by omega); have t_n3 : (nI S).toInt = (S : Int) := nI_toInt (by omega); have t_n4 : (nI M).toInt = (M : Int) := nI_toInt (by omega); have t_n5 : (nI ii).toInt = (ii : Int) := nI_toInt (by omega); omega) (by have t_b8 := b8; have t_b16 := b16; have t_hii := hii; have t_n0 : (nI N).toInt = (N : Int) := nI_toInt (by omega); have t_n1 : (nI B).toInt = (B : Int) := nI_toInt (by omega); have t_n2 : (nI T).toInt = (T : Int) := nI_toInt (by omega); have t_n3 : (nI S).toInt = (S : Int) := nI_toInt (by omega); have t_n4 : (nI M).toInt = (M : Int) := nI_toInt (by omega); have t_n5 : (nI ii).toInt = (ii : Int) := nI_toInt (by omega); omega) hst (by have t_b8 := b8; have t_b16 := b16; have t_hii := hii; have t_n0 : (nI N).toInt = (N : Int) := nI_toInt (by omega); have t_n1 : (nI B).toInt = (B : Int) := nI_toInt (by omega); have t_n2 : (nI T).toInt = (T : Int) := nI_toInt (by omega); have t_n3 : (nI S).toInt = (S : Int) := nI_toInt (by omega); have t_n4 : (nI M).toInt = (M : Int) := nI_toInt (by omega); have t_n5 : (nI ii).toInt = (ii : Int) := nI_toInt (by omega); omega) (okS_or (by have t_b8 := b8; have t_b16 := b16; have t_hii := hii; have t_n0 : (nI N).toInt = (N : Int) := nI_toInt (by omega); have t_n1 : (nI B).toInt = (B : Int) := nI_toInt (by omega); have t_n2 : (nI T).toInt = (T : Int) := nI_toInt (by omega); have t_n3 : (nI S).toInt = (S : Int) := nI_toInt (by omega); have t_n4 : (nI M).toInt = (M : Int) := nI_toInt (by omega); have t_n5 : (nI ii).toInt = (ii : Int) := nI_toInt (by omega); omega) (by have t_b8 := b8; have t_b16 := b16; have t_hii := hii; have t_n0 : (nI N).toInt = (N : Int) := nI_toInt (by omega); have t_n1 : (nI B).toInt = (B : Int) := nI_toInt (by omega); have t_n2 : (nI T).toInt = (T : Int) := nI_toInt (by omega); have t_n3 : (nI S).toInt = (S : Int) := nI_toInt (by omega); have t_n4 : (nI M).toInt = (M : Int) := nI_toInt (by omega); have t_n5 : (nI ii).toInt = (ii : Int) := nI_toInt (by omega); omega) (by have t_b8 := b8; have t_b16 := b16; have t_hii := hii; have t_n0 : (nI N).toInt = (N : Int) := nI_toInt (by omega); have t_n1 : (nI B).toInt = (B : Int) := nI_toInt (by omega); have t_n2 : (nI T).toInt = (T : Int) := nI_toInt (by omega); have t_n3 : (nI S).toInt = (S : Int) := nI_toInt (by omega); have t_n4 : (nI M).toInt = (M : Int) := nI_toInt (by omega); have t_n5 : (nI ii).toInt = (ii : Int) := nI_toInt (by omega); omega) (by have t_b8 := b8; have t_b16 := b16; have t_hii := hii; have t_n0 : (nI N).toInt = (N : Int) := nI_toInt (by omega); have t_n1 : (nI B).toInt = (B : Int) := nI_toInt (by omega); have t_n2 : (nI T).toInt = (T : Int) := nI_toInt (by omega); have t_n3 : (nI S).toInt = (S : Int) := nI_toInt (by omega); have t_n4 : (nI M).toInt = (M : Int) := nI_toInt (by omega); have t_n5 : (nI ii).toInt = (ii : Int) := nI_toInt (by omega); omega))) (kwV hg mfX11_sets wt_1070 ⟨Nat.le_of_ble_eq_true rfl, Nat.le_of_ble_eq_true rfl⟩) (preVW hK hPc hDc (ci := 11) rfl rfl) rfl rfl hl.1 rfl (lv_room (Nat.le_of_ble_eq_true rfl)) dX11_puts_27 ⟨Nat.le_of_ble_eq_true rfl, Nat.le_of_ble_eq_true rfl⟩) hS (fun q _ h => hFc q h) hFc (fun r17 ur17 t H1 locs ht hvm w18 hB hz1 hk1 hS => ?_)
      obtain ⟨u19, rfl⟩ : ∃ z, z = ur17 := ⟨_, rfl⟩
      obtain ⟨hP1, hD1⟩ := hB
      rw [ht] at hP1
      obtain ⟨hP, hD⟩ := va_join (wr := []) (w1 := [(h0, .inr (11, [.ref st, .int (nI N), .int (nI B), .ref rp, .int vrs, .int vrb, .int vhs, .int vca, .int vxs, .int vxb, .ref tp, .int (nI T), .int vfa, .int vbr, .int vba, .int vsp, .int vhe, .int vtk, .int vva, .ref cu, .ref lt, .ref od, .ref th, .ref be, .ref ln, .int (nI S), .ref ma, .int (nI M), .ref ah, .ref bh, .ref ik, .ref la, .ref lg, .ref ce, .int vto])), (st, .inl (G 0, 196, .inl u19))]) hP hD [0, 1] [] rfl rfl (by decide) (by decide) hk1 hFc hP1 hD1
      generalize H1 = H at hP hS ⊢
      have hP : va_P (dC, dI) vwCl [(h0, .inr (11, [.ref st, .int (nI N), .int (nI B), .ref rp, .int vrs, .int vrb, .int vhs, .int vca, .int vxs, .int vxb, .ref tp, .int (nI T), .int vfa, .int vbr, .int vba, .int vsp, .int vhe, .int vtk, .int vva, .ref cu, .ref lt, .ref od, .ref th, .ref be, .ref ln, .int (nI S), .ref ma, .int (nI M), .ref ah, .ref bh, .ref ik, .ref la, .ref lg, .ref ce, .int vto])), (st, .inl (G 0, 196, .inl u19))] H := hP
      have hD : va_D A [(h0, .inr (11, [.ref st, .int (nI N), .int (nI B), .ref rp, .int vrs, .int vrb, .int vhs, .int vca, .int vxs, .int vxb, .ref tp, .int (nI T), .int vfa, .int vbr, .int vba, .int vsp, .int vhe, .int vtk, .int vva, .ref cu, .ref lt, .ref od, .ref th, .ref be, .ref ln, .int (nI S), .ref ma, .int (nI M), .ref ah, .ref bh, .ref ik, .ref la, .ref lg, .ref ce, .int vto])), (st, .inl (G 0, 196, .inl u19))] := hD
      obtain ⟨w18, w18x⟩ := w18
      have hpost : True := by
        trivial
      have hP9 := hP.sub (ws' := [(h0, .inr (11, [.ref st, .int (nI N), .int (nI B), .ref rp, .int vrs, .int vrb, .int vhs, .int vca, .int vxs, .int vxb, .ref tp, .int (nI T), .int vfa, .int vbr, .int vba, .int vsp, .int vhe, .int vtk, .int vva, .ref cu, .ref lt, .ref od, .ref th, .ref be, .ref ln, .int (nI S), .ref ma, .int (nI M), .ref ah, .ref bh, .ref ik, .ref la, .ref lg, .ref ce, .int vto])), (st, .inl (G 0, 196, .inl u19))]) [0, 1] rfl
      have hD9 := hD.sub (ws' := [(h0, .inr (11, [.ref st, .int (nI N), .int (nI B), .ref rp, .int vrs, .int vrb, .int vhs, .int vca, .int vxs, .int vxb, .ref tp, .int (nI T), .int vfa, .int vbr, .int vba, .int vsp, .int vhe, .int vtk, .int vva, .ref cu, .ref lt, .ref od, .ref th, .ref be, .ref ln, .int (nI S), .ref ma, .int (nI M), .ref ah, .ref bh, .ref ik, .ref la, .ref lg, .ref ce, .int vto])), (st, .inl (G 0, 196, .inl u19))]) [0, 1] (by decide) rfl
      refine W.widen (k := 0) (n := 0) (by omega) (by omega) ?_
      exact W.iret (v := r17) hx hb hr (fun t ht hW => ⟨⟨r17, u19, rfl, ⟨hpost, w18x⟩, ⟨by rw [ht]; exact hP9, hD9⟩⟩, hS.F ht⟩) hS.2.2 dX11_puts_30

set_option maxHeartbeats 1000000 in
set_option maxRecDepth 100000 in
theorem c_X11_put (l : Launch) (dC : Nat → ClassId) (dI : Nat → Nat → Nat) (G : Nat → ClassId) (sz : Nat) (h0 st N B rp tp T cu lt od th be ln S ma M ah bh ik la lg ce : Nat) (i v vrs vrb vhs vca vxs vxb vfa vbr vba vsp vhe vtk vva vto : Int32) (fst : Nat → Int32) (hN : N ≤ 10) (hB : B ≤ 6) (hT : T ≤ 320) (hS0 : S ≤ 8) (hM : M ≤ 6) (hst : OKS fst) : Met l yX11_put (Cond.code yX11_put cX11_put 3 (some .int) :: GT) ({ frames := 3, cells := 0, slots := 0, locals := 68 } : Room) (PcW [.ref h0, .int i, .int v] dC dI G [(h0, .inr (11, [.ref st, .int (nI N), .int (nI B), .ref rp, .int vrs, .int vrb, .int vhs, .int vca, .int vxs, .int vxb, .ref tp, .int (nI T), .int vfa, .int vbr, .int vba, .int vsp, .int vhe, .int vtk, .int vva, .ref cu, .ref lt, .ref od, .ref th, .ref be, .ref ln, .int (nI S), .ref ma, .int (nI M), .ref ah, .ref bh, .ref ik, .ref la, .ref lg, .ref ce, .int vto])), (st, .inl (G 0, 196, .inl fst))] sz) (va_Qi (fun (r : Int32) (u : (Nat → Int32)) => match u with | ost => (True) ∧ OKS ost) (fun (u : (Nat → Int32)) (t : State) => match u with | ost => va_P (dC, dI) vwCl [(h0, .inr (11, [.ref st, .int (nI N), .int (nI B), .ref rp, .int vrs, .int vrb, .int vhs, .int vca, .int vxs, .int vxb, .ref tp, .int (nI T), .int vfa, .int vbr, .int vba, .int vsp, .int vhe, .int vtk, .int vva, .ref cu, .ref lt, .ref od, .ref th, .ref be, .ref ln, .int (nI S), .ref ma, .int (nI M), .ref ah, .ref bh, .ref ik, .ref la, .ref lg, .ref ce, .int vto])), (st, .inl (G 0, 196, .inl ost))] t.heap ∧ va_D (va_A [(h0, .inr (11, [.ref st, .int (nI N), .int (nI B), .ref rp, .int vrs, .int vrb, .int vhs, .int vca, .int vxs, .int vxb, .ref tp, .int (nI T), .int vfa, .int vbr, .int vba, .int vsp, .int vhe, .int vtk, .int vva, .ref cu, .ref lt, .ref od, .ref th, .ref be, .ref ln, .int (nI S), .ref ma, .int (nI M), .ref ah, .ref bh, .ref ik, .ref la, .ref lg, .ref ce, .int vto])), (st, .inl (G 0, 196, .inl fst))] sz) [(h0, .inr (11, [.ref st, .int (nI N), .int (nI B), .ref rp, .int vrs, .int vrb, .int vhs, .int vca, .int vxs, .int vxb, .ref tp, .int (nI T), .int vfa, .int vbr, .int vba, .int vsp, .int vhe, .int vtk, .int vva, .ref cu, .ref lt, .ref od, .ref th, .ref be, .ref ln, .int (nI S), .ref ma, .int (nI M), .ref ah, .ref bh, .ref ik, .ref la, .ref lg, .ref ce, .int vto])), (st, .inl (G 0, 196, .inl ost))]) (va_A [(h0, .inr (11, [.ref st, .int (nI N), .int (nI B), .ref rp, .int vrs, .int vrb, .int vhs, .int vca, .int vxs, .int vxb, .ref tp, .int (nI T), .int vfa, .int vbr, .int vba, .int vsp, .int vhe, .int vtk, .int vva, .ref cu, .ref lt, .ref od, .ref th, .ref be, .ref ln, .int (nI S), .ref ma, .int (nI M), .ref ah, .ref bh, .ref ik, .ref la, .ref lg, .ref ce, .int vto])), (st, .inl (G 0, 196, .inl fst))] sz)) 0 0 (va_A [(h0, .inr (11, [.ref st, .int (nI N), .int (nI B), .ref rp, .int vrs, .int vrb, .int vhs, .int vca, .int vxs, .int vxb, .ref tp, .int (nI T), .int vfa, .int vbr, .int vba, .int vsp, .int vhe, .int vtk, .int vva, .ref cu, .ref lt, .ref od, .ref th, .ref be, .ref ln, .int (nI S), .ref ma, .int (nI M), .ref ah, .ref bh, .ref ik, .ref la, .ref lg, .ref ce, .int vto])), (st, .inl (G 0, 196, .inl fst))] sz) := by
  refine Met.ofW (cc := cX11_put) (maxL := 3) (ret := (some .int)) (by decide) rfl ?_
  intro p e s m args below meth c s₁ Bd hml hv
  obtain ⟨rfl, hsz, hP, hK, hD0⟩ := hv
  have hx := Bd.exec
  have hb := Bd.bytes
  have hr := Bd.returns
  have hg : ∀ w ∈ GT, w.before ([.ref h0, .int i, .int v] : List Value).toArray s = true := fun w h => atoms_spec (ws := Cond.code yX11_put cX11_put 3 (some .int) :: GT) Bd.pre w (List.mem_cons_of_mem _ h)
  have hown : s.vm.findClass RX11 = some m.cls := findClass_of_methodNamed Bd.named
  have hlocks := Bd.notSynchronized
  subst hsz
  have hD := hD0.self (sz := s.heap.size)
  generalize hAe : va_A [(h0, .inr (11, [.ref st, .int (nI N), .int (nI B), .ref rp, .int vrs, .int vrb, .int vhs, .int vca, .int vxs, .int vxb, .ref tp, .int (nI T), .int vfa, .int vbr, .int vba, .int vsp, .int vhe, .int vtk, .int vva, .ref cu, .ref lt, .ref od, .ref th, .ref be, .ref ln, .int (nI S), .ref ma, .int (nI M), .ref ah, .ref bh, .ref ik, .ref la, .ref lg, .ref ce, .int vto])), (st, .inl (G 0, 196, .inl fst))] s.heap.size = A at hD ⊢
  have hA : ∀ q : Nat, s.heap.size ≤ q → A q := fun q h => by rw [← hAe]; exact Or.inr h
  have hS : va_S A s.heap s.heap [] := va_S.rf
  have hl := lv_entry ([.ref h0, .int i, .int v]) (n := 3) (Nat.le_of_ble_eq_true rfl)
  rw [lg_entry_eq]
  generalize (lg_sl ([.ref h0, .int i, .int v]) ++ List.replicate (3 - (lg_sl ([.ref h0, .int i, .int v])).length) Slot.unset).toArray = ls at hl ⊢
  have hl : lv_has ls 3 [(0, .ref h0), (1, .int i), (2, .int v)] := hl
  refine lv_aload_n hx hb dX11_put_0 rfl (lv_at hl 0 rfl) ?_
  refine lv_iload_n hx hb dX11_put_1 rfl (lv_at hl 1 rfl) ?_
  refine lv_iload_n hx hb dX11_put_2 rfl (lv_at hl 2 rfl) ?_
  have hPc := hP.sub (ws' := [(h0, .inr (11, [.ref st, .int (nI N), .int (nI B), .ref rp, .int vrs, .int vrb, .int vhs, .int vca, .int vxs, .int vxb, .ref tp, .int (nI T), .int vfa, .int vbr, .int vba, .int vsp, .int vhe, .int vtk, .int vva, .ref cu, .ref lt, .ref od, .ref th, .ref be, .ref ln, .int (nI S), .ref ma, .int (nI M), .ref ah, .ref bh, .ref ik, .ref la, .ref lg, .ref ce, .int vto])), (st, .inl (G 0, 196, .inl fst))]) [0, 1] rfl
  have hDc := hD.sub (ws' := [(h0, .inr (11, [.ref st, .int (nI N), .int (nI B), .ref rp, .int vrs, .int vrb, .int vhs, .int vca, .int vxs, .int vxb, .ref tp, .int (nI T), .int vfa, .int vbr, .int vba, .int vsp, .int vhe, .int vtk, .int vva, .ref cu, .ref lt, .ref od, .ref th, .ref be, .ref ln, .int (nI S), .ref ma, .int (nI M), .ref ah, .ref bh, .ref ik, .ref la, .ref lg, .ref ce, .int vto])), (st, .inl (G 0, 196, .inl fst))]) [0, 1] (by decide) rfl
  have hFc := va_free (wc := [(h0, .inr (11, [.ref st, .int (nI N), .int (nI B), .ref rp, .int vrs, .int vrb, .int vhs, .int vca, .int vxs, .int vxb, .ref tp, .int (nI T), .int vfa, .int vbr, .int vba, .int vsp, .int vhe, .int vtk, .int vva, .ref cu, .ref lt, .ref od, .ref th, .ref be, .ref ln, .int (nI S), .ref ma, .int (nI M), .ref ah, .ref bh, .ref ik, .ref la, .ref lg, .ref ce, .int vto])), (st, .inl (G 0, 196, .inl fst))]) hD hS hA [0, 1] rfl
  refine va_calli (va_runV (As := [.int i, .int v]) (rest := []) ⟨hx, hb, hml, hown, hg⟩ (c_X11_puts l dC dI G _ h0 st N B rp tp T cu lt od th be ln S ma M ah bh ik la lg ce i v vrs vrb vhs vca vxs vxb vfa vbr vba vsp vhe vtk vva vto fst (by have t_n0 : (nI N).toInt = (N : Int) := nI_toInt (by omega); have t_n1 : (nI B).toInt = (B : Int) := nI_toInt (by omega); have t_n2 : (nI T).toInt = (T : Int) := nI_toInt (by omega); have t_n3 : (nI S).toInt = (S : Int) := nI_toInt (by omega); have t_n4 : (nI M).toInt = (M : Int) := nI_toInt (by omega); omega) (by have t_n0 : (nI N).toInt = (N : Int) := nI_toInt (by omega); have t_n1 : (nI B).toInt = (B : Int) := nI_toInt (by omega); have t_n2 : (nI T).toInt = (T : Int) := nI_toInt (by omega); have t_n3 : (nI S).toInt = (S : Int) := nI_toInt (by omega); have t_n4 : (nI M).toInt = (M : Int) := nI_toInt (by omega); omega) (by have t_n0 : (nI N).toInt = (N : Int) := nI_toInt (by omega); have t_n1 : (nI B).toInt = (B : Int) := nI_toInt (by omega); have t_n2 : (nI T).toInt = (T : Int) := nI_toInt (by omega); have t_n3 : (nI S).toInt = (S : Int) := nI_toInt (by omega); have t_n4 : (nI M).toInt = (M : Int) := nI_toInt (by omega); omega) (by have t_n0 : (nI N).toInt = (N : Int) := nI_toInt (by omega); have t_n1 : (nI B).toInt = (B : Int) := nI_toInt (by omega); have t_n2 : (nI T).toInt = (T : Int) := nI_toInt (by omega); have t_n3 : (nI S).toInt = (S : Int) := nI_toInt (by omega); have t_n4 : (nI M).toInt = (M : Int) := nI_toInt (by omega); omega) (by have t_n0 : (nI N).toInt = (N : Int) := nI_toInt (by omega); have t_n1 : (nI B).toInt = (B : Int) := nI_toInt (by omega); have t_n2 : (nI T).toInt = (T : Int) := nI_toInt (by omega); have t_n3 : (nI S).toInt = (S : Int) := nI_toInt (by omega); have t_n4 : (nI M).toInt = (M : Int) := nI_toInt (by omega); omega) hst) (kwV hg mfX11_puts wt_1094 ⟨Nat.le_of_ble_eq_true rfl, Nat.le_of_ble_eq_true rfl⟩) (preVW hK hPc hDc (ci := 11) rfl rfl) rfl rfl hl.1 rfl (lv_room (Nat.le_of_ble_eq_true rfl)) dX11_put_3 ⟨Nat.le_of_ble_eq_true rfl, Nat.le_of_ble_eq_true rfl⟩) hS (fun q _ h => hFc q h) hFc (fun r1 ur1 t H1 locs ht hvm w2 hB hz1 hk1 hS => ?_)
  obtain ⟨u3, rfl⟩ : ∃ z, z = ur1 := ⟨_, rfl⟩
  obtain ⟨hP1, hD1⟩ := hB
  rw [ht] at hP1
  obtain ⟨hP, hD⟩ := va_join (wr := []) (w1 := [(h0, .inr (11, [.ref st, .int (nI N), .int (nI B), .ref rp, .int vrs, .int vrb, .int vhs, .int vca, .int vxs, .int vxb, .ref tp, .int (nI T), .int vfa, .int vbr, .int vba, .int vsp, .int vhe, .int vtk, .int vva, .ref cu, .ref lt, .ref od, .ref th, .ref be, .ref ln, .int (nI S), .ref ma, .int (nI M), .ref ah, .ref bh, .ref ik, .ref la, .ref lg, .ref ce, .int vto])), (st, .inl (G 0, 196, .inl u3))]) hP hD [0, 1] [] rfl rfl (by decide) (by decide) hk1 hFc hP1 hD1
  generalize H1 = H at hP hS ⊢
  have hP : va_P (dC, dI) vwCl [(h0, .inr (11, [.ref st, .int (nI N), .int (nI B), .ref rp, .int vrs, .int vrb, .int vhs, .int vca, .int vxs, .int vxb, .ref tp, .int (nI T), .int vfa, .int vbr, .int vba, .int vsp, .int vhe, .int vtk, .int vva, .ref cu, .ref lt, .ref od, .ref th, .ref be, .ref ln, .int (nI S), .ref ma, .int (nI M), .ref ah, .ref bh, .ref ik, .ref la, .ref lg, .ref ce, .int vto])), (st, .inl (G 0, 196, .inl u3))] H := hP
  have hD : va_D A [(h0, .inr (11, [.ref st, .int (nI N), .int (nI B), .ref rp, .int vrs, .int vrb, .int vhs, .int vca, .int vxs, .int vxb, .ref tp, .int (nI T), .int vfa, .int vbr, .int vba, .int vsp, .int vhe, .int vtk, .int vva, .ref cu, .ref lt, .ref od, .ref th, .ref be, .ref ln, .int (nI S), .ref ma, .int (nI M), .ref ah, .ref bh, .ref ik, .ref la, .ref lg, .ref ce, .int vto])), (st, .inl (G 0, 196, .inl u3))] := hD
  obtain ⟨w2, w2x⟩ := w2
  have hpost : True := by
    trivial
  have hP9 := hP.sub (ws' := [(h0, .inr (11, [.ref st, .int (nI N), .int (nI B), .ref rp, .int vrs, .int vrb, .int vhs, .int vca, .int vxs, .int vxb, .ref tp, .int (nI T), .int vfa, .int vbr, .int vba, .int vsp, .int vhe, .int vtk, .int vva, .ref cu, .ref lt, .ref od, .ref th, .ref be, .ref ln, .int (nI S), .ref ma, .int (nI M), .ref ah, .ref bh, .ref ik, .ref la, .ref lg, .ref ce, .int vto])), (st, .inl (G 0, 196, .inl u3))]) [0, 1] rfl
  have hD9 := hD.sub (ws' := [(h0, .inr (11, [.ref st, .int (nI N), .int (nI B), .ref rp, .int vrs, .int vrb, .int vhs, .int vca, .int vxs, .int vxb, .ref tp, .int (nI T), .int vfa, .int vbr, .int vba, .int vsp, .int vhe, .int vtk, .int vva, .ref cu, .ref lt, .ref od, .ref th, .ref be, .ref ln, .int (nI S), .ref ma, .int (nI M), .ref ah, .ref bh, .ref ik, .ref la, .ref lg, .ref ce, .int vto])), (st, .inl (G 0, 196, .inl u3))]) [0, 1] (by decide) rfl
  refine W.widen (k := 0) (n := 0) (by omega) (by omega) ?_
  exact W.iret (v := r1) hx hb hr (fun t ht hW => ⟨⟨r1, u3, rfl, ⟨hpost, w2x⟩, ⟨by rw [ht]; exact hP9, hD9⟩⟩, hS.F ht⟩) hS.2.2 dX11_put_6

set_option maxHeartbeats 1000000 in
set_option maxRecDepth 100000 in
theorem c_X11_kindOf (l : Launch) (dC : Nat → ClassId) (dI : Nat → Nat → Nat) (G : Nat → ClassId) (sz : Nat) (h0 b st N B rp tp T cu lt od th be ln S ma M ah bh ik la lg ce : Nat) (vrs vrb vhs vca vxs vxb vfa vbr vba vsp vhe vtk vva vto : Int32) (fst : Nat → Int32) (hN : N ≤ 10) (hB : B ≤ 6) (hT : T ≤ 320) (hS0 : S ≤ 8) (hM : M ≤ 6) (hkb : b < 6) : Met l yX11_kindOf (Cond.code yX11_kindOf cX11_kindOf 2 (some .int) :: GT) ({ frames := 0, cells := 0, slots := 0, locals := 0 } : Room) (PcR [.ref h0, .int (nI b)] dC dI G [(h0, .inr (11, [.ref st, .int (nI N), .int (nI B), .ref rp, .int vrs, .int vrb, .int vhs, .int vca, .int vxs, .int vxb, .ref tp, .int (nI T), .int vfa, .int vbr, .int vba, .int vsp, .int vhe, .int vtk, .int vva, .ref cu, .ref lt, .ref od, .ref th, .ref be, .ref ln, .int (nI S), .ref ma, .int (nI M), .ref ah, .ref bh, .ref ik, .ref la, .ref lg, .ref ce, .int vto])), (st, .inl (G 0, 196, .inl fst))] sz) (va_Qi (fun (r : Int32) (u : Unit) => match u with | _ => (r = fst (20 + 3 * b)) ∧ True) (fun _ _ => True) (fun q : Nat => sz ≤ q)) 0 0 (fun q : Nat => sz ≤ q) := by
  refine Met.ofW (cc := cX11_kindOf) (maxL := 2) (ret := (some .int)) (by decide) rfl ?_
  intro p e s m args below meth c s₁ Bd hml hv
  obtain ⟨rfl, hsz, hP, hK⟩ := hv
  have hx := Bd.exec
  have hb := Bd.bytes
  have hr := Bd.returns
  have hg : ∀ w ∈ GT, w.before ([.ref h0, .int (nI b)] : List Value).toArray s = true := fun w h => atoms_spec (ws := Cond.code yX11_kindOf cX11_kindOf 2 (some .int) :: GT) Bd.pre w (List.mem_cons_of_mem _ h)
  have hown : s.vm.findClass RX11 = some m.cls := findClass_of_methodNamed Bd.named
  have hlocks := Bd.notSynchronized
  subst hsz
  have hA : ∀ q : Nat, s.heap.size ≤ q → (fun q : Nat => s.heap.size ≤ q) q := fun _ h => h
  have hS : va_S (fun q : Nat => s.heap.size ≤ q) s.heap s.heap [] := va_S.rf
  have hl := lv_entry ([.ref h0, .int (nI b)]) (n := 2) (Nat.le_of_ble_eq_true rfl)
  rw [lg_entry_eq]
  generalize (lg_sl ([.ref h0, .int (nI b)]) ++ List.replicate (2 - (lg_sl ([.ref h0, .int (nI b)])).length) Slot.unset).toArray = ls at hl ⊢
  have hl : lv_has ls 2 [(0, .ref h0), (1, .int (nI b))] := hl
  refine lv_aload_n hx hb dX11_kindOf_0 rfl (lv_at hl 0 rfl) ?_
  refine va_get (D := (dC, dI)) (ci := 11) (v := .ref st) (C := RX11) (T := TX11) (N := 35) hx hb hg inG11 hown hK.1 hP 0 rfl rfl 0 (by decide) (hg _ wt_878) (fun _ h9 => h9) rfl dX11_kindOf_1 ?_
  refine lv_bipush (v := 20) hx hb dX11_kindOf_4 (by decide) ?_
  refine lv_iconst (v := 3) hx hb dX11_kindOf_6 (by decide) ?_
  refine lv_iload_n hx hb dX11_kindOf_7 rfl (lv_at hl 1 rfl) ?_
  refine lv_imul hx hb dX11_kindOf_8 ?_
  refine lv_cg (y := nI (3 * b)) (by rw [show (3 : Int32) = nI 3 from rfl]; exact pk_mul _ _) ?_
  refine lv_iadd hx hb dX11_kindOf_9 ?_
  refine lv_cg (y := nI (20 + (3 * b))) (by rw [show (20 : Int32) = nI 20 from rfl]; exact nI_add _ _) ?_
  refine va_iald hx hb hK.1 hP 1 0 rfl rfl (vp_in_nI (by have t_n0 : (nI b).toInt = (b : Int) := nI_toInt (by omega); have t_n1 : (nI N).toInt = (N : Int) := nI_toInt (by omega); have t_n2 : (nI B).toInt = (B : Int) := nI_toInt (by omega); have t_n3 : (nI T).toInt = (T : Int) := nI_toInt (by omega); have t_n4 : (nI S).toInt = (S : Int) := nI_toInt (by omega); have t_n5 : (nI M).toInt = (M : Int) := nI_toInt (by omega); omega) (by decide)) dX11_kindOf_10 ?_
  refine lv_cg (y := fst (20 + (3 * b))) (by rw [nI_clamp (by omega)]) ?_
  have hpost : (fst (20 + (3 * b)) : Int32) = fst (20 + 3 * b) := by
    have t_n0 : (nI b).toInt = (b : Int) := nI_toInt (by omega)
    have t_n1 : (nI N).toInt = (N : Int) := nI_toInt (by omega)
    have t_n2 : (nI B).toInt = (B : Int) := nI_toInt (by omega)
    have t_n3 : (nI T).toInt = (T : Int) := nI_toInt (by omega)
    have t_n4 : (nI S).toInt = (S : Int) := nI_toInt (by omega)
    have t_n5 : (nI M).toInt = (M : Int) := nI_toInt (by omega)
    have t_n0 : (nI b).toInt = (b : Int) := nI_toInt (by omega)
    have t_n1 : (nI N).toInt = (N : Int) := nI_toInt (by omega)
    have t_n2 : (nI B).toInt = (B : Int) := nI_toInt (by omega)
    have t_n3 : (nI T).toInt = (T : Int) := nI_toInt (by omega)
    have t_n4 : (nI S).toInt = (S : Int) := nI_toInt (by omega)
    have t_n5 : (nI M).toInt = (M : Int) := nI_toInt (by omega)
    first | rfl | ((repeat' split) <;> first | rfl | omega)
  refine W.widen (k := 0) (n := 0) (by omega) (by omega) ?_
  exact W.iret (v := fst (20 + (3 * b))) hx hb hr (fun t ht hW => ⟨⟨fst (20 + (3 * b)), (), rfl, ⟨hpost, trivial⟩, trivial⟩, hS.F ht⟩) hS.2.2 dX11_kindOf_11

set_option maxHeartbeats 1000000 in
set_option maxRecDepth 100000 in
theorem c_X11_canHarm (l : Launch) (dC : Nat → ClassId) (dI : Nat → Nat → Nat) (G : Nat → ClassId) (sz : Nat) (h0 st N B rp tp T cu lt od th be ln S ma M ah bh ik la lg ce : Nat) (i g k vrs vrb vhs vca vxs vxb vfa vbr vba vsp vhe vtk vva vto : Int32) (hN : N ≤ 10) (hB : B ≤ 6) (hT : T ≤ 320) (hS0 : S ≤ 8) (hM : M ≤ 6) : Met l yX11_canHarm (Cond.code yX11_canHarm cX11_canHarm 4 (some .boolean) :: GT) ({ frames := 2, cells := 0, slots := 0, locals := 46 } : Room) (PcR [.ref h0, .int i, .int g, .int k] dC dI G [(h0, .inr (11, [.ref st, .int (nI N), .int (nI B), .ref rp, .int vrs, .int vrb, .int vhs, .int vca, .int vxs, .int vxb, .ref tp, .int (nI T), .int vfa, .int vbr, .int vba, .int vsp, .int vhe, .int vtk, .int vva, .ref cu, .ref lt, .ref od, .ref th, .ref be, .ref ln, .int (nI S), .ref ma, .int (nI M), .ref ah, .ref bh, .ref ik, .ref la, .ref lg, .ref ce, .int vto]))] sz) (va_Qi (fun (r : Int32) (u : Unit) => match u with | _ => (r = if (0 ≤ i.toInt ∧ i.toInt < ((N : Nat) : Int)) ∧ (0 ≤ k.toInt ∧ k.toInt < ((B : Nat) : Int)) ∧ (g.toInt = -4 ∨ (0 ≤ g.toInt ∧ g.toInt < ((B : Nat) : Int))) then 1 else 0) ∧ True) (fun _ _ => True) (fun q : Nat => sz ≤ q)) 0 0 (fun q : Nat => sz ≤ q) := by
  refine Met.ofW (cc := cX11_canHarm) (maxL := 4) (ret := (some .boolean)) (by decide) rfl ?_
  intro p e s m args below meth c s₁ Bd hml hv
  obtain ⟨rfl, hsz, hP, hK⟩ := hv
  have hx := Bd.exec
  have hb := Bd.bytes
  have hr := Bd.returns
  have hg : ∀ w ∈ GT, w.before ([.ref h0, .int i, .int g, .int k] : List Value).toArray s = true := fun w h => atoms_spec (ws := Cond.code yX11_canHarm cX11_canHarm 4 (some .boolean) :: GT) Bd.pre w (List.mem_cons_of_mem _ h)
  have hown : s.vm.findClass RX11 = some m.cls := findClass_of_methodNamed Bd.named
  have hlocks := Bd.notSynchronized
  subst hsz
  have hA : ∀ q : Nat, s.heap.size ≤ q → (fun q : Nat => s.heap.size ≤ q) q := fun _ h => h
  have hS : va_S (fun q : Nat => s.heap.size ≤ q) s.heap s.heap [] := va_S.rf
  have hl := lv_entry ([.ref h0, .int i, .int g, .int k]) (n := 4) (Nat.le_of_ble_eq_true rfl)
  rw [lg_entry_eq]
  generalize (lg_sl ([.ref h0, .int i, .int g, .int k]) ++ List.replicate (4 - (lg_sl ([.ref h0, .int i, .int g, .int k])).length) Slot.unset).toArray = ls at hl ⊢
  have hl : lv_has ls 4 [(0, .ref h0), (1, .int i), (2, .int g), (3, .int k)] := hl
  refine lv_aload_n hx hb dX11_canHarm_0 rfl (lv_at hl 0 rfl) ?_
  refine lv_iload_n hx hb dX11_canHarm_1 rfl (lv_at hl 1 rfl) ?_
  have hPc := hP.sub (ws' := [(h0, .inr (11, [.ref st, .int (nI N), .int (nI B), .ref rp, .int vrs, .int vrb, .int vhs, .int vca, .int vxs, .int vxb, .ref tp, .int (nI T), .int vfa, .int vbr, .int vba, .int vsp, .int vhe, .int vtk, .int vva, .ref cu, .ref lt, .ref od, .ref th, .ref be, .ref ln, .int (nI S), .ref ma, .int (nI M), .ref ah, .ref bh, .ref ik, .ref la, .ref lg, .ref ce, .int vto]))]) [0] rfl
  refine va_calli (va_runV (As := [.int i]) (rest := []) ⟨hx, hb, hml, hown, hg⟩ (c_X11_isStretch l dC dI G _ h0 st N B rp tp T cu lt od th be ln S ma M ah bh ik la lg ce i vrs vrb vhs vca vxs vxb vfa vbr vba vsp vhe vtk vva vto (by have t_n0 : (nI N).toInt = (N : Int) := nI_toInt (by omega); have t_n1 : (nI B).toInt = (B : Int) := nI_toInt (by omega); have t_n2 : (nI T).toInt = (T : Int) := nI_toInt (by omega); have t_n3 : (nI S).toInt = (S : Int) := nI_toInt (by omega); have t_n4 : (nI M).toInt = (M : Int) := nI_toInt (by omega); omega) (by have t_n0 : (nI N).toInt = (N : Int) := nI_toInt (by omega); have t_n1 : (nI B).toInt = (B : Int) := nI_toInt (by omega); have t_n2 : (nI T).toInt = (T : Int) := nI_toInt (by omega); have t_n3 : (nI S).toInt = (S : Int) := nI_toInt (by omega); have t_n4 : (nI M).toInt = (M : Int) := nI_toInt (by omega); omega) (by have t_n0 : (nI N).toInt = (N : Int) := nI_toInt (by omega); have t_n1 : (nI B).toInt = (B : Int) := nI_toInt (by omega); have t_n2 : (nI T).toInt = (T : Int) := nI_toInt (by omega); have t_n3 : (nI S).toInt = (S : Int) := nI_toInt (by omega); have t_n4 : (nI M).toInt = (M : Int) := nI_toInt (by omega); omega) (by have t_n0 : (nI N).toInt = (N : Int) := nI_toInt (by omega); have t_n1 : (nI B).toInt = (B : Int) := nI_toInt (by omega); have t_n2 : (nI T).toInt = (T : Int) := nI_toInt (by omega); have t_n3 : (nI S).toInt = (S : Int) := nI_toInt (by omega); have t_n4 : (nI M).toInt = (M : Int) := nI_toInt (by omega); omega) (by have t_n0 : (nI N).toInt = (N : Int) := nI_toInt (by omega); have t_n1 : (nI B).toInt = (B : Int) := nI_toInt (by omega); have t_n2 : (nI T).toInt = (T : Int) := nI_toInt (by omega); have t_n3 : (nI S).toInt = (S : Int) := nI_toInt (by omega); have t_n4 : (nI M).toInt = (M : Int) := nI_toInt (by omega); omega)) (kwV hg mfX11_isStretch wt_1052 ⟨Nat.le_of_ble_eq_true rfl, Nat.le_of_ble_eq_true rfl⟩) (preVR hK hPc (ci := 11) rfl rfl) rfl rfl hl.1 rfl (lv_room (Nat.le_of_ble_eq_true rfl)) dX11_canHarm_2 ⟨Nat.le_of_ble_eq_true rfl, Nat.le_of_ble_eq_true rfl⟩) hS (fun q h1 h2 => absurd h2 (Nat.not_le.mpr h1)) (fun q h => hA q (Nat.le_trans hS.1 h)) (fun r1 ur1 t H1 locs ht hvm w2 hB hz1 hk1 hS => ?_)
  have hP := keepR hP hk1
  obtain ⟨w2, w2x⟩ := w2
  try simp only [l_ii, show (0 : Int32).toInt = 0 from by decide] at w2
  try rw [nI_toInt (n := N) (by omega)] at w2
  subst w2
  refine lv_if_eq (tgt := 34) hx hb dX11_canHarm_5 (by decide) (fun c3 => ?_) (fun c3 => ?_)
  · skip
    have b4 := if10_n c3
    refine lv_iconst (v := 0) hx hb dX11_canHarm_34 (by decide) ?_
    have hpost : (0 : Int32) = if (0 ≤ i.toInt ∧ i.toInt < ((N : Nat) : Int)) ∧ (0 ≤ k.toInt ∧ k.toInt < ((B : Nat) : Int)) ∧ (g.toInt = -4 ∨ (0 ≤ g.toInt ∧ g.toInt < ((B : Nat) : Int))) then 1 else 0 := by
      have t_b4 := b4
      have t_n0 : (nI N).toInt = (N : Int) := nI_toInt (by omega)
      have t_n1 : (nI B).toInt = (B : Int) := nI_toInt (by omega)
      have t_n2 : (nI T).toInt = (T : Int) := nI_toInt (by omega)
      have t_n3 : (nI S).toInt = (S : Int) := nI_toInt (by omega)
      have t_n4 : (nI M).toInt = (M : Int) := nI_toInt (by omega)
      have t_n0 : (nI N).toInt = (N : Int) := nI_toInt (by omega)
      have t_n1 : (nI B).toInt = (B : Int) := nI_toInt (by omega)
      have t_n2 : (nI T).toInt = (T : Int) := nI_toInt (by omega)
      have t_n3 : (nI S).toInt = (S : Int) := nI_toInt (by omega)
      have t_n4 : (nI M).toInt = (M : Int) := nI_toInt (by omega)
      first | rfl | ((repeat' split) <;> first | rfl | omega)
    refine W.widen (k := 0) (n := 0) (by omega) (by omega) ?_
    exact W.zret (v := 0) hx hb hr (by first | rfl | decide | exact rfl) (fun t ht hW => ⟨⟨0, (), rfl, ⟨hpost, trivial⟩, trivial⟩, hS.F ht⟩) hS.2.2 dX11_canHarm_35
  · skip
    have b5 := if10_p c3
    refine lv_aload_n hx hb dX11_canHarm_8 rfl (lv_at hl 0 rfl) ?_
    refine lv_iload_n hx hb dX11_canHarm_9 rfl (lv_at hl 3 rfl) ?_
    have hPc := hP.sub (ws' := [(h0, .inr (11, [.ref st, .int (nI N), .int (nI B), .ref rp, .int vrs, .int vrb, .int vhs, .int vca, .int vxs, .int vxb, .ref tp, .int (nI T), .int vfa, .int vbr, .int vba, .int vsp, .int vhe, .int vtk, .int vva, .ref cu, .ref lt, .ref od, .ref th, .ref be, .ref ln, .int (nI S), .ref ma, .int (nI M), .ref ah, .ref bh, .ref ik, .ref la, .ref lg, .ref ce, .int vto]))]) [0] rfl
    refine va_calli (va_runV (As := [.int k]) (rest := []) ⟨hx, hb, hml, hown, hg⟩ (c_X11_isBearer l dC dI G _ h0 st N B rp tp T cu lt od th be ln S ma M ah bh ik la lg ce k vrs vrb vhs vca vxs vxb vfa vbr vba vsp vhe vtk vva vto (by have t_b5 := b5; have t_n0 : (nI N).toInt = (N : Int) := nI_toInt (by omega); have t_n1 : (nI B).toInt = (B : Int) := nI_toInt (by omega); have t_n2 : (nI T).toInt = (T : Int) := nI_toInt (by omega); have t_n3 : (nI S).toInt = (S : Int) := nI_toInt (by omega); have t_n4 : (nI M).toInt = (M : Int) := nI_toInt (by omega); omega) (by have t_b5 := b5; have t_n0 : (nI N).toInt = (N : Int) := nI_toInt (by omega); have t_n1 : (nI B).toInt = (B : Int) := nI_toInt (by omega); have t_n2 : (nI T).toInt = (T : Int) := nI_toInt (by omega); have t_n3 : (nI S).toInt = (S : Int) := nI_toInt (by omega); have t_n4 : (nI M).toInt = (M : Int) := nI_toInt (by omega); omega) (by have t_b5 := b5; have t_n0 : (nI N).toInt = (N : Int) := nI_toInt (by omega); have t_n1 : (nI B).toInt = (B : Int) := nI_toInt (by omega); have t_n2 : (nI T).toInt = (T : Int) := nI_toInt (by omega); have t_n3 : (nI S).toInt = (S : Int) := nI_toInt (by omega); have t_n4 : (nI M).toInt = (M : Int) := nI_toInt (by omega); omega) (by have t_b5 := b5; have t_n0 : (nI N).toInt = (N : Int) := nI_toInt (by omega); have t_n1 : (nI B).toInt = (B : Int) := nI_toInt (by omega); have t_n2 : (nI T).toInt = (T : Int) := nI_toInt (by omega); have t_n3 : (nI S).toInt = (S : Int) := nI_toInt (by omega); have t_n4 : (nI M).toInt = (M : Int) := nI_toInt (by omega); omega) (by have t_b5 := b5; have t_n0 : (nI N).toInt = (N : Int) := nI_toInt (by omega); have t_n1 : (nI B).toInt = (B : Int) := nI_toInt (by omega); have t_n2 : (nI T).toInt = (T : Int) := nI_toInt (by omega); have t_n3 : (nI S).toInt = (S : Int) := nI_toInt (by omega); have t_n4 : (nI M).toInt = (M : Int) := nI_toInt (by omega); omega)) (kwV hg mfX11_isBearer wt_1061 ⟨Nat.le_of_ble_eq_true rfl, Nat.le_of_ble_eq_true rfl⟩) (preVR hK hPc (ci := 11) rfl rfl) rfl rfl hl.1 rfl (lv_room (Nat.le_of_ble_eq_true rfl)) dX11_canHarm_10 ⟨Nat.le_of_ble_eq_true rfl, Nat.le_of_ble_eq_true rfl⟩) hS (fun q h1 h2 => absurd h2 (Nat.not_le.mpr h1)) (fun q h => hA q (Nat.le_trans hS.1 h)) (fun r6 ur6 t H1 locs ht hvm w7 hB hz1 hk1 hS => ?_)
    have hP := keepR hP hk1
    obtain ⟨w7, w7x⟩ := w7
    try simp only [l_ii, show (0 : Int32).toInt = 0 from by decide] at w7
    try rw [nI_toInt (n := B) (by omega)] at w7
    subst w7
    refine lv_if_eq (tgt := 34) hx hb dX11_canHarm_13 (by decide) (fun c8 => ?_) (fun c8 => ?_)
    · skip
      have b9 := if10_n c8
      refine lv_iconst (v := 0) hx hb dX11_canHarm_34 (by decide) ?_
      have hpost : (0 : Int32) = if (0 ≤ i.toInt ∧ i.toInt < ((N : Nat) : Int)) ∧ (0 ≤ k.toInt ∧ k.toInt < ((B : Nat) : Int)) ∧ (g.toInt = -4 ∨ (0 ≤ g.toInt ∧ g.toInt < ((B : Nat) : Int))) then 1 else 0 := by
        have t_b5 := b5
        have t_b9 := b9
        have t_n0 : (nI N).toInt = (N : Int) := nI_toInt (by omega)
        have t_n1 : (nI B).toInt = (B : Int) := nI_toInt (by omega)
        have t_n2 : (nI T).toInt = (T : Int) := nI_toInt (by omega)
        have t_n3 : (nI S).toInt = (S : Int) := nI_toInt (by omega)
        have t_n4 : (nI M).toInt = (M : Int) := nI_toInt (by omega)
        have t_n0 : (nI N).toInt = (N : Int) := nI_toInt (by omega)
        have t_n1 : (nI B).toInt = (B : Int) := nI_toInt (by omega)
        have t_n2 : (nI T).toInt = (T : Int) := nI_toInt (by omega)
        have t_n3 : (nI S).toInt = (S : Int) := nI_toInt (by omega)
        have t_n4 : (nI M).toInt = (M : Int) := nI_toInt (by omega)
        first | rfl | ((repeat' split) <;> first | rfl | omega)
      refine W.widen (k := 0) (n := 0) (by omega) (by omega) ?_
      exact W.zret (v := 0) hx hb hr (by first | rfl | decide | exact rfl) (fun t ht hW => ⟨⟨0, (), rfl, ⟨hpost, trivial⟩, trivial⟩, hS.F ht⟩) hS.2.2 dX11_canHarm_35
    · skip
      have b10 := if10_p c8
      refine lv_iload_n hx hb dX11_canHarm_16 rfl (lv_at hl 2 rfl) ?_
      refine lv_bipush (v := (-4)) hx hb dX11_canHarm_17 (by decide) ?_
      refine lv_icmp_eq (tgt := 30) hx hb dX11_canHarm_19 (by decide) (fun c11 => ?_) (fun c11 => ?_)
      · skip
        refine lv_iconst (v := 1) hx hb dX11_canHarm_30 (by decide) ?_
        refine lv_goto (tgt := 35) hx hb dX11_canHarm_31 (by decide) ?_
        have hpost : (1 : Int32) = if (0 ≤ i.toInt ∧ i.toInt < ((N : Nat) : Int)) ∧ (0 ≤ k.toInt ∧ k.toInt < ((B : Nat) : Int)) ∧ (g.toInt = -4 ∨ (0 ≤ g.toInt ∧ g.toInt < ((B : Nat) : Int))) then 1 else 0 := by
          have t_b5 := b5
          have t_b10 := b10
          have t_c11 := eqI c11
          have : ((-4) : Int32).toInt = -4 := (by decide)
          have t_n0 : (nI N).toInt = (N : Int) := nI_toInt (by omega)
          have t_n1 : (nI B).toInt = (B : Int) := nI_toInt (by omega)
          have t_n2 : (nI T).toInt = (T : Int) := nI_toInt (by omega)
          have t_n3 : (nI S).toInt = (S : Int) := nI_toInt (by omega)
          have t_n4 : (nI M).toInt = (M : Int) := nI_toInt (by omega)
          have t_n0 : (nI N).toInt = (N : Int) := nI_toInt (by omega)
          have t_n1 : (nI B).toInt = (B : Int) := nI_toInt (by omega)
          have t_n2 : (nI T).toInt = (T : Int) := nI_toInt (by omega)
          have t_n3 : (nI S).toInt = (S : Int) := nI_toInt (by omega)
          have t_n4 : (nI M).toInt = (M : Int) := nI_toInt (by omega)
          first | rfl | ((repeat' split) <;> first | rfl | omega)
        refine W.widen (k := 0) (n := 0) (by omega) (by omega) ?_
        exact W.zret (v := 1) hx hb hr (by first | rfl | decide | exact rfl) (fun t ht hW => ⟨⟨1, (), rfl, ⟨hpost, trivial⟩, trivial⟩, hS.F ht⟩) hS.2.2 dX11_canHarm_35
      · skip
        refine lv_aload_n hx hb dX11_canHarm_22 rfl (lv_at hl 0 rfl) ?_
        refine lv_iload_n hx hb dX11_canHarm_23 rfl (lv_at hl 2 rfl) ?_
        have hPc := hP.sub (ws' := [(h0, .inr (11, [.ref st, .int (nI N), .int (nI B), .ref rp, .int vrs, .int vrb, .int vhs, .int vca, .int vxs, .int vxb, .ref tp, .int (nI T), .int vfa, .int vbr, .int vba, .int vsp, .int vhe, .int vtk, .int vva, .ref cu, .ref lt, .ref od, .ref th, .ref be, .ref ln, .int (nI S), .ref ma, .int (nI M), .ref ah, .ref bh, .ref ik, .ref la, .ref lg, .ref ce, .int vto]))]) [0] rfl
        refine va_calli (va_runV (As := [.int g]) (rest := []) ⟨hx, hb, hml, hown, hg⟩ (c_X11_isBearer l dC dI G _ h0 st N B rp tp T cu lt od th be ln S ma M ah bh ik la lg ce g vrs vrb vhs vca vxs vxb vfa vbr vba vsp vhe vtk vva vto (by have t_b5 := b5; have t_b10 := b10; have t_c11 := neI c11; have : ((-4) : Int32).toInt = -4 := (by decide); have t_n0 : (nI N).toInt = (N : Int) := nI_toInt (by omega); have t_n1 : (nI B).toInt = (B : Int) := nI_toInt (by omega); have t_n2 : (nI T).toInt = (T : Int) := nI_toInt (by omega); have t_n3 : (nI S).toInt = (S : Int) := nI_toInt (by omega); have t_n4 : (nI M).toInt = (M : Int) := nI_toInt (by omega); omega) (by have t_b5 := b5; have t_b10 := b10; have t_c11 := neI c11; have : ((-4) : Int32).toInt = -4 := (by decide); have t_n0 : (nI N).toInt = (N : Int) := nI_toInt (by omega); have t_n1 : (nI B).toInt = (B : Int) := nI_toInt (by omega); have t_n2 : (nI T).toInt = (T : Int) := nI_toInt (by omega); have t_n3 : (nI S).toInt = (S : Int) := nI_toInt (by omega); have t_n4 : (nI M).toInt = (M : Int) := nI_toInt (by omega); omega) (by have t_b5 := b5; have t_b10 := b10; have t_c11 := neI c11; have : ((-4) : Int32).toInt = -4 := (by decide); have t_n0 : (nI N).toInt = (N : Int) := nI_toInt (by omega); have t_n1 : (nI B).toInt = (B : Int) := nI_toInt (by omega); have t_n2 : (nI T).toInt = (T : Int) := nI_toInt (by omega); have t_n3 : (nI S).toInt = (S : Int) := nI_toInt (by omega); have t_n4 : (nI M).toInt = (M : Int) := nI_toInt (by omega); omega) (by have t_b5 := b5; have t_b10 := b10; have t_c11 := neI c11; have : ((-4) : Int32).toInt = -4 := (by decide); have t_n0 : (nI N).toInt = (N : Int) := nI_toInt (by omega); have t_n1 : (nI B).toInt = (B : Int) := nI_toInt (by omega); have t_n2 : (nI T).toInt = (T : Int) := nI_toInt (by omega); have t_n3 : (nI S).toInt = (S : Int) := nI_toInt (by omega); have t_n4 : (nI M).toInt = (M : Int) := nI_toInt (by omega); omega) (by have t_b5 := b5; have t_b10 := b10; have t_c11 := neI c11; have : ((-4) : Int32).toInt = -4 := (by decide); have t_n0 : (nI N).toInt = (N : Int) := nI_toInt (by omega); have t_n1 : (nI B).toInt = (B : Int) := nI_toInt (by omega); have t_n2 : (nI T).toInt = (T : Int) := nI_toInt (by omega); have t_n3 : (nI S).toInt = (S : Int) := nI_toInt (by omega); have t_n4 : (nI M).toInt = (M : Int) := nI_toInt (by omega); omega)) (kwV hg mfX11_isBearer wt_1061 ⟨Nat.le_of_ble_eq_true rfl, Nat.le_of_ble_eq_true rfl⟩) (preVR hK hPc (ci := 11) rfl rfl) rfl rfl hl.1 rfl (lv_room (Nat.le_of_ble_eq_true rfl)) dX11_canHarm_24 ⟨Nat.le_of_ble_eq_true rfl, Nat.le_of_ble_eq_true rfl⟩) hS (fun q h1 h2 => absurd h2 (Nat.not_le.mpr h1)) (fun q h => hA q (Nat.le_trans hS.1 h)) (fun r12 ur12 t H1 locs ht hvm w13 hB hz1 hk1 hS => ?_)
        have hP := keepR hP hk1
        obtain ⟨w13, w13x⟩ := w13
        try simp only [l_ii, show (0 : Int32).toInt = 0 from by decide] at w13
        try rw [nI_toInt (n := B) (by omega)] at w13
        subst w13
        refine lv_if_eq (tgt := 34) hx hb dX11_canHarm_27 (by decide) (fun c14 => ?_) (fun c14 => ?_)
        · skip
          have b15 := if10_n c14
          refine lv_iconst (v := 0) hx hb dX11_canHarm_34 (by decide) ?_
          have hpost : (0 : Int32) = if (0 ≤ i.toInt ∧ i.toInt < ((N : Nat) : Int)) ∧ (0 ≤ k.toInt ∧ k.toInt < ((B : Nat) : Int)) ∧ (g.toInt = -4 ∨ (0 ≤ g.toInt ∧ g.toInt < ((B : Nat) : Int))) then 1 else 0 := by
            have t_b5 := b5
            have t_b10 := b10
            have t_c11 := neI c11
            have t_b15 := b15
            have : ((-4) : Int32).toInt = -4 := (by decide)
            have t_n0 : (nI N).toInt = (N : Int) := nI_toInt (by omega)
            have t_n1 : (nI B).toInt = (B : Int) := nI_toInt (by omega)
            have t_n2 : (nI T).toInt = (T : Int) := nI_toInt (by omega)
            have t_n3 : (nI S).toInt = (S : Int) := nI_toInt (by omega)
            have t_n4 : (nI M).toInt = (M : Int) := nI_toInt (by omega)
            have t_n0 : (nI N).toInt = (N : Int) := nI_toInt (by omega)
            have t_n1 : (nI B).toInt = (B : Int) := nI_toInt (by omega)
            have t_n2 : (nI T).toInt = (T : Int) := nI_toInt (by omega)
            have t_n3 : (nI S).toInt = (S : Int) := nI_toInt (by omega)
            have t_n4 : (nI M).toInt = (M : Int) := nI_toInt (by omega)
            first | rfl | ((repeat' split) <;> first | rfl | omega)
          refine W.widen (k := 0) (n := 0) (by omega) (by omega) ?_
          exact W.zret (v := 0) hx hb hr (by first | rfl | decide | exact rfl) (fun t ht hW => ⟨⟨0, (), rfl, ⟨hpost, trivial⟩, trivial⟩, hS.F ht⟩) hS.2.2 dX11_canHarm_35
        · skip
          have b16 := if10_p c14
          refine lv_iconst (v := 1) hx hb dX11_canHarm_30 (by decide) ?_
          refine lv_goto (tgt := 35) hx hb dX11_canHarm_31 (by decide) ?_
          have hpost : (1 : Int32) = if (0 ≤ i.toInt ∧ i.toInt < ((N : Nat) : Int)) ∧ (0 ≤ k.toInt ∧ k.toInt < ((B : Nat) : Int)) ∧ (g.toInt = -4 ∨ (0 ≤ g.toInt ∧ g.toInt < ((B : Nat) : Int))) then 1 else 0 := by
            have t_b5 := b5
            have t_b10 := b10
            have t_c11 := neI c11
            have t_b16 := b16
            have : ((-4) : Int32).toInt = -4 := (by decide)
            have t_n0 : (nI N).toInt = (N : Int) := nI_toInt (by omega)
            have t_n1 : (nI B).toInt = (B : Int) := nI_toInt (by omega)
            have t_n2 : (nI T).toInt = (T : Int) := nI_toInt (by omega)
            have t_n3 : (nI S).toInt = (S : Int) := nI_toInt (by omega)
            have t_n4 : (nI M).toInt = (M : Int) := nI_toInt (by omega)
            have t_n0 : (nI N).toInt = (N : Int) := nI_toInt (by omega)
            have t_n1 : (nI B).toInt = (B : Int) := nI_toInt (by omega)
            have t_n2 : (nI T).toInt = (T : Int) := nI_toInt (by omega)
            have t_n3 : (nI S).toInt = (S : Int) := nI_toInt (by omega)
            have t_n4 : (nI M).toInt = (M : Int) := nI_toInt (by omega)
            first | rfl | ((repeat' split) <;> first | rfl | omega)
          refine W.widen (k := 0) (n := 0) (by omega) (by omega) ?_
          exact W.zret (v := 1) hx hb hr (by first | rfl | decide | exact rfl) (fun t ht hW => ⟨⟨1, (), rfl, ⟨hpost, trivial⟩, trivial⟩, hS.F ht⟩) hS.2.2 dX11_canHarm_35

set_option maxHeartbeats 1000000 in
set_option maxRecDepth 100000 in
theorem c_X11_harmOfN (l : Launch) (dC : Nat → ClassId) (dI : Nat → Nat → Nat) (G : Nat → ClassId) (sz : Nat) (h0 i b st N B rp tp T cu lt od th be ln S ma M ah bh ik la lg ce : Nat) (q vrs vrb vhs vca vxs vxb vfa vbr vba vsp vhe vtk vva vto : Int32) (fst : Nat → Int32) (hN : N ≤ 10) (hB : B ≤ 6) (hT : T ≤ 320) (hS0 : S ≤ 8) (hM : M ≤ 6) (hi : i < 10) (hkb : b < 6) : Met l yX11_harmOf (Cond.code yX11_harmOf cX11_harmOf 10 (some .int) :: GT) ({ frames := 1, cells := 0, slots := 0, locals := 21 } : Room) (PcR [.ref h0, .int (nI i), .int (-4), .int (nI b), .int q] dC dI G [(h0, .inr (11, [.ref st, .int (nI N), .int (nI B), .ref rp, .int vrs, .int vrb, .int vhs, .int vca, .int vxs, .int vxb, .ref tp, .int (nI T), .int vfa, .int vbr, .int vba, .int vsp, .int vhe, .int vtk, .int vva, .ref cu, .ref lt, .ref od, .ref th, .ref be, .ref ln, .int (nI S), .ref ma, .int (nI M), .ref ah, .ref bh, .ref ik, .ref la, .ref lg, .ref ce, .int vto])), (st, .inl (G 0, 196, .inl fst))] sz) (va_Qi (fun (r : Int32) (u : Unit) => match u with | _ => (r = rhN fst i b q) ∧ True) (fun _ _ => True) (fun q : Nat => sz ≤ q)) 0 0 (fun q : Nat => sz ≤ q) := by
  refine Met.ofW (cc := cX11_harmOf) (maxL := 10) (ret := (some .int)) (by decide) rfl ?_
  intro p e s m args below meth c s₁ Bd hml hv
  obtain ⟨rfl, hsz, hP, hK⟩ := hv
  have hx := Bd.exec
  have hb := Bd.bytes
  have hr := Bd.returns
  have hg : ∀ w ∈ GT, w.before ([.ref h0, .int (nI i), .int (-4), .int (nI b), .int q] : List Value).toArray s = true := fun w h => atoms_spec (ws := Cond.code yX11_harmOf cX11_harmOf 10 (some .int) :: GT) Bd.pre w (List.mem_cons_of_mem _ h)
  have hown : s.vm.findClass RX11 = some m.cls := findClass_of_methodNamed Bd.named
  have hlocks := Bd.notSynchronized
  subst hsz
  have hA : ∀ q : Nat, s.heap.size ≤ q → (fun q : Nat => s.heap.size ≤ q) q := fun _ h => h
  have hS : va_S (fun q : Nat => s.heap.size ≤ q) s.heap s.heap [] := va_S.rf
  have hl := lv_entry ([.ref h0, .int (nI i), .int (-4), .int (nI b), .int q]) (n := 10) (Nat.le_of_ble_eq_true rfl)
  rw [lg_entry_eq]
  generalize (lg_sl ([.ref h0, .int (nI i), .int (-4), .int (nI b), .int q]) ++ List.replicate (10 - (lg_sl ([.ref h0, .int (nI i), .int (-4), .int (nI b), .int q])).length) Slot.unset).toArray = ls at hl ⊢
  have hl : lv_has ls 10 [(0, .ref h0), (1, .int (nI i)), (2, .int (-4)), (3, .int (nI b)), (4, .int q)] := hl
  refine lv_aload_n hx hb dX11_harmOf_0 rfl (lv_at hl 0 rfl) ?_
  refine lv_iload_n hx hb dX11_harmOf_1 rfl (lv_at hl 3 rfl) ?_
  have hPc := hP.sub (ws' := [(h0, .inr (11, [.ref st, .int (nI N), .int (nI B), .ref rp, .int vrs, .int vrb, .int vhs, .int vca, .int vxs, .int vxb, .ref tp, .int (nI T), .int vfa, .int vbr, .int vba, .int vsp, .int vhe, .int vtk, .int vva, .ref cu, .ref lt, .ref od, .ref th, .ref be, .ref ln, .int (nI S), .ref ma, .int (nI M), .ref ah, .ref bh, .ref ik, .ref la, .ref lg, .ref ce, .int vto])), (st, .inl (G 0, 196, .inl fst))]) [0, 1] rfl
  refine va_calli (va_runV (As := [.int (nI b)]) (rest := []) ⟨hx, hb, hml, hown, hg⟩ (c_X11_kindOf l dC dI G _ h0 b st N B rp tp T cu lt od th be ln S ma M ah bh ik la lg ce vrs vrb vhs vca vxs vxb vfa vbr vba vsp vhe vtk vva vto fst (by have t_n0 : (nI i).toInt = (i : Int) := nI_toInt (by omega); have t_n1 : (nI b).toInt = (b : Int) := nI_toInt (by omega); have t_n2 : (nI N).toInt = (N : Int) := nI_toInt (by omega); have t_n3 : (nI B).toInt = (B : Int) := nI_toInt (by omega); have t_n4 : (nI T).toInt = (T : Int) := nI_toInt (by omega); have t_n5 : (nI S).toInt = (S : Int) := nI_toInt (by omega); have t_n6 : (nI M).toInt = (M : Int) := nI_toInt (by omega); omega) (by have t_n0 : (nI i).toInt = (i : Int) := nI_toInt (by omega); have t_n1 : (nI b).toInt = (b : Int) := nI_toInt (by omega); have t_n2 : (nI N).toInt = (N : Int) := nI_toInt (by omega); have t_n3 : (nI B).toInt = (B : Int) := nI_toInt (by omega); have t_n4 : (nI T).toInt = (T : Int) := nI_toInt (by omega); have t_n5 : (nI S).toInt = (S : Int) := nI_toInt (by omega); have t_n6 : (nI M).toInt = (M : Int) := nI_toInt (by omega); omega) (by have t_n0 : (nI i).toInt = (i : Int) := nI_toInt (by omega); have t_n1 : (nI b).toInt = (b : Int) := nI_toInt (by omega); have t_n2 : (nI N).toInt = (N : Int) := nI_toInt (by omega); have t_n3 : (nI B).toInt = (B : Int) := nI_toInt (by omega); have t_n4 : (nI T).toInt = (T : Int) := nI_toInt (by omega); have t_n5 : (nI S).toInt = (S : Int) := nI_toInt (by omega); have t_n6 : (nI M).toInt = (M : Int) := nI_toInt (by omega); omega) (by have t_n0 : (nI i).toInt = (i : Int) := nI_toInt (by omega); have t_n1 : (nI b).toInt = (b : Int) := nI_toInt (by omega); have t_n2 : (nI N).toInt = (N : Int) := nI_toInt (by omega); have t_n3 : (nI B).toInt = (B : Int) := nI_toInt (by omega); have t_n4 : (nI T).toInt = (T : Int) := nI_toInt (by omega); have t_n5 : (nI S).toInt = (S : Int) := nI_toInt (by omega); have t_n6 : (nI M).toInt = (M : Int) := nI_toInt (by omega); omega) (by have t_n0 : (nI i).toInt = (i : Int) := nI_toInt (by omega); have t_n1 : (nI b).toInt = (b : Int) := nI_toInt (by omega); have t_n2 : (nI N).toInt = (N : Int) := nI_toInt (by omega); have t_n3 : (nI B).toInt = (B : Int) := nI_toInt (by omega); have t_n4 : (nI T).toInt = (T : Int) := nI_toInt (by omega); have t_n5 : (nI S).toInt = (S : Int) := nI_toInt (by omega); have t_n6 : (nI M).toInt = (M : Int) := nI_toInt (by omega); omega) (by have t_n0 : (nI i).toInt = (i : Int) := nI_toInt (by omega); have t_n1 : (nI b).toInt = (b : Int) := nI_toInt (by omega); have t_n2 : (nI N).toInt = (N : Int) := nI_toInt (by omega); have t_n3 : (nI B).toInt = (B : Int) := nI_toInt (by omega); have t_n4 : (nI T).toInt = (T : Int) := nI_toInt (by omega); have t_n5 : (nI S).toInt = (S : Int) := nI_toInt (by omega); have t_n6 : (nI M).toInt = (M : Int) := nI_toInt (by omega); omega)) (kwV hg mfX11_kindOf wt_1110 ⟨Nat.le_of_ble_eq_true rfl, Nat.le_of_ble_eq_true rfl⟩) (preVR hK hPc (ci := 11) rfl rfl) rfl rfl hl.1 rfl (lv_room (Nat.le_of_ble_eq_true rfl)) dX11_harmOf_2 ⟨Nat.le_of_ble_eq_true rfl, Nat.le_of_ble_eq_true rfl⟩) hS (fun q h1 h2 => absurd h2 (Nat.not_le.mpr h1)) (fun q h => hA q (Nat.le_trans hS.1 h)) (fun r1 ur1 t H1 locs ht hvm w2 hB hz1 hk1 hS => ?_)
  have hP := keepR hP hk1
  obtain ⟨w2, w2x⟩ := w2
  subst w2
  refine lv_istore (lv' := [(5, .int (fst (20 + 3 * b))), (0, .ref h0), (1, .int (nI i)), (2, .int (-4)), (3, .int (nI b)), (4, .int q)]) hx hb dX11_harmOf_5 hl (by decide) rfl (fun ls hl => ?_)
  refine lv_iload hx hb dX11_harmOf_7 (lv_at hl 5 rfl) ?_
  have cut24_4 : ∀ (y3 : Int32) (H : Heap) (locs : List Loc), y3 = hQt fst i q → va_P (dC, dI) vwCl [(h0, .inr (11, [.ref st, .int (nI N), .int (nI B), .ref rp, .int vrs, .int vrb, .int vhs, .int vca, .int vxs, .int vxb, .ref tp, .int (nI T), .int vfa, .int vbr, .int vba, .int vsp, .int vhe, .int vtk, .int vva, .ref cu, .ref lt, .ref od, .ref th, .ref be, .ref ln, .int (nI S), .ref ma, .int (nI M), .ref ah, .ref bh, .ref ik, .ref la, .ref lg, .ref ce, .int vto])), (st, .inl (G 0, 196, .inl fst))] H → va_S (fun q : Nat => s.heap.size ≤ q) s.heap H locs → ∀ (ls : Array Slot), lv_has ls 10 [(5, .int (fst (20 + 3 * b))), (0, .ref h0), (1, .int (nI i)), (2, .int (-4)), (3, .int (nI b)), (4, .int q)] → W p l e (headSpec (Cond.code yX11_harmOf cX11_harmOf 10 (some .int) :: GT) ({ frames := 1, cells := 0, slots := 0, locals := 21 } : Room)).room s m ([.ref h0, .int (nI i), .int (-4), .int (nI b), .int q] : List Value).toArray below meth c H locs 0 0 (MQ below (va_Qi (fun (r : Int32) (u : Unit) => match u with | _ => (r = rhN fst i b q) ∧ True) (fun _ _ => True) (fun q : Nat => s.heap.size ≤ q)) ([.ref h0, .int (nI i), .int (-4), .int (nI b), .int q] : List Value).toArray s 0 0 (fun q : Nat => s.heap.size ≤ q)) (F0 m 24 ls [.int y3]) := by
    intro y3 H locs hcut hP hS ls hl
    subst hcut
    refine lv_istore (lv' := [(6, .int (hQt fst i q)), (5, .int (fst (20 + 3 * b))), (0, .ref h0), (1, .int (nI i)), (2, .int (-4)), (3, .int (nI b)), (4, .int q)]) hx hb dX11_harmOf_24 hl (by decide) rfl (fun ls hl => ?_)
    refine lv_iload hx hb dX11_harmOf_26 (lv_at hl 0 rfl) ?_
    refine lv_iload hx hb dX11_harmOf_28 (lv_at hl 1 rfl) ?_
    refine lv_iconst (v := 1) hx hb dX11_harmOf_30 (by decide) ?_
    have cut49_6 : ∀ (y5 : Int32) (H : Heap) (locs : List Loc), y5 = hK' (fst (20 + 3 * b)) → va_P (dC, dI) vwCl [(h0, .inr (11, [.ref st, .int (nI N), .int (nI B), .ref rp, .int vrs, .int vrb, .int vhs, .int vca, .int vxs, .int vxb, .ref tp, .int (nI T), .int vfa, .int vbr, .int vba, .int vsp, .int vhe, .int vtk, .int vva, .ref cu, .ref lt, .ref od, .ref th, .ref be, .ref ln, .int (nI S), .ref ma, .int (nI M), .ref ah, .ref bh, .ref ik, .ref la, .ref lg, .ref ce, .int vto])), (st, .inl (G 0, 196, .inl fst))] H → va_S (fun q : Nat => s.heap.size ≤ q) s.heap H locs → ∀ (ls : Array Slot), lv_has ls 10 [(6, .int (hQt fst i q)), (5, .int (fst (20 + 3 * b))), (0, .ref h0), (1, .int (nI i)), (2, .int (-4)), (3, .int (nI b)), (4, .int q)] → W p l e (headSpec (Cond.code yX11_harmOf cX11_harmOf 10 (some .int) :: GT) ({ frames := 1, cells := 0, slots := 0, locals := 21 } : Room)).room s m ([.ref h0, .int (nI i), .int (-4), .int (nI b), .int q] : List Value).toArray below meth c H locs 0 0 (MQ below (va_Qi (fun (r : Int32) (u : Unit) => match u with | _ => (r = rhN fst i b q) ∧ True) (fun _ _ => True) (fun q : Nat => s.heap.size ≤ q)) ([.ref h0, .int (nI i), .int (-4), .int (nI b), .int q] : List Value).toArray s 0 0 (fun q : Nat => s.heap.size ≤ q)) (F0 m 49 ls [.int y5, .int (hQt fst i q)]) := by
      intro y5 H locs hcut hP hS ls hl
      subst hcut
      refine lv_isub hx hb dX11_harmOf_49 ?_
      refine lv_istore (lv' := [(6, .int ((hQt fst i q) - (hK' (fst (20 + 3 * b))))), (5, .int (fst (20 + 3 * b))), (0, .ref h0), (1, .int (nI i)), (2, .int (-4)), (3, .int (nI b)), (4, .int q)]) hx hb dX11_harmOf_50 hl (by decide) rfl (fun ls hl => ?_)
      refine lv_aload_n hx hb dX11_harmOf_52 rfl (lv_at hl 2 rfl) ?_
      refine va_get (D := (dC, dI)) (ci := 11) (v := .ref st) (C := RX11) (T := TX11) (N := 35) hx hb hg inG11 hown hK.1 hP 0 rfl rfl 0 (by decide) (hg _ wt_878) (fun _ h9 => h9) rfl dX11_harmOf_53 ?_
      refine lv_iconst (v := 2) hx hb dX11_harmOf_56 (by decide) ?_
      refine lv_iload_n hx hb dX11_harmOf_57 rfl (lv_at hl 3 rfl) ?_
      refine lv_imul hx hb dX11_harmOf_58 ?_
      refine lv_cg (y := nI (2 * i)) (by rw [show (2 : Int32) = nI 2 from rfl]; exact pk_mul _ _) ?_
      refine lv_iconst (v := 1) hx hb dX11_harmOf_59 (by decide) ?_
      refine lv_iadd hx hb dX11_harmOf_60 ?_
      refine lv_cg (y := nI ((2 * i) + 1)) (by rw [show (1 : Int32) = nI 1 from rfl]; exact nI_add _ _) ?_
      refine va_iald hx hb hK.1 hP 1 0 rfl rfl (vp_in_nI (by have t_n0 : (nI i).toInt = (i : Int) := nI_toInt (by omega); have t_n1 : (nI b).toInt = (b : Int) := nI_toInt (by omega); have t_n2 : (nI N).toInt = (N : Int) := nI_toInt (by omega); have t_n3 : (nI B).toInt = (B : Int) := nI_toInt (by omega); have t_n4 : (nI T).toInt = (T : Int) := nI_toInt (by omega); have t_n5 : (nI S).toInt = (S : Int) := nI_toInt (by omega); have t_n6 : (nI M).toInt = (M : Int) := nI_toInt (by omega); omega) (by decide)) dX11_harmOf_61 ?_
      refine lv_cg (y := fst ((2 * i) + 1)) (by rw [nI_clamp (by omega)]) ?_
      refine lv_aload_n hx hb dX11_harmOf_62 rfl (lv_at hl 2 rfl) ?_
      refine va_get (D := (dC, dI)) (ci := 11) (v := .ref st) (C := RX11) (T := TX11) (N := 35) hx hb hg inG11 hown hK.1 hP 0 rfl rfl 0 (by decide) (hg _ wt_878) (fun _ h9 => h9) rfl dX11_harmOf_63 ?_
      refine lv_bipush (v := 20) hx hb dX11_harmOf_66 (by decide) ?_
      refine lv_iconst (v := 3) hx hb dX11_harmOf_68 (by decide) ?_
      refine lv_iload_n hx hb dX11_harmOf_69 rfl (lv_at hl 5 rfl) ?_
      refine lv_imul hx hb dX11_harmOf_70 ?_
      refine lv_cg (y := nI (3 * b)) (by rw [show (3 : Int32) = nI 3 from rfl]; exact pk_mul _ _) ?_
      refine lv_iadd hx hb dX11_harmOf_71 ?_
      refine lv_cg (y := nI (20 + (3 * b))) (by rw [show (20 : Int32) = nI 20 from rfl]; exact nI_add _ _) ?_
      refine lv_iconst (v := 2) hx hb dX11_harmOf_72 (by decide) ?_
      refine lv_iadd hx hb dX11_harmOf_73 ?_
      refine lv_cg (y := nI ((20 + (3 * b)) + 2)) (by rw [show (2 : Int32) = nI 2 from rfl]; exact nI_add _ _) ?_
      refine va_iald hx hb hK.1 hP 1 0 rfl rfl (vp_in_nI (by have t_n0 : (nI i).toInt = (i : Int) := nI_toInt (by omega); have t_n1 : (nI b).toInt = (b : Int) := nI_toInt (by omega); have t_n2 : (nI N).toInt = (N : Int) := nI_toInt (by omega); have t_n3 : (nI B).toInt = (B : Int) := nI_toInt (by omega); have t_n4 : (nI T).toInt = (T : Int) := nI_toInt (by omega); have t_n5 : (nI S).toInt = (S : Int) := nI_toInt (by omega); have t_n6 : (nI M).toInt = (M : Int) := nI_toInt (by omega); omega) (by decide)) dX11_harmOf_74 ?_
      refine lv_cg (y := fst ((20 + (3 * b)) + 2)) (by rw [nI_clamp (by omega)]) ?_
      refine lv_isub hx hb dX11_harmOf_75 ?_
      refine lv_istore (lv' := [(7, .int ((fst ((2 * i) + 1)) - (fst ((20 + (3 * b)) + 2)))), (6, .int ((hQt fst i q) - (hK' (fst (20 + 3 * b))))), (5, .int (fst (20 + 3 * b))), (0, .ref h0), (1, .int (nI i)), (2, .int (-4)), (3, .int (nI b)), (4, .int q)]) hx hb dX11_harmOf_76 hl (by decide) rfl (fun ls hl => ?_)
      refine lv_iload hx hb dX11_harmOf_78 (lv_at hl 1 rfl) ?_
      have cut89_8 : ∀ (y7 : Int32) (H : Heap) (locs : List Loc), y7 = hPos ((hQt fst i q) - (hK' (fst (20 + 3 * b)))) → va_P (dC, dI) vwCl [(h0, .inr (11, [.ref st, .int (nI N), .int (nI B), .ref rp, .int vrs, .int vrb, .int vhs, .int vca, .int vxs, .int vxb, .ref tp, .int (nI T), .int vfa, .int vbr, .int vba, .int vsp, .int vhe, .int vtk, .int vva, .ref cu, .ref lt, .ref od, .ref th, .ref be, .ref ln, .int (nI S), .ref ma, .int (nI M), .ref ah, .ref bh, .ref ik, .ref la, .ref lg, .ref ce, .int vto])), (st, .inl (G 0, 196, .inl fst))] H → va_S (fun q : Nat => s.heap.size ≤ q) s.heap H locs → ∀ (ls : Array Slot), lv_has ls 10 [(7, .int ((fst ((2 * i) + 1)) - (fst ((20 + (3 * b)) + 2)))), (6, .int ((hQt fst i q) - (hK' (fst (20 + 3 * b))))), (5, .int (fst (20 + 3 * b))), (0, .ref h0), (1, .int (nI i)), (2, .int (-4)), (3, .int (nI b)), (4, .int q)] → W p l e (headSpec (Cond.code yX11_harmOf cX11_harmOf 10 (some .int) :: GT) ({ frames := 1, cells := 0, slots := 0, locals := 21 } : Room)).room s m ([.ref h0, .int (nI i), .int (-4), .int (nI b), .int q] : List Value).toArray below meth c H locs 0 0 (MQ below (va_Qi (fun (r : Int32) (u : Unit) => match u with | _ => (r = rhN fst i b q) ∧ True) (fun _ _ => True) (fun q : Nat => s.heap.size ≤ q)) ([.ref h0, .int (nI i), .int (-4), .int (nI b), .int q] : List Value).toArray s 0 0 (fun q : Nat => s.heap.size ≤ q)) (F0 m 89 ls [.int y7]) := by
        intro y7 H locs hcut hP hS ls hl
        subst hcut
        refine lv_iload hx hb dX11_harmOf_89 (lv_at hl 0 rfl) ?_
        have cut100_10 : ∀ (y9 : Int32) (H : Heap) (locs : List Loc), y9 = hPos ((fst ((2 * i) + 1)) - (fst ((20 + (3 * b)) + 2))) → va_P (dC, dI) vwCl [(h0, .inr (11, [.ref st, .int (nI N), .int (nI B), .ref rp, .int vrs, .int vrb, .int vhs, .int vca, .int vxs, .int vxb, .ref tp, .int (nI T), .int vfa, .int vbr, .int vba, .int vsp, .int vhe, .int vtk, .int vva, .ref cu, .ref lt, .ref od, .ref th, .ref be, .ref ln, .int (nI S), .ref ma, .int (nI M), .ref ah, .ref bh, .ref ik, .ref la, .ref lg, .ref ce, .int vto])), (st, .inl (G 0, 196, .inl fst))] H → va_S (fun q : Nat => s.heap.size ≤ q) s.heap H locs → ∀ (ls : Array Slot), lv_has ls 10 [(7, .int ((fst ((2 * i) + 1)) - (fst ((20 + (3 * b)) + 2)))), (6, .int ((hQt fst i q) - (hK' (fst (20 + 3 * b))))), (5, .int (fst (20 + 3 * b))), (0, .ref h0), (1, .int (nI i)), (2, .int (-4)), (3, .int (nI b)), (4, .int q)] → W p l e (headSpec (Cond.code yX11_harmOf cX11_harmOf 10 (some .int) :: GT) ({ frames := 1, cells := 0, slots := 0, locals := 21 } : Room)).room s m ([.ref h0, .int (nI i), .int (-4), .int (nI b), .int q] : List Value).toArray below meth c H locs 0 0 (MQ below (va_Qi (fun (r : Int32) (u : Unit) => match u with | _ => (r = rhN fst i b q) ∧ True) (fun _ _ => True) (fun q : Nat => s.heap.size ≤ q)) ([.ref h0, .int (nI i), .int (-4), .int (nI b), .int q] : List Value).toArray s 0 0 (fun q : Nat => s.heap.size ≤ q)) (F0 m 100 ls [.int y9, .int (hPos ((hQt fst i q) - (hK' (fst (20 + 3 * b)))))]) := by
          intro y9 H locs hcut hP hS ls hl
          subst hcut
          refine lv_iadd hx hb dX11_harmOf_100 ?_
          refine lv_iload hx hb dX11_harmOf_101 (lv_at hl 2 rfl) ?_
          refine lv_iconst (v := 2) hx hb dX11_harmOf_103 (by decide) ?_
          have cut126_12 : ∀ (y11 : Int32) (H : Heap) (locs : List Loc), y11 = hTr (fst (20 + 3 * b)) (fst (2 * i + 1)) → va_P (dC, dI) vwCl [(h0, .inr (11, [.ref st, .int (nI N), .int (nI B), .ref rp, .int vrs, .int vrb, .int vhs, .int vca, .int vxs, .int vxb, .ref tp, .int (nI T), .int vfa, .int vbr, .int vba, .int vsp, .int vhe, .int vtk, .int vva, .ref cu, .ref lt, .ref od, .ref th, .ref be, .ref ln, .int (nI S), .ref ma, .int (nI M), .ref ah, .ref bh, .ref ik, .ref la, .ref lg, .ref ce, .int vto])), (st, .inl (G 0, 196, .inl fst))] H → va_S (fun q : Nat => s.heap.size ≤ q) s.heap H locs → ∀ (ls : Array Slot), lv_has ls 10 [(7, .int ((fst ((2 * i) + 1)) - (fst ((20 + (3 * b)) + 2)))), (6, .int ((hQt fst i q) - (hK' (fst (20 + 3 * b))))), (5, .int (fst (20 + 3 * b))), (0, .ref h0), (1, .int (nI i)), (2, .int (-4)), (3, .int (nI b)), (4, .int q)] → W p l e (headSpec (Cond.code yX11_harmOf cX11_harmOf 10 (some .int) :: GT) ({ frames := 1, cells := 0, slots := 0, locals := 21 } : Room)).room s m ([.ref h0, .int (nI i), .int (-4), .int (nI b), .int q] : List Value).toArray below meth c H locs 0 0 (MQ below (va_Qi (fun (r : Int32) (u : Unit) => match u with | _ => (r = rhN fst i b q) ∧ True) (fun _ _ => True) (fun q : Nat => s.heap.size ≤ q)) ([.ref h0, .int (nI i), .int (-4), .int (nI b), .int q] : List Value).toArray s 0 0 (fun q : Nat => s.heap.size ≤ q)) (F0 m 126 ls [.int y11, .int ((hPos ((hQt fst i q) - (hK' (fst (20 + 3 * b))))) + (hPos ((fst ((2 * i) + 1)) - (fst ((20 + (3 * b)) + 2)))))]) := by
            intro y11 H locs hcut hP hS ls hl
            subst hcut
            refine lv_iadd hx hb dX11_harmOf_126 ?_
            refine lv_istore (lv' := [(8, .int (((hPos ((hQt fst i q) - (hK' (fst (20 + 3 * b))))) + (hPos ((fst ((2 * i) + 1)) - (fst ((20 + (3 * b)) + 2))))) + (hTr (fst (20 + 3 * b)) (fst (2 * i + 1))))), (7, .int ((fst ((2 * i) + 1)) - (fst ((20 + (3 * b)) + 2)))), (6, .int ((hQt fst i q) - (hK' (fst (20 + 3 * b))))), (5, .int (fst (20 + 3 * b))), (0, .ref h0), (1, .int (nI i)), (2, .int (-4)), (3, .int (nI b)), (4, .int q)]) hx hb dX11_harmOf_127 hl (by decide) rfl (fun ls hl => ?_)
            refine lv_iload_n hx hb dX11_harmOf_129 rfl (lv_at hl 6 rfl) ?_
            refine lv_bipush (v := (-4)) hx hb dX11_harmOf_130 (by decide) ?_
            refine lv_icmp_eq (tgt := 219) hx hb dX11_harmOf_132 (by decide) (fun c13 => ?_) (fun c13 => ?_)
            · skip
              refine lv_iload hx hb dX11_harmOf_219 (lv_at hl 0 rfl) ?_
              refine lv_bipush (v := 20) hx hb dX11_harmOf_221 (by decide) ?_
              refine lv_icmp_le (tgt := 231) hx hb dX11_harmOf_223 (by decide) (fun c14 => ?_) (fun c14 => ?_)
              · skip
                refine lv_iload hx hb dX11_harmOf_231 (lv_at hl 0 rfl) ?_
                have hpost : (((hPos ((hQt fst i q) - (hK' (fst (20 + 3 * b))))) + (hPos ((fst ((2 * i) + 1)) - (fst ((20 + (3 * b)) + 2))))) + (hTr (fst (20 + 3 * b)) (fst (2 * i + 1))) : Int32) = rhN fst i b q := by
                  unfold rhN rhS hTop
                  first | exact (if_pos (by assumption)).symm | exact (if_neg (by assumption)).symm
                refine W.widen (k := 0) (n := 0) (by omega) (by omega) ?_
                exact W.iret (v := ((hPos ((hQt fst i q) - (hK' (fst (20 + 3 * b))))) + (hPos ((fst ((2 * i) + 1)) - (fst ((20 + (3 * b)) + 2))))) + (hTr (fst (20 + 3 * b)) (fst (2 * i + 1)))) hx hb hr (fun t ht hW => ⟨⟨((hPos ((hQt fst i q) - (hK' (fst (20 + 3 * b))))) + (hPos ((fst ((2 * i) + 1)) - (fst ((20 + (3 * b)) + 2))))) + (hTr (fst (20 + 3 * b)) (fst (2 * i + 1))), (), rfl, ⟨hpost, trivial⟩, trivial⟩, hS.F ht⟩) hS.2.2 dX11_harmOf_233
              · skip
                refine lv_bipush (v := 20) hx hb dX11_harmOf_226 (by decide) ?_
                refine lv_goto (tgt := 233) hx hb dX11_harmOf_228 (by decide) ?_
                have hpost : (20 : Int32) = rhN fst i b q := by
                  unfold rhN rhS hTop
                  first | exact (if_pos (by assumption)).symm | exact (if_neg (by assumption)).symm
                refine W.widen (k := 0) (n := 0) (by omega) (by omega) ?_
                exact W.iret (v := 20) hx hb hr (fun t ht hW => ⟨⟨20, (), rfl, ⟨hpost, trivial⟩, trivial⟩, hS.F ht⟩) hS.2.2 dX11_harmOf_233
            · skip
              exact absurd c13 (by decide)
          refine lv_icmp_ne (tgt := 125) hx hb dX11_harmOf_104 (by decide) (fun c15 => ?_) (fun c15 => ?_)
          · skip
            refine lv_iconst (v := 0) hx hb dX11_harmOf_125 (by decide) ?_
            exact cut126_12 0 _ _ (by first | exact (if_pos (by assumption)).symm | exact (if_neg (by assumption)).symm | exact ((if_neg (by assumption)).trans (if_pos (by assumption))).symm | exact ((if_neg (by assumption)).trans (if_neg (by assumption))).symm | exact (if_pos ⟨by assumption, by assumption⟩).symm | exact (if_neg (fun h9 => absurd h9.1 (by assumption))).symm | exact (if_neg (fun h9 => h9.2 (by assumption))).symm) hP hS ls (lv_sub hl [0, 1, 2, 3, 4, 5, 6, 7] rfl)
          · skip
            refine lv_aload_n hx hb dX11_harmOf_107 rfl (lv_at hl 3 rfl) ?_
            refine va_get (D := (dC, dI)) (ci := 11) (v := .ref st) (C := RX11) (T := TX11) (N := 35) hx hb hg inG11 hown hK.1 hP 0 rfl rfl 0 (by decide) (hg _ wt_878) (fun _ h9 => h9) rfl dX11_harmOf_108 ?_
            refine lv_iconst (v := 2) hx hb dX11_harmOf_111 (by decide) ?_
            refine lv_iload_n hx hb dX11_harmOf_112 rfl (lv_at hl 4 rfl) ?_
            refine lv_imul hx hb dX11_harmOf_113 ?_
            refine lv_cg (y := nI (2 * i)) (by rw [show (2 : Int32) = nI 2 from rfl]; exact pk_mul _ _) ?_
            refine lv_iconst (v := 1) hx hb dX11_harmOf_114 (by decide) ?_
            refine lv_iadd hx hb dX11_harmOf_115 ?_
            refine lv_cg (y := nI ((2 * i) + 1)) (by rw [show (1 : Int32) = nI 1 from rfl]; exact nI_add _ _) ?_
            refine va_iald hx hb hK.1 hP 1 0 rfl rfl (vp_in_nI (by have t_c15 := eqI c15; have : (2 : Int32).toInt = 2 := (by decide); have t_n0 : (nI i).toInt = (i : Int) := nI_toInt (by omega); have t_n1 : (nI b).toInt = (b : Int) := nI_toInt (by omega); have t_n2 : (nI N).toInt = (N : Int) := nI_toInt (by omega); have t_n3 : (nI B).toInt = (B : Int) := nI_toInt (by omega); have t_n4 : (nI T).toInt = (T : Int) := nI_toInt (by omega); have t_n5 : (nI S).toInt = (S : Int) := nI_toInt (by omega); have t_n6 : (nI M).toInt = (M : Int) := nI_toInt (by omega); omega) (by decide)) dX11_harmOf_116 ?_
            refine lv_cg (y := fst ((2 * i) + 1)) (by rw [nI_clamp (by omega)]) ?_
            refine lv_iconst (v := 5) hx hb dX11_harmOf_117 (by decide) ?_
            refine lv_icmp_lt (tgt := 125) hx hb dX11_harmOf_118 (by decide) (fun c16 => ?_) (fun c16 => ?_)
            · skip
              refine lv_iconst (v := 0) hx hb dX11_harmOf_125 (by decide) ?_
              exact cut126_12 0 _ _ (by first | exact (if_pos (by assumption)).symm | exact (if_neg (by assumption)).symm | exact ((if_neg (by assumption)).trans (if_pos (by assumption))).symm | exact ((if_neg (by assumption)).trans (if_neg (by assumption))).symm | exact (if_pos ⟨by assumption, by assumption⟩).symm | exact (if_neg (fun h9 => absurd h9.1 (by assumption))).symm | exact (if_neg (fun h9 => h9.2 (by assumption))).symm) hP hS ls (lv_sub hl [0, 1, 2, 3, 4, 5, 6, 7] rfl)
            · skip
              refine lv_iconst (v := 1) hx hb dX11_harmOf_121 (by decide) ?_
              refine lv_goto (tgt := 126) hx hb dX11_harmOf_122 (by decide) ?_
              exact cut126_12 1 _ _ (by first | exact (if_pos (by assumption)).symm | exact (if_neg (by assumption)).symm | exact ((if_neg (by assumption)).trans (if_pos (by assumption))).symm | exact ((if_neg (by assumption)).trans (if_neg (by assumption))).symm | exact (if_pos ⟨by assumption, by assumption⟩).symm | exact (if_neg (fun h9 => absurd h9.1 (by assumption))).symm | exact (if_neg (fun h9 => h9.2 (by assumption))).symm) hP hS ls (lv_sub hl [0, 1, 2, 3, 4, 5, 6, 7] rfl)
        refine lv_if_le (tgt := 99) hx hb dX11_harmOf_91 (by decide) (fun c17 => ?_) (fun c17 => ?_)
        · skip
          refine lv_iconst (v := 0) hx hb dX11_harmOf_99 (by decide) ?_
          exact cut100_10 0 _ _ (by first | exact (if_pos (by assumption)).symm | exact (if_neg (by assumption)).symm | exact ((if_neg (by assumption)).trans (if_pos (by assumption))).symm | exact ((if_neg (by assumption)).trans (if_neg (by assumption))).symm | exact (if_pos ⟨by assumption, by assumption⟩).symm | exact (if_neg (fun h9 => absurd h9.1 (by assumption))).symm | exact (if_neg (fun h9 => h9.2 (by assumption))).symm) hP hS ls (lv_sub hl [0, 1, 2, 3, 4, 5, 6, 7] rfl)
        · skip
          refine lv_iload hx hb dX11_harmOf_94 (lv_at hl 0 rfl) ?_
          refine lv_goto (tgt := 100) hx hb dX11_harmOf_96 (by decide) ?_
          exact cut100_10 ((fst ((2 * i) + 1)) - (fst ((20 + (3 * b)) + 2))) _ _ (by first | exact (if_pos (by assumption)).symm | exact (if_neg (by assumption)).symm | exact ((if_neg (by assumption)).trans (if_pos (by assumption))).symm | exact ((if_neg (by assumption)).trans (if_neg (by assumption))).symm | exact (if_pos ⟨by assumption, by assumption⟩).symm | exact (if_neg (fun h9 => absurd h9.1 (by assumption))).symm | exact (if_neg (fun h9 => h9.2 (by assumption))).symm) hP hS ls (lv_sub hl [0, 1, 2, 3, 4, 5, 6, 7] rfl)
      refine lv_if_le (tgt := 88) hx hb dX11_harmOf_80 (by decide) (fun c18 => ?_) (fun c18 => ?_)
      · skip
        refine lv_iconst (v := 0) hx hb dX11_harmOf_88 (by decide) ?_
        exact cut89_8 0 _ _ (by first | exact (if_pos (by assumption)).symm | exact (if_neg (by assumption)).symm | exact ((if_neg (by assumption)).trans (if_pos (by assumption))).symm | exact ((if_neg (by assumption)).trans (if_neg (by assumption))).symm | exact (if_pos ⟨by assumption, by assumption⟩).symm | exact (if_neg (fun h9 => absurd h9.1 (by assumption))).symm | exact (if_neg (fun h9 => h9.2 (by assumption))).symm) hP hS ls (lv_sub hl [0, 1, 2, 3, 4, 5, 6, 7] rfl)
      · skip
        refine lv_iload hx hb dX11_harmOf_83 (lv_at hl 1 rfl) ?_
        refine lv_goto (tgt := 89) hx hb dX11_harmOf_85 (by decide) ?_
        exact cut89_8 ((hQt fst i q) - (hK' (fst (20 + 3 * b)))) _ _ (by first | exact (if_pos (by assumption)).symm | exact (if_neg (by assumption)).symm | exact ((if_neg (by assumption)).trans (if_pos (by assumption))).symm | exact ((if_neg (by assumption)).trans (if_neg (by assumption))).symm | exact (if_pos ⟨by assumption, by assumption⟩).symm | exact (if_neg (fun h9 => absurd h9.1 (by assumption))).symm | exact (if_neg (fun h9 => h9.2 (by assumption))).symm) hP hS ls (lv_sub hl [0, 1, 2, 3, 4, 5, 6, 7] rfl)
    refine lv_icmp_ne (tgt := 38) hx hb dX11_harmOf_31 (by decide) (fun c19 => ?_) (fun c19 => ?_)
    · skip
      refine lv_iload hx hb dX11_harmOf_38 (lv_at hl 1 rfl) ?_
      refine lv_iconst (v := 3) hx hb dX11_harmOf_40 (by decide) ?_
      refine lv_icmp_ne (tgt := 48) hx hb dX11_harmOf_41 (by decide) (fun c20 => ?_) (fun c20 => ?_)
      · skip
        refine lv_iconst (v := 0) hx hb dX11_harmOf_48 (by decide) ?_
        exact cut49_6 0 _ _ (by first | exact (if_pos (by assumption)).symm | exact (if_neg (by assumption)).symm | exact ((if_neg (by assumption)).trans (if_pos (by assumption))).symm | exact ((if_neg (by assumption)).trans (if_neg (by assumption))).symm | exact (if_pos ⟨by assumption, by assumption⟩).symm | exact (if_neg (fun h9 => absurd h9.1 (by assumption))).symm | exact (if_neg (fun h9 => h9.2 (by assumption))).symm) hP hS ls (lv_sub hl [0, 1, 2, 3, 4, 5, 6] rfl)
      · skip
        refine lv_iconst (v := 1) hx hb dX11_harmOf_44 (by decide) ?_
        refine lv_goto (tgt := 49) hx hb dX11_harmOf_45 (by decide) ?_
        exact cut49_6 1 _ _ (by first | exact (if_pos (by assumption)).symm | exact (if_neg (by assumption)).symm | exact ((if_neg (by assumption)).trans (if_pos (by assumption))).symm | exact ((if_neg (by assumption)).trans (if_neg (by assumption))).symm | exact (if_pos ⟨by assumption, by assumption⟩).symm | exact (if_neg (fun h9 => absurd h9.1 (by assumption))).symm | exact (if_neg (fun h9 => h9.2 (by assumption))).symm) hP hS ls (lv_sub hl [0, 1, 2, 3, 4, 5, 6] rfl)
    · skip
      refine lv_iconst (v := 2) hx hb dX11_harmOf_34 (by decide) ?_
      refine lv_goto (tgt := 49) hx hb dX11_harmOf_35 (by decide) ?_
      exact cut49_6 2 _ _ (by first | exact (if_pos (by assumption)).symm | exact (if_neg (by assumption)).symm | exact ((if_neg (by assumption)).trans (if_pos (by assumption))).symm | exact ((if_neg (by assumption)).trans (if_neg (by assumption))).symm | exact (if_pos ⟨by assumption, by assumption⟩).symm | exact (if_neg (fun h9 => absurd h9.1 (by assumption))).symm | exact (if_neg (fun h9 => h9.2 (by assumption))).symm) hP hS ls (lv_sub hl [0, 1, 2, 3, 4, 5, 6] rfl)
  refine lv_if_eq (tgt := 16) hx hb dX11_harmOf_9 (by decide) (fun c21 => ?_) (fun c21 => ?_)
  · skip
    refine lv_aload_n hx hb dX11_harmOf_16 rfl (lv_at hl 1 rfl) ?_
    refine va_get (D := (dC, dI)) (ci := 11) (v := .ref st) (C := RX11) (T := TX11) (N := 35) hx hb hg inG11 hown hK.1 hP 0 rfl rfl 0 (by decide) (hg _ wt_878) (fun _ h9 => h9) rfl dX11_harmOf_17 ?_
    refine lv_iconst (v := 2) hx hb dX11_harmOf_20 (by decide) ?_
    refine lv_iload_n hx hb dX11_harmOf_21 rfl (lv_at hl 2 rfl) ?_
    refine lv_imul hx hb dX11_harmOf_22 ?_
    refine lv_cg (y := nI (2 * i)) (by rw [show (2 : Int32) = nI 2 from rfl]; exact pk_mul _ _) ?_
    refine va_iald hx hb hK.1 hP 1 0 rfl rfl (vp_in_nI (by have t_c21 := eqI c21; have : (0 : Int32).toInt = 0 := (by decide); have t_n0 : (nI i).toInt = (i : Int) := nI_toInt (by omega); have t_n1 : (nI b).toInt = (b : Int) := nI_toInt (by omega); have t_n2 : (nI N).toInt = (N : Int) := nI_toInt (by omega); have t_n3 : (nI B).toInt = (B : Int) := nI_toInt (by omega); have t_n4 : (nI T).toInt = (T : Int) := nI_toInt (by omega); have t_n5 : (nI S).toInt = (S : Int) := nI_toInt (by omega); have t_n6 : (nI M).toInt = (M : Int) := nI_toInt (by omega); omega) (by decide)) dX11_harmOf_23 ?_
    refine lv_cg (y := fst (2 * i)) (by rw [nI_clamp (by omega)]) ?_
    exact cut24_4 (fst (2 * i)) _ _ (by first | exact (if_pos (by assumption)).symm | exact (if_neg (by assumption)).symm | exact ((if_neg (by assumption)).trans (if_pos (by assumption))).symm | exact ((if_neg (by assumption)).trans (if_neg (by assumption))).symm | exact (if_pos ⟨by assumption, by assumption⟩).symm | exact (if_neg (fun h9 => absurd h9.1 (by assumption))).symm | exact (if_neg (fun h9 => h9.2 (by assumption))).symm) hP hS ls (lv_sub hl [0, 1, 2, 3, 4, 5] rfl)
  · skip
    refine lv_iconst (v := 0) hx hb dX11_harmOf_12 (by decide) ?_
    refine lv_goto (tgt := 24) hx hb dX11_harmOf_13 (by decide) ?_
    exact cut24_4 0 _ _ (by first | exact (if_pos (by assumption)).symm | exact (if_neg (by assumption)).symm | exact ((if_neg (by assumption)).trans (if_pos (by assumption))).symm | exact ((if_neg (by assumption)).trans (if_neg (by assumption))).symm | exact (if_pos ⟨by assumption, by assumption⟩).symm | exact (if_neg (fun h9 => absurd h9.1 (by assumption))).symm | exact (if_neg (fun h9 => h9.2 (by assumption))).symm) hP hS ls (lv_sub hl [0, 1, 2, 3, 4, 5] rfl)

set_option maxHeartbeats 1000000 in
set_option maxRecDepth 100000 in
theorem c_X11_harmOfB (l : Launch) (dC : Nat → ClassId) (dI : Nat → Nat → Nat) (G : Nat → ClassId) (sz : Nat) (h0 i a b st N B rp tp T cu lt od th be ln S ma M ah bh ik la lg ce : Nat) (q vrs vrb vhs vca vxs vxb vfa vbr vba vsp vhe vtk vva vto : Int32) (fst : Nat → Int32) (hN : N ≤ 10) (hB : B ≤ 6) (hT : T ≤ 320) (hS0 : S ≤ 8) (hM : M ≤ 6) (hi : i < 10) (hkb : b < 6) (hka : a < 6) : Met l yX11_harmOf (Cond.code yX11_harmOf cX11_harmOf 10 (some .int) :: GT) ({ frames := 1, cells := 0, slots := 0, locals := 21 } : Room) (PcR [.ref h0, .int (nI i), .int (nI a), .int (nI b), .int q] dC dI G [(h0, .inr (11, [.ref st, .int (nI N), .int (nI B), .ref rp, .int vrs, .int vrb, .int vhs, .int vca, .int vxs, .int vxb, .ref tp, .int (nI T), .int vfa, .int vbr, .int vba, .int vsp, .int vhe, .int vtk, .int vva, .ref cu, .ref lt, .ref od, .ref th, .ref be, .ref ln, .int (nI S), .ref ma, .int (nI M), .ref ah, .ref bh, .ref ik, .ref la, .ref lg, .ref ce, .int vto])), (st, .inl (G 0, 196, .inl fst))] sz) (va_Qi (fun (r : Int32) (u : Unit) => match u with | _ => (r = rhB fst i a b q) ∧ True) (fun _ _ => True) (fun q : Nat => sz ≤ q)) 0 0 (fun q : Nat => sz ≤ q) := by
  refine Met.ofW (cc := cX11_harmOf) (maxL := 10) (ret := (some .int)) (by decide) rfl ?_
  intro p e s m args below meth c s₁ Bd hml hv
  obtain ⟨rfl, hsz, hP, hK⟩ := hv
  have hx := Bd.exec
  have hb := Bd.bytes
  have hr := Bd.returns
  have hg : ∀ w ∈ GT, w.before ([.ref h0, .int (nI i), .int (nI a), .int (nI b), .int q] : List Value).toArray s = true := fun w h => atoms_spec (ws := Cond.code yX11_harmOf cX11_harmOf 10 (some .int) :: GT) Bd.pre w (List.mem_cons_of_mem _ h)
  have hown : s.vm.findClass RX11 = some m.cls := findClass_of_methodNamed Bd.named
  have hlocks := Bd.notSynchronized
  subst hsz
  have hA : ∀ q : Nat, s.heap.size ≤ q → (fun q : Nat => s.heap.size ≤ q) q := fun _ h => h
  have hS : va_S (fun q : Nat => s.heap.size ≤ q) s.heap s.heap [] := va_S.rf
  have hl := lv_entry ([.ref h0, .int (nI i), .int (nI a), .int (nI b), .int q]) (n := 10) (Nat.le_of_ble_eq_true rfl)
  rw [lg_entry_eq]
  generalize (lg_sl ([.ref h0, .int (nI i), .int (nI a), .int (nI b), .int q]) ++ List.replicate (10 - (lg_sl ([.ref h0, .int (nI i), .int (nI a), .int (nI b), .int q])).length) Slot.unset).toArray = ls at hl ⊢
  have hl : lv_has ls 10 [(0, .ref h0), (1, .int (nI i)), (2, .int (nI a)), (3, .int (nI b)), (4, .int q)] := hl
  refine lv_aload_n hx hb dX11_harmOf_0 rfl (lv_at hl 0 rfl) ?_
  refine lv_iload_n hx hb dX11_harmOf_1 rfl (lv_at hl 3 rfl) ?_
  have hPc := hP.sub (ws' := [(h0, .inr (11, [.ref st, .int (nI N), .int (nI B), .ref rp, .int vrs, .int vrb, .int vhs, .int vca, .int vxs, .int vxb, .ref tp, .int (nI T), .int vfa, .int vbr, .int vba, .int vsp, .int vhe, .int vtk, .int vva, .ref cu, .ref lt, .ref od, .ref th, .ref be, .ref ln, .int (nI S), .ref ma, .int (nI M), .ref ah, .ref bh, .ref ik, .ref la, .ref lg, .ref ce, .int vto])), (st, .inl (G 0, 196, .inl fst))]) [0, 1] rfl
  refine va_calli (va_runV (As := [.int (nI b)]) (rest := []) ⟨hx, hb, hml, hown, hg⟩ (c_X11_kindOf l dC dI G _ h0 b st N B rp tp T cu lt od th be ln S ma M ah bh ik la lg ce vrs vrb vhs vca vxs vxb vfa vbr vba vsp vhe vtk vva vto fst (by have t_n0 : (nI i).toInt = (i : Int) := nI_toInt (by omega); have t_n1 : (nI a).toInt = (a : Int) := nI_toInt (by omega); have t_n2 : (nI b).toInt = (b : Int) := nI_toInt (by omega); have t_n3 : (nI N).toInt = (N : Int) := nI_toInt (by omega); have t_n4 : (nI B).toInt = (B : Int) := nI_toInt (by omega); have t_n5 : (nI T).toInt = (T : Int) := nI_toInt (by omega); have t_n6 : (nI S).toInt = (S : Int) := nI_toInt (by omega); have t_n7 : (nI M).toInt = (M : Int) := nI_toInt (by omega); omega) (by have t_n0 : (nI i).toInt = (i : Int) := nI_toInt (by omega); have t_n1 : (nI a).toInt = (a : Int) := nI_toInt (by omega); have t_n2 : (nI b).toInt = (b : Int) := nI_toInt (by omega); have t_n3 : (nI N).toInt = (N : Int) := nI_toInt (by omega); have t_n4 : (nI B).toInt = (B : Int) := nI_toInt (by omega); have t_n5 : (nI T).toInt = (T : Int) := nI_toInt (by omega); have t_n6 : (nI S).toInt = (S : Int) := nI_toInt (by omega); have t_n7 : (nI M).toInt = (M : Int) := nI_toInt (by omega); omega) (by have t_n0 : (nI i).toInt = (i : Int) := nI_toInt (by omega); have t_n1 : (nI a).toInt = (a : Int) := nI_toInt (by omega); have t_n2 : (nI b).toInt = (b : Int) := nI_toInt (by omega); have t_n3 : (nI N).toInt = (N : Int) := nI_toInt (by omega); have t_n4 : (nI B).toInt = (B : Int) := nI_toInt (by omega); have t_n5 : (nI T).toInt = (T : Int) := nI_toInt (by omega); have t_n6 : (nI S).toInt = (S : Int) := nI_toInt (by omega); have t_n7 : (nI M).toInt = (M : Int) := nI_toInt (by omega); omega) (by have t_n0 : (nI i).toInt = (i : Int) := nI_toInt (by omega); have t_n1 : (nI a).toInt = (a : Int) := nI_toInt (by omega); have t_n2 : (nI b).toInt = (b : Int) := nI_toInt (by omega); have t_n3 : (nI N).toInt = (N : Int) := nI_toInt (by omega); have t_n4 : (nI B).toInt = (B : Int) := nI_toInt (by omega); have t_n5 : (nI T).toInt = (T : Int) := nI_toInt (by omega); have t_n6 : (nI S).toInt = (S : Int) := nI_toInt (by omega); have t_n7 : (nI M).toInt = (M : Int) := nI_toInt (by omega); omega) (by have t_n0 : (nI i).toInt = (i : Int) := nI_toInt (by omega); have t_n1 : (nI a).toInt = (a : Int) := nI_toInt (by omega); have t_n2 : (nI b).toInt = (b : Int) := nI_toInt (by omega); have t_n3 : (nI N).toInt = (N : Int) := nI_toInt (by omega); have t_n4 : (nI B).toInt = (B : Int) := nI_toInt (by omega); have t_n5 : (nI T).toInt = (T : Int) := nI_toInt (by omega); have t_n6 : (nI S).toInt = (S : Int) := nI_toInt (by omega); have t_n7 : (nI M).toInt = (M : Int) := nI_toInt (by omega); omega) (by have t_n0 : (nI i).toInt = (i : Int) := nI_toInt (by omega); have t_n1 : (nI a).toInt = (a : Int) := nI_toInt (by omega); have t_n2 : (nI b).toInt = (b : Int) := nI_toInt (by omega); have t_n3 : (nI N).toInt = (N : Int) := nI_toInt (by omega); have t_n4 : (nI B).toInt = (B : Int) := nI_toInt (by omega); have t_n5 : (nI T).toInt = (T : Int) := nI_toInt (by omega); have t_n6 : (nI S).toInt = (S : Int) := nI_toInt (by omega); have t_n7 : (nI M).toInt = (M : Int) := nI_toInt (by omega); omega)) (kwV hg mfX11_kindOf wt_1110 ⟨Nat.le_of_ble_eq_true rfl, Nat.le_of_ble_eq_true rfl⟩) (preVR hK hPc (ci := 11) rfl rfl) rfl rfl hl.1 rfl (lv_room (Nat.le_of_ble_eq_true rfl)) dX11_harmOf_2 ⟨Nat.le_of_ble_eq_true rfl, Nat.le_of_ble_eq_true rfl⟩) hS (fun q h1 h2 => absurd h2 (Nat.not_le.mpr h1)) (fun q h => hA q (Nat.le_trans hS.1 h)) (fun r1 ur1 t H1 locs ht hvm w2 hB hz1 hk1 hS => ?_)
  have hP := keepR hP hk1
  obtain ⟨w2, w2x⟩ := w2
  subst w2
  refine lv_istore (lv' := [(5, .int (fst (20 + 3 * b))), (0, .ref h0), (1, .int (nI i)), (2, .int (nI a)), (3, .int (nI b)), (4, .int q)]) hx hb dX11_harmOf_5 hl (by decide) rfl (fun ls hl => ?_)
  refine lv_iload hx hb dX11_harmOf_7 (lv_at hl 5 rfl) ?_
  have cut24_4 : ∀ (y3 : Int32) (H : Heap) (locs : List Loc), y3 = hQt fst i q → va_P (dC, dI) vwCl [(h0, .inr (11, [.ref st, .int (nI N), .int (nI B), .ref rp, .int vrs, .int vrb, .int vhs, .int vca, .int vxs, .int vxb, .ref tp, .int (nI T), .int vfa, .int vbr, .int vba, .int vsp, .int vhe, .int vtk, .int vva, .ref cu, .ref lt, .ref od, .ref th, .ref be, .ref ln, .int (nI S), .ref ma, .int (nI M), .ref ah, .ref bh, .ref ik, .ref la, .ref lg, .ref ce, .int vto])), (st, .inl (G 0, 196, .inl fst))] H → va_S (fun q : Nat => s.heap.size ≤ q) s.heap H locs → ∀ (ls : Array Slot), lv_has ls 10 [(5, .int (fst (20 + 3 * b))), (0, .ref h0), (1, .int (nI i)), (2, .int (nI a)), (3, .int (nI b)), (4, .int q)] → W p l e (headSpec (Cond.code yX11_harmOf cX11_harmOf 10 (some .int) :: GT) ({ frames := 1, cells := 0, slots := 0, locals := 21 } : Room)).room s m ([.ref h0, .int (nI i), .int (nI a), .int (nI b), .int q] : List Value).toArray below meth c H locs 0 0 (MQ below (va_Qi (fun (r : Int32) (u : Unit) => match u with | _ => (r = rhB fst i a b q) ∧ True) (fun _ _ => True) (fun q : Nat => s.heap.size ≤ q)) ([.ref h0, .int (nI i), .int (nI a), .int (nI b), .int q] : List Value).toArray s 0 0 (fun q : Nat => s.heap.size ≤ q)) (F0 m 24 ls [.int y3]) := by
    intro y3 H locs hcut hP hS ls hl
    subst hcut
    refine lv_istore (lv' := [(6, .int (hQt fst i q)), (5, .int (fst (20 + 3 * b))), (0, .ref h0), (1, .int (nI i)), (2, .int (nI a)), (3, .int (nI b)), (4, .int q)]) hx hb dX11_harmOf_24 hl (by decide) rfl (fun ls hl => ?_)
    refine lv_iload hx hb dX11_harmOf_26 (lv_at hl 0 rfl) ?_
    refine lv_iload hx hb dX11_harmOf_28 (lv_at hl 1 rfl) ?_
    refine lv_iconst (v := 1) hx hb dX11_harmOf_30 (by decide) ?_
    have cut49_6 : ∀ (y5 : Int32) (H : Heap) (locs : List Loc), y5 = hK' (fst (20 + 3 * b)) → va_P (dC, dI) vwCl [(h0, .inr (11, [.ref st, .int (nI N), .int (nI B), .ref rp, .int vrs, .int vrb, .int vhs, .int vca, .int vxs, .int vxb, .ref tp, .int (nI T), .int vfa, .int vbr, .int vba, .int vsp, .int vhe, .int vtk, .int vva, .ref cu, .ref lt, .ref od, .ref th, .ref be, .ref ln, .int (nI S), .ref ma, .int (nI M), .ref ah, .ref bh, .ref ik, .ref la, .ref lg, .ref ce, .int vto])), (st, .inl (G 0, 196, .inl fst))] H → va_S (fun q : Nat => s.heap.size ≤ q) s.heap H locs → ∀ (ls : Array Slot), lv_has ls 10 [(6, .int (hQt fst i q)), (5, .int (fst (20 + 3 * b))), (0, .ref h0), (1, .int (nI i)), (2, .int (nI a)), (3, .int (nI b)), (4, .int q)] → W p l e (headSpec (Cond.code yX11_harmOf cX11_harmOf 10 (some .int) :: GT) ({ frames := 1, cells := 0, slots := 0, locals := 21 } : Room)).room s m ([.ref h0, .int (nI i), .int (nI a), .int (nI b), .int q] : List Value).toArray below meth c H locs 0 0 (MQ below (va_Qi (fun (r : Int32) (u : Unit) => match u with | _ => (r = rhB fst i a b q) ∧ True) (fun _ _ => True) (fun q : Nat => s.heap.size ≤ q)) ([.ref h0, .int (nI i), .int (nI a), .int (nI b), .int q] : List Value).toArray s 0 0 (fun q : Nat => s.heap.size ≤ q)) (F0 m 49 ls [.int y5, .int (hQt fst i q)]) := by
      intro y5 H locs hcut hP hS ls hl
      subst hcut
      refine lv_isub hx hb dX11_harmOf_49 ?_
      refine lv_istore (lv' := [(6, .int ((hQt fst i q) - (hK' (fst (20 + 3 * b))))), (5, .int (fst (20 + 3 * b))), (0, .ref h0), (1, .int (nI i)), (2, .int (nI a)), (3, .int (nI b)), (4, .int q)]) hx hb dX11_harmOf_50 hl (by decide) rfl (fun ls hl => ?_)
      refine lv_aload_n hx hb dX11_harmOf_52 rfl (lv_at hl 2 rfl) ?_
      refine va_get (D := (dC, dI)) (ci := 11) (v := .ref st) (C := RX11) (T := TX11) (N := 35) hx hb hg inG11 hown hK.1 hP 0 rfl rfl 0 (by decide) (hg _ wt_878) (fun _ h9 => h9) rfl dX11_harmOf_53 ?_
      refine lv_iconst (v := 2) hx hb dX11_harmOf_56 (by decide) ?_
      refine lv_iload_n hx hb dX11_harmOf_57 rfl (lv_at hl 3 rfl) ?_
      refine lv_imul hx hb dX11_harmOf_58 ?_
      refine lv_cg (y := nI (2 * i)) (by rw [show (2 : Int32) = nI 2 from rfl]; exact pk_mul _ _) ?_
      refine lv_iconst (v := 1) hx hb dX11_harmOf_59 (by decide) ?_
      refine lv_iadd hx hb dX11_harmOf_60 ?_
      refine lv_cg (y := nI ((2 * i) + 1)) (by rw [show (1 : Int32) = nI 1 from rfl]; exact nI_add _ _) ?_
      refine va_iald hx hb hK.1 hP 1 0 rfl rfl (vp_in_nI (by have t_n0 : (nI i).toInt = (i : Int) := nI_toInt (by omega); have t_n1 : (nI a).toInt = (a : Int) := nI_toInt (by omega); have t_n2 : (nI b).toInt = (b : Int) := nI_toInt (by omega); have t_n3 : (nI N).toInt = (N : Int) := nI_toInt (by omega); have t_n4 : (nI B).toInt = (B : Int) := nI_toInt (by omega); have t_n5 : (nI T).toInt = (T : Int) := nI_toInt (by omega); have t_n6 : (nI S).toInt = (S : Int) := nI_toInt (by omega); have t_n7 : (nI M).toInt = (M : Int) := nI_toInt (by omega); omega) (by decide)) dX11_harmOf_61 ?_
      refine lv_cg (y := fst ((2 * i) + 1)) (by rw [nI_clamp (by omega)]) ?_
      refine lv_aload_n hx hb dX11_harmOf_62 rfl (lv_at hl 2 rfl) ?_
      refine va_get (D := (dC, dI)) (ci := 11) (v := .ref st) (C := RX11) (T := TX11) (N := 35) hx hb hg inG11 hown hK.1 hP 0 rfl rfl 0 (by decide) (hg _ wt_878) (fun _ h9 => h9) rfl dX11_harmOf_63 ?_
      refine lv_bipush (v := 20) hx hb dX11_harmOf_66 (by decide) ?_
      refine lv_iconst (v := 3) hx hb dX11_harmOf_68 (by decide) ?_
      refine lv_iload_n hx hb dX11_harmOf_69 rfl (lv_at hl 5 rfl) ?_
      refine lv_imul hx hb dX11_harmOf_70 ?_
      refine lv_cg (y := nI (3 * b)) (by rw [show (3 : Int32) = nI 3 from rfl]; exact pk_mul _ _) ?_
      refine lv_iadd hx hb dX11_harmOf_71 ?_
      refine lv_cg (y := nI (20 + (3 * b))) (by rw [show (20 : Int32) = nI 20 from rfl]; exact nI_add _ _) ?_
      refine lv_iconst (v := 2) hx hb dX11_harmOf_72 (by decide) ?_
      refine lv_iadd hx hb dX11_harmOf_73 ?_
      refine lv_cg (y := nI ((20 + (3 * b)) + 2)) (by rw [show (2 : Int32) = nI 2 from rfl]; exact nI_add _ _) ?_
      refine va_iald hx hb hK.1 hP 1 0 rfl rfl (vp_in_nI (by have t_n0 : (nI i).toInt = (i : Int) := nI_toInt (by omega); have t_n1 : (nI a).toInt = (a : Int) := nI_toInt (by omega); have t_n2 : (nI b).toInt = (b : Int) := nI_toInt (by omega); have t_n3 : (nI N).toInt = (N : Int) := nI_toInt (by omega); have t_n4 : (nI B).toInt = (B : Int) := nI_toInt (by omega); have t_n5 : (nI T).toInt = (T : Int) := nI_toInt (by omega); have t_n6 : (nI S).toInt = (S : Int) := nI_toInt (by omega); have t_n7 : (nI M).toInt = (M : Int) := nI_toInt (by omega); omega) (by decide)) dX11_harmOf_74 ?_
      refine lv_cg (y := fst ((20 + (3 * b)) + 2)) (by rw [nI_clamp (by omega)]) ?_
      refine lv_isub hx hb dX11_harmOf_75 ?_
      refine lv_istore (lv' := [(7, .int ((fst ((2 * i) + 1)) - (fst ((20 + (3 * b)) + 2)))), (6, .int ((hQt fst i q) - (hK' (fst (20 + 3 * b))))), (5, .int (fst (20 + 3 * b))), (0, .ref h0), (1, .int (nI i)), (2, .int (nI a)), (3, .int (nI b)), (4, .int q)]) hx hb dX11_harmOf_76 hl (by decide) rfl (fun ls hl => ?_)
      refine lv_iload hx hb dX11_harmOf_78 (lv_at hl 1 rfl) ?_
      have cut89_8 : ∀ (y7 : Int32) (H : Heap) (locs : List Loc), y7 = hPos ((hQt fst i q) - (hK' (fst (20 + 3 * b)))) → va_P (dC, dI) vwCl [(h0, .inr (11, [.ref st, .int (nI N), .int (nI B), .ref rp, .int vrs, .int vrb, .int vhs, .int vca, .int vxs, .int vxb, .ref tp, .int (nI T), .int vfa, .int vbr, .int vba, .int vsp, .int vhe, .int vtk, .int vva, .ref cu, .ref lt, .ref od, .ref th, .ref be, .ref ln, .int (nI S), .ref ma, .int (nI M), .ref ah, .ref bh, .ref ik, .ref la, .ref lg, .ref ce, .int vto])), (st, .inl (G 0, 196, .inl fst))] H → va_S (fun q : Nat => s.heap.size ≤ q) s.heap H locs → ∀ (ls : Array Slot), lv_has ls 10 [(7, .int ((fst ((2 * i) + 1)) - (fst ((20 + (3 * b)) + 2)))), (6, .int ((hQt fst i q) - (hK' (fst (20 + 3 * b))))), (5, .int (fst (20 + 3 * b))), (0, .ref h0), (1, .int (nI i)), (2, .int (nI a)), (3, .int (nI b)), (4, .int q)] → W p l e (headSpec (Cond.code yX11_harmOf cX11_harmOf 10 (some .int) :: GT) ({ frames := 1, cells := 0, slots := 0, locals := 21 } : Room)).room s m ([.ref h0, .int (nI i), .int (nI a), .int (nI b), .int q] : List Value).toArray below meth c H locs 0 0 (MQ below (va_Qi (fun (r : Int32) (u : Unit) => match u with | _ => (r = rhB fst i a b q) ∧ True) (fun _ _ => True) (fun q : Nat => s.heap.size ≤ q)) ([.ref h0, .int (nI i), .int (nI a), .int (nI b), .int q] : List Value).toArray s 0 0 (fun q : Nat => s.heap.size ≤ q)) (F0 m 89 ls [.int y7]) := by
        intro y7 H locs hcut hP hS ls hl
        subst hcut
        refine lv_iload hx hb dX11_harmOf_89 (lv_at hl 0 rfl) ?_
        have cut100_10 : ∀ (y9 : Int32) (H : Heap) (locs : List Loc), y9 = hPos ((fst ((2 * i) + 1)) - (fst ((20 + (3 * b)) + 2))) → va_P (dC, dI) vwCl [(h0, .inr (11, [.ref st, .int (nI N), .int (nI B), .ref rp, .int vrs, .int vrb, .int vhs, .int vca, .int vxs, .int vxb, .ref tp, .int (nI T), .int vfa, .int vbr, .int vba, .int vsp, .int vhe, .int vtk, .int vva, .ref cu, .ref lt, .ref od, .ref th, .ref be, .ref ln, .int (nI S), .ref ma, .int (nI M), .ref ah, .ref bh, .ref ik, .ref la, .ref lg, .ref ce, .int vto])), (st, .inl (G 0, 196, .inl fst))] H → va_S (fun q : Nat => s.heap.size ≤ q) s.heap H locs → ∀ (ls : Array Slot), lv_has ls 10 [(7, .int ((fst ((2 * i) + 1)) - (fst ((20 + (3 * b)) + 2)))), (6, .int ((hQt fst i q) - (hK' (fst (20 + 3 * b))))), (5, .int (fst (20 + 3 * b))), (0, .ref h0), (1, .int (nI i)), (2, .int (nI a)), (3, .int (nI b)), (4, .int q)] → W p l e (headSpec (Cond.code yX11_harmOf cX11_harmOf 10 (some .int) :: GT) ({ frames := 1, cells := 0, slots := 0, locals := 21 } : Room)).room s m ([.ref h0, .int (nI i), .int (nI a), .int (nI b), .int q] : List Value).toArray below meth c H locs 0 0 (MQ below (va_Qi (fun (r : Int32) (u : Unit) => match u with | _ => (r = rhB fst i a b q) ∧ True) (fun _ _ => True) (fun q : Nat => s.heap.size ≤ q)) ([.ref h0, .int (nI i), .int (nI a), .int (nI b), .int q] : List Value).toArray s 0 0 (fun q : Nat => s.heap.size ≤ q)) (F0 m 100 ls [.int y9, .int (hPos ((hQt fst i q) - (hK' (fst (20 + 3 * b)))))]) := by
          intro y9 H locs hcut hP hS ls hl
          subst hcut
          refine lv_iadd hx hb dX11_harmOf_100 ?_
          refine lv_iload hx hb dX11_harmOf_101 (lv_at hl 2 rfl) ?_
          refine lv_iconst (v := 2) hx hb dX11_harmOf_103 (by decide) ?_
          have cut126_12 : ∀ (y11 : Int32) (H : Heap) (locs : List Loc), y11 = hTr (fst (20 + 3 * b)) (fst (2 * i + 1)) → va_P (dC, dI) vwCl [(h0, .inr (11, [.ref st, .int (nI N), .int (nI B), .ref rp, .int vrs, .int vrb, .int vhs, .int vca, .int vxs, .int vxb, .ref tp, .int (nI T), .int vfa, .int vbr, .int vba, .int vsp, .int vhe, .int vtk, .int vva, .ref cu, .ref lt, .ref od, .ref th, .ref be, .ref ln, .int (nI S), .ref ma, .int (nI M), .ref ah, .ref bh, .ref ik, .ref la, .ref lg, .ref ce, .int vto])), (st, .inl (G 0, 196, .inl fst))] H → va_S (fun q : Nat => s.heap.size ≤ q) s.heap H locs → ∀ (ls : Array Slot), lv_has ls 10 [(7, .int ((fst ((2 * i) + 1)) - (fst ((20 + (3 * b)) + 2)))), (6, .int ((hQt fst i q) - (hK' (fst (20 + 3 * b))))), (5, .int (fst (20 + 3 * b))), (0, .ref h0), (1, .int (nI i)), (2, .int (nI a)), (3, .int (nI b)), (4, .int q)] → W p l e (headSpec (Cond.code yX11_harmOf cX11_harmOf 10 (some .int) :: GT) ({ frames := 1, cells := 0, slots := 0, locals := 21 } : Room)).room s m ([.ref h0, .int (nI i), .int (nI a), .int (nI b), .int q] : List Value).toArray below meth c H locs 0 0 (MQ below (va_Qi (fun (r : Int32) (u : Unit) => match u with | _ => (r = rhB fst i a b q) ∧ True) (fun _ _ => True) (fun q : Nat => s.heap.size ≤ q)) ([.ref h0, .int (nI i), .int (nI a), .int (nI b), .int q] : List Value).toArray s 0 0 (fun q : Nat => s.heap.size ≤ q)) (F0 m 126 ls [.int y11, .int ((hPos ((hQt fst i q) - (hK' (fst (20 + 3 * b))))) + (hPos ((fst ((2 * i) + 1)) - (fst ((20 + (3 * b)) + 2)))))]) := by
            intro y11 H locs hcut hP hS ls hl
            subst hcut
            refine lv_iadd hx hb dX11_harmOf_126 ?_
            refine lv_istore (lv' := [(8, .int (((hPos ((hQt fst i q) - (hK' (fst (20 + 3 * b))))) + (hPos ((fst ((2 * i) + 1)) - (fst ((20 + (3 * b)) + 2))))) + (hTr (fst (20 + 3 * b)) (fst (2 * i + 1))))), (7, .int ((fst ((2 * i) + 1)) - (fst ((20 + (3 * b)) + 2)))), (6, .int ((hQt fst i q) - (hK' (fst (20 + 3 * b))))), (5, .int (fst (20 + 3 * b))), (0, .ref h0), (1, .int (nI i)), (2, .int (nI a)), (3, .int (nI b)), (4, .int q)]) hx hb dX11_harmOf_127 hl (by decide) rfl (fun ls hl => ?_)
            refine lv_iload_n hx hb dX11_harmOf_129 rfl (lv_at hl 6 rfl) ?_
            refine lv_bipush (v := (-4)) hx hb dX11_harmOf_130 (by decide) ?_
            have cut219_14 : ∀ (y13 : Int32) (H : Heap) (locs : List Loc), y13 = (if a = b ∨ (fst (20 + 3 * b) = 4 ∧ fst (20 + 3 * a) = 4) then rhS fst i b q else rhS fst i b q + hJo (fst (20 + 3 * b)) (hAbs (fst (20 + 3 * a + 1) - fst (20 + 3 * b + 1)))) → va_P (dC, dI) vwCl [(h0, .inr (11, [.ref st, .int (nI N), .int (nI B), .ref rp, .int vrs, .int vrb, .int vhs, .int vca, .int vxs, .int vxb, .ref tp, .int (nI T), .int vfa, .int vbr, .int vba, .int vsp, .int vhe, .int vtk, .int vva, .ref cu, .ref lt, .ref od, .ref th, .ref be, .ref ln, .int (nI S), .ref ma, .int (nI M), .ref ah, .ref bh, .ref ik, .ref la, .ref lg, .ref ce, .int vto])), (st, .inl (G 0, 196, .inl fst))] H → va_S (fun q : Nat => s.heap.size ≤ q) s.heap H locs → ∀ (ls : Array Slot), lv_has ls 10 [(8, .int y13), (7, .int ((fst ((2 * i) + 1)) - (fst ((20 + (3 * b)) + 2)))), (6, .int ((hQt fst i q) - (hK' (fst (20 + 3 * b))))), (5, .int (fst (20 + 3 * b))), (0, .ref h0), (1, .int (nI i)), (2, .int (nI a)), (3, .int (nI b)), (4, .int q)] → W p l e (headSpec (Cond.code yX11_harmOf cX11_harmOf 10 (some .int) :: GT) ({ frames := 1, cells := 0, slots := 0, locals := 21 } : Room)).room s m ([.ref h0, .int (nI i), .int (nI a), .int (nI b), .int q] : List Value).toArray below meth c H locs 0 0 (MQ below (va_Qi (fun (r : Int32) (u : Unit) => match u with | _ => (r = rhB fst i a b q) ∧ True) (fun _ _ => True) (fun q : Nat => s.heap.size ≤ q)) ([.ref h0, .int (nI i), .int (nI a), .int (nI b), .int q] : List Value).toArray s 0 0 (fun q : Nat => s.heap.size ≤ q)) (F0 m 219 ls []) := by
              intro y13 H locs hcut hP hS ls hl
              subst hcut
              refine lv_iload hx hb dX11_harmOf_219 (lv_at hl 0 rfl) ?_
              refine lv_bipush (v := 20) hx hb dX11_harmOf_221 (by decide) ?_
              refine lv_icmp_le (tgt := 231) hx hb dX11_harmOf_223 (by decide) (fun c15 => ?_) (fun c15 => ?_)
              · skip
                refine lv_iload hx hb dX11_harmOf_231 (lv_at hl 0 rfl) ?_
                have hpost : ((if a = b ∨ (fst (20 + 3 * b) = 4 ∧ fst (20 + 3 * a) = 4) then rhS fst i b q else rhS fst i b q + hJo (fst (20 + 3 * b)) (hAbs (fst (20 + 3 * a + 1) - fst (20 + 3 * b + 1)))) : Int32) = rhB fst i a b q := by
                  unfold rhB hTop
                  first | exact (if_pos (by assumption)).symm | exact (if_neg (by assumption)).symm
                refine W.widen (k := 0) (n := 0) (by omega) (by omega) ?_
                exact W.iret (v := (if a = b ∨ (fst (20 + 3 * b) = 4 ∧ fst (20 + 3 * a) = 4) then rhS fst i b q else rhS fst i b q + hJo (fst (20 + 3 * b)) (hAbs (fst (20 + 3 * a + 1) - fst (20 + 3 * b + 1))))) hx hb hr (fun t ht hW => ⟨⟨(if a = b ∨ (fst (20 + 3 * b) = 4 ∧ fst (20 + 3 * a) = 4) then rhS fst i b q else rhS fst i b q + hJo (fst (20 + 3 * b)) (hAbs (fst (20 + 3 * a + 1) - fst (20 + 3 * b + 1)))), (), rfl, ⟨hpost, trivial⟩, trivial⟩, hS.F ht⟩) hS.2.2 dX11_harmOf_233
              · skip
                refine lv_bipush (v := 20) hx hb dX11_harmOf_226 (by decide) ?_
                refine lv_goto (tgt := 233) hx hb dX11_harmOf_228 (by decide) ?_
                have hpost : (20 : Int32) = rhB fst i a b q := by
                  unfold rhB hTop
                  first | exact (if_pos (by assumption)).symm | exact (if_neg (by assumption)).symm
                refine W.widen (k := 0) (n := 0) (by omega) (by omega) ?_
                exact W.iret (v := 20) hx hb hr (fun t ht hW => ⟨⟨20, (), rfl, ⟨hpost, trivial⟩, trivial⟩, hS.F ht⟩) hS.2.2 dX11_harmOf_233
            refine lv_icmp_eq (tgt := 219) hx hb dX11_harmOf_132 (by decide) (fun c16 => ?_) (fun c16 => ?_)
            · skip
              have t_c16 := eqI c16
              have : ((-4) : Int32).toInt = -4 := (by decide)
              have t_n0 : (nI i).toInt = (i : Int) := nI_toInt (by omega)
              have t_n1 : (nI a).toInt = (a : Int) := nI_toInt (by omega)
              have t_n2 : (nI b).toInt = (b : Int) := nI_toInt (by omega)
              have t_n3 : (nI N).toInt = (N : Int) := nI_toInt (by omega)
              have t_n4 : (nI B).toInt = (B : Int) := nI_toInt (by omega)
              have t_n5 : (nI T).toInt = (T : Int) := nI_toInt (by omega)
              have t_n6 : (nI S).toInt = (S : Int) := nI_toInt (by omega)
              have t_n7 : (nI M).toInt = (M : Int) := nI_toInt (by omega)
              exfalso; omega
            · skip
              refine lv_iload_n hx hb dX11_harmOf_135 rfl (lv_at hl 6 rfl) ?_
              refine lv_iload_n hx hb dX11_harmOf_136 rfl (lv_at hl 7 rfl) ?_
              refine lv_icmp_eq (tgt := 219) hx hb dX11_harmOf_137 (by decide) (fun c17 => ?_) (fun c17 => ?_)
              · skip
                have n18 : a = b := by have t := eqI c17; rw [nI_toInt (n := a) (by omega)] at t; rw [nI_toInt (n := b) (by omega)] at t; omega
                exact cut219_14 (((hPos ((hQt fst i q) - (hK' (fst (20 + 3 * b))))) + (hPos ((fst ((2 * i) + 1)) - (fst ((20 + (3 * b)) + 2))))) + (hTr (fst (20 + 3 * b)) (fst (2 * i + 1)))) _ _ (by first | (have h9 : (a = b ∨ (fst (20 + 3 * b) = 4 ∧ fst (20 + 3 * a) = 4)) := Or.inl (by omega); rw [if_pos h9]; rfl) | (have h9 : (a = b ∨ (fst (20 + 3 * b) = 4 ∧ fst (20 + 3 * a) = 4)) := Or.inr ⟨by assumption, by assumption⟩; rw [if_pos h9]; rfl) | (have h9 : ¬ (a = b ∨ (fst (20 + 3 * b) = 4 ∧ fst (20 + 3 * a) = 4)) := (fun h9 => h9.elim (fun h8 => absurd h8 (by omega)) (fun h8 => absurd h8.1 (by assumption))); rw [if_neg h9]; first | rfl | (unfold hJo; rw [if_neg (by assumption)]; rfl)) | (have h9 : ¬ (a = b ∨ (fst (20 + 3 * b) = 4 ∧ fst (20 + 3 * a) = 4)) := (fun h9 => h9.elim (fun h8 => absurd h8 (by omega)) (fun h8 => absurd h8.2 (by assumption))); rw [if_neg h9]; first | rfl | (unfold hJo; rw [if_neg (by assumption)]; rfl))) hP hS ls (lv_sub hl [0, 1, 2, 3, 4, 5, 6, 7, 8] rfl)
              · skip
                have n19 : a ≠ b := by have t := neI c17; rw [nI_toInt (n := a) (by omega)] at t; rw [nI_toInt (n := b) (by omega)] at t; omega
                refine lv_iload hx hb dX11_harmOf_140 (lv_at hl 3 rfl) ?_
                refine lv_iconst (v := 4) hx hb dX11_harmOf_142 (by decide) ?_
                refine lv_icmp_ne (tgt := 155) hx hb dX11_harmOf_143 (by decide) (fun c20 => ?_) (fun c20 => ?_)
                · skip
                  refine lv_aload_n hx hb dX11_harmOf_155 rfl (lv_at hl 4 rfl) ?_
                  refine va_get (D := (dC, dI)) (ci := 11) (v := .ref st) (C := RX11) (T := TX11) (N := 35) hx hb hg inG11 hown hK.1 hP 0 rfl rfl 0 (by decide) (hg _ wt_878) (fun _ h9 => h9) rfl dX11_harmOf_156 ?_
                  refine lv_bipush (v := 20) hx hb dX11_harmOf_159 (by decide) ?_
                  refine lv_iconst (v := 3) hx hb dX11_harmOf_161 (by decide) ?_
                  refine lv_iload_n hx hb dX11_harmOf_162 rfl (lv_at hl 6 rfl) ?_
                  refine lv_imul hx hb dX11_harmOf_163 ?_
                  refine lv_cg (y := nI (3 * a)) (by rw [show (3 : Int32) = nI 3 from rfl]; exact pk_mul _ _) ?_
                  refine lv_iadd hx hb dX11_harmOf_164 ?_
                  refine lv_cg (y := nI (20 + (3 * a))) (by rw [show (20 : Int32) = nI 20 from rfl]; exact nI_add _ _) ?_
                  refine lv_iconst (v := 1) hx hb dX11_harmOf_165 (by decide) ?_
                  refine lv_iadd hx hb dX11_harmOf_166 ?_
                  refine lv_cg (y := nI ((20 + (3 * a)) + 1)) (by rw [show (1 : Int32) = nI 1 from rfl]; exact nI_add _ _) ?_
                  refine va_iald hx hb hK.1 hP 1 0 rfl rfl (vp_in_nI (by have t_c16 := neI c16; have t_n19 := n19; have t_c20 := neI c20; have : ((-4) : Int32).toInt = -4 := (by decide); have : (4 : Int32).toInt = 4 := (by decide); have t_n0 : (nI i).toInt = (i : Int) := nI_toInt (by omega); have t_n1 : (nI a).toInt = (a : Int) := nI_toInt (by omega); have t_n2 : (nI b).toInt = (b : Int) := nI_toInt (by omega); have t_n3 : (nI N).toInt = (N : Int) := nI_toInt (by omega); have t_n4 : (nI B).toInt = (B : Int) := nI_toInt (by omega); have t_n5 : (nI T).toInt = (T : Int) := nI_toInt (by omega); have t_n6 : (nI S).toInt = (S : Int) := nI_toInt (by omega); have t_n7 : (nI M).toInt = (M : Int) := nI_toInt (by omega); omega) (by decide)) dX11_harmOf_167 ?_
                  refine lv_cg (y := fst ((20 + (3 * a)) + 1)) (by rw [nI_clamp (by omega)]) ?_
                  refine lv_aload_n hx hb dX11_harmOf_168 rfl (lv_at hl 4 rfl) ?_
                  refine va_get (D := (dC, dI)) (ci := 11) (v := .ref st) (C := RX11) (T := TX11) (N := 35) hx hb hg inG11 hown hK.1 hP 0 rfl rfl 0 (by decide) (hg _ wt_878) (fun _ h9 => h9) rfl dX11_harmOf_169 ?_
                  refine lv_bipush (v := 20) hx hb dX11_harmOf_172 (by decide) ?_
                  refine lv_iconst (v := 3) hx hb dX11_harmOf_174 (by decide) ?_
                  refine lv_iload_n hx hb dX11_harmOf_175 rfl (lv_at hl 7 rfl) ?_
                  refine lv_imul hx hb dX11_harmOf_176 ?_
                  refine lv_cg (y := nI (3 * b)) (by rw [show (3 : Int32) = nI 3 from rfl]; exact pk_mul _ _) ?_
                  refine lv_iadd hx hb dX11_harmOf_177 ?_
                  refine lv_cg (y := nI (20 + (3 * b))) (by rw [show (20 : Int32) = nI 20 from rfl]; exact nI_add _ _) ?_
                  refine lv_iconst (v := 1) hx hb dX11_harmOf_178 (by decide) ?_
                  refine lv_iadd hx hb dX11_harmOf_179 ?_
                  refine lv_cg (y := nI ((20 + (3 * b)) + 1)) (by rw [show (1 : Int32) = nI 1 from rfl]; exact nI_add _ _) ?_
                  refine va_iald hx hb hK.1 hP 1 0 rfl rfl (vp_in_nI (by have t_c16 := neI c16; have t_n19 := n19; have t_c20 := neI c20; have : ((-4) : Int32).toInt = -4 := (by decide); have : (4 : Int32).toInt = 4 := (by decide); have t_n0 : (nI i).toInt = (i : Int) := nI_toInt (by omega); have t_n1 : (nI a).toInt = (a : Int) := nI_toInt (by omega); have t_n2 : (nI b).toInt = (b : Int) := nI_toInt (by omega); have t_n3 : (nI N).toInt = (N : Int) := nI_toInt (by omega); have t_n4 : (nI B).toInt = (B : Int) := nI_toInt (by omega); have t_n5 : (nI T).toInt = (T : Int) := nI_toInt (by omega); have t_n6 : (nI S).toInt = (S : Int) := nI_toInt (by omega); have t_n7 : (nI M).toInt = (M : Int) := nI_toInt (by omega); omega) (by decide)) dX11_harmOf_180 ?_
                  refine lv_cg (y := fst ((20 + (3 * b)) + 1)) (by rw [nI_clamp (by omega)]) ?_
                  refine lv_isub hx hb dX11_harmOf_181 ?_
                  refine lv_istore (lv' := [(9, .int ((fst ((20 + (3 * a)) + 1)) - (fst ((20 + (3 * b)) + 1)))), (8, .int (((hPos ((hQt fst i q) - (hK' (fst (20 + 3 * b))))) + (hPos ((fst ((2 * i) + 1)) - (fst ((20 + (3 * b)) + 2))))) + (hTr (fst (20 + 3 * b)) (fst (2 * i + 1))))), (7, .int ((fst ((2 * i) + 1)) - (fst ((20 + (3 * b)) + 2)))), (6, .int ((hQt fst i q) - (hK' (fst (20 + 3 * b))))), (5, .int (fst (20 + 3 * b))), (0, .ref h0), (1, .int (nI i)), (2, .int (nI a)), (3, .int (nI b)), (4, .int q)]) hx hb dX11_harmOf_182 hl (by decide) rfl (fun ls hl => ?_)
                  refine lv_iload hx hb dX11_harmOf_184 (lv_at hl 0 rfl) ?_
                  have cut197_22 : ∀ (y21 : Int32) (H : Heap) (locs : List Loc), y21 = hAbs ((fst ((20 + (3 * a)) + 1)) - (fst ((20 + (3 * b)) + 1))) → va_P (dC, dI) vwCl [(h0, .inr (11, [.ref st, .int (nI N), .int (nI B), .ref rp, .int vrs, .int vrb, .int vhs, .int vca, .int vxs, .int vxb, .ref tp, .int (nI T), .int vfa, .int vbr, .int vba, .int vsp, .int vhe, .int vtk, .int vva, .ref cu, .ref lt, .ref od, .ref th, .ref be, .ref ln, .int (nI S), .ref ma, .int (nI M), .ref ah, .ref bh, .ref ik, .ref la, .ref lg, .ref ce, .int vto])), (st, .inl (G 0, 196, .inl fst))] H → va_S (fun q : Nat => s.heap.size ≤ q) s.heap H locs → ∀ (ls : Array Slot), lv_has ls 10 [(9, .int ((fst ((20 + (3 * a)) + 1)) - (fst ((20 + (3 * b)) + 1)))), (8, .int (((hPos ((hQt fst i q) - (hK' (fst (20 + 3 * b))))) + (hPos ((fst ((2 * i) + 1)) - (fst ((20 + (3 * b)) + 2))))) + (hTr (fst (20 + 3 * b)) (fst (2 * i + 1))))), (7, .int ((fst ((2 * i) + 1)) - (fst ((20 + (3 * b)) + 2)))), (6, .int ((hQt fst i q) - (hK' (fst (20 + 3 * b))))), (5, .int (fst (20 + 3 * b))), (0, .ref h0), (1, .int (nI i)), (2, .int (nI a)), (3, .int (nI b)), (4, .int q)] → W p l e (headSpec (Cond.code yX11_harmOf cX11_harmOf 10 (some .int) :: GT) ({ frames := 1, cells := 0, slots := 0, locals := 21 } : Room)).room s m ([.ref h0, .int (nI i), .int (nI a), .int (nI b), .int q] : List Value).toArray below meth c H locs 0 0 (MQ below (va_Qi (fun (r : Int32) (u : Unit) => match u with | _ => (r = rhB fst i a b q) ∧ True) (fun _ _ => True) (fun q : Nat => s.heap.size ≤ q)) ([.ref h0, .int (nI i), .int (nI a), .int (nI b), .int q] : List Value).toArray s 0 0 (fun q : Nat => s.heap.size ≤ q)) (F0 m 197 ls [.int y21]) := by
                    intro y21 H locs hcut hP hS ls hl
                    subst hcut
                    refine lv_istore (lv' := [(9, .int (hAbs ((fst ((20 + (3 * a)) + 1)) - (fst ((20 + (3 * b)) + 1))))), (8, .int (((hPos ((hQt fst i q) - (hK' (fst (20 + 3 * b))))) + (hPos ((fst ((2 * i) + 1)) - (fst ((20 + (3 * b)) + 2))))) + (hTr (fst (20 + 3 * b)) (fst (2 * i + 1))))), (7, .int ((fst ((2 * i) + 1)) - (fst ((20 + (3 * b)) + 2)))), (6, .int ((hQt fst i q) - (hK' (fst (20 + 3 * b))))), (5, .int (fst (20 + 3 * b))), (0, .ref h0), (1, .int (nI i)), (2, .int (nI a)), (3, .int (nI b)), (4, .int q)]) hx hb dX11_harmOf_197 hl (by decide) rfl (fun ls hl => ?_)
                    refine lv_iload hx hb dX11_harmOf_199 (lv_at hl 1 rfl) ?_
                    refine lv_iload hx hb dX11_harmOf_201 (lv_at hl 4 rfl) ?_
                    refine lv_iconst (v := 5) hx hb dX11_harmOf_203 (by decide) ?_
                    have cut216_24 : ∀ (y23 : Int32) (H : Heap) (locs : List Loc), y23 = hJo (fst (20 + 3 * b)) (hAbs ((fst ((20 + (3 * a)) + 1)) - (fst ((20 + (3 * b)) + 1)))) → va_P (dC, dI) vwCl [(h0, .inr (11, [.ref st, .int (nI N), .int (nI B), .ref rp, .int vrs, .int vrb, .int vhs, .int vca, .int vxs, .int vxb, .ref tp, .int (nI T), .int vfa, .int vbr, .int vba, .int vsp, .int vhe, .int vtk, .int vva, .ref cu, .ref lt, .ref od, .ref th, .ref be, .ref ln, .int (nI S), .ref ma, .int (nI M), .ref ah, .ref bh, .ref ik, .ref la, .ref lg, .ref ce, .int vto])), (st, .inl (G 0, 196, .inl fst))] H → va_S (fun q : Nat => s.heap.size ≤ q) s.heap H locs → ∀ (ls : Array Slot), lv_has ls 10 [(9, .int (hAbs ((fst ((20 + (3 * a)) + 1)) - (fst ((20 + (3 * b)) + 1))))), (8, .int (((hPos ((hQt fst i q) - (hK' (fst (20 + 3 * b))))) + (hPos ((fst ((2 * i) + 1)) - (fst ((20 + (3 * b)) + 2))))) + (hTr (fst (20 + 3 * b)) (fst (2 * i + 1))))), (7, .int ((fst ((2 * i) + 1)) - (fst ((20 + (3 * b)) + 2)))), (6, .int ((hQt fst i q) - (hK' (fst (20 + 3 * b))))), (5, .int (fst (20 + 3 * b))), (0, .ref h0), (1, .int (nI i)), (2, .int (nI a)), (3, .int (nI b)), (4, .int q)] → W p l e (headSpec (Cond.code yX11_harmOf cX11_harmOf 10 (some .int) :: GT) ({ frames := 1, cells := 0, slots := 0, locals := 21 } : Room)).room s m ([.ref h0, .int (nI i), .int (nI a), .int (nI b), .int q] : List Value).toArray below meth c H locs 0 0 (MQ below (va_Qi (fun (r : Int32) (u : Unit) => match u with | _ => (r = rhB fst i a b q) ∧ True) (fun _ _ => True) (fun q : Nat => s.heap.size ≤ q)) ([.ref h0, .int (nI i), .int (nI a), .int (nI b), .int q] : List Value).toArray s 0 0 (fun q : Nat => s.heap.size ≤ q)) (F0 m 216 ls [.int y23, .int (((hPos ((hQt fst i q) - (hK' (fst (20 + 3 * b))))) + (hPos ((fst ((2 * i) + 1)) - (fst ((20 + (3 * b)) + 2))))) + (hTr (fst (20 + 3 * b)) (fst (2 * i + 1))))]) := by
                      intro y23 H locs hcut hP hS ls hl
                      subst hcut
                      refine lv_iadd hx hb dX11_harmOf_216 ?_
                      refine lv_istore (lv' := [(8, .int ((((hPos ((hQt fst i q) - (hK' (fst (20 + 3 * b))))) + (hPos ((fst ((2 * i) + 1)) - (fst ((20 + (3 * b)) + 2))))) + (hTr (fst (20 + 3 * b)) (fst (2 * i + 1)))) + (hJo (fst (20 + 3 * b)) (hAbs ((fst ((20 + (3 * a)) + 1)) - (fst ((20 + (3 * b)) + 1))))))), (9, .int (hAbs ((fst ((20 + (3 * a)) + 1)) - (fst ((20 + (3 * b)) + 1))))), (7, .int ((fst ((2 * i) + 1)) - (fst ((20 + (3 * b)) + 2)))), (6, .int ((hQt fst i q) - (hK' (fst (20 + 3 * b))))), (5, .int (fst (20 + 3 * b))), (0, .ref h0), (1, .int (nI i)), (2, .int (nI a)), (3, .int (nI b)), (4, .int q)]) hx hb dX11_harmOf_217 hl (by decide) rfl (fun ls hl => ?_)
                      exact cut219_14 ((((hPos ((hQt fst i q) - (hK' (fst (20 + 3 * b))))) + (hPos ((fst ((2 * i) + 1)) - (fst ((20 + (3 * b)) + 2))))) + (hTr (fst (20 + 3 * b)) (fst (2 * i + 1)))) + (hJo (fst (20 + 3 * b)) (hAbs ((fst ((20 + (3 * a)) + 1)) - (fst ((20 + (3 * b)) + 1)))))) _ _ (by first | (have h9 : (a = b ∨ (fst (20 + 3 * b) = 4 ∧ fst (20 + 3 * a) = 4)) := Or.inl (by omega); rw [if_pos h9]; rfl) | (have h9 : (a = b ∨ (fst (20 + 3 * b) = 4 ∧ fst (20 + 3 * a) = 4)) := Or.inr ⟨by assumption, by assumption⟩; rw [if_pos h9]; rfl) | (have h9 : ¬ (a = b ∨ (fst (20 + 3 * b) = 4 ∧ fst (20 + 3 * a) = 4)) := (fun h9 => h9.elim (fun h8 => absurd h8 (by omega)) (fun h8 => absurd h8.1 (by assumption))); rw [if_neg h9]; first | rfl | (unfold hJo; rw [if_neg (by assumption)]; rfl)) | (have h9 : ¬ (a = b ∨ (fst (20 + 3 * b) = 4 ∧ fst (20 + 3 * a) = 4)) := (fun h9 => h9.elim (fun h8 => absurd h8 (by omega)) (fun h8 => absurd h8.2 (by assumption))); rw [if_neg h9]; first | rfl | (unfold hJo; rw [if_neg (by assumption)]; rfl))) hP hS ls (lv_sub hl [0, 2, 3, 4, 5, 6, 7, 8, 9] rfl)
                    refine lv_icmp_ne (tgt := 214) hx hb dX11_harmOf_204 (by decide) (fun c25 => ?_) (fun c25 => ?_)
                    · skip
                      refine lv_iload hx hb dX11_harmOf_214 (lv_at hl 0 rfl) ?_
                      exact cut216_24 (hAbs ((fst ((20 + (3 * a)) + 1)) - (fst ((20 + (3 * b)) + 1)))) _ _ (by first | exact (if_pos (by assumption)).symm | exact (if_neg (by assumption)).symm | exact ((if_neg (by assumption)).trans (if_pos (by assumption))).symm | exact ((if_neg (by assumption)).trans (if_neg (by assumption))).symm | exact (if_pos ⟨by assumption, by assumption⟩).symm | exact (if_neg (fun h9 => absurd h9.1 (by assumption))).symm | exact (if_neg (fun h9 => h9.2 (by assumption))).symm) hP hS ls (lv_sub hl [0, 1, 2, 3, 4, 5, 6, 7, 8, 9] rfl)
                    · skip
                      refine lv_iload hx hb dX11_harmOf_207 (lv_at hl 0 rfl) ?_
                      refine lv_iconst (v := 2) hx hb dX11_harmOf_209 (by decide) ?_
                      refine lv_idiv hx hb dX11_harmOf_210 (by decide) ?_
                      refine lv_goto (tgt := 216) hx hb dX11_harmOf_211 (by decide) ?_
                      exact cut216_24 ((hAbs ((fst ((20 + (3 * a)) + 1)) - (fst ((20 + (3 * b)) + 1)))) / 2) _ _ (by first | exact (if_pos (by assumption)).symm | exact (if_neg (by assumption)).symm | exact ((if_neg (by assumption)).trans (if_pos (by assumption))).symm | exact ((if_neg (by assumption)).trans (if_neg (by assumption))).symm | exact (if_pos ⟨by assumption, by assumption⟩).symm | exact (if_neg (fun h9 => absurd h9.1 (by assumption))).symm | exact (if_neg (fun h9 => h9.2 (by assumption))).symm) hP hS ls (lv_sub hl [0, 1, 2, 3, 4, 5, 6, 7, 8, 9] rfl)
                  refine lv_if_ge (tgt := 195) hx hb dX11_harmOf_186 (by decide) (fun c26 => ?_) (fun c26 => ?_)
                  · skip
                    refine lv_iload hx hb dX11_harmOf_195 (lv_at hl 0 rfl) ?_
                    exact cut197_22 ((fst ((20 + (3 * a)) + 1)) - (fst ((20 + (3 * b)) + 1))) _ _ (by first | exact (if_pos (by assumption)).symm | exact (if_neg (by assumption)).symm | exact ((if_neg (by assumption)).trans (if_pos (by assumption))).symm | exact ((if_neg (by assumption)).trans (if_neg (by assumption))).symm | exact (if_pos ⟨by assumption, by assumption⟩).symm | exact (if_neg (fun h9 => absurd h9.1 (by assumption))).symm | exact (if_neg (fun h9 => h9.2 (by assumption))).symm) hP hS ls (lv_sub hl [0, 1, 2, 3, 4, 5, 6, 7, 8, 9] rfl)
                  · skip
                    refine lv_iload hx hb dX11_harmOf_189 (lv_at hl 0 rfl) ?_
                    refine lv_ineg hx hb dX11_harmOf_191 ?_
                    refine lv_goto (tgt := 197) hx hb dX11_harmOf_192 (by decide) ?_
                    exact cut197_22 (-((fst ((20 + (3 * a)) + 1)) - (fst ((20 + (3 * b)) + 1)))) _ _ (by first | exact (if_pos (by assumption)).symm | exact (if_neg (by assumption)).symm | exact ((if_neg (by assumption)).trans (if_pos (by assumption))).symm | exact ((if_neg (by assumption)).trans (if_neg (by assumption))).symm | exact (if_pos ⟨by assumption, by assumption⟩).symm | exact (if_neg (fun h9 => absurd h9.1 (by assumption))).symm | exact (if_neg (fun h9 => h9.2 (by assumption))).symm) hP hS ls (lv_sub hl [0, 1, 2, 3, 4, 5, 6, 7, 8, 9] rfl)
                · skip
                  refine lv_aload_n hx hb dX11_harmOf_146 rfl (lv_at hl 4 rfl) ?_
                  refine lv_iload_n hx hb dX11_harmOf_147 rfl (lv_at hl 6 rfl) ?_
                  have hPc := hP.sub (ws' := [(h0, .inr (11, [.ref st, .int (nI N), .int (nI B), .ref rp, .int vrs, .int vrb, .int vhs, .int vca, .int vxs, .int vxb, .ref tp, .int (nI T), .int vfa, .int vbr, .int vba, .int vsp, .int vhe, .int vtk, .int vva, .ref cu, .ref lt, .ref od, .ref th, .ref be, .ref ln, .int (nI S), .ref ma, .int (nI M), .ref ah, .ref bh, .ref ik, .ref la, .ref lg, .ref ce, .int vto])), (st, .inl (G 0, 196, .inl fst))]) [0, 1] rfl
                  refine va_calli (va_runV (As := [.int (nI a)]) (rest := []) ⟨hx, hb, hml, hown, hg⟩ (c_X11_kindOf l dC dI G _ h0 a st N B rp tp T cu lt od th be ln S ma M ah bh ik la lg ce vrs vrb vhs vca vxs vxb vfa vbr vba vsp vhe vtk vva vto fst (by have t_c16 := neI c16; have t_n19 := n19; have t_c20 := eqI c20; have : ((-4) : Int32).toInt = -4 := (by decide); have : (4 : Int32).toInt = 4 := (by decide); have t_n0 : (nI i).toInt = (i : Int) := nI_toInt (by omega); have t_n1 : (nI a).toInt = (a : Int) := nI_toInt (by omega); have t_n2 : (nI b).toInt = (b : Int) := nI_toInt (by omega); have t_n3 : (nI N).toInt = (N : Int) := nI_toInt (by omega); have t_n4 : (nI B).toInt = (B : Int) := nI_toInt (by omega); have t_n5 : (nI T).toInt = (T : Int) := nI_toInt (by omega); have t_n6 : (nI S).toInt = (S : Int) := nI_toInt (by omega); have t_n7 : (nI M).toInt = (M : Int) := nI_toInt (by omega); omega) (by have t_c16 := neI c16; have t_n19 := n19; have t_c20 := eqI c20; have : ((-4) : Int32).toInt = -4 := (by decide); have : (4 : Int32).toInt = 4 := (by decide); have t_n0 : (nI i).toInt = (i : Int) := nI_toInt (by omega); have t_n1 : (nI a).toInt = (a : Int) := nI_toInt (by omega); have t_n2 : (nI b).toInt = (b : Int) := nI_toInt (by omega); have t_n3 : (nI N).toInt = (N : Int) := nI_toInt (by omega); have t_n4 : (nI B).toInt = (B : Int) := nI_toInt (by omega); have t_n5 : (nI T).toInt = (T : Int) := nI_toInt (by omega); have t_n6 : (nI S).toInt = (S : Int) := nI_toInt (by omega); have t_n7 : (nI M).toInt = (M : Int) := nI_toInt (by omega); omega) (by have t_c16 := neI c16; have t_n19 := n19; have t_c20 := eqI c20; have : ((-4) : Int32).toInt = -4 := (by decide); have : (4 : Int32).toInt = 4 := (by decide); have t_n0 : (nI i).toInt = (i : Int) := nI_toInt (by omega); have t_n1 : (nI a).toInt = (a : Int) := nI_toInt (by omega); have t_n2 : (nI b).toInt = (b : Int) := nI_toInt (by omega); have t_n3 : (nI N).toInt = (N : Int) := nI_toInt (by omega); have t_n4 : (nI B).toInt = (B : Int) := nI_toInt (by omega); have t_n5 : (nI T).toInt = (T : Int) := nI_toInt (by omega); have t_n6 : (nI S).toInt = (S : Int) := nI_toInt (by omega); have t_n7 : (nI M).toInt = (M : Int) := nI_toInt (by omega); omega) (by have t_c16 := neI c16; have t_n19 := n19; have t_c20 := eqI c20; have : ((-4) : Int32).toInt = -4 := (by decide); have : (4 : Int32).toInt = 4 := (by decide); have t_n0 : (nI i).toInt = (i : Int) := nI_toInt (by omega); have t_n1 : (nI a).toInt = (a : Int) := nI_toInt (by omega); have t_n2 : (nI b).toInt = (b : Int) := nI_toInt (by omega); have t_n3 : (nI N).toInt = (N : Int) := nI_toInt (by omega); have t_n4 : (nI B).toInt = (B : Int) := nI_toInt (by omega); have t_n5 : (nI T).toInt = (T : Int) := nI_toInt (by omega); have t_n6 : (nI S).toInt = (S : Int) := nI_toInt (by omega); have t_n7 : (nI M).toInt = (M : Int) := nI_toInt (by omega); omega) (by have t_c16 := neI c16; have t_n19 := n19; have t_c20 := eqI c20; have : ((-4) : Int32).toInt = -4 := (by decide); have : (4 : Int32).toInt = 4 := (by decide); have t_n0 : (nI i).toInt = (i : Int) := nI_toInt (by omega); have t_n1 : (nI a).toInt = (a : Int) := nI_toInt (by omega); have t_n2 : (nI b).toInt = (b : Int) := nI_toInt (by omega); have t_n3 : (nI N).toInt = (N : Int) := nI_toInt (by omega); have t_n4 : (nI B).toInt = (B : Int) := nI_toInt (by omega); have t_n5 : (nI T).toInt = (T : Int) := nI_toInt (by omega); have t_n6 : (nI S).toInt = (S : Int) := nI_toInt (by omega); have t_n7 : (nI M).toInt = (M : Int) := nI_toInt (by omega); omega) (by have t_c16 := neI c16; have t_n19 := n19; have t_c20 := eqI c20; have : ((-4) : Int32).toInt = -4 := (by decide); have : (4 : Int32).toInt = 4 := (by decide); have t_n0 : (nI i).toInt = (i : Int) := nI_toInt (by omega); have t_n1 : (nI a).toInt = (a : Int) := nI_toInt (by omega); have t_n2 : (nI b).toInt = (b : Int) := nI_toInt (by omega); have t_n3 : (nI N).toInt = (N : Int) := nI_toInt (by omega); have t_n4 : (nI B).toInt = (B : Int) := nI_toInt (by omega); have t_n5 : (nI T).toInt = (T : Int) := nI_toInt (by omega); have t_n6 : (nI S).toInt = (S : Int) := nI_toInt (by omega); have t_n7 : (nI M).toInt = (M : Int) := nI_toInt (by omega); omega)) (kwV hg mfX11_kindOf wt_1110 ⟨Nat.le_of_ble_eq_true rfl, Nat.le_of_ble_eq_true rfl⟩) (preVR hK hPc (ci := 11) rfl rfl) rfl rfl hl.1 rfl (lv_room (Nat.le_of_ble_eq_true rfl)) dX11_harmOf_148 ⟨Nat.le_of_ble_eq_true rfl, Nat.le_of_ble_eq_true rfl⟩) hS (fun q h1 h2 => absurd h2 (Nat.not_le.mpr h1)) (fun q h => hA q (Nat.le_trans hS.1 h)) (fun r27 ur27 t H1 locs ht hvm w28 hB hz1 hk1 hS => ?_)
                  have hP := keepR hP hk1
                  obtain ⟨w28, w28x⟩ := w28
                  subst w28
                  refine lv_iconst (v := 4) hx hb dX11_harmOf_151 (by decide) ?_
                  refine lv_icmp_eq (tgt := 219) hx hb dX11_harmOf_152 (by decide) (fun c29 => ?_) (fun c29 => ?_)
                  · skip
                    exact cut219_14 (((hPos ((hQt fst i q) - (hK' (fst (20 + 3 * b))))) + (hPos ((fst ((2 * i) + 1)) - (fst ((20 + (3 * b)) + 2))))) + (hTr (fst (20 + 3 * b)) (fst (2 * i + 1)))) _ _ (by first | (have h9 : (a = b ∨ (fst (20 + 3 * b) = 4 ∧ fst (20 + 3 * a) = 4)) := Or.inl (by omega); rw [if_pos h9]; rfl) | (have h9 : (a = b ∨ (fst (20 + 3 * b) = 4 ∧ fst (20 + 3 * a) = 4)) := Or.inr ⟨by assumption, by assumption⟩; rw [if_pos h9]; rfl) | (have h9 : ¬ (a = b ∨ (fst (20 + 3 * b) = 4 ∧ fst (20 + 3 * a) = 4)) := (fun h9 => h9.elim (fun h8 => absurd h8 (by omega)) (fun h8 => absurd h8.1 (by assumption))); rw [if_neg h9]; first | rfl | (unfold hJo; rw [if_neg (by assumption)]; rfl)) | (have h9 : ¬ (a = b ∨ (fst (20 + 3 * b) = 4 ∧ fst (20 + 3 * a) = 4)) := (fun h9 => h9.elim (fun h8 => absurd h8 (by omega)) (fun h8 => absurd h8.2 (by assumption))); rw [if_neg h9]; first | rfl | (unfold hJo; rw [if_neg (by assumption)]; rfl))) hP hS ls (lv_sub hl [0, 1, 2, 3, 4, 5, 6, 7, 8] rfl)
                  · skip
                    refine lv_aload_n hx hb dX11_harmOf_155 rfl (lv_at hl 4 rfl) ?_
                    refine va_get (D := (dC, dI)) (ci := 11) (v := .ref st) (C := RX11) (T := TX11) (N := 35) hx hb hg inG11 hown hK.1 hP 0 rfl rfl 0 (by decide) (hg _ wt_878) (fun _ h9 => h9) rfl dX11_harmOf_156 ?_
                    refine lv_bipush (v := 20) hx hb dX11_harmOf_159 (by decide) ?_
                    refine lv_iconst (v := 3) hx hb dX11_harmOf_161 (by decide) ?_
                    refine lv_iload_n hx hb dX11_harmOf_162 rfl (lv_at hl 6 rfl) ?_
                    refine lv_imul hx hb dX11_harmOf_163 ?_
                    refine lv_cg (y := nI (3 * a)) (by rw [show (3 : Int32) = nI 3 from rfl]; exact pk_mul _ _) ?_
                    refine lv_iadd hx hb dX11_harmOf_164 ?_
                    refine lv_cg (y := nI (20 + (3 * a))) (by rw [show (20 : Int32) = nI 20 from rfl]; exact nI_add _ _) ?_
                    refine lv_iconst (v := 1) hx hb dX11_harmOf_165 (by decide) ?_
                    refine lv_iadd hx hb dX11_harmOf_166 ?_
                    refine lv_cg (y := nI ((20 + (3 * a)) + 1)) (by rw [show (1 : Int32) = nI 1 from rfl]; exact nI_add _ _) ?_
                    refine va_iald hx hb hK.1 hP 1 0 rfl rfl (vp_in_nI (by have t_c16 := neI c16; have t_n19 := n19; have t_c20 := eqI c20; have t_c29 := neI c29; have : ((-4) : Int32).toInt = -4 := (by decide); have : (4 : Int32).toInt = 4 := (by decide); have t_n0 : (nI i).toInt = (i : Int) := nI_toInt (by omega); have t_n1 : (nI a).toInt = (a : Int) := nI_toInt (by omega); have t_n2 : (nI b).toInt = (b : Int) := nI_toInt (by omega); have t_n3 : (nI N).toInt = (N : Int) := nI_toInt (by omega); have t_n4 : (nI B).toInt = (B : Int) := nI_toInt (by omega); have t_n5 : (nI T).toInt = (T : Int) := nI_toInt (by omega); have t_n6 : (nI S).toInt = (S : Int) := nI_toInt (by omega); have t_n7 : (nI M).toInt = (M : Int) := nI_toInt (by omega); omega) (by decide)) dX11_harmOf_167 ?_
                    refine lv_cg (y := fst ((20 + (3 * a)) + 1)) (by rw [nI_clamp (by omega)]) ?_
                    refine lv_aload_n hx hb dX11_harmOf_168 rfl (lv_at hl 4 rfl) ?_
                    refine va_get (D := (dC, dI)) (ci := 11) (v := .ref st) (C := RX11) (T := TX11) (N := 35) hx hb hg inG11 hown hK.1 hP 0 rfl rfl 0 (by decide) (hg _ wt_878) (fun _ h9 => h9) rfl dX11_harmOf_169 ?_
                    refine lv_bipush (v := 20) hx hb dX11_harmOf_172 (by decide) ?_
                    refine lv_iconst (v := 3) hx hb dX11_harmOf_174 (by decide) ?_
                    refine lv_iload_n hx hb dX11_harmOf_175 rfl (lv_at hl 7 rfl) ?_
                    refine lv_imul hx hb dX11_harmOf_176 ?_
                    refine lv_cg (y := nI (3 * b)) (by rw [show (3 : Int32) = nI 3 from rfl]; exact pk_mul _ _) ?_
                    refine lv_iadd hx hb dX11_harmOf_177 ?_
                    refine lv_cg (y := nI (20 + (3 * b))) (by rw [show (20 : Int32) = nI 20 from rfl]; exact nI_add _ _) ?_
                    refine lv_iconst (v := 1) hx hb dX11_harmOf_178 (by decide) ?_
                    refine lv_iadd hx hb dX11_harmOf_179 ?_
                    refine lv_cg (y := nI ((20 + (3 * b)) + 1)) (by rw [show (1 : Int32) = nI 1 from rfl]; exact nI_add _ _) ?_
                    refine va_iald hx hb hK.1 hP 1 0 rfl rfl (vp_in_nI (by have t_c16 := neI c16; have t_n19 := n19; have t_c20 := eqI c20; have t_c29 := neI c29; have : ((-4) : Int32).toInt = -4 := (by decide); have : (4 : Int32).toInt = 4 := (by decide); have t_n0 : (nI i).toInt = (i : Int) := nI_toInt (by omega); have t_n1 : (nI a).toInt = (a : Int) := nI_toInt (by omega); have t_n2 : (nI b).toInt = (b : Int) := nI_toInt (by omega); have t_n3 : (nI N).toInt = (N : Int) := nI_toInt (by omega); have t_n4 : (nI B).toInt = (B : Int) := nI_toInt (by omega); have t_n5 : (nI T).toInt = (T : Int) := nI_toInt (by omega); have t_n6 : (nI S).toInt = (S : Int) := nI_toInt (by omega); have t_n7 : (nI M).toInt = (M : Int) := nI_toInt (by omega); omega) (by decide)) dX11_harmOf_180 ?_
                    refine lv_cg (y := fst ((20 + (3 * b)) + 1)) (by rw [nI_clamp (by omega)]) ?_
                    refine lv_isub hx hb dX11_harmOf_181 ?_
                    refine lv_istore (lv' := [(9, .int ((fst ((20 + (3 * a)) + 1)) - (fst ((20 + (3 * b)) + 1)))), (8, .int (((hPos ((hQt fst i q) - (hK' (fst (20 + 3 * b))))) + (hPos ((fst ((2 * i) + 1)) - (fst ((20 + (3 * b)) + 2))))) + (hTr (fst (20 + 3 * b)) (fst (2 * i + 1))))), (7, .int ((fst ((2 * i) + 1)) - (fst ((20 + (3 * b)) + 2)))), (6, .int ((hQt fst i q) - (hK' (fst (20 + 3 * b))))), (5, .int (fst (20 + 3 * b))), (0, .ref h0), (1, .int (nI i)), (2, .int (nI a)), (3, .int (nI b)), (4, .int q)]) hx hb dX11_harmOf_182 hl (by decide) rfl (fun ls hl => ?_)
                    refine lv_iload hx hb dX11_harmOf_184 (lv_at hl 0 rfl) ?_
                    have cut197_31 : ∀ (y30 : Int32) (H : Heap) (locs : List Loc), y30 = hAbs ((fst ((20 + (3 * a)) + 1)) - (fst ((20 + (3 * b)) + 1))) → va_P (dC, dI) vwCl [(h0, .inr (11, [.ref st, .int (nI N), .int (nI B), .ref rp, .int vrs, .int vrb, .int vhs, .int vca, .int vxs, .int vxb, .ref tp, .int (nI T), .int vfa, .int vbr, .int vba, .int vsp, .int vhe, .int vtk, .int vva, .ref cu, .ref lt, .ref od, .ref th, .ref be, .ref ln, .int (nI S), .ref ma, .int (nI M), .ref ah, .ref bh, .ref ik, .ref la, .ref lg, .ref ce, .int vto])), (st, .inl (G 0, 196, .inl fst))] H → va_S (fun q : Nat => s.heap.size ≤ q) s.heap H locs → ∀ (ls : Array Slot), lv_has ls 10 [(9, .int ((fst ((20 + (3 * a)) + 1)) - (fst ((20 + (3 * b)) + 1)))), (8, .int (((hPos ((hQt fst i q) - (hK' (fst (20 + 3 * b))))) + (hPos ((fst ((2 * i) + 1)) - (fst ((20 + (3 * b)) + 2))))) + (hTr (fst (20 + 3 * b)) (fst (2 * i + 1))))), (7, .int ((fst ((2 * i) + 1)) - (fst ((20 + (3 * b)) + 2)))), (6, .int ((hQt fst i q) - (hK' (fst (20 + 3 * b))))), (5, .int (fst (20 + 3 * b))), (0, .ref h0), (1, .int (nI i)), (2, .int (nI a)), (3, .int (nI b)), (4, .int q)] → W p l e (headSpec (Cond.code yX11_harmOf cX11_harmOf 10 (some .int) :: GT) ({ frames := 1, cells := 0, slots := 0, locals := 21 } : Room)).room s m ([.ref h0, .int (nI i), .int (nI a), .int (nI b), .int q] : List Value).toArray below meth c H locs 0 0 (MQ below (va_Qi (fun (r : Int32) (u : Unit) => match u with | _ => (r = rhB fst i a b q) ∧ True) (fun _ _ => True) (fun q : Nat => s.heap.size ≤ q)) ([.ref h0, .int (nI i), .int (nI a), .int (nI b), .int q] : List Value).toArray s 0 0 (fun q : Nat => s.heap.size ≤ q)) (F0 m 197 ls [.int y30]) := by
                      intro y30 H locs hcut hP hS ls hl
                      subst hcut
                      refine lv_istore (lv' := [(9, .int (hAbs ((fst ((20 + (3 * a)) + 1)) - (fst ((20 + (3 * b)) + 1))))), (8, .int (((hPos ((hQt fst i q) - (hK' (fst (20 + 3 * b))))) + (hPos ((fst ((2 * i) + 1)) - (fst ((20 + (3 * b)) + 2))))) + (hTr (fst (20 + 3 * b)) (fst (2 * i + 1))))), (7, .int ((fst ((2 * i) + 1)) - (fst ((20 + (3 * b)) + 2)))), (6, .int ((hQt fst i q) - (hK' (fst (20 + 3 * b))))), (5, .int (fst (20 + 3 * b))), (0, .ref h0), (1, .int (nI i)), (2, .int (nI a)), (3, .int (nI b)), (4, .int q)]) hx hb dX11_harmOf_197 hl (by decide) rfl (fun ls hl => ?_)
                      refine lv_iload hx hb dX11_harmOf_199 (lv_at hl 1 rfl) ?_
                      refine lv_iload hx hb dX11_harmOf_201 (lv_at hl 4 rfl) ?_
                      refine lv_iconst (v := 5) hx hb dX11_harmOf_203 (by decide) ?_
                      refine lv_icmp_ne (tgt := 214) hx hb dX11_harmOf_204 (by decide) (fun c32 => ?_) (fun c32 => ?_)
                      · skip
                        refine lv_iload hx hb dX11_harmOf_214 (lv_at hl 0 rfl) ?_
                        refine lv_iadd hx hb dX11_harmOf_216 ?_
                        refine lv_istore (lv' := [(8, .int ((((hPos ((hQt fst i q) - (hK' (fst (20 + 3 * b))))) + (hPos ((fst ((2 * i) + 1)) - (fst ((20 + (3 * b)) + 2))))) + (hTr (fst (20 + 3 * b)) (fst (2 * i + 1)))) + (hAbs ((fst ((20 + (3 * a)) + 1)) - (fst ((20 + (3 * b)) + 1)))))), (9, .int (hAbs ((fst ((20 + (3 * a)) + 1)) - (fst ((20 + (3 * b)) + 1))))), (7, .int ((fst ((2 * i) + 1)) - (fst ((20 + (3 * b)) + 2)))), (6, .int ((hQt fst i q) - (hK' (fst (20 + 3 * b))))), (5, .int (fst (20 + 3 * b))), (0, .ref h0), (1, .int (nI i)), (2, .int (nI a)), (3, .int (nI b)), (4, .int q)]) hx hb dX11_harmOf_217 hl (by decide) rfl (fun ls hl => ?_)
                        exact cut219_14 ((((hPos ((hQt fst i q) - (hK' (fst (20 + 3 * b))))) + (hPos ((fst ((2 * i) + 1)) - (fst ((20 + (3 * b)) + 2))))) + (hTr (fst (20 + 3 * b)) (fst (2 * i + 1)))) + (hAbs ((fst ((20 + (3 * a)) + 1)) - (fst ((20 + (3 * b)) + 1))))) _ _ (by first | (have h9 : (a = b ∨ (fst (20 + 3 * b) = 4 ∧ fst (20 + 3 * a) = 4)) := Or.inl (by omega); rw [if_pos h9]; rfl) | (have h9 : (a = b ∨ (fst (20 + 3 * b) = 4 ∧ fst (20 + 3 * a) = 4)) := Or.inr ⟨by assumption, by assumption⟩; rw [if_pos h9]; rfl) | (have h9 : ¬ (a = b ∨ (fst (20 + 3 * b) = 4 ∧ fst (20 + 3 * a) = 4)) := (fun h9 => h9.elim (fun h8 => absurd h8 (by omega)) (fun h8 => absurd h8.1 (by assumption))); rw [if_neg h9]; first | rfl | (unfold hJo; rw [if_neg (by assumption)]; rfl)) | (have h9 : ¬ (a = b ∨ (fst (20 + 3 * b) = 4 ∧ fst (20 + 3 * a) = 4)) := (fun h9 => h9.elim (fun h8 => absurd h8 (by omega)) (fun h8 => absurd h8.2 (by assumption))); rw [if_neg h9]; first | rfl | (unfold hJo; rw [if_neg (by assumption)]; rfl))) hP hS ls (lv_sub hl [0, 2, 3, 4, 5, 6, 7, 8, 9] rfl)
                      · skip
                        have t_c16 := neI c16
                        have t_n19 := n19
                        have t_c20 := eqI c20
                        have t_c29 := neI c29
                        have t_c32 := eqI c32
                        have : ((-4) : Int32).toInt = -4 := (by decide)
                        have : (4 : Int32).toInt = 4 := (by decide)
                        have : (5 : Int32).toInt = 5 := (by decide)
                        have t_n0 : (nI i).toInt = (i : Int) := nI_toInt (by omega)
                        have t_n1 : (nI a).toInt = (a : Int) := nI_toInt (by omega)
                        have t_n2 : (nI b).toInt = (b : Int) := nI_toInt (by omega)
                        have t_n3 : (nI N).toInt = (N : Int) := nI_toInt (by omega)
                        have t_n4 : (nI B).toInt = (B : Int) := nI_toInt (by omega)
                        have t_n5 : (nI T).toInt = (T : Int) := nI_toInt (by omega)
                        have t_n6 : (nI S).toInt = (S : Int) := nI_toInt (by omega)
                        have t_n7 : (nI M).toInt = (M : Int) := nI_toInt (by omega)
                        exfalso; omega
                    refine lv_if_ge (tgt := 195) hx hb dX11_harmOf_186 (by decide) (fun c33 => ?_) (fun c33 => ?_)
                    · skip
                      refine lv_iload hx hb dX11_harmOf_195 (lv_at hl 0 rfl) ?_
                      exact cut197_31 ((fst ((20 + (3 * a)) + 1)) - (fst ((20 + (3 * b)) + 1))) _ _ (by first | exact (if_pos (by assumption)).symm | exact (if_neg (by assumption)).symm | exact ((if_neg (by assumption)).trans (if_pos (by assumption))).symm | exact ((if_neg (by assumption)).trans (if_neg (by assumption))).symm | exact (if_pos ⟨by assumption, by assumption⟩).symm | exact (if_neg (fun h9 => absurd h9.1 (by assumption))).symm | exact (if_neg (fun h9 => h9.2 (by assumption))).symm) hP hS ls (lv_sub hl [0, 1, 2, 3, 4, 5, 6, 7, 8, 9] rfl)
                    · skip
                      refine lv_iload hx hb dX11_harmOf_189 (lv_at hl 0 rfl) ?_
                      refine lv_ineg hx hb dX11_harmOf_191 ?_
                      refine lv_goto (tgt := 197) hx hb dX11_harmOf_192 (by decide) ?_
                      exact cut197_31 (-((fst ((20 + (3 * a)) + 1)) - (fst ((20 + (3 * b)) + 1)))) _ _ (by first | exact (if_pos (by assumption)).symm | exact (if_neg (by assumption)).symm | exact ((if_neg (by assumption)).trans (if_pos (by assumption))).symm | exact ((if_neg (by assumption)).trans (if_neg (by assumption))).symm | exact (if_pos ⟨by assumption, by assumption⟩).symm | exact (if_neg (fun h9 => absurd h9.1 (by assumption))).symm | exact (if_neg (fun h9 => h9.2 (by assumption))).symm) hP hS ls (lv_sub hl [0, 1, 2, 3, 4, 5, 6, 7, 8, 9] rfl)
          refine lv_icmp_ne (tgt := 125) hx hb dX11_harmOf_104 (by decide) (fun c34 => ?_) (fun c34 => ?_)
          · skip
            refine lv_iconst (v := 0) hx hb dX11_harmOf_125 (by decide) ?_
            exact cut126_12 0 _ _ (by first | exact (if_pos (by assumption)).symm | exact (if_neg (by assumption)).symm | exact ((if_neg (by assumption)).trans (if_pos (by assumption))).symm | exact ((if_neg (by assumption)).trans (if_neg (by assumption))).symm | exact (if_pos ⟨by assumption, by assumption⟩).symm | exact (if_neg (fun h9 => absurd h9.1 (by assumption))).symm | exact (if_neg (fun h9 => h9.2 (by assumption))).symm) hP hS ls (lv_sub hl [0, 1, 2, 3, 4, 5, 6, 7] rfl)
          · skip
            refine lv_aload_n hx hb dX11_harmOf_107 rfl (lv_at hl 3 rfl) ?_
            refine va_get (D := (dC, dI)) (ci := 11) (v := .ref st) (C := RX11) (T := TX11) (N := 35) hx hb hg inG11 hown hK.1 hP 0 rfl rfl 0 (by decide) (hg _ wt_878) (fun _ h9 => h9) rfl dX11_harmOf_108 ?_
            refine lv_iconst (v := 2) hx hb dX11_harmOf_111 (by decide) ?_
            refine lv_iload_n hx hb dX11_harmOf_112 rfl (lv_at hl 4 rfl) ?_
            refine lv_imul hx hb dX11_harmOf_113 ?_
            refine lv_cg (y := nI (2 * i)) (by rw [show (2 : Int32) = nI 2 from rfl]; exact pk_mul _ _) ?_
            refine lv_iconst (v := 1) hx hb dX11_harmOf_114 (by decide) ?_
            refine lv_iadd hx hb dX11_harmOf_115 ?_
            refine lv_cg (y := nI ((2 * i) + 1)) (by rw [show (1 : Int32) = nI 1 from rfl]; exact nI_add _ _) ?_
            refine va_iald hx hb hK.1 hP 1 0 rfl rfl (vp_in_nI (by have t_c34 := eqI c34; have : (2 : Int32).toInt = 2 := (by decide); have t_n0 : (nI i).toInt = (i : Int) := nI_toInt (by omega); have t_n1 : (nI a).toInt = (a : Int) := nI_toInt (by omega); have t_n2 : (nI b).toInt = (b : Int) := nI_toInt (by omega); have t_n3 : (nI N).toInt = (N : Int) := nI_toInt (by omega); have t_n4 : (nI B).toInt = (B : Int) := nI_toInt (by omega); have t_n5 : (nI T).toInt = (T : Int) := nI_toInt (by omega); have t_n6 : (nI S).toInt = (S : Int) := nI_toInt (by omega); have t_n7 : (nI M).toInt = (M : Int) := nI_toInt (by omega); omega) (by decide)) dX11_harmOf_116 ?_
            refine lv_cg (y := fst ((2 * i) + 1)) (by rw [nI_clamp (by omega)]) ?_
            refine lv_iconst (v := 5) hx hb dX11_harmOf_117 (by decide) ?_
            refine lv_icmp_lt (tgt := 125) hx hb dX11_harmOf_118 (by decide) (fun c35 => ?_) (fun c35 => ?_)
            · skip
              refine lv_iconst (v := 0) hx hb dX11_harmOf_125 (by decide) ?_
              exact cut126_12 0 _ _ (by first | exact (if_pos (by assumption)).symm | exact (if_neg (by assumption)).symm | exact ((if_neg (by assumption)).trans (if_pos (by assumption))).symm | exact ((if_neg (by assumption)).trans (if_neg (by assumption))).symm | exact (if_pos ⟨by assumption, by assumption⟩).symm | exact (if_neg (fun h9 => absurd h9.1 (by assumption))).symm | exact (if_neg (fun h9 => h9.2 (by assumption))).symm) hP hS ls (lv_sub hl [0, 1, 2, 3, 4, 5, 6, 7] rfl)
            · skip
              refine lv_iconst (v := 1) hx hb dX11_harmOf_121 (by decide) ?_
              refine lv_goto (tgt := 126) hx hb dX11_harmOf_122 (by decide) ?_
              exact cut126_12 1 _ _ (by first | exact (if_pos (by assumption)).symm | exact (if_neg (by assumption)).symm | exact ((if_neg (by assumption)).trans (if_pos (by assumption))).symm | exact ((if_neg (by assumption)).trans (if_neg (by assumption))).symm | exact (if_pos ⟨by assumption, by assumption⟩).symm | exact (if_neg (fun h9 => absurd h9.1 (by assumption))).symm | exact (if_neg (fun h9 => h9.2 (by assumption))).symm) hP hS ls (lv_sub hl [0, 1, 2, 3, 4, 5, 6, 7] rfl)
        refine lv_if_le (tgt := 99) hx hb dX11_harmOf_91 (by decide) (fun c36 => ?_) (fun c36 => ?_)
        · skip
          refine lv_iconst (v := 0) hx hb dX11_harmOf_99 (by decide) ?_
          exact cut100_10 0 _ _ (by first | exact (if_pos (by assumption)).symm | exact (if_neg (by assumption)).symm | exact ((if_neg (by assumption)).trans (if_pos (by assumption))).symm | exact ((if_neg (by assumption)).trans (if_neg (by assumption))).symm | exact (if_pos ⟨by assumption, by assumption⟩).symm | exact (if_neg (fun h9 => absurd h9.1 (by assumption))).symm | exact (if_neg (fun h9 => h9.2 (by assumption))).symm) hP hS ls (lv_sub hl [0, 1, 2, 3, 4, 5, 6, 7] rfl)
        · skip
          refine lv_iload hx hb dX11_harmOf_94 (lv_at hl 0 rfl) ?_
          refine lv_goto (tgt := 100) hx hb dX11_harmOf_96 (by decide) ?_
          exact cut100_10 ((fst ((2 * i) + 1)) - (fst ((20 + (3 * b)) + 2))) _ _ (by first | exact (if_pos (by assumption)).symm | exact (if_neg (by assumption)).symm | exact ((if_neg (by assumption)).trans (if_pos (by assumption))).symm | exact ((if_neg (by assumption)).trans (if_neg (by assumption))).symm | exact (if_pos ⟨by assumption, by assumption⟩).symm | exact (if_neg (fun h9 => absurd h9.1 (by assumption))).symm | exact (if_neg (fun h9 => h9.2 (by assumption))).symm) hP hS ls (lv_sub hl [0, 1, 2, 3, 4, 5, 6, 7] rfl)
      refine lv_if_le (tgt := 88) hx hb dX11_harmOf_80 (by decide) (fun c37 => ?_) (fun c37 => ?_)
      · skip
        refine lv_iconst (v := 0) hx hb dX11_harmOf_88 (by decide) ?_
        exact cut89_8 0 _ _ (by first | exact (if_pos (by assumption)).symm | exact (if_neg (by assumption)).symm | exact ((if_neg (by assumption)).trans (if_pos (by assumption))).symm | exact ((if_neg (by assumption)).trans (if_neg (by assumption))).symm | exact (if_pos ⟨by assumption, by assumption⟩).symm | exact (if_neg (fun h9 => absurd h9.1 (by assumption))).symm | exact (if_neg (fun h9 => h9.2 (by assumption))).symm) hP hS ls (lv_sub hl [0, 1, 2, 3, 4, 5, 6, 7] rfl)
      · skip
        refine lv_iload hx hb dX11_harmOf_83 (lv_at hl 1 rfl) ?_
        refine lv_goto (tgt := 89) hx hb dX11_harmOf_85 (by decide) ?_
        exact cut89_8 ((hQt fst i q) - (hK' (fst (20 + 3 * b)))) _ _ (by first | exact (if_pos (by assumption)).symm | exact (if_neg (by assumption)).symm | exact ((if_neg (by assumption)).trans (if_pos (by assumption))).symm | exact ((if_neg (by assumption)).trans (if_neg (by assumption))).symm | exact (if_pos ⟨by assumption, by assumption⟩).symm | exact (if_neg (fun h9 => absurd h9.1 (by assumption))).symm | exact (if_neg (fun h9 => h9.2 (by assumption))).symm) hP hS ls (lv_sub hl [0, 1, 2, 3, 4, 5, 6, 7] rfl)
    refine lv_icmp_ne (tgt := 38) hx hb dX11_harmOf_31 (by decide) (fun c38 => ?_) (fun c38 => ?_)
    · skip
      refine lv_iload hx hb dX11_harmOf_38 (lv_at hl 1 rfl) ?_
      refine lv_iconst (v := 3) hx hb dX11_harmOf_40 (by decide) ?_
      refine lv_icmp_ne (tgt := 48) hx hb dX11_harmOf_41 (by decide) (fun c39 => ?_) (fun c39 => ?_)
      · skip
        refine lv_iconst (v := 0) hx hb dX11_harmOf_48 (by decide) ?_
        exact cut49_6 0 _ _ (by first | exact (if_pos (by assumption)).symm | exact (if_neg (by assumption)).symm | exact ((if_neg (by assumption)).trans (if_pos (by assumption))).symm | exact ((if_neg (by assumption)).trans (if_neg (by assumption))).symm | exact (if_pos ⟨by assumption, by assumption⟩).symm | exact (if_neg (fun h9 => absurd h9.1 (by assumption))).symm | exact (if_neg (fun h9 => h9.2 (by assumption))).symm) hP hS ls (lv_sub hl [0, 1, 2, 3, 4, 5, 6] rfl)
      · skip
        refine lv_iconst (v := 1) hx hb dX11_harmOf_44 (by decide) ?_
        refine lv_goto (tgt := 49) hx hb dX11_harmOf_45 (by decide) ?_
        exact cut49_6 1 _ _ (by first | exact (if_pos (by assumption)).symm | exact (if_neg (by assumption)).symm | exact ((if_neg (by assumption)).trans (if_pos (by assumption))).symm | exact ((if_neg (by assumption)).trans (if_neg (by assumption))).symm | exact (if_pos ⟨by assumption, by assumption⟩).symm | exact (if_neg (fun h9 => absurd h9.1 (by assumption))).symm | exact (if_neg (fun h9 => h9.2 (by assumption))).symm) hP hS ls (lv_sub hl [0, 1, 2, 3, 4, 5, 6] rfl)
    · skip
      refine lv_iconst (v := 2) hx hb dX11_harmOf_34 (by decide) ?_
      refine lv_goto (tgt := 49) hx hb dX11_harmOf_35 (by decide) ?_
      exact cut49_6 2 _ _ (by first | exact (if_pos (by assumption)).symm | exact (if_neg (by assumption)).symm | exact ((if_neg (by assumption)).trans (if_pos (by assumption))).symm | exact ((if_neg (by assumption)).trans (if_neg (by assumption))).symm | exact (if_pos ⟨by assumption, by assumption⟩).symm | exact (if_neg (fun h9 => absurd h9.1 (by assumption))).symm | exact (if_neg (fun h9 => h9.2 (by assumption))).symm) hP hS ls (lv_sub hl [0, 1, 2, 3, 4, 5, 6] rfl)
  refine lv_if_eq (tgt := 16) hx hb dX11_harmOf_9 (by decide) (fun c40 => ?_) (fun c40 => ?_)
  · skip
    refine lv_aload_n hx hb dX11_harmOf_16 rfl (lv_at hl 1 rfl) ?_
    refine va_get (D := (dC, dI)) (ci := 11) (v := .ref st) (C := RX11) (T := TX11) (N := 35) hx hb hg inG11 hown hK.1 hP 0 rfl rfl 0 (by decide) (hg _ wt_878) (fun _ h9 => h9) rfl dX11_harmOf_17 ?_
    refine lv_iconst (v := 2) hx hb dX11_harmOf_20 (by decide) ?_
    refine lv_iload_n hx hb dX11_harmOf_21 rfl (lv_at hl 2 rfl) ?_
    refine lv_imul hx hb dX11_harmOf_22 ?_
    refine lv_cg (y := nI (2 * i)) (by rw [show (2 : Int32) = nI 2 from rfl]; exact pk_mul _ _) ?_
    refine va_iald hx hb hK.1 hP 1 0 rfl rfl (vp_in_nI (by have t_c40 := eqI c40; have : (0 : Int32).toInt = 0 := (by decide); have t_n0 : (nI i).toInt = (i : Int) := nI_toInt (by omega); have t_n1 : (nI a).toInt = (a : Int) := nI_toInt (by omega); have t_n2 : (nI b).toInt = (b : Int) := nI_toInt (by omega); have t_n3 : (nI N).toInt = (N : Int) := nI_toInt (by omega); have t_n4 : (nI B).toInt = (B : Int) := nI_toInt (by omega); have t_n5 : (nI T).toInt = (T : Int) := nI_toInt (by omega); have t_n6 : (nI S).toInt = (S : Int) := nI_toInt (by omega); have t_n7 : (nI M).toInt = (M : Int) := nI_toInt (by omega); omega) (by decide)) dX11_harmOf_23 ?_
    refine lv_cg (y := fst (2 * i)) (by rw [nI_clamp (by omega)]) ?_
    exact cut24_4 (fst (2 * i)) _ _ (by first | exact (if_pos (by assumption)).symm | exact (if_neg (by assumption)).symm | exact ((if_neg (by assumption)).trans (if_pos (by assumption))).symm | exact ((if_neg (by assumption)).trans (if_neg (by assumption))).symm | exact (if_pos ⟨by assumption, by assumption⟩).symm | exact (if_neg (fun h9 => absurd h9.1 (by assumption))).symm | exact (if_neg (fun h9 => h9.2 (by assumption))).symm) hP hS ls (lv_sub hl [0, 1, 2, 3, 4, 5] rfl)
  · skip
    refine lv_iconst (v := 0) hx hb dX11_harmOf_12 (by decide) ?_
    refine lv_goto (tgt := 24) hx hb dX11_harmOf_13 (by decide) ?_
    exact cut24_4 0 _ _ (by first | exact (if_pos (by assumption)).symm | exact (if_neg (by assumption)).symm | exact ((if_neg (by assumption)).trans (if_pos (by assumption))).symm | exact ((if_neg (by assumption)).trans (if_neg (by assumption))).symm | exact (if_pos ⟨by assumption, by assumption⟩).symm | exact (if_neg (fun h9 => absurd h9.1 (by assumption))).symm | exact (if_neg (fun h9 => h9.2 (by assumption))).symm) hP hS ls (lv_sub hl [0, 1, 2, 3, 4, 5] rfl)

set_option maxHeartbeats 1000000 in
set_option maxRecDepth 100000 in
theorem c_X11_harm (l : Launch) (dC : Nat → ClassId) (dI : Nat → Nat → Nat) (G : Nat → ClassId) (sz : Nat) (h0 st N B rp tp T cu lt od th be ln S ma M ah bh ik la lg ce : Nat) (i g k vrs vrb vhs vca vxs vxb vfa vbr vba vsp vhe vtk vva vto : Int32) (fst : Nat → Int32) (hN : N ≤ 10) (hB : B ≤ 6) (hT : T ≤ 320) (hS0 : S ≤ 8) (hM : M ≤ 6) : Met l yX11_harm (Cond.code yX11_harm cX11_harm 4 (some .int) :: GT) ({ frames := 3, cells := 0, slots := 0, locals := 69 } : Room) (PcR [.ref h0, .int i, .int g, .int k] dC dI G [(h0, .inr (11, [.ref st, .int (nI N), .int (nI B), .ref rp, .int vrs, .int vrb, .int vhs, .int vca, .int vxs, .int vxb, .ref tp, .int (nI T), .int vfa, .int vbr, .int vba, .int vsp, .int vhe, .int vtk, .int vva, .ref cu, .ref lt, .ref od, .ref th, .ref be, .ref ln, .int (nI S), .ref ma, .int (nI M), .ref ah, .ref bh, .ref ik, .ref la, .ref lg, .ref ce, .int vto])), (st, .inl (G 0, 196, .inl fst))] sz) (va_Qi (fun (r : Int32) (u : Unit) => match u with | _ => (True) ∧ True) (fun _ _ => True) (fun q : Nat => sz ≤ q)) 0 0 (fun q : Nat => sz ≤ q) := by
  refine Met.ofW (cc := cX11_harm) (maxL := 4) (ret := (some .int)) (by decide) rfl ?_
  intro p e s m args below meth c s₁ Bd hml hv
  obtain ⟨rfl, hsz, hP, hK⟩ := hv
  have hx := Bd.exec
  have hb := Bd.bytes
  have hr := Bd.returns
  have hg : ∀ w ∈ GT, w.before ([.ref h0, .int i, .int g, .int k] : List Value).toArray s = true := fun w h => atoms_spec (ws := Cond.code yX11_harm cX11_harm 4 (some .int) :: GT) Bd.pre w (List.mem_cons_of_mem _ h)
  have hown : s.vm.findClass RX11 = some m.cls := findClass_of_methodNamed Bd.named
  have hlocks := Bd.notSynchronized
  subst hsz
  have hA : ∀ q : Nat, s.heap.size ≤ q → (fun q : Nat => s.heap.size ≤ q) q := fun _ h => h
  have hS : va_S (fun q : Nat => s.heap.size ≤ q) s.heap s.heap [] := va_S.rf
  have hl := lv_entry ([.ref h0, .int i, .int g, .int k]) (n := 4) (Nat.le_of_ble_eq_true rfl)
  rw [lg_entry_eq]
  generalize (lg_sl ([.ref h0, .int i, .int g, .int k]) ++ List.replicate (4 - (lg_sl ([.ref h0, .int i, .int g, .int k])).length) Slot.unset).toArray = ls at hl ⊢
  have hl : lv_has ls 4 [(0, .ref h0), (1, .int i), (2, .int g), (3, .int k)] := hl
  refine lv_aload_n hx hb dX11_harm_0 rfl (lv_at hl 0 rfl) ?_
  refine lv_iload_n hx hb dX11_harm_1 rfl (lv_at hl 1 rfl) ?_
  refine lv_iload_n hx hb dX11_harm_2 rfl (lv_at hl 2 rfl) ?_
  refine lv_iload_n hx hb dX11_harm_3 rfl (lv_at hl 3 rfl) ?_
  have hPc := hP.sub (ws' := [(h0, .inr (11, [.ref st, .int (nI N), .int (nI B), .ref rp, .int vrs, .int vrb, .int vhs, .int vca, .int vxs, .int vxb, .ref tp, .int (nI T), .int vfa, .int vbr, .int vba, .int vsp, .int vhe, .int vtk, .int vva, .ref cu, .ref lt, .ref od, .ref th, .ref be, .ref ln, .int (nI S), .ref ma, .int (nI M), .ref ah, .ref bh, .ref ik, .ref la, .ref lg, .ref ce, .int vto]))]) [0] rfl
  refine va_calli (va_runV (As := [.int i, .int g, .int k]) (rest := []) ⟨hx, hb, hml, hown, hg⟩ (c_X11_canHarm l dC dI G _ h0 st N B rp tp T cu lt od th be ln S ma M ah bh ik la lg ce i g k vrs vrb vhs vca vxs vxb vfa vbr vba vsp vhe vtk vva vto (by have t_n0 : (nI N).toInt = (N : Int) := nI_toInt (by omega); have t_n1 : (nI B).toInt = (B : Int) := nI_toInt (by omega); have t_n2 : (nI T).toInt = (T : Int) := nI_toInt (by omega); have t_n3 : (nI S).toInt = (S : Int) := nI_toInt (by omega); have t_n4 : (nI M).toInt = (M : Int) := nI_toInt (by omega); omega) (by have t_n0 : (nI N).toInt = (N : Int) := nI_toInt (by omega); have t_n1 : (nI B).toInt = (B : Int) := nI_toInt (by omega); have t_n2 : (nI T).toInt = (T : Int) := nI_toInt (by omega); have t_n3 : (nI S).toInt = (S : Int) := nI_toInt (by omega); have t_n4 : (nI M).toInt = (M : Int) := nI_toInt (by omega); omega) (by have t_n0 : (nI N).toInt = (N : Int) := nI_toInt (by omega); have t_n1 : (nI B).toInt = (B : Int) := nI_toInt (by omega); have t_n2 : (nI T).toInt = (T : Int) := nI_toInt (by omega); have t_n3 : (nI S).toInt = (S : Int) := nI_toInt (by omega); have t_n4 : (nI M).toInt = (M : Int) := nI_toInt (by omega); omega) (by have t_n0 : (nI N).toInt = (N : Int) := nI_toInt (by omega); have t_n1 : (nI B).toInt = (B : Int) := nI_toInt (by omega); have t_n2 : (nI T).toInt = (T : Int) := nI_toInt (by omega); have t_n3 : (nI S).toInt = (S : Int) := nI_toInt (by omega); have t_n4 : (nI M).toInt = (M : Int) := nI_toInt (by omega); omega) (by have t_n0 : (nI N).toInt = (N : Int) := nI_toInt (by omega); have t_n1 : (nI B).toInt = (B : Int) := nI_toInt (by omega); have t_n2 : (nI T).toInt = (T : Int) := nI_toInt (by omega); have t_n3 : (nI S).toInt = (S : Int) := nI_toInt (by omega); have t_n4 : (nI M).toInt = (M : Int) := nI_toInt (by omega); omega)) (kwV hg mfX11_canHarm wt_1102 ⟨Nat.le_of_ble_eq_true rfl, Nat.le_of_ble_eq_true rfl⟩) (preVR hK hPc (ci := 11) rfl rfl) rfl rfl hl.1 rfl (lv_room (Nat.le_of_ble_eq_true rfl)) dX11_harm_4 ⟨Nat.le_of_ble_eq_true rfl, Nat.le_of_ble_eq_true rfl⟩) hS (fun q h1 h2 => absurd h2 (Nat.not_le.mpr h1)) (fun q h => hA q (Nat.le_trans hS.1 h)) (fun r1 ur1 t H1 locs ht hvm w2 hB hz1 hk1 hS => ?_)
  have hP := keepR hP hk1
  obtain ⟨w2, w2x⟩ := w2
  try simp only [l_ii] at w2
  subst w2
  refine lv_if_eq (tgt := 21) hx hb dX11_harm_7 (by decide) (fun c3 => ?_) (fun c3 => ?_)
  · skip
    have b4 := if10_n c3
    refine lv_iconst (v := (-1)) hx hb dX11_harm_21 (by decide) ?_
    have hpost : True := by
      trivial
    refine W.widen (k := 0) (n := 0) (by omega) (by omega) ?_
    exact W.iret (v := (-1)) hx hb hr (fun t ht hW => ⟨⟨(-1), (), rfl, ⟨hpost, trivial⟩, trivial⟩, hS.F ht⟩) hS.2.2 dX11_harm_22
  · skip
    have b5 := if10_p c3
    obtain ⟨ii, hii, rfl⟩ : ∃ j : Nat, j < 10 ∧ i = nI j := by
      have t_b5 := b5
      have t_n0 : (nI N).toInt = (N : Int) := nI_toInt (by omega)
      have t_n1 : (nI B).toInt = (B : Int) := nI_toInt (by omega)
      have t_n2 : (nI T).toInt = (T : Int) := nI_toInt (by omega)
      have t_n3 : (nI S).toInt = (S : Int) := nI_toInt (by omega)
      have t_n4 : (nI M).toInt = (M : Int) := nI_toInt (by omega)
      exact i32_nat (by omega) (by omega)
    obtain ⟨kk, hkk, rfl⟩ : ∃ j : Nat, j < 6 ∧ k = nI j := by
      have t_b5 := b5
      have t_hii := hii
      have t_n0 : (nI N).toInt = (N : Int) := nI_toInt (by omega)
      have t_n1 : (nI B).toInt = (B : Int) := nI_toInt (by omega)
      have t_n2 : (nI T).toInt = (T : Int) := nI_toInt (by omega)
      have t_n3 : (nI S).toInt = (S : Int) := nI_toInt (by omega)
      have t_n4 : (nI M).toInt = (M : Int) := nI_toInt (by omega)
      have t_n5 : (nI ii).toInt = (ii : Int) := nI_toInt (by omega)
      exact i32_nat (by omega) (by omega)
    by_cases ha6 : g = -4
    · skip
      subst ha6
      refine lv_aload_n hx hb dX11_harm_10 rfl (lv_at hl 0 rfl) ?_
      refine lv_iload_n hx hb dX11_harm_11 rfl (lv_at hl 1 rfl) ?_
      refine lv_iload_n hx hb dX11_harm_12 rfl (lv_at hl 2 rfl) ?_
      refine lv_iload_n hx hb dX11_harm_13 rfl (lv_at hl 3 rfl) ?_
      refine lv_iconst (v := 0) hx hb dX11_harm_14 (by decide) ?_
      have hPc := hP.sub (ws' := [(h0, .inr (11, [.ref st, .int (nI N), .int (nI B), .ref rp, .int vrs, .int vrb, .int vhs, .int vca, .int vxs, .int vxb, .ref tp, .int (nI T), .int vfa, .int vbr, .int vba, .int vsp, .int vhe, .int vtk, .int vva, .ref cu, .ref lt, .ref od, .ref th, .ref be, .ref ln, .int (nI S), .ref ma, .int (nI M), .ref ah, .ref bh, .ref ik, .ref la, .ref lg, .ref ce, .int vto])), (st, .inl (G 0, 196, .inl fst))]) [0, 1] rfl
      refine va_calli (va_runV (As := [.int (nI ii), .int (-4), .int (nI kk), .int 0]) (rest := []) ⟨hx, hb, hml, hown, hg⟩ (c_X11_harmOfN l dC dI G _ h0 ii kk st N B rp tp T cu lt od th be ln S ma M ah bh ik la lg ce 0 vrs vrb vhs vca vxs vxb vfa vbr vba vsp vhe vtk vva vto fst (by have t_b5 := b5; have t_hii := hii; have t_hkk := hkk; have t_n0 : (nI N).toInt = (N : Int) := nI_toInt (by omega); have t_n1 : (nI B).toInt = (B : Int) := nI_toInt (by omega); have t_n2 : (nI T).toInt = (T : Int) := nI_toInt (by omega); have t_n3 : (nI S).toInt = (S : Int) := nI_toInt (by omega); have t_n4 : (nI M).toInt = (M : Int) := nI_toInt (by omega); have t_n5 : (nI ii).toInt = (ii : Int) := nI_toInt (by omega); have t_n6 : (nI kk).toInt = (kk : Int) := nI_toInt (by omega); have : ((-4) : Int32).toInt = -4 := (by decide); have : (0 : Int32).toInt = 0 := (by decide); omega) (by have t_b5 := b5; have t_hii := hii; have t_hkk := hkk; have t_n0 : (nI N).toInt = (N : Int) := nI_toInt (by omega); have t_n1 : (nI B).toInt = (B : Int) := nI_toInt (by omega); have t_n2 : (nI T).toInt = (T : Int) := nI_toInt (by omega); have t_n3 : (nI S).toInt = (S : Int) := nI_toInt (by omega); have t_n4 : (nI M).toInt = (M : Int) := nI_toInt (by omega); have t_n5 : (nI ii).toInt = (ii : Int) := nI_toInt (by omega); have t_n6 : (nI kk).toInt = (kk : Int) := nI_toInt (by omega); have : ((-4) : Int32).toInt = -4 := (by decide); have : (0 : Int32).toInt = 0 := (by decide); omega) (by have t_b5 := b5; have t_hii := hii; have t_hkk := hkk; have t_n0 : (nI N).toInt = (N : Int) := nI_toInt (by omega); have t_n1 : (nI B).toInt = (B : Int) := nI_toInt (by omega); have t_n2 : (nI T).toInt = (T : Int) := nI_toInt (by omega); have t_n3 : (nI S).toInt = (S : Int) := nI_toInt (by omega); have t_n4 : (nI M).toInt = (M : Int) := nI_toInt (by omega); have t_n5 : (nI ii).toInt = (ii : Int) := nI_toInt (by omega); have t_n6 : (nI kk).toInt = (kk : Int) := nI_toInt (by omega); have : ((-4) : Int32).toInt = -4 := (by decide); have : (0 : Int32).toInt = 0 := (by decide); omega) (by have t_b5 := b5; have t_hii := hii; have t_hkk := hkk; have t_n0 : (nI N).toInt = (N : Int) := nI_toInt (by omega); have t_n1 : (nI B).toInt = (B : Int) := nI_toInt (by omega); have t_n2 : (nI T).toInt = (T : Int) := nI_toInt (by omega); have t_n3 : (nI S).toInt = (S : Int) := nI_toInt (by omega); have t_n4 : (nI M).toInt = (M : Int) := nI_toInt (by omega); have t_n5 : (nI ii).toInt = (ii : Int) := nI_toInt (by omega); have t_n6 : (nI kk).toInt = (kk : Int) := nI_toInt (by omega); have : ((-4) : Int32).toInt = -4 := (by decide); have : (0 : Int32).toInt = 0 := (by decide); omega) (by have t_b5 := b5; have t_hii := hii; have t_hkk := hkk; have t_n0 : (nI N).toInt = (N : Int) := nI_toInt (by omega); have t_n1 : (nI B).toInt = (B : Int) := nI_toInt (by omega); have t_n2 : (nI T).toInt = (T : Int) := nI_toInt (by omega); have t_n3 : (nI S).toInt = (S : Int) := nI_toInt (by omega); have t_n4 : (nI M).toInt = (M : Int) := nI_toInt (by omega); have t_n5 : (nI ii).toInt = (ii : Int) := nI_toInt (by omega); have t_n6 : (nI kk).toInt = (kk : Int) := nI_toInt (by omega); have : ((-4) : Int32).toInt = -4 := (by decide); have : (0 : Int32).toInt = 0 := (by decide); omega) (by have t_b5 := b5; have t_hii := hii; have t_hkk := hkk; have t_n0 : (nI N).toInt = (N : Int) := nI_toInt (by omega); have t_n1 : (nI B).toInt = (B : Int) := nI_toInt (by omega); have t_n2 : (nI T).toInt = (T : Int) := nI_toInt (by omega); have t_n3 : (nI S).toInt = (S : Int) := nI_toInt (by omega); have t_n4 : (nI M).toInt = (M : Int) := nI_toInt (by omega); have t_n5 : (nI ii).toInt = (ii : Int) := nI_toInt (by omega); have t_n6 : (nI kk).toInt = (kk : Int) := nI_toInt (by omega); have : ((-4) : Int32).toInt = -4 := (by decide); have : (0 : Int32).toInt = 0 := (by decide); omega) (by have t_b5 := b5; have t_hii := hii; have t_hkk := hkk; have t_n0 : (nI N).toInt = (N : Int) := nI_toInt (by omega); have t_n1 : (nI B).toInt = (B : Int) := nI_toInt (by omega); have t_n2 : (nI T).toInt = (T : Int) := nI_toInt (by omega); have t_n3 : (nI S).toInt = (S : Int) := nI_toInt (by omega); have t_n4 : (nI M).toInt = (M : Int) := nI_toInt (by omega); have t_n5 : (nI ii).toInt = (ii : Int) := nI_toInt (by omega); have t_n6 : (nI kk).toInt = (kk : Int) := nI_toInt (by omega); have : ((-4) : Int32).toInt = -4 := (by decide); have : (0 : Int32).toInt = 0 := (by decide); omega)) (kwV hg mfX11_harmOf wt_1106 ⟨Nat.le_of_ble_eq_true rfl, Nat.le_of_ble_eq_true rfl⟩) (preVR hK hPc (ci := 11) rfl rfl) rfl rfl hl.1 rfl (lv_room (Nat.le_of_ble_eq_true rfl)) dX11_harm_15 ⟨Nat.le_of_ble_eq_true rfl, Nat.le_of_ble_eq_true rfl⟩) hS (fun q h1 h2 => absurd h2 (Nat.not_le.mpr h1)) (fun q h => hA q (Nat.le_trans hS.1 h)) (fun r7 ur7 t H1 locs ht hvm w8 hB hz1 hk1 hS => ?_)
      have hP := keepR hP hk1
      obtain ⟨w8, w8x⟩ := w8
      subst w8
      refine lv_goto (tgt := 22) hx hb dX11_harm_18 (by decide) ?_
      have hpost : True := by
        trivial
      refine W.widen (k := 0) (n := 0) (by omega) (by omega) ?_
      exact W.iret (v := rhN fst ii kk 0) hx hb hr (fun t ht hW => ⟨⟨rhN fst ii kk 0, (), rfl, ⟨hpost, trivial⟩, trivial⟩, hS.F ht⟩) hS.2.2 dX11_harm_22
    · skip
      obtain ⟨gg, hgg, rfl⟩ : ∃ j : Nat, j < 6 ∧ g = nI j := by
        have t_b5 := b5
        have t_hii := hii
        have t_hkk := hkk
        have t_ha6 := neI ha6
        have : ((-4) : Int32).toInt = -4 := (by decide)
        have t_n0 : (nI N).toInt = (N : Int) := nI_toInt (by omega)
        have t_n1 : (nI B).toInt = (B : Int) := nI_toInt (by omega)
        have t_n2 : (nI T).toInt = (T : Int) := nI_toInt (by omega)
        have t_n3 : (nI S).toInt = (S : Int) := nI_toInt (by omega)
        have t_n4 : (nI M).toInt = (M : Int) := nI_toInt (by omega)
        have t_n5 : (nI ii).toInt = (ii : Int) := nI_toInt (by omega)
        have t_n6 : (nI kk).toInt = (kk : Int) := nI_toInt (by omega)
        exact i32_nat (by omega) (by omega)
      refine lv_aload_n hx hb dX11_harm_10 rfl (lv_at hl 0 rfl) ?_
      refine lv_iload_n hx hb dX11_harm_11 rfl (lv_at hl 1 rfl) ?_
      refine lv_iload_n hx hb dX11_harm_12 rfl (lv_at hl 2 rfl) ?_
      refine lv_iload_n hx hb dX11_harm_13 rfl (lv_at hl 3 rfl) ?_
      refine lv_iconst (v := 0) hx hb dX11_harm_14 (by decide) ?_
      have hPc := hP.sub (ws' := [(h0, .inr (11, [.ref st, .int (nI N), .int (nI B), .ref rp, .int vrs, .int vrb, .int vhs, .int vca, .int vxs, .int vxb, .ref tp, .int (nI T), .int vfa, .int vbr, .int vba, .int vsp, .int vhe, .int vtk, .int vva, .ref cu, .ref lt, .ref od, .ref th, .ref be, .ref ln, .int (nI S), .ref ma, .int (nI M), .ref ah, .ref bh, .ref ik, .ref la, .ref lg, .ref ce, .int vto])), (st, .inl (G 0, 196, .inl fst))]) [0, 1] rfl
      refine va_calli (va_runV (As := [.int (nI ii), .int (nI gg), .int (nI kk), .int 0]) (rest := []) ⟨hx, hb, hml, hown, hg⟩ (c_X11_harmOfB l dC dI G _ h0 ii gg kk st N B rp tp T cu lt od th be ln S ma M ah bh ik la lg ce 0 vrs vrb vhs vca vxs vxb vfa vbr vba vsp vhe vtk vva vto fst (by have t_b5 := b5; have t_hii := hii; have t_hkk := hkk; have t_ha6 := neI ha6; have t_hgg := hgg; have : ((-4) : Int32).toInt = -4 := (by decide); have t_n0 : (nI N).toInt = (N : Int) := nI_toInt (by omega); have t_n1 : (nI B).toInt = (B : Int) := nI_toInt (by omega); have t_n2 : (nI T).toInt = (T : Int) := nI_toInt (by omega); have t_n3 : (nI S).toInt = (S : Int) := nI_toInt (by omega); have t_n4 : (nI M).toInt = (M : Int) := nI_toInt (by omega); have t_n5 : (nI ii).toInt = (ii : Int) := nI_toInt (by omega); have t_n6 : (nI kk).toInt = (kk : Int) := nI_toInt (by omega); have t_n7 : (nI gg).toInt = (gg : Int) := nI_toInt (by omega); have : (0 : Int32).toInt = 0 := (by decide); omega) (by have t_b5 := b5; have t_hii := hii; have t_hkk := hkk; have t_ha6 := neI ha6; have t_hgg := hgg; have : ((-4) : Int32).toInt = -4 := (by decide); have t_n0 : (nI N).toInt = (N : Int) := nI_toInt (by omega); have t_n1 : (nI B).toInt = (B : Int) := nI_toInt (by omega); have t_n2 : (nI T).toInt = (T : Int) := nI_toInt (by omega); have t_n3 : (nI S).toInt = (S : Int) := nI_toInt (by omega); have t_n4 : (nI M).toInt = (M : Int) := nI_toInt (by omega); have t_n5 : (nI ii).toInt = (ii : Int) := nI_toInt (by omega); have t_n6 : (nI kk).toInt = (kk : Int) := nI_toInt (by omega); have t_n7 : (nI gg).toInt = (gg : Int) := nI_toInt (by omega); have : (0 : Int32).toInt = 0 := (by decide); omega) (by have t_b5 := b5; have t_hii := hii; have t_hkk := hkk; have t_ha6 := neI ha6; have t_hgg := hgg; have : ((-4) : Int32).toInt = -4 := (by decide); have t_n0 : (nI N).toInt = (N : Int) := nI_toInt (by omega); have t_n1 : (nI B).toInt = (B : Int) := nI_toInt (by omega); have t_n2 : (nI T).toInt = (T : Int) := nI_toInt (by omega); have t_n3 : (nI S).toInt = (S : Int) := nI_toInt (by omega); have t_n4 : (nI M).toInt = (M : Int) := nI_toInt (by omega); have t_n5 : (nI ii).toInt = (ii : Int) := nI_toInt (by omega); have t_n6 : (nI kk).toInt = (kk : Int) := nI_toInt (by omega); have t_n7 : (nI gg).toInt = (gg : Int) := nI_toInt (by omega); have : (0 : Int32).toInt = 0 := (by decide); omega) (by have t_b5 := b5; have t_hii := hii; have t_hkk := hkk; have t_ha6 := neI ha6; have t_hgg := hgg; have : ((-4) : Int32).toInt = -4 := (by decide); have t_n0 : (nI N).toInt = (N : Int) := nI_toInt (by omega); have t_n1 : (nI B).toInt = (B : Int) := nI_toInt (by omega); have t_n2 : (nI T).toInt = (T : Int) := nI_toInt (by omega); have t_n3 : (nI S).toInt = (S : Int) := nI_toInt (by omega); have t_n4 : (nI M).toInt = (M : Int) := nI_toInt (by omega); have t_n5 : (nI ii).toInt = (ii : Int) := nI_toInt (by omega); have t_n6 : (nI kk).toInt = (kk : Int) := nI_toInt (by omega); have t_n7 : (nI gg).toInt = (gg : Int) := nI_toInt (by omega); have : (0 : Int32).toInt = 0 := (by decide); omega) (by have t_b5 := b5; have t_hii := hii; have t_hkk := hkk; have t_ha6 := neI ha6; have t_hgg := hgg; have : ((-4) : Int32).toInt = -4 := (by decide); have t_n0 : (nI N).toInt = (N : Int) := nI_toInt (by omega); have t_n1 : (nI B).toInt = (B : Int) := nI_toInt (by omega); have t_n2 : (nI T).toInt = (T : Int) := nI_toInt (by omega); have t_n3 : (nI S).toInt = (S : Int) := nI_toInt (by omega); have t_n4 : (nI M).toInt = (M : Int) := nI_toInt (by omega); have t_n5 : (nI ii).toInt = (ii : Int) := nI_toInt (by omega); have t_n6 : (nI kk).toInt = (kk : Int) := nI_toInt (by omega); have t_n7 : (nI gg).toInt = (gg : Int) := nI_toInt (by omega); have : (0 : Int32).toInt = 0 := (by decide); omega) (by have t_b5 := b5; have t_hii := hii; have t_hkk := hkk; have t_ha6 := neI ha6; have t_hgg := hgg; have : ((-4) : Int32).toInt = -4 := (by decide); have t_n0 : (nI N).toInt = (N : Int) := nI_toInt (by omega); have t_n1 : (nI B).toInt = (B : Int) := nI_toInt (by omega); have t_n2 : (nI T).toInt = (T : Int) := nI_toInt (by omega); have t_n3 : (nI S).toInt = (S : Int) := nI_toInt (by omega); have t_n4 : (nI M).toInt = (M : Int) := nI_toInt (by omega); have t_n5 : (nI ii).toInt = (ii : Int) := nI_toInt (by omega); have t_n6 : (nI kk).toInt = (kk : Int) := nI_toInt (by omega); have t_n7 : (nI gg).toInt = (gg : Int) := nI_toInt (by omega); have : (0 : Int32).toInt = 0 := (by decide); omega) (by have t_b5 := b5; have t_hii := hii; have t_hkk := hkk; have t_ha6 := neI ha6; have t_hgg := hgg; have : ((-4) : Int32).toInt = -4 := (by decide); have t_n0 : (nI N).toInt = (N : Int) := nI_toInt (by omega); have t_n1 : (nI B).toInt = (B : Int) := nI_toInt (by omega); have t_n2 : (nI T).toInt = (T : Int) := nI_toInt (by omega); have t_n3 : (nI S).toInt = (S : Int) := nI_toInt (by omega); have t_n4 : (nI M).toInt = (M : Int) := nI_toInt (by omega); have t_n5 : (nI ii).toInt = (ii : Int) := nI_toInt (by omega); have t_n6 : (nI kk).toInt = (kk : Int) := nI_toInt (by omega); have t_n7 : (nI gg).toInt = (gg : Int) := nI_toInt (by omega); have : (0 : Int32).toInt = 0 := (by decide); omega) (by have t_b5 := b5; have t_hii := hii; have t_hkk := hkk; have t_ha6 := neI ha6; have t_hgg := hgg; have : ((-4) : Int32).toInt = -4 := (by decide); have t_n0 : (nI N).toInt = (N : Int) := nI_toInt (by omega); have t_n1 : (nI B).toInt = (B : Int) := nI_toInt (by omega); have t_n2 : (nI T).toInt = (T : Int) := nI_toInt (by omega); have t_n3 : (nI S).toInt = (S : Int) := nI_toInt (by omega); have t_n4 : (nI M).toInt = (M : Int) := nI_toInt (by omega); have t_n5 : (nI ii).toInt = (ii : Int) := nI_toInt (by omega); have t_n6 : (nI kk).toInt = (kk : Int) := nI_toInt (by omega); have t_n7 : (nI gg).toInt = (gg : Int) := nI_toInt (by omega); have : (0 : Int32).toInt = 0 := (by decide); omega)) (kwV hg mfX11_harmOf wt_1106 ⟨Nat.le_of_ble_eq_true rfl, Nat.le_of_ble_eq_true rfl⟩) (preVR hK hPc (ci := 11) rfl rfl) rfl rfl hl.1 rfl (lv_room (Nat.le_of_ble_eq_true rfl)) dX11_harm_15 ⟨Nat.le_of_ble_eq_true rfl, Nat.le_of_ble_eq_true rfl⟩) hS (fun q h1 h2 => absurd h2 (Nat.not_le.mpr h1)) (fun q h => hA q (Nat.le_trans hS.1 h)) (fun r9 ur9 t H1 locs ht hvm w10 hB hz1 hk1 hS => ?_)
      have hP := keepR hP hk1
      obtain ⟨w10, w10x⟩ := w10
      subst w10
      refine lv_goto (tgt := 22) hx hb dX11_harm_18 (by decide) ?_
      have hpost : True := by
        trivial
      refine W.widen (k := 0) (n := 0) (by omega) (by omega) ?_
      exact W.iret (v := rhB fst ii gg kk 0) hx hb hr (fun t ht hW => ⟨⟨rhB fst ii gg kk 0, (), rfl, ⟨hpost, trivial⟩, trivial⟩, hS.F ht⟩) hS.2.2 dX11_harm_22

set_option maxHeartbeats 1000000 in
set_option maxRecDepth 100000 in
theorem c_X11_orderedHarm (l : Launch) (dC : Nat → ClassId) (dI : Nat → Nat → Nat) (G : Nat → ClassId) (sz : Nat) (h0 i st N B rp tp T cu lt od th be ln S ma M ah bh ik la lg ce : Nat) (q vrs vrb vhs vca vxs vxb vfa vbr vba vsp vhe vtk vva vto : Int32) (fst : Nat → Int32) (hN : N ≤ 10) (hB : B ≤ 6) (hT : T ≤ 320) (hS0 : S ≤ 8) (hM : M ≤ 6) (hi : i < 10) (hst : OKS fst) : Met l yX11_orderedHarm (Cond.code yX11_orderedHarm cX11_orderedHarm 3 (some .int) :: GT) ({ frames := 2, cells := 0, slots := 0, locals := 50 } : Room) (PcR [.ref h0, .int (nI i), .int q] dC dI G [(h0, .inr (11, [.ref st, .int (nI N), .int (nI B), .ref rp, .int vrs, .int vrb, .int vhs, .int vca, .int vxs, .int vxb, .ref tp, .int (nI T), .int vfa, .int vbr, .int vba, .int vsp, .int vhe, .int vtk, .int vva, .ref cu, .ref lt, .ref od, .ref th, .ref be, .ref ln, .int (nI S), .ref ma, .int (nI M), .ref ah, .ref bh, .ref ik, .ref la, .ref lg, .ref ce, .int vto])), (st, .inl (G 0, 196, .inl fst))] sz) (va_Qi (fun (r : Int32) (u : Unit) => match u with | _ => (True) ∧ True) (fun _ _ => True) (fun q : Nat => sz ≤ q)) 0 0 (fun q : Nat => sz ≤ q) := by
  refine Met.ofW (cc := cX11_orderedHarm) (maxL := 3) (ret := (some .int)) (by decide) rfl ?_
  intro p e s m args below meth c s₁ Bd hml hv
  obtain ⟨rfl, hsz, hP, hK⟩ := hv
  have hx := Bd.exec
  have hb := Bd.bytes
  have hr := Bd.returns
  have hg : ∀ w ∈ GT, w.before ([.ref h0, .int (nI i), .int q] : List Value).toArray s = true := fun w h => atoms_spec (ws := Cond.code yX11_orderedHarm cX11_orderedHarm 3 (some .int) :: GT) Bd.pre w (List.mem_cons_of_mem _ h)
  have hown : s.vm.findClass RX11 = some m.cls := findClass_of_methodNamed Bd.named
  have hlocks := Bd.notSynchronized
  subst hsz
  have hA : ∀ q : Nat, s.heap.size ≤ q → (fun q : Nat => s.heap.size ≤ q) q := fun _ h => h
  have hS : va_S (fun q : Nat => s.heap.size ≤ q) s.heap s.heap [] := va_S.rf
  have hl := lv_entry ([.ref h0, .int (nI i), .int q]) (n := 3) (Nat.le_of_ble_eq_true rfl)
  rw [lg_entry_eq]
  generalize (lg_sl ([.ref h0, .int (nI i), .int q]) ++ List.replicate (3 - (lg_sl ([.ref h0, .int (nI i), .int q])).length) Slot.unset).toArray = ls at hl ⊢
  have hl : lv_has ls 3 [(0, .ref h0), (1, .int (nI i)), (2, .int q)] := hl
  refine lv_aload_n hx hb dX11_orderedHarm_0 rfl (lv_at hl 0 rfl) ?_
  refine lv_iload_n hx hb dX11_orderedHarm_1 rfl (lv_at hl 1 rfl) ?_
  refine lv_iload_n hx hb dX11_orderedHarm_2 rfl (lv_at hl 1 rfl) ?_
  refine lv_if_ne (tgt := 11) hx hb dX11_orderedHarm_3 (by decide) (fun c1 => ?_) (fun c1 => ?_)
  · skip
    have n2 : i ≠ 0 := by have t := neI c1; rw [nI_toInt (n := i) (by omega)] at t; have : (0 : Int32).toInt = 0 := (by decide); omega
    refine lv_aload_n hx hb dX11_orderedHarm_11 rfl (lv_at hl 0 rfl) ?_
    refine va_get (D := (dC, dI)) (ci := 11) (v := .ref st) (C := RX11) (T := TX11) (N := 35) hx hb hg inG11 hown hK.1 hP 0 rfl rfl 0 (by decide) (hg _ wt_878) (fun _ h9 => h9) rfl dX11_orderedHarm_12 ?_
    refine lv_bipush (v := 38) hx hb dX11_orderedHarm_15 (by decide) ?_
    refine lv_iload_n hx hb dX11_orderedHarm_17 rfl (lv_at hl 1 rfl) ?_
    refine lv_iadd hx hb dX11_orderedHarm_18 ?_
    refine lv_cg (y := nI (38 + i)) (by rw [show (38 : Int32) = nI 38 from rfl]; exact nI_add _ _) ?_
    refine lv_iconst (v := 1) hx hb dX11_orderedHarm_19 (by decide) ?_
    refine lv_isub hx hb dX11_orderedHarm_20 ?_
    refine lv_cg (y := nI ((38 + i) - 1)) (by rw [show (1 : Int32) = nI 1 from rfl]; exact pk_sub (by have t_n2 := n2; have t_n0 : (nI i).toInt = (i : Int) := nI_toInt (by omega); have t_n1 : (nI N).toInt = (N : Int) := nI_toInt (by omega); have t_n2 : (nI B).toInt = (B : Int) := nI_toInt (by omega); have t_n3 : (nI T).toInt = (T : Int) := nI_toInt (by omega); have t_n4 : (nI S).toInt = (S : Int) := nI_toInt (by omega); have t_n5 : (nI M).toInt = (M : Int) := nI_toInt (by omega); omega)) ?_
    refine va_iald hx hb hK.1 hP 1 0 rfl rfl (vp_in_nI (by have t_n2 := n2; have t_n0 : (nI i).toInt = (i : Int) := nI_toInt (by omega); have t_n1 : (nI N).toInt = (N : Int) := nI_toInt (by omega); have t_n2 : (nI B).toInt = (B : Int) := nI_toInt (by omega); have t_n3 : (nI T).toInt = (T : Int) := nI_toInt (by omega); have t_n4 : (nI S).toInt = (S : Int) := nI_toInt (by omega); have t_n5 : (nI M).toInt = (M : Int) := nI_toInt (by omega); omega) (by decide)) dX11_orderedHarm_21 ?_
    refine lv_cg (y := fst ((38 + i) - 1)) (by rw [nI_clamp (by omega)]) ?_
    obtain ⟨o1, ho1, eo1⟩ := ord_nat hst (q := ((38 + i) - 1)) (by omega) (by omega) (by omega)
    refine lv_cg (y := nI o1) eo1 ?_
    refine lv_aload_n hx hb dX11_orderedHarm_22 rfl (lv_at hl 0 rfl) ?_
    refine va_get (D := (dC, dI)) (ci := 11) (v := .ref st) (C := RX11) (T := TX11) (N := 35) hx hb hg inG11 hown hK.1 hP 0 rfl rfl 0 (by decide) (hg _ wt_878) (fun _ h9 => h9) rfl dX11_orderedHarm_23 ?_
    refine lv_bipush (v := 38) hx hb dX11_orderedHarm_26 (by decide) ?_
    refine lv_iload_n hx hb dX11_orderedHarm_28 rfl (lv_at hl 1 rfl) ?_
    refine lv_iadd hx hb dX11_orderedHarm_29 ?_
    refine lv_cg (y := nI (38 + i)) (by rw [show (38 : Int32) = nI 38 from rfl]; exact nI_add _ _) ?_
    refine va_iald hx hb hK.1 hP 1 0 rfl rfl (vp_in_nI (by have t_n2 := n2; have t_ho1 := ho1; have t_n0 : (nI i).toInt = (i : Int) := nI_toInt (by omega); have t_n1 : (nI N).toInt = (N : Int) := nI_toInt (by omega); have t_n2 : (nI B).toInt = (B : Int) := nI_toInt (by omega); have t_n3 : (nI T).toInt = (T : Int) := nI_toInt (by omega); have t_n4 : (nI S).toInt = (S : Int) := nI_toInt (by omega); have t_n5 : (nI M).toInt = (M : Int) := nI_toInt (by omega); have t_n6 : (nI o1).toInt = (o1 : Int) := nI_toInt (by omega); omega) (by decide)) dX11_orderedHarm_30 ?_
    refine lv_cg (y := fst (38 + i)) (by rw [nI_clamp (by omega)]) ?_
    obtain ⟨o2, ho2, eo2⟩ := ord_nat hst (q := (38 + i)) (by omega) (by omega) (by omega)
    refine lv_cg (y := nI o2) eo2 ?_
    refine lv_iload_n hx hb dX11_orderedHarm_31 rfl (lv_at hl 2 rfl) ?_
    have hPc := hP.sub (ws' := [(h0, .inr (11, [.ref st, .int (nI N), .int (nI B), .ref rp, .int vrs, .int vrb, .int vhs, .int vca, .int vxs, .int vxb, .ref tp, .int (nI T), .int vfa, .int vbr, .int vba, .int vsp, .int vhe, .int vtk, .int vva, .ref cu, .ref lt, .ref od, .ref th, .ref be, .ref ln, .int (nI S), .ref ma, .int (nI M), .ref ah, .ref bh, .ref ik, .ref la, .ref lg, .ref ce, .int vto])), (st, .inl (G 0, 196, .inl fst))]) [0, 1] rfl
    refine va_calli (va_runV (As := [.int (nI i), .int (nI o1), .int (nI o2), .int q]) (rest := []) ⟨hx, hb, hml, hown, hg⟩ (c_X11_harmOfB l dC dI G _ h0 i o1 o2 st N B rp tp T cu lt od th be ln S ma M ah bh ik la lg ce q vrs vrb vhs vca vxs vxb vfa vbr vba vsp vhe vtk vva vto fst (by have t_n2 := n2; have t_ho1 := ho1; have t_ho2 := ho2; have t_n0 : (nI i).toInt = (i : Int) := nI_toInt (by omega); have t_n1 : (nI N).toInt = (N : Int) := nI_toInt (by omega); have t_n2 : (nI B).toInt = (B : Int) := nI_toInt (by omega); have t_n3 : (nI T).toInt = (T : Int) := nI_toInt (by omega); have t_n4 : (nI S).toInt = (S : Int) := nI_toInt (by omega); have t_n5 : (nI M).toInt = (M : Int) := nI_toInt (by omega); have t_n6 : (nI o1).toInt = (o1 : Int) := nI_toInt (by omega); have t_n7 : (nI o2).toInt = (o2 : Int) := nI_toInt (by omega); omega) (by have t_n2 := n2; have t_ho1 := ho1; have t_ho2 := ho2; have t_n0 : (nI i).toInt = (i : Int) := nI_toInt (by omega); have t_n1 : (nI N).toInt = (N : Int) := nI_toInt (by omega); have t_n2 : (nI B).toInt = (B : Int) := nI_toInt (by omega); have t_n3 : (nI T).toInt = (T : Int) := nI_toInt (by omega); have t_n4 : (nI S).toInt = (S : Int) := nI_toInt (by omega); have t_n5 : (nI M).toInt = (M : Int) := nI_toInt (by omega); have t_n6 : (nI o1).toInt = (o1 : Int) := nI_toInt (by omega); have t_n7 : (nI o2).toInt = (o2 : Int) := nI_toInt (by omega); omega) (by have t_n2 := n2; have t_ho1 := ho1; have t_ho2 := ho2; have t_n0 : (nI i).toInt = (i : Int) := nI_toInt (by omega); have t_n1 : (nI N).toInt = (N : Int) := nI_toInt (by omega); have t_n2 : (nI B).toInt = (B : Int) := nI_toInt (by omega); have t_n3 : (nI T).toInt = (T : Int) := nI_toInt (by omega); have t_n4 : (nI S).toInt = (S : Int) := nI_toInt (by omega); have t_n5 : (nI M).toInt = (M : Int) := nI_toInt (by omega); have t_n6 : (nI o1).toInt = (o1 : Int) := nI_toInt (by omega); have t_n7 : (nI o2).toInt = (o2 : Int) := nI_toInt (by omega); omega) (by have t_n2 := n2; have t_ho1 := ho1; have t_ho2 := ho2; have t_n0 : (nI i).toInt = (i : Int) := nI_toInt (by omega); have t_n1 : (nI N).toInt = (N : Int) := nI_toInt (by omega); have t_n2 : (nI B).toInt = (B : Int) := nI_toInt (by omega); have t_n3 : (nI T).toInt = (T : Int) := nI_toInt (by omega); have t_n4 : (nI S).toInt = (S : Int) := nI_toInt (by omega); have t_n5 : (nI M).toInt = (M : Int) := nI_toInt (by omega); have t_n6 : (nI o1).toInt = (o1 : Int) := nI_toInt (by omega); have t_n7 : (nI o2).toInt = (o2 : Int) := nI_toInt (by omega); omega) (by have t_n2 := n2; have t_ho1 := ho1; have t_ho2 := ho2; have t_n0 : (nI i).toInt = (i : Int) := nI_toInt (by omega); have t_n1 : (nI N).toInt = (N : Int) := nI_toInt (by omega); have t_n2 : (nI B).toInt = (B : Int) := nI_toInt (by omega); have t_n3 : (nI T).toInt = (T : Int) := nI_toInt (by omega); have t_n4 : (nI S).toInt = (S : Int) := nI_toInt (by omega); have t_n5 : (nI M).toInt = (M : Int) := nI_toInt (by omega); have t_n6 : (nI o1).toInt = (o1 : Int) := nI_toInt (by omega); have t_n7 : (nI o2).toInt = (o2 : Int) := nI_toInt (by omega); omega) (by have t_n2 := n2; have t_ho1 := ho1; have t_ho2 := ho2; have t_n0 : (nI i).toInt = (i : Int) := nI_toInt (by omega); have t_n1 : (nI N).toInt = (N : Int) := nI_toInt (by omega); have t_n2 : (nI B).toInt = (B : Int) := nI_toInt (by omega); have t_n3 : (nI T).toInt = (T : Int) := nI_toInt (by omega); have t_n4 : (nI S).toInt = (S : Int) := nI_toInt (by omega); have t_n5 : (nI M).toInt = (M : Int) := nI_toInt (by omega); have t_n6 : (nI o1).toInt = (o1 : Int) := nI_toInt (by omega); have t_n7 : (nI o2).toInt = (o2 : Int) := nI_toInt (by omega); omega) (by have t_n2 := n2; have t_ho1 := ho1; have t_ho2 := ho2; have t_n0 : (nI i).toInt = (i : Int) := nI_toInt (by omega); have t_n1 : (nI N).toInt = (N : Int) := nI_toInt (by omega); have t_n2 : (nI B).toInt = (B : Int) := nI_toInt (by omega); have t_n3 : (nI T).toInt = (T : Int) := nI_toInt (by omega); have t_n4 : (nI S).toInt = (S : Int) := nI_toInt (by omega); have t_n5 : (nI M).toInt = (M : Int) := nI_toInt (by omega); have t_n6 : (nI o1).toInt = (o1 : Int) := nI_toInt (by omega); have t_n7 : (nI o2).toInt = (o2 : Int) := nI_toInt (by omega); omega) (by have t_n2 := n2; have t_ho1 := ho1; have t_ho2 := ho2; have t_n0 : (nI i).toInt = (i : Int) := nI_toInt (by omega); have t_n1 : (nI N).toInt = (N : Int) := nI_toInt (by omega); have t_n2 : (nI B).toInt = (B : Int) := nI_toInt (by omega); have t_n3 : (nI T).toInt = (T : Int) := nI_toInt (by omega); have t_n4 : (nI S).toInt = (S : Int) := nI_toInt (by omega); have t_n5 : (nI M).toInt = (M : Int) := nI_toInt (by omega); have t_n6 : (nI o1).toInt = (o1 : Int) := nI_toInt (by omega); have t_n7 : (nI o2).toInt = (o2 : Int) := nI_toInt (by omega); omega)) (kwV hg mfX11_harmOf wt_1106 ⟨Nat.le_of_ble_eq_true rfl, Nat.le_of_ble_eq_true rfl⟩) (preVR hK hPc (ci := 11) rfl rfl) rfl rfl hl.1 rfl (lv_room (Nat.le_of_ble_eq_true rfl)) dX11_orderedHarm_32 ⟨Nat.le_of_ble_eq_true rfl, Nat.le_of_ble_eq_true rfl⟩) hS (fun q h1 h2 => absurd h2 (Nat.not_le.mpr h1)) (fun q h => hA q (Nat.le_trans hS.1 h)) (fun r3 ur3 t H1 locs ht hvm w4 hB hz1 hk1 hS => ?_)
    have hP := keepR hP hk1
    obtain ⟨w4, w4x⟩ := w4
    subst w4
    have hpost : True := by
      trivial
    refine W.widen (k := 0) (n := 0) (by omega) (by omega) ?_
    exact W.iret (v := rhB fst i o1 o2 q) hx hb hr (fun t ht hW => ⟨⟨rhB fst i o1 o2 q, (), rfl, ⟨hpost, trivial⟩, trivial⟩, hS.F ht⟩) hS.2.2 dX11_orderedHarm_35
  · skip
    have n5 : i = 0 := by have t := eqI c1; rw [nI_toInt (n := i) (by omega)] at t; have : (0 : Int32).toInt = 0 := (by decide); omega
    refine lv_bipush (v := (-4)) hx hb dX11_orderedHarm_6 (by decide) ?_
    refine lv_goto (tgt := 22) hx hb dX11_orderedHarm_8 (by decide) ?_
    refine lv_aload_n hx hb dX11_orderedHarm_22 rfl (lv_at hl 0 rfl) ?_
    refine va_get (D := (dC, dI)) (ci := 11) (v := .ref st) (C := RX11) (T := TX11) (N := 35) hx hb hg inG11 hown hK.1 hP 0 rfl rfl 0 (by decide) (hg _ wt_878) (fun _ h9 => h9) rfl dX11_orderedHarm_23 ?_
    refine lv_bipush (v := 38) hx hb dX11_orderedHarm_26 (by decide) ?_
    refine lv_iload_n hx hb dX11_orderedHarm_28 rfl (lv_at hl 1 rfl) ?_
    refine lv_iadd hx hb dX11_orderedHarm_29 ?_
    refine lv_cg (y := nI (38 + i)) (by rw [show (38 : Int32) = nI 38 from rfl]; exact nI_add _ _) ?_
    refine va_iald hx hb hK.1 hP 1 0 rfl rfl (vp_in_nI (by have t_n5 := n5; have t_n0 : (nI i).toInt = (i : Int) := nI_toInt (by omega); have t_n1 : (nI N).toInt = (N : Int) := nI_toInt (by omega); have t_n2 : (nI B).toInt = (B : Int) := nI_toInt (by omega); have t_n3 : (nI T).toInt = (T : Int) := nI_toInt (by omega); have t_n4 : (nI S).toInt = (S : Int) := nI_toInt (by omega); have t_n5 : (nI M).toInt = (M : Int) := nI_toInt (by omega); omega) (by decide)) dX11_orderedHarm_30 ?_
    refine lv_cg (y := fst (38 + i)) (by rw [nI_clamp (by omega)]) ?_
    obtain ⟨o2, ho2, eo2⟩ := ord_nat hst (q := (38 + i)) (by omega) (by omega) (by omega)
    refine lv_cg (y := nI o2) eo2 ?_
    refine lv_iload_n hx hb dX11_orderedHarm_31 rfl (lv_at hl 2 rfl) ?_
    have hPc := hP.sub (ws' := [(h0, .inr (11, [.ref st, .int (nI N), .int (nI B), .ref rp, .int vrs, .int vrb, .int vhs, .int vca, .int vxs, .int vxb, .ref tp, .int (nI T), .int vfa, .int vbr, .int vba, .int vsp, .int vhe, .int vtk, .int vva, .ref cu, .ref lt, .ref od, .ref th, .ref be, .ref ln, .int (nI S), .ref ma, .int (nI M), .ref ah, .ref bh, .ref ik, .ref la, .ref lg, .ref ce, .int vto])), (st, .inl (G 0, 196, .inl fst))]) [0, 1] rfl
    refine va_calli (va_runV (As := [.int (nI i), .int (-4), .int (nI o2), .int q]) (rest := []) ⟨hx, hb, hml, hown, hg⟩ (c_X11_harmOfN l dC dI G _ h0 i o2 st N B rp tp T cu lt od th be ln S ma M ah bh ik la lg ce q vrs vrb vhs vca vxs vxb vfa vbr vba vsp vhe vtk vva vto fst (by have t_n5 := n5; have t_ho2 := ho2; have t_n0 : (nI i).toInt = (i : Int) := nI_toInt (by omega); have t_n1 : (nI N).toInt = (N : Int) := nI_toInt (by omega); have t_n2 : (nI B).toInt = (B : Int) := nI_toInt (by omega); have t_n3 : (nI T).toInt = (T : Int) := nI_toInt (by omega); have t_n4 : (nI S).toInt = (S : Int) := nI_toInt (by omega); have t_n5 : (nI M).toInt = (M : Int) := nI_toInt (by omega); have t_n6 : (nI o2).toInt = (o2 : Int) := nI_toInt (by omega); have : ((-4) : Int32).toInt = -4 := (by decide); omega) (by have t_n5 := n5; have t_ho2 := ho2; have t_n0 : (nI i).toInt = (i : Int) := nI_toInt (by omega); have t_n1 : (nI N).toInt = (N : Int) := nI_toInt (by omega); have t_n2 : (nI B).toInt = (B : Int) := nI_toInt (by omega); have t_n3 : (nI T).toInt = (T : Int) := nI_toInt (by omega); have t_n4 : (nI S).toInt = (S : Int) := nI_toInt (by omega); have t_n5 : (nI M).toInt = (M : Int) := nI_toInt (by omega); have t_n6 : (nI o2).toInt = (o2 : Int) := nI_toInt (by omega); have : ((-4) : Int32).toInt = -4 := (by decide); omega) (by have t_n5 := n5; have t_ho2 := ho2; have t_n0 : (nI i).toInt = (i : Int) := nI_toInt (by omega); have t_n1 : (nI N).toInt = (N : Int) := nI_toInt (by omega); have t_n2 : (nI B).toInt = (B : Int) := nI_toInt (by omega); have t_n3 : (nI T).toInt = (T : Int) := nI_toInt (by omega); have t_n4 : (nI S).toInt = (S : Int) := nI_toInt (by omega); have t_n5 : (nI M).toInt = (M : Int) := nI_toInt (by omega); have t_n6 : (nI o2).toInt = (o2 : Int) := nI_toInt (by omega); have : ((-4) : Int32).toInt = -4 := (by decide); omega) (by have t_n5 := n5; have t_ho2 := ho2; have t_n0 : (nI i).toInt = (i : Int) := nI_toInt (by omega); have t_n1 : (nI N).toInt = (N : Int) := nI_toInt (by omega); have t_n2 : (nI B).toInt = (B : Int) := nI_toInt (by omega); have t_n3 : (nI T).toInt = (T : Int) := nI_toInt (by omega); have t_n4 : (nI S).toInt = (S : Int) := nI_toInt (by omega); have t_n5 : (nI M).toInt = (M : Int) := nI_toInt (by omega); have t_n6 : (nI o2).toInt = (o2 : Int) := nI_toInt (by omega); have : ((-4) : Int32).toInt = -4 := (by decide); omega) (by have t_n5 := n5; have t_ho2 := ho2; have t_n0 : (nI i).toInt = (i : Int) := nI_toInt (by omega); have t_n1 : (nI N).toInt = (N : Int) := nI_toInt (by omega); have t_n2 : (nI B).toInt = (B : Int) := nI_toInt (by omega); have t_n3 : (nI T).toInt = (T : Int) := nI_toInt (by omega); have t_n4 : (nI S).toInt = (S : Int) := nI_toInt (by omega); have t_n5 : (nI M).toInt = (M : Int) := nI_toInt (by omega); have t_n6 : (nI o2).toInt = (o2 : Int) := nI_toInt (by omega); have : ((-4) : Int32).toInt = -4 := (by decide); omega) (by have t_n5 := n5; have t_ho2 := ho2; have t_n0 : (nI i).toInt = (i : Int) := nI_toInt (by omega); have t_n1 : (nI N).toInt = (N : Int) := nI_toInt (by omega); have t_n2 : (nI B).toInt = (B : Int) := nI_toInt (by omega); have t_n3 : (nI T).toInt = (T : Int) := nI_toInt (by omega); have t_n4 : (nI S).toInt = (S : Int) := nI_toInt (by omega); have t_n5 : (nI M).toInt = (M : Int) := nI_toInt (by omega); have t_n6 : (nI o2).toInt = (o2 : Int) := nI_toInt (by omega); have : ((-4) : Int32).toInt = -4 := (by decide); omega) (by have t_n5 := n5; have t_ho2 := ho2; have t_n0 : (nI i).toInt = (i : Int) := nI_toInt (by omega); have t_n1 : (nI N).toInt = (N : Int) := nI_toInt (by omega); have t_n2 : (nI B).toInt = (B : Int) := nI_toInt (by omega); have t_n3 : (nI T).toInt = (T : Int) := nI_toInt (by omega); have t_n4 : (nI S).toInt = (S : Int) := nI_toInt (by omega); have t_n5 : (nI M).toInt = (M : Int) := nI_toInt (by omega); have t_n6 : (nI o2).toInt = (o2 : Int) := nI_toInt (by omega); have : ((-4) : Int32).toInt = -4 := (by decide); omega)) (kwV hg mfX11_harmOf wt_1106 ⟨Nat.le_of_ble_eq_true rfl, Nat.le_of_ble_eq_true rfl⟩) (preVR hK hPc (ci := 11) rfl rfl) rfl rfl hl.1 rfl (lv_room (Nat.le_of_ble_eq_true rfl)) dX11_orderedHarm_32 ⟨Nat.le_of_ble_eq_true rfl, Nat.le_of_ble_eq_true rfl⟩) hS (fun q h1 h2 => absurd h2 (Nat.not_le.mpr h1)) (fun q h => hA q (Nat.le_trans hS.1 h)) (fun r6 ur6 t H1 locs ht hvm w7 hB hz1 hk1 hS => ?_)
    have hP := keepR hP hk1
    obtain ⟨w7, w7x⟩ := w7
    subst w7
    have hpost : True := by
      trivial
    refine W.widen (k := 0) (n := 0) (by omega) (by omega) ?_
    exact W.iret (v := rhN fst i o2 q) hx hb hr (fun t ht hW => ⟨⟨rhN fst i o2 q, (), rfl, ⟨hpost, trivial⟩, trivial⟩, hS.F ht⟩) hS.2.2 dX11_orderedHarm_35

set_option maxHeartbeats 1000000 in
set_option maxRecDepth 100000 in
theorem c_X11_power (l : Launch) (dC : Nat → ClassId) (dI : Nat → Nat → Nat) (G : Nat → ClassId) (sz : Nat) (nn : Nat) (hnn : nn ≤ 10) : Met l yX11_power (Cond.code yX11_power cX11_power 4 (some .long) :: GT) ({ frames := 0, cells := 0, slots := 0, locals := 0 } : Room) (PcR [.int (nI nn)] dC dI G [] sz) (va_Ql (fun (r : Int64) (u : Unit) => match u with | _ => (r = powF nn) ∧ True) (fun _ _ => True) (fun q : Nat => sz ≤ q)) 0 0 (fun q : Nat => sz ≤ q) := by
  refine Met.ofW (cc := cX11_power) (maxL := 4) (ret := (some .long)) (by decide) rfl ?_
  intro p e s m args below meth c s₁ Bd hml hv
  obtain ⟨rfl, hsz, hP, hK⟩ := hv
  have hx := Bd.exec
  have hb := Bd.bytes
  have hr := Bd.returns
  have hg : ∀ w ∈ GT, w.before ([.int (nI nn)] : List Value).toArray s = true := fun w h => atoms_spec (ws := Cond.code yX11_power cX11_power 4 (some .long) :: GT) Bd.pre w (List.mem_cons_of_mem _ h)
  have hown : s.vm.findClass RX11 = some m.cls := findClass_of_methodNamed Bd.named
  have hlocks := Bd.notSynchronized
  subst hsz
  have hA : ∀ q : Nat, s.heap.size ≤ q → (fun q : Nat => s.heap.size ≤ q) q := fun _ h => h
  have hS : va_S (fun q : Nat => s.heap.size ≤ q) s.heap s.heap [] := va_S.rf
  have hl := lv_entry ([.int (nI nn)]) (n := 4) (Nat.le_of_ble_eq_true rfl)
  rw [lg_entry_eq]
  generalize (lg_sl ([.int (nI nn)]) ++ List.replicate (4 - (lg_sl ([.int (nI nn)])).length) Slot.unset).toArray = ls at hl ⊢
  have hl : lv_has ls 4 [(0, .int (nI nn))] := hl
  refine lv_lconst (v := 1) hx hb dX11_power_0 (by decide) ?_
  refine lv_lstore_n (lv' := [(1, .long 1), (0, .int (nI nn))]) hx hb dX11_power_1 rfl hl (by decide) rfl (fun ls hl => ?_)
  refine lv_iconst (v := 0) hx hb dX11_power_2 (by decide) ?_
  refine lv_istore_n (lv' := [(3, .int 0), (1, .long 1), (0, .int (nI nn))]) hx hb dX11_power_3 rfl hl (by decide) rfl (fun ls hl => ?_)
  have loop4_3 : ∀ (nf j1 : Nat), nn + 1 ≤ j1 + nf → j1 ≤ nn → ∀ (y2 : Int64) (H : Heap) (locs : List Loc), y2 = powF j1 → va_P (dC, dI) vwCl [] H → va_S (fun q : Nat => s.heap.size ≤ q) s.heap H locs → ∀ (ls : Array Slot), lv_has ls 4 [(3, .int (nI j1)), (1, .long y2), (0, .int (nI nn))] → W p l e (headSpec (Cond.code yX11_power cX11_power 4 (some .long) :: GT) ({ frames := 0, cells := 0, slots := 0, locals := 0 } : Room)).room s m ([.int (nI nn)] : List Value).toArray below meth c H locs 0 0 (MQ below (va_Ql (fun (r : Int64) (u : Unit) => match u with | _ => (r = powF nn) ∧ True) (fun _ _ => True) (fun q : Nat => s.heap.size ≤ q)) ([.int (nI nn)] : List Value).toArray s 0 0 (fun q : Nat => s.heap.size ≤ q)) (F0 m 4 ls []) := by
    intro nf
    induction nf with
    | zero => intro j1 h1 h2; exact absurd h1 (by omega)
    | succ nf ih4_3 =>
      intro j1 hn4 hj5 y2 H locs hinv hP hS ls hl
      refine lv_iload_n hx hb dX11_power_4 rfl (lv_at hl 0 rfl) ?_
      refine lv_iload_n hx hb dX11_power_5 rfl (lv_at hl 2 rfl) ?_
      refine lv_icmp_ge (tgt := 21) hx hb dX11_power_6 (by decide) (fun c6 => ?_) (fun c6 => ?_)
      · skip
        have n7 : nn ≤ j1 := by have t := leI c6; rw [nI_toInt (n := j1) (by omega)] at t; rw [nI_toInt (n := nn) (by omega)] at t; omega
        refine lv_lload_n hx hb dX11_power_21 rfl (lv_at hl 1 rfl) ?_
        have hpost : (y2 : Int64) = powF nn := by
          rw [hinv, show j1 = nn from (by omega)]
        refine W.widen (k := 0) (n := 0) (by omega) (by omega) ?_
        exact W.lret (v := y2) hx hb hr (fun t ht hW => ⟨⟨y2, (), rfl, ⟨hpost, trivial⟩, trivial⟩, hS.F ht⟩) hS.2.2 dX11_power_22
      · skip
        have n8 : j1 < nn := by have t := nleI c6; rw [nI_toInt (n := j1) (by omega)] at t; rw [nI_toInt (n := nn) (by omega)] at t; omega
        refine lv_lload_n hx hb dX11_power_9 rfl (lv_at hl 1 rfl) ?_
        refine lv_ldc2 (v := 20) hx hb hown (hg _ wt_1127) dX11_power_10 ?_
        refine lv_lmul hx hb dX11_power_13 ?_
        refine lv_lstore_n (lv' := [(1, .long (y2 * 20)), (3, .int (nI j1)), (0, .int (nI nn))]) hx hb dX11_power_14 rfl hl (by decide) rfl (fun ls hl => ?_)
        refine lv_iinc (v := nI (j1 + 1)) (lv' := [(3, .int (nI (j1 + 1))), (1, .long (y2 * 20)), (0, .int (nI nn))]) hx hb dX11_power_15 hl (k := 1) rfl (by rw [show Int32.ofInt 1 = nI 1 from by decide]; exact nI_add _ _) (by decide) rfl (fun ls hl => ?_)
        refine lv_goto (tgt := 4) hx hb dX11_power_18 (by decide) ?_
        exact ih4_3 (j1 + 1) (by omega) (by omega) (y2 * 20) _ _ (by rw [hinv]; rfl) hP hS ls (lv_sub hl [0, 1, 2] rfl)
  exact loop4_3 (nn + 1) 0 (by omega) (by omega) 1 _ _ rfl hP hS ls (lv_sub hl [0, 1, 2] rfl)

set_option maxHeartbeats 1000000 in
set_option maxRecDepth 100000 in
theorem c_X11_deeper (l : Launch) (dC : Nat → ClassId) (dI : Nat → Nat → Nat) (G : Nat → ClassId) (sz : Nat) (x1 x2 : Nat) (hx1 : x1 ≤ 9) (hx2 : x2 ≤ 2) : Met l yX11_deeper (Cond.code yX11_deeper cX11_deeper 2 (some .int) :: GT) ({ frames := 0, cells := 0, slots := 0, locals := 0 } : Room) (PcR [.int (nI x1), .int (nI x2)] dC dI G [] sz) (va_Qi (fun (r : Int32) (u : Unit) => match u with | _ => (r = nI (min 9 (x1 + x2))) ∧ True) (fun _ _ => True) (fun q : Nat => sz ≤ q)) 0 0 (fun q : Nat => sz ≤ q) := by
  refine Met.ofW (cc := cX11_deeper) (maxL := 2) (ret := (some .int)) (by decide) rfl ?_
  intro p e s m args below meth c s₁ Bd hml hv
  obtain ⟨rfl, hsz, hP, hK⟩ := hv
  have hx := Bd.exec
  have hb := Bd.bytes
  have hr := Bd.returns
  have hg : ∀ w ∈ GT, w.before ([.int (nI x1), .int (nI x2)] : List Value).toArray s = true := fun w h => atoms_spec (ws := Cond.code yX11_deeper cX11_deeper 2 (some .int) :: GT) Bd.pre w (List.mem_cons_of_mem _ h)
  have hown : s.vm.findClass RX11 = some m.cls := findClass_of_methodNamed Bd.named
  have hlocks := Bd.notSynchronized
  subst hsz
  have hA : ∀ q : Nat, s.heap.size ≤ q → (fun q : Nat => s.heap.size ≤ q) q := fun _ h => h
  have hS : va_S (fun q : Nat => s.heap.size ≤ q) s.heap s.heap [] := va_S.rf
  have hl := lv_entry ([.int (nI x1), .int (nI x2)]) (n := 2) (Nat.le_of_ble_eq_true rfl)
  rw [lg_entry_eq]
  generalize (lg_sl ([.int (nI x1), .int (nI x2)]) ++ List.replicate (2 - (lg_sl ([.int (nI x1), .int (nI x2)])).length) Slot.unset).toArray = ls at hl ⊢
  have hl : lv_has ls 2 [(0, .int (nI x1)), (1, .int (nI x2))] := hl
  refine lv_iload_n hx hb dX11_deeper_0 rfl (lv_at hl 0 rfl) ?_
  refine lv_iload_n hx hb dX11_deeper_1 rfl (lv_at hl 1 rfl) ?_
  refine lv_iadd hx hb dX11_deeper_2 ?_
  refine lv_cg (y := nI (x1 + x2)) (by exact nI_add _ _) ?_
  refine lv_bipush (v := 9) hx hb dX11_deeper_3 (by decide) ?_
  refine lv_icmp_le (tgt := 13) hx hb dX11_deeper_5 (by decide) (fun c1 => ?_) (fun c1 => ?_)
  · skip
    have n2 : (x1 + x2) ≤ 9 := by have t := leI c1; rw [nI_toInt (n := (x1 + x2)) (by omega)] at t; have : (9 : Int32).toInt = 9 := (by decide); omega
    refine lv_iload_n hx hb dX11_deeper_13 rfl (lv_at hl 0 rfl) ?_
    refine lv_iload_n hx hb dX11_deeper_14 rfl (lv_at hl 1 rfl) ?_
    refine lv_iadd hx hb dX11_deeper_15 ?_
    refine lv_cg (y := nI (x1 + x2)) (by exact nI_add _ _) ?_
    have hpost : (nI (x1 + x2) : Int32) = nI (min 9 (x1 + x2)) := by
      have t_n2 := n2
      have t_n0 : (nI x1).toInt = (x1 : Int) := nI_toInt (by omega)
      have t_n1 : (nI x2).toInt = (x2 : Int) := nI_toInt (by omega)
      rw [show min 9 (x1 + x2) = x1 + x2 from (by omega)]
    refine W.widen (k := 0) (n := 0) (by omega) (by omega) ?_
    exact W.iret (v := nI (x1 + x2)) hx hb hr (fun t ht hW => ⟨⟨nI (x1 + x2), (), rfl, ⟨hpost, trivial⟩, trivial⟩, hS.F ht⟩) hS.2.2 dX11_deeper_16
  · skip
    have n3 : 9 < (x1 + x2) := by have t := nleI c1; rw [nI_toInt (n := (x1 + x2)) (by omega)] at t; have : (9 : Int32).toInt = 9 := (by decide); omega
    refine lv_bipush (v := 9) hx hb dX11_deeper_8 (by decide) ?_
    refine lv_goto (tgt := 16) hx hb dX11_deeper_10 (by decide) ?_
    have hpost : (9 : Int32) = nI (min 9 (x1 + x2)) := by
      have t_n3 := n3
      have t_n0 : (nI x1).toInt = (x1 : Int) := nI_toInt (by omega)
      have t_n1 : (nI x2).toInt = (x2 : Int) := nI_toInt (by omega)
      rw [show min 9 (x1 + x2) = 9 from (by omega)]; rfl
    refine W.widen (k := 0) (n := 0) (by omega) (by omega) ?_
    exact W.iret (v := 9) hx hb hr (fun t ht hW => ⟨⟨9, (), rfl, ⟨hpost, trivial⟩, trivial⟩, hS.F ht⟩) hS.2.2 dX11_deeper_16

set_option maxHeartbeats 1000000 in
set_option maxRecDepth 100000 in
theorem c_X11_layOdds (l : Launch) (dC : Nat → ClassId) (dI : Nat → Nat → Nat) (G : Nat → ClassId) (sz : Nat) (h0 nn st N B rp tp T cu lt od th be ln S ma M ah bh ik la lg ce : Nat) (x1 x2 vrs vrb vhs vca vxs vxb vfa vbr vba vsp vhe vtk vva vto : Int32) (fst : Nat → Int32) (fod : Nat → Int64) (fth : Nat → Int64) (hN : N ≤ 10) (hB : B ≤ 6) (hT : T ≤ 320) (hS0 : S ≤ 8) (hM : M ≤ 6) (hst : OKS fst) (hnn : nn ≤ 10) : Met l yX11_layOdds (Cond.code yX11_layOdds cX11_layOdds 8 none :: GT) ({ frames := 3, cells := 0, slots := 0, locals := 72 } : Room) (PcW [.ref h0, .int (nI nn), .int x1, .int x2] dC dI G [(h0, .inr (11, [.ref st, .int (nI N), .int (nI B), .ref rp, .int vrs, .int vrb, .int vhs, .int vca, .int vxs, .int vxb, .ref tp, .int (nI T), .int vfa, .int vbr, .int vba, .int vsp, .int vhe, .int vtk, .int vva, .ref cu, .ref lt, .ref od, .ref th, .ref be, .ref ln, .int (nI S), .ref ma, .int (nI M), .ref ah, .ref bh, .ref ik, .ref la, .ref lg, .ref ce, .int vto])), (st, .inl (G 0, 196, .inl fst)), (od, .inl (G 1, 10, .inr (.inl fod))), (th, .inl (G 1, 10, .inr (.inl fth)))] sz) (va_Qv (fun (u : (Nat → Int64) × (Nat → Int64)) => match u with | (ood, oth) => True) (fun (u : (Nat → Int64) × (Nat → Int64)) (t : State) => match u with | (ood, oth) => va_P (dC, dI) vwCl [(h0, .inr (11, [.ref st, .int (nI N), .int (nI B), .ref rp, .int vrs, .int vrb, .int vhs, .int vca, .int vxs, .int vxb, .ref tp, .int (nI T), .int vfa, .int vbr, .int vba, .int vsp, .int vhe, .int vtk, .int vva, .ref cu, .ref lt, .ref od, .ref th, .ref be, .ref ln, .int (nI S), .ref ma, .int (nI M), .ref ah, .ref bh, .ref ik, .ref la, .ref lg, .ref ce, .int vto])), (st, .inl (G 0, 196, .inl fst)), (od, .inl (G 1, 10, .inr (.inl ood))), (th, .inl (G 1, 10, .inr (.inl oth)))] t.heap ∧ va_D (va_A [(h0, .inr (11, [.ref st, .int (nI N), .int (nI B), .ref rp, .int vrs, .int vrb, .int vhs, .int vca, .int vxs, .int vxb, .ref tp, .int (nI T), .int vfa, .int vbr, .int vba, .int vsp, .int vhe, .int vtk, .int vva, .ref cu, .ref lt, .ref od, .ref th, .ref be, .ref ln, .int (nI S), .ref ma, .int (nI M), .ref ah, .ref bh, .ref ik, .ref la, .ref lg, .ref ce, .int vto])), (st, .inl (G 0, 196, .inl fst)), (od, .inl (G 1, 10, .inr (.inl fod))), (th, .inl (G 1, 10, .inr (.inl fth)))] sz) [(h0, .inr (11, [.ref st, .int (nI N), .int (nI B), .ref rp, .int vrs, .int vrb, .int vhs, .int vca, .int vxs, .int vxb, .ref tp, .int (nI T), .int vfa, .int vbr, .int vba, .int vsp, .int vhe, .int vtk, .int vva, .ref cu, .ref lt, .ref od, .ref th, .ref be, .ref ln, .int (nI S), .ref ma, .int (nI M), .ref ah, .ref bh, .ref ik, .ref la, .ref lg, .ref ce, .int vto])), (st, .inl (G 0, 196, .inl fst)), (od, .inl (G 1, 10, .inr (.inl ood))), (th, .inl (G 1, 10, .inr (.inl oth)))]) (va_A [(h0, .inr (11, [.ref st, .int (nI N), .int (nI B), .ref rp, .int vrs, .int vrb, .int vhs, .int vca, .int vxs, .int vxb, .ref tp, .int (nI T), .int vfa, .int vbr, .int vba, .int vsp, .int vhe, .int vtk, .int vva, .ref cu, .ref lt, .ref od, .ref th, .ref be, .ref ln, .int (nI S), .ref ma, .int (nI M), .ref ah, .ref bh, .ref ik, .ref la, .ref lg, .ref ce, .int vto])), (st, .inl (G 0, 196, .inl fst)), (od, .inl (G 1, 10, .inr (.inl fod))), (th, .inl (G 1, 10, .inr (.inl fth)))] sz)) 0 0 (va_A [(h0, .inr (11, [.ref st, .int (nI N), .int (nI B), .ref rp, .int vrs, .int vrb, .int vhs, .int vca, .int vxs, .int vxb, .ref tp, .int (nI T), .int vfa, .int vbr, .int vba, .int vsp, .int vhe, .int vtk, .int vva, .ref cu, .ref lt, .ref od, .ref th, .ref be, .ref ln, .int (nI S), .ref ma, .int (nI M), .ref ah, .ref bh, .ref ik, .ref la, .ref lg, .ref ce, .int vto])), (st, .inl (G 0, 196, .inl fst)), (od, .inl (G 1, 10, .inr (.inl fod))), (th, .inl (G 1, 10, .inr (.inl fth)))] sz) := by
  refine Met.ofW (cc := cX11_layOdds) (maxL := 8) (ret := none) (by decide) rfl ?_
  intro p e s m args below meth c s₁ Bd hml hv
  obtain ⟨rfl, hsz, hP, hK, hD0⟩ := hv
  have hx := Bd.exec
  have hb := Bd.bytes
  have hr := Bd.returns
  have hg : ∀ w ∈ GT, w.before ([.ref h0, .int (nI nn), .int x1, .int x2] : List Value).toArray s = true := fun w h => atoms_spec (ws := Cond.code yX11_layOdds cX11_layOdds 8 none :: GT) Bd.pre w (List.mem_cons_of_mem _ h)
  have hown : s.vm.findClass RX11 = some m.cls := findClass_of_methodNamed Bd.named
  have hlocks := Bd.notSynchronized
  subst hsz
  have hD := hD0.self (sz := s.heap.size)
  generalize hAe : va_A [(h0, .inr (11, [.ref st, .int (nI N), .int (nI B), .ref rp, .int vrs, .int vrb, .int vhs, .int vca, .int vxs, .int vxb, .ref tp, .int (nI T), .int vfa, .int vbr, .int vba, .int vsp, .int vhe, .int vtk, .int vva, .ref cu, .ref lt, .ref od, .ref th, .ref be, .ref ln, .int (nI S), .ref ma, .int (nI M), .ref ah, .ref bh, .ref ik, .ref la, .ref lg, .ref ce, .int vto])), (st, .inl (G 0, 196, .inl fst)), (od, .inl (G 1, 10, .inr (.inl fod))), (th, .inl (G 1, 10, .inr (.inl fth)))] s.heap.size = A at hD ⊢
  have hA : ∀ q : Nat, s.heap.size ≤ q → A q := fun q h => by rw [← hAe]; exact Or.inr h
  have hS : va_S A s.heap s.heap [] := va_S.rf
  have hl := lv_entry ([.ref h0, .int (nI nn), .int x1, .int x2]) (n := 8) (Nat.le_of_ble_eq_true rfl)
  rw [lg_entry_eq]
  generalize (lg_sl ([.ref h0, .int (nI nn), .int x1, .int x2]) ++ List.replicate (8 - (lg_sl ([.ref h0, .int (nI nn), .int x1, .int x2])).length) Slot.unset).toArray = ls at hl ⊢
  have hl : lv_has ls 8 [(0, .ref h0), (1, .int (nI nn)), (2, .int x1), (3, .int x2)] := hl
  refine lv_iconst (v := 0) hx hb dX11_layOdds_0 (by decide) ?_
  refine lv_istore (lv' := [(4, .int 0), (0, .ref h0), (1, .int (nI nn)), (2, .int x1), (3, .int x2)]) hx hb dX11_layOdds_1 hl (by decide) rfl (fun ls hl => ?_)
  have loop3_3 : ∀ (nf j1 : Nat), 10 + 1 ≤ j1 + nf → j1 ≤ 10 → ∀ (g2 : Nat → Int64) (H : Heap) (locs : List Loc), va_P (dC, dI) vwCl [(h0, .inr (11, [.ref st, .int (nI N), .int (nI B), .ref rp, .int vrs, .int vrb, .int vhs, .int vca, .int vxs, .int vxb, .ref tp, .int (nI T), .int vfa, .int vbr, .int vba, .int vsp, .int vhe, .int vtk, .int vva, .ref cu, .ref lt, .ref od, .ref th, .ref be, .ref ln, .int (nI S), .ref ma, .int (nI M), .ref ah, .ref bh, .ref ik, .ref la, .ref lg, .ref ce, .int vto])), (st, .inl (G 0, 196, .inl fst)), (od, .inl (G 1, 10, .inr (.inl g2))), (th, .inl (G 1, 10, .inr (.inl fth)))] H → va_D A [(h0, .inr (11, [.ref st, .int (nI N), .int (nI B), .ref rp, .int vrs, .int vrb, .int vhs, .int vca, .int vxs, .int vxb, .ref tp, .int (nI T), .int vfa, .int vbr, .int vba, .int vsp, .int vhe, .int vtk, .int vva, .ref cu, .ref lt, .ref od, .ref th, .ref be, .ref ln, .int (nI S), .ref ma, .int (nI M), .ref ah, .ref bh, .ref ik, .ref la, .ref lg, .ref ce, .int vto])), (st, .inl (G 0, 196, .inl fst)), (od, .inl (G 1, 10, .inr (.inl g2))), (th, .inl (G 1, 10, .inr (.inl fth)))] → va_S A s.heap H locs → ∀ (ls : Array Slot), lv_has ls 8 [(4, .int (nI j1)), (0, .ref h0), (1, .int (nI nn)), (2, .int x1), (3, .int x2)] → W p l e (headSpec (Cond.code yX11_layOdds cX11_layOdds 8 none :: GT) ({ frames := 3, cells := 0, slots := 0, locals := 72 } : Room)).room s m ([.ref h0, .int (nI nn), .int x1, .int x2] : List Value).toArray below meth c H locs 0 0 (MQ below (va_Qv (fun (u : (Nat → Int64) × (Nat → Int64)) => match u with | (ood, oth) => True) (fun (u : (Nat → Int64) × (Nat → Int64)) (t : State) => match u with | (ood, oth) => va_P (dC, dI) vwCl [(h0, .inr (11, [.ref st, .int (nI N), .int (nI B), .ref rp, .int vrs, .int vrb, .int vhs, .int vca, .int vxs, .int vxb, .ref tp, .int (nI T), .int vfa, .int vbr, .int vba, .int vsp, .int vhe, .int vtk, .int vva, .ref cu, .ref lt, .ref od, .ref th, .ref be, .ref ln, .int (nI S), .ref ma, .int (nI M), .ref ah, .ref bh, .ref ik, .ref la, .ref lg, .ref ce, .int vto])), (st, .inl (G 0, 196, .inl fst)), (od, .inl (G 1, 10, .inr (.inl ood))), (th, .inl (G 1, 10, .inr (.inl oth)))] t.heap ∧ va_D A [(h0, .inr (11, [.ref st, .int (nI N), .int (nI B), .ref rp, .int vrs, .int vrb, .int vhs, .int vca, .int vxs, .int vxb, .ref tp, .int (nI T), .int vfa, .int vbr, .int vba, .int vsp, .int vhe, .int vtk, .int vva, .ref cu, .ref lt, .ref od, .ref th, .ref be, .ref ln, .int (nI S), .ref ma, .int (nI M), .ref ah, .ref bh, .ref ik, .ref la, .ref lg, .ref ce, .int vto])), (st, .inl (G 0, 196, .inl fst)), (od, .inl (G 1, 10, .inr (.inl ood))), (th, .inl (G 1, 10, .inr (.inl oth)))]) A) ([.ref h0, .int (nI nn), .int x1, .int x2] : List Value).toArray s 0 0 A) (F0 m 3 ls []) := by
    intro nf
    induction nf with
    | zero => intro j1 h1 h2; exact absurd h1 (by omega)
    | succ nf ih3_3 =>
      intro j1 hn4 hj5 g2 H locs hP hD hS ls hl
      refine lv_iload hx hb dX11_layOdds_3 (lv_at hl 0 rfl) ?_
      refine lv_bipush (v := 10) hx hb dX11_layOdds_5 (by decide) ?_
      refine lv_icmp_ge (tgt := 37) hx hb dX11_layOdds_7 (by decide) (fun c6 => ?_) (fun c6 => ?_)
      · skip
        have n7 : 10 ≤ j1 := by have t := leI c6; rw [nI_toInt (n := j1) (by omega)] at t; have : (10 : Int32).toInt = 10 := (by decide); omega
        refine lv_iconst (v := 0) hx hb dX11_layOdds_37 (by decide) ?_
        refine lv_istore (lv' := [(4, .int 0), (0, .ref h0), (1, .int (nI nn)), (2, .int x1), (3, .int x2)]) hx hb dX11_layOdds_38 hl (by decide) rfl (fun ls hl => ?_)
        have loop40_11 : ∀ (nf j8 : Nat), nn + 1 ≤ j8 + nf → j8 ≤ nn → ∀ (g9 : Nat → Int64) (g10 : Nat → Int64) (H : Heap) (locs : List Loc), va_P (dC, dI) vwCl [(h0, .inr (11, [.ref st, .int (nI N), .int (nI B), .ref rp, .int vrs, .int vrb, .int vhs, .int vca, .int vxs, .int vxb, .ref tp, .int (nI T), .int vfa, .int vbr, .int vba, .int vsp, .int vhe, .int vtk, .int vva, .ref cu, .ref lt, .ref od, .ref th, .ref be, .ref ln, .int (nI S), .ref ma, .int (nI M), .ref ah, .ref bh, .ref ik, .ref la, .ref lg, .ref ce, .int vto])), (st, .inl (G 0, 196, .inl fst)), (od, .inl (G 1, 10, .inr (.inl g9))), (th, .inl (G 1, 10, .inr (.inl g10)))] H → va_D A [(h0, .inr (11, [.ref st, .int (nI N), .int (nI B), .ref rp, .int vrs, .int vrb, .int vhs, .int vca, .int vxs, .int vxb, .ref tp, .int (nI T), .int vfa, .int vbr, .int vba, .int vsp, .int vhe, .int vtk, .int vva, .ref cu, .ref lt, .ref od, .ref th, .ref be, .ref ln, .int (nI S), .ref ma, .int (nI M), .ref ah, .ref bh, .ref ik, .ref la, .ref lg, .ref ce, .int vto])), (st, .inl (G 0, 196, .inl fst)), (od, .inl (G 1, 10, .inr (.inl g9))), (th, .inl (G 1, 10, .inr (.inl g10)))] → va_S A s.heap H locs → ∀ (ls : Array Slot), lv_has ls 8 [(4, .int (nI j8)), (0, .ref h0), (1, .int (nI nn)), (2, .int x1), (3, .int x2)] → W p l e (headSpec (Cond.code yX11_layOdds cX11_layOdds 8 none :: GT) ({ frames := 3, cells := 0, slots := 0, locals := 72 } : Room)).room s m ([.ref h0, .int (nI nn), .int x1, .int x2] : List Value).toArray below meth c H locs 0 0 (MQ below (va_Qv (fun (u : (Nat → Int64) × (Nat → Int64)) => match u with | (ood, oth) => True) (fun (u : (Nat → Int64) × (Nat → Int64)) (t : State) => match u with | (ood, oth) => va_P (dC, dI) vwCl [(h0, .inr (11, [.ref st, .int (nI N), .int (nI B), .ref rp, .int vrs, .int vrb, .int vhs, .int vca, .int vxs, .int vxb, .ref tp, .int (nI T), .int vfa, .int vbr, .int vba, .int vsp, .int vhe, .int vtk, .int vva, .ref cu, .ref lt, .ref od, .ref th, .ref be, .ref ln, .int (nI S), .ref ma, .int (nI M), .ref ah, .ref bh, .ref ik, .ref la, .ref lg, .ref ce, .int vto])), (st, .inl (G 0, 196, .inl fst)), (od, .inl (G 1, 10, .inr (.inl ood))), (th, .inl (G 1, 10, .inr (.inl oth)))] t.heap ∧ va_D A [(h0, .inr (11, [.ref st, .int (nI N), .int (nI B), .ref rp, .int vrs, .int vrb, .int vhs, .int vca, .int vxs, .int vxb, .ref tp, .int (nI T), .int vfa, .int vbr, .int vba, .int vsp, .int vhe, .int vtk, .int vva, .ref cu, .ref lt, .ref od, .ref th, .ref be, .ref ln, .int (nI S), .ref ma, .int (nI M), .ref ah, .ref bh, .ref ik, .ref la, .ref lg, .ref ce, .int vto])), (st, .inl (G 0, 196, .inl fst)), (od, .inl (G 1, 10, .inr (.inl ood))), (th, .inl (G 1, 10, .inr (.inl oth)))]) A) ([.ref h0, .int (nI nn), .int x1, .int x2] : List Value).toArray s 0 0 A) (F0 m 40 ls []) := by
          intro nf
          induction nf with
          | zero => intro j8 h1 h2; exact absurd h1 (by omega)
          | succ nf ih40_11 =>
            intro j8 hn12 hj13 g9 g10 H locs hP hD hS ls hl
            refine lv_iload hx hb dX11_layOdds_40 (lv_at hl 0 rfl) ?_
            refine lv_iload_n hx hb dX11_layOdds_42 rfl (lv_at hl 2 rfl) ?_
            refine lv_icmp_ge (tgt := 231) hx hb dX11_layOdds_43 (by decide) (fun c14 => ?_) (fun c14 => ?_)
            · skip
              have n15 : nn ≤ j8 := by have t := leI c14; rw [nI_toInt (n := j8) (by omega)] at t; rw [nI_toInt (n := nn) (by omega)] at t; omega
              have hP9 := hP.sub (ws' := [(h0, .inr (11, [.ref st, .int (nI N), .int (nI B), .ref rp, .int vrs, .int vrb, .int vhs, .int vca, .int vxs, .int vxb, .ref tp, .int (nI T), .int vfa, .int vbr, .int vba, .int vsp, .int vhe, .int vtk, .int vva, .ref cu, .ref lt, .ref od, .ref th, .ref be, .ref ln, .int (nI S), .ref ma, .int (nI M), .ref ah, .ref bh, .ref ik, .ref la, .ref lg, .ref ce, .int vto])), (st, .inl (G 0, 196, .inl fst)), (od, .inl (G 1, 10, .inr (.inl g9))), (th, .inl (G 1, 10, .inr (.inl g10)))]) [0, 1, 2, 3] rfl
              have hD9 := hD.sub (ws' := [(h0, .inr (11, [.ref st, .int (nI N), .int (nI B), .ref rp, .int vrs, .int vrb, .int vhs, .int vca, .int vxs, .int vxb, .ref tp, .int (nI T), .int vfa, .int vbr, .int vba, .int vsp, .int vhe, .int vtk, .int vva, .ref cu, .ref lt, .ref od, .ref th, .ref be, .ref ln, .int (nI S), .ref ma, .int (nI M), .ref ah, .ref bh, .ref ik, .ref la, .ref lg, .ref ce, .int vto])), (st, .inl (G 0, 196, .inl fst)), (od, .inl (G 1, 10, .inr (.inl g9))), (th, .inl (G 1, 10, .inr (.inl g10)))]) [0, 1, 2, 3] (by decide) rfl
              refine W.widen (k := 0) (n := 0) (by omega) (by omega) ?_
              exact W.vret hx hb hr (fun t ht hW => ⟨⟨(g9, g10), rfl, trivial, ⟨by rw [ht]; exact hP9, hD9⟩⟩, hS.F ht⟩) hS.2.2 dX11_layOdds_231
            · skip
              have n16 : j8 < nn := by have t := nleI c14; rw [nI_toInt (n := j8) (by omega)] at t; rw [nI_toInt (n := nn) (by omega)] at t; omega
              refine lv_aload_n hx hb dX11_layOdds_46 rfl (lv_at hl 1 rfl) ?_
              refine lv_iload hx hb dX11_layOdds_47 (lv_at hl 0 rfl) ?_
              refine lv_iload_n hx hb dX11_layOdds_49 rfl (lv_at hl 3 rfl) ?_
              refine lv_iload hx hb dX11_layOdds_50 (lv_at hl 0 rfl) ?_
              refine lv_ishr hx hb dX11_layOdds_52 ?_
              refine lv_iconst (v := 1) hx hb dX11_layOdds_53 (by decide) ?_
              refine lv_iand hx hb dX11_layOdds_54 ?_
              refine lv_topi (fun v17 ev17 => ?_)
              refine lv_iconst (v := 1) hx hb dX11_layOdds_55 (by decide) ?_
              have cut64_20 : ∀ (k19 : Nat) (H : Heap) (locs : List Loc), k19 ≤ 1 → va_P (dC, dI) vwCl [(h0, .inr (11, [.ref st, .int (nI N), .int (nI B), .ref rp, .int vrs, .int vrb, .int vhs, .int vca, .int vxs, .int vxb, .ref tp, .int (nI T), .int vfa, .int vbr, .int vba, .int vsp, .int vhe, .int vtk, .int vva, .ref cu, .ref lt, .ref od, .ref th, .ref be, .ref ln, .int (nI S), .ref ma, .int (nI M), .ref ah, .ref bh, .ref ik, .ref la, .ref lg, .ref ce, .int vto])), (st, .inl (G 0, 196, .inl fst)), (od, .inl (G 1, 10, .inr (.inl g9))), (th, .inl (G 1, 10, .inr (.inl g10)))] H → va_D A [(h0, .inr (11, [.ref st, .int (nI N), .int (nI B), .ref rp, .int vrs, .int vrb, .int vhs, .int vca, .int vxs, .int vxb, .ref tp, .int (nI T), .int vfa, .int vbr, .int vba, .int vsp, .int vhe, .int vtk, .int vva, .ref cu, .ref lt, .ref od, .ref th, .ref be, .ref ln, .int (nI S), .ref ma, .int (nI M), .ref ah, .ref bh, .ref ik, .ref la, .ref lg, .ref ce, .int vto])), (st, .inl (G 0, 196, .inl fst)), (od, .inl (G 1, 10, .inr (.inl g9))), (th, .inl (G 1, 10, .inr (.inl g10)))] → va_S A s.heap H locs → ∀ (ls : Array Slot), lv_has ls 8 [(4, .int (nI j8)), (0, .ref h0), (1, .int (nI nn)), (2, .int x1), (3, .int x2)] → W p l e (headSpec (Cond.code yX11_layOdds cX11_layOdds 8 none :: GT) ({ frames := 3, cells := 0, slots := 0, locals := 72 } : Room)).room s m ([.ref h0, .int (nI nn), .int x1, .int x2] : List Value).toArray below meth c H locs 0 0 (MQ below (va_Qv (fun (u : (Nat → Int64) × (Nat → Int64)) => match u with | (ood, oth) => True) (fun (u : (Nat → Int64) × (Nat → Int64)) (t : State) => match u with | (ood, oth) => va_P (dC, dI) vwCl [(h0, .inr (11, [.ref st, .int (nI N), .int (nI B), .ref rp, .int vrs, .int vrb, .int vhs, .int vca, .int vxs, .int vxb, .ref tp, .int (nI T), .int vfa, .int vbr, .int vba, .int vsp, .int vhe, .int vtk, .int vva, .ref cu, .ref lt, .ref od, .ref th, .ref be, .ref ln, .int (nI S), .ref ma, .int (nI M), .ref ah, .ref bh, .ref ik, .ref la, .ref lg, .ref ce, .int vto])), (st, .inl (G 0, 196, .inl fst)), (od, .inl (G 1, 10, .inr (.inl ood))), (th, .inl (G 1, 10, .inr (.inl oth)))] t.heap ∧ va_D A [(h0, .inr (11, [.ref st, .int (nI N), .int (nI B), .ref rp, .int vrs, .int vrb, .int vhs, .int vca, .int vxs, .int vxb, .ref tp, .int (nI T), .int vfa, .int vbr, .int vba, .int vsp, .int vhe, .int vtk, .int vva, .ref cu, .ref lt, .ref od, .ref th, .ref be, .ref ln, .int (nI S), .ref ma, .int (nI M), .ref ah, .ref bh, .ref ik, .ref la, .ref lg, .ref ce, .int vto])), (st, .inl (G 0, 196, .inl fst)), (od, .inl (G 1, 10, .inr (.inl ood))), (th, .inl (G 1, 10, .inr (.inl oth)))]) A) ([.ref h0, .int (nI nn), .int x1, .int x2] : List Value).toArray s 0 0 A) (F0 m 64 ls [.int (nI k19), .int (nI j8), .ref h0]) := by
                intro k19 H locs hb_k19 hP hD hS ls hl
                have hPc := hP.sub (ws' := [(h0, .inr (11, [.ref st, .int (nI N), .int (nI B), .ref rp, .int vrs, .int vrb, .int vhs, .int vca, .int vxs, .int vxb, .ref tp, .int (nI T), .int vfa, .int vbr, .int vba, .int vsp, .int vhe, .int vtk, .int vva, .ref cu, .ref lt, .ref od, .ref th, .ref be, .ref ln, .int (nI S), .ref ma, .int (nI M), .ref ah, .ref bh, .ref ik, .ref la, .ref lg, .ref ce, .int vto])), (st, .inl (G 0, 196, .inl fst))]) [0, 1] rfl
                refine va_calli (va_runV (As := [.int (nI j8), .int (nI k19)]) (rest := []) ⟨hx, hb, hml, hown, hg⟩ (c_X11_orderedHarm l dC dI G _ h0 j8 st N B rp tp T cu lt od th be ln S ma M ah bh ik la lg ce (nI k19) vrs vrb vhs vca vxs vxb vfa vbr vba vsp vhe vtk vva vto fst (by have t_hj5 := hj5; have t_n7 := n7; have t_hj13 := hj13; have t_n16 := n16; have t_hb_k19 := hb_k19; have t_n0 : (nI nn).toInt = (nn : Int) := nI_toInt (by omega); have t_n1 : (nI N).toInt = (N : Int) := nI_toInt (by omega); have t_n2 : (nI B).toInt = (B : Int) := nI_toInt (by omega); have t_n3 : (nI T).toInt = (T : Int) := nI_toInt (by omega); have t_n4 : (nI S).toInt = (S : Int) := nI_toInt (by omega); have t_n5 : (nI M).toInt = (M : Int) := nI_toInt (by omega); have t_n6 : (nI j1).toInt = (j1 : Int) := nI_toInt (by omega); have t_n7 : (nI j8).toInt = (j8 : Int) := nI_toInt (by omega); have t_n8 : (nI k19).toInt = (k19 : Int) := nI_toInt (by omega); omega) (by have t_hj5 := hj5; have t_n7 := n7; have t_hj13 := hj13; have t_n16 := n16; have t_hb_k19 := hb_k19; have t_n0 : (nI nn).toInt = (nn : Int) := nI_toInt (by omega); have t_n1 : (nI N).toInt = (N : Int) := nI_toInt (by omega); have t_n2 : (nI B).toInt = (B : Int) := nI_toInt (by omega); have t_n3 : (nI T).toInt = (T : Int) := nI_toInt (by omega); have t_n4 : (nI S).toInt = (S : Int) := nI_toInt (by omega); have t_n5 : (nI M).toInt = (M : Int) := nI_toInt (by omega); have t_n6 : (nI j1).toInt = (j1 : Int) := nI_toInt (by omega); have t_n7 : (nI j8).toInt = (j8 : Int) := nI_toInt (by omega); have t_n8 : (nI k19).toInt = (k19 : Int) := nI_toInt (by omega); omega) (by have t_hj5 := hj5; have t_n7 := n7; have t_hj13 := hj13; have t_n16 := n16; have t_hb_k19 := hb_k19; have t_n0 : (nI nn).toInt = (nn : Int) := nI_toInt (by omega); have t_n1 : (nI N).toInt = (N : Int) := nI_toInt (by omega); have t_n2 : (nI B).toInt = (B : Int) := nI_toInt (by omega); have t_n3 : (nI T).toInt = (T : Int) := nI_toInt (by omega); have t_n4 : (nI S).toInt = (S : Int) := nI_toInt (by omega); have t_n5 : (nI M).toInt = (M : Int) := nI_toInt (by omega); have t_n6 : (nI j1).toInt = (j1 : Int) := nI_toInt (by omega); have t_n7 : (nI j8).toInt = (j8 : Int) := nI_toInt (by omega); have t_n8 : (nI k19).toInt = (k19 : Int) := nI_toInt (by omega); omega) (by have t_hj5 := hj5; have t_n7 := n7; have t_hj13 := hj13; have t_n16 := n16; have t_hb_k19 := hb_k19; have t_n0 : (nI nn).toInt = (nn : Int) := nI_toInt (by omega); have t_n1 : (nI N).toInt = (N : Int) := nI_toInt (by omega); have t_n2 : (nI B).toInt = (B : Int) := nI_toInt (by omega); have t_n3 : (nI T).toInt = (T : Int) := nI_toInt (by omega); have t_n4 : (nI S).toInt = (S : Int) := nI_toInt (by omega); have t_n5 : (nI M).toInt = (M : Int) := nI_toInt (by omega); have t_n6 : (nI j1).toInt = (j1 : Int) := nI_toInt (by omega); have t_n7 : (nI j8).toInt = (j8 : Int) := nI_toInt (by omega); have t_n8 : (nI k19).toInt = (k19 : Int) := nI_toInt (by omega); omega) (by have t_hj5 := hj5; have t_n7 := n7; have t_hj13 := hj13; have t_n16 := n16; have t_hb_k19 := hb_k19; have t_n0 : (nI nn).toInt = (nn : Int) := nI_toInt (by omega); have t_n1 : (nI N).toInt = (N : Int) := nI_toInt (by omega); have t_n2 : (nI B).toInt = (B : Int) := nI_toInt (by omega); have t_n3 : (nI T).toInt = (T : Int) := nI_toInt (by omega); have t_n4 : (nI S).toInt = (S : Int) := nI_toInt (by omega); have t_n5 : (nI M).toInt = (M : Int) := nI_toInt (by omega); have t_n6 : (nI j1).toInt = (j1 : Int) := nI_toInt (by omega); have t_n7 : (nI j8).toInt = (j8 : Int) := nI_toInt (by omega); have t_n8 : (nI k19).toInt = (k19 : Int) := nI_toInt (by omega); omega) (by have t_hj5 := hj5; have t_n7 := n7; have t_hj13 := hj13; have t_n16 := n16; have t_hb_k19 := hb_k19; have t_n0 : (nI nn).toInt = (nn : Int) := nI_toInt (by omega); have t_n1 : (nI N).toInt = (N : Int) := nI_toInt (by omega); have t_n2 : (nI B).toInt = (B : Int) := nI_toInt (by omega); have t_n3 : (nI T).toInt = (T : Int) := nI_toInt (by omega); have t_n4 : (nI S).toInt = (S : Int) := nI_toInt (by omega); have t_n5 : (nI M).toInt = (M : Int) := nI_toInt (by omega); have t_n6 : (nI j1).toInt = (j1 : Int) := nI_toInt (by omega); have t_n7 : (nI j8).toInt = (j8 : Int) := nI_toInt (by omega); have t_n8 : (nI k19).toInt = (k19 : Int) := nI_toInt (by omega); omega) hst) (kwV hg mfX11_orderedHarm wt_1123 ⟨Nat.le_of_ble_eq_true rfl, Nat.le_of_ble_eq_true rfl⟩) (preVR hK hPc (ci := 11) rfl rfl) rfl rfl hl.1 rfl (lv_room (Nat.le_of_ble_eq_true rfl)) dX11_layOdds_64 ⟨Nat.le_of_ble_eq_true rfl, Nat.le_of_ble_eq_true rfl⟩) hS (fun q h1 h2 => absurd h2 (Nat.not_le.mpr h1)) (fun q h => hA q (Nat.le_trans hS.1 h)) (fun r21 ur21 t H1 locs ht hvm w22 hB hz1 hk1 hS => ?_)
                have hP := keepR hP hk1
                obtain ⟨w22, w22x⟩ := w22
                refine lv_istore (lv' := [(5, .int r21), (4, .int (nI j8)), (0, .ref h0), (1, .int (nI nn)), (2, .int x1), (3, .int x2)]) hx hb dX11_layOdds_67 hl (by decide) rfl (fun ls hl => ?_)
                refine lv_iconst (v := 0) hx hb dX11_layOdds_69 (by decide) ?_
                refine lv_istore (lv' := [(6, .int 0), (5, .int r21), (4, .int (nI j8)), (0, .ref h0), (1, .int (nI nn)), (2, .int x1), (3, .int x2)]) hx hb dX11_layOdds_70 hl (by decide) rfl (fun ls hl => ?_)
                have loop72_25 : ∀ (nf j23 : Nat), 10 + 1 ≤ j23 + nf → j23 ≤ 10 → ∀ (g24 : Nat → Int64) (H : Heap) (locs : List Loc), va_P (dC, dI) vwCl [(h0, .inr (11, [.ref st, .int (nI N), .int (nI B), .ref rp, .int vrs, .int vrb, .int vhs, .int vca, .int vxs, .int vxb, .ref tp, .int (nI T), .int vfa, .int vbr, .int vba, .int vsp, .int vhe, .int vtk, .int vva, .ref cu, .ref lt, .ref od, .ref th, .ref be, .ref ln, .int (nI S), .ref ma, .int (nI M), .ref ah, .ref bh, .ref ik, .ref la, .ref lg, .ref ce, .int vto])), (st, .inl (G 0, 196, .inl fst)), (od, .inl (G 1, 10, .inr (.inl g9))), (th, .inl (G 1, 10, .inr (.inl g24)))] H → va_D A [(h0, .inr (11, [.ref st, .int (nI N), .int (nI B), .ref rp, .int vrs, .int vrb, .int vhs, .int vca, .int vxs, .int vxb, .ref tp, .int (nI T), .int vfa, .int vbr, .int vba, .int vsp, .int vhe, .int vtk, .int vva, .ref cu, .ref lt, .ref od, .ref th, .ref be, .ref ln, .int (nI S), .ref ma, .int (nI M), .ref ah, .ref bh, .ref ik, .ref la, .ref lg, .ref ce, .int vto])), (st, .inl (G 0, 196, .inl fst)), (od, .inl (G 1, 10, .inr (.inl g9))), (th, .inl (G 1, 10, .inr (.inl g24)))] → va_S A s.heap H locs → ∀ (ls : Array Slot), lv_has ls 8 [(6, .int (nI j23)), (5, .int r21), (4, .int (nI j8)), (0, .ref h0), (1, .int (nI nn)), (2, .int x1), (3, .int x2)] → W p l e (headSpec (Cond.code yX11_layOdds cX11_layOdds 8 none :: GT) ({ frames := 3, cells := 0, slots := 0, locals := 72 } : Room)).room s m ([.ref h0, .int (nI nn), .int x1, .int x2] : List Value).toArray below meth c H locs 0 0 (MQ below (va_Qv (fun (u : (Nat → Int64) × (Nat → Int64)) => match u with | (ood, oth) => True) (fun (u : (Nat → Int64) × (Nat → Int64)) (t : State) => match u with | (ood, oth) => va_P (dC, dI) vwCl [(h0, .inr (11, [.ref st, .int (nI N), .int (nI B), .ref rp, .int vrs, .int vrb, .int vhs, .int vca, .int vxs, .int vxb, .ref tp, .int (nI T), .int vfa, .int vbr, .int vba, .int vsp, .int vhe, .int vtk, .int vva, .ref cu, .ref lt, .ref od, .ref th, .ref be, .ref ln, .int (nI S), .ref ma, .int (nI M), .ref ah, .ref bh, .ref ik, .ref la, .ref lg, .ref ce, .int vto])), (st, .inl (G 0, 196, .inl fst)), (od, .inl (G 1, 10, .inr (.inl ood))), (th, .inl (G 1, 10, .inr (.inl oth)))] t.heap ∧ va_D A [(h0, .inr (11, [.ref st, .int (nI N), .int (nI B), .ref rp, .int vrs, .int vrb, .int vhs, .int vca, .int vxs, .int vxb, .ref tp, .int (nI T), .int vfa, .int vbr, .int vba, .int vsp, .int vhe, .int vtk, .int vva, .ref cu, .ref lt, .ref od, .ref th, .ref be, .ref ln, .int (nI S), .ref ma, .int (nI M), .ref ah, .ref bh, .ref ik, .ref la, .ref lg, .ref ce, .int vto])), (st, .inl (G 0, 196, .inl fst)), (od, .inl (G 1, 10, .inr (.inl ood))), (th, .inl (G 1, 10, .inr (.inl oth)))]) A) ([.ref h0, .int (nI nn), .int x1, .int x2] : List Value).toArray s 0 0 A) (F0 m 72 ls []) := by
                  intro nf
                  induction nf with
                  | zero => intro j23 h1 h2; exact absurd h1 (by omega)
                  | succ nf ih72_25 =>
                    intro j23 hn26 hj27 g24 H locs hP hD hS ls hl
                    refine lv_iload hx hb dX11_layOdds_72 (lv_at hl 0 rfl) ?_
                    refine lv_bipush (v := 10) hx hb dX11_layOdds_74 (by decide) ?_
                    refine lv_icmp_ge (tgt := 93) hx hb dX11_layOdds_76 (by decide) (fun c28 => ?_) (fun c28 => ?_)
                    · skip
                      have n29 : 10 ≤ j23 := by have t := leI c28; rw [nI_toInt (n := j23) (by omega)] at t; have : (10 : Int32).toInt = 10 := (by decide); omega
                      refine lv_aload_n hx hb dX11_layOdds_93 rfl (lv_at hl 3 rfl) ?_
                      refine va_get (D := (dC, dI)) (ci := 11) (v := .ref th) (C := RX11) (T := TX11) (N := 35) hx hb hg inG11 hown hK.1 hP 0 rfl rfl 22 (by decide) (hg _ wt_900) (fun _ h9 => h9) rfl dX11_layOdds_94 ?_
                      refine lv_iconst (v := 0) hx hb dX11_layOdds_97 (by decide) ?_
                      refine lv_ldc2 (v := 20) hx hb hown (hg _ wt_1127) dX11_layOdds_98 ?_
                      refine lv_aload_n hx hb dX11_layOdds_101 rfl (lv_at hl 3 rfl) ?_
                      refine va_get (D := (dC, dI)) (ci := 11) (v := .ref od) (C := RX11) (T := TX11) (N := 35) hx hb hg inG11 hown hK.1 hP 0 rfl rfl 21 (by decide) (hg _ wt_899) (fun _ h9 => h9) rfl dX11_layOdds_102 ?_
                      refine lv_iconst (v := 0) hx hb dX11_layOdds_105 (by decide) ?_
                      refine va_lald hx hb hK.1 hP 2 1 rfl rfl (vp_in_iff.mpr ⟨by decide, by decide⟩) dX11_layOdds_106 ?_
                      refine lv_cgl (y := g9 0) (by rfl) ?_
                      refine lv_lmul hx hb dX11_layOdds_107 ?_
                      refine va_last hx hb hK.1 hP hD hS 3 1 rfl rfl (vp_in_iff.mpr ⟨by decide, by decide⟩) dX11_layOdds_108 (fun H locs hP hD hS => ?_)
                      have hP : va_P (dC, dI) vwCl [(h0, .inr (11, [.ref st, .int (nI N), .int (nI B), .ref rp, .int vrs, .int vrb, .int vhs, .int vca, .int vxs, .int vxb, .ref tp, .int (nI T), .int vfa, .int vbr, .int vba, .int vsp, .int vhe, .int vtk, .int vva, .ref cu, .ref lt, .ref od, .ref th, .ref be, .ref ln, .int (nI S), .ref ma, .int (nI M), .ref ah, .ref bh, .ref ik, .ref la, .ref lg, .ref ce, .int vto])), (st, .inl (G 0, 196, .inl fst)), (od, .inl (G 1, 10, .inr (.inl g9))), (th, .inl (G 1, 10, .inr (.inl (vp_updL g24 0 (20 * (g9 0))))))] H := hP
                      have hD : va_D A [(h0, .inr (11, [.ref st, .int (nI N), .int (nI B), .ref rp, .int vrs, .int vrb, .int vhs, .int vca, .int vxs, .int vxb, .ref tp, .int (nI T), .int vfa, .int vbr, .int vba, .int vsp, .int vhe, .int vtk, .int vva, .ref cu, .ref lt, .ref od, .ref th, .ref be, .ref ln, .int (nI S), .ref ma, .int (nI M), .ref ah, .ref bh, .ref ik, .ref la, .ref lg, .ref ce, .int vto])), (st, .inl (G 0, 196, .inl fst)), (od, .inl (G 1, 10, .inr (.inl g9))), (th, .inl (G 1, 10, .inr (.inl (vp_updL g24 0 (20 * (g9 0))))))] := hD
                      refine lv_iconst (v := 1) hx hb dX11_layOdds_109 (by decide) ?_
                      refine lv_istore (lv' := [(6, .int 1), (5, .int r21), (4, .int (nI j8)), (0, .ref h0), (1, .int (nI nn)), (2, .int x1), (3, .int x2)]) hx hb dX11_layOdds_110 hl (by decide) rfl (fun ls hl => ?_)
                      have loop112_32 : ∀ (nf j30 : Nat), 10 + 1 ≤ j30 + nf → j30 ≤ 10 → 1 ≤ j30 → ∀ (g31 : Nat → Int64) (H : Heap) (locs : List Loc), va_P (dC, dI) vwCl [(h0, .inr (11, [.ref st, .int (nI N), .int (nI B), .ref rp, .int vrs, .int vrb, .int vhs, .int vca, .int vxs, .int vxb, .ref tp, .int (nI T), .int vfa, .int vbr, .int vba, .int vsp, .int vhe, .int vtk, .int vva, .ref cu, .ref lt, .ref od, .ref th, .ref be, .ref ln, .int (nI S), .ref ma, .int (nI M), .ref ah, .ref bh, .ref ik, .ref la, .ref lg, .ref ce, .int vto])), (st, .inl (G 0, 196, .inl fst)), (od, .inl (G 1, 10, .inr (.inl g9))), (th, .inl (G 1, 10, .inr (.inl g31)))] H → va_D A [(h0, .inr (11, [.ref st, .int (nI N), .int (nI B), .ref rp, .int vrs, .int vrb, .int vhs, .int vca, .int vxs, .int vxb, .ref tp, .int (nI T), .int vfa, .int vbr, .int vba, .int vsp, .int vhe, .int vtk, .int vva, .ref cu, .ref lt, .ref od, .ref th, .ref be, .ref ln, .int (nI S), .ref ma, .int (nI M), .ref ah, .ref bh, .ref ik, .ref la, .ref lg, .ref ce, .int vto])), (st, .inl (G 0, 196, .inl fst)), (od, .inl (G 1, 10, .inr (.inl g9))), (th, .inl (G 1, 10, .inr (.inl g31)))] → va_S A s.heap H locs → ∀ (ls : Array Slot), lv_has ls 8 [(6, .int (nI j30)), (5, .int r21), (4, .int (nI j8)), (0, .ref h0), (1, .int (nI nn)), (2, .int x1), (3, .int x2)] → W p l e (headSpec (Cond.code yX11_layOdds cX11_layOdds 8 none :: GT) ({ frames := 3, cells := 0, slots := 0, locals := 72 } : Room)).room s m ([.ref h0, .int (nI nn), .int x1, .int x2] : List Value).toArray below meth c H locs 0 0 (MQ below (va_Qv (fun (u : (Nat → Int64) × (Nat → Int64)) => match u with | (ood, oth) => True) (fun (u : (Nat → Int64) × (Nat → Int64)) (t : State) => match u with | (ood, oth) => va_P (dC, dI) vwCl [(h0, .inr (11, [.ref st, .int (nI N), .int (nI B), .ref rp, .int vrs, .int vrb, .int vhs, .int vca, .int vxs, .int vxb, .ref tp, .int (nI T), .int vfa, .int vbr, .int vba, .int vsp, .int vhe, .int vtk, .int vva, .ref cu, .ref lt, .ref od, .ref th, .ref be, .ref ln, .int (nI S), .ref ma, .int (nI M), .ref ah, .ref bh, .ref ik, .ref la, .ref lg, .ref ce, .int vto])), (st, .inl (G 0, 196, .inl fst)), (od, .inl (G 1, 10, .inr (.inl ood))), (th, .inl (G 1, 10, .inr (.inl oth)))] t.heap ∧ va_D A [(h0, .inr (11, [.ref st, .int (nI N), .int (nI B), .ref rp, .int vrs, .int vrb, .int vhs, .int vca, .int vxs, .int vxb, .ref tp, .int (nI T), .int vfa, .int vbr, .int vba, .int vsp, .int vhe, .int vtk, .int vva, .ref cu, .ref lt, .ref od, .ref th, .ref be, .ref ln, .int (nI S), .ref ma, .int (nI M), .ref ah, .ref bh, .ref ik, .ref la, .ref lg, .ref ce, .int vto])), (st, .inl (G 0, 196, .inl fst)), (od, .inl (G 1, 10, .inr (.inl ood))), (th, .inl (G 1, 10, .inr (.inl oth)))]) A) ([.ref h0, .int (nI nn), .int x1, .int x2] : List Value).toArray s 0 0 A) (F0 m 112 ls []) := by
                        intro nf
                        induction nf with
                        | zero => intro j30 h1 h2; exact absurd h1 (by omega)
                        | succ nf ih112_32 =>
                          intro j30 hn33 hj34 hlo_j30 g31 H locs hP hD hS ls hl
                          refine lv_iload hx hb dX11_layOdds_112 (lv_at hl 0 rfl) ?_
                          refine lv_bipush (v := 10) hx hb dX11_layOdds_114 (by decide) ?_
                          refine lv_icmp_ge (tgt := 195) hx hb dX11_layOdds_116 (by decide) (fun c35 => ?_) (fun c35 => ?_)
                          · skip
                            have n36 : 10 ≤ j30 := by have t := leI c35; rw [nI_toInt (n := j30) (by omega)] at t; have : (10 : Int32).toInt = 10 := (by decide); omega
                            refine lv_iconst (v := 0) hx hb dX11_layOdds_195 (by decide) ?_
                            refine lv_istore (lv' := [(6, .int 0), (5, .int r21), (4, .int (nI j8)), (0, .ref h0), (1, .int (nI nn)), (2, .int x1), (3, .int x2)]) hx hb dX11_layOdds_196 hl (by decide) rfl (fun ls hl => ?_)
                            have loop198_39 : ∀ (nf j37 : Nat), 10 + 1 ≤ j37 + nf → j37 ≤ 10 → ∀ (g38 : Nat → Int64) (H : Heap) (locs : List Loc), va_P (dC, dI) vwCl [(h0, .inr (11, [.ref st, .int (nI N), .int (nI B), .ref rp, .int vrs, .int vrb, .int vhs, .int vca, .int vxs, .int vxb, .ref tp, .int (nI T), .int vfa, .int vbr, .int vba, .int vsp, .int vhe, .int vtk, .int vva, .ref cu, .ref lt, .ref od, .ref th, .ref be, .ref ln, .int (nI S), .ref ma, .int (nI M), .ref ah, .ref bh, .ref ik, .ref la, .ref lg, .ref ce, .int vto])), (st, .inl (G 0, 196, .inl fst)), (od, .inl (G 1, 10, .inr (.inl g38))), (th, .inl (G 1, 10, .inr (.inl g31)))] H → va_D A [(h0, .inr (11, [.ref st, .int (nI N), .int (nI B), .ref rp, .int vrs, .int vrb, .int vhs, .int vca, .int vxs, .int vxb, .ref tp, .int (nI T), .int vfa, .int vbr, .int vba, .int vsp, .int vhe, .int vtk, .int vva, .ref cu, .ref lt, .ref od, .ref th, .ref be, .ref ln, .int (nI S), .ref ma, .int (nI M), .ref ah, .ref bh, .ref ik, .ref la, .ref lg, .ref ce, .int vto])), (st, .inl (G 0, 196, .inl fst)), (od, .inl (G 1, 10, .inr (.inl g38))), (th, .inl (G 1, 10, .inr (.inl g31)))] → va_S A s.heap H locs → ∀ (ls : Array Slot), lv_has ls 8 [(6, .int (nI j37)), (5, .int r21), (4, .int (nI j8)), (0, .ref h0), (1, .int (nI nn)), (2, .int x1), (3, .int x2)] → W p l e (headSpec (Cond.code yX11_layOdds cX11_layOdds 8 none :: GT) ({ frames := 3, cells := 0, slots := 0, locals := 72 } : Room)).room s m ([.ref h0, .int (nI nn), .int x1, .int x2] : List Value).toArray below meth c H locs 0 0 (MQ below (va_Qv (fun (u : (Nat → Int64) × (Nat → Int64)) => match u with | (ood, oth) => True) (fun (u : (Nat → Int64) × (Nat → Int64)) (t : State) => match u with | (ood, oth) => va_P (dC, dI) vwCl [(h0, .inr (11, [.ref st, .int (nI N), .int (nI B), .ref rp, .int vrs, .int vrb, .int vhs, .int vca, .int vxs, .int vxb, .ref tp, .int (nI T), .int vfa, .int vbr, .int vba, .int vsp, .int vhe, .int vtk, .int vva, .ref cu, .ref lt, .ref od, .ref th, .ref be, .ref ln, .int (nI S), .ref ma, .int (nI M), .ref ah, .ref bh, .ref ik, .ref la, .ref lg, .ref ce, .int vto])), (st, .inl (G 0, 196, .inl fst)), (od, .inl (G 1, 10, .inr (.inl ood))), (th, .inl (G 1, 10, .inr (.inl oth)))] t.heap ∧ va_D A [(h0, .inr (11, [.ref st, .int (nI N), .int (nI B), .ref rp, .int vrs, .int vrb, .int vhs, .int vca, .int vxs, .int vxb, .ref tp, .int (nI T), .int vfa, .int vbr, .int vba, .int vsp, .int vhe, .int vtk, .int vva, .ref cu, .ref lt, .ref od, .ref th, .ref be, .ref ln, .int (nI S), .ref ma, .int (nI M), .ref ah, .ref bh, .ref ik, .ref la, .ref lg, .ref ce, .int vto])), (st, .inl (G 0, 196, .inl fst)), (od, .inl (G 1, 10, .inr (.inl ood))), (th, .inl (G 1, 10, .inr (.inl oth)))]) A) ([.ref h0, .int (nI nn), .int x1, .int x2] : List Value).toArray s 0 0 A) (F0 m 198 ls []) := by
                              intro nf
                              induction nf with
                              | zero => intro j37 h1 h2; exact absurd h1 (by omega)
                              | succ nf ih198_39 =>
                                intro j37 hn40 hj41 g38 H locs hP hD hS ls hl
                                refine lv_iload hx hb dX11_layOdds_198 (lv_at hl 0 rfl) ?_
                                refine lv_bipush (v := 10) hx hb dX11_layOdds_200 (by decide) ?_
                                refine lv_icmp_ge (tgt := 225) hx hb dX11_layOdds_202 (by decide) (fun c42 => ?_) (fun c42 => ?_)
                                · skip
                                  have n43 : 10 ≤ j37 := by have t := leI c42; rw [nI_toInt (n := j37) (by omega)] at t; have : (10 : Int32).toInt = 10 := (by decide); omega
                                  refine lv_iinc (v := nI (j8 + 1)) (lv' := [(4, .int (nI (j8 + 1))), (6, .int (nI j37)), (5, .int r21), (0, .ref h0), (1, .int (nI nn)), (2, .int x1), (3, .int x2)]) hx hb dX11_layOdds_225 hl (k := 2) rfl (by rw [show Int32.ofInt 1 = nI 1 from by decide]; exact nI_add _ _) (by decide) rfl (fun ls hl => ?_)
                                  refine lv_goto (tgt := 40) hx hb dX11_layOdds_228 (by decide) ?_
                                  exact ih40_11 (j8 + 1) (by omega) (by omega) g38 g31 _ _ hP hD hS ls (lv_sub hl [0, 3, 4, 5, 6] rfl)
                                · skip
                                  have n44 : j37 < 10 := by have t := nleI c42; rw [nI_toInt (n := j37) (by omega)] at t; have : (10 : Int32).toInt = 10 := (by decide); omega
                                  refine lv_aload_n hx hb dX11_layOdds_205 rfl (lv_at hl 3 rfl) ?_
                                  refine va_get (D := (dC, dI)) (ci := 11) (v := .ref od) (C := RX11) (T := TX11) (N := 35) hx hb hg inG11 hown hK.1 hP 0 rfl rfl 21 (by decide) (hg _ wt_899) (fun _ h9 => h9) rfl dX11_layOdds_206 ?_
                                  refine lv_iload hx hb dX11_layOdds_209 (lv_at hl 0 rfl) ?_
                                  refine lv_aload_n hx hb dX11_layOdds_211 rfl (lv_at hl 3 rfl) ?_
                                  refine va_get (D := (dC, dI)) (ci := 11) (v := .ref th) (C := RX11) (T := TX11) (N := 35) hx hb hg inG11 hown hK.1 hP 0 rfl rfl 22 (by decide) (hg _ wt_900) (fun _ h9 => h9) rfl dX11_layOdds_212 ?_
                                  refine lv_iload hx hb dX11_layOdds_215 (lv_at hl 0 rfl) ?_
                                  refine va_lald hx hb hK.1 hP 3 1 rfl rfl (vp_in_nI (by have t_hj5 := hj5; have t_n7 := n7; have t_hj13 := hj13; have t_n16 := n16; have t_hb_k19 := hb_k19; have t_hj27 := hj27; have t_n29 := n29; have t_hj34 := hj34; have t_hlo_j30 := hlo_j30; have t_n36 := n36; have t_hj41 := hj41; have t_n44 := n44; have t_n0 : (nI nn).toInt = (nn : Int) := nI_toInt (by omega); have t_n1 : (nI N).toInt = (N : Int) := nI_toInt (by omega); have t_n2 : (nI B).toInt = (B : Int) := nI_toInt (by omega); have t_n3 : (nI T).toInt = (T : Int) := nI_toInt (by omega); have t_n4 : (nI S).toInt = (S : Int) := nI_toInt (by omega); have t_n5 : (nI M).toInt = (M : Int) := nI_toInt (by omega); have t_n6 : (nI j1).toInt = (j1 : Int) := nI_toInt (by omega); have t_n7 : (nI j8).toInt = (j8 : Int) := nI_toInt (by omega); have t_n8 : (nI k19).toInt = (k19 : Int) := nI_toInt (by omega); have t_n9 : (nI j23).toInt = (j23 : Int) := nI_toInt (by omega); have t_n10 : (nI j30).toInt = (j30 : Int) := nI_toInt (by omega); have t_n11 : (nI j37).toInt = (j37 : Int) := nI_toInt (by omega); omega) (by decide)) dX11_layOdds_217 ?_
                                  refine lv_cgl (y := g31 j37) (by rw [nI_clamp (by omega)]) ?_
                                  refine va_last hx hb hK.1 hP hD hS 2 1 rfl rfl (vp_in_nI (by have t_hj5 := hj5; have t_n7 := n7; have t_hj13 := hj13; have t_n16 := n16; have t_hb_k19 := hb_k19; have t_hj27 := hj27; have t_n29 := n29; have t_hj34 := hj34; have t_hlo_j30 := hlo_j30; have t_n36 := n36; have t_hj41 := hj41; have t_n44 := n44; have t_n0 : (nI nn).toInt = (nn : Int) := nI_toInt (by omega); have t_n1 : (nI N).toInt = (N : Int) := nI_toInt (by omega); have t_n2 : (nI B).toInt = (B : Int) := nI_toInt (by omega); have t_n3 : (nI T).toInt = (T : Int) := nI_toInt (by omega); have t_n4 : (nI S).toInt = (S : Int) := nI_toInt (by omega); have t_n5 : (nI M).toInt = (M : Int) := nI_toInt (by omega); have t_n6 : (nI j1).toInt = (j1 : Int) := nI_toInt (by omega); have t_n7 : (nI j8).toInt = (j8 : Int) := nI_toInt (by omega); have t_n8 : (nI k19).toInt = (k19 : Int) := nI_toInt (by omega); have t_n9 : (nI j23).toInt = (j23 : Int) := nI_toInt (by omega); have t_n10 : (nI j30).toInt = (j30 : Int) := nI_toInt (by omega); have t_n11 : (nI j37).toInt = (j37 : Int) := nI_toInt (by omega); omega) (by decide)) dX11_layOdds_218 (fun H locs hP hD hS => ?_)
                                  rw [nI_clamp (by omega)] at hP hD
                                  have hP : va_P (dC, dI) vwCl [(h0, .inr (11, [.ref st, .int (nI N), .int (nI B), .ref rp, .int vrs, .int vrb, .int vhs, .int vca, .int vxs, .int vxb, .ref tp, .int (nI T), .int vfa, .int vbr, .int vba, .int vsp, .int vhe, .int vtk, .int vva, .ref cu, .ref lt, .ref od, .ref th, .ref be, .ref ln, .int (nI S), .ref ma, .int (nI M), .ref ah, .ref bh, .ref ik, .ref la, .ref lg, .ref ce, .int vto])), (st, .inl (G 0, 196, .inl fst)), (od, .inl (G 1, 10, .inr (.inl (vp_updL g38 j37 (g31 j37))))), (th, .inl (G 1, 10, .inr (.inl g31)))] H := hP
                                  have hD : va_D A [(h0, .inr (11, [.ref st, .int (nI N), .int (nI B), .ref rp, .int vrs, .int vrb, .int vhs, .int vca, .int vxs, .int vxb, .ref tp, .int (nI T), .int vfa, .int vbr, .int vba, .int vsp, .int vhe, .int vtk, .int vva, .ref cu, .ref lt, .ref od, .ref th, .ref be, .ref ln, .int (nI S), .ref ma, .int (nI M), .ref ah, .ref bh, .ref ik, .ref la, .ref lg, .ref ce, .int vto])), (st, .inl (G 0, 196, .inl fst)), (od, .inl (G 1, 10, .inr (.inl (vp_updL g38 j37 (g31 j37))))), (th, .inl (G 1, 10, .inr (.inl g31)))] := hD
                                  refine lv_iinc (v := nI (j37 + 1)) (lv' := [(6, .int (nI (j37 + 1))), (5, .int r21), (4, .int (nI j8)), (0, .ref h0), (1, .int (nI nn)), (2, .int x1), (3, .int x2)]) hx hb dX11_layOdds_219 hl (k := 0) rfl (by rw [show Int32.ofInt 1 = nI 1 from by decide]; exact nI_add _ _) (by decide) rfl (fun ls hl => ?_)
                                  refine lv_goto (tgt := 198) hx hb dX11_layOdds_222 (by decide) ?_
                                  exact ih198_39 (j37 + 1) (by omega) (by omega) (vp_updL g38 j37 (g31 j37)) _ _ hP hD hS ls (lv_sub hl [0, 1, 2, 3, 4, 5, 6] rfl)
                            exact loop198_39 (10 + 1) 0 (by omega) (by omega) g9 _ _ hP hD hS ls (lv_sub hl [0, 1, 2, 3, 4, 5, 6] rfl)
                          · skip
                            have n45 : j30 < 10 := by have t := nleI c35; rw [nI_toInt (n := j30) (by omega)] at t; have : (10 : Int32).toInt = 10 := (by decide); omega
                            refine lv_iload hx hb dX11_layOdds_119 (lv_at hl 2 rfl) ?_
                            refine lv_iload_n hx hb dX11_layOdds_121 rfl (lv_at hl 6 rfl) ?_
                            refine lv_icmp_ne (tgt := 134) hx hb dX11_layOdds_122 (by decide) (fun c46 => ?_) (fun c46 => ?_)
                            · skip
                              refine lv_iload hx hb dX11_layOdds_134 (lv_at hl 0 rfl) ?_
                              refine lv_istore (lv' := [(7, .int (nI j30)), (6, .int (nI j30)), (5, .int r21), (4, .int (nI j8)), (0, .ref h0), (1, .int (nI nn)), (2, .int x1), (3, .int x2)]) hx hb dX11_layOdds_136 hl (by decide) rfl (fun ls hl => ?_)
                              refine lv_aload_n hx hb dX11_layOdds_138 rfl (lv_at hl 4 rfl) ?_
                              refine va_get (D := (dC, dI)) (ci := 11) (v := .ref th) (C := RX11) (T := TX11) (N := 35) hx hb hg inG11 hown hK.1 hP 0 rfl rfl 22 (by decide) (hg _ wt_900) (fun _ h9 => h9) rfl dX11_layOdds_139 ?_
                              refine lv_iload hx hb dX11_layOdds_142 (lv_at hl 0 rfl) ?_
                              refine lv_iconst (v := 1) hx hb dX11_layOdds_144 (by decide) ?_
                              refine lv_isub hx hb dX11_layOdds_145 ?_
                              refine lv_cg (y := nI (j30 - 1)) (by rw [show (1 : Int32) = nI 1 from rfl]; exact pk_sub (by have t_hj5 := hj5; have t_n7 := n7; have t_hj13 := hj13; have t_n16 := n16; have t_hb_k19 := hb_k19; have t_hj27 := hj27; have t_n29 := n29; have t_hj34 := hj34; have t_hlo_j30 := hlo_j30; have t_n45 := n45; have t_c46 := neI c46; have t_n0 : (nI nn).toInt = (nn : Int) := nI_toInt (by omega); have t_n1 : (nI N).toInt = (N : Int) := nI_toInt (by omega); have t_n2 : (nI B).toInt = (B : Int) := nI_toInt (by omega); have t_n3 : (nI T).toInt = (T : Int) := nI_toInt (by omega); have t_n4 : (nI S).toInt = (S : Int) := nI_toInt (by omega); have t_n5 : (nI M).toInt = (M : Int) := nI_toInt (by omega); have t_n6 : (nI j1).toInt = (j1 : Int) := nI_toInt (by omega); have t_n7 : (nI j8).toInt = (j8 : Int) := nI_toInt (by omega); have t_n8 : (nI k19).toInt = (k19 : Int) := nI_toInt (by omega); have t_n9 : (nI j23).toInt = (j23 : Int) := nI_toInt (by omega); have t_n10 : (nI j30).toInt = (j30 : Int) := nI_toInt (by omega); omega)) ?_
                              refine lv_dup2_11 hx hb dX11_layOdds_146 rfl rfl ?_
                              refine va_lald hx hb hK.1 hP 3 1 rfl rfl (vp_in_nI (by have t_hj5 := hj5; have t_n7 := n7; have t_hj13 := hj13; have t_n16 := n16; have t_hb_k19 := hb_k19; have t_hj27 := hj27; have t_n29 := n29; have t_hj34 := hj34; have t_hlo_j30 := hlo_j30; have t_n45 := n45; have t_c46 := neI c46; have t_n0 : (nI nn).toInt = (nn : Int) := nI_toInt (by omega); have t_n1 : (nI N).toInt = (N : Int) := nI_toInt (by omega); have t_n2 : (nI B).toInt = (B : Int) := nI_toInt (by omega); have t_n3 : (nI T).toInt = (T : Int) := nI_toInt (by omega); have t_n4 : (nI S).toInt = (S : Int) := nI_toInt (by omega); have t_n5 : (nI M).toInt = (M : Int) := nI_toInt (by omega); have t_n6 : (nI j1).toInt = (j1 : Int) := nI_toInt (by omega); have t_n7 : (nI j8).toInt = (j8 : Int) := nI_toInt (by omega); have t_n8 : (nI k19).toInt = (k19 : Int) := nI_toInt (by omega); have t_n9 : (nI j23).toInt = (j23 : Int) := nI_toInt (by omega); have t_n10 : (nI j30).toInt = (j30 : Int) := nI_toInt (by omega); omega) (by decide)) dX11_layOdds_147 ?_
                              refine lv_cgl (y := g31 (j30 - 1)) (by rw [nI_clamp (by omega)]) ?_
                              refine lv_iload hx hb dX11_layOdds_148 (lv_at hl 2 rfl) ?_
                              refine lv_i2l (v := r21.toInt64) hx hb dX11_layOdds_150 rfl ?_
                              refine lv_aload_n hx hb dX11_layOdds_151 rfl (lv_at hl 4 rfl) ?_
                              refine va_get (D := (dC, dI)) (ci := 11) (v := .ref od) (C := RX11) (T := TX11) (N := 35) hx hb hg inG11 hown hK.1 hP 0 rfl rfl 21 (by decide) (hg _ wt_899) (fun _ h9 => h9) rfl dX11_layOdds_152 ?_
                              refine lv_iload hx hb dX11_layOdds_155 (lv_at hl 1 rfl) ?_
                              refine va_lald hx hb hK.1 hP 2 1 rfl rfl (vp_in_nI (by have t_hj5 := hj5; have t_n7 := n7; have t_hj13 := hj13; have t_n16 := n16; have t_hb_k19 := hb_k19; have t_hj27 := hj27; have t_n29 := n29; have t_hj34 := hj34; have t_hlo_j30 := hlo_j30; have t_n45 := n45; have t_c46 := neI c46; have t_n0 : (nI nn).toInt = (nn : Int) := nI_toInt (by omega); have t_n1 : (nI N).toInt = (N : Int) := nI_toInt (by omega); have t_n2 : (nI B).toInt = (B : Int) := nI_toInt (by omega); have t_n3 : (nI T).toInt = (T : Int) := nI_toInt (by omega); have t_n4 : (nI S).toInt = (S : Int) := nI_toInt (by omega); have t_n5 : (nI M).toInt = (M : Int) := nI_toInt (by omega); have t_n6 : (nI j1).toInt = (j1 : Int) := nI_toInt (by omega); have t_n7 : (nI j8).toInt = (j8 : Int) := nI_toInt (by omega); have t_n8 : (nI k19).toInt = (k19 : Int) := nI_toInt (by omega); have t_n9 : (nI j23).toInt = (j23 : Int) := nI_toInt (by omega); have t_n10 : (nI j30).toInt = (j30 : Int) := nI_toInt (by omega); omega) (by decide)) dX11_layOdds_157 ?_
                              refine lv_cgl (y := g9 j30) (by rw [nI_clamp (by omega)]) ?_
                              refine lv_lmul hx hb dX11_layOdds_158 ?_
                              refine lv_ladd hx hb dX11_layOdds_159 ?_
                              refine lv_topl (fun v47 ev47 => ?_)
                              refine va_last hx hb hK.1 hP hD hS 3 1 rfl rfl (vp_in_nI (by have t_hj5 := hj5; have t_n7 := n7; have t_hj13 := hj13; have t_n16 := n16; have t_hb_k19 := hb_k19; have t_hj27 := hj27; have t_n29 := n29; have t_hj34 := hj34; have t_hlo_j30 := hlo_j30; have t_n45 := n45; have t_c46 := neI c46; have t_n0 : (nI nn).toInt = (nn : Int) := nI_toInt (by omega); have t_n1 : (nI N).toInt = (N : Int) := nI_toInt (by omega); have t_n2 : (nI B).toInt = (B : Int) := nI_toInt (by omega); have t_n3 : (nI T).toInt = (T : Int) := nI_toInt (by omega); have t_n4 : (nI S).toInt = (S : Int) := nI_toInt (by omega); have t_n5 : (nI M).toInt = (M : Int) := nI_toInt (by omega); have t_n6 : (nI j1).toInt = (j1 : Int) := nI_toInt (by omega); have t_n7 : (nI j8).toInt = (j8 : Int) := nI_toInt (by omega); have t_n8 : (nI k19).toInt = (k19 : Int) := nI_toInt (by omega); have t_n9 : (nI j23).toInt = (j23 : Int) := nI_toInt (by omega); have t_n10 : (nI j30).toInt = (j30 : Int) := nI_toInt (by omega); omega) (by decide)) dX11_layOdds_160 (fun H locs hP hD hS => ?_)
                              rw [nI_clamp (by omega)] at hP hD
                              have hP : va_P (dC, dI) vwCl [(h0, .inr (11, [.ref st, .int (nI N), .int (nI B), .ref rp, .int vrs, .int vrb, .int vhs, .int vca, .int vxs, .int vxb, .ref tp, .int (nI T), .int vfa, .int vbr, .int vba, .int vsp, .int vhe, .int vtk, .int vva, .ref cu, .ref lt, .ref od, .ref th, .ref be, .ref ln, .int (nI S), .ref ma, .int (nI M), .ref ah, .ref bh, .ref ik, .ref la, .ref lg, .ref ce, .int vto])), (st, .inl (G 0, 196, .inl fst)), (od, .inl (G 1, 10, .inr (.inl g9))), (th, .inl (G 1, 10, .inr (.inl (vp_updL g31 (j30 - 1) v47))))] H := hP
                              have hD : va_D A [(h0, .inr (11, [.ref st, .int (nI N), .int (nI B), .ref rp, .int vrs, .int vrb, .int vhs, .int vca, .int vxs, .int vxb, .ref tp, .int (nI T), .int vfa, .int vbr, .int vba, .int vsp, .int vhe, .int vtk, .int vva, .ref cu, .ref lt, .ref od, .ref th, .ref be, .ref ln, .int (nI S), .ref ma, .int (nI M), .ref ah, .ref bh, .ref ik, .ref la, .ref lg, .ref ce, .int vto])), (st, .inl (G 0, 196, .inl fst)), (od, .inl (G 1, 10, .inr (.inl g9))), (th, .inl (G 1, 10, .inr (.inl (vp_updL g31 (j30 - 1) v47))))] := hD
                              refine lv_aload_n hx hb dX11_layOdds_161 rfl (lv_at hl 4 rfl) ?_
                              refine va_get (D := (dC, dI)) (ci := 11) (v := .ref th) (C := RX11) (T := TX11) (N := 35) hx hb hg inG11 hown hK.1 hP 0 rfl rfl 22 (by decide) (hg _ wt_900) (fun _ h9 => h9) rfl dX11_layOdds_162 ?_
                              refine lv_iload hx hb dX11_layOdds_165 (lv_at hl 0 rfl) ?_
                              refine lv_iconst (v := 1) hx hb dX11_layOdds_167 (by decide) ?_
                              have hPc := hP.sub (ws' := []) [] rfl
                              refine va_calli (va_runS (As := [.int (nI j30), .int 1]) (rest := [.ref th]) ⟨hx, hb, hml, hown, hg⟩ (c_X11_deeper l dC dI G _ j30 1 (by have t_hj5 := hj5; have t_n7 := n7; have t_hj13 := hj13; have t_n16 := n16; have t_hb_k19 := hb_k19; have t_hj27 := hj27; have t_n29 := n29; have t_hj34 := hj34; have t_hlo_j30 := hlo_j30; have t_n45 := n45; have t_c46 := neI c46; have t_n0 : (nI nn).toInt = (nn : Int) := nI_toInt (by omega); have t_n1 : (nI N).toInt = (N : Int) := nI_toInt (by omega); have t_n2 : (nI B).toInt = (B : Int) := nI_toInt (by omega); have t_n3 : (nI T).toInt = (T : Int) := nI_toInt (by omega); have t_n4 : (nI S).toInt = (S : Int) := nI_toInt (by omega); have t_n5 : (nI M).toInt = (M : Int) := nI_toInt (by omega); have t_n6 : (nI j1).toInt = (j1 : Int) := nI_toInt (by omega); have t_n7 : (nI j8).toInt = (j8 : Int) := nI_toInt (by omega); have t_n8 : (nI k19).toInt = (k19 : Int) := nI_toInt (by omega); have t_n9 : (nI j23).toInt = (j23 : Int) := nI_toInt (by omega); have t_n10 : (nI j30).toInt = (j30 : Int) := nI_toInt (by omega); have : (1 : Int32).toInt = 1 := (by decide); omega) (by have t_hj5 := hj5; have t_n7 := n7; have t_hj13 := hj13; have t_n16 := n16; have t_hb_k19 := hb_k19; have t_hj27 := hj27; have t_n29 := n29; have t_hj34 := hj34; have t_hlo_j30 := hlo_j30; have t_n45 := n45; have t_c46 := neI c46; have t_n0 : (nI nn).toInt = (nn : Int) := nI_toInt (by omega); have t_n1 : (nI N).toInt = (N : Int) := nI_toInt (by omega); have t_n2 : (nI B).toInt = (B : Int) := nI_toInt (by omega); have t_n3 : (nI T).toInt = (T : Int) := nI_toInt (by omega); have t_n4 : (nI S).toInt = (S : Int) := nI_toInt (by omega); have t_n5 : (nI M).toInt = (M : Int) := nI_toInt (by omega); have t_n6 : (nI j1).toInt = (j1 : Int) := nI_toInt (by omega); have t_n7 : (nI j8).toInt = (j8 : Int) := nI_toInt (by omega); have t_n8 : (nI k19).toInt = (k19 : Int) := nI_toInt (by omega); have t_n9 : (nI j23).toInt = (j23 : Int) := nI_toInt (by omega); have t_n10 : (nI j30).toInt = (j30 : Int) := nI_toInt (by omega); have : (1 : Int32).toInt = 1 := (by decide); omega)) (kwS hg mfX11_deeper wt_1128 ⟨Nat.le_of_ble_eq_true rfl, Nat.le_of_ble_eq_true rfl⟩) (preSR hK hPc) rfl rfl hl.1 rfl (lv_room (Nat.le_of_ble_eq_true rfl)) dX11_layOdds_168 ⟨Nat.le_of_ble_eq_true rfl, Nat.le_of_ble_eq_true rfl⟩) hS (fun q h1 h2 => absurd h2 (Nat.not_le.mpr h1)) (fun q h => hA q (Nat.le_trans hS.1 h)) (fun r48 ur48 t H1 locs ht hvm w49 hB hz1 hk1 hS => ?_)
                              have hP := keepR hP hk1
                              obtain ⟨w49, w49x⟩ := w49
                              have hs50 : j30 ≤ (min 9 (j30 + 1)) ∧ (min 9 (j30 + 1)) ≤ 9 := (by omega)
                              subst w49
                              refine lv_dup2_11 hx hb dX11_layOdds_171 rfl rfl ?_
                              refine va_lald hx hb hK.1 hP 3 1 rfl rfl (vp_in_nI (by have t_hj5 := hj5; have t_n7 := n7; have t_hj13 := hj13; have t_n16 := n16; have t_hb_k19 := hb_k19; have t_hj27 := hj27; have t_n29 := n29; have t_hj34 := hj34; have t_hlo_j30 := hlo_j30; have t_n45 := n45; have t_c46 := neI c46; have t_hs50 := hs50; have t_n0 : (nI nn).toInt = (nn : Int) := nI_toInt (by omega); have t_n1 : (nI N).toInt = (N : Int) := nI_toInt (by omega); have t_n2 : (nI B).toInt = (B : Int) := nI_toInt (by omega); have t_n3 : (nI T).toInt = (T : Int) := nI_toInt (by omega); have t_n4 : (nI S).toInt = (S : Int) := nI_toInt (by omega); have t_n5 : (nI M).toInt = (M : Int) := nI_toInt (by omega); have t_n6 : (nI j1).toInt = (j1 : Int) := nI_toInt (by omega); have t_n7 : (nI j8).toInt = (j8 : Int) := nI_toInt (by omega); have t_n8 : (nI k19).toInt = (k19 : Int) := nI_toInt (by omega); have t_n9 : (nI j23).toInt = (j23 : Int) := nI_toInt (by omega); have t_n10 : (nI j30).toInt = (j30 : Int) := nI_toInt (by omega); omega) (by decide)) dX11_layOdds_172 ?_
                              refine lv_cgl (y := (vp_updL g31 (j30 - 1) v47) (min 9 (j30 + 1))) (by rw [nI_clamp (by omega)]) ?_
                              refine lv_bipush (v := 20) hx hb dX11_layOdds_173 (by decide) ?_
                              refine lv_iload hx hb dX11_layOdds_175 (lv_at hl 2 rfl) ?_
                              refine lv_isub hx hb dX11_layOdds_177 ?_
                              refine lv_i2l (v := (20 - r21).toInt64) hx hb dX11_layOdds_178 rfl ?_
                              refine lv_aload_n hx hb dX11_layOdds_179 rfl (lv_at hl 4 rfl) ?_
                              refine va_get (D := (dC, dI)) (ci := 11) (v := .ref od) (C := RX11) (T := TX11) (N := 35) hx hb hg inG11 hown hK.1 hP 0 rfl rfl 21 (by decide) (hg _ wt_899) (fun _ h9 => h9) rfl dX11_layOdds_180 ?_
                              refine lv_iload hx hb dX11_layOdds_183 (lv_at hl 1 rfl) ?_
                              refine va_lald hx hb hK.1 hP 2 1 rfl rfl (vp_in_nI (by have t_hj5 := hj5; have t_n7 := n7; have t_hj13 := hj13; have t_n16 := n16; have t_hb_k19 := hb_k19; have t_hj27 := hj27; have t_n29 := n29; have t_hj34 := hj34; have t_hlo_j30 := hlo_j30; have t_n45 := n45; have t_c46 := neI c46; have t_hs50 := hs50; have t_n0 : (nI nn).toInt = (nn : Int) := nI_toInt (by omega); have t_n1 : (nI N).toInt = (N : Int) := nI_toInt (by omega); have t_n2 : (nI B).toInt = (B : Int) := nI_toInt (by omega); have t_n3 : (nI T).toInt = (T : Int) := nI_toInt (by omega); have t_n4 : (nI S).toInt = (S : Int) := nI_toInt (by omega); have t_n5 : (nI M).toInt = (M : Int) := nI_toInt (by omega); have t_n6 : (nI j1).toInt = (j1 : Int) := nI_toInt (by omega); have t_n7 : (nI j8).toInt = (j8 : Int) := nI_toInt (by omega); have t_n8 : (nI k19).toInt = (k19 : Int) := nI_toInt (by omega); have t_n9 : (nI j23).toInt = (j23 : Int) := nI_toInt (by omega); have t_n10 : (nI j30).toInt = (j30 : Int) := nI_toInt (by omega); omega) (by decide)) dX11_layOdds_185 ?_
                              refine lv_cgl (y := g9 j30) (by rw [nI_clamp (by omega)]) ?_
                              refine lv_lmul hx hb dX11_layOdds_186 ?_
                              refine lv_topl (fun v51 ev51 => ?_)
                              refine lv_ladd hx hb dX11_layOdds_187 ?_
                              refine lv_topl (fun v52 ev52 => ?_)
                              refine va_last hx hb hK.1 hP hD hS 3 1 rfl rfl (vp_in_nI (by have t_hj5 := hj5; have t_n7 := n7; have t_hj13 := hj13; have t_n16 := n16; have t_hb_k19 := hb_k19; have t_hj27 := hj27; have t_n29 := n29; have t_hj34 := hj34; have t_hlo_j30 := hlo_j30; have t_n45 := n45; have t_c46 := neI c46; have t_hs50 := hs50; have t_n0 : (nI nn).toInt = (nn : Int) := nI_toInt (by omega); have t_n1 : (nI N).toInt = (N : Int) := nI_toInt (by omega); have t_n2 : (nI B).toInt = (B : Int) := nI_toInt (by omega); have t_n3 : (nI T).toInt = (T : Int) := nI_toInt (by omega); have t_n4 : (nI S).toInt = (S : Int) := nI_toInt (by omega); have t_n5 : (nI M).toInt = (M : Int) := nI_toInt (by omega); have t_n6 : (nI j1).toInt = (j1 : Int) := nI_toInt (by omega); have t_n7 : (nI j8).toInt = (j8 : Int) := nI_toInt (by omega); have t_n8 : (nI k19).toInt = (k19 : Int) := nI_toInt (by omega); have t_n9 : (nI j23).toInt = (j23 : Int) := nI_toInt (by omega); have t_n10 : (nI j30).toInt = (j30 : Int) := nI_toInt (by omega); omega) (by decide)) dX11_layOdds_188 (fun H locs hP hD hS => ?_)
                              rw [nI_clamp (by omega)] at hP hD
                              have hP : va_P (dC, dI) vwCl [(h0, .inr (11, [.ref st, .int (nI N), .int (nI B), .ref rp, .int vrs, .int vrb, .int vhs, .int vca, .int vxs, .int vxb, .ref tp, .int (nI T), .int vfa, .int vbr, .int vba, .int vsp, .int vhe, .int vtk, .int vva, .ref cu, .ref lt, .ref od, .ref th, .ref be, .ref ln, .int (nI S), .ref ma, .int (nI M), .ref ah, .ref bh, .ref ik, .ref la, .ref lg, .ref ce, .int vto])), (st, .inl (G 0, 196, .inl fst)), (od, .inl (G 1, 10, .inr (.inl g9))), (th, .inl (G 1, 10, .inr (.inl (vp_updL (vp_updL g31 (j30 - 1) v47) (min 9 (j30 + 1)) v52))))] H := hP
                              have hD : va_D A [(h0, .inr (11, [.ref st, .int (nI N), .int (nI B), .ref rp, .int vrs, .int vrb, .int vhs, .int vca, .int vxs, .int vxb, .ref tp, .int (nI T), .int vfa, .int vbr, .int vba, .int vsp, .int vhe, .int vtk, .int vva, .ref cu, .ref lt, .ref od, .ref th, .ref be, .ref ln, .int (nI S), .ref ma, .int (nI M), .ref ah, .ref bh, .ref ik, .ref la, .ref lg, .ref ce, .int vto])), (st, .inl (G 0, 196, .inl fst)), (od, .inl (G 1, 10, .inr (.inl g9))), (th, .inl (G 1, 10, .inr (.inl (vp_updL (vp_updL g31 (j30 - 1) v47) (min 9 (j30 + 1)) v52))))] := hD
                              refine lv_iinc (v := nI (j30 + 1)) (lv' := [(6, .int (nI (j30 + 1))), (7, .int (nI j30)), (5, .int r21), (4, .int (nI j8)), (0, .ref h0), (1, .int (nI nn)), (2, .int x1), (3, .int x2)]) hx hb dX11_layOdds_189 hl (k := 1) rfl (by rw [show Int32.ofInt 1 = nI 1 from by decide]; exact nI_add _ _) (by decide) rfl (fun ls hl => ?_)
                              refine lv_goto (tgt := 112) hx hb dX11_layOdds_192 (by decide) ?_
                              exact ih112_32 (j30 + 1) (by omega) (by omega) (by omega) (vp_updL (vp_updL g31 (j30 - 1) v47) (min 9 (j30 + 1)) v52) _ _ hP hD hS ls (lv_sub hl [0, 2, 3, 4, 5, 6, 7] rfl)
                            · skip
                              refine lv_iload hx hb dX11_layOdds_125 (lv_at hl 0 rfl) ?_
                              refine lv_iconst (v := 2) hx hb dX11_layOdds_127 (by decide) ?_
                              have hPc := hP.sub (ws' := []) [] rfl
                              refine va_calli (va_runS (As := [.int (nI j30), .int 2]) (rest := []) ⟨hx, hb, hml, hown, hg⟩ (c_X11_deeper l dC dI G _ j30 2 (by have t_hj5 := hj5; have t_n7 := n7; have t_hj13 := hj13; have t_n16 := n16; have t_hb_k19 := hb_k19; have t_hj27 := hj27; have t_n29 := n29; have t_hj34 := hj34; have t_hlo_j30 := hlo_j30; have t_n45 := n45; have t_c46 := eqI c46; have t_n0 : (nI nn).toInt = (nn : Int) := nI_toInt (by omega); have t_n1 : (nI N).toInt = (N : Int) := nI_toInt (by omega); have t_n2 : (nI B).toInt = (B : Int) := nI_toInt (by omega); have t_n3 : (nI T).toInt = (T : Int) := nI_toInt (by omega); have t_n4 : (nI S).toInt = (S : Int) := nI_toInt (by omega); have t_n5 : (nI M).toInt = (M : Int) := nI_toInt (by omega); have t_n6 : (nI j1).toInt = (j1 : Int) := nI_toInt (by omega); have t_n7 : (nI j8).toInt = (j8 : Int) := nI_toInt (by omega); have t_n8 : (nI k19).toInt = (k19 : Int) := nI_toInt (by omega); have t_n9 : (nI j23).toInt = (j23 : Int) := nI_toInt (by omega); have t_n10 : (nI j30).toInt = (j30 : Int) := nI_toInt (by omega); have : (2 : Int32).toInt = 2 := (by decide); omega) (by have t_hj5 := hj5; have t_n7 := n7; have t_hj13 := hj13; have t_n16 := n16; have t_hb_k19 := hb_k19; have t_hj27 := hj27; have t_n29 := n29; have t_hj34 := hj34; have t_hlo_j30 := hlo_j30; have t_n45 := n45; have t_c46 := eqI c46; have t_n0 : (nI nn).toInt = (nn : Int) := nI_toInt (by omega); have t_n1 : (nI N).toInt = (N : Int) := nI_toInt (by omega); have t_n2 : (nI B).toInt = (B : Int) := nI_toInt (by omega); have t_n3 : (nI T).toInt = (T : Int) := nI_toInt (by omega); have t_n4 : (nI S).toInt = (S : Int) := nI_toInt (by omega); have t_n5 : (nI M).toInt = (M : Int) := nI_toInt (by omega); have t_n6 : (nI j1).toInt = (j1 : Int) := nI_toInt (by omega); have t_n7 : (nI j8).toInt = (j8 : Int) := nI_toInt (by omega); have t_n8 : (nI k19).toInt = (k19 : Int) := nI_toInt (by omega); have t_n9 : (nI j23).toInt = (j23 : Int) := nI_toInt (by omega); have t_n10 : (nI j30).toInt = (j30 : Int) := nI_toInt (by omega); have : (2 : Int32).toInt = 2 := (by decide); omega)) (kwS hg mfX11_deeper wt_1128 ⟨Nat.le_of_ble_eq_true rfl, Nat.le_of_ble_eq_true rfl⟩) (preSR hK hPc) rfl rfl hl.1 rfl (lv_room (Nat.le_of_ble_eq_true rfl)) dX11_layOdds_128 ⟨Nat.le_of_ble_eq_true rfl, Nat.le_of_ble_eq_true rfl⟩) hS (fun q h1 h2 => absurd h2 (Nat.not_le.mpr h1)) (fun q h => hA q (Nat.le_trans hS.1 h)) (fun r53 ur53 t H1 locs ht hvm w54 hB hz1 hk1 hS => ?_)
                              have hP := keepR hP hk1
                              obtain ⟨w54, w54x⟩ := w54
                              have hs55 : j30 ≤ (min 9 (j30 + 2)) ∧ (min 9 (j30 + 2)) ≤ 9 := (by omega)
                              subst w54
                              refine lv_goto (tgt := 136) hx hb dX11_layOdds_131 (by decide) ?_
                              refine lv_istore (lv' := [(7, .int (nI (min 9 (j30 + 2)))), (6, .int (nI j30)), (5, .int r21), (4, .int (nI j8)), (0, .ref h0), (1, .int (nI nn)), (2, .int x1), (3, .int x2)]) hx hb dX11_layOdds_136 hl (by decide) rfl (fun ls hl => ?_)
                              refine lv_aload_n hx hb dX11_layOdds_138 rfl (lv_at hl 4 rfl) ?_
                              refine va_get (D := (dC, dI)) (ci := 11) (v := .ref th) (C := RX11) (T := TX11) (N := 35) hx hb hg inG11 hown hK.1 hP 0 rfl rfl 22 (by decide) (hg _ wt_900) (fun _ h9 => h9) rfl dX11_layOdds_139 ?_
                              refine lv_iload hx hb dX11_layOdds_142 (lv_at hl 0 rfl) ?_
                              refine lv_iconst (v := 1) hx hb dX11_layOdds_144 (by decide) ?_
                              refine lv_isub hx hb dX11_layOdds_145 ?_
                              refine lv_cg (y := nI ((min 9 (j30 + 2)) - 1)) (by rw [show (1 : Int32) = nI 1 from rfl]; exact pk_sub (by have t_hj5 := hj5; have t_n7 := n7; have t_hj13 := hj13; have t_n16 := n16; have t_hb_k19 := hb_k19; have t_hj27 := hj27; have t_n29 := n29; have t_hj34 := hj34; have t_hlo_j30 := hlo_j30; have t_n45 := n45; have t_c46 := eqI c46; have t_hs55 := hs55; have t_n0 : (nI nn).toInt = (nn : Int) := nI_toInt (by omega); have t_n1 : (nI N).toInt = (N : Int) := nI_toInt (by omega); have t_n2 : (nI B).toInt = (B : Int) := nI_toInt (by omega); have t_n3 : (nI T).toInt = (T : Int) := nI_toInt (by omega); have t_n4 : (nI S).toInt = (S : Int) := nI_toInt (by omega); have t_n5 : (nI M).toInt = (M : Int) := nI_toInt (by omega); have t_n6 : (nI j1).toInt = (j1 : Int) := nI_toInt (by omega); have t_n7 : (nI j8).toInt = (j8 : Int) := nI_toInt (by omega); have t_n8 : (nI k19).toInt = (k19 : Int) := nI_toInt (by omega); have t_n9 : (nI j23).toInt = (j23 : Int) := nI_toInt (by omega); have t_n10 : (nI j30).toInt = (j30 : Int) := nI_toInt (by omega); omega)) ?_
                              refine lv_dup2_11 hx hb dX11_layOdds_146 rfl rfl ?_
                              refine va_lald hx hb hK.1 hP 3 1 rfl rfl (vp_in_nI (by have t_hj5 := hj5; have t_n7 := n7; have t_hj13 := hj13; have t_n16 := n16; have t_hb_k19 := hb_k19; have t_hj27 := hj27; have t_n29 := n29; have t_hj34 := hj34; have t_hlo_j30 := hlo_j30; have t_n45 := n45; have t_c46 := eqI c46; have t_hs55 := hs55; have t_n0 : (nI nn).toInt = (nn : Int) := nI_toInt (by omega); have t_n1 : (nI N).toInt = (N : Int) := nI_toInt (by omega); have t_n2 : (nI B).toInt = (B : Int) := nI_toInt (by omega); have t_n3 : (nI T).toInt = (T : Int) := nI_toInt (by omega); have t_n4 : (nI S).toInt = (S : Int) := nI_toInt (by omega); have t_n5 : (nI M).toInt = (M : Int) := nI_toInt (by omega); have t_n6 : (nI j1).toInt = (j1 : Int) := nI_toInt (by omega); have t_n7 : (nI j8).toInt = (j8 : Int) := nI_toInt (by omega); have t_n8 : (nI k19).toInt = (k19 : Int) := nI_toInt (by omega); have t_n9 : (nI j23).toInt = (j23 : Int) := nI_toInt (by omega); have t_n10 : (nI j30).toInt = (j30 : Int) := nI_toInt (by omega); omega) (by decide)) dX11_layOdds_147 ?_
                              refine lv_cgl (y := g31 ((min 9 (j30 + 2)) - 1)) (by rw [nI_clamp (by omega)]) ?_
                              refine lv_iload hx hb dX11_layOdds_148 (lv_at hl 2 rfl) ?_
                              refine lv_i2l (v := r21.toInt64) hx hb dX11_layOdds_150 rfl ?_
                              refine lv_aload_n hx hb dX11_layOdds_151 rfl (lv_at hl 4 rfl) ?_
                              refine va_get (D := (dC, dI)) (ci := 11) (v := .ref od) (C := RX11) (T := TX11) (N := 35) hx hb hg inG11 hown hK.1 hP 0 rfl rfl 21 (by decide) (hg _ wt_899) (fun _ h9 => h9) rfl dX11_layOdds_152 ?_
                              refine lv_iload hx hb dX11_layOdds_155 (lv_at hl 1 rfl) ?_
                              refine va_lald hx hb hK.1 hP 2 1 rfl rfl (vp_in_nI (by have t_hj5 := hj5; have t_n7 := n7; have t_hj13 := hj13; have t_n16 := n16; have t_hb_k19 := hb_k19; have t_hj27 := hj27; have t_n29 := n29; have t_hj34 := hj34; have t_hlo_j30 := hlo_j30; have t_n45 := n45; have t_c46 := eqI c46; have t_hs55 := hs55; have t_n0 : (nI nn).toInt = (nn : Int) := nI_toInt (by omega); have t_n1 : (nI N).toInt = (N : Int) := nI_toInt (by omega); have t_n2 : (nI B).toInt = (B : Int) := nI_toInt (by omega); have t_n3 : (nI T).toInt = (T : Int) := nI_toInt (by omega); have t_n4 : (nI S).toInt = (S : Int) := nI_toInt (by omega); have t_n5 : (nI M).toInt = (M : Int) := nI_toInt (by omega); have t_n6 : (nI j1).toInt = (j1 : Int) := nI_toInt (by omega); have t_n7 : (nI j8).toInt = (j8 : Int) := nI_toInt (by omega); have t_n8 : (nI k19).toInt = (k19 : Int) := nI_toInt (by omega); have t_n9 : (nI j23).toInt = (j23 : Int) := nI_toInt (by omega); have t_n10 : (nI j30).toInt = (j30 : Int) := nI_toInt (by omega); omega) (by decide)) dX11_layOdds_157 ?_
                              refine lv_cgl (y := g9 j30) (by rw [nI_clamp (by omega)]) ?_
                              refine lv_lmul hx hb dX11_layOdds_158 ?_
                              refine lv_ladd hx hb dX11_layOdds_159 ?_
                              refine lv_topl (fun v56 ev56 => ?_)
                              refine va_last hx hb hK.1 hP hD hS 3 1 rfl rfl (vp_in_nI (by have t_hj5 := hj5; have t_n7 := n7; have t_hj13 := hj13; have t_n16 := n16; have t_hb_k19 := hb_k19; have t_hj27 := hj27; have t_n29 := n29; have t_hj34 := hj34; have t_hlo_j30 := hlo_j30; have t_n45 := n45; have t_c46 := eqI c46; have t_hs55 := hs55; have t_n0 : (nI nn).toInt = (nn : Int) := nI_toInt (by omega); have t_n1 : (nI N).toInt = (N : Int) := nI_toInt (by omega); have t_n2 : (nI B).toInt = (B : Int) := nI_toInt (by omega); have t_n3 : (nI T).toInt = (T : Int) := nI_toInt (by omega); have t_n4 : (nI S).toInt = (S : Int) := nI_toInt (by omega); have t_n5 : (nI M).toInt = (M : Int) := nI_toInt (by omega); have t_n6 : (nI j1).toInt = (j1 : Int) := nI_toInt (by omega); have t_n7 : (nI j8).toInt = (j8 : Int) := nI_toInt (by omega); have t_n8 : (nI k19).toInt = (k19 : Int) := nI_toInt (by omega); have t_n9 : (nI j23).toInt = (j23 : Int) := nI_toInt (by omega); have t_n10 : (nI j30).toInt = (j30 : Int) := nI_toInt (by omega); omega) (by decide)) dX11_layOdds_160 (fun H locs hP hD hS => ?_)
                              rw [nI_clamp (by omega)] at hP hD
                              have hP : va_P (dC, dI) vwCl [(h0, .inr (11, [.ref st, .int (nI N), .int (nI B), .ref rp, .int vrs, .int vrb, .int vhs, .int vca, .int vxs, .int vxb, .ref tp, .int (nI T), .int vfa, .int vbr, .int vba, .int vsp, .int vhe, .int vtk, .int vva, .ref cu, .ref lt, .ref od, .ref th, .ref be, .ref ln, .int (nI S), .ref ma, .int (nI M), .ref ah, .ref bh, .ref ik, .ref la, .ref lg, .ref ce, .int vto])), (st, .inl (G 0, 196, .inl fst)), (od, .inl (G 1, 10, .inr (.inl g9))), (th, .inl (G 1, 10, .inr (.inl (vp_updL g31 ((min 9 (j30 + 2)) - 1) v56))))] H := hP
                              have hD : va_D A [(h0, .inr (11, [.ref st, .int (nI N), .int (nI B), .ref rp, .int vrs, .int vrb, .int vhs, .int vca, .int vxs, .int vxb, .ref tp, .int (nI T), .int vfa, .int vbr, .int vba, .int vsp, .int vhe, .int vtk, .int vva, .ref cu, .ref lt, .ref od, .ref th, .ref be, .ref ln, .int (nI S), .ref ma, .int (nI M), .ref ah, .ref bh, .ref ik, .ref la, .ref lg, .ref ce, .int vto])), (st, .inl (G 0, 196, .inl fst)), (od, .inl (G 1, 10, .inr (.inl g9))), (th, .inl (G 1, 10, .inr (.inl (vp_updL g31 ((min 9 (j30 + 2)) - 1) v56))))] := hD
                              refine lv_aload_n hx hb dX11_layOdds_161 rfl (lv_at hl 4 rfl) ?_
                              refine va_get (D := (dC, dI)) (ci := 11) (v := .ref th) (C := RX11) (T := TX11) (N := 35) hx hb hg inG11 hown hK.1 hP 0 rfl rfl 22 (by decide) (hg _ wt_900) (fun _ h9 => h9) rfl dX11_layOdds_162 ?_
                              refine lv_iload hx hb dX11_layOdds_165 (lv_at hl 0 rfl) ?_
                              refine lv_iconst (v := 1) hx hb dX11_layOdds_167 (by decide) ?_
                              have hPc := hP.sub (ws' := []) [] rfl
                              refine va_calli (va_runS (As := [.int (nI (min 9 (j30 + 2))), .int 1]) (rest := [.ref th]) ⟨hx, hb, hml, hown, hg⟩ (c_X11_deeper l dC dI G _ (min 9 (j30 + 2)) 1 (by have t_hj5 := hj5; have t_n7 := n7; have t_hj13 := hj13; have t_n16 := n16; have t_hb_k19 := hb_k19; have t_hj27 := hj27; have t_n29 := n29; have t_hj34 := hj34; have t_hlo_j30 := hlo_j30; have t_n45 := n45; have t_c46 := eqI c46; have t_hs55 := hs55; have t_n0 : (nI nn).toInt = (nn : Int) := nI_toInt (by omega); have t_n1 : (nI N).toInt = (N : Int) := nI_toInt (by omega); have t_n2 : (nI B).toInt = (B : Int) := nI_toInt (by omega); have t_n3 : (nI T).toInt = (T : Int) := nI_toInt (by omega); have t_n4 : (nI S).toInt = (S : Int) := nI_toInt (by omega); have t_n5 : (nI M).toInt = (M : Int) := nI_toInt (by omega); have t_n6 : (nI j1).toInt = (j1 : Int) := nI_toInt (by omega); have t_n7 : (nI j8).toInt = (j8 : Int) := nI_toInt (by omega); have t_n8 : (nI k19).toInt = (k19 : Int) := nI_toInt (by omega); have t_n9 : (nI j23).toInt = (j23 : Int) := nI_toInt (by omega); have t_n10 : (nI j30).toInt = (j30 : Int) := nI_toInt (by omega); have : (1 : Int32).toInt = 1 := (by decide); omega) (by have t_hj5 := hj5; have t_n7 := n7; have t_hj13 := hj13; have t_n16 := n16; have t_hb_k19 := hb_k19; have t_hj27 := hj27; have t_n29 := n29; have t_hj34 := hj34; have t_hlo_j30 := hlo_j30; have t_n45 := n45; have t_c46 := eqI c46; have t_hs55 := hs55; have t_n0 : (nI nn).toInt = (nn : Int) := nI_toInt (by omega); have t_n1 : (nI N).toInt = (N : Int) := nI_toInt (by omega); have t_n2 : (nI B).toInt = (B : Int) := nI_toInt (by omega); have t_n3 : (nI T).toInt = (T : Int) := nI_toInt (by omega); have t_n4 : (nI S).toInt = (S : Int) := nI_toInt (by omega); have t_n5 : (nI M).toInt = (M : Int) := nI_toInt (by omega); have t_n6 : (nI j1).toInt = (j1 : Int) := nI_toInt (by omega); have t_n7 : (nI j8).toInt = (j8 : Int) := nI_toInt (by omega); have t_n8 : (nI k19).toInt = (k19 : Int) := nI_toInt (by omega); have t_n9 : (nI j23).toInt = (j23 : Int) := nI_toInt (by omega); have t_n10 : (nI j30).toInt = (j30 : Int) := nI_toInt (by omega); have : (1 : Int32).toInt = 1 := (by decide); omega)) (kwS hg mfX11_deeper wt_1128 ⟨Nat.le_of_ble_eq_true rfl, Nat.le_of_ble_eq_true rfl⟩) (preSR hK hPc) rfl rfl hl.1 rfl (lv_room (Nat.le_of_ble_eq_true rfl)) dX11_layOdds_168 ⟨Nat.le_of_ble_eq_true rfl, Nat.le_of_ble_eq_true rfl⟩) hS (fun q h1 h2 => absurd h2 (Nat.not_le.mpr h1)) (fun q h => hA q (Nat.le_trans hS.1 h)) (fun r57 ur57 t H1 locs ht hvm w58 hB hz1 hk1 hS => ?_)
                              have hP := keepR hP hk1
                              obtain ⟨w58, w58x⟩ := w58
                              have hs59 : (min 9 (j30 + 2)) ≤ (min 9 ((min 9 (j30 + 2)) + 1)) ∧ (min 9 ((min 9 (j30 + 2)) + 1)) ≤ 9 := (by omega)
                              subst w58
                              refine lv_dup2_11 hx hb dX11_layOdds_171 rfl rfl ?_
                              refine va_lald hx hb hK.1 hP 3 1 rfl rfl (vp_in_nI (by have t_hj5 := hj5; have t_n7 := n7; have t_hj13 := hj13; have t_n16 := n16; have t_hb_k19 := hb_k19; have t_hj27 := hj27; have t_n29 := n29; have t_hj34 := hj34; have t_hlo_j30 := hlo_j30; have t_n45 := n45; have t_c46 := eqI c46; have t_hs55 := hs55; have t_hs59 := hs59; have t_n0 : (nI nn).toInt = (nn : Int) := nI_toInt (by omega); have t_n1 : (nI N).toInt = (N : Int) := nI_toInt (by omega); have t_n2 : (nI B).toInt = (B : Int) := nI_toInt (by omega); have t_n3 : (nI T).toInt = (T : Int) := nI_toInt (by omega); have t_n4 : (nI S).toInt = (S : Int) := nI_toInt (by omega); have t_n5 : (nI M).toInt = (M : Int) := nI_toInt (by omega); have t_n6 : (nI j1).toInt = (j1 : Int) := nI_toInt (by omega); have t_n7 : (nI j8).toInt = (j8 : Int) := nI_toInt (by omega); have t_n8 : (nI k19).toInt = (k19 : Int) := nI_toInt (by omega); have t_n9 : (nI j23).toInt = (j23 : Int) := nI_toInt (by omega); have t_n10 : (nI j30).toInt = (j30 : Int) := nI_toInt (by omega); omega) (by decide)) dX11_layOdds_172 ?_
                              refine lv_cgl (y := (vp_updL g31 ((min 9 (j30 + 2)) - 1) v56) (min 9 ((min 9 (j30 + 2)) + 1))) (by rw [nI_clamp (by omega)]) ?_
                              refine lv_bipush (v := 20) hx hb dX11_layOdds_173 (by decide) ?_
                              refine lv_iload hx hb dX11_layOdds_175 (lv_at hl 2 rfl) ?_
                              refine lv_isub hx hb dX11_layOdds_177 ?_
                              refine lv_i2l (v := (20 - r21).toInt64) hx hb dX11_layOdds_178 rfl ?_
                              refine lv_aload_n hx hb dX11_layOdds_179 rfl (lv_at hl 4 rfl) ?_
                              refine va_get (D := (dC, dI)) (ci := 11) (v := .ref od) (C := RX11) (T := TX11) (N := 35) hx hb hg inG11 hown hK.1 hP 0 rfl rfl 21 (by decide) (hg _ wt_899) (fun _ h9 => h9) rfl dX11_layOdds_180 ?_
                              refine lv_iload hx hb dX11_layOdds_183 (lv_at hl 1 rfl) ?_
                              refine va_lald hx hb hK.1 hP 2 1 rfl rfl (vp_in_nI (by have t_hj5 := hj5; have t_n7 := n7; have t_hj13 := hj13; have t_n16 := n16; have t_hb_k19 := hb_k19; have t_hj27 := hj27; have t_n29 := n29; have t_hj34 := hj34; have t_hlo_j30 := hlo_j30; have t_n45 := n45; have t_c46 := eqI c46; have t_hs55 := hs55; have t_hs59 := hs59; have t_n0 : (nI nn).toInt = (nn : Int) := nI_toInt (by omega); have t_n1 : (nI N).toInt = (N : Int) := nI_toInt (by omega); have t_n2 : (nI B).toInt = (B : Int) := nI_toInt (by omega); have t_n3 : (nI T).toInt = (T : Int) := nI_toInt (by omega); have t_n4 : (nI S).toInt = (S : Int) := nI_toInt (by omega); have t_n5 : (nI M).toInt = (M : Int) := nI_toInt (by omega); have t_n6 : (nI j1).toInt = (j1 : Int) := nI_toInt (by omega); have t_n7 : (nI j8).toInt = (j8 : Int) := nI_toInt (by omega); have t_n8 : (nI k19).toInt = (k19 : Int) := nI_toInt (by omega); have t_n9 : (nI j23).toInt = (j23 : Int) := nI_toInt (by omega); have t_n10 : (nI j30).toInt = (j30 : Int) := nI_toInt (by omega); omega) (by decide)) dX11_layOdds_185 ?_
                              refine lv_cgl (y := g9 j30) (by rw [nI_clamp (by omega)]) ?_
                              refine lv_lmul hx hb dX11_layOdds_186 ?_
                              refine lv_topl (fun v60 ev60 => ?_)
                              refine lv_ladd hx hb dX11_layOdds_187 ?_
                              refine lv_topl (fun v61 ev61 => ?_)
                              refine va_last hx hb hK.1 hP hD hS 3 1 rfl rfl (vp_in_nI (by have t_hj5 := hj5; have t_n7 := n7; have t_hj13 := hj13; have t_n16 := n16; have t_hb_k19 := hb_k19; have t_hj27 := hj27; have t_n29 := n29; have t_hj34 := hj34; have t_hlo_j30 := hlo_j30; have t_n45 := n45; have t_c46 := eqI c46; have t_hs55 := hs55; have t_hs59 := hs59; have t_n0 : (nI nn).toInt = (nn : Int) := nI_toInt (by omega); have t_n1 : (nI N).toInt = (N : Int) := nI_toInt (by omega); have t_n2 : (nI B).toInt = (B : Int) := nI_toInt (by omega); have t_n3 : (nI T).toInt = (T : Int) := nI_toInt (by omega); have t_n4 : (nI S).toInt = (S : Int) := nI_toInt (by omega); have t_n5 : (nI M).toInt = (M : Int) := nI_toInt (by omega); have t_n6 : (nI j1).toInt = (j1 : Int) := nI_toInt (by omega); have t_n7 : (nI j8).toInt = (j8 : Int) := nI_toInt (by omega); have t_n8 : (nI k19).toInt = (k19 : Int) := nI_toInt (by omega); have t_n9 : (nI j23).toInt = (j23 : Int) := nI_toInt (by omega); have t_n10 : (nI j30).toInt = (j30 : Int) := nI_toInt (by omega); omega) (by decide)) dX11_layOdds_188 (fun H locs hP hD hS => ?_)
                              rw [nI_clamp (by omega)] at hP hD
                              have hP : va_P (dC, dI) vwCl [(h0, .inr (11, [.ref st, .int (nI N), .int (nI B), .ref rp, .int vrs, .int vrb, .int vhs, .int vca, .int vxs, .int vxb, .ref tp, .int (nI T), .int vfa, .int vbr, .int vba, .int vsp, .int vhe, .int vtk, .int vva, .ref cu, .ref lt, .ref od, .ref th, .ref be, .ref ln, .int (nI S), .ref ma, .int (nI M), .ref ah, .ref bh, .ref ik, .ref la, .ref lg, .ref ce, .int vto])), (st, .inl (G 0, 196, .inl fst)), (od, .inl (G 1, 10, .inr (.inl g9))), (th, .inl (G 1, 10, .inr (.inl (vp_updL (vp_updL g31 ((min 9 (j30 + 2)) - 1) v56) (min 9 ((min 9 (j30 + 2)) + 1)) v61))))] H := hP
                              have hD : va_D A [(h0, .inr (11, [.ref st, .int (nI N), .int (nI B), .ref rp, .int vrs, .int vrb, .int vhs, .int vca, .int vxs, .int vxb, .ref tp, .int (nI T), .int vfa, .int vbr, .int vba, .int vsp, .int vhe, .int vtk, .int vva, .ref cu, .ref lt, .ref od, .ref th, .ref be, .ref ln, .int (nI S), .ref ma, .int (nI M), .ref ah, .ref bh, .ref ik, .ref la, .ref lg, .ref ce, .int vto])), (st, .inl (G 0, 196, .inl fst)), (od, .inl (G 1, 10, .inr (.inl g9))), (th, .inl (G 1, 10, .inr (.inl (vp_updL (vp_updL g31 ((min 9 (j30 + 2)) - 1) v56) (min 9 ((min 9 (j30 + 2)) + 1)) v61))))] := hD
                              refine lv_iinc (v := nI (j30 + 1)) (lv' := [(6, .int (nI (j30 + 1))), (7, .int (nI (min 9 (j30 + 2)))), (5, .int r21), (4, .int (nI j8)), (0, .ref h0), (1, .int (nI nn)), (2, .int x1), (3, .int x2)]) hx hb dX11_layOdds_189 hl (k := 1) rfl (by rw [show Int32.ofInt 1 = nI 1 from by decide]; exact nI_add _ _) (by decide) rfl (fun ls hl => ?_)
                              refine lv_goto (tgt := 112) hx hb dX11_layOdds_192 (by decide) ?_
                              exact ih112_32 (j30 + 1) (by omega) (by omega) (by omega) (vp_updL (vp_updL g31 ((min 9 (j30 + 2)) - 1) v56) (min 9 ((min 9 (j30 + 2)) + 1)) v61) _ _ hP hD hS ls (lv_sub hl [0, 2, 3, 4, 5, 6, 7] rfl)
                      exact loop112_32 (10 + 1) 1 (by omega) (by omega) (by omega) (vp_updL g24 0 (20 * (g9 0))) _ _ hP hD hS ls (lv_sub hl [0, 1, 2, 3, 4, 5, 6] rfl)
                    · skip
                      have n62 : j23 < 10 := by have t := nleI c28; rw [nI_toInt (n := j23) (by omega)] at t; have : (10 : Int32).toInt = 10 := (by decide); omega
                      refine lv_aload_n hx hb dX11_layOdds_79 rfl (lv_at hl 3 rfl) ?_
                      refine va_get (D := (dC, dI)) (ci := 11) (v := .ref th) (C := RX11) (T := TX11) (N := 35) hx hb hg inG11 hown hK.1 hP 0 rfl rfl 22 (by decide) (hg _ wt_900) (fun _ h9 => h9) rfl dX11_layOdds_80 ?_
                      refine lv_iload hx hb dX11_layOdds_83 (lv_at hl 0 rfl) ?_
                      refine lv_lconst (v := 0) hx hb dX11_layOdds_85 (by decide) ?_
                      refine va_last hx hb hK.1 hP hD hS 3 1 rfl rfl (vp_in_nI (by have t_hj5 := hj5; have t_n7 := n7; have t_hj13 := hj13; have t_n16 := n16; have t_hb_k19 := hb_k19; have t_hj27 := hj27; have t_n62 := n62; have t_n0 : (nI nn).toInt = (nn : Int) := nI_toInt (by omega); have t_n1 : (nI N).toInt = (N : Int) := nI_toInt (by omega); have t_n2 : (nI B).toInt = (B : Int) := nI_toInt (by omega); have t_n3 : (nI T).toInt = (T : Int) := nI_toInt (by omega); have t_n4 : (nI S).toInt = (S : Int) := nI_toInt (by omega); have t_n5 : (nI M).toInt = (M : Int) := nI_toInt (by omega); have t_n6 : (nI j1).toInt = (j1 : Int) := nI_toInt (by omega); have t_n7 : (nI j8).toInt = (j8 : Int) := nI_toInt (by omega); have t_n8 : (nI k19).toInt = (k19 : Int) := nI_toInt (by omega); have t_n9 : (nI j23).toInt = (j23 : Int) := nI_toInt (by omega); omega) (by decide)) dX11_layOdds_86 (fun H locs hP hD hS => ?_)
                      rw [nI_clamp (by omega)] at hP hD
                      have hP : va_P (dC, dI) vwCl [(h0, .inr (11, [.ref st, .int (nI N), .int (nI B), .ref rp, .int vrs, .int vrb, .int vhs, .int vca, .int vxs, .int vxb, .ref tp, .int (nI T), .int vfa, .int vbr, .int vba, .int vsp, .int vhe, .int vtk, .int vva, .ref cu, .ref lt, .ref od, .ref th, .ref be, .ref ln, .int (nI S), .ref ma, .int (nI M), .ref ah, .ref bh, .ref ik, .ref la, .ref lg, .ref ce, .int vto])), (st, .inl (G 0, 196, .inl fst)), (od, .inl (G 1, 10, .inr (.inl g9))), (th, .inl (G 1, 10, .inr (.inl (vp_updL g24 j23 0))))] H := hP
                      have hD : va_D A [(h0, .inr (11, [.ref st, .int (nI N), .int (nI B), .ref rp, .int vrs, .int vrb, .int vhs, .int vca, .int vxs, .int vxb, .ref tp, .int (nI T), .int vfa, .int vbr, .int vba, .int vsp, .int vhe, .int vtk, .int vva, .ref cu, .ref lt, .ref od, .ref th, .ref be, .ref ln, .int (nI S), .ref ma, .int (nI M), .ref ah, .ref bh, .ref ik, .ref la, .ref lg, .ref ce, .int vto])), (st, .inl (G 0, 196, .inl fst)), (od, .inl (G 1, 10, .inr (.inl g9))), (th, .inl (G 1, 10, .inr (.inl (vp_updL g24 j23 0))))] := hD
                      refine lv_iinc (v := nI (j23 + 1)) (lv' := [(6, .int (nI (j23 + 1))), (5, .int r21), (4, .int (nI j8)), (0, .ref h0), (1, .int (nI nn)), (2, .int x1), (3, .int x2)]) hx hb dX11_layOdds_87 hl (k := 0) rfl (by rw [show Int32.ofInt 1 = nI 1 from by decide]; exact nI_add _ _) (by decide) rfl (fun ls hl => ?_)
                      refine lv_goto (tgt := 72) hx hb dX11_layOdds_90 (by decide) ?_
                      exact ih72_25 (j23 + 1) (by omega) (by omega) (vp_updL g24 j23 0) _ _ hP hD hS ls (lv_sub hl [0, 1, 2, 3, 4, 5, 6] rfl)
                exact loop72_25 (10 + 1) 0 (by omega) (by omega) g10 _ _ hP hD hS ls (lv_sub hl [0, 1, 2, 3, 4, 5, 6] rfl)
              refine lv_icmp_ne (tgt := 63) hx hb dX11_layOdds_56 (by decide) (fun c63 => ?_) (fun c63 => ?_)
              · skip
                refine lv_iconst (v := 0) hx hb dX11_layOdds_63 (by decide) ?_
                exact cut64_20 0 _ _ (by omega) hP hD hS ls (lv_sub hl [0, 1, 2, 3, 4] rfl)
              · skip
                refine lv_iconst (v := 1) hx hb dX11_layOdds_59 (by decide) ?_
                refine lv_goto (tgt := 64) hx hb dX11_layOdds_60 (by decide) ?_
                exact cut64_20 1 _ _ (by omega) hP hD hS ls (lv_sub hl [0, 1, 2, 3, 4] rfl)
        exact loop40_11 (nn + 1) 0 (by omega) (by omega) g2 fth _ _ hP hD hS ls (lv_sub hl [0, 1, 2, 3, 4] rfl)
      · skip
        have n64 : j1 < 10 := by have t := nleI c6; rw [nI_toInt (n := j1) (by omega)] at t; have : (10 : Int32).toInt = 10 := (by decide); omega
        refine lv_aload_n hx hb dX11_layOdds_10 rfl (lv_at hl 1 rfl) ?_
        refine va_get (D := (dC, dI)) (ci := 11) (v := .ref od) (C := RX11) (T := TX11) (N := 35) hx hb hg inG11 hown hK.1 hP 0 rfl rfl 21 (by decide) (hg _ wt_899) (fun _ h9 => h9) rfl dX11_layOdds_11 ?_
        refine lv_iload hx hb dX11_layOdds_14 (lv_at hl 0 rfl) ?_
        refine lv_iload hx hb dX11_layOdds_16 (lv_at hl 0 rfl) ?_
        refine lv_aload_n hx hb dX11_layOdds_18 rfl (lv_at hl 1 rfl) ?_
        have hPc := hP.sub (ws' := [(h0, .inr (11, [.ref st, .int (nI N), .int (nI B), .ref rp, .int vrs, .int vrb, .int vhs, .int vca, .int vxs, .int vxb, .ref tp, .int (nI T), .int vfa, .int vbr, .int vba, .int vsp, .int vhe, .int vtk, .int vva, .ref cu, .ref lt, .ref od, .ref th, .ref be, .ref ln, .int (nI S), .ref ma, .int (nI M), .ref ah, .ref bh, .ref ik, .ref la, .ref lg, .ref ce, .int vto])), (st, .inl (G 0, 196, .inl fst))]) [0, 1] rfl
        refine va_calli (va_runV (As := []) (rest := [.int (nI j1), .int (nI j1), .ref od]) ⟨hx, hb, hml, hown, hg⟩ (c_X11_startNow l dC dI G _ h0 st N B rp tp T cu lt od th be ln S ma M ah bh ik la lg ce vrs vrb vhs vca vxs vxb vfa vbr vba vsp vhe vtk vva vto fst (by have t_hj5 := hj5; have t_n64 := n64; have t_n0 : (nI nn).toInt = (nn : Int) := nI_toInt (by omega); have t_n1 : (nI N).toInt = (N : Int) := nI_toInt (by omega); have t_n2 : (nI B).toInt = (B : Int) := nI_toInt (by omega); have t_n3 : (nI T).toInt = (T : Int) := nI_toInt (by omega); have t_n4 : (nI S).toInt = (S : Int) := nI_toInt (by omega); have t_n5 : (nI M).toInt = (M : Int) := nI_toInt (by omega); have t_n6 : (nI j1).toInt = (j1 : Int) := nI_toInt (by omega); omega) (by have t_hj5 := hj5; have t_n64 := n64; have t_n0 : (nI nn).toInt = (nn : Int) := nI_toInt (by omega); have t_n1 : (nI N).toInt = (N : Int) := nI_toInt (by omega); have t_n2 : (nI B).toInt = (B : Int) := nI_toInt (by omega); have t_n3 : (nI T).toInt = (T : Int) := nI_toInt (by omega); have t_n4 : (nI S).toInt = (S : Int) := nI_toInt (by omega); have t_n5 : (nI M).toInt = (M : Int) := nI_toInt (by omega); have t_n6 : (nI j1).toInt = (j1 : Int) := nI_toInt (by omega); omega) (by have t_hj5 := hj5; have t_n64 := n64; have t_n0 : (nI nn).toInt = (nn : Int) := nI_toInt (by omega); have t_n1 : (nI N).toInt = (N : Int) := nI_toInt (by omega); have t_n2 : (nI B).toInt = (B : Int) := nI_toInt (by omega); have t_n3 : (nI T).toInt = (T : Int) := nI_toInt (by omega); have t_n4 : (nI S).toInt = (S : Int) := nI_toInt (by omega); have t_n5 : (nI M).toInt = (M : Int) := nI_toInt (by omega); have t_n6 : (nI j1).toInt = (j1 : Int) := nI_toInt (by omega); omega) (by have t_hj5 := hj5; have t_n64 := n64; have t_n0 : (nI nn).toInt = (nn : Int) := nI_toInt (by omega); have t_n1 : (nI N).toInt = (N : Int) := nI_toInt (by omega); have t_n2 : (nI B).toInt = (B : Int) := nI_toInt (by omega); have t_n3 : (nI T).toInt = (T : Int) := nI_toInt (by omega); have t_n4 : (nI S).toInt = (S : Int) := nI_toInt (by omega); have t_n5 : (nI M).toInt = (M : Int) := nI_toInt (by omega); have t_n6 : (nI j1).toInt = (j1 : Int) := nI_toInt (by omega); omega) (by have t_hj5 := hj5; have t_n64 := n64; have t_n0 : (nI nn).toInt = (nn : Int) := nI_toInt (by omega); have t_n1 : (nI N).toInt = (N : Int) := nI_toInt (by omega); have t_n2 : (nI B).toInt = (B : Int) := nI_toInt (by omega); have t_n3 : (nI T).toInt = (T : Int) := nI_toInt (by omega); have t_n4 : (nI S).toInt = (S : Int) := nI_toInt (by omega); have t_n5 : (nI M).toInt = (M : Int) := nI_toInt (by omega); have t_n6 : (nI j1).toInt = (j1 : Int) := nI_toInt (by omega); omega) hst) (kwV hg mfX11_startNow wt_1044 ⟨Nat.le_of_ble_eq_true rfl, Nat.le_of_ble_eq_true rfl⟩) (preVR hK hPc (ci := 11) rfl rfl) rfl rfl hl.1 rfl (lv_room (Nat.le_of_ble_eq_true rfl)) dX11_layOdds_19 ⟨Nat.le_of_ble_eq_true rfl, Nat.le_of_ble_eq_true rfl⟩) hS (fun q h1 h2 => absurd h2 (Nat.not_le.mpr h1)) (fun q h => hA q (Nat.le_trans hS.1 h)) (fun r65 ur65 t H1 locs ht hvm w66 hB hz1 hk1 hS => ?_)
        have hP := keepR hP hk1
        obtain ⟨w66, w66x⟩ := w66
        obtain ⟨k67, w66, w66a, w66b⟩ := w66
        subst w66
        have cut30_69 : ∀ (y68 : Int64) (H : Heap) (locs : List Loc), va_P (dC, dI) vwCl [(h0, .inr (11, [.ref st, .int (nI N), .int (nI B), .ref rp, .int vrs, .int vrb, .int vhs, .int vca, .int vxs, .int vxb, .ref tp, .int (nI T), .int vfa, .int vbr, .int vba, .int vsp, .int vhe, .int vtk, .int vva, .ref cu, .ref lt, .ref od, .ref th, .ref be, .ref ln, .int (nI S), .ref ma, .int (nI M), .ref ah, .ref bh, .ref ik, .ref la, .ref lg, .ref ce, .int vto])), (st, .inl (G 0, 196, .inl fst)), (od, .inl (G 1, 10, .inr (.inl g2))), (th, .inl (G 1, 10, .inr (.inl fth)))] H → va_D A [(h0, .inr (11, [.ref st, .int (nI N), .int (nI B), .ref rp, .int vrs, .int vrb, .int vhs, .int vca, .int vxs, .int vxb, .ref tp, .int (nI T), .int vfa, .int vbr, .int vba, .int vsp, .int vhe, .int vtk, .int vva, .ref cu, .ref lt, .ref od, .ref th, .ref be, .ref ln, .int (nI S), .ref ma, .int (nI M), .ref ah, .ref bh, .ref ik, .ref la, .ref lg, .ref ce, .int vto])), (st, .inl (G 0, 196, .inl fst)), (od, .inl (G 1, 10, .inr (.inl g2))), (th, .inl (G 1, 10, .inr (.inl fth)))] → va_S A s.heap H locs → ∀ (ls : Array Slot), lv_has ls 8 [(4, .int (nI j1)), (0, .ref h0), (1, .int (nI nn)), (2, .int x1), (3, .int x2)] → W p l e (headSpec (Cond.code yX11_layOdds cX11_layOdds 8 none :: GT) ({ frames := 3, cells := 0, slots := 0, locals := 72 } : Room)).room s m ([.ref h0, .int (nI nn), .int x1, .int x2] : List Value).toArray below meth c H locs 0 0 (MQ below (va_Qv (fun (u : (Nat → Int64) × (Nat → Int64)) => match u with | (ood, oth) => True) (fun (u : (Nat → Int64) × (Nat → Int64)) (t : State) => match u with | (ood, oth) => va_P (dC, dI) vwCl [(h0, .inr (11, [.ref st, .int (nI N), .int (nI B), .ref rp, .int vrs, .int vrb, .int vhs, .int vca, .int vxs, .int vxb, .ref tp, .int (nI T), .int vfa, .int vbr, .int vba, .int vsp, .int vhe, .int vtk, .int vva, .ref cu, .ref lt, .ref od, .ref th, .ref be, .ref ln, .int (nI S), .ref ma, .int (nI M), .ref ah, .ref bh, .ref ik, .ref la, .ref lg, .ref ce, .int vto])), (st, .inl (G 0, 196, .inl fst)), (od, .inl (G 1, 10, .inr (.inl ood))), (th, .inl (G 1, 10, .inr (.inl oth)))] t.heap ∧ va_D A [(h0, .inr (11, [.ref st, .int (nI N), .int (nI B), .ref rp, .int vrs, .int vrb, .int vhs, .int vca, .int vxs, .int vxb, .ref tp, .int (nI T), .int vfa, .int vbr, .int vba, .int vsp, .int vhe, .int vtk, .int vva, .ref cu, .ref lt, .ref od, .ref th, .ref be, .ref ln, .int (nI S), .ref ma, .int (nI M), .ref ah, .ref bh, .ref ik, .ref la, .ref lg, .ref ce, .int vto])), (st, .inl (G 0, 196, .inl fst)), (od, .inl (G 1, 10, .inr (.inl ood))), (th, .inl (G 1, 10, .inr (.inl oth)))]) A) ([.ref h0, .int (nI nn), .int x1, .int x2] : List Value).toArray s 0 0 A) (F0 m 30 ls [.long y68, .int (nI j1), .ref od]) := by
          intro y68 H locs hP hD hS ls hl
          refine va_last hx hb hK.1 hP hD hS 2 1 rfl rfl (vp_in_nI (by have t_hj5 := hj5; have t_n64 := n64; have t_w66a := w66a; have t_w66b := w66b; have t_n0 : (nI nn).toInt = (nn : Int) := nI_toInt (by omega); have t_n1 : (nI N).toInt = (N : Int) := nI_toInt (by omega); have t_n2 : (nI B).toInt = (B : Int) := nI_toInt (by omega); have t_n3 : (nI T).toInt = (T : Int) := nI_toInt (by omega); have t_n4 : (nI S).toInt = (S : Int) := nI_toInt (by omega); have t_n5 : (nI M).toInt = (M : Int) := nI_toInt (by omega); have t_n6 : (nI j1).toInt = (j1 : Int) := nI_toInt (by omega); have t_n7 : (nI k67).toInt = (k67 : Int) := nI_toInt (by omega); omega) (by decide)) dX11_layOdds_30 (fun H locs hP hD hS => ?_)
          rw [nI_clamp (by omega)] at hP hD
          have hP : va_P (dC, dI) vwCl [(h0, .inr (11, [.ref st, .int (nI N), .int (nI B), .ref rp, .int vrs, .int vrb, .int vhs, .int vca, .int vxs, .int vxb, .ref tp, .int (nI T), .int vfa, .int vbr, .int vba, .int vsp, .int vhe, .int vtk, .int vva, .ref cu, .ref lt, .ref od, .ref th, .ref be, .ref ln, .int (nI S), .ref ma, .int (nI M), .ref ah, .ref bh, .ref ik, .ref la, .ref lg, .ref ce, .int vto])), (st, .inl (G 0, 196, .inl fst)), (od, .inl (G 1, 10, .inr (.inl (vp_updL g2 j1 y68)))), (th, .inl (G 1, 10, .inr (.inl fth)))] H := hP
          have hD : va_D A [(h0, .inr (11, [.ref st, .int (nI N), .int (nI B), .ref rp, .int vrs, .int vrb, .int vhs, .int vca, .int vxs, .int vxb, .ref tp, .int (nI T), .int vfa, .int vbr, .int vba, .int vsp, .int vhe, .int vtk, .int vva, .ref cu, .ref lt, .ref od, .ref th, .ref be, .ref ln, .int (nI S), .ref ma, .int (nI M), .ref ah, .ref bh, .ref ik, .ref la, .ref lg, .ref ce, .int vto])), (st, .inl (G 0, 196, .inl fst)), (od, .inl (G 1, 10, .inr (.inl (vp_updL g2 j1 y68)))), (th, .inl (G 1, 10, .inr (.inl fth)))] := hD
          refine lv_iinc (v := nI (j1 + 1)) (lv' := [(4, .int (nI (j1 + 1))), (0, .ref h0), (1, .int (nI nn)), (2, .int x1), (3, .int x2)]) hx hb dX11_layOdds_31 hl (k := 0) rfl (by rw [show Int32.ofInt 1 = nI 1 from by decide]; exact nI_add _ _) (by decide) rfl (fun ls hl => ?_)
          refine lv_goto (tgt := 3) hx hb dX11_layOdds_34 (by decide) ?_
          exact ih3_3 (j1 + 1) (by omega) (by omega) (vp_updL g2 j1 y68) _ _ hP hD hS ls (lv_sub hl [0, 1, 2, 3, 4] rfl)
        refine lv_icmp_ne (tgt := 29) hx hb dX11_layOdds_22 (by decide) (fun c70 => ?_) (fun c70 => ?_)
        · skip
          have n71 : j1 ≠ k67 := by have t := neI c70; rw [nI_toInt (n := j1) (by omega)] at t; rw [nI_toInt (n := k67) (by omega)] at t; omega
          refine lv_lconst (v := 0) hx hb dX11_layOdds_29 (by decide) ?_
          exact cut30_69 0 _ _ hP hD hS ls (lv_sub hl [0, 1, 2, 3, 4] rfl)
        · skip
          have n72 : j1 = k67 := by have t := eqI c70; rw [nI_toInt (n := j1) (by omega)] at t; rw [nI_toInt (n := k67) (by omega)] at t; omega
          refine lv_lconst (v := 1) hx hb dX11_layOdds_25 (by decide) ?_
          refine lv_goto (tgt := 30) hx hb dX11_layOdds_26 (by decide) ?_
          exact cut30_69 1 _ _ hP hD hS ls (lv_sub hl [0, 1, 2, 3, 4] rfl)
  exact loop3_3 (10 + 1) 0 (by omega) (by omega) fod _ _ hP hD hS ls (lv_sub hl [0, 1, 2, 3, 4] rfl)

set_option maxHeartbeats 1000000 in
set_option maxRecDepth 100000 in
theorem c_X11_lowest (l : Launch) (dC : Nat → ClassId) (dI : Nat → Nat → Nat) (G : Nat → ClassId) (sz : Nat) (what : Int32) (x1 x2 : Int64) (hx2 : x2.toInt ≠ 0) : Met l yX11_lowest (Cond.code yX11_lowest cX11_lowest 11 (some .long) :: GT) ({ frames := 0, cells := 0, slots := 0, locals := 0 } : Room) (PcR [.long x1, .long x2, .int what] dC dI G [] sz) (va_Ql (fun (r : Int64) (u : Unit) => match u with | _ => (True) ∧ True) (fun _ _ => True) (fun q : Nat => sz ≤ q)) 0 0 (fun q : Nat => sz ≤ q) := by
  refine Met.ofW (cc := cX11_lowest) (maxL := 11) (ret := (some .long)) (by decide) rfl ?_
  intro p e s m args below meth c s₁ Bd hml hv
  obtain ⟨rfl, hsz, hP, hK⟩ := hv
  have hx := Bd.exec
  have hb := Bd.bytes
  have hr := Bd.returns
  have hg : ∀ w ∈ GT, w.before ([.long x1, .long x2, .int what] : List Value).toArray s = true := fun w h => atoms_spec (ws := Cond.code yX11_lowest cX11_lowest 11 (some .long) :: GT) Bd.pre w (List.mem_cons_of_mem _ h)
  have hown : s.vm.findClass RX11 = some m.cls := findClass_of_methodNamed Bd.named
  have hlocks := Bd.notSynchronized
  subst hsz
  have hA : ∀ q : Nat, s.heap.size ≤ q → (fun q : Nat => s.heap.size ≤ q) q := fun _ h => h
  have hS : va_S (fun q : Nat => s.heap.size ≤ q) s.heap s.heap [] := va_S.rf
  have hl := lv_entry ([.long x1, .long x2, .int what]) (n := 11) (Nat.le_of_ble_eq_true rfl)
  rw [lg_entry_eq]
  generalize (lg_sl ([.long x1, .long x2, .int what]) ++ List.replicate (11 - (lg_sl ([.long x1, .long x2, .int what])).length) Slot.unset).toArray = ls at hl ⊢
  have hl : lv_has ls 11 [(0, .long x1), (2, .long x2), (4, .int what)] := hl
  refine lv_lload_n hx hb dX11_lowest_0 rfl (lv_at hl 0 rfl) ?_
  refine lv_lstore (lv' := [(5, .long x1), (0, .long x1), (2, .long x2), (4, .int what)]) hx hb dX11_lowest_1 hl (by decide) rfl (fun ls hl => ?_)
  refine lv_lload_n hx hb dX11_lowest_3 rfl (lv_at hl 2 rfl) ?_
  refine lv_lstore (lv' := [(7, .long x2), (5, .long x1), (0, .long x1), (2, .long x2), (4, .int what)]) hx hb dX11_lowest_4 hl (by decide) rfl (fun ls hl => ?_)
  have loop6_3 : ∀ (nf : Nat) (y1 : Int64) (y2 : Int64), y1.toInt.natAbs < nf → (y1.toInt ≠ 0 ∨ y2.toInt ≠ 0) → ∀ (H : Heap) (locs : List Loc), va_P (dC, dI) vwCl [] H → va_S (fun q : Nat => s.heap.size ≤ q) s.heap H locs → ∀ (ls : Array Slot), lv_has ls 11 [(7, .long y1), (5, .long y2), (0, .long x1), (2, .long x2), (4, .int what)] → W p l e (headSpec (Cond.code yX11_lowest cX11_lowest 11 (some .long) :: GT) ({ frames := 0, cells := 0, slots := 0, locals := 0 } : Room)).room s m ([.long x1, .long x2, .int what] : List Value).toArray below meth c H locs 0 0 (MQ below (va_Ql (fun (r : Int64) (u : Unit) => match u with | _ => (True) ∧ True) (fun _ _ => True) (fun q : Nat => s.heap.size ≤ q)) ([.long x1, .long x2, .int what] : List Value).toArray s 0 0 (fun q : Nat => s.heap.size ≤ q)) (F0 m 6 ls []) := by
    intro nf
    induction nf with
    | zero => intro y1 y2 h1; exact absurd h1 (Nat.not_lt_zero _)
    | succ nf ih6_3 =>
      intro y1 y2 hm4 hinv H locs hP hS ls hl
      refine lv_lload hx hb dX11_lowest_6 (lv_at hl 0 rfl) ?_
      refine lv_lconst (v := 0) hx hb dX11_lowest_8 (by decide) ?_
      refine W.lcmp hx hb dX11_lowest_9 ?_
      refine lv_if_eq (tgt := 31) hx hb dX11_lowest_10 (by decide) (fun c5 => ?_) (fun c5 => ?_)
      · skip
        refine lv_iload hx hb dX11_lowest_31 (lv_at hl 4 rfl) ?_
        refine lv_if_ne (tgt := 40) hx hb dX11_lowest_33 (by decide) (fun c6 => ?_) (fun c6 => ?_)
        · skip
          refine lv_lload_n hx hb dX11_lowest_40 rfl (lv_at hl 3 rfl) ?_
          refine lv_lload hx hb dX11_lowest_41 (lv_at hl 1 rfl) ?_
          refine lv_ldiv hx hb dX11_lowest_43 (by intro h0; have t0 := congrArg Int64.toInt h0; have z0 : (0 : Int64).toInt = 0 := (by decide); have t_hinv := hinv; have t_c5 := lcm_eq_t c5; have t_c6 := neI c6; have : (0 : Int32).toInt = 0 := (by decide); have : (0 : Int64).toInt = 0 := (by decide); omega) ?_
          have hpost : True := by
            trivial
          refine W.widen (k := 0) (n := 0) (by omega) (by omega) ?_
          exact W.lret (v := x2 / y2) hx hb hr (fun t ht hW => ⟨⟨x2 / y2, (), rfl, ⟨hpost, trivial⟩, trivial⟩, hS.F ht⟩) hS.2.2 dX11_lowest_44
        · skip
          refine lv_lload_n hx hb dX11_lowest_36 rfl (lv_at hl 2 rfl) ?_
          refine lv_goto (tgt := 41) hx hb dX11_lowest_37 (by decide) ?_
          refine lv_lload hx hb dX11_lowest_41 (lv_at hl 1 rfl) ?_
          refine lv_ldiv hx hb dX11_lowest_43 (by intro h0; have t0 := congrArg Int64.toInt h0; have z0 : (0 : Int64).toInt = 0 := (by decide); have t_hinv := hinv; have t_c5 := lcm_eq_t c5; have t_c6 := eqI c6; have : (0 : Int32).toInt = 0 := (by decide); have : (0 : Int64).toInt = 0 := (by decide); omega) ?_
          have hpost : True := by
            trivial
          refine W.widen (k := 0) (n := 0) (by omega) (by omega) ?_
          exact W.lret (v := x1 / y2) hx hb hr (fun t ht hW => ⟨⟨x1 / y2, (), rfl, ⟨hpost, trivial⟩, trivial⟩, hS.F ht⟩) hS.2.2 dX11_lowest_44
      · skip
        refine lv_lload hx hb dX11_lowest_13 (lv_at hl 1 rfl) ?_
        refine lv_lload hx hb dX11_lowest_15 (lv_at hl 0 rfl) ?_
        refine lv_lrem hx hb dX11_lowest_17 (by intro h0; have t0 := congrArg Int64.toInt h0; have z0 : (0 : Int64).toInt = 0 := (by decide); have t_hinv := hinv; have t_c5 := lcm_eq_f c5; have : (0 : Int64).toInt = 0 := (by decide); omega) ?_
        refine lv_lstore (lv' := [(9, .long (y2 - y2 / y1 * y1)), (7, .long y1), (5, .long y2), (0, .long x1), (2, .long x2), (4, .int what)]) hx hb dX11_lowest_18 hl (by decide) rfl (fun ls hl => ?_)
        refine lv_lload hx hb dX11_lowest_20 (lv_at hl 1 rfl) ?_
        refine lv_lstore (lv' := [(5, .long y1), (9, .long (y2 - y2 / y1 * y1)), (7, .long y1), (0, .long x1), (2, .long x2), (4, .int what)]) hx hb dX11_lowest_22 hl (by decide) rfl (fun ls hl => ?_)
        refine lv_lload hx hb dX11_lowest_24 (lv_at hl 1 rfl) ?_
        refine lv_lstore (lv' := [(7, .long (y2 - y2 / y1 * y1)), (5, .long y1), (9, .long (y2 - y2 / y1 * y1)), (0, .long x1), (2, .long x2), (4, .int what)]) hx hb dX11_lowest_26 hl (by decide) rfl (fun ls hl => ?_)
        refine lv_goto (tgt := 6) hx hb dX11_lowest_28 (by decide) ?_
        exact ih6_3 (y2 - y2 / y1 * y1) y1 (Nat.lt_of_lt_of_le (rem_lt (by have t_hinv := hinv; have t_c5 := lcm_eq_f c5; have : (0 : Int64).toInt = 0 := (by decide); omega)) (Nat.le_of_lt_succ hm4)) (Or.inr (by have t_hinv := hinv; have t_c5 := lcm_eq_f c5; have : (0 : Int64).toInt = 0 := (by decide); omega)) _ _ hP hS ls (lv_sub hl [0, 1, 3, 4, 5] rfl)
  exact loop6_3 (x2.toInt.natAbs + 1) x2 x1 (Nat.lt_succ_self _) (Or.inl hx2) _ _ hP hS ls (lv_sub hl [0, 1, 2, 3, 4] rfl)

set_option maxHeartbeats 1000000 in
set_option maxRecDepth 100000 in
theorem c_X11_wakes (l : Launch) (dC : Nat → ClassId) (dI : Nat → Nat → Nat) (G : Nat → ClassId) (sz : Nat) (h0 st N B rp tp T cu lt od th be ln S ma M ah bh ik la lg ce : Nat) (what vrs vrb vhs vca vxs vxb vfa vbr vba vsp vhe vtk vva vto : Int32) (fst : Nat → Int32) (fod : Nat → Int64) (fth : Nat → Int64) (hN : N ≤ 10) (hB : B ≤ 6) (hT : T ≤ 320) (hS0 : S ≤ 8) (hM : M ≤ 6) (hst : OKS fst) : Met l yX11_wakes (Cond.code yX11_wakes cX11_wakes 2 (some .long) :: GT) ({ frames := 4, cells := 0, slots := 0, locals := 99 } : Room) (PcW [.ref h0, .int what] dC dI G [(h0, .inr (11, [.ref st, .int (nI N), .int (nI B), .ref rp, .int vrs, .int vrb, .int vhs, .int vca, .int vxs, .int vxb, .ref tp, .int (nI T), .int vfa, .int vbr, .int vba, .int vsp, .int vhe, .int vtk, .int vva, .ref cu, .ref lt, .ref od, .ref th, .ref be, .ref ln, .int (nI S), .ref ma, .int (nI M), .ref ah, .ref bh, .ref ik, .ref la, .ref lg, .ref ce, .int vto])), (st, .inl (G 0, 196, .inl fst)), (od, .inl (G 1, 10, .inr (.inl fod))), (th, .inl (G 1, 10, .inr (.inl fth)))] sz) (va_Ql (fun (r : Int64) (u : (Nat → Int64) × (Nat → Int64)) => match u with | (ood, oth) => (True) ∧ True) (fun (u : (Nat → Int64) × (Nat → Int64)) (t : State) => match u with | (ood, oth) => va_P (dC, dI) vwCl [(h0, .inr (11, [.ref st, .int (nI N), .int (nI B), .ref rp, .int vrs, .int vrb, .int vhs, .int vca, .int vxs, .int vxb, .ref tp, .int (nI T), .int vfa, .int vbr, .int vba, .int vsp, .int vhe, .int vtk, .int vva, .ref cu, .ref lt, .ref od, .ref th, .ref be, .ref ln, .int (nI S), .ref ma, .int (nI M), .ref ah, .ref bh, .ref ik, .ref la, .ref lg, .ref ce, .int vto])), (st, .inl (G 0, 196, .inl fst)), (od, .inl (G 1, 10, .inr (.inl ood))), (th, .inl (G 1, 10, .inr (.inl oth)))] t.heap ∧ va_D (va_A [(h0, .inr (11, [.ref st, .int (nI N), .int (nI B), .ref rp, .int vrs, .int vrb, .int vhs, .int vca, .int vxs, .int vxb, .ref tp, .int (nI T), .int vfa, .int vbr, .int vba, .int vsp, .int vhe, .int vtk, .int vva, .ref cu, .ref lt, .ref od, .ref th, .ref be, .ref ln, .int (nI S), .ref ma, .int (nI M), .ref ah, .ref bh, .ref ik, .ref la, .ref lg, .ref ce, .int vto])), (st, .inl (G 0, 196, .inl fst)), (od, .inl (G 1, 10, .inr (.inl fod))), (th, .inl (G 1, 10, .inr (.inl fth)))] sz) [(h0, .inr (11, [.ref st, .int (nI N), .int (nI B), .ref rp, .int vrs, .int vrb, .int vhs, .int vca, .int vxs, .int vxb, .ref tp, .int (nI T), .int vfa, .int vbr, .int vba, .int vsp, .int vhe, .int vtk, .int vva, .ref cu, .ref lt, .ref od, .ref th, .ref be, .ref ln, .int (nI S), .ref ma, .int (nI M), .ref ah, .ref bh, .ref ik, .ref la, .ref lg, .ref ce, .int vto])), (st, .inl (G 0, 196, .inl fst)), (od, .inl (G 1, 10, .inr (.inl ood))), (th, .inl (G 1, 10, .inr (.inl oth)))]) (va_A [(h0, .inr (11, [.ref st, .int (nI N), .int (nI B), .ref rp, .int vrs, .int vrb, .int vhs, .int vca, .int vxs, .int vxb, .ref tp, .int (nI T), .int vfa, .int vbr, .int vba, .int vsp, .int vhe, .int vtk, .int vva, .ref cu, .ref lt, .ref od, .ref th, .ref be, .ref ln, .int (nI S), .ref ma, .int (nI M), .ref ah, .ref bh, .ref ik, .ref la, .ref lg, .ref ce, .int vto])), (st, .inl (G 0, 196, .inl fst)), (od, .inl (G 1, 10, .inr (.inl fod))), (th, .inl (G 1, 10, .inr (.inl fth)))] sz)) 0 0 (va_A [(h0, .inr (11, [.ref st, .int (nI N), .int (nI B), .ref rp, .int vrs, .int vrb, .int vhs, .int vca, .int vxs, .int vxb, .ref tp, .int (nI T), .int vfa, .int vbr, .int vba, .int vsp, .int vhe, .int vtk, .int vva, .ref cu, .ref lt, .ref od, .ref th, .ref be, .ref ln, .int (nI S), .ref ma, .int (nI M), .ref ah, .ref bh, .ref ik, .ref la, .ref lg, .ref ce, .int vto])), (st, .inl (G 0, 196, .inl fst)), (od, .inl (G 1, 10, .inr (.inl fod))), (th, .inl (G 1, 10, .inr (.inl fth)))] sz) := by
  refine Met.ofW (cc := cX11_wakes) (maxL := 2) (ret := (some .long)) (by decide) rfl ?_
  intro p e s m args below meth c s₁ Bd hml hv
  obtain ⟨rfl, hsz, hP, hK, hD0⟩ := hv
  have hx := Bd.exec
  have hb := Bd.bytes
  have hr := Bd.returns
  have hg : ∀ w ∈ GT, w.before ([.ref h0, .int what] : List Value).toArray s = true := fun w h => atoms_spec (ws := Cond.code yX11_wakes cX11_wakes 2 (some .long) :: GT) Bd.pre w (List.mem_cons_of_mem _ h)
  have hown : s.vm.findClass RX11 = some m.cls := findClass_of_methodNamed Bd.named
  have hlocks := Bd.notSynchronized
  subst hsz
  have hD := hD0.self (sz := s.heap.size)
  generalize hAe : va_A [(h0, .inr (11, [.ref st, .int (nI N), .int (nI B), .ref rp, .int vrs, .int vrb, .int vhs, .int vca, .int vxs, .int vxb, .ref tp, .int (nI T), .int vfa, .int vbr, .int vba, .int vsp, .int vhe, .int vtk, .int vva, .ref cu, .ref lt, .ref od, .ref th, .ref be, .ref ln, .int (nI S), .ref ma, .int (nI M), .ref ah, .ref bh, .ref ik, .ref la, .ref lg, .ref ce, .int vto])), (st, .inl (G 0, 196, .inl fst)), (od, .inl (G 1, 10, .inr (.inl fod))), (th, .inl (G 1, 10, .inr (.inl fth)))] s.heap.size = A at hD ⊢
  have hA : ∀ q : Nat, s.heap.size ≤ q → A q := fun q h => by rw [← hAe]; exact Or.inr h
  have hS : va_S A s.heap s.heap [] := va_S.rf
  have hl := lv_entry ([.ref h0, .int what]) (n := 2) (Nat.le_of_ble_eq_true rfl)
  rw [lg_entry_eq]
  generalize (lg_sl ([.ref h0, .int what]) ++ List.replicate (2 - (lg_sl ([.ref h0, .int what])).length) Slot.unset).toArray = ls at hl ⊢
  have hl : lv_has ls 2 [(0, .ref h0), (1, .int what)] := hl
  refine lv_iload_n hx hb dX11_wakes_0 rfl (lv_at hl 1 rfl) ?_
  refine lv_i2l (v := what.toInt64) hx hb dX11_wakes_1 rfl ?_
  refine lv_lconst (v := 0) hx hb dX11_wakes_2 (by decide) ?_
  refine lv_lconst (v := 1) hx hb dX11_wakes_3 (by decide) ?_
  have hPc := hP.sub (ws' := []) [] rfl
  refine va_calli (va_runS (As := [.long what.toInt64, .long 0, .long 1]) (rest := []) ⟨hx, hb, hml, hown, hg⟩ (c_X11_in l dC dI G _ what.toInt64 0 1 ) (kwS hg mfX11_in wt_992 ⟨Nat.le_of_ble_eq_true rfl, Nat.le_of_ble_eq_true rfl⟩) (preSR hK hPc) rfl rfl hl.1 rfl (lv_room (Nat.le_of_ble_eq_true rfl)) dX11_wakes_4 ⟨Nat.le_of_ble_eq_true rfl, Nat.le_of_ble_eq_true rfl⟩) hS (fun q h1 h2 => absurd h2 (Nat.not_le.mpr h1)) (fun q h => hA q (Nat.le_trans hS.1 h)) (fun r1 ur1 t H1 locs ht hvm w2 hB hz1 hk1 hS => ?_)
  have hP := keepR hP hk1
  obtain ⟨w2, w2x⟩ := w2
  try simp only [l_ii, show (0 : Int64).toInt = 0 from by decide, show (1 : Int64).toInt = 1 from by decide] at w2
  subst w2
  refine lv_if_ne (tgt := 14) hx hb dX11_wakes_7 (by decide) (fun c3 => ?_) (fun c3 => ?_)
  · skip
    have b4 := if10_p c3
    refine lv_aload_n hx hb dX11_wakes_14 rfl (lv_at hl 0 rfl) ?_
    refine lv_aload_n hx hb dX11_wakes_15 rfl (lv_at hl 0 rfl) ?_
    refine va_get (D := (dC, dI)) (ci := 11) (v := .int (nI N)) (C := RX11) (T := TX11) (N := 35) hx hb hg inG11 hown hK.1 hP 0 rfl rfl 1 (by decide) (hg _ wt_879) (fun _ h9 => h9) rfl dX11_wakes_16 ?_
    refine lv_iconst (v := 0) hx hb dX11_wakes_19 (by decide) ?_
    refine lv_bipush (v := (-4)) hx hb dX11_wakes_20 (by decide) ?_
    have hPc := hP.sub (ws' := [(h0, .inr (11, [.ref st, .int (nI N), .int (nI B), .ref rp, .int vrs, .int vrb, .int vhs, .int vca, .int vxs, .int vxb, .ref tp, .int (nI T), .int vfa, .int vbr, .int vba, .int vsp, .int vhe, .int vtk, .int vva, .ref cu, .ref lt, .ref od, .ref th, .ref be, .ref ln, .int (nI S), .ref ma, .int (nI M), .ref ah, .ref bh, .ref ik, .ref la, .ref lg, .ref ce, .int vto])), (st, .inl (G 0, 196, .inl fst)), (od, .inl (G 1, 10, .inr (.inl fod))), (th, .inl (G 1, 10, .inr (.inl fth)))]) [0, 1, 2, 3] rfl
    have hDc := hD.sub (ws' := [(h0, .inr (11, [.ref st, .int (nI N), .int (nI B), .ref rp, .int vrs, .int vrb, .int vhs, .int vca, .int vxs, .int vxb, .ref tp, .int (nI T), .int vfa, .int vbr, .int vba, .int vsp, .int vhe, .int vtk, .int vva, .ref cu, .ref lt, .ref od, .ref th, .ref be, .ref ln, .int (nI S), .ref ma, .int (nI M), .ref ah, .ref bh, .ref ik, .ref la, .ref lg, .ref ce, .int vto])), (st, .inl (G 0, 196, .inl fst)), (od, .inl (G 1, 10, .inr (.inl fod))), (th, .inl (G 1, 10, .inr (.inl fth)))]) [0, 1, 2, 3] (by decide) rfl
    have hFc := va_free (wc := [(h0, .inr (11, [.ref st, .int (nI N), .int (nI B), .ref rp, .int vrs, .int vrb, .int vhs, .int vca, .int vxs, .int vxb, .ref tp, .int (nI T), .int vfa, .int vbr, .int vba, .int vsp, .int vhe, .int vtk, .int vva, .ref cu, .ref lt, .ref od, .ref th, .ref be, .ref ln, .int (nI S), .ref ma, .int (nI M), .ref ah, .ref bh, .ref ik, .ref la, .ref lg, .ref ce, .int vto])), (st, .inl (G 0, 196, .inl fst)), (od, .inl (G 1, 10, .inr (.inl fod))), (th, .inl (G 1, 10, .inr (.inl fth)))]) hD hS hA [0, 1, 2, 3] rfl
    refine va_callv (va_runV (As := [.int (nI N), .int 0, .int (-4)]) (rest := []) ⟨hx, hb, hml, hown, hg⟩ (c_X11_layOdds l dC dI G _ h0 N st N B rp tp T cu lt od th be ln S ma M ah bh ik la lg ce 0 (-4) vrs vrb vhs vca vxs vxb vfa vbr vba vsp vhe vtk vva vto fst fod fth (by have t_b4 := b4; have t_n0 : (nI N).toInt = (N : Int) := nI_toInt (by omega); have t_n1 : (nI B).toInt = (B : Int) := nI_toInt (by omega); have t_n2 : (nI T).toInt = (T : Int) := nI_toInt (by omega); have t_n3 : (nI S).toInt = (S : Int) := nI_toInt (by omega); have t_n4 : (nI M).toInt = (M : Int) := nI_toInt (by omega); omega) (by have t_b4 := b4; have t_n0 : (nI N).toInt = (N : Int) := nI_toInt (by omega); have t_n1 : (nI B).toInt = (B : Int) := nI_toInt (by omega); have t_n2 : (nI T).toInt = (T : Int) := nI_toInt (by omega); have t_n3 : (nI S).toInt = (S : Int) := nI_toInt (by omega); have t_n4 : (nI M).toInt = (M : Int) := nI_toInt (by omega); omega) (by have t_b4 := b4; have t_n0 : (nI N).toInt = (N : Int) := nI_toInt (by omega); have t_n1 : (nI B).toInt = (B : Int) := nI_toInt (by omega); have t_n2 : (nI T).toInt = (T : Int) := nI_toInt (by omega); have t_n3 : (nI S).toInt = (S : Int) := nI_toInt (by omega); have t_n4 : (nI M).toInt = (M : Int) := nI_toInt (by omega); omega) (by have t_b4 := b4; have t_n0 : (nI N).toInt = (N : Int) := nI_toInt (by omega); have t_n1 : (nI B).toInt = (B : Int) := nI_toInt (by omega); have t_n2 : (nI T).toInt = (T : Int) := nI_toInt (by omega); have t_n3 : (nI S).toInt = (S : Int) := nI_toInt (by omega); have t_n4 : (nI M).toInt = (M : Int) := nI_toInt (by omega); omega) (by have t_b4 := b4; have t_n0 : (nI N).toInt = (N : Int) := nI_toInt (by omega); have t_n1 : (nI B).toInt = (B : Int) := nI_toInt (by omega); have t_n2 : (nI T).toInt = (T : Int) := nI_toInt (by omega); have t_n3 : (nI S).toInt = (S : Int) := nI_toInt (by omega); have t_n4 : (nI M).toInt = (M : Int) := nI_toInt (by omega); omega) hst (by have t_b4 := b4; have t_n0 : (nI N).toInt = (N : Int) := nI_toInt (by omega); have t_n1 : (nI B).toInt = (B : Int) := nI_toInt (by omega); have t_n2 : (nI T).toInt = (T : Int) := nI_toInt (by omega); have t_n3 : (nI S).toInt = (S : Int) := nI_toInt (by omega); have t_n4 : (nI M).toInt = (M : Int) := nI_toInt (by omega); omega)) (kwV hg mfX11_layOdds wt_1119 ⟨Nat.le_of_ble_eq_true rfl, Nat.le_of_ble_eq_true rfl⟩) (preVW hK hPc hDc (ci := 11) rfl rfl) rfl rfl hl.1 rfl (lv_room (Nat.le_of_ble_eq_true rfl)) dX11_wakes_22 ⟨Nat.le_of_ble_eq_true rfl, Nat.le_of_ble_eq_true rfl⟩) hS (fun q _ h => hFc q h) hFc (fun ur5 t H1 locs ht hvm w6 hB hz1 hk1 hS => ?_)
    obtain ⟨u7, u8⟩ := ur5
    obtain ⟨hP1, hD1⟩ := hB
    rw [ht] at hP1
    obtain ⟨hP, hD⟩ := va_join (wr := []) (w1 := [(h0, .inr (11, [.ref st, .int (nI N), .int (nI B), .ref rp, .int vrs, .int vrb, .int vhs, .int vca, .int vxs, .int vxb, .ref tp, .int (nI T), .int vfa, .int vbr, .int vba, .int vsp, .int vhe, .int vtk, .int vva, .ref cu, .ref lt, .ref od, .ref th, .ref be, .ref ln, .int (nI S), .ref ma, .int (nI M), .ref ah, .ref bh, .ref ik, .ref la, .ref lg, .ref ce, .int vto])), (st, .inl (G 0, 196, .inl fst)), (od, .inl (G 1, 10, .inr (.inl u7))), (th, .inl (G 1, 10, .inr (.inl u8)))]) hP hD [0, 1, 2, 3] [] rfl rfl (by decide) (by decide) hk1 hFc hP1 hD1
    generalize H1 = H at hP hS ⊢
    have hP : va_P (dC, dI) vwCl [(h0, .inr (11, [.ref st, .int (nI N), .int (nI B), .ref rp, .int vrs, .int vrb, .int vhs, .int vca, .int vxs, .int vxb, .ref tp, .int (nI T), .int vfa, .int vbr, .int vba, .int vsp, .int vhe, .int vtk, .int vva, .ref cu, .ref lt, .ref od, .ref th, .ref be, .ref ln, .int (nI S), .ref ma, .int (nI M), .ref ah, .ref bh, .ref ik, .ref la, .ref lg, .ref ce, .int vto])), (st, .inl (G 0, 196, .inl fst)), (od, .inl (G 1, 10, .inr (.inl u7))), (th, .inl (G 1, 10, .inr (.inl u8)))] H := hP
    have hD : va_D A [(h0, .inr (11, [.ref st, .int (nI N), .int (nI B), .ref rp, .int vrs, .int vrb, .int vhs, .int vca, .int vxs, .int vxb, .ref tp, .int (nI T), .int vfa, .int vbr, .int vba, .int vsp, .int vhe, .int vtk, .int vva, .ref cu, .ref lt, .ref od, .ref th, .ref be, .ref ln, .int (nI S), .ref ma, .int (nI M), .ref ah, .ref bh, .ref ik, .ref la, .ref lg, .ref ce, .int vto])), (st, .inl (G 0, 196, .inl fst)), (od, .inl (G 1, 10, .inr (.inl u7))), (th, .inl (G 1, 10, .inr (.inl u8)))] := hD
    refine lv_aload_n hx hb dX11_wakes_25 rfl (lv_at hl 0 rfl) ?_
    refine va_get (D := (dC, dI)) (ci := 11) (v := .ref od) (C := RX11) (T := TX11) (N := 35) hx hb hg inG11 hown hK.1 hP 0 rfl rfl 21 (by decide) (hg _ wt_899) (fun _ h9 => h9) rfl dX11_wakes_26 ?_
    refine lv_iconst (v := 0) hx hb dX11_wakes_29 (by decide) ?_
    refine va_lald hx hb hK.1 hP 2 1 rfl rfl (vp_in_iff.mpr ⟨by decide, by decide⟩) dX11_wakes_30 ?_
    refine lv_cgl (y := u7 0) (by rfl) ?_
    refine lv_aload_n hx hb dX11_wakes_31 rfl (lv_at hl 0 rfl) ?_
    refine va_get (D := (dC, dI)) (ci := 11) (v := .int (nI N)) (C := RX11) (T := TX11) (N := 35) hx hb hg inG11 hown hK.1 hP 0 rfl rfl 1 (by decide) (hg _ wt_879) (fun _ h9 => h9) rfl dX11_wakes_32 ?_
    have hPc := hP.sub (ws' := []) [] rfl
    refine va_calll (va_runS (As := [.int (nI N)]) (rest := [.long (u7 0)]) ⟨hx, hb, hml, hown, hg⟩ (c_X11_power l dC dI G _ N (by have t_b4 := b4; have t_n0 : (nI N).toInt = (N : Int) := nI_toInt (by omega); have t_n1 : (nI B).toInt = (B : Int) := nI_toInt (by omega); have t_n2 : (nI T).toInt = (T : Int) := nI_toInt (by omega); have t_n3 : (nI S).toInt = (S : Int) := nI_toInt (by omega); have t_n4 : (nI M).toInt = (M : Int) := nI_toInt (by omega); omega)) (kwS hg mfX11_power wt_1131 ⟨Nat.le_of_ble_eq_true rfl, Nat.le_of_ble_eq_true rfl⟩) (preSR hK hPc) rfl rfl hl.1 rfl (lv_room (Nat.le_of_ble_eq_true rfl)) dX11_wakes_35 ⟨Nat.le_of_ble_eq_true rfl, Nat.le_of_ble_eq_true rfl⟩) hS (fun q h1 h2 => absurd h2 (Nat.not_le.mpr h1)) (fun q h => hA q (Nat.le_trans hS.1 h)) (fun r9 ur9 t H1 locs ht hvm w10 hB hz1 hk1 hS => ?_)
    have hP := keepR hP hk1
    obtain ⟨w10, w10x⟩ := w10
    subst w10
    refine lv_iload_n hx hb dX11_wakes_38 rfl (lv_at hl 1 rfl) ?_
    have hPc := hP.sub (ws' := []) [] rfl
    refine va_calll (va_runS (As := [.long (u7 0), .long (powF N), .int what]) (rest := []) ⟨hx, hb, hml, hown, hg⟩ (c_X11_lowest l dC dI G _ what (u7 0) (powF N) (powF_ne (by have t_b4 := b4; have t_n0 : (nI N).toInt = (N : Int) := nI_toInt (by omega); have t_n1 : (nI B).toInt = (B : Int) := nI_toInt (by omega); have t_n2 : (nI T).toInt = (T : Int) := nI_toInt (by omega); have t_n3 : (nI S).toInt = (S : Int) := nI_toInt (by omega); have t_n4 : (nI M).toInt = (M : Int) := nI_toInt (by omega); omega))) (kwS hg mfX11_lowest wt_1134 ⟨Nat.le_of_ble_eq_true rfl, Nat.le_of_ble_eq_true rfl⟩) (preSR hK hPc) rfl rfl hl.1 rfl (lv_room (Nat.le_of_ble_eq_true rfl)) dX11_wakes_39 ⟨Nat.le_of_ble_eq_true rfl, Nat.le_of_ble_eq_true rfl⟩) hS (fun q h1 h2 => absurd h2 (Nat.not_le.mpr h1)) (fun q h => hA q (Nat.le_trans hS.1 h)) (fun r11 ur11 t H1 locs ht hvm w12 hB hz1 hk1 hS => ?_)
    have hP := keepR hP hk1
    obtain ⟨w12, w12x⟩ := w12
    have hpost : True := by
      trivial
    have hP9 := hP.sub (ws' := [(h0, .inr (11, [.ref st, .int (nI N), .int (nI B), .ref rp, .int vrs, .int vrb, .int vhs, .int vca, .int vxs, .int vxb, .ref tp, .int (nI T), .int vfa, .int vbr, .int vba, .int vsp, .int vhe, .int vtk, .int vva, .ref cu, .ref lt, .ref od, .ref th, .ref be, .ref ln, .int (nI S), .ref ma, .int (nI M), .ref ah, .ref bh, .ref ik, .ref la, .ref lg, .ref ce, .int vto])), (st, .inl (G 0, 196, .inl fst)), (od, .inl (G 1, 10, .inr (.inl u7))), (th, .inl (G 1, 10, .inr (.inl u8)))]) [0, 1, 2, 3] rfl
    have hD9 := hD.sub (ws' := [(h0, .inr (11, [.ref st, .int (nI N), .int (nI B), .ref rp, .int vrs, .int vrb, .int vhs, .int vca, .int vxs, .int vxb, .ref tp, .int (nI T), .int vfa, .int vbr, .int vba, .int vsp, .int vhe, .int vtk, .int vva, .ref cu, .ref lt, .ref od, .ref th, .ref be, .ref ln, .int (nI S), .ref ma, .int (nI M), .ref ah, .ref bh, .ref ik, .ref la, .ref lg, .ref ce, .int vto])), (st, .inl (G 0, 196, .inl fst)), (od, .inl (G 1, 10, .inr (.inl u7))), (th, .inl (G 1, 10, .inr (.inl u8)))]) [0, 1, 2, 3] (by decide) rfl
    refine W.widen (k := 0) (n := 0) (by omega) (by omega) ?_
    exact W.lret (v := r11) hx hb hr (fun t ht hW => ⟨⟨r11, (u7, u8), rfl, ⟨hpost, trivial⟩, ⟨by rw [ht]; exact hP9, hD9⟩⟩, hS.F ht⟩) hS.2.2 dX11_wakes_42
  · skip
    have b13 := if10_n c3
    refine lv_ldc2 (v := (-1)) hx hb hown (hg _ wt_1118) dX11_wakes_10 ?_
    have hpost : True := by
      trivial
    have hP9 := hP.sub (ws' := [(h0, .inr (11, [.ref st, .int (nI N), .int (nI B), .ref rp, .int vrs, .int vrb, .int vhs, .int vca, .int vxs, .int vxb, .ref tp, .int (nI T), .int vfa, .int vbr, .int vba, .int vsp, .int vhe, .int vtk, .int vva, .ref cu, .ref lt, .ref od, .ref th, .ref be, .ref ln, .int (nI S), .ref ma, .int (nI M), .ref ah, .ref bh, .ref ik, .ref la, .ref lg, .ref ce, .int vto])), (st, .inl (G 0, 196, .inl fst)), (od, .inl (G 1, 10, .inr (.inl fod))), (th, .inl (G 1, 10, .inr (.inl fth)))]) [0, 1, 2, 3] rfl
    have hD9 := hD.sub (ws' := [(h0, .inr (11, [.ref st, .int (nI N), .int (nI B), .ref rp, .int vrs, .int vrb, .int vhs, .int vca, .int vxs, .int vxb, .ref tp, .int (nI T), .int vfa, .int vbr, .int vba, .int vsp, .int vhe, .int vtk, .int vva, .ref cu, .ref lt, .ref od, .ref th, .ref be, .ref ln, .int (nI S), .ref ma, .int (nI M), .ref ah, .ref bh, .ref ik, .ref la, .ref lg, .ref ce, .int vto])), (st, .inl (G 0, 196, .inl fst)), (od, .inl (G 1, 10, .inr (.inl fod))), (th, .inl (G 1, 10, .inr (.inl fth)))]) [0, 1, 2, 3] (by decide) rfl
    refine W.widen (k := 0) (n := 0) (by omega) (by omega) ?_
    exact W.lret (v := (-1)) hx hb hr (fun t ht hW => ⟨⟨(-1), (fod, fth), rfl, ⟨hpost, trivial⟩, ⟨by rw [ht]; exact hP9, hD9⟩⟩, hS.F ht⟩) hS.2.2 dX11_wakes_13

set_option maxHeartbeats 1000000 in
set_option maxRecDepth 100000 in
theorem c_X11_depth (l : Launch) (dC : Nat → ClassId) (dI : Nat → Nat → Nat) (G : Nat → ClassId) (sz : Nat) (h0 st N B rp tp T cu lt od th be ln S ma M ah bh ik la lg ce : Nat) (i d what vrs vrb vhs vca vxs vxb vfa vbr vba vsp vhe vtk vva vto : Int32) (fst : Nat → Int32) (fod : Nat → Int64) (fth : Nat → Int64) (hN : N ≤ 10) (hB : B ≤ 6) (hT : T ≤ 320) (hS0 : S ≤ 8) (hM : M ≤ 6) (hst : OKS fst) : Met l yX11_depth (Cond.code yX11_depth cX11_depth 4 (some .long) :: GT) ({ frames := 4, cells := 0, slots := 0, locals := 99 } : Room) (PcW [.ref h0, .int i, .int d, .int what] dC dI G [(h0, .inr (11, [.ref st, .int (nI N), .int (nI B), .ref rp, .int vrs, .int vrb, .int vhs, .int vca, .int vxs, .int vxb, .ref tp, .int (nI T), .int vfa, .int vbr, .int vba, .int vsp, .int vhe, .int vtk, .int vva, .ref cu, .ref lt, .ref od, .ref th, .ref be, .ref ln, .int (nI S), .ref ma, .int (nI M), .ref ah, .ref bh, .ref ik, .ref la, .ref lg, .ref ce, .int vto])), (st, .inl (G 0, 196, .inl fst)), (od, .inl (G 1, 10, .inr (.inl fod))), (th, .inl (G 1, 10, .inr (.inl fth)))] sz) (va_Ql (fun (r : Int64) (u : (Nat → Int64) × (Nat → Int64)) => match u with | (ood, oth) => (True) ∧ True) (fun (u : (Nat → Int64) × (Nat → Int64)) (t : State) => match u with | (ood, oth) => va_P (dC, dI) vwCl [(h0, .inr (11, [.ref st, .int (nI N), .int (nI B), .ref rp, .int vrs, .int vrb, .int vhs, .int vca, .int vxs, .int vxb, .ref tp, .int (nI T), .int vfa, .int vbr, .int vba, .int vsp, .int vhe, .int vtk, .int vva, .ref cu, .ref lt, .ref od, .ref th, .ref be, .ref ln, .int (nI S), .ref ma, .int (nI M), .ref ah, .ref bh, .ref ik, .ref la, .ref lg, .ref ce, .int vto])), (st, .inl (G 0, 196, .inl fst)), (od, .inl (G 1, 10, .inr (.inl ood))), (th, .inl (G 1, 10, .inr (.inl oth)))] t.heap ∧ va_D (va_A [(h0, .inr (11, [.ref st, .int (nI N), .int (nI B), .ref rp, .int vrs, .int vrb, .int vhs, .int vca, .int vxs, .int vxb, .ref tp, .int (nI T), .int vfa, .int vbr, .int vba, .int vsp, .int vhe, .int vtk, .int vva, .ref cu, .ref lt, .ref od, .ref th, .ref be, .ref ln, .int (nI S), .ref ma, .int (nI M), .ref ah, .ref bh, .ref ik, .ref la, .ref lg, .ref ce, .int vto])), (st, .inl (G 0, 196, .inl fst)), (od, .inl (G 1, 10, .inr (.inl fod))), (th, .inl (G 1, 10, .inr (.inl fth)))] sz) [(h0, .inr (11, [.ref st, .int (nI N), .int (nI B), .ref rp, .int vrs, .int vrb, .int vhs, .int vca, .int vxs, .int vxb, .ref tp, .int (nI T), .int vfa, .int vbr, .int vba, .int vsp, .int vhe, .int vtk, .int vva, .ref cu, .ref lt, .ref od, .ref th, .ref be, .ref ln, .int (nI S), .ref ma, .int (nI M), .ref ah, .ref bh, .ref ik, .ref la, .ref lg, .ref ce, .int vto])), (st, .inl (G 0, 196, .inl fst)), (od, .inl (G 1, 10, .inr (.inl ood))), (th, .inl (G 1, 10, .inr (.inl oth)))]) (va_A [(h0, .inr (11, [.ref st, .int (nI N), .int (nI B), .ref rp, .int vrs, .int vrb, .int vhs, .int vca, .int vxs, .int vxb, .ref tp, .int (nI T), .int vfa, .int vbr, .int vba, .int vsp, .int vhe, .int vtk, .int vva, .ref cu, .ref lt, .ref od, .ref th, .ref be, .ref ln, .int (nI S), .ref ma, .int (nI M), .ref ah, .ref bh, .ref ik, .ref la, .ref lg, .ref ce, .int vto])), (st, .inl (G 0, 196, .inl fst)), (od, .inl (G 1, 10, .inr (.inl fod))), (th, .inl (G 1, 10, .inr (.inl fth)))] sz)) 0 0 (va_A [(h0, .inr (11, [.ref st, .int (nI N), .int (nI B), .ref rp, .int vrs, .int vrb, .int vhs, .int vca, .int vxs, .int vxb, .ref tp, .int (nI T), .int vfa, .int vbr, .int vba, .int vsp, .int vhe, .int vtk, .int vva, .ref cu, .ref lt, .ref od, .ref th, .ref be, .ref ln, .int (nI S), .ref ma, .int (nI M), .ref ah, .ref bh, .ref ik, .ref la, .ref lg, .ref ce, .int vto])), (st, .inl (G 0, 196, .inl fst)), (od, .inl (G 1, 10, .inr (.inl fod))), (th, .inl (G 1, 10, .inr (.inl fth)))] sz) := by
  refine Met.ofW (cc := cX11_depth) (maxL := 4) (ret := (some .long)) (by decide) rfl ?_
  intro p e s m args below meth c s₁ Bd hml hv
  obtain ⟨rfl, hsz, hP, hK, hD0⟩ := hv
  have hx := Bd.exec
  have hb := Bd.bytes
  have hr := Bd.returns
  have hg : ∀ w ∈ GT, w.before ([.ref h0, .int i, .int d, .int what] : List Value).toArray s = true := fun w h => atoms_spec (ws := Cond.code yX11_depth cX11_depth 4 (some .long) :: GT) Bd.pre w (List.mem_cons_of_mem _ h)
  have hown : s.vm.findClass RX11 = some m.cls := findClass_of_methodNamed Bd.named
  have hlocks := Bd.notSynchronized
  subst hsz
  have hD := hD0.self (sz := s.heap.size)
  generalize hAe : va_A [(h0, .inr (11, [.ref st, .int (nI N), .int (nI B), .ref rp, .int vrs, .int vrb, .int vhs, .int vca, .int vxs, .int vxb, .ref tp, .int (nI T), .int vfa, .int vbr, .int vba, .int vsp, .int vhe, .int vtk, .int vva, .ref cu, .ref lt, .ref od, .ref th, .ref be, .ref ln, .int (nI S), .ref ma, .int (nI M), .ref ah, .ref bh, .ref ik, .ref la, .ref lg, .ref ce, .int vto])), (st, .inl (G 0, 196, .inl fst)), (od, .inl (G 1, 10, .inr (.inl fod))), (th, .inl (G 1, 10, .inr (.inl fth)))] s.heap.size = A at hD ⊢
  have hA : ∀ q : Nat, s.heap.size ≤ q → A q := fun q h => by rw [← hAe]; exact Or.inr h
  have hS : va_S A s.heap s.heap [] := va_S.rf
  have hl := lv_entry ([.ref h0, .int i, .int d, .int what]) (n := 4) (Nat.le_of_ble_eq_true rfl)
  rw [lg_entry_eq]
  generalize (lg_sl ([.ref h0, .int i, .int d, .int what]) ++ List.replicate (4 - (lg_sl ([.ref h0, .int i, .int d, .int what])).length) Slot.unset).toArray = ls at hl ⊢
  have hl : lv_has ls 4 [(0, .ref h0), (1, .int i), (2, .int d), (3, .int what)] := hl
  refine lv_aload_n hx hb dX11_depth_0 rfl (lv_at hl 0 rfl) ?_
  refine lv_iload_n hx hb dX11_depth_1 rfl (lv_at hl 1 rfl) ?_
  have hPc := hP.sub (ws' := [(h0, .inr (11, [.ref st, .int (nI N), .int (nI B), .ref rp, .int vrs, .int vrb, .int vhs, .int vca, .int vxs, .int vxb, .ref tp, .int (nI T), .int vfa, .int vbr, .int vba, .int vsp, .int vhe, .int vtk, .int vva, .ref cu, .ref lt, .ref od, .ref th, .ref be, .ref ln, .int (nI S), .ref ma, .int (nI M), .ref ah, .ref bh, .ref ik, .ref la, .ref lg, .ref ce, .int vto]))]) [0] rfl
  refine va_calli (va_runV (As := [.int i]) (rest := []) ⟨hx, hb, hml, hown, hg⟩ (c_X11_isStretch l dC dI G _ h0 st N B rp tp T cu lt od th be ln S ma M ah bh ik la lg ce i vrs vrb vhs vca vxs vxb vfa vbr vba vsp vhe vtk vva vto (by have t_n0 : (nI N).toInt = (N : Int) := nI_toInt (by omega); have t_n1 : (nI B).toInt = (B : Int) := nI_toInt (by omega); have t_n2 : (nI T).toInt = (T : Int) := nI_toInt (by omega); have t_n3 : (nI S).toInt = (S : Int) := nI_toInt (by omega); have t_n4 : (nI M).toInt = (M : Int) := nI_toInt (by omega); omega) (by have t_n0 : (nI N).toInt = (N : Int) := nI_toInt (by omega); have t_n1 : (nI B).toInt = (B : Int) := nI_toInt (by omega); have t_n2 : (nI T).toInt = (T : Int) := nI_toInt (by omega); have t_n3 : (nI S).toInt = (S : Int) := nI_toInt (by omega); have t_n4 : (nI M).toInt = (M : Int) := nI_toInt (by omega); omega) (by have t_n0 : (nI N).toInt = (N : Int) := nI_toInt (by omega); have t_n1 : (nI B).toInt = (B : Int) := nI_toInt (by omega); have t_n2 : (nI T).toInt = (T : Int) := nI_toInt (by omega); have t_n3 : (nI S).toInt = (S : Int) := nI_toInt (by omega); have t_n4 : (nI M).toInt = (M : Int) := nI_toInt (by omega); omega) (by have t_n0 : (nI N).toInt = (N : Int) := nI_toInt (by omega); have t_n1 : (nI B).toInt = (B : Int) := nI_toInt (by omega); have t_n2 : (nI T).toInt = (T : Int) := nI_toInt (by omega); have t_n3 : (nI S).toInt = (S : Int) := nI_toInt (by omega); have t_n4 : (nI M).toInt = (M : Int) := nI_toInt (by omega); omega) (by have t_n0 : (nI N).toInt = (N : Int) := nI_toInt (by omega); have t_n1 : (nI B).toInt = (B : Int) := nI_toInt (by omega); have t_n2 : (nI T).toInt = (T : Int) := nI_toInt (by omega); have t_n3 : (nI S).toInt = (S : Int) := nI_toInt (by omega); have t_n4 : (nI M).toInt = (M : Int) := nI_toInt (by omega); omega)) (kwV hg mfX11_isStretch wt_1052 ⟨Nat.le_of_ble_eq_true rfl, Nat.le_of_ble_eq_true rfl⟩) (preVR hK hPc (ci := 11) rfl rfl) rfl rfl hl.1 rfl (lv_room (Nat.le_of_ble_eq_true rfl)) dX11_depth_2 ⟨Nat.le_of_ble_eq_true rfl, Nat.le_of_ble_eq_true rfl⟩) hS (fun q h1 h2 => absurd h2 (Nat.not_le.mpr h1)) (fun q h => hA q (Nat.le_trans hS.1 h)) (fun r1 ur1 t H1 locs ht hvm w2 hB hz1 hk1 hS => ?_)
  have hP := keepR hP hk1
  obtain ⟨w2, w2x⟩ := w2
  try simp only [l_ii, show (0 : Int32).toInt = 0 from by decide] at w2
  try rw [nI_toInt (n := N) (by omega)] at w2
  subst w2
  refine lv_if_eq (tgt := 30) hx hb dX11_depth_5 (by decide) (fun c3 => ?_) (fun c3 => ?_)
  · skip
    have b4 := if10_n c3
    refine lv_ldc2 (v := (-1)) hx hb hown (hg _ wt_1118) dX11_depth_30 ?_
    have hpost : True := by
      trivial
    have hP9 := hP.sub (ws' := [(h0, .inr (11, [.ref st, .int (nI N), .int (nI B), .ref rp, .int vrs, .int vrb, .int vhs, .int vca, .int vxs, .int vxb, .ref tp, .int (nI T), .int vfa, .int vbr, .int vba, .int vsp, .int vhe, .int vtk, .int vva, .ref cu, .ref lt, .ref od, .ref th, .ref be, .ref ln, .int (nI S), .ref ma, .int (nI M), .ref ah, .ref bh, .ref ik, .ref la, .ref lg, .ref ce, .int vto])), (st, .inl (G 0, 196, .inl fst)), (od, .inl (G 1, 10, .inr (.inl fod))), (th, .inl (G 1, 10, .inr (.inl fth)))]) [0, 1, 2, 3] rfl
    have hD9 := hD.sub (ws' := [(h0, .inr (11, [.ref st, .int (nI N), .int (nI B), .ref rp, .int vrs, .int vrb, .int vhs, .int vca, .int vxs, .int vxb, .ref tp, .int (nI T), .int vfa, .int vbr, .int vba, .int vsp, .int vhe, .int vtk, .int vva, .ref cu, .ref lt, .ref od, .ref th, .ref be, .ref ln, .int (nI S), .ref ma, .int (nI M), .ref ah, .ref bh, .ref ik, .ref la, .ref lg, .ref ce, .int vto])), (st, .inl (G 0, 196, .inl fst)), (od, .inl (G 1, 10, .inr (.inl fod))), (th, .inl (G 1, 10, .inr (.inl fth)))]) [0, 1, 2, 3] (by decide) rfl
    refine W.widen (k := 0) (n := 0) (by omega) (by omega) ?_
    exact W.lret (v := (-1)) hx hb hr (fun t ht hW => ⟨⟨(-1), (fod, fth), rfl, ⟨hpost, trivial⟩, ⟨by rw [ht]; exact hP9, hD9⟩⟩, hS.F ht⟩) hS.2.2 dX11_depth_33
  · skip
    have b5 := if10_p c3
    refine lv_iload_n hx hb dX11_depth_8 rfl (lv_at hl 2 rfl) ?_
    refine lv_i2l (v := d.toInt64) hx hb dX11_depth_9 rfl ?_
    refine lv_lconst (v := 0) hx hb dX11_depth_10 (by decide) ?_
    refine lv_ldc2 (v := 9) hx hb hown (hg _ wt_1069) dX11_depth_11 ?_
    have hPc := hP.sub (ws' := []) [] rfl
    refine va_calli (va_runS (As := [.long d.toInt64, .long 0, .long 9]) (rest := []) ⟨hx, hb, hml, hown, hg⟩ (c_X11_in l dC dI G _ d.toInt64 0 9 ) (kwS hg mfX11_in wt_992 ⟨Nat.le_of_ble_eq_true rfl, Nat.le_of_ble_eq_true rfl⟩) (preSR hK hPc) rfl rfl hl.1 rfl (lv_room (Nat.le_of_ble_eq_true rfl)) dX11_depth_14 ⟨Nat.le_of_ble_eq_true rfl, Nat.le_of_ble_eq_true rfl⟩) hS (fun q h1 h2 => absurd h2 (Nat.not_le.mpr h1)) (fun q h => hA q (Nat.le_trans hS.1 h)) (fun r6 ur6 t H1 locs ht hvm w7 hB hz1 hk1 hS => ?_)
    have hP := keepR hP hk1
    obtain ⟨w7, w7x⟩ := w7
    try simp only [l_ii, show (0 : Int64).toInt = 0 from by decide, show (9 : Int64).toInt = 9 from by decide] at w7
    subst w7
    refine lv_if_eq (tgt := 30) hx hb dX11_depth_17 (by decide) (fun c8 => ?_) (fun c8 => ?_)
    · skip
      have b9 := if10_n c8
      refine lv_ldc2 (v := (-1)) hx hb hown (hg _ wt_1118) dX11_depth_30 ?_
      have hpost : True := by
        trivial
      have hP9 := hP.sub (ws' := [(h0, .inr (11, [.ref st, .int (nI N), .int (nI B), .ref rp, .int vrs, .int vrb, .int vhs, .int vca, .int vxs, .int vxb, .ref tp, .int (nI T), .int vfa, .int vbr, .int vba, .int vsp, .int vhe, .int vtk, .int vva, .ref cu, .ref lt, .ref od, .ref th, .ref be, .ref ln, .int (nI S), .ref ma, .int (nI M), .ref ah, .ref bh, .ref ik, .ref la, .ref lg, .ref ce, .int vto])), (st, .inl (G 0, 196, .inl fst)), (od, .inl (G 1, 10, .inr (.inl fod))), (th, .inl (G 1, 10, .inr (.inl fth)))]) [0, 1, 2, 3] rfl
      have hD9 := hD.sub (ws' := [(h0, .inr (11, [.ref st, .int (nI N), .int (nI B), .ref rp, .int vrs, .int vrb, .int vhs, .int vca, .int vxs, .int vxb, .ref tp, .int (nI T), .int vfa, .int vbr, .int vba, .int vsp, .int vhe, .int vtk, .int vva, .ref cu, .ref lt, .ref od, .ref th, .ref be, .ref ln, .int (nI S), .ref ma, .int (nI M), .ref ah, .ref bh, .ref ik, .ref la, .ref lg, .ref ce, .int vto])), (st, .inl (G 0, 196, .inl fst)), (od, .inl (G 1, 10, .inr (.inl fod))), (th, .inl (G 1, 10, .inr (.inl fth)))]) [0, 1, 2, 3] (by decide) rfl
      refine W.widen (k := 0) (n := 0) (by omega) (by omega) ?_
      exact W.lret (v := (-1)) hx hb hr (fun t ht hW => ⟨⟨(-1), (fod, fth), rfl, ⟨hpost, trivial⟩, ⟨by rw [ht]; exact hP9, hD9⟩⟩, hS.F ht⟩) hS.2.2 dX11_depth_33
    · skip
      have b10 := if10_p c8
      refine lv_iload_n hx hb dX11_depth_20 rfl (lv_at hl 3 rfl) ?_
      refine lv_i2l (v := what.toInt64) hx hb dX11_depth_21 rfl ?_
      refine lv_lconst (v := 0) hx hb dX11_depth_22 (by decide) ?_
      refine lv_lconst (v := 1) hx hb dX11_depth_23 (by decide) ?_
      have hPc := hP.sub (ws' := []) [] rfl
      refine va_calli (va_runS (As := [.long what.toInt64, .long 0, .long 1]) (rest := []) ⟨hx, hb, hml, hown, hg⟩ (c_X11_in l dC dI G _ what.toInt64 0 1 ) (kwS hg mfX11_in wt_992 ⟨Nat.le_of_ble_eq_true rfl, Nat.le_of_ble_eq_true rfl⟩) (preSR hK hPc) rfl rfl hl.1 rfl (lv_room (Nat.le_of_ble_eq_true rfl)) dX11_depth_24 ⟨Nat.le_of_ble_eq_true rfl, Nat.le_of_ble_eq_true rfl⟩) hS (fun q h1 h2 => absurd h2 (Nat.not_le.mpr h1)) (fun q h => hA q (Nat.le_trans hS.1 h)) (fun r11 ur11 t H1 locs ht hvm w12 hB hz1 hk1 hS => ?_)
      have hP := keepR hP hk1
      obtain ⟨w12, w12x⟩ := w12
      try simp only [l_ii, show (0 : Int64).toInt = 0 from by decide, show (1 : Int64).toInt = 1 from by decide] at w12
      subst w12
      refine lv_if_ne (tgt := 34) hx hb dX11_depth_27 (by decide) (fun c13 => ?_) (fun c13 => ?_)
      · skip
        have b14 := if10_p c13
        obtain ⟨ii, hii, rfl⟩ : ∃ j : Nat, j < 10 ∧ i = nI j := by
          have t_b5 := b5
          have t_b10 := b10
          have t_b14 := b14
          have t_n0 : (nI N).toInt = (N : Int) := nI_toInt (by omega)
          have t_n1 : (nI B).toInt = (B : Int) := nI_toInt (by omega)
          have t_n2 : (nI T).toInt = (T : Int) := nI_toInt (by omega)
          have t_n3 : (nI S).toInt = (S : Int) := nI_toInt (by omega)
          have t_n4 : (nI M).toInt = (M : Int) := nI_toInt (by omega)
          exact i32_nat (by omega) (by omega)
        obtain ⟨dd, hdd, rfl⟩ : ∃ j : Nat, j < 10 ∧ d = nI j := by
          have t_b5 := b5
          have t_b10 := b10
          have t_b14 := b14
          have t_hii := hii
          have t_n0 : (nI N).toInt = (N : Int) := nI_toInt (by omega)
          have t_n1 : (nI B).toInt = (B : Int) := nI_toInt (by omega)
          have t_n2 : (nI T).toInt = (T : Int) := nI_toInt (by omega)
          have t_n3 : (nI S).toInt = (S : Int) := nI_toInt (by omega)
          have t_n4 : (nI M).toInt = (M : Int) := nI_toInt (by omega)
          have t_n5 : (nI ii).toInt = (ii : Int) := nI_toInt (by omega)
          exact i32_nat (by omega) (by omega)
        refine lv_aload_n hx hb dX11_depth_34 rfl (lv_at hl 0 rfl) ?_
        refine lv_iload_n hx hb dX11_depth_35 rfl (lv_at hl 1 rfl) ?_
        refine lv_iconst (v := 1) hx hb dX11_depth_36 (by decide) ?_
        refine lv_iadd hx hb dX11_depth_37 ?_
        refine lv_cg (y := nI (ii + 1)) (by rw [show (1 : Int32) = nI 1 from rfl]; exact nI_add _ _) ?_
        refine lv_iconst (v := 0) hx hb dX11_depth_38 (by decide) ?_
        refine lv_bipush (v := (-4)) hx hb dX11_depth_39 (by decide) ?_
        have hPc := hP.sub (ws' := [(h0, .inr (11, [.ref st, .int (nI N), .int (nI B), .ref rp, .int vrs, .int vrb, .int vhs, .int vca, .int vxs, .int vxb, .ref tp, .int (nI T), .int vfa, .int vbr, .int vba, .int vsp, .int vhe, .int vtk, .int vva, .ref cu, .ref lt, .ref od, .ref th, .ref be, .ref ln, .int (nI S), .ref ma, .int (nI M), .ref ah, .ref bh, .ref ik, .ref la, .ref lg, .ref ce, .int vto])), (st, .inl (G 0, 196, .inl fst)), (od, .inl (G 1, 10, .inr (.inl fod))), (th, .inl (G 1, 10, .inr (.inl fth)))]) [0, 1, 2, 3] rfl
        have hDc := hD.sub (ws' := [(h0, .inr (11, [.ref st, .int (nI N), .int (nI B), .ref rp, .int vrs, .int vrb, .int vhs, .int vca, .int vxs, .int vxb, .ref tp, .int (nI T), .int vfa, .int vbr, .int vba, .int vsp, .int vhe, .int vtk, .int vva, .ref cu, .ref lt, .ref od, .ref th, .ref be, .ref ln, .int (nI S), .ref ma, .int (nI M), .ref ah, .ref bh, .ref ik, .ref la, .ref lg, .ref ce, .int vto])), (st, .inl (G 0, 196, .inl fst)), (od, .inl (G 1, 10, .inr (.inl fod))), (th, .inl (G 1, 10, .inr (.inl fth)))]) [0, 1, 2, 3] (by decide) rfl
        have hFc := va_free (wc := [(h0, .inr (11, [.ref st, .int (nI N), .int (nI B), .ref rp, .int vrs, .int vrb, .int vhs, .int vca, .int vxs, .int vxb, .ref tp, .int (nI T), .int vfa, .int vbr, .int vba, .int vsp, .int vhe, .int vtk, .int vva, .ref cu, .ref lt, .ref od, .ref th, .ref be, .ref ln, .int (nI S), .ref ma, .int (nI M), .ref ah, .ref bh, .ref ik, .ref la, .ref lg, .ref ce, .int vto])), (st, .inl (G 0, 196, .inl fst)), (od, .inl (G 1, 10, .inr (.inl fod))), (th, .inl (G 1, 10, .inr (.inl fth)))]) hD hS hA [0, 1, 2, 3] rfl
        refine va_callv (va_runV (As := [.int (nI (ii + 1)), .int 0, .int (-4)]) (rest := []) ⟨hx, hb, hml, hown, hg⟩ (c_X11_layOdds l dC dI G _ h0 (ii + 1) st N B rp tp T cu lt od th be ln S ma M ah bh ik la lg ce 0 (-4) vrs vrb vhs vca vxs vxb vfa vbr vba vsp vhe vtk vva vto fst fod fth (by have t_b5 := b5; have t_b10 := b10; have t_b14 := b14; have t_hii := hii; have t_hdd := hdd; have t_n0 : (nI N).toInt = (N : Int) := nI_toInt (by omega); have t_n1 : (nI B).toInt = (B : Int) := nI_toInt (by omega); have t_n2 : (nI T).toInt = (T : Int) := nI_toInt (by omega); have t_n3 : (nI S).toInt = (S : Int) := nI_toInt (by omega); have t_n4 : (nI M).toInt = (M : Int) := nI_toInt (by omega); have t_n5 : (nI ii).toInt = (ii : Int) := nI_toInt (by omega); have t_n6 : (nI dd).toInt = (dd : Int) := nI_toInt (by omega); omega) (by have t_b5 := b5; have t_b10 := b10; have t_b14 := b14; have t_hii := hii; have t_hdd := hdd; have t_n0 : (nI N).toInt = (N : Int) := nI_toInt (by omega); have t_n1 : (nI B).toInt = (B : Int) := nI_toInt (by omega); have t_n2 : (nI T).toInt = (T : Int) := nI_toInt (by omega); have t_n3 : (nI S).toInt = (S : Int) := nI_toInt (by omega); have t_n4 : (nI M).toInt = (M : Int) := nI_toInt (by omega); have t_n5 : (nI ii).toInt = (ii : Int) := nI_toInt (by omega); have t_n6 : (nI dd).toInt = (dd : Int) := nI_toInt (by omega); omega) (by have t_b5 := b5; have t_b10 := b10; have t_b14 := b14; have t_hii := hii; have t_hdd := hdd; have t_n0 : (nI N).toInt = (N : Int) := nI_toInt (by omega); have t_n1 : (nI B).toInt = (B : Int) := nI_toInt (by omega); have t_n2 : (nI T).toInt = (T : Int) := nI_toInt (by omega); have t_n3 : (nI S).toInt = (S : Int) := nI_toInt (by omega); have t_n4 : (nI M).toInt = (M : Int) := nI_toInt (by omega); have t_n5 : (nI ii).toInt = (ii : Int) := nI_toInt (by omega); have t_n6 : (nI dd).toInt = (dd : Int) := nI_toInt (by omega); omega) (by have t_b5 := b5; have t_b10 := b10; have t_b14 := b14; have t_hii := hii; have t_hdd := hdd; have t_n0 : (nI N).toInt = (N : Int) := nI_toInt (by omega); have t_n1 : (nI B).toInt = (B : Int) := nI_toInt (by omega); have t_n2 : (nI T).toInt = (T : Int) := nI_toInt (by omega); have t_n3 : (nI S).toInt = (S : Int) := nI_toInt (by omega); have t_n4 : (nI M).toInt = (M : Int) := nI_toInt (by omega); have t_n5 : (nI ii).toInt = (ii : Int) := nI_toInt (by omega); have t_n6 : (nI dd).toInt = (dd : Int) := nI_toInt (by omega); omega) (by have t_b5 := b5; have t_b10 := b10; have t_b14 := b14; have t_hii := hii; have t_hdd := hdd; have t_n0 : (nI N).toInt = (N : Int) := nI_toInt (by omega); have t_n1 : (nI B).toInt = (B : Int) := nI_toInt (by omega); have t_n2 : (nI T).toInt = (T : Int) := nI_toInt (by omega); have t_n3 : (nI S).toInt = (S : Int) := nI_toInt (by omega); have t_n4 : (nI M).toInt = (M : Int) := nI_toInt (by omega); have t_n5 : (nI ii).toInt = (ii : Int) := nI_toInt (by omega); have t_n6 : (nI dd).toInt = (dd : Int) := nI_toInt (by omega); omega) hst (by have t_b5 := b5; have t_b10 := b10; have t_b14 := b14; have t_hii := hii; have t_hdd := hdd; have t_n0 : (nI N).toInt = (N : Int) := nI_toInt (by omega); have t_n1 : (nI B).toInt = (B : Int) := nI_toInt (by omega); have t_n2 : (nI T).toInt = (T : Int) := nI_toInt (by omega); have t_n3 : (nI S).toInt = (S : Int) := nI_toInt (by omega); have t_n4 : (nI M).toInt = (M : Int) := nI_toInt (by omega); have t_n5 : (nI ii).toInt = (ii : Int) := nI_toInt (by omega); have t_n6 : (nI dd).toInt = (dd : Int) := nI_toInt (by omega); omega)) (kwV hg mfX11_layOdds wt_1119 ⟨Nat.le_of_ble_eq_true rfl, Nat.le_of_ble_eq_true rfl⟩) (preVW hK hPc hDc (ci := 11) rfl rfl) rfl rfl hl.1 rfl (lv_room (Nat.le_of_ble_eq_true rfl)) dX11_depth_41 ⟨Nat.le_of_ble_eq_true rfl, Nat.le_of_ble_eq_true rfl⟩) hS (fun q _ h => hFc q h) hFc (fun ur15 t H1 locs ht hvm w16 hB hz1 hk1 hS => ?_)
        obtain ⟨u17, u18⟩ := ur15
        obtain ⟨hP1, hD1⟩ := hB
        rw [ht] at hP1
        obtain ⟨hP, hD⟩ := va_join (wr := []) (w1 := [(h0, .inr (11, [.ref st, .int (nI N), .int (nI B), .ref rp, .int vrs, .int vrb, .int vhs, .int vca, .int vxs, .int vxb, .ref tp, .int (nI T), .int vfa, .int vbr, .int vba, .int vsp, .int vhe, .int vtk, .int vva, .ref cu, .ref lt, .ref od, .ref th, .ref be, .ref ln, .int (nI S), .ref ma, .int (nI M), .ref ah, .ref bh, .ref ik, .ref la, .ref lg, .ref ce, .int vto])), (st, .inl (G 0, 196, .inl fst)), (od, .inl (G 1, 10, .inr (.inl u17))), (th, .inl (G 1, 10, .inr (.inl u18)))]) hP hD [0, 1, 2, 3] [] rfl rfl (by decide) (by decide) hk1 hFc hP1 hD1
        generalize H1 = H at hP hS ⊢
        have hP : va_P (dC, dI) vwCl [(h0, .inr (11, [.ref st, .int (nI N), .int (nI B), .ref rp, .int vrs, .int vrb, .int vhs, .int vca, .int vxs, .int vxb, .ref tp, .int (nI T), .int vfa, .int vbr, .int vba, .int vsp, .int vhe, .int vtk, .int vva, .ref cu, .ref lt, .ref od, .ref th, .ref be, .ref ln, .int (nI S), .ref ma, .int (nI M), .ref ah, .ref bh, .ref ik, .ref la, .ref lg, .ref ce, .int vto])), (st, .inl (G 0, 196, .inl fst)), (od, .inl (G 1, 10, .inr (.inl u17))), (th, .inl (G 1, 10, .inr (.inl u18)))] H := hP
        have hD : va_D A [(h0, .inr (11, [.ref st, .int (nI N), .int (nI B), .ref rp, .int vrs, .int vrb, .int vhs, .int vca, .int vxs, .int vxb, .ref tp, .int (nI T), .int vfa, .int vbr, .int vba, .int vsp, .int vhe, .int vtk, .int vva, .ref cu, .ref lt, .ref od, .ref th, .ref be, .ref ln, .int (nI S), .ref ma, .int (nI M), .ref ah, .ref bh, .ref ik, .ref la, .ref lg, .ref ce, .int vto])), (st, .inl (G 0, 196, .inl fst)), (od, .inl (G 1, 10, .inr (.inl u17))), (th, .inl (G 1, 10, .inr (.inl u18)))] := hD
        refine lv_aload_n hx hb dX11_depth_44 rfl (lv_at hl 0 rfl) ?_
        refine va_get (D := (dC, dI)) (ci := 11) (v := .ref od) (C := RX11) (T := TX11) (N := 35) hx hb hg inG11 hown hK.1 hP 0 rfl rfl 21 (by decide) (hg _ wt_899) (fun _ h9 => h9) rfl dX11_depth_45 ?_
        refine lv_iload_n hx hb dX11_depth_48 rfl (lv_at hl 2 rfl) ?_
        refine va_lald hx hb hK.1 hP 2 1 rfl rfl (vp_in_nI (by have t_b5 := b5; have t_b10 := b10; have t_b14 := b14; have t_hii := hii; have t_hdd := hdd; have t_n0 : (nI N).toInt = (N : Int) := nI_toInt (by omega); have t_n1 : (nI B).toInt = (B : Int) := nI_toInt (by omega); have t_n2 : (nI T).toInt = (T : Int) := nI_toInt (by omega); have t_n3 : (nI S).toInt = (S : Int) := nI_toInt (by omega); have t_n4 : (nI M).toInt = (M : Int) := nI_toInt (by omega); have t_n5 : (nI ii).toInt = (ii : Int) := nI_toInt (by omega); have t_n6 : (nI dd).toInt = (dd : Int) := nI_toInt (by omega); omega) (by decide)) dX11_depth_49 ?_
        refine lv_cgl (y := u17 dd) (by rw [nI_clamp (by omega)]) ?_
        refine lv_iload_n hx hb dX11_depth_50 rfl (lv_at hl 1 rfl) ?_
        refine lv_iconst (v := 1) hx hb dX11_depth_51 (by decide) ?_
        refine lv_iadd hx hb dX11_depth_52 ?_
        refine lv_cg (y := nI (ii + 1)) (by rw [show (1 : Int32) = nI 1 from rfl]; exact nI_add _ _) ?_
        have hPc := hP.sub (ws' := []) [] rfl
        refine va_calll (va_runS (As := [.int (nI (ii + 1))]) (rest := [.long (u17 dd)]) ⟨hx, hb, hml, hown, hg⟩ (c_X11_power l dC dI G _ (ii + 1) (by have t_b5 := b5; have t_b10 := b10; have t_b14 := b14; have t_hii := hii; have t_hdd := hdd; have t_n0 : (nI N).toInt = (N : Int) := nI_toInt (by omega); have t_n1 : (nI B).toInt = (B : Int) := nI_toInt (by omega); have t_n2 : (nI T).toInt = (T : Int) := nI_toInt (by omega); have t_n3 : (nI S).toInt = (S : Int) := nI_toInt (by omega); have t_n4 : (nI M).toInt = (M : Int) := nI_toInt (by omega); have t_n5 : (nI ii).toInt = (ii : Int) := nI_toInt (by omega); have t_n6 : (nI dd).toInt = (dd : Int) := nI_toInt (by omega); omega)) (kwS hg mfX11_power wt_1131 ⟨Nat.le_of_ble_eq_true rfl, Nat.le_of_ble_eq_true rfl⟩) (preSR hK hPc) rfl rfl hl.1 rfl (lv_room (Nat.le_of_ble_eq_true rfl)) dX11_depth_53 ⟨Nat.le_of_ble_eq_true rfl, Nat.le_of_ble_eq_true rfl⟩) hS (fun q h1 h2 => absurd h2 (Nat.not_le.mpr h1)) (fun q h => hA q (Nat.le_trans hS.1 h)) (fun r19 ur19 t H1 locs ht hvm w20 hB hz1 hk1 hS => ?_)
        have hP := keepR hP hk1
        obtain ⟨w20, w20x⟩ := w20
        subst w20
        refine lv_iload_n hx hb dX11_depth_56 rfl (lv_at hl 3 rfl) ?_
        have hPc := hP.sub (ws' := []) [] rfl
        refine va_calll (va_runS (As := [.long (u17 dd), .long (powF (ii + 1)), .int what]) (rest := []) ⟨hx, hb, hml, hown, hg⟩ (c_X11_lowest l dC dI G _ what (u17 dd) (powF (ii + 1)) (powF_ne (by have t_b5 := b5; have t_b10 := b10; have t_b14 := b14; have t_hii := hii; have t_hdd := hdd; have t_n0 : (nI N).toInt = (N : Int) := nI_toInt (by omega); have t_n1 : (nI B).toInt = (B : Int) := nI_toInt (by omega); have t_n2 : (nI T).toInt = (T : Int) := nI_toInt (by omega); have t_n3 : (nI S).toInt = (S : Int) := nI_toInt (by omega); have t_n4 : (nI M).toInt = (M : Int) := nI_toInt (by omega); have t_n5 : (nI ii).toInt = (ii : Int) := nI_toInt (by omega); have t_n6 : (nI dd).toInt = (dd : Int) := nI_toInt (by omega); omega))) (kwS hg mfX11_lowest wt_1134 ⟨Nat.le_of_ble_eq_true rfl, Nat.le_of_ble_eq_true rfl⟩) (preSR hK hPc) rfl rfl hl.1 rfl (lv_room (Nat.le_of_ble_eq_true rfl)) dX11_depth_57 ⟨Nat.le_of_ble_eq_true rfl, Nat.le_of_ble_eq_true rfl⟩) hS (fun q h1 h2 => absurd h2 (Nat.not_le.mpr h1)) (fun q h => hA q (Nat.le_trans hS.1 h)) (fun r21 ur21 t H1 locs ht hvm w22 hB hz1 hk1 hS => ?_)
        have hP := keepR hP hk1
        obtain ⟨w22, w22x⟩ := w22
        have hpost : True := by
          trivial
        have hP9 := hP.sub (ws' := [(h0, .inr (11, [.ref st, .int (nI N), .int (nI B), .ref rp, .int vrs, .int vrb, .int vhs, .int vca, .int vxs, .int vxb, .ref tp, .int (nI T), .int vfa, .int vbr, .int vba, .int vsp, .int vhe, .int vtk, .int vva, .ref cu, .ref lt, .ref od, .ref th, .ref be, .ref ln, .int (nI S), .ref ma, .int (nI M), .ref ah, .ref bh, .ref ik, .ref la, .ref lg, .ref ce, .int vto])), (st, .inl (G 0, 196, .inl fst)), (od, .inl (G 1, 10, .inr (.inl u17))), (th, .inl (G 1, 10, .inr (.inl u18)))]) [0, 1, 2, 3] rfl
        have hD9 := hD.sub (ws' := [(h0, .inr (11, [.ref st, .int (nI N), .int (nI B), .ref rp, .int vrs, .int vrb, .int vhs, .int vca, .int vxs, .int vxb, .ref tp, .int (nI T), .int vfa, .int vbr, .int vba, .int vsp, .int vhe, .int vtk, .int vva, .ref cu, .ref lt, .ref od, .ref th, .ref be, .ref ln, .int (nI S), .ref ma, .int (nI M), .ref ah, .ref bh, .ref ik, .ref la, .ref lg, .ref ce, .int vto])), (st, .inl (G 0, 196, .inl fst)), (od, .inl (G 1, 10, .inr (.inl u17))), (th, .inl (G 1, 10, .inr (.inl u18)))]) [0, 1, 2, 3] (by decide) rfl
        refine W.widen (k := 0) (n := 0) (by omega) (by omega) ?_
        exact W.lret (v := r21) hx hb hr (fun t ht hW => ⟨⟨r21, (u17, u18), rfl, ⟨hpost, trivial⟩, ⟨by rw [ht]; exact hP9, hD9⟩⟩, hS.F ht⟩) hS.2.2 dX11_depth_60
      · skip
        have b23 := if10_n c13
        refine lv_ldc2 (v := (-1)) hx hb hown (hg _ wt_1118) dX11_depth_30 ?_
        have hpost : True := by
          trivial
        have hP9 := hP.sub (ws' := [(h0, .inr (11, [.ref st, .int (nI N), .int (nI B), .ref rp, .int vrs, .int vrb, .int vhs, .int vca, .int vxs, .int vxb, .ref tp, .int (nI T), .int vfa, .int vbr, .int vba, .int vsp, .int vhe, .int vtk, .int vva, .ref cu, .ref lt, .ref od, .ref th, .ref be, .ref ln, .int (nI S), .ref ma, .int (nI M), .ref ah, .ref bh, .ref ik, .ref la, .ref lg, .ref ce, .int vto])), (st, .inl (G 0, 196, .inl fst)), (od, .inl (G 1, 10, .inr (.inl fod))), (th, .inl (G 1, 10, .inr (.inl fth)))]) [0, 1, 2, 3] rfl
        have hD9 := hD.sub (ws' := [(h0, .inr (11, [.ref st, .int (nI N), .int (nI B), .ref rp, .int vrs, .int vrb, .int vhs, .int vca, .int vxs, .int vxb, .ref tp, .int (nI T), .int vfa, .int vbr, .int vba, .int vsp, .int vhe, .int vtk, .int vva, .ref cu, .ref lt, .ref od, .ref th, .ref be, .ref ln, .int (nI S), .ref ma, .int (nI M), .ref ah, .ref bh, .ref ik, .ref la, .ref lg, .ref ce, .int vto])), (st, .inl (G 0, 196, .inl fst)), (od, .inl (G 1, 10, .inr (.inl fod))), (th, .inl (G 1, 10, .inr (.inl fth)))]) [0, 1, 2, 3] (by decide) rfl
        refine W.widen (k := 0) (n := 0) (by omega) (by omega) ?_
        exact W.lret (v := (-1)) hx hb hr (fun t ht hW => ⟨⟨(-1), (fod, fth), rfl, ⟨hpost, trivial⟩, ⟨by rw [ht]; exact hP9, hD9⟩⟩, hS.F ht⟩) hS.2.2 dX11_depth_33

set_option maxHeartbeats 1000000 in
set_option maxRecDepth 100000 in
theorem c_X11_awake (l : Launch) (dC : Nat → ClassId) (dI : Nat → Nat → Nat) (G : Nat → ClassId) (sz : Nat) (h0 st N B rp tp T cu lt od th be ln S ma M ah bh ik la lg ce : Nat) (i what vrs vrb vhs vca vxs vxb vfa vbr vba vsp vhe vtk vva vto : Int32) (fst : Nat → Int32) (fod : Nat → Int64) (fth : Nat → Int64) (hN : N ≤ 10) (hB : B ≤ 6) (hT : T ≤ 320) (hS0 : S ≤ 8) (hM : M ≤ 6) (hst : OKS fst) : Met l yX11_awake (Cond.code yX11_awake cX11_awake 3 (some .long) :: GT) ({ frames := 5, cells := 0, slots := 0, locals := 122 } : Room) (PcW [.ref h0, .int i, .int what] dC dI G [(h0, .inr (11, [.ref st, .int (nI N), .int (nI B), .ref rp, .int vrs, .int vrb, .int vhs, .int vca, .int vxs, .int vxb, .ref tp, .int (nI T), .int vfa, .int vbr, .int vba, .int vsp, .int vhe, .int vtk, .int vva, .ref cu, .ref lt, .ref od, .ref th, .ref be, .ref ln, .int (nI S), .ref ma, .int (nI M), .ref ah, .ref bh, .ref ik, .ref la, .ref lg, .ref ce, .int vto])), (st, .inl (G 0, 196, .inl fst)), (od, .inl (G 1, 10, .inr (.inl fod))), (th, .inl (G 1, 10, .inr (.inl fth)))] sz) (va_Ql (fun (r : Int64) (u : (Nat → Int64) × (Nat → Int64)) => match u with | (ood, oth) => (True) ∧ True) (fun (u : (Nat → Int64) × (Nat → Int64)) (t : State) => match u with | (ood, oth) => va_P (dC, dI) vwCl [(h0, .inr (11, [.ref st, .int (nI N), .int (nI B), .ref rp, .int vrs, .int vrb, .int vhs, .int vca, .int vxs, .int vxb, .ref tp, .int (nI T), .int vfa, .int vbr, .int vba, .int vsp, .int vhe, .int vtk, .int vva, .ref cu, .ref lt, .ref od, .ref th, .ref be, .ref ln, .int (nI S), .ref ma, .int (nI M), .ref ah, .ref bh, .ref ik, .ref la, .ref lg, .ref ce, .int vto])), (st, .inl (G 0, 196, .inl fst)), (od, .inl (G 1, 10, .inr (.inl ood))), (th, .inl (G 1, 10, .inr (.inl oth)))] t.heap ∧ va_D (va_A [(h0, .inr (11, [.ref st, .int (nI N), .int (nI B), .ref rp, .int vrs, .int vrb, .int vhs, .int vca, .int vxs, .int vxb, .ref tp, .int (nI T), .int vfa, .int vbr, .int vba, .int vsp, .int vhe, .int vtk, .int vva, .ref cu, .ref lt, .ref od, .ref th, .ref be, .ref ln, .int (nI S), .ref ma, .int (nI M), .ref ah, .ref bh, .ref ik, .ref la, .ref lg, .ref ce, .int vto])), (st, .inl (G 0, 196, .inl fst)), (od, .inl (G 1, 10, .inr (.inl fod))), (th, .inl (G 1, 10, .inr (.inl fth)))] sz) [(h0, .inr (11, [.ref st, .int (nI N), .int (nI B), .ref rp, .int vrs, .int vrb, .int vhs, .int vca, .int vxs, .int vxb, .ref tp, .int (nI T), .int vfa, .int vbr, .int vba, .int vsp, .int vhe, .int vtk, .int vva, .ref cu, .ref lt, .ref od, .ref th, .ref be, .ref ln, .int (nI S), .ref ma, .int (nI M), .ref ah, .ref bh, .ref ik, .ref la, .ref lg, .ref ce, .int vto])), (st, .inl (G 0, 196, .inl fst)), (od, .inl (G 1, 10, .inr (.inl ood))), (th, .inl (G 1, 10, .inr (.inl oth)))]) (va_A [(h0, .inr (11, [.ref st, .int (nI N), .int (nI B), .ref rp, .int vrs, .int vrb, .int vhs, .int vca, .int vxs, .int vxb, .ref tp, .int (nI T), .int vfa, .int vbr, .int vba, .int vsp, .int vhe, .int vtk, .int vva, .ref cu, .ref lt, .ref od, .ref th, .ref be, .ref ln, .int (nI S), .ref ma, .int (nI M), .ref ah, .ref bh, .ref ik, .ref la, .ref lg, .ref ce, .int vto])), (st, .inl (G 0, 196, .inl fst)), (od, .inl (G 1, 10, .inr (.inl fod))), (th, .inl (G 1, 10, .inr (.inl fth)))] sz)) 0 0 (va_A [(h0, .inr (11, [.ref st, .int (nI N), .int (nI B), .ref rp, .int vrs, .int vrb, .int vhs, .int vca, .int vxs, .int vxb, .ref tp, .int (nI T), .int vfa, .int vbr, .int vba, .int vsp, .int vhe, .int vtk, .int vva, .ref cu, .ref lt, .ref od, .ref th, .ref be, .ref ln, .int (nI S), .ref ma, .int (nI M), .ref ah, .ref bh, .ref ik, .ref la, .ref lg, .ref ce, .int vto])), (st, .inl (G 0, 196, .inl fst)), (od, .inl (G 1, 10, .inr (.inl fod))), (th, .inl (G 1, 10, .inr (.inl fth)))] sz) := by
  refine Met.ofW (cc := cX11_awake) (maxL := 3) (ret := (some .long)) (by decide) rfl ?_
  intro p e s m args below meth c s₁ Bd hml hv
  obtain ⟨rfl, hsz, hP, hK, hD0⟩ := hv
  have hx := Bd.exec
  have hb := Bd.bytes
  have hr := Bd.returns
  have hg : ∀ w ∈ GT, w.before ([.ref h0, .int i, .int what] : List Value).toArray s = true := fun w h => atoms_spec (ws := Cond.code yX11_awake cX11_awake 3 (some .long) :: GT) Bd.pre w (List.mem_cons_of_mem _ h)
  have hown : s.vm.findClass RX11 = some m.cls := findClass_of_methodNamed Bd.named
  have hlocks := Bd.notSynchronized
  subst hsz
  have hD := hD0.self (sz := s.heap.size)
  generalize hAe : va_A [(h0, .inr (11, [.ref st, .int (nI N), .int (nI B), .ref rp, .int vrs, .int vrb, .int vhs, .int vca, .int vxs, .int vxb, .ref tp, .int (nI T), .int vfa, .int vbr, .int vba, .int vsp, .int vhe, .int vtk, .int vva, .ref cu, .ref lt, .ref od, .ref th, .ref be, .ref ln, .int (nI S), .ref ma, .int (nI M), .ref ah, .ref bh, .ref ik, .ref la, .ref lg, .ref ce, .int vto])), (st, .inl (G 0, 196, .inl fst)), (od, .inl (G 1, 10, .inr (.inl fod))), (th, .inl (G 1, 10, .inr (.inl fth)))] s.heap.size = A at hD ⊢
  have hA : ∀ q : Nat, s.heap.size ≤ q → A q := fun q h => by rw [← hAe]; exact Or.inr h
  have hS : va_S A s.heap s.heap [] := va_S.rf
  have hl := lv_entry ([.ref h0, .int i, .int what]) (n := 3) (Nat.le_of_ble_eq_true rfl)
  rw [lg_entry_eq]
  generalize (lg_sl ([.ref h0, .int i, .int what]) ++ List.replicate (3 - (lg_sl ([.ref h0, .int i, .int what])).length) Slot.unset).toArray = ls at hl ⊢
  have hl : lv_has ls 3 [(0, .ref h0), (1, .int i), (2, .int what)] := hl
  refine lv_aload_n hx hb dX11_awake_0 rfl (lv_at hl 0 rfl) ?_
  refine lv_iload_n hx hb dX11_awake_1 rfl (lv_at hl 1 rfl) ?_
  refine lv_iconst (v := 0) hx hb dX11_awake_2 (by decide) ?_
  refine lv_iload_n hx hb dX11_awake_3 rfl (lv_at hl 2 rfl) ?_
  have hPc := hP.sub (ws' := [(h0, .inr (11, [.ref st, .int (nI N), .int (nI B), .ref rp, .int vrs, .int vrb, .int vhs, .int vca, .int vxs, .int vxb, .ref tp, .int (nI T), .int vfa, .int vbr, .int vba, .int vsp, .int vhe, .int vtk, .int vva, .ref cu, .ref lt, .ref od, .ref th, .ref be, .ref ln, .int (nI S), .ref ma, .int (nI M), .ref ah, .ref bh, .ref ik, .ref la, .ref lg, .ref ce, .int vto])), (st, .inl (G 0, 196, .inl fst)), (od, .inl (G 1, 10, .inr (.inl fod))), (th, .inl (G 1, 10, .inr (.inl fth)))]) [0, 1, 2, 3] rfl
  have hDc := hD.sub (ws' := [(h0, .inr (11, [.ref st, .int (nI N), .int (nI B), .ref rp, .int vrs, .int vrb, .int vhs, .int vca, .int vxs, .int vxb, .ref tp, .int (nI T), .int vfa, .int vbr, .int vba, .int vsp, .int vhe, .int vtk, .int vva, .ref cu, .ref lt, .ref od, .ref th, .ref be, .ref ln, .int (nI S), .ref ma, .int (nI M), .ref ah, .ref bh, .ref ik, .ref la, .ref lg, .ref ce, .int vto])), (st, .inl (G 0, 196, .inl fst)), (od, .inl (G 1, 10, .inr (.inl fod))), (th, .inl (G 1, 10, .inr (.inl fth)))]) [0, 1, 2, 3] (by decide) rfl
  have hFc := va_free (wc := [(h0, .inr (11, [.ref st, .int (nI N), .int (nI B), .ref rp, .int vrs, .int vrb, .int vhs, .int vca, .int vxs, .int vxb, .ref tp, .int (nI T), .int vfa, .int vbr, .int vba, .int vsp, .int vhe, .int vtk, .int vva, .ref cu, .ref lt, .ref od, .ref th, .ref be, .ref ln, .int (nI S), .ref ma, .int (nI M), .ref ah, .ref bh, .ref ik, .ref la, .ref lg, .ref ce, .int vto])), (st, .inl (G 0, 196, .inl fst)), (od, .inl (G 1, 10, .inr (.inl fod))), (th, .inl (G 1, 10, .inr (.inl fth)))]) hD hS hA [0, 1, 2, 3] rfl
  refine va_calll (va_runV (As := [.int i, .int 0, .int what]) (rest := []) ⟨hx, hb, hml, hown, hg⟩ (c_X11_depth l dC dI G _ h0 st N B rp tp T cu lt od th be ln S ma M ah bh ik la lg ce i 0 what vrs vrb vhs vca vxs vxb vfa vbr vba vsp vhe vtk vva vto fst fod fth (by have t_n0 : (nI N).toInt = (N : Int) := nI_toInt (by omega); have t_n1 : (nI B).toInt = (B : Int) := nI_toInt (by omega); have t_n2 : (nI T).toInt = (T : Int) := nI_toInt (by omega); have t_n3 : (nI S).toInt = (S : Int) := nI_toInt (by omega); have t_n4 : (nI M).toInt = (M : Int) := nI_toInt (by omega); omega) (by have t_n0 : (nI N).toInt = (N : Int) := nI_toInt (by omega); have t_n1 : (nI B).toInt = (B : Int) := nI_toInt (by omega); have t_n2 : (nI T).toInt = (T : Int) := nI_toInt (by omega); have t_n3 : (nI S).toInt = (S : Int) := nI_toInt (by omega); have t_n4 : (nI M).toInt = (M : Int) := nI_toInt (by omega); omega) (by have t_n0 : (nI N).toInt = (N : Int) := nI_toInt (by omega); have t_n1 : (nI B).toInt = (B : Int) := nI_toInt (by omega); have t_n2 : (nI T).toInt = (T : Int) := nI_toInt (by omega); have t_n3 : (nI S).toInt = (S : Int) := nI_toInt (by omega); have t_n4 : (nI M).toInt = (M : Int) := nI_toInt (by omega); omega) (by have t_n0 : (nI N).toInt = (N : Int) := nI_toInt (by omega); have t_n1 : (nI B).toInt = (B : Int) := nI_toInt (by omega); have t_n2 : (nI T).toInt = (T : Int) := nI_toInt (by omega); have t_n3 : (nI S).toInt = (S : Int) := nI_toInt (by omega); have t_n4 : (nI M).toInt = (M : Int) := nI_toInt (by omega); omega) (by have t_n0 : (nI N).toInt = (N : Int) := nI_toInt (by omega); have t_n1 : (nI B).toInt = (B : Int) := nI_toInt (by omega); have t_n2 : (nI T).toInt = (T : Int) := nI_toInt (by omega); have t_n3 : (nI S).toInt = (S : Int) := nI_toInt (by omega); have t_n4 : (nI M).toInt = (M : Int) := nI_toInt (by omega); omega) hst) (kwV hg mfX11_depth wt_1141 ⟨Nat.le_of_ble_eq_true rfl, Nat.le_of_ble_eq_true rfl⟩) (preVW hK hPc hDc (ci := 11) rfl rfl) rfl rfl hl.1 rfl (lv_room (Nat.le_of_ble_eq_true rfl)) dX11_awake_4 ⟨Nat.le_of_ble_eq_true rfl, Nat.le_of_ble_eq_true rfl⟩) hS (fun q _ h => hFc q h) hFc (fun r1 ur1 t H1 locs ht hvm w2 hB hz1 hk1 hS => ?_)
  obtain ⟨u3, u4⟩ := ur1
  obtain ⟨hP1, hD1⟩ := hB
  rw [ht] at hP1
  obtain ⟨hP, hD⟩ := va_join (wr := []) (w1 := [(h0, .inr (11, [.ref st, .int (nI N), .int (nI B), .ref rp, .int vrs, .int vrb, .int vhs, .int vca, .int vxs, .int vxb, .ref tp, .int (nI T), .int vfa, .int vbr, .int vba, .int vsp, .int vhe, .int vtk, .int vva, .ref cu, .ref lt, .ref od, .ref th, .ref be, .ref ln, .int (nI S), .ref ma, .int (nI M), .ref ah, .ref bh, .ref ik, .ref la, .ref lg, .ref ce, .int vto])), (st, .inl (G 0, 196, .inl fst)), (od, .inl (G 1, 10, .inr (.inl u3))), (th, .inl (G 1, 10, .inr (.inl u4)))]) hP hD [0, 1, 2, 3] [] rfl rfl (by decide) (by decide) hk1 hFc hP1 hD1
  generalize H1 = H at hP hS ⊢
  have hP : va_P (dC, dI) vwCl [(h0, .inr (11, [.ref st, .int (nI N), .int (nI B), .ref rp, .int vrs, .int vrb, .int vhs, .int vca, .int vxs, .int vxb, .ref tp, .int (nI T), .int vfa, .int vbr, .int vba, .int vsp, .int vhe, .int vtk, .int vva, .ref cu, .ref lt, .ref od, .ref th, .ref be, .ref ln, .int (nI S), .ref ma, .int (nI M), .ref ah, .ref bh, .ref ik, .ref la, .ref lg, .ref ce, .int vto])), (st, .inl (G 0, 196, .inl fst)), (od, .inl (G 1, 10, .inr (.inl u3))), (th, .inl (G 1, 10, .inr (.inl u4)))] H := hP
  have hD : va_D A [(h0, .inr (11, [.ref st, .int (nI N), .int (nI B), .ref rp, .int vrs, .int vrb, .int vhs, .int vca, .int vxs, .int vxb, .ref tp, .int (nI T), .int vfa, .int vbr, .int vba, .int vsp, .int vhe, .int vtk, .int vva, .ref cu, .ref lt, .ref od, .ref th, .ref be, .ref ln, .int (nI S), .ref ma, .int (nI M), .ref ah, .ref bh, .ref ik, .ref la, .ref lg, .ref ce, .int vto])), (st, .inl (G 0, 196, .inl fst)), (od, .inl (G 1, 10, .inr (.inl u3))), (th, .inl (G 1, 10, .inr (.inl u4)))] := hD
  obtain ⟨w2, w2x⟩ := w2
  have hpost : True := by
    trivial
  have hP9 := hP.sub (ws' := [(h0, .inr (11, [.ref st, .int (nI N), .int (nI B), .ref rp, .int vrs, .int vrb, .int vhs, .int vca, .int vxs, .int vxb, .ref tp, .int (nI T), .int vfa, .int vbr, .int vba, .int vsp, .int vhe, .int vtk, .int vva, .ref cu, .ref lt, .ref od, .ref th, .ref be, .ref ln, .int (nI S), .ref ma, .int (nI M), .ref ah, .ref bh, .ref ik, .ref la, .ref lg, .ref ce, .int vto])), (st, .inl (G 0, 196, .inl fst)), (od, .inl (G 1, 10, .inr (.inl u3))), (th, .inl (G 1, 10, .inr (.inl u4)))]) [0, 1, 2, 3] rfl
  have hD9 := hD.sub (ws' := [(h0, .inr (11, [.ref st, .int (nI N), .int (nI B), .ref rp, .int vrs, .int vrb, .int vhs, .int vca, .int vxs, .int vxb, .ref tp, .int (nI T), .int vfa, .int vbr, .int vba, .int vsp, .int vhe, .int vtk, .int vva, .ref cu, .ref lt, .ref od, .ref th, .ref be, .ref ln, .int (nI S), .ref ma, .int (nI M), .ref ah, .ref bh, .ref ik, .ref la, .ref lg, .ref ce, .int vto])), (st, .inl (G 0, 196, .inl fst)), (od, .inl (G 1, 10, .inr (.inl u3))), (th, .inl (G 1, 10, .inr (.inl u4)))]) [0, 1, 2, 3] (by decide) rfl
  refine W.widen (k := 0) (n := 0) (by omega) (by omega) ?_
  exact W.lret (v := r1) hx hb hr (fun t ht hW => ⟨⟨r1, (u3, u4), rfl, ⟨hpost, trivial⟩, ⟨by rw [ht]; exact hP9, hD9⟩⟩, hS.F ht⟩) hS.2.2 dX11_awake_7
