theorem hz_upd {fz : Nat → Int32} {k nn : Nat} (h : ∀ q : Nat, q < 4 → 0 ≤ (fz q).toInt ∧ (fz q).toInt ≤ 40) (hn : nn ≤ 40) : ∀ q : Nat, q < 4 → 0 ≤ (upd fz k (nI nn) q).toInt ∧ (upd fz k (nI nn) q).toInt ≤ 40 := by
  intro q hq
  unfold upd
  have t := nI_toInt (n := nn) (by omega)
  split
  · omega
  · exact h q hq
theorem shl_le {N : Nat} (h : N ≤ 10) : ∃ k : Nat, k ≤ 1024 ∧ (1 : Int32) <<< (nI N &&& 31) = nI k := by
  refine ⟨2 ^ N, ?_, ?_⟩
  · exact Nat.le_trans (Nat.pow_le_pow_right (by decide) h) (by decide)
  · rcases (show N = 0 ∨ N = 1 ∨ N = 2 ∨ N = 3 ∨ N = 4 ∨ N = 5 ∨ N = 6 ∨ N = 7 ∨ N = 8 ∨ N = 9 ∨ N = 10 by omega) with h|h|h|h|h|h|h|h|h|h|h <;> subst h <;> decide
theorem l1_in {x : Int64} {b : Int} (h0 : 0 ≤ x.toInt) (h1 : x.toInt < 1000) (h2 : (x + 1).toInt < b) : x.toInt + 1 < b := by
  have e : (x + 1).toInt = (x.toInt + (1 : Int64).toInt).bmod (2 ^ 64) := Int64.toInt_add x 1
  have e1 : (1 : Int64).toInt = 1 := by decide
  rw [e1, Int.bmod_eq_of_le (by omega) (by omega)] at e
  omega
theorem i1_in {x : Int32} (h0 : 0 ≤ x.toInt) (h1 : x.toInt < 1000) : (x + 1).toInt = x.toInt + 1 := by
  have e : (x + 1).toInt = (x.toInt + (1 : Int32).toInt).bmod (2 ^ 32) := Int32.toInt_add x 1
  have e1 : (1 : Int32).toInt = 1 := by decide
  rw [e1, Int.bmod_eq_of_le (by omega) (by omega)] at e
  exact e
set_option maxHeartbeats 1000000 in
set_option maxRecDepth 100000 in
theorem c_X10_end (l : Launch) (dC : Nat → ClassId) (dI : Nat → Nat → Nat) (G : Nat → ClassId) (sz : Nat) (h0 rd wy tr im kp od ch cr le mk tl sh tp td ta T : Nat) (tf rf n dr0 dr1 dr2 dr3 dr4 dr5 dr6 dr7 dr8 dr9 : Int32) (hT : T ≤ 320) : Met l yX10_end (Cond.code yX10_end cX10_end 3 (some .int) :: GT) ({ frames := 0, cells := 0, slots := 0, locals := 0 } : Room) (PcW [.ref h0, .int n] dC dI G [(h0, .inr (10, [.ref rd, .ref wy, .ref tr, .ref im, .ref kp, .ref od, .ref ch, .ref cr, .ref le, .ref mk, .ref tl, .ref sh, .int tf, .int rf])), (rd, .inr (5, [.ref tp, .ref td, .int dr0, .int dr1, .int dr2, .int dr3, .int dr4, .int dr5, .int dr6, .int dr7, .int dr8, .int dr9])), (tp, .inr (7, [.int (nI T), .ref ta]))] sz) (va_Qi (fun (r : Int32) (u : Nat) => match u with | u1 => (r = if 0 ≤ n.toInt ∧ n.toInt ≤ ((T : Nat) : Int) then nI T else -1) ∧ u1 = (if 0 ≤ n.toInt ∧ n.toInt ≤ ((T : Nat) : Int) then n.toNatClampNeg else T) ∧ u1 ≤ 320) (fun (u : Nat) (t : State) => match u with | u1 => va_P (dC, dI) vwCl [(h0, .inr (10, [.ref rd, .ref wy, .ref tr, .ref im, .ref kp, .ref od, .ref ch, .ref cr, .ref le, .ref mk, .ref tl, .ref sh, .int tf, .int rf])), (rd, .inr (5, [.ref tp, .ref td, .int dr0, .int dr1, .int dr2, .int dr3, .int dr4, .int dr5, .int dr6, .int dr7, .int dr8, .int dr9])), (tp, .inr (7, [.int (nI u1), .ref ta]))] t.heap ∧ va_D (va_A [(h0, .inr (10, [.ref rd, .ref wy, .ref tr, .ref im, .ref kp, .ref od, .ref ch, .ref cr, .ref le, .ref mk, .ref tl, .ref sh, .int tf, .int rf])), (rd, .inr (5, [.ref tp, .ref td, .int dr0, .int dr1, .int dr2, .int dr3, .int dr4, .int dr5, .int dr6, .int dr7, .int dr8, .int dr9])), (tp, .inr (7, [.int (nI T), .ref ta]))] sz) [(h0, .inr (10, [.ref rd, .ref wy, .ref tr, .ref im, .ref kp, .ref od, .ref ch, .ref cr, .ref le, .ref mk, .ref tl, .ref sh, .int tf, .int rf])), (rd, .inr (5, [.ref tp, .ref td, .int dr0, .int dr1, .int dr2, .int dr3, .int dr4, .int dr5, .int dr6, .int dr7, .int dr8, .int dr9])), (tp, .inr (7, [.int (nI u1), .ref ta]))]) (va_A [(h0, .inr (10, [.ref rd, .ref wy, .ref tr, .ref im, .ref kp, .ref od, .ref ch, .ref cr, .ref le, .ref mk, .ref tl, .ref sh, .int tf, .int rf])), (rd, .inr (5, [.ref tp, .ref td, .int dr0, .int dr1, .int dr2, .int dr3, .int dr4, .int dr5, .int dr6, .int dr7, .int dr8, .int dr9])), (tp, .inr (7, [.int (nI T), .ref ta]))] sz)) 0 0 (va_A [(h0, .inr (10, [.ref rd, .ref wy, .ref tr, .ref im, .ref kp, .ref od, .ref ch, .ref cr, .ref le, .ref mk, .ref tl, .ref sh, .int tf, .int rf])), (rd, .inr (5, [.ref tp, .ref td, .int dr0, .int dr1, .int dr2, .int dr3, .int dr4, .int dr5, .int dr6, .int dr7, .int dr8, .int dr9])), (tp, .inr (7, [.int (nI T), .ref ta]))] sz) := by
  refine Met.ofW (cc := cX10_end) (maxL := 3) (ret := (some .int)) (by decide) rfl ?_
  intro p e s m args below meth c s₁ Bd hml hv
  obtain ⟨rfl, hsz, hP, hK, hD0⟩ := hv
  have hx := Bd.exec
  have hb := Bd.bytes
  have hr := Bd.returns
  have hg : ∀ w ∈ GT, w.before ([.ref h0, .int n] : List Value).toArray s = true := fun w h => atoms_spec (ws := Cond.code yX10_end cX10_end 3 (some .int) :: GT) Bd.pre w (List.mem_cons_of_mem _ h)
  have hown : s.vm.findClass RX10 = some m.cls := findClass_of_methodNamed Bd.named
  have hlocks := Bd.notSynchronized
  subst hsz
  have hD := hD0.self (sz := s.heap.size)
  generalize hAe : va_A [(h0, .inr (10, [.ref rd, .ref wy, .ref tr, .ref im, .ref kp, .ref od, .ref ch, .ref cr, .ref le, .ref mk, .ref tl, .ref sh, .int tf, .int rf])), (rd, .inr (5, [.ref tp, .ref td, .int dr0, .int dr1, .int dr2, .int dr3, .int dr4, .int dr5, .int dr6, .int dr7, .int dr8, .int dr9])), (tp, .inr (7, [.int (nI T), .ref ta]))] s.heap.size = A at hD ⊢
  have hA : ∀ q : Nat, s.heap.size ≤ q → A q := fun q h => by rw [← hAe]; exact Or.inr h
  have hS : va_S A s.heap s.heap [] := va_S.rf
  have hl := lv_entry ([.ref h0, .int n]) (n := 3) (Nat.le_of_ble_eq_true rfl)
  rw [lg_entry_eq]
  generalize (lg_sl ([.ref h0, .int n]) ++ List.replicate (3 - (lg_sl ([.ref h0, .int n])).length) Slot.unset).toArray = ls at hl ⊢
  have hl : lv_has ls 3 [(0, .ref h0), (1, .int n)] := hl
  refine lv_iload_n hx hb dX10_end_0 rfl (lv_at hl 1 rfl) ?_
  refine lv_if_lt (tgt := 18) hx hb dX10_end_1 (by decide) (fun c1 => ?_) (fun c1 => ?_)
  · skip
    refine lv_iconst (v := (-1)) hx hb dX10_end_18 (by decide) ?_
    have hpost : ((-1) : Int32) = if 0 ≤ n.toInt ∧ n.toInt ≤ ((T : Nat) : Int) then nI T else -1 := by
      have t_c1 := ltI c1
      have : (0 : Int32).toInt = 0 := (by decide)
      have t_n0 : (nI T).toInt = (T : Int) := nI_toInt (by omega)
      have t_n0 : (nI T).toInt = (T : Int) := nI_toInt (by omega)
      first | rfl | ((repeat' split) <;> first | rfl | omega)
    have hP9 := hP.sub (ws' := [(h0, .inr (10, [.ref rd, .ref wy, .ref tr, .ref im, .ref kp, .ref od, .ref ch, .ref cr, .ref le, .ref mk, .ref tl, .ref sh, .int tf, .int rf])), (rd, .inr (5, [.ref tp, .ref td, .int dr0, .int dr1, .int dr2, .int dr3, .int dr4, .int dr5, .int dr6, .int dr7, .int dr8, .int dr9])), (tp, .inr (7, [.int (nI T), .ref ta]))]) [0, 1, 2] rfl
    have hD9 := hD.sub (ws' := [(h0, .inr (10, [.ref rd, .ref wy, .ref tr, .ref im, .ref kp, .ref od, .ref ch, .ref cr, .ref le, .ref mk, .ref tl, .ref sh, .int tf, .int rf])), (rd, .inr (5, [.ref tp, .ref td, .int dr0, .int dr1, .int dr2, .int dr3, .int dr4, .int dr5, .int dr6, .int dr7, .int dr8, .int dr9])), (tp, .inr (7, [.int (nI T), .ref ta]))]) [0, 1, 2] (by decide) rfl
    refine W.widen (k := 0) (n := 0) (by omega) (by omega) ?_
    exact W.iret (v := (-1)) hx hb hr (fun t ht hW => ⟨⟨(-1), T, rfl, ⟨hpost, (by have t_c1 := ltI c1; have : (0 : Int32).toInt = 0 := (by decide); have t_n0 : (nI T).toInt = (T : Int) := nI_toInt (by omega); refine ⟨?_, by omega⟩; split <;> first | exact (nI_clamp (by omega)).symm | rfl | omega)⟩, ⟨by rw [ht]; exact hP9, hD9⟩⟩, hS.F ht⟩) hS.2.2 dX10_end_19
  · skip
    refine lv_iload_n hx hb dX10_end_4 rfl (lv_at hl 1 rfl) ?_
    refine lv_aload_n hx hb dX10_end_5 rfl (lv_at hl 0 rfl) ?_
    refine va_get (D := (dC, dI)) (ci := 10) (v := .ref rd) (C := RX10) (T := TX10) (N := 14) hx hb hg inG10 hown hK.1 hP 0 rfl rfl 0 (by decide) (hg _ wt_302) (fun _ h9 => h9) rfl dX10_end_6 ?_
    refine va_getN (D := (dC, dI)) (ci := 5) (v := .ref tp) (C := RX5) (T := TX5) (N := 12) hx hb hg inG5 hown hK.1 hP 1 rfl rfl 0 (by decide) (hK.nest wn_106) (fun _ h9 => h9) rfl dX10_end_9 ?_
    refine va_getN (D := (dC, dI)) (ci := 7) (v := .int (nI T)) (C := RX7) (T := TX7) (N := 2) hx hb hg inG7 hown hK.1 hP 2 rfl rfl 0 (by decide) (hK.nest wn_42) (fun _ h9 => h9) rfl dX10_end_12 ?_
    refine lv_icmp_le (tgt := 20) hx hb dX10_end_15 (by decide) (fun c2 => ?_) (fun c2 => ?_)
    · skip
      obtain ⟨nn, hnn, rfl⟩ : ∃ j : Nat, j < 321 ∧ n = nI j := by
        have t_c1 := nltI c1
        have t_c2 := leI c2
        have : (0 : Int32).toInt = 0 := (by decide)
        have t_n0 : (nI T).toInt = (T : Int) := nI_toInt (by omega)
        exact i32_nat (by omega) (by omega)
      refine lv_aload_n hx hb dX10_end_20 rfl (lv_at hl 0 rfl) ?_
      refine va_get (D := (dC, dI)) (ci := 10) (v := .ref rd) (C := RX10) (T := TX10) (N := 14) hx hb hg inG10 hown hK.1 hP 0 rfl rfl 0 (by decide) (hg _ wt_302) (fun _ h9 => h9) rfl dX10_end_21 ?_
      refine va_getN (D := (dC, dI)) (ci := 5) (v := .ref tp) (C := RX5) (T := TX5) (N := 12) hx hb hg inG5 hown hK.1 hP 1 rfl rfl 0 (by decide) (hK.nest wn_106) (fun _ h9 => h9) rfl dX10_end_24 ?_
      refine va_getN (D := (dC, dI)) (ci := 7) (v := .int (nI T)) (C := RX7) (T := TX7) (N := 2) hx hb hg inG7 hown hK.1 hP 2 rfl rfl 0 (by decide) (hK.nest wn_42) (fun _ h9 => h9) rfl dX10_end_27 ?_
      refine lv_istore_n (lv' := [(2, .int (nI T)), (0, .ref h0), (1, .int (nI nn))]) hx hb dX10_end_30 rfl hl (by decide) rfl (fun ls hl => ?_)
      refine lv_aload_n hx hb dX10_end_31 rfl (lv_at hl 1 rfl) ?_
      refine va_get (D := (dC, dI)) (ci := 10) (v := .ref rd) (C := RX10) (T := TX10) (N := 14) hx hb hg inG10 hown hK.1 hP 0 rfl rfl 0 (by decide) (hg _ wt_302) (fun _ h9 => h9) rfl dX10_end_32 ?_
      refine va_getN (D := (dC, dI)) (ci := 5) (v := .ref tp) (C := RX5) (T := TX5) (N := 12) hx hb hg inG5 hown hK.1 hP 1 rfl rfl 0 (by decide) (hK.nest wn_106) (fun _ h9 => h9) rfl dX10_end_35 ?_
      refine lv_iload_n hx hb dX10_end_38 rfl (lv_at hl 2 rfl) ?_
      refine va_putN (D := (dC, dI)) (ci := 7) (v := .int (nI nn)) (ty := .int) (C := RX7) (T := TX7) (N := 2) hx hb hg inG7 tyX7 tyX7_ok nmX7 hown hK.1 hP hD hS 2 rfl rfl 0 (by decide) (hK.nest wn_42) (fun _ h9 => h9) rfl (by decide +kernel) rfl rfl (Nat.le_of_ble_eq_true rfl) dX10_end_39 (fun H locs hP hD hS => ?_)
      have hP : va_P (dC, dI) vwCl [(h0, .inr (10, [.ref rd, .ref wy, .ref tr, .ref im, .ref kp, .ref od, .ref ch, .ref cr, .ref le, .ref mk, .ref tl, .ref sh, .int tf, .int rf])), (rd, .inr (5, [.ref tp, .ref td, .int dr0, .int dr1, .int dr2, .int dr3, .int dr4, .int dr5, .int dr6, .int dr7, .int dr8, .int dr9])), (tp, .inr (7, [.int (nI nn), .ref ta]))] H := hP
      have hD : va_D A [(h0, .inr (10, [.ref rd, .ref wy, .ref tr, .ref im, .ref kp, .ref od, .ref ch, .ref cr, .ref le, .ref mk, .ref tl, .ref sh, .int tf, .int rf])), (rd, .inr (5, [.ref tp, .ref td, .int dr0, .int dr1, .int dr2, .int dr3, .int dr4, .int dr5, .int dr6, .int dr7, .int dr8, .int dr9])), (tp, .inr (7, [.int (nI nn), .ref ta]))] := hD
      refine lv_iload_n hx hb dX10_end_42 rfl (lv_at hl 0 rfl) ?_
      have hpost : (nI T : Int32) = if 0 ≤ (nI nn).toInt ∧ (nI nn).toInt ≤ ((T : Nat) : Int) then nI T else -1 := by
        have t_c1 := nltI c1
        have t_c2 := leI c2
        have t_hnn := hnn
        have : (0 : Int32).toInt = 0 := (by decide)
        have t_n0 : (nI T).toInt = (T : Int) := nI_toInt (by omega)
        have t_n1 : (nI nn).toInt = (nn : Int) := nI_toInt (by omega)
        have t_n0 : (nI T).toInt = (T : Int) := nI_toInt (by omega)
        have t_n1 : (nI nn).toInt = (nn : Int) := nI_toInt (by omega)
        first | rfl | ((repeat' split) <;> first | rfl | omega)
      have hP9 := hP.sub (ws' := [(h0, .inr (10, [.ref rd, .ref wy, .ref tr, .ref im, .ref kp, .ref od, .ref ch, .ref cr, .ref le, .ref mk, .ref tl, .ref sh, .int tf, .int rf])), (rd, .inr (5, [.ref tp, .ref td, .int dr0, .int dr1, .int dr2, .int dr3, .int dr4, .int dr5, .int dr6, .int dr7, .int dr8, .int dr9])), (tp, .inr (7, [.int (nI nn), .ref ta]))]) [0, 1, 2] rfl
      have hD9 := hD.sub (ws' := [(h0, .inr (10, [.ref rd, .ref wy, .ref tr, .ref im, .ref kp, .ref od, .ref ch, .ref cr, .ref le, .ref mk, .ref tl, .ref sh, .int tf, .int rf])), (rd, .inr (5, [.ref tp, .ref td, .int dr0, .int dr1, .int dr2, .int dr3, .int dr4, .int dr5, .int dr6, .int dr7, .int dr8, .int dr9])), (tp, .inr (7, [.int (nI nn), .ref ta]))]) [0, 1, 2] (by decide) rfl
      refine W.widen (k := 0) (n := 0) (by omega) (by omega) ?_
      exact W.iret (v := nI T) hx hb hr (fun t ht hW => ⟨⟨nI T, nn, rfl, ⟨hpost, (by have t_c1 := nltI c1; have t_c2 := leI c2; have t_hnn := hnn; have : (0 : Int32).toInt = 0 := (by decide); have t_n0 : (nI T).toInt = (T : Int) := nI_toInt (by omega); have t_n1 : (nI nn).toInt = (nn : Int) := nI_toInt (by omega); refine ⟨?_, by omega⟩; split <;> first | exact (nI_clamp (by omega)).symm | rfl | omega)⟩, ⟨by rw [ht]; exact hP9, hD9⟩⟩, hS.F ht⟩) hS.2.2 dX10_end_43
    · skip
      refine lv_iconst (v := (-1)) hx hb dX10_end_18 (by decide) ?_
      have hpost : ((-1) : Int32) = if 0 ≤ n.toInt ∧ n.toInt ≤ ((T : Nat) : Int) then nI T else -1 := by
        have t_c1 := nltI c1
        have t_c2 := nleI c2
        have : (0 : Int32).toInt = 0 := (by decide)
        have t_n0 : (nI T).toInt = (T : Int) := nI_toInt (by omega)
        have t_n0 : (nI T).toInt = (T : Int) := nI_toInt (by omega)
        first | rfl | ((repeat' split) <;> first | rfl | omega)
      have hP9 := hP.sub (ws' := [(h0, .inr (10, [.ref rd, .ref wy, .ref tr, .ref im, .ref kp, .ref od, .ref ch, .ref cr, .ref le, .ref mk, .ref tl, .ref sh, .int tf, .int rf])), (rd, .inr (5, [.ref tp, .ref td, .int dr0, .int dr1, .int dr2, .int dr3, .int dr4, .int dr5, .int dr6, .int dr7, .int dr8, .int dr9])), (tp, .inr (7, [.int (nI T), .ref ta]))]) [0, 1, 2] rfl
      have hD9 := hD.sub (ws' := [(h0, .inr (10, [.ref rd, .ref wy, .ref tr, .ref im, .ref kp, .ref od, .ref ch, .ref cr, .ref le, .ref mk, .ref tl, .ref sh, .int tf, .int rf])), (rd, .inr (5, [.ref tp, .ref td, .int dr0, .int dr1, .int dr2, .int dr3, .int dr4, .int dr5, .int dr6, .int dr7, .int dr8, .int dr9])), (tp, .inr (7, [.int (nI T), .ref ta]))]) [0, 1, 2] (by decide) rfl
      refine W.widen (k := 0) (n := 0) (by omega) (by omega) ?_
      exact W.iret (v := (-1)) hx hb hr (fun t ht hW => ⟨⟨(-1), T, rfl, ⟨hpost, (by have t_c1 := nltI c1; have t_c2 := nleI c2; have : (0 : Int32).toInt = 0 := (by decide); have t_n0 : (nI T).toInt = (T : Int) := nI_toInt (by omega); refine ⟨?_, by omega⟩; split <;> first | exact (nI_clamp (by omega)).symm | rfl | omega)⟩, ⟨by rw [ht]; exact hP9, hD9⟩⟩, hS.F ht⟩) hS.2.2 dX10_end_19

set_option maxHeartbeats 1000000 in
set_option maxRecDepth 100000 in
theorem c_X10_start (l : Launch) (dC : Nat → ClassId) (dI : Nat → Nat → Nat) (G : Nat → ClassId) (sz : Nat) (h0 rd wy tr im kp od ch cr le mk tl sh a1 a2 a3 a4 a5 a6 N B D : Nat) (tf rf v : Int32) (hN_N : N ≤ 10) (hB_B : B ≤ 6) (hD_D : 1 ≤ D ∧ D ≤ 9) : Met l yX10_start (Cond.code yX10_start cX10_start 3 (some .int) :: GT) ({ frames := 0, cells := 0, slots := 0, locals := 0 } : Room) (PcW [.ref h0, .int v] dC dI G [(h0, .inr (10, [.ref rd, .ref wy, .ref tr, .ref im, .ref kp, .ref od, .ref ch, .ref cr, .ref le, .ref mk, .ref tl, .ref sh, .int tf, .int rf])), (wy, .inr (9, [.int (nI N), .int (nI B), .int (nI D), .ref a1, .ref a2, .ref a3, .ref a4, .ref a5, .ref a6]))] sz) (va_Qi (fun (r : Int32) (u : Nat) => match u with | u0 => (True) ∧ 1 ≤ u0 ∧ u0 ≤ 9) (fun (u : Nat) (t : State) => match u with | u0 => va_P (dC, dI) vwCl [(h0, .inr (10, [.ref rd, .ref wy, .ref tr, .ref im, .ref kp, .ref od, .ref ch, .ref cr, .ref le, .ref mk, .ref tl, .ref sh, .int tf, .int rf])), (wy, .inr (9, [.int (nI N), .int (nI B), .int (nI u0), .ref a1, .ref a2, .ref a3, .ref a4, .ref a5, .ref a6]))] t.heap ∧ va_D (va_A [(h0, .inr (10, [.ref rd, .ref wy, .ref tr, .ref im, .ref kp, .ref od, .ref ch, .ref cr, .ref le, .ref mk, .ref tl, .ref sh, .int tf, .int rf])), (wy, .inr (9, [.int (nI N), .int (nI B), .int (nI D), .ref a1, .ref a2, .ref a3, .ref a4, .ref a5, .ref a6]))] sz) [(h0, .inr (10, [.ref rd, .ref wy, .ref tr, .ref im, .ref kp, .ref od, .ref ch, .ref cr, .ref le, .ref mk, .ref tl, .ref sh, .int tf, .int rf])), (wy, .inr (9, [.int (nI N), .int (nI B), .int (nI u0), .ref a1, .ref a2, .ref a3, .ref a4, .ref a5, .ref a6]))]) (va_A [(h0, .inr (10, [.ref rd, .ref wy, .ref tr, .ref im, .ref kp, .ref od, .ref ch, .ref cr, .ref le, .ref mk, .ref tl, .ref sh, .int tf, .int rf])), (wy, .inr (9, [.int (nI N), .int (nI B), .int (nI D), .ref a1, .ref a2, .ref a3, .ref a4, .ref a5, .ref a6]))] sz)) 0 0 (va_A [(h0, .inr (10, [.ref rd, .ref wy, .ref tr, .ref im, .ref kp, .ref od, .ref ch, .ref cr, .ref le, .ref mk, .ref tl, .ref sh, .int tf, .int rf])), (wy, .inr (9, [.int (nI N), .int (nI B), .int (nI D), .ref a1, .ref a2, .ref a3, .ref a4, .ref a5, .ref a6]))] sz) := by
  refine Met.ofW (cc := cX10_start) (maxL := 3) (ret := (some .int)) (by decide) rfl ?_
  intro p e s m args below meth c s₁ Bd hml hv
  obtain ⟨rfl, hsz, hP, hK, hD0⟩ := hv
  have hx := Bd.exec
  have hb := Bd.bytes
  have hr := Bd.returns
  have hg : ∀ w ∈ GT, w.before ([.ref h0, .int v] : List Value).toArray s = true := fun w h => atoms_spec (ws := Cond.code yX10_start cX10_start 3 (some .int) :: GT) Bd.pre w (List.mem_cons_of_mem _ h)
  have hown : s.vm.findClass RX10 = some m.cls := findClass_of_methodNamed Bd.named
  have hlocks := Bd.notSynchronized
  subst hsz
  have hD := hD0.self (sz := s.heap.size)
  generalize hAe : va_A [(h0, .inr (10, [.ref rd, .ref wy, .ref tr, .ref im, .ref kp, .ref od, .ref ch, .ref cr, .ref le, .ref mk, .ref tl, .ref sh, .int tf, .int rf])), (wy, .inr (9, [.int (nI N), .int (nI B), .int (nI D), .ref a1, .ref a2, .ref a3, .ref a4, .ref a5, .ref a6]))] s.heap.size = A at hD ⊢
  have hA : ∀ q : Nat, s.heap.size ≤ q → A q := fun q h => by rw [← hAe]; exact Or.inr h
  have hS : va_S A s.heap s.heap [] := va_S.rf
  have hl := lv_entry ([.ref h0, .int v]) (n := 3) (Nat.le_of_ble_eq_true rfl)
  rw [lg_entry_eq]
  generalize (lg_sl ([.ref h0, .int v]) ++ List.replicate (3 - (lg_sl ([.ref h0, .int v])).length) Slot.unset).toArray = ls at hl ⊢
  have hl : lv_has ls 3 [(0, .ref h0), (1, .int v)] := hl
  refine lv_iload_n hx hb dX10_start_0 rfl (lv_at hl 1 rfl) ?_
  refine lv_iconst (v := 1) hx hb dX10_start_1 (by decide) ?_
  refine lv_icmp_lt (tgt := 11) hx hb dX10_start_2 (by decide) (fun c1 => ?_) (fun c1 => ?_)
  · skip
    refine lv_iconst (v := (-1)) hx hb dX10_start_11 (by decide) ?_
    have hpost : True := by
      trivial
    have hP9 := hP.sub (ws' := [(h0, .inr (10, [.ref rd, .ref wy, .ref tr, .ref im, .ref kp, .ref od, .ref ch, .ref cr, .ref le, .ref mk, .ref tl, .ref sh, .int tf, .int rf])), (wy, .inr (9, [.int (nI N), .int (nI B), .int (nI D), .ref a1, .ref a2, .ref a3, .ref a4, .ref a5, .ref a6]))]) [0, 1] rfl
    have hD9 := hD.sub (ws' := [(h0, .inr (10, [.ref rd, .ref wy, .ref tr, .ref im, .ref kp, .ref od, .ref ch, .ref cr, .ref le, .ref mk, .ref tl, .ref sh, .int tf, .int rf])), (wy, .inr (9, [.int (nI N), .int (nI B), .int (nI D), .ref a1, .ref a2, .ref a3, .ref a4, .ref a5, .ref a6]))]) [0, 1] (by decide) rfl
    refine W.widen (k := 0) (n := 0) (by omega) (by omega) ?_
    exact W.iret (v := (-1)) hx hb hr (fun t ht hW => ⟨⟨(-1), D, rfl, ⟨hpost, (by have t_c1 := ltI c1; have : (1 : Int32).toInt = 1 := (by decide); have t_n0 : (nI N).toInt = (N : Int) := nI_toInt (by omega); have t_n1 : (nI B).toInt = (B : Int) := nI_toInt (by omega); have t_n2 : (nI D).toInt = (D : Int) := nI_toInt (by omega); omega)⟩, ⟨by rw [ht]; exact hP9, hD9⟩⟩, hS.F ht⟩) hS.2.2 dX10_start_12
  · skip
    refine lv_iload_n hx hb dX10_start_5 rfl (lv_at hl 1 rfl) ?_
    refine lv_bipush (v := 9) hx hb dX10_start_6 (by decide) ?_
    refine lv_icmp_le (tgt := 13) hx hb dX10_start_8 (by decide) (fun c2 => ?_) (fun c2 => ?_)
    · skip
      obtain ⟨vv, hvv, rfl⟩ : ∃ j : Nat, j < 10 ∧ v = nI j := by
        have t_c1 := nltI c1
        have t_c2 := leI c2
        have : (1 : Int32).toInt = 1 := (by decide)
        have : (9 : Int32).toInt = 9 := (by decide)
        have t_n0 : (nI N).toInt = (N : Int) := nI_toInt (by omega)
        have t_n1 : (nI B).toInt = (B : Int) := nI_toInt (by omega)
        have t_n2 : (nI D).toInt = (D : Int) := nI_toInt (by omega)
        exact i32_nat (by omega) (by omega)
      refine lv_aload_n hx hb dX10_start_13 rfl (lv_at hl 0 rfl) ?_
      refine va_get (D := (dC, dI)) (ci := 10) (v := .ref wy) (C := RX10) (T := TX10) (N := 14) hx hb hg inG10 hown hK.1 hP 0 rfl rfl 1 (by decide) (hg _ wt_303) (fun _ h9 => h9) rfl dX10_start_14 ?_
      refine va_getN (D := (dC, dI)) (ci := 9) (v := .int (nI D)) (C := RX9) (T := TX9) (N := 9) hx hb hg inG9 hown hK.1 hP 1 rfl rfl 2 (by decide) (hK.nest wn_71) (fun _ h9 => h9) rfl dX10_start_17 ?_
      refine lv_istore_n (lv' := [(2, .int (nI D)), (0, .ref h0), (1, .int (nI vv))]) hx hb dX10_start_20 rfl hl (by decide) rfl (fun ls hl => ?_)
      refine lv_aload_n hx hb dX10_start_21 rfl (lv_at hl 1 rfl) ?_
      refine va_get (D := (dC, dI)) (ci := 10) (v := .ref wy) (C := RX10) (T := TX10) (N := 14) hx hb hg inG10 hown hK.1 hP 0 rfl rfl 1 (by decide) (hg _ wt_303) (fun _ h9 => h9) rfl dX10_start_22 ?_
      refine lv_iload_n hx hb dX10_start_25 rfl (lv_at hl 2 rfl) ?_
      refine va_putN (D := (dC, dI)) (ci := 9) (v := .int (nI vv)) (ty := .int) (C := RX9) (T := TX9) (N := 9) hx hb hg inG9 tyX9 tyX9_ok nmX9 hown hK.1 hP hD hS 1 rfl rfl 2 (by decide) (hK.nest wn_71) (fun _ h9 => h9) rfl (by decide +kernel) rfl rfl (Nat.le_of_ble_eq_true rfl) dX10_start_26 (fun H locs hP hD hS => ?_)
      have hP : va_P (dC, dI) vwCl [(h0, .inr (10, [.ref rd, .ref wy, .ref tr, .ref im, .ref kp, .ref od, .ref ch, .ref cr, .ref le, .ref mk, .ref tl, .ref sh, .int tf, .int rf])), (wy, .inr (9, [.int (nI N), .int (nI B), .int (nI vv), .ref a1, .ref a2, .ref a3, .ref a4, .ref a5, .ref a6]))] H := hP
      have hD : va_D A [(h0, .inr (10, [.ref rd, .ref wy, .ref tr, .ref im, .ref kp, .ref od, .ref ch, .ref cr, .ref le, .ref mk, .ref tl, .ref sh, .int tf, .int rf])), (wy, .inr (9, [.int (nI N), .int (nI B), .int (nI vv), .ref a1, .ref a2, .ref a3, .ref a4, .ref a5, .ref a6]))] := hD
      refine lv_iload_n hx hb dX10_start_29 rfl (lv_at hl 0 rfl) ?_
      have hpost : True := by
        trivial
      have hP9 := hP.sub (ws' := [(h0, .inr (10, [.ref rd, .ref wy, .ref tr, .ref im, .ref kp, .ref od, .ref ch, .ref cr, .ref le, .ref mk, .ref tl, .ref sh, .int tf, .int rf])), (wy, .inr (9, [.int (nI N), .int (nI B), .int (nI vv), .ref a1, .ref a2, .ref a3, .ref a4, .ref a5, .ref a6]))]) [0, 1] rfl
      have hD9 := hD.sub (ws' := [(h0, .inr (10, [.ref rd, .ref wy, .ref tr, .ref im, .ref kp, .ref od, .ref ch, .ref cr, .ref le, .ref mk, .ref tl, .ref sh, .int tf, .int rf])), (wy, .inr (9, [.int (nI N), .int (nI B), .int (nI vv), .ref a1, .ref a2, .ref a3, .ref a4, .ref a5, .ref a6]))]) [0, 1] (by decide) rfl
      refine W.widen (k := 0) (n := 0) (by omega) (by omega) ?_
      exact W.iret (v := nI D) hx hb hr (fun t ht hW => ⟨⟨nI D, vv, rfl, ⟨hpost, (by have t_c1 := nltI c1; have t_c2 := leI c2; have t_hvv := hvv; have : (1 : Int32).toInt = 1 := (by decide); have : (9 : Int32).toInt = 9 := (by decide); have t_n0 : (nI N).toInt = (N : Int) := nI_toInt (by omega); have t_n1 : (nI B).toInt = (B : Int) := nI_toInt (by omega); have t_n2 : (nI D).toInt = (D : Int) := nI_toInt (by omega); have t_n3 : (nI vv).toInt = (vv : Int) := nI_toInt (by omega); omega)⟩, ⟨by rw [ht]; exact hP9, hD9⟩⟩, hS.F ht⟩) hS.2.2 dX10_start_30
    · skip
      refine lv_iconst (v := (-1)) hx hb dX10_start_11 (by decide) ?_
      have hpost : True := by
        trivial
      have hP9 := hP.sub (ws' := [(h0, .inr (10, [.ref rd, .ref wy, .ref tr, .ref im, .ref kp, .ref od, .ref ch, .ref cr, .ref le, .ref mk, .ref tl, .ref sh, .int tf, .int rf])), (wy, .inr (9, [.int (nI N), .int (nI B), .int (nI D), .ref a1, .ref a2, .ref a3, .ref a4, .ref a5, .ref a6]))]) [0, 1] rfl
      have hD9 := hD.sub (ws' := [(h0, .inr (10, [.ref rd, .ref wy, .ref tr, .ref im, .ref kp, .ref od, .ref ch, .ref cr, .ref le, .ref mk, .ref tl, .ref sh, .int tf, .int rf])), (wy, .inr (9, [.int (nI N), .int (nI B), .int (nI D), .ref a1, .ref a2, .ref a3, .ref a4, .ref a5, .ref a6]))]) [0, 1] (by decide) rfl
      refine W.widen (k := 0) (n := 0) (by omega) (by omega) ?_
      exact W.iret (v := (-1)) hx hb hr (fun t ht hW => ⟨⟨(-1), D, rfl, ⟨hpost, (by have t_c1 := nltI c1; have t_c2 := nleI c2; have : (1 : Int32).toInt = 1 := (by decide); have : (9 : Int32).toInt = 9 := (by decide); have t_n0 : (nI N).toInt = (N : Int) := nI_toInt (by omega); have t_n1 : (nI B).toInt = (B : Int) := nI_toInt (by omega); have t_n2 : (nI D).toInt = (D : Int) := nI_toInt (by omega); omega)⟩, ⟨by rw [ht]; exact hP9, hD9⟩⟩, hS.F ht⟩) hS.2.2 dX10_start_12

set_option maxHeartbeats 1000000 in
set_option maxRecDepth 100000 in
theorem c_X10_change6 (l : Launch) (dC : Nat → ClassId) (dI : Nat → Nat → Nat) (G : Nat → ClassId) (sz : Nat) (ra k : Nat) (v : Int32) (f : Nat → Int32) (hk : k < 6) : Met l yX10_change (Cond.code yX10_change cX10_change 4 (some .int) :: GT) ({ frames := 0, cells := 0, slots := 0, locals := 0 } : Room) (PcW [.ref ra, .int (nI k), .int v] dC dI G [(ra, .inl (G 0, 6, .inl f))] sz) (va_Qi (fun (r : Int32) (u : (Nat → Int32)) => match u with | u0 => (True) ∧ True) (fun (u : (Nat → Int32)) (t : State) => match u with | u0 => va_P (dC, dI) vwCl [(ra, .inl (G 0, 6, .inl u0))] t.heap ∧ va_D (va_A [(ra, .inl (G 0, 6, .inl f))] sz) [(ra, .inl (G 0, 6, .inl u0))]) (va_A [(ra, .inl (G 0, 6, .inl f))] sz)) 0 0 (va_A [(ra, .inl (G 0, 6, .inl f))] sz) := by
  refine Met.ofW (cc := cX10_change) (maxL := 4) (ret := (some .int)) (by decide) rfl ?_
  intro p e s m args below meth c s₁ Bd hml hv
  obtain ⟨rfl, hsz, hP, hK, hD0⟩ := hv
  have hx := Bd.exec
  have hb := Bd.bytes
  have hr := Bd.returns
  have hg : ∀ w ∈ GT, w.before ([.ref ra, .int (nI k), .int v] : List Value).toArray s = true := fun w h => atoms_spec (ws := Cond.code yX10_change cX10_change 4 (some .int) :: GT) Bd.pre w (List.mem_cons_of_mem _ h)
  have hown : s.vm.findClass RX10 = some m.cls := findClass_of_methodNamed Bd.named
  have hlocks := Bd.notSynchronized
  subst hsz
  have hD := hD0.self (sz := s.heap.size)
  generalize hAe : va_A [(ra, .inl (G 0, 6, .inl f))] s.heap.size = A at hD ⊢
  have hA : ∀ q : Nat, s.heap.size ≤ q → A q := fun q h => by rw [← hAe]; exact Or.inr h
  have hS : va_S A s.heap s.heap [] := va_S.rf
  have hl := lv_entry ([.ref ra, .int (nI k), .int v]) (n := 4) (Nat.le_of_ble_eq_true rfl)
  rw [lg_entry_eq]
  generalize (lg_sl ([.ref ra, .int (nI k), .int v]) ++ List.replicate (4 - (lg_sl ([.ref ra, .int (nI k), .int v])).length) Slot.unset).toArray = ls at hl ⊢
  have hl : lv_has ls 4 [(0, .ref ra), (1, .int (nI k)), (2, .int v)] := hl
  refine lv_iload_n hx hb dX10_change_0 rfl (lv_at hl 2 rfl) ?_
  refine lv_if_lt (tgt := 20) hx hb dX10_change_1 (by decide) (fun c1 => ?_) (fun c1 => ?_)
  · skip
    refine lv_iconst (v := (-1)) hx hb dX10_change_20 (by decide) ?_
    have hpost : True := by
      trivial
    have hP9 := hP.sub (ws' := [(ra, .inl (G 0, 6, .inl f))]) [0] rfl
    have hD9 := hD.sub (ws' := [(ra, .inl (G 0, 6, .inl f))]) [0] (by decide) rfl
    refine W.widen (k := 0) (n := 0) (by omega) (by omega) ?_
    exact W.iret (v := (-1)) hx hb hr (fun t ht hW => ⟨⟨(-1), f, rfl, ⟨hpost, trivial⟩, ⟨by rw [ht]; exact hP9, hD9⟩⟩, hS.F ht⟩) hS.2.2 dX10_change_21
  · skip
    refine lv_iload_n hx hb dX10_change_4 rfl (lv_at hl 2 rfl) ?_
    refine lv_bipush (v := 9) hx hb dX10_change_5 (by decide) ?_
    refine lv_icmp_gt (tgt := 20) hx hb dX10_change_7 (by decide) (fun c2 => ?_) (fun c2 => ?_)
    · skip
      refine lv_iconst (v := (-1)) hx hb dX10_change_20 (by decide) ?_
      have hpost : True := by
        trivial
      have hP9 := hP.sub (ws' := [(ra, .inl (G 0, 6, .inl f))]) [0] rfl
      have hD9 := hD.sub (ws' := [(ra, .inl (G 0, 6, .inl f))]) [0] (by decide) rfl
      refine W.widen (k := 0) (n := 0) (by omega) (by omega) ?_
      exact W.iret (v := (-1)) hx hb hr (fun t ht hW => ⟨⟨(-1), f, rfl, ⟨hpost, trivial⟩, ⟨by rw [ht]; exact hP9, hD9⟩⟩, hS.F ht⟩) hS.2.2 dX10_change_21
    · skip
      refine lv_iload_n hx hb dX10_change_10 rfl (lv_at hl 1 rfl) ?_
      refine lv_if_lt (tgt := 20) hx hb dX10_change_11 (by decide) (fun c3 => ?_) (fun c3 => ?_)
      · skip
        have t_c1 := nltI c1
        have t_c2 := nltI c2
        have t_c3 := ltI c3
        have : (0 : Int32).toInt = 0 := (by decide)
        have : (9 : Int32).toInt = 9 := (by decide)
        have t_n0 : (nI k).toInt = (k : Int) := nI_toInt (by omega)
        exfalso; omega
      · skip
        have n4 : 0 ≤ k := by have t := nltI c3; rw [nI_toInt (n := k) (by omega)] at t; have : (0 : Int32).toInt = 0 := (by decide); omega
        refine lv_iload_n hx hb dX10_change_14 rfl (lv_at hl 1 rfl) ?_
        refine lv_aload_n hx hb dX10_change_15 rfl (lv_at hl 0 rfl) ?_
        refine va_alen (v := 6) hx hb hK.1 hP 0 0 rfl rfl (by rfl) dX10_change_16 ?_
        refine lv_icmp_lt (tgt := 22) hx hb dX10_change_17 (by decide) (fun c5 => ?_) (fun c5 => ?_)
        · skip
          have n6 : k < 6 := by have t := ltI c5; rw [nI_toInt (n := k) (by omega)] at t; have : (6 : Int32).toInt = 6 := (by decide); omega
          refine lv_aload_n hx hb dX10_change_22 rfl (lv_at hl 0 rfl) ?_
          refine lv_iload_n hx hb dX10_change_23 rfl (lv_at hl 1 rfl) ?_
          refine va_iald hx hb hK.1 hP 0 0 rfl rfl (vp_in_nI (by have t_c1 := nltI c1; have t_c2 := nltI c2; have t_n4 := n4; have t_n6 := n6; have : (0 : Int32).toInt = 0 := (by decide); have : (9 : Int32).toInt = 9 := (by decide); have t_n0 : (nI k).toInt = (k : Int) := nI_toInt (by omega); omega) (by decide)) dX10_change_24 ?_
          refine lv_cg (y := f k) (by rw [nI_clamp (by omega)]) ?_
          refine lv_istore_n (lv' := [(3, .int (f k)), (0, .ref ra), (1, .int (nI k)), (2, .int v)]) hx hb dX10_change_25 rfl hl (by decide) rfl (fun ls hl => ?_)
          refine lv_aload_n hx hb dX10_change_26 rfl (lv_at hl 1 rfl) ?_
          refine lv_iload_n hx hb dX10_change_27 rfl (lv_at hl 2 rfl) ?_
          refine lv_iload_n hx hb dX10_change_28 rfl (lv_at hl 3 rfl) ?_
          refine va_iast hx hb hK.1 hP hD hS 0 0 rfl rfl (vp_in_nI (by have t_c1 := nltI c1; have t_c2 := nltI c2; have t_n4 := n4; have t_n6 := n6; have : (0 : Int32).toInt = 0 := (by decide); have : (9 : Int32).toInt = 9 := (by decide); have t_n0 : (nI k).toInt = (k : Int) := nI_toInt (by omega); omega) (by decide)) dX10_change_29 (fun H locs hP hD hS => ?_)
          rw [nI_clamp (by omega)] at hP hD
          have hP : va_P (dC, dI) vwCl [(ra, .inl (G 0, 6, .inl (upd f k v)))] H := hP
          have hD : va_D A [(ra, .inl (G 0, 6, .inl (upd f k v)))] := hD
          refine lv_iload_n hx hb dX10_change_30 rfl (lv_at hl 0 rfl) ?_
          have hpost : True := by
            trivial
          have hP9 := hP.sub (ws' := [(ra, .inl (G 0, 6, .inl (upd f k v)))]) [0] rfl
          have hD9 := hD.sub (ws' := [(ra, .inl (G 0, 6, .inl (upd f k v)))]) [0] (by decide) rfl
          refine W.widen (k := 0) (n := 0) (by omega) (by omega) ?_
          exact W.iret (v := f k) hx hb hr (fun t ht hW => ⟨⟨f k, (upd f k v), rfl, ⟨hpost, trivial⟩, ⟨by rw [ht]; exact hP9, hD9⟩⟩, hS.F ht⟩) hS.2.2 dX10_change_31
        · skip
          have t_c1 := nltI c1
          have t_c2 := nltI c2
          have t_n4 := n4
          have t_c5 := nltI c5
          have : (0 : Int32).toInt = 0 := (by decide)
          have : (6 : Int32).toInt = 6 := (by decide)
          have : (9 : Int32).toInt = 9 := (by decide)
          have t_n0 : (nI k).toInt = (k : Int) := nI_toInt (by omega)
          exfalso; omega

set_option maxHeartbeats 1000000 in
set_option maxRecDepth 100000 in
theorem c_X10_noise (l : Launch) (dC : Nat → ClassId) (dI : Nat → Nat → Nat) (G : Nat → ClassId) (sz : Nat) (h0 rd wy tr im kp od ch cr le mk tl sh a1 a2 a3 a4 a5 a6 N B D : Nat) (tf rf i v : Int32) (f1 : Nat → Int32) (hN_N : N ≤ 10) (hB_B : B ≤ 6) (hD_D : 1 ≤ D ∧ D ≤ 9) : Met l yX10_noise (Cond.code yX10_noise cX10_noise 3 (some .int) :: GT) ({ frames := 1, cells := 0, slots := 0, locals := 23 } : Room) (PcW [.ref h0, .int i, .int v] dC dI G [(h0, .inr (10, [.ref rd, .ref wy, .ref tr, .ref im, .ref kp, .ref od, .ref ch, .ref cr, .ref le, .ref mk, .ref tl, .ref sh, .int tf, .int rf])), (wy, .inr (9, [.int (nI N), .int (nI B), .int (nI D), .ref a1, .ref a2, .ref a3, .ref a4, .ref a5, .ref a6])), (a1, .inl (G 0, 10, .inl f1))] sz) (va_Qi (fun (r : Int32) (u : (Nat → Int32)) => match u with | u0 => (True) ∧ True) (fun (u : (Nat → Int32)) (t : State) => match u with | u0 => va_P (dC, dI) vwCl [(h0, .inr (10, [.ref rd, .ref wy, .ref tr, .ref im, .ref kp, .ref od, .ref ch, .ref cr, .ref le, .ref mk, .ref tl, .ref sh, .int tf, .int rf])), (wy, .inr (9, [.int (nI N), .int (nI B), .int (nI D), .ref a1, .ref a2, .ref a3, .ref a4, .ref a5, .ref a6])), (a1, .inl (G 0, 10, .inl u0))] t.heap ∧ va_D (va_A [(h0, .inr (10, [.ref rd, .ref wy, .ref tr, .ref im, .ref kp, .ref od, .ref ch, .ref cr, .ref le, .ref mk, .ref tl, .ref sh, .int tf, .int rf])), (wy, .inr (9, [.int (nI N), .int (nI B), .int (nI D), .ref a1, .ref a2, .ref a3, .ref a4, .ref a5, .ref a6])), (a1, .inl (G 0, 10, .inl f1))] sz) [(h0, .inr (10, [.ref rd, .ref wy, .ref tr, .ref im, .ref kp, .ref od, .ref ch, .ref cr, .ref le, .ref mk, .ref tl, .ref sh, .int tf, .int rf])), (wy, .inr (9, [.int (nI N), .int (nI B), .int (nI D), .ref a1, .ref a2, .ref a3, .ref a4, .ref a5, .ref a6])), (a1, .inl (G 0, 10, .inl u0))]) (va_A [(h0, .inr (10, [.ref rd, .ref wy, .ref tr, .ref im, .ref kp, .ref od, .ref ch, .ref cr, .ref le, .ref mk, .ref tl, .ref sh, .int tf, .int rf])), (wy, .inr (9, [.int (nI N), .int (nI B), .int (nI D), .ref a1, .ref a2, .ref a3, .ref a4, .ref a5, .ref a6])), (a1, .inl (G 0, 10, .inl f1))] sz)) 0 0 (va_A [(h0, .inr (10, [.ref rd, .ref wy, .ref tr, .ref im, .ref kp, .ref od, .ref ch, .ref cr, .ref le, .ref mk, .ref tl, .ref sh, .int tf, .int rf])), (wy, .inr (9, [.int (nI N), .int (nI B), .int (nI D), .ref a1, .ref a2, .ref a3, .ref a4, .ref a5, .ref a6])), (a1, .inl (G 0, 10, .inl f1))] sz) := by
  refine Met.ofW (cc := cX10_noise) (maxL := 3) (ret := (some .int)) (by decide) rfl ?_
  intro p e s m args below meth c s₁ Bd hml hv
  obtain ⟨rfl, hsz, hP, hK, hD0⟩ := hv
  have hx := Bd.exec
  have hb := Bd.bytes
  have hr := Bd.returns
  have hg : ∀ w ∈ GT, w.before ([.ref h0, .int i, .int v] : List Value).toArray s = true := fun w h => atoms_spec (ws := Cond.code yX10_noise cX10_noise 3 (some .int) :: GT) Bd.pre w (List.mem_cons_of_mem _ h)
  have hown : s.vm.findClass RX10 = some m.cls := findClass_of_methodNamed Bd.named
  have hlocks := Bd.notSynchronized
  subst hsz
  have hD := hD0.self (sz := s.heap.size)
  generalize hAe : va_A [(h0, .inr (10, [.ref rd, .ref wy, .ref tr, .ref im, .ref kp, .ref od, .ref ch, .ref cr, .ref le, .ref mk, .ref tl, .ref sh, .int tf, .int rf])), (wy, .inr (9, [.int (nI N), .int (nI B), .int (nI D), .ref a1, .ref a2, .ref a3, .ref a4, .ref a5, .ref a6])), (a1, .inl (G 0, 10, .inl f1))] s.heap.size = A at hD ⊢
  have hA : ∀ q : Nat, s.heap.size ≤ q → A q := fun q h => by rw [← hAe]; exact Or.inr h
  have hS : va_S A s.heap s.heap [] := va_S.rf
  have hl := lv_entry ([.ref h0, .int i, .int v]) (n := 3) (Nat.le_of_ble_eq_true rfl)
  rw [lg_entry_eq]
  generalize (lg_sl ([.ref h0, .int i, .int v]) ++ List.replicate (3 - (lg_sl ([.ref h0, .int i, .int v])).length) Slot.unset).toArray = ls at hl ⊢
  have hl : lv_has ls 3 [(0, .ref h0), (1, .int i), (2, .int v)] := hl
  refine lv_aload_n hx hb dX10_noise_0 rfl (lv_at hl 0 rfl) ?_
  refine va_get (D := (dC, dI)) (ci := 10) (v := .ref wy) (C := RX10) (T := TX10) (N := 14) hx hb hg inG10 hown hK.1 hP 0 rfl rfl 1 (by decide) (hg _ wt_303) (fun _ h9 => h9) rfl dX10_noise_1 ?_
  refine lv_iload_n hx hb dX10_noise_4 rfl (lv_at hl 1 rfl) ?_
  have hPc := hP.sub (ws' := [(wy, .inr (9, [.int (nI N), .int (nI B), .int (nI D), .ref a1, .ref a2, .ref a3, .ref a4, .ref a5, .ref a6]))]) [1] rfl
  refine va_calli (va_runVN (As := [.int i]) (rest := []) ⟨hx, hb, hml, hown, hg⟩ (c_X9_hasStretch l dC dI G _ wy a1 a2 a3 a4 a5 a6 N B D i (by have t_n0 : (nI N).toInt = (N : Int) := nI_toInt (by omega); have t_n1 : (nI B).toInt = (B : Int) := nI_toInt (by omega); have t_n2 : (nI D).toInt = (D : Int) := nI_toInt (by omega); omega) (by have t_n0 : (nI N).toInt = (N : Int) := nI_toInt (by omega); have t_n1 : (nI B).toInt = (B : Int) := nI_toInt (by omega); have t_n2 : (nI D).toInt = (D : Int) := nI_toInt (by omega); omega) (by have t_n0 : (nI N).toInt = (N : Int) := nI_toInt (by omega); have t_n1 : (nI B).toInt = (B : Int) := nI_toInt (by omega); have t_n2 : (nI D).toInt = (D : Int) := nI_toInt (by omega); omega)) (kwVN hg hK mfX9_hasStretch wn_527 ⟨Nat.le_of_ble_eq_true rfl, Nat.le_of_ble_eq_true rfl⟩) (preVR hK hPc (ci := 9) rfl rfl) rfl rfl hl.1 rfl (lv_room (Nat.le_of_ble_eq_true rfl)) dX10_noise_5 ⟨Nat.le_of_ble_eq_true rfl, Nat.le_of_ble_eq_true rfl⟩) hS (fun q h1 h2 => absurd h2 (Nat.not_le.mpr h1)) (fun q h => hA q (Nat.le_trans hS.1 h)) (fun r1 ur1 t H1 locs ht hvm w2 hB hz1 hk1 hS => ?_)
  have hP := keepR hP hk1
  obtain ⟨w2, w2x⟩ := w2
  try simp only [l_ii, show (0 : Int32).toInt = 0 from by decide] at w2
  try rw [nI_toInt (n := N) (by omega)] at w2
  subst w2
  refine lv_if_eq (tgt := 26) hx hb dX10_noise_8 (by decide) (fun c3 => ?_) (fun c3 => ?_)
  · skip
    have b4 := if10_n c3
    refine lv_iconst (v := (-1)) hx hb dX10_noise_26 (by decide) ?_
    have hpost : True := by
      trivial
    have hP9 := hP.sub (ws' := [(h0, .inr (10, [.ref rd, .ref wy, .ref tr, .ref im, .ref kp, .ref od, .ref ch, .ref cr, .ref le, .ref mk, .ref tl, .ref sh, .int tf, .int rf])), (wy, .inr (9, [.int (nI N), .int (nI B), .int (nI D), .ref a1, .ref a2, .ref a3, .ref a4, .ref a5, .ref a6])), (a1, .inl (G 0, 10, .inl f1))]) [0, 1, 2] rfl
    have hD9 := hD.sub (ws' := [(h0, .inr (10, [.ref rd, .ref wy, .ref tr, .ref im, .ref kp, .ref od, .ref ch, .ref cr, .ref le, .ref mk, .ref tl, .ref sh, .int tf, .int rf])), (wy, .inr (9, [.int (nI N), .int (nI B), .int (nI D), .ref a1, .ref a2, .ref a3, .ref a4, .ref a5, .ref a6])), (a1, .inl (G 0, 10, .inl f1))]) [0, 1, 2] (by decide) rfl
    refine W.widen (k := 0) (n := 0) (by omega) (by omega) ?_
    exact W.iret (v := (-1)) hx hb hr (fun t ht hW => ⟨⟨(-1), f1, rfl, ⟨hpost, trivial⟩, ⟨by rw [ht]; exact hP9, hD9⟩⟩, hS.F ht⟩) hS.2.2 dX10_noise_27
  · skip
    have b5 := if10_p c3
    obtain ⟨ii, hii, rfl⟩ : ∃ j : Nat, j < 10 ∧ i = nI j := by
      have t_b5 := b5
      have t_n0 : (nI N).toInt = (N : Int) := nI_toInt (by omega)
      have t_n1 : (nI B).toInt = (B : Int) := nI_toInt (by omega)
      have t_n2 : (nI D).toInt = (D : Int) := nI_toInt (by omega)
      exact i32_nat (by omega) (by omega)
    refine lv_aload_n hx hb dX10_noise_11 rfl (lv_at hl 0 rfl) ?_
    refine va_get (D := (dC, dI)) (ci := 10) (v := .ref wy) (C := RX10) (T := TX10) (N := 14) hx hb hg inG10 hown hK.1 hP 0 rfl rfl 1 (by decide) (hg _ wt_303) (fun _ h9 => h9) rfl dX10_noise_12 ?_
    refine va_getN (D := (dC, dI)) (ci := 9) (v := .ref a1) (C := RX9) (T := TX9) (N := 9) hx hb hg inG9 hown hK.1 hP 1 rfl rfl 3 (by decide) (hK.nest wn_74) (fun _ h9 => h9) rfl dX10_noise_15 ?_
    refine lv_iload_n hx hb dX10_noise_18 rfl (lv_at hl 1 rfl) ?_
    refine lv_iload_n hx hb dX10_noise_19 rfl (lv_at hl 2 rfl) ?_
    have hPc := hP.sub (ws' := [(a1, .inl (G 0, 10, .inl f1))]) [2] rfl
    have hDc := hD.sub (ws' := [(a1, .inl (G 0, 10, .inl f1))]) [2] (by decide) rfl
    have hFc := va_free (wc := [(a1, .inl (G 0, 10, .inl f1))]) hD hS hA [2] rfl
    refine va_calli (va_runS (As := [.ref a1, .int (nI ii), .int v]) (rest := []) ⟨hx, hb, hml, hown, hg⟩ (c_X10_change l dC dI G _ a1 ii v f1 (by have t_b5 := b5; have t_hii := hii; have t_n0 : (nI N).toInt = (N : Int) := nI_toInt (by omega); have t_n1 : (nI B).toInt = (B : Int) := nI_toInt (by omega); have t_n2 : (nI D).toInt = (D : Int) := nI_toInt (by omega); have t_n3 : (nI ii).toInt = (ii : Int) := nI_toInt (by omega); omega)) (kwS hg mfX10_change wt_547 ⟨Nat.le_of_ble_eq_true rfl, Nat.le_of_ble_eq_true rfl⟩) (preSW hK hPc hDc) rfl rfl hl.1 rfl (lv_room (Nat.le_of_ble_eq_true rfl)) dX10_noise_20 ⟨Nat.le_of_ble_eq_true rfl, Nat.le_of_ble_eq_true rfl⟩) hS (fun q _ h => hFc q h) hFc (fun r6 ur6 t H1 locs ht hvm w7 hB hz1 hk1 hS => ?_)
    obtain ⟨u8, rfl⟩ : ∃ z, z = ur6 := ⟨_, rfl⟩
    obtain ⟨hP1, hD1⟩ := hB
    rw [ht] at hP1
    obtain ⟨hP, hD⟩ := va_join (wr := [(h0, .inr (10, [.ref rd, .ref wy, .ref tr, .ref im, .ref kp, .ref od, .ref ch, .ref cr, .ref le, .ref mk, .ref tl, .ref sh, .int tf, .int rf])), (wy, .inr (9, [.int (nI N), .int (nI B), .int (nI D), .ref a1, .ref a2, .ref a3, .ref a4, .ref a5, .ref a6]))]) (w1 := [(a1, .inl (G 0, 10, .inl u8))]) hP hD [2] [0, 1] rfl rfl (by decide) (by decide) hk1 hFc hP1 hD1
    generalize H1 = H at hP hS ⊢
    have hP : va_P (dC, dI) vwCl [(h0, .inr (10, [.ref rd, .ref wy, .ref tr, .ref im, .ref kp, .ref od, .ref ch, .ref cr, .ref le, .ref mk, .ref tl, .ref sh, .int tf, .int rf])), (wy, .inr (9, [.int (nI N), .int (nI B), .int (nI D), .ref a1, .ref a2, .ref a3, .ref a4, .ref a5, .ref a6])), (a1, .inl (G 0, 10, .inl u8))] H := hP
    have hD : va_D A [(h0, .inr (10, [.ref rd, .ref wy, .ref tr, .ref im, .ref kp, .ref od, .ref ch, .ref cr, .ref le, .ref mk, .ref tl, .ref sh, .int tf, .int rf])), (wy, .inr (9, [.int (nI N), .int (nI B), .int (nI D), .ref a1, .ref a2, .ref a3, .ref a4, .ref a5, .ref a6])), (a1, .inl (G 0, 10, .inl u8))] := hD
    obtain ⟨w7, w7x⟩ := w7
    refine lv_goto (tgt := 27) hx hb dX10_noise_23 (by decide) ?_
    have hpost : True := by
      trivial
    have hP9 := hP.sub (ws' := [(h0, .inr (10, [.ref rd, .ref wy, .ref tr, .ref im, .ref kp, .ref od, .ref ch, .ref cr, .ref le, .ref mk, .ref tl, .ref sh, .int tf, .int rf])), (wy, .inr (9, [.int (nI N), .int (nI B), .int (nI D), .ref a1, .ref a2, .ref a3, .ref a4, .ref a5, .ref a6])), (a1, .inl (G 0, 10, .inl u8))]) [0, 1, 2] rfl
    have hD9 := hD.sub (ws' := [(h0, .inr (10, [.ref rd, .ref wy, .ref tr, .ref im, .ref kp, .ref od, .ref ch, .ref cr, .ref le, .ref mk, .ref tl, .ref sh, .int tf, .int rf])), (wy, .inr (9, [.int (nI N), .int (nI B), .int (nI D), .ref a1, .ref a2, .ref a3, .ref a4, .ref a5, .ref a6])), (a1, .inl (G 0, 10, .inl u8))]) [0, 1, 2] (by decide) rfl
    refine W.widen (k := 0) (n := 0) (by omega) (by omega) ?_
    exact W.iret (v := r6) hx hb hr (fun t ht hW => ⟨⟨r6, u8, rfl, ⟨hpost, trivial⟩, ⟨by rw [ht]; exact hP9, hD9⟩⟩, hS.F ht⟩) hS.2.2 dX10_noise_27

set_option maxHeartbeats 1000000 in
set_option maxRecDepth 100000 in
theorem c_X10_cold (l : Launch) (dC : Nat → ClassId) (dI : Nat → Nat → Nat) (G : Nat → ClassId) (sz : Nat) (h0 rd wy tr im kp od ch cr le mk tl sh a1 a2 a3 a4 a5 a6 N B D : Nat) (tf rf i v : Int32) (f2 : Nat → Int32) (hN_N : N ≤ 10) (hB_B : B ≤ 6) (hD_D : 1 ≤ D ∧ D ≤ 9) : Met l yX10_cold (Cond.code yX10_cold cX10_cold 3 (some .int) :: GT) ({ frames := 1, cells := 0, slots := 0, locals := 23 } : Room) (PcW [.ref h0, .int i, .int v] dC dI G [(h0, .inr (10, [.ref rd, .ref wy, .ref tr, .ref im, .ref kp, .ref od, .ref ch, .ref cr, .ref le, .ref mk, .ref tl, .ref sh, .int tf, .int rf])), (wy, .inr (9, [.int (nI N), .int (nI B), .int (nI D), .ref a1, .ref a2, .ref a3, .ref a4, .ref a5, .ref a6])), (a2, .inl (G 0, 10, .inl f2))] sz) (va_Qi (fun (r : Int32) (u : (Nat → Int32)) => match u with | u0 => (True) ∧ True) (fun (u : (Nat → Int32)) (t : State) => match u with | u0 => va_P (dC, dI) vwCl [(h0, .inr (10, [.ref rd, .ref wy, .ref tr, .ref im, .ref kp, .ref od, .ref ch, .ref cr, .ref le, .ref mk, .ref tl, .ref sh, .int tf, .int rf])), (wy, .inr (9, [.int (nI N), .int (nI B), .int (nI D), .ref a1, .ref a2, .ref a3, .ref a4, .ref a5, .ref a6])), (a2, .inl (G 0, 10, .inl u0))] t.heap ∧ va_D (va_A [(h0, .inr (10, [.ref rd, .ref wy, .ref tr, .ref im, .ref kp, .ref od, .ref ch, .ref cr, .ref le, .ref mk, .ref tl, .ref sh, .int tf, .int rf])), (wy, .inr (9, [.int (nI N), .int (nI B), .int (nI D), .ref a1, .ref a2, .ref a3, .ref a4, .ref a5, .ref a6])), (a2, .inl (G 0, 10, .inl f2))] sz) [(h0, .inr (10, [.ref rd, .ref wy, .ref tr, .ref im, .ref kp, .ref od, .ref ch, .ref cr, .ref le, .ref mk, .ref tl, .ref sh, .int tf, .int rf])), (wy, .inr (9, [.int (nI N), .int (nI B), .int (nI D), .ref a1, .ref a2, .ref a3, .ref a4, .ref a5, .ref a6])), (a2, .inl (G 0, 10, .inl u0))]) (va_A [(h0, .inr (10, [.ref rd, .ref wy, .ref tr, .ref im, .ref kp, .ref od, .ref ch, .ref cr, .ref le, .ref mk, .ref tl, .ref sh, .int tf, .int rf])), (wy, .inr (9, [.int (nI N), .int (nI B), .int (nI D), .ref a1, .ref a2, .ref a3, .ref a4, .ref a5, .ref a6])), (a2, .inl (G 0, 10, .inl f2))] sz)) 0 0 (va_A [(h0, .inr (10, [.ref rd, .ref wy, .ref tr, .ref im, .ref kp, .ref od, .ref ch, .ref cr, .ref le, .ref mk, .ref tl, .ref sh, .int tf, .int rf])), (wy, .inr (9, [.int (nI N), .int (nI B), .int (nI D), .ref a1, .ref a2, .ref a3, .ref a4, .ref a5, .ref a6])), (a2, .inl (G 0, 10, .inl f2))] sz) := by
  refine Met.ofW (cc := cX10_cold) (maxL := 3) (ret := (some .int)) (by decide) rfl ?_
  intro p e s m args below meth c s₁ Bd hml hv
  obtain ⟨rfl, hsz, hP, hK, hD0⟩ := hv
  have hx := Bd.exec
  have hb := Bd.bytes
  have hr := Bd.returns
  have hg : ∀ w ∈ GT, w.before ([.ref h0, .int i, .int v] : List Value).toArray s = true := fun w h => atoms_spec (ws := Cond.code yX10_cold cX10_cold 3 (some .int) :: GT) Bd.pre w (List.mem_cons_of_mem _ h)
  have hown : s.vm.findClass RX10 = some m.cls := findClass_of_methodNamed Bd.named
  have hlocks := Bd.notSynchronized
  subst hsz
  have hD := hD0.self (sz := s.heap.size)
  generalize hAe : va_A [(h0, .inr (10, [.ref rd, .ref wy, .ref tr, .ref im, .ref kp, .ref od, .ref ch, .ref cr, .ref le, .ref mk, .ref tl, .ref sh, .int tf, .int rf])), (wy, .inr (9, [.int (nI N), .int (nI B), .int (nI D), .ref a1, .ref a2, .ref a3, .ref a4, .ref a5, .ref a6])), (a2, .inl (G 0, 10, .inl f2))] s.heap.size = A at hD ⊢
  have hA : ∀ q : Nat, s.heap.size ≤ q → A q := fun q h => by rw [← hAe]; exact Or.inr h
  have hS : va_S A s.heap s.heap [] := va_S.rf
  have hl := lv_entry ([.ref h0, .int i, .int v]) (n := 3) (Nat.le_of_ble_eq_true rfl)
  rw [lg_entry_eq]
  generalize (lg_sl ([.ref h0, .int i, .int v]) ++ List.replicate (3 - (lg_sl ([.ref h0, .int i, .int v])).length) Slot.unset).toArray = ls at hl ⊢
  have hl : lv_has ls 3 [(0, .ref h0), (1, .int i), (2, .int v)] := hl
  refine lv_aload_n hx hb dX10_cold_0 rfl (lv_at hl 0 rfl) ?_
  refine va_get (D := (dC, dI)) (ci := 10) (v := .ref wy) (C := RX10) (T := TX10) (N := 14) hx hb hg inG10 hown hK.1 hP 0 rfl rfl 1 (by decide) (hg _ wt_303) (fun _ h9 => h9) rfl dX10_cold_1 ?_
  refine lv_iload_n hx hb dX10_cold_4 rfl (lv_at hl 1 rfl) ?_
  have hPc := hP.sub (ws' := [(wy, .inr (9, [.int (nI N), .int (nI B), .int (nI D), .ref a1, .ref a2, .ref a3, .ref a4, .ref a5, .ref a6]))]) [1] rfl
  refine va_calli (va_runVN (As := [.int i]) (rest := []) ⟨hx, hb, hml, hown, hg⟩ (c_X9_hasStretch l dC dI G _ wy a1 a2 a3 a4 a5 a6 N B D i (by have t_n0 : (nI N).toInt = (N : Int) := nI_toInt (by omega); have t_n1 : (nI B).toInt = (B : Int) := nI_toInt (by omega); have t_n2 : (nI D).toInt = (D : Int) := nI_toInt (by omega); omega) (by have t_n0 : (nI N).toInt = (N : Int) := nI_toInt (by omega); have t_n1 : (nI B).toInt = (B : Int) := nI_toInt (by omega); have t_n2 : (nI D).toInt = (D : Int) := nI_toInt (by omega); omega) (by have t_n0 : (nI N).toInt = (N : Int) := nI_toInt (by omega); have t_n1 : (nI B).toInt = (B : Int) := nI_toInt (by omega); have t_n2 : (nI D).toInt = (D : Int) := nI_toInt (by omega); omega)) (kwVN hg hK mfX9_hasStretch wn_527 ⟨Nat.le_of_ble_eq_true rfl, Nat.le_of_ble_eq_true rfl⟩) (preVR hK hPc (ci := 9) rfl rfl) rfl rfl hl.1 rfl (lv_room (Nat.le_of_ble_eq_true rfl)) dX10_cold_5 ⟨Nat.le_of_ble_eq_true rfl, Nat.le_of_ble_eq_true rfl⟩) hS (fun q h1 h2 => absurd h2 (Nat.not_le.mpr h1)) (fun q h => hA q (Nat.le_trans hS.1 h)) (fun r1 ur1 t H1 locs ht hvm w2 hB hz1 hk1 hS => ?_)
  have hP := keepR hP hk1
  obtain ⟨w2, w2x⟩ := w2
  try simp only [l_ii, show (0 : Int32).toInt = 0 from by decide] at w2
  try rw [nI_toInt (n := N) (by omega)] at w2
  subst w2
  refine lv_if_eq (tgt := 26) hx hb dX10_cold_8 (by decide) (fun c3 => ?_) (fun c3 => ?_)
  · skip
    have b4 := if10_n c3
    refine lv_iconst (v := (-1)) hx hb dX10_cold_26 (by decide) ?_
    have hpost : True := by
      trivial
    have hP9 := hP.sub (ws' := [(h0, .inr (10, [.ref rd, .ref wy, .ref tr, .ref im, .ref kp, .ref od, .ref ch, .ref cr, .ref le, .ref mk, .ref tl, .ref sh, .int tf, .int rf])), (wy, .inr (9, [.int (nI N), .int (nI B), .int (nI D), .ref a1, .ref a2, .ref a3, .ref a4, .ref a5, .ref a6])), (a2, .inl (G 0, 10, .inl f2))]) [0, 1, 2] rfl
    have hD9 := hD.sub (ws' := [(h0, .inr (10, [.ref rd, .ref wy, .ref tr, .ref im, .ref kp, .ref od, .ref ch, .ref cr, .ref le, .ref mk, .ref tl, .ref sh, .int tf, .int rf])), (wy, .inr (9, [.int (nI N), .int (nI B), .int (nI D), .ref a1, .ref a2, .ref a3, .ref a4, .ref a5, .ref a6])), (a2, .inl (G 0, 10, .inl f2))]) [0, 1, 2] (by decide) rfl
    refine W.widen (k := 0) (n := 0) (by omega) (by omega) ?_
    exact W.iret (v := (-1)) hx hb hr (fun t ht hW => ⟨⟨(-1), f2, rfl, ⟨hpost, trivial⟩, ⟨by rw [ht]; exact hP9, hD9⟩⟩, hS.F ht⟩) hS.2.2 dX10_cold_27
  · skip
    have b5 := if10_p c3
    obtain ⟨ii, hii, rfl⟩ : ∃ j : Nat, j < 10 ∧ i = nI j := by
      have t_b5 := b5
      have t_n0 : (nI N).toInt = (N : Int) := nI_toInt (by omega)
      have t_n1 : (nI B).toInt = (B : Int) := nI_toInt (by omega)
      have t_n2 : (nI D).toInt = (D : Int) := nI_toInt (by omega)
      exact i32_nat (by omega) (by omega)
    refine lv_aload_n hx hb dX10_cold_11 rfl (lv_at hl 0 rfl) ?_
    refine va_get (D := (dC, dI)) (ci := 10) (v := .ref wy) (C := RX10) (T := TX10) (N := 14) hx hb hg inG10 hown hK.1 hP 0 rfl rfl 1 (by decide) (hg _ wt_303) (fun _ h9 => h9) rfl dX10_cold_12 ?_
    refine va_getN (D := (dC, dI)) (ci := 9) (v := .ref a2) (C := RX9) (T := TX9) (N := 9) hx hb hg inG9 hown hK.1 hP 1 rfl rfl 4 (by decide) (hK.nest wn_76) (fun _ h9 => h9) rfl dX10_cold_15 ?_
    refine lv_iload_n hx hb dX10_cold_18 rfl (lv_at hl 1 rfl) ?_
    refine lv_iload_n hx hb dX10_cold_19 rfl (lv_at hl 2 rfl) ?_
    have hPc := hP.sub (ws' := [(a2, .inl (G 0, 10, .inl f2))]) [2] rfl
    have hDc := hD.sub (ws' := [(a2, .inl (G 0, 10, .inl f2))]) [2] (by decide) rfl
    have hFc := va_free (wc := [(a2, .inl (G 0, 10, .inl f2))]) hD hS hA [2] rfl
    refine va_calli (va_runS (As := [.ref a2, .int (nI ii), .int v]) (rest := []) ⟨hx, hb, hml, hown, hg⟩ (c_X10_change l dC dI G _ a2 ii v f2 (by have t_b5 := b5; have t_hii := hii; have t_n0 : (nI N).toInt = (N : Int) := nI_toInt (by omega); have t_n1 : (nI B).toInt = (B : Int) := nI_toInt (by omega); have t_n2 : (nI D).toInt = (D : Int) := nI_toInt (by omega); have t_n3 : (nI ii).toInt = (ii : Int) := nI_toInt (by omega); omega)) (kwS hg mfX10_change wt_547 ⟨Nat.le_of_ble_eq_true rfl, Nat.le_of_ble_eq_true rfl⟩) (preSW hK hPc hDc) rfl rfl hl.1 rfl (lv_room (Nat.le_of_ble_eq_true rfl)) dX10_cold_20 ⟨Nat.le_of_ble_eq_true rfl, Nat.le_of_ble_eq_true rfl⟩) hS (fun q _ h => hFc q h) hFc (fun r6 ur6 t H1 locs ht hvm w7 hB hz1 hk1 hS => ?_)
    obtain ⟨u8, rfl⟩ : ∃ z, z = ur6 := ⟨_, rfl⟩
    obtain ⟨hP1, hD1⟩ := hB
    rw [ht] at hP1
    obtain ⟨hP, hD⟩ := va_join (wr := [(h0, .inr (10, [.ref rd, .ref wy, .ref tr, .ref im, .ref kp, .ref od, .ref ch, .ref cr, .ref le, .ref mk, .ref tl, .ref sh, .int tf, .int rf])), (wy, .inr (9, [.int (nI N), .int (nI B), .int (nI D), .ref a1, .ref a2, .ref a3, .ref a4, .ref a5, .ref a6]))]) (w1 := [(a2, .inl (G 0, 10, .inl u8))]) hP hD [2] [0, 1] rfl rfl (by decide) (by decide) hk1 hFc hP1 hD1
    generalize H1 = H at hP hS ⊢
    have hP : va_P (dC, dI) vwCl [(h0, .inr (10, [.ref rd, .ref wy, .ref tr, .ref im, .ref kp, .ref od, .ref ch, .ref cr, .ref le, .ref mk, .ref tl, .ref sh, .int tf, .int rf])), (wy, .inr (9, [.int (nI N), .int (nI B), .int (nI D), .ref a1, .ref a2, .ref a3, .ref a4, .ref a5, .ref a6])), (a2, .inl (G 0, 10, .inl u8))] H := hP
    have hD : va_D A [(h0, .inr (10, [.ref rd, .ref wy, .ref tr, .ref im, .ref kp, .ref od, .ref ch, .ref cr, .ref le, .ref mk, .ref tl, .ref sh, .int tf, .int rf])), (wy, .inr (9, [.int (nI N), .int (nI B), .int (nI D), .ref a1, .ref a2, .ref a3, .ref a4, .ref a5, .ref a6])), (a2, .inl (G 0, 10, .inl u8))] := hD
    obtain ⟨w7, w7x⟩ := w7
    refine lv_goto (tgt := 27) hx hb dX10_cold_23 (by decide) ?_
    have hpost : True := by
      trivial
    have hP9 := hP.sub (ws' := [(h0, .inr (10, [.ref rd, .ref wy, .ref tr, .ref im, .ref kp, .ref od, .ref ch, .ref cr, .ref le, .ref mk, .ref tl, .ref sh, .int tf, .int rf])), (wy, .inr (9, [.int (nI N), .int (nI B), .int (nI D), .ref a1, .ref a2, .ref a3, .ref a4, .ref a5, .ref a6])), (a2, .inl (G 0, 10, .inl u8))]) [0, 1, 2] rfl
    have hD9 := hD.sub (ws' := [(h0, .inr (10, [.ref rd, .ref wy, .ref tr, .ref im, .ref kp, .ref od, .ref ch, .ref cr, .ref le, .ref mk, .ref tl, .ref sh, .int tf, .int rf])), (wy, .inr (9, [.int (nI N), .int (nI B), .int (nI D), .ref a1, .ref a2, .ref a3, .ref a4, .ref a5, .ref a6])), (a2, .inl (G 0, 10, .inl u8))]) [0, 1, 2] (by decide) rfl
    refine W.widen (k := 0) (n := 0) (by omega) (by omega) ?_
    exact W.iret (v := r6) hx hb hr (fun t ht hW => ⟨⟨r6, u8, rfl, ⟨hpost, trivial⟩, ⟨by rw [ht]; exact hP9, hD9⟩⟩, hS.F ht⟩) hS.2.2 dX10_cold_27

set_option maxHeartbeats 1000000 in
set_option maxRecDepth 100000 in
theorem c_X10_step (l : Launch) (dC : Nat → ClassId) (dI : Nat → Nat → Nat) (G : Nat → ClassId) (sz : Nat) (h0 rd wy tr im kp od ch cr le mk tl sh a1 a2 a3 a4 a5 a6 N B D : Nat) (tf rf i v : Int32) (f5 : Nat → Int32) (hN_N : N ≤ 10) (hB_B : B ≤ 6) (hD_D : 1 ≤ D ∧ D ≤ 9) : Met l yX10_step (Cond.code yX10_step cX10_step 3 (some .int) :: GT) ({ frames := 1, cells := 0, slots := 0, locals := 23 } : Room) (PcW [.ref h0, .int i, .int v] dC dI G [(h0, .inr (10, [.ref rd, .ref wy, .ref tr, .ref im, .ref kp, .ref od, .ref ch, .ref cr, .ref le, .ref mk, .ref tl, .ref sh, .int tf, .int rf])), (wy, .inr (9, [.int (nI N), .int (nI B), .int (nI D), .ref a1, .ref a2, .ref a3, .ref a4, .ref a5, .ref a6])), (a5, .inl (G 0, 6, .inl f5))] sz) (va_Qi (fun (r : Int32) (u : (Nat → Int32)) => match u with | u0 => (True) ∧ True) (fun (u : (Nat → Int32)) (t : State) => match u with | u0 => va_P (dC, dI) vwCl [(h0, .inr (10, [.ref rd, .ref wy, .ref tr, .ref im, .ref kp, .ref od, .ref ch, .ref cr, .ref le, .ref mk, .ref tl, .ref sh, .int tf, .int rf])), (wy, .inr (9, [.int (nI N), .int (nI B), .int (nI D), .ref a1, .ref a2, .ref a3, .ref a4, .ref a5, .ref a6])), (a5, .inl (G 0, 6, .inl u0))] t.heap ∧ va_D (va_A [(h0, .inr (10, [.ref rd, .ref wy, .ref tr, .ref im, .ref kp, .ref od, .ref ch, .ref cr, .ref le, .ref mk, .ref tl, .ref sh, .int tf, .int rf])), (wy, .inr (9, [.int (nI N), .int (nI B), .int (nI D), .ref a1, .ref a2, .ref a3, .ref a4, .ref a5, .ref a6])), (a5, .inl (G 0, 6, .inl f5))] sz) [(h0, .inr (10, [.ref rd, .ref wy, .ref tr, .ref im, .ref kp, .ref od, .ref ch, .ref cr, .ref le, .ref mk, .ref tl, .ref sh, .int tf, .int rf])), (wy, .inr (9, [.int (nI N), .int (nI B), .int (nI D), .ref a1, .ref a2, .ref a3, .ref a4, .ref a5, .ref a6])), (a5, .inl (G 0, 6, .inl u0))]) (va_A [(h0, .inr (10, [.ref rd, .ref wy, .ref tr, .ref im, .ref kp, .ref od, .ref ch, .ref cr, .ref le, .ref mk, .ref tl, .ref sh, .int tf, .int rf])), (wy, .inr (9, [.int (nI N), .int (nI B), .int (nI D), .ref a1, .ref a2, .ref a3, .ref a4, .ref a5, .ref a6])), (a5, .inl (G 0, 6, .inl f5))] sz)) 0 0 (va_A [(h0, .inr (10, [.ref rd, .ref wy, .ref tr, .ref im, .ref kp, .ref od, .ref ch, .ref cr, .ref le, .ref mk, .ref tl, .ref sh, .int tf, .int rf])), (wy, .inr (9, [.int (nI N), .int (nI B), .int (nI D), .ref a1, .ref a2, .ref a3, .ref a4, .ref a5, .ref a6])), (a5, .inl (G 0, 6, .inl f5))] sz) := by
  refine Met.ofW (cc := cX10_step) (maxL := 3) (ret := (some .int)) (by decide) rfl ?_
  intro p e s m args below meth c s₁ Bd hml hv
  obtain ⟨rfl, hsz, hP, hK, hD0⟩ := hv
  have hx := Bd.exec
  have hb := Bd.bytes
  have hr := Bd.returns
  have hg : ∀ w ∈ GT, w.before ([.ref h0, .int i, .int v] : List Value).toArray s = true := fun w h => atoms_spec (ws := Cond.code yX10_step cX10_step 3 (some .int) :: GT) Bd.pre w (List.mem_cons_of_mem _ h)
  have hown : s.vm.findClass RX10 = some m.cls := findClass_of_methodNamed Bd.named
  have hlocks := Bd.notSynchronized
  subst hsz
  have hD := hD0.self (sz := s.heap.size)
  generalize hAe : va_A [(h0, .inr (10, [.ref rd, .ref wy, .ref tr, .ref im, .ref kp, .ref od, .ref ch, .ref cr, .ref le, .ref mk, .ref tl, .ref sh, .int tf, .int rf])), (wy, .inr (9, [.int (nI N), .int (nI B), .int (nI D), .ref a1, .ref a2, .ref a3, .ref a4, .ref a5, .ref a6])), (a5, .inl (G 0, 6, .inl f5))] s.heap.size = A at hD ⊢
  have hA : ∀ q : Nat, s.heap.size ≤ q → A q := fun q h => by rw [← hAe]; exact Or.inr h
  have hS : va_S A s.heap s.heap [] := va_S.rf
  have hl := lv_entry ([.ref h0, .int i, .int v]) (n := 3) (Nat.le_of_ble_eq_true rfl)
  rw [lg_entry_eq]
  generalize (lg_sl ([.ref h0, .int i, .int v]) ++ List.replicate (3 - (lg_sl ([.ref h0, .int i, .int v])).length) Slot.unset).toArray = ls at hl ⊢
  have hl : lv_has ls 3 [(0, .ref h0), (1, .int i), (2, .int v)] := hl
  refine lv_aload_n hx hb dX10_step_0 rfl (lv_at hl 0 rfl) ?_
  refine va_get (D := (dC, dI)) (ci := 10) (v := .ref wy) (C := RX10) (T := TX10) (N := 14) hx hb hg inG10 hown hK.1 hP 0 rfl rfl 1 (by decide) (hg _ wt_303) (fun _ h9 => h9) rfl dX10_step_1 ?_
  refine lv_iload_n hx hb dX10_step_4 rfl (lv_at hl 1 rfl) ?_
  have hPc := hP.sub (ws' := [(wy, .inr (9, [.int (nI N), .int (nI B), .int (nI D), .ref a1, .ref a2, .ref a3, .ref a4, .ref a5, .ref a6]))]) [1] rfl
  refine va_calli (va_runVN (As := [.int i]) (rest := []) ⟨hx, hb, hml, hown, hg⟩ (c_X9_hasBearer l dC dI G _ wy a1 a2 a3 a4 a5 a6 N B D i (by have t_n0 : (nI N).toInt = (N : Int) := nI_toInt (by omega); have t_n1 : (nI B).toInt = (B : Int) := nI_toInt (by omega); have t_n2 : (nI D).toInt = (D : Int) := nI_toInt (by omega); omega) (by have t_n0 : (nI N).toInt = (N : Int) := nI_toInt (by omega); have t_n1 : (nI B).toInt = (B : Int) := nI_toInt (by omega); have t_n2 : (nI D).toInt = (D : Int) := nI_toInt (by omega); omega) (by have t_n0 : (nI N).toInt = (N : Int) := nI_toInt (by omega); have t_n1 : (nI B).toInt = (B : Int) := nI_toInt (by omega); have t_n2 : (nI D).toInt = (D : Int) := nI_toInt (by omega); omega)) (kwVN hg hK mfX9_hasBearer wn_535 ⟨Nat.le_of_ble_eq_true rfl, Nat.le_of_ble_eq_true rfl⟩) (preVR hK hPc (ci := 9) rfl rfl) rfl rfl hl.1 rfl (lv_room (Nat.le_of_ble_eq_true rfl)) dX10_step_5 ⟨Nat.le_of_ble_eq_true rfl, Nat.le_of_ble_eq_true rfl⟩) hS (fun q h1 h2 => absurd h2 (Nat.not_le.mpr h1)) (fun q h => hA q (Nat.le_trans hS.1 h)) (fun r1 ur1 t H1 locs ht hvm w2 hB hz1 hk1 hS => ?_)
  have hP := keepR hP hk1
  obtain ⟨w2, w2x⟩ := w2
  try simp only [l_ii, show (0 : Int32).toInt = 0 from by decide] at w2
  try rw [nI_toInt (n := B) (by omega)] at w2
  subst w2
  refine lv_if_eq (tgt := 26) hx hb dX10_step_8 (by decide) (fun c3 => ?_) (fun c3 => ?_)
  · skip
    have b4 := if10_n c3
    refine lv_iconst (v := (-1)) hx hb dX10_step_26 (by decide) ?_
    have hpost : True := by
      trivial
    have hP9 := hP.sub (ws' := [(h0, .inr (10, [.ref rd, .ref wy, .ref tr, .ref im, .ref kp, .ref od, .ref ch, .ref cr, .ref le, .ref mk, .ref tl, .ref sh, .int tf, .int rf])), (wy, .inr (9, [.int (nI N), .int (nI B), .int (nI D), .ref a1, .ref a2, .ref a3, .ref a4, .ref a5, .ref a6])), (a5, .inl (G 0, 6, .inl f5))]) [0, 1, 2] rfl
    have hD9 := hD.sub (ws' := [(h0, .inr (10, [.ref rd, .ref wy, .ref tr, .ref im, .ref kp, .ref od, .ref ch, .ref cr, .ref le, .ref mk, .ref tl, .ref sh, .int tf, .int rf])), (wy, .inr (9, [.int (nI N), .int (nI B), .int (nI D), .ref a1, .ref a2, .ref a3, .ref a4, .ref a5, .ref a6])), (a5, .inl (G 0, 6, .inl f5))]) [0, 1, 2] (by decide) rfl
    refine W.widen (k := 0) (n := 0) (by omega) (by omega) ?_
    exact W.iret (v := (-1)) hx hb hr (fun t ht hW => ⟨⟨(-1), f5, rfl, ⟨hpost, trivial⟩, ⟨by rw [ht]; exact hP9, hD9⟩⟩, hS.F ht⟩) hS.2.2 dX10_step_27
  · skip
    have b5 := if10_p c3
    obtain ⟨ii, hii, rfl⟩ : ∃ j : Nat, j < 6 ∧ i = nI j := by
      have t_b5 := b5
      have t_n0 : (nI N).toInt = (N : Int) := nI_toInt (by omega)
      have t_n1 : (nI B).toInt = (B : Int) := nI_toInt (by omega)
      have t_n2 : (nI D).toInt = (D : Int) := nI_toInt (by omega)
      exact i32_nat (by omega) (by omega)
    refine lv_aload_n hx hb dX10_step_11 rfl (lv_at hl 0 rfl) ?_
    refine va_get (D := (dC, dI)) (ci := 10) (v := .ref wy) (C := RX10) (T := TX10) (N := 14) hx hb hg inG10 hown hK.1 hP 0 rfl rfl 1 (by decide) (hg _ wt_303) (fun _ h9 => h9) rfl dX10_step_12 ?_
    refine va_getN (D := (dC, dI)) (ci := 9) (v := .ref a5) (C := RX9) (T := TX9) (N := 9) hx hb hg inG9 hown hK.1 hP 1 rfl rfl 7 (by decide) (hK.nest wn_83) (fun _ h9 => h9) rfl dX10_step_15 ?_
    refine lv_iload_n hx hb dX10_step_18 rfl (lv_at hl 1 rfl) ?_
    refine lv_iload_n hx hb dX10_step_19 rfl (lv_at hl 2 rfl) ?_
    have hPc := hP.sub (ws' := [(a5, .inl (G 0, 6, .inl f5))]) [2] rfl
    have hDc := hD.sub (ws' := [(a5, .inl (G 0, 6, .inl f5))]) [2] (by decide) rfl
    have hFc := va_free (wc := [(a5, .inl (G 0, 6, .inl f5))]) hD hS hA [2] rfl
    refine va_calli (va_runS (As := [.ref a5, .int (nI ii), .int v]) (rest := []) ⟨hx, hb, hml, hown, hg⟩ (c_X10_change6 l dC dI G _ a5 ii v f5 (by have t_b5 := b5; have t_hii := hii; have t_n0 : (nI N).toInt = (N : Int) := nI_toInt (by omega); have t_n1 : (nI B).toInt = (B : Int) := nI_toInt (by omega); have t_n2 : (nI D).toInt = (D : Int) := nI_toInt (by omega); have t_n3 : (nI ii).toInt = (ii : Int) := nI_toInt (by omega); omega)) (kwS hg mfX10_change wt_547 ⟨Nat.le_of_ble_eq_true rfl, Nat.le_of_ble_eq_true rfl⟩) (preSW hK hPc hDc) rfl rfl hl.1 rfl (lv_room (Nat.le_of_ble_eq_true rfl)) dX10_step_20 ⟨Nat.le_of_ble_eq_true rfl, Nat.le_of_ble_eq_true rfl⟩) hS (fun q _ h => hFc q h) hFc (fun r6 ur6 t H1 locs ht hvm w7 hB hz1 hk1 hS => ?_)
    obtain ⟨u8, rfl⟩ : ∃ z, z = ur6 := ⟨_, rfl⟩
    obtain ⟨hP1, hD1⟩ := hB
    rw [ht] at hP1
    obtain ⟨hP, hD⟩ := va_join (wr := [(h0, .inr (10, [.ref rd, .ref wy, .ref tr, .ref im, .ref kp, .ref od, .ref ch, .ref cr, .ref le, .ref mk, .ref tl, .ref sh, .int tf, .int rf])), (wy, .inr (9, [.int (nI N), .int (nI B), .int (nI D), .ref a1, .ref a2, .ref a3, .ref a4, .ref a5, .ref a6]))]) (w1 := [(a5, .inl (G 0, 6, .inl u8))]) hP hD [2] [0, 1] rfl rfl (by decide) (by decide) hk1 hFc hP1 hD1
    generalize H1 = H at hP hS ⊢
    have hP : va_P (dC, dI) vwCl [(h0, .inr (10, [.ref rd, .ref wy, .ref tr, .ref im, .ref kp, .ref od, .ref ch, .ref cr, .ref le, .ref mk, .ref tl, .ref sh, .int tf, .int rf])), (wy, .inr (9, [.int (nI N), .int (nI B), .int (nI D), .ref a1, .ref a2, .ref a3, .ref a4, .ref a5, .ref a6])), (a5, .inl (G 0, 6, .inl u8))] H := hP
    have hD : va_D A [(h0, .inr (10, [.ref rd, .ref wy, .ref tr, .ref im, .ref kp, .ref od, .ref ch, .ref cr, .ref le, .ref mk, .ref tl, .ref sh, .int tf, .int rf])), (wy, .inr (9, [.int (nI N), .int (nI B), .int (nI D), .ref a1, .ref a2, .ref a3, .ref a4, .ref a5, .ref a6])), (a5, .inl (G 0, 6, .inl u8))] := hD
    obtain ⟨w7, w7x⟩ := w7
    refine lv_goto (tgt := 27) hx hb dX10_step_23 (by decide) ?_
    have hpost : True := by
      trivial
    have hP9 := hP.sub (ws' := [(h0, .inr (10, [.ref rd, .ref wy, .ref tr, .ref im, .ref kp, .ref od, .ref ch, .ref cr, .ref le, .ref mk, .ref tl, .ref sh, .int tf, .int rf])), (wy, .inr (9, [.int (nI N), .int (nI B), .int (nI D), .ref a1, .ref a2, .ref a3, .ref a4, .ref a5, .ref a6])), (a5, .inl (G 0, 6, .inl u8))]) [0, 1, 2] rfl
    have hD9 := hD.sub (ws' := [(h0, .inr (10, [.ref rd, .ref wy, .ref tr, .ref im, .ref kp, .ref od, .ref ch, .ref cr, .ref le, .ref mk, .ref tl, .ref sh, .int tf, .int rf])), (wy, .inr (9, [.int (nI N), .int (nI B), .int (nI D), .ref a1, .ref a2, .ref a3, .ref a4, .ref a5, .ref a6])), (a5, .inl (G 0, 6, .inl u8))]) [0, 1, 2] (by decide) rfl
    refine W.widen (k := 0) (n := 0) (by omega) (by omega) ?_
    exact W.iret (v := r6) hx hb hr (fun t ht hW => ⟨⟨r6, u8, rfl, ⟨hpost, trivial⟩, ⟨by rw [ht]; exact hP9, hD9⟩⟩, hS.F ht⟩) hS.2.2 dX10_step_27

set_option maxHeartbeats 1000000 in
set_option maxRecDepth 100000 in
theorem c_X10_warm (l : Launch) (dC : Nat → ClassId) (dI : Nat → Nat → Nat) (G : Nat → ClassId) (sz : Nat) (h0 rd wy tr im kp od ch cr le mk tl sh a1 a2 a3 a4 a5 a6 N B D : Nat) (tf rf i v : Int32) (f6 : Nat → Int32) (hN_N : N ≤ 10) (hB_B : B ≤ 6) (hD_D : 1 ≤ D ∧ D ≤ 9) : Met l yX10_warm (Cond.code yX10_warm cX10_warm 3 (some .int) :: GT) ({ frames := 1, cells := 0, slots := 0, locals := 23 } : Room) (PcW [.ref h0, .int i, .int v] dC dI G [(h0, .inr (10, [.ref rd, .ref wy, .ref tr, .ref im, .ref kp, .ref od, .ref ch, .ref cr, .ref le, .ref mk, .ref tl, .ref sh, .int tf, .int rf])), (wy, .inr (9, [.int (nI N), .int (nI B), .int (nI D), .ref a1, .ref a2, .ref a3, .ref a4, .ref a5, .ref a6])), (a6, .inl (G 0, 6, .inl f6))] sz) (va_Qi (fun (r : Int32) (u : (Nat → Int32)) => match u with | u0 => (True) ∧ True) (fun (u : (Nat → Int32)) (t : State) => match u with | u0 => va_P (dC, dI) vwCl [(h0, .inr (10, [.ref rd, .ref wy, .ref tr, .ref im, .ref kp, .ref od, .ref ch, .ref cr, .ref le, .ref mk, .ref tl, .ref sh, .int tf, .int rf])), (wy, .inr (9, [.int (nI N), .int (nI B), .int (nI D), .ref a1, .ref a2, .ref a3, .ref a4, .ref a5, .ref a6])), (a6, .inl (G 0, 6, .inl u0))] t.heap ∧ va_D (va_A [(h0, .inr (10, [.ref rd, .ref wy, .ref tr, .ref im, .ref kp, .ref od, .ref ch, .ref cr, .ref le, .ref mk, .ref tl, .ref sh, .int tf, .int rf])), (wy, .inr (9, [.int (nI N), .int (nI B), .int (nI D), .ref a1, .ref a2, .ref a3, .ref a4, .ref a5, .ref a6])), (a6, .inl (G 0, 6, .inl f6))] sz) [(h0, .inr (10, [.ref rd, .ref wy, .ref tr, .ref im, .ref kp, .ref od, .ref ch, .ref cr, .ref le, .ref mk, .ref tl, .ref sh, .int tf, .int rf])), (wy, .inr (9, [.int (nI N), .int (nI B), .int (nI D), .ref a1, .ref a2, .ref a3, .ref a4, .ref a5, .ref a6])), (a6, .inl (G 0, 6, .inl u0))]) (va_A [(h0, .inr (10, [.ref rd, .ref wy, .ref tr, .ref im, .ref kp, .ref od, .ref ch, .ref cr, .ref le, .ref mk, .ref tl, .ref sh, .int tf, .int rf])), (wy, .inr (9, [.int (nI N), .int (nI B), .int (nI D), .ref a1, .ref a2, .ref a3, .ref a4, .ref a5, .ref a6])), (a6, .inl (G 0, 6, .inl f6))] sz)) 0 0 (va_A [(h0, .inr (10, [.ref rd, .ref wy, .ref tr, .ref im, .ref kp, .ref od, .ref ch, .ref cr, .ref le, .ref mk, .ref tl, .ref sh, .int tf, .int rf])), (wy, .inr (9, [.int (nI N), .int (nI B), .int (nI D), .ref a1, .ref a2, .ref a3, .ref a4, .ref a5, .ref a6])), (a6, .inl (G 0, 6, .inl f6))] sz) := by
  refine Met.ofW (cc := cX10_warm) (maxL := 3) (ret := (some .int)) (by decide) rfl ?_
  intro p e s m args below meth c s₁ Bd hml hv
  obtain ⟨rfl, hsz, hP, hK, hD0⟩ := hv
  have hx := Bd.exec
  have hb := Bd.bytes
  have hr := Bd.returns
  have hg : ∀ w ∈ GT, w.before ([.ref h0, .int i, .int v] : List Value).toArray s = true := fun w h => atoms_spec (ws := Cond.code yX10_warm cX10_warm 3 (some .int) :: GT) Bd.pre w (List.mem_cons_of_mem _ h)
  have hown : s.vm.findClass RX10 = some m.cls := findClass_of_methodNamed Bd.named
  have hlocks := Bd.notSynchronized
  subst hsz
  have hD := hD0.self (sz := s.heap.size)
  generalize hAe : va_A [(h0, .inr (10, [.ref rd, .ref wy, .ref tr, .ref im, .ref kp, .ref od, .ref ch, .ref cr, .ref le, .ref mk, .ref tl, .ref sh, .int tf, .int rf])), (wy, .inr (9, [.int (nI N), .int (nI B), .int (nI D), .ref a1, .ref a2, .ref a3, .ref a4, .ref a5, .ref a6])), (a6, .inl (G 0, 6, .inl f6))] s.heap.size = A at hD ⊢
  have hA : ∀ q : Nat, s.heap.size ≤ q → A q := fun q h => by rw [← hAe]; exact Or.inr h
  have hS : va_S A s.heap s.heap [] := va_S.rf
  have hl := lv_entry ([.ref h0, .int i, .int v]) (n := 3) (Nat.le_of_ble_eq_true rfl)
  rw [lg_entry_eq]
  generalize (lg_sl ([.ref h0, .int i, .int v]) ++ List.replicate (3 - (lg_sl ([.ref h0, .int i, .int v])).length) Slot.unset).toArray = ls at hl ⊢
  have hl : lv_has ls 3 [(0, .ref h0), (1, .int i), (2, .int v)] := hl
  refine lv_aload_n hx hb dX10_warm_0 rfl (lv_at hl 0 rfl) ?_
  refine va_get (D := (dC, dI)) (ci := 10) (v := .ref wy) (C := RX10) (T := TX10) (N := 14) hx hb hg inG10 hown hK.1 hP 0 rfl rfl 1 (by decide) (hg _ wt_303) (fun _ h9 => h9) rfl dX10_warm_1 ?_
  refine lv_iload_n hx hb dX10_warm_4 rfl (lv_at hl 1 rfl) ?_
  have hPc := hP.sub (ws' := [(wy, .inr (9, [.int (nI N), .int (nI B), .int (nI D), .ref a1, .ref a2, .ref a3, .ref a4, .ref a5, .ref a6]))]) [1] rfl
  refine va_calli (va_runVN (As := [.int i]) (rest := []) ⟨hx, hb, hml, hown, hg⟩ (c_X9_hasBearer l dC dI G _ wy a1 a2 a3 a4 a5 a6 N B D i (by have t_n0 : (nI N).toInt = (N : Int) := nI_toInt (by omega); have t_n1 : (nI B).toInt = (B : Int) := nI_toInt (by omega); have t_n2 : (nI D).toInt = (D : Int) := nI_toInt (by omega); omega) (by have t_n0 : (nI N).toInt = (N : Int) := nI_toInt (by omega); have t_n1 : (nI B).toInt = (B : Int) := nI_toInt (by omega); have t_n2 : (nI D).toInt = (D : Int) := nI_toInt (by omega); omega) (by have t_n0 : (nI N).toInt = (N : Int) := nI_toInt (by omega); have t_n1 : (nI B).toInt = (B : Int) := nI_toInt (by omega); have t_n2 : (nI D).toInt = (D : Int) := nI_toInt (by omega); omega)) (kwVN hg hK mfX9_hasBearer wn_535 ⟨Nat.le_of_ble_eq_true rfl, Nat.le_of_ble_eq_true rfl⟩) (preVR hK hPc (ci := 9) rfl rfl) rfl rfl hl.1 rfl (lv_room (Nat.le_of_ble_eq_true rfl)) dX10_warm_5 ⟨Nat.le_of_ble_eq_true rfl, Nat.le_of_ble_eq_true rfl⟩) hS (fun q h1 h2 => absurd h2 (Nat.not_le.mpr h1)) (fun q h => hA q (Nat.le_trans hS.1 h)) (fun r1 ur1 t H1 locs ht hvm w2 hB hz1 hk1 hS => ?_)
  have hP := keepR hP hk1
  obtain ⟨w2, w2x⟩ := w2
  try simp only [l_ii, show (0 : Int32).toInt = 0 from by decide] at w2
  try rw [nI_toInt (n := B) (by omega)] at w2
  subst w2
  refine lv_if_eq (tgt := 26) hx hb dX10_warm_8 (by decide) (fun c3 => ?_) (fun c3 => ?_)
  · skip
    have b4 := if10_n c3
    refine lv_iconst (v := (-1)) hx hb dX10_warm_26 (by decide) ?_
    have hpost : True := by
      trivial
    have hP9 := hP.sub (ws' := [(h0, .inr (10, [.ref rd, .ref wy, .ref tr, .ref im, .ref kp, .ref od, .ref ch, .ref cr, .ref le, .ref mk, .ref tl, .ref sh, .int tf, .int rf])), (wy, .inr (9, [.int (nI N), .int (nI B), .int (nI D), .ref a1, .ref a2, .ref a3, .ref a4, .ref a5, .ref a6])), (a6, .inl (G 0, 6, .inl f6))]) [0, 1, 2] rfl
    have hD9 := hD.sub (ws' := [(h0, .inr (10, [.ref rd, .ref wy, .ref tr, .ref im, .ref kp, .ref od, .ref ch, .ref cr, .ref le, .ref mk, .ref tl, .ref sh, .int tf, .int rf])), (wy, .inr (9, [.int (nI N), .int (nI B), .int (nI D), .ref a1, .ref a2, .ref a3, .ref a4, .ref a5, .ref a6])), (a6, .inl (G 0, 6, .inl f6))]) [0, 1, 2] (by decide) rfl
    refine W.widen (k := 0) (n := 0) (by omega) (by omega) ?_
    exact W.iret (v := (-1)) hx hb hr (fun t ht hW => ⟨⟨(-1), f6, rfl, ⟨hpost, trivial⟩, ⟨by rw [ht]; exact hP9, hD9⟩⟩, hS.F ht⟩) hS.2.2 dX10_warm_27
  · skip
    have b5 := if10_p c3
    obtain ⟨ii, hii, rfl⟩ : ∃ j : Nat, j < 6 ∧ i = nI j := by
      have t_b5 := b5
      have t_n0 : (nI N).toInt = (N : Int) := nI_toInt (by omega)
      have t_n1 : (nI B).toInt = (B : Int) := nI_toInt (by omega)
      have t_n2 : (nI D).toInt = (D : Int) := nI_toInt (by omega)
      exact i32_nat (by omega) (by omega)
    refine lv_aload_n hx hb dX10_warm_11 rfl (lv_at hl 0 rfl) ?_
    refine va_get (D := (dC, dI)) (ci := 10) (v := .ref wy) (C := RX10) (T := TX10) (N := 14) hx hb hg inG10 hown hK.1 hP 0 rfl rfl 1 (by decide) (hg _ wt_303) (fun _ h9 => h9) rfl dX10_warm_12 ?_
    refine va_getN (D := (dC, dI)) (ci := 9) (v := .ref a6) (C := RX9) (T := TX9) (N := 9) hx hb hg inG9 hown hK.1 hP 1 rfl rfl 8 (by decide) (hK.nest wn_85) (fun _ h9 => h9) rfl dX10_warm_15 ?_
    refine lv_iload_n hx hb dX10_warm_18 rfl (lv_at hl 1 rfl) ?_
    refine lv_iload_n hx hb dX10_warm_19 rfl (lv_at hl 2 rfl) ?_
    have hPc := hP.sub (ws' := [(a6, .inl (G 0, 6, .inl f6))]) [2] rfl
    have hDc := hD.sub (ws' := [(a6, .inl (G 0, 6, .inl f6))]) [2] (by decide) rfl
    have hFc := va_free (wc := [(a6, .inl (G 0, 6, .inl f6))]) hD hS hA [2] rfl
    refine va_calli (va_runS (As := [.ref a6, .int (nI ii), .int v]) (rest := []) ⟨hx, hb, hml, hown, hg⟩ (c_X10_change6 l dC dI G _ a6 ii v f6 (by have t_b5 := b5; have t_hii := hii; have t_n0 : (nI N).toInt = (N : Int) := nI_toInt (by omega); have t_n1 : (nI B).toInt = (B : Int) := nI_toInt (by omega); have t_n2 : (nI D).toInt = (D : Int) := nI_toInt (by omega); have t_n3 : (nI ii).toInt = (ii : Int) := nI_toInt (by omega); omega)) (kwS hg mfX10_change wt_547 ⟨Nat.le_of_ble_eq_true rfl, Nat.le_of_ble_eq_true rfl⟩) (preSW hK hPc hDc) rfl rfl hl.1 rfl (lv_room (Nat.le_of_ble_eq_true rfl)) dX10_warm_20 ⟨Nat.le_of_ble_eq_true rfl, Nat.le_of_ble_eq_true rfl⟩) hS (fun q _ h => hFc q h) hFc (fun r6 ur6 t H1 locs ht hvm w7 hB hz1 hk1 hS => ?_)
    obtain ⟨u8, rfl⟩ : ∃ z, z = ur6 := ⟨_, rfl⟩
    obtain ⟨hP1, hD1⟩ := hB
    rw [ht] at hP1
    obtain ⟨hP, hD⟩ := va_join (wr := [(h0, .inr (10, [.ref rd, .ref wy, .ref tr, .ref im, .ref kp, .ref od, .ref ch, .ref cr, .ref le, .ref mk, .ref tl, .ref sh, .int tf, .int rf])), (wy, .inr (9, [.int (nI N), .int (nI B), .int (nI D), .ref a1, .ref a2, .ref a3, .ref a4, .ref a5, .ref a6]))]) (w1 := [(a6, .inl (G 0, 6, .inl u8))]) hP hD [2] [0, 1] rfl rfl (by decide) (by decide) hk1 hFc hP1 hD1
    generalize H1 = H at hP hS ⊢
    have hP : va_P (dC, dI) vwCl [(h0, .inr (10, [.ref rd, .ref wy, .ref tr, .ref im, .ref kp, .ref od, .ref ch, .ref cr, .ref le, .ref mk, .ref tl, .ref sh, .int tf, .int rf])), (wy, .inr (9, [.int (nI N), .int (nI B), .int (nI D), .ref a1, .ref a2, .ref a3, .ref a4, .ref a5, .ref a6])), (a6, .inl (G 0, 6, .inl u8))] H := hP
    have hD : va_D A [(h0, .inr (10, [.ref rd, .ref wy, .ref tr, .ref im, .ref kp, .ref od, .ref ch, .ref cr, .ref le, .ref mk, .ref tl, .ref sh, .int tf, .int rf])), (wy, .inr (9, [.int (nI N), .int (nI B), .int (nI D), .ref a1, .ref a2, .ref a3, .ref a4, .ref a5, .ref a6])), (a6, .inl (G 0, 6, .inl u8))] := hD
    obtain ⟨w7, w7x⟩ := w7
    refine lv_goto (tgt := 27) hx hb dX10_warm_23 (by decide) ?_
    have hpost : True := by
      trivial
    have hP9 := hP.sub (ws' := [(h0, .inr (10, [.ref rd, .ref wy, .ref tr, .ref im, .ref kp, .ref od, .ref ch, .ref cr, .ref le, .ref mk, .ref tl, .ref sh, .int tf, .int rf])), (wy, .inr (9, [.int (nI N), .int (nI B), .int (nI D), .ref a1, .ref a2, .ref a3, .ref a4, .ref a5, .ref a6])), (a6, .inl (G 0, 6, .inl u8))]) [0, 1, 2] rfl
    have hD9 := hD.sub (ws' := [(h0, .inr (10, [.ref rd, .ref wy, .ref tr, .ref im, .ref kp, .ref od, .ref ch, .ref cr, .ref le, .ref mk, .ref tl, .ref sh, .int tf, .int rf])), (wy, .inr (9, [.int (nI N), .int (nI B), .int (nI D), .ref a1, .ref a2, .ref a3, .ref a4, .ref a5, .ref a6])), (a6, .inl (G 0, 6, .inl u8))]) [0, 1, 2] (by decide) rfl
    refine W.widen (k := 0) (n := 0) (by omega) (by omega) ?_
    exact W.iret (v := r6) hx hb hr (fun t ht hW => ⟨⟨r6, u8, rfl, ⟨hpost, trivial⟩, ⟨by rw [ht]; exact hP9, hD9⟩⟩, hS.F ht⟩) hS.2.2 dX10_warm_27

set_option maxHeartbeats 1000000 in
set_option maxRecDepth 100000 in
theorem c_X10_awake (l : Launch) (dC : Nat → ClassId) (dI : Nat → Nat → Nat) (G : Nat → ClassId) (sz : Nat) (h0 rd wy tr im kp od ch cr le mk tl sh sa aa a1 a2 a3 a4 a5 a6 N B D : Nat) (tf rf i what : Int32) (w0 : Int64) (f1 f2 f3 f4 f5 f6 : Nat → Int32) (f g : Nat → Int64) (hN_N : N ≤ 10) (hB_B : B ≤ 6) (hD_D : 1 ≤ D ∧ D ≤ 9) : Met l yX10_awake (Cond.code yX10_awake cX10_awake 3 (some .long) :: GT) ({ frames := 6, cells := 0, slots := 0, locals := 135 } : Room) (PcW [.ref h0, .int i, .int what] dC dI G [(h0, .inr (10, [.ref rd, .ref wy, .ref tr, .ref im, .ref kp, .ref od, .ref ch, .ref cr, .ref le, .ref mk, .ref tl, .ref sh, .int tf, .int rf])), (od, .inr (4, [.long w0, .ref sa, .ref aa])), (sa, .inl (G 1, 10, .inr (.inl f))), (aa, .inl (G 1, 10, .inr (.inl g))), (wy, .inr (9, [.int (nI N), .int (nI B), .int (nI D), .ref a1, .ref a2, .ref a3, .ref a4, .ref a5, .ref a6])), (a1, .inl (G 0, 10, .inl f1)), (a2, .inl (G 0, 10, .inl f2)), (a3, .inl (G 0, 10, .inl f3)), (a4, .inl (G 0, 6, .inl f4)), (a5, .inl (G 0, 6, .inl f5)), (a6, .inl (G 0, 6, .inl f6))] sz) (va_Ql (fun (r : Int64) (u : Int64 × (Nat → Int64) × (Nat → Int64)) => match u with | (u0, u1, u2) => (True) ∧ True) (fun (u : Int64 × (Nat → Int64) × (Nat → Int64)) (t : State) => match u with | (u0, u1, u2) => va_P (dC, dI) vwCl [(h0, .inr (10, [.ref rd, .ref wy, .ref tr, .ref im, .ref kp, .ref od, .ref ch, .ref cr, .ref le, .ref mk, .ref tl, .ref sh, .int tf, .int rf])), (od, .inr (4, [.long u0, .ref sa, .ref aa])), (sa, .inl (G 1, 10, .inr (.inl u1))), (aa, .inl (G 1, 10, .inr (.inl u2))), (wy, .inr (9, [.int (nI N), .int (nI B), .int (nI D), .ref a1, .ref a2, .ref a3, .ref a4, .ref a5, .ref a6])), (a1, .inl (G 0, 10, .inl f1)), (a2, .inl (G 0, 10, .inl f2)), (a3, .inl (G 0, 10, .inl f3)), (a4, .inl (G 0, 6, .inl f4)), (a5, .inl (G 0, 6, .inl f5)), (a6, .inl (G 0, 6, .inl f6))] t.heap ∧ va_D (va_A [(h0, .inr (10, [.ref rd, .ref wy, .ref tr, .ref im, .ref kp, .ref od, .ref ch, .ref cr, .ref le, .ref mk, .ref tl, .ref sh, .int tf, .int rf])), (od, .inr (4, [.long w0, .ref sa, .ref aa])), (sa, .inl (G 1, 10, .inr (.inl f))), (aa, .inl (G 1, 10, .inr (.inl g))), (wy, .inr (9, [.int (nI N), .int (nI B), .int (nI D), .ref a1, .ref a2, .ref a3, .ref a4, .ref a5, .ref a6])), (a1, .inl (G 0, 10, .inl f1)), (a2, .inl (G 0, 10, .inl f2)), (a3, .inl (G 0, 10, .inl f3)), (a4, .inl (G 0, 6, .inl f4)), (a5, .inl (G 0, 6, .inl f5)), (a6, .inl (G 0, 6, .inl f6))] sz) [(h0, .inr (10, [.ref rd, .ref wy, .ref tr, .ref im, .ref kp, .ref od, .ref ch, .ref cr, .ref le, .ref mk, .ref tl, .ref sh, .int tf, .int rf])), (od, .inr (4, [.long u0, .ref sa, .ref aa])), (sa, .inl (G 1, 10, .inr (.inl u1))), (aa, .inl (G 1, 10, .inr (.inl u2))), (wy, .inr (9, [.int (nI N), .int (nI B), .int (nI D), .ref a1, .ref a2, .ref a3, .ref a4, .ref a5, .ref a6])), (a1, .inl (G 0, 10, .inl f1)), (a2, .inl (G 0, 10, .inl f2)), (a3, .inl (G 0, 10, .inl f3)), (a4, .inl (G 0, 6, .inl f4)), (a5, .inl (G 0, 6, .inl f5)), (a6, .inl (G 0, 6, .inl f6))]) (va_A [(h0, .inr (10, [.ref rd, .ref wy, .ref tr, .ref im, .ref kp, .ref od, .ref ch, .ref cr, .ref le, .ref mk, .ref tl, .ref sh, .int tf, .int rf])), (od, .inr (4, [.long w0, .ref sa, .ref aa])), (sa, .inl (G 1, 10, .inr (.inl f))), (aa, .inl (G 1, 10, .inr (.inl g))), (wy, .inr (9, [.int (nI N), .int (nI B), .int (nI D), .ref a1, .ref a2, .ref a3, .ref a4, .ref a5, .ref a6])), (a1, .inl (G 0, 10, .inl f1)), (a2, .inl (G 0, 10, .inl f2)), (a3, .inl (G 0, 10, .inl f3)), (a4, .inl (G 0, 6, .inl f4)), (a5, .inl (G 0, 6, .inl f5)), (a6, .inl (G 0, 6, .inl f6))] sz)) 0 0 (va_A [(h0, .inr (10, [.ref rd, .ref wy, .ref tr, .ref im, .ref kp, .ref od, .ref ch, .ref cr, .ref le, .ref mk, .ref tl, .ref sh, .int tf, .int rf])), (od, .inr (4, [.long w0, .ref sa, .ref aa])), (sa, .inl (G 1, 10, .inr (.inl f))), (aa, .inl (G 1, 10, .inr (.inl g))), (wy, .inr (9, [.int (nI N), .int (nI B), .int (nI D), .ref a1, .ref a2, .ref a3, .ref a4, .ref a5, .ref a6])), (a1, .inl (G 0, 10, .inl f1)), (a2, .inl (G 0, 10, .inl f2)), (a3, .inl (G 0, 10, .inl f3)), (a4, .inl (G 0, 6, .inl f4)), (a5, .inl (G 0, 6, .inl f5)), (a6, .inl (G 0, 6, .inl f6))] sz) := by
  refine Met.ofW (cc := cX10_awake) (maxL := 3) (ret := (some .long)) (by decide) rfl ?_
  intro p e s m args below meth c s₁ Bd hml hv
  obtain ⟨rfl, hsz, hP, hK, hD0⟩ := hv
  have hx := Bd.exec
  have hb := Bd.bytes
  have hr := Bd.returns
  have hg : ∀ w ∈ GT, w.before ([.ref h0, .int i, .int what] : List Value).toArray s = true := fun w h => atoms_spec (ws := Cond.code yX10_awake cX10_awake 3 (some .long) :: GT) Bd.pre w (List.mem_cons_of_mem _ h)
  have hown : s.vm.findClass RX10 = some m.cls := findClass_of_methodNamed Bd.named
  have hlocks := Bd.notSynchronized
  subst hsz
  have hD := hD0.self (sz := s.heap.size)
  generalize hAe : va_A [(h0, .inr (10, [.ref rd, .ref wy, .ref tr, .ref im, .ref kp, .ref od, .ref ch, .ref cr, .ref le, .ref mk, .ref tl, .ref sh, .int tf, .int rf])), (od, .inr (4, [.long w0, .ref sa, .ref aa])), (sa, .inl (G 1, 10, .inr (.inl f))), (aa, .inl (G 1, 10, .inr (.inl g))), (wy, .inr (9, [.int (nI N), .int (nI B), .int (nI D), .ref a1, .ref a2, .ref a3, .ref a4, .ref a5, .ref a6])), (a1, .inl (G 0, 10, .inl f1)), (a2, .inl (G 0, 10, .inl f2)), (a3, .inl (G 0, 10, .inl f3)), (a4, .inl (G 0, 6, .inl f4)), (a5, .inl (G 0, 6, .inl f5)), (a6, .inl (G 0, 6, .inl f6))] s.heap.size = A at hD ⊢
  have hA : ∀ q : Nat, s.heap.size ≤ q → A q := fun q h => by rw [← hAe]; exact Or.inr h
  have hS : va_S A s.heap s.heap [] := va_S.rf
  have hl := lv_entry ([.ref h0, .int i, .int what]) (n := 3) (Nat.le_of_ble_eq_true rfl)
  rw [lg_entry_eq]
  generalize (lg_sl ([.ref h0, .int i, .int what]) ++ List.replicate (3 - (lg_sl ([.ref h0, .int i, .int what])).length) Slot.unset).toArray = ls at hl ⊢
  have hl : lv_has ls 3 [(0, .ref h0), (1, .int i), (2, .int what)] := hl
  refine lv_aload_n hx hb dX10_awake_0 rfl (lv_at hl 0 rfl) ?_
  refine lv_iload_n hx hb dX10_awake_1 rfl (lv_at hl 1 rfl) ?_
  refine lv_iconst (v := 0) hx hb dX10_awake_2 (by decide) ?_
  refine lv_iload_n hx hb dX10_awake_3 rfl (lv_at hl 2 rfl) ?_
  have hPc := hP.sub (ws' := [(h0, .inr (10, [.ref rd, .ref wy, .ref tr, .ref im, .ref kp, .ref od, .ref ch, .ref cr, .ref le, .ref mk, .ref tl, .ref sh, .int tf, .int rf])), (od, .inr (4, [.long w0, .ref sa, .ref aa])), (sa, .inl (G 1, 10, .inr (.inl f))), (aa, .inl (G 1, 10, .inr (.inl g))), (wy, .inr (9, [.int (nI N), .int (nI B), .int (nI D), .ref a1, .ref a2, .ref a3, .ref a4, .ref a5, .ref a6])), (a1, .inl (G 0, 10, .inl f1)), (a2, .inl (G 0, 10, .inl f2)), (a3, .inl (G 0, 10, .inl f3)), (a4, .inl (G 0, 6, .inl f4)), (a5, .inl (G 0, 6, .inl f5)), (a6, .inl (G 0, 6, .inl f6))]) [0, 1, 2, 3, 4, 5, 6, 7, 8, 9, 10] rfl
  have hDc := hD.sub (ws' := [(h0, .inr (10, [.ref rd, .ref wy, .ref tr, .ref im, .ref kp, .ref od, .ref ch, .ref cr, .ref le, .ref mk, .ref tl, .ref sh, .int tf, .int rf])), (od, .inr (4, [.long w0, .ref sa, .ref aa])), (sa, .inl (G 1, 10, .inr (.inl f))), (aa, .inl (G 1, 10, .inr (.inl g))), (wy, .inr (9, [.int (nI N), .int (nI B), .int (nI D), .ref a1, .ref a2, .ref a3, .ref a4, .ref a5, .ref a6])), (a1, .inl (G 0, 10, .inl f1)), (a2, .inl (G 0, 10, .inl f2)), (a3, .inl (G 0, 10, .inl f3)), (a4, .inl (G 0, 6, .inl f4)), (a5, .inl (G 0, 6, .inl f5)), (a6, .inl (G 0, 6, .inl f6))]) [0, 1, 2, 3, 4, 5, 6, 7, 8, 9, 10] (by decide) rfl
  have hFc := va_free (wc := [(h0, .inr (10, [.ref rd, .ref wy, .ref tr, .ref im, .ref kp, .ref od, .ref ch, .ref cr, .ref le, .ref mk, .ref tl, .ref sh, .int tf, .int rf])), (od, .inr (4, [.long w0, .ref sa, .ref aa])), (sa, .inl (G 1, 10, .inr (.inl f))), (aa, .inl (G 1, 10, .inr (.inl g))), (wy, .inr (9, [.int (nI N), .int (nI B), .int (nI D), .ref a1, .ref a2, .ref a3, .ref a4, .ref a5, .ref a6])), (a1, .inl (G 0, 10, .inl f1)), (a2, .inl (G 0, 10, .inl f2)), (a3, .inl (G 0, 10, .inl f3)), (a4, .inl (G 0, 6, .inl f4)), (a5, .inl (G 0, 6, .inl f5)), (a6, .inl (G 0, 6, .inl f6))]) hD hS hA [0, 1, 2, 3, 4, 5, 6, 7, 8, 9, 10] rfl
  refine va_calll (va_runV (As := [.int i, .int 0, .int what]) (rest := []) ⟨hx, hb, hml, hown, hg⟩ (c_X10_depth l dC dI G _ h0 rd wy tr im kp od ch cr le mk tl sh sa aa a1 a2 a3 a4 a5 a6 N B D tf rf i 0 what w0 f1 f2 f3 f4 f5 f6 f g (by have t_n0 : (nI N).toInt = (N : Int) := nI_toInt (by omega); have t_n1 : (nI B).toInt = (B : Int) := nI_toInt (by omega); have t_n2 : (nI D).toInt = (D : Int) := nI_toInt (by omega); have : (0 : Int32).toInt = 0 := (by decide); omega) (by have t_n0 : (nI N).toInt = (N : Int) := nI_toInt (by omega); have t_n1 : (nI B).toInt = (B : Int) := nI_toInt (by omega); have t_n2 : (nI D).toInt = (D : Int) := nI_toInt (by omega); have : (0 : Int32).toInt = 0 := (by decide); omega) (by have t_n0 : (nI N).toInt = (N : Int) := nI_toInt (by omega); have t_n1 : (nI B).toInt = (B : Int) := nI_toInt (by omega); have t_n2 : (nI D).toInt = (D : Int) := nI_toInt (by omega); have : (0 : Int32).toInt = 0 := (by decide); omega)) (kwV hg mfX10_depth wt_645 ⟨Nat.le_of_ble_eq_true rfl, Nat.le_of_ble_eq_true rfl⟩) (preVW hK hPc hDc (ci := 10) rfl rfl) rfl rfl hl.1 rfl (lv_room (Nat.le_of_ble_eq_true rfl)) dX10_awake_4 ⟨Nat.le_of_ble_eq_true rfl, Nat.le_of_ble_eq_true rfl⟩) hS (fun q _ h => hFc q h) hFc (fun r1 ur1 t H1 locs ht hvm w2 hB hz1 hk1 hS => ?_)
  obtain ⟨u3, u4, u5⟩ := ur1
  obtain ⟨hP1, hD1⟩ := hB
  rw [ht] at hP1
  obtain ⟨hP, hD⟩ := va_join (wr := []) (w1 := [(h0, .inr (10, [.ref rd, .ref wy, .ref tr, .ref im, .ref kp, .ref od, .ref ch, .ref cr, .ref le, .ref mk, .ref tl, .ref sh, .int tf, .int rf])), (od, .inr (4, [.long u3, .ref sa, .ref aa])), (sa, .inl (G 1, 10, .inr (.inl u4))), (aa, .inl (G 1, 10, .inr (.inl u5))), (wy, .inr (9, [.int (nI N), .int (nI B), .int (nI D), .ref a1, .ref a2, .ref a3, .ref a4, .ref a5, .ref a6])), (a1, .inl (G 0, 10, .inl f1)), (a2, .inl (G 0, 10, .inl f2)), (a3, .inl (G 0, 10, .inl f3)), (a4, .inl (G 0, 6, .inl f4)), (a5, .inl (G 0, 6, .inl f5)), (a6, .inl (G 0, 6, .inl f6))]) hP hD [0, 1, 2, 3, 4, 5, 6, 7, 8, 9, 10] [] rfl rfl (by decide) (by decide) hk1 hFc hP1 hD1
  generalize H1 = H at hP hS ⊢
  have hP : va_P (dC, dI) vwCl [(h0, .inr (10, [.ref rd, .ref wy, .ref tr, .ref im, .ref kp, .ref od, .ref ch, .ref cr, .ref le, .ref mk, .ref tl, .ref sh, .int tf, .int rf])), (od, .inr (4, [.long u3, .ref sa, .ref aa])), (sa, .inl (G 1, 10, .inr (.inl u4))), (aa, .inl (G 1, 10, .inr (.inl u5))), (wy, .inr (9, [.int (nI N), .int (nI B), .int (nI D), .ref a1, .ref a2, .ref a3, .ref a4, .ref a5, .ref a6])), (a1, .inl (G 0, 10, .inl f1)), (a2, .inl (G 0, 10, .inl f2)), (a3, .inl (G 0, 10, .inl f3)), (a4, .inl (G 0, 6, .inl f4)), (a5, .inl (G 0, 6, .inl f5)), (a6, .inl (G 0, 6, .inl f6))] H := hP
  have hD : va_D A [(h0, .inr (10, [.ref rd, .ref wy, .ref tr, .ref im, .ref kp, .ref od, .ref ch, .ref cr, .ref le, .ref mk, .ref tl, .ref sh, .int tf, .int rf])), (od, .inr (4, [.long u3, .ref sa, .ref aa])), (sa, .inl (G 1, 10, .inr (.inl u4))), (aa, .inl (G 1, 10, .inr (.inl u5))), (wy, .inr (9, [.int (nI N), .int (nI B), .int (nI D), .ref a1, .ref a2, .ref a3, .ref a4, .ref a5, .ref a6])), (a1, .inl (G 0, 10, .inl f1)), (a2, .inl (G 0, 10, .inl f2)), (a3, .inl (G 0, 10, .inl f3)), (a4, .inl (G 0, 6, .inl f4)), (a5, .inl (G 0, 6, .inl f5)), (a6, .inl (G 0, 6, .inl f6))] := hD
  obtain ⟨w2, w2x⟩ := w2
  have hpost : True := by
    trivial
  have hP9 := hP.sub (ws' := [(h0, .inr (10, [.ref rd, .ref wy, .ref tr, .ref im, .ref kp, .ref od, .ref ch, .ref cr, .ref le, .ref mk, .ref tl, .ref sh, .int tf, .int rf])), (od, .inr (4, [.long u3, .ref sa, .ref aa])), (sa, .inl (G 1, 10, .inr (.inl u4))), (aa, .inl (G 1, 10, .inr (.inl u5))), (wy, .inr (9, [.int (nI N), .int (nI B), .int (nI D), .ref a1, .ref a2, .ref a3, .ref a4, .ref a5, .ref a6])), (a1, .inl (G 0, 10, .inl f1)), (a2, .inl (G 0, 10, .inl f2)), (a3, .inl (G 0, 10, .inl f3)), (a4, .inl (G 0, 6, .inl f4)), (a5, .inl (G 0, 6, .inl f5)), (a6, .inl (G 0, 6, .inl f6))]) [0, 1, 2, 3, 4, 5, 6, 7, 8, 9, 10] rfl
  have hD9 := hD.sub (ws' := [(h0, .inr (10, [.ref rd, .ref wy, .ref tr, .ref im, .ref kp, .ref od, .ref ch, .ref cr, .ref le, .ref mk, .ref tl, .ref sh, .int tf, .int rf])), (od, .inr (4, [.long u3, .ref sa, .ref aa])), (sa, .inl (G 1, 10, .inr (.inl u4))), (aa, .inl (G 1, 10, .inr (.inl u5))), (wy, .inr (9, [.int (nI N), .int (nI B), .int (nI D), .ref a1, .ref a2, .ref a3, .ref a4, .ref a5, .ref a6])), (a1, .inl (G 0, 10, .inl f1)), (a2, .inl (G 0, 10, .inl f2)), (a3, .inl (G 0, 10, .inl f3)), (a4, .inl (G 0, 6, .inl f4)), (a5, .inl (G 0, 6, .inl f5)), (a6, .inl (G 0, 6, .inl f6))]) [0, 1, 2, 3, 4, 5, 6, 7, 8, 9, 10] (by decide) rfl
  refine W.widen (k := 0) (n := 0) (by omega) (by omega) ?_
  exact W.lret (v := r1) hx hb hr (fun t ht hW => ⟨⟨r1, (u3, u4, u5), rfl, ⟨hpost, trivial⟩, ⟨by rw [ht]; exact hP9, hD9⟩⟩, hS.F ht⟩) hS.2.2 dX10_awake_7

set_option maxHeartbeats 1000000 in
set_option maxRecDepth 100000 in
theorem c_X10_next (l : Launch) (dC : Nat → ClassId) (dI : Nat → Nat → Nat) (G : Nat → ClassId) (sz : Nat) (h0 rd wy tr im kp od ch cr le mk tl sh wk cs a1 a2 a3 a4 a5 a6 N B D : Nat) (tf rf i g d : Int32) (w0 : Int64) (f1 f2 f4 f5 f6 : Nat → Int32) (rw rq : Nat → Nat) (F : Nat → Nat → Int64) (E : Nat → Nat → Int32) (hN_N : N ≤ 10) (hB_B : B ≤ 6) (hD_D : 1 ≤ D ∧ D ≤ 9) : Met l yX10_next (Cond.code yX10_next cX10_next 5 (some .int) :: GT) ({ frames := 5, cells := 0, slots := 0, locals := 116 } : Room) (PcW [.ref h0, .int i, .int g, .int d] dC dI G (([(h0, .inr (10, [.ref rd, .ref wy, .ref tr, .ref im, .ref kp, .ref od, .ref ch, .ref cr, .ref le, .ref mk, .ref tl, .ref sh, .int tf, .int rf])), (ch, .inr (0, [.long w0, .ref wk, .ref cs])), (wk, .inl (G 5, 11, .inr (.inr (.inr (.inr (fun ir => if ir < 11 then some (rw ir) else none)))))), (cs, .inl (G 4, 10, .inr (.inr (.inr (.inr (fun ir => if ir < 10 then some (rq ir) else none)))))), (wy, .inr (9, [.int (nI N), .int (nI B), .int (nI D), .ref a1, .ref a2, .ref a3, .ref a4, .ref a5, .ref a6])), (a1, .inl (G 0, 10, .inl f1)), (a2, .inl (G 0, 10, .inl f2)), (a4, .inl (G 0, 6, .inl f4)), (a5, .inl (G 0, 6, .inl f5)), (a6, .inl (G 0, 6, .inl f6))] : va_W) ++ ((((List.range 11).map (fun iq => (rw iq, .inl (G 1, 70, .inr (.inl (F iq)))))) : va_W) ++ ((((List.range 10).map (fun iq => (rq iq, .inl (G 0, 70, .inl (E iq))))) : va_W) ++ []))) sz) (va_Qi (fun (r : Int32) (u : Int64 × (Nat → Nat → Int64) × (Nat → Nat → Int32)) => match u with | (u0, u1, u2) => (True) ∧ True) (fun (u : Int64 × (Nat → Nat → Int64) × (Nat → Nat → Int32)) (t : State) => match u with | (u0, u1, u2) => va_P (dC, dI) vwCl (([(h0, .inr (10, [.ref rd, .ref wy, .ref tr, .ref im, .ref kp, .ref od, .ref ch, .ref cr, .ref le, .ref mk, .ref tl, .ref sh, .int tf, .int rf])), (ch, .inr (0, [.long u0, .ref wk, .ref cs])), (wk, .inl (G 5, 11, .inr (.inr (.inr (.inr (fun ir => if ir < 11 then some (rw ir) else none)))))), (cs, .inl (G 4, 10, .inr (.inr (.inr (.inr (fun ir => if ir < 10 then some (rq ir) else none)))))), (wy, .inr (9, [.int (nI N), .int (nI B), .int (nI D), .ref a1, .ref a2, .ref a3, .ref a4, .ref a5, .ref a6])), (a1, .inl (G 0, 10, .inl f1)), (a2, .inl (G 0, 10, .inl f2)), (a4, .inl (G 0, 6, .inl f4)), (a5, .inl (G 0, 6, .inl f5)), (a6, .inl (G 0, 6, .inl f6))] : va_W) ++ ((((List.range 11).map (fun iq => (rw iq, .inl (G 1, 70, .inr (.inl (u1 iq)))))) : va_W) ++ ((((List.range 10).map (fun iq => (rq iq, .inl (G 0, 70, .inl (u2 iq))))) : va_W) ++ []))) t.heap ∧ va_D (va_A (([(h0, .inr (10, [.ref rd, .ref wy, .ref tr, .ref im, .ref kp, .ref od, .ref ch, .ref cr, .ref le, .ref mk, .ref tl, .ref sh, .int tf, .int rf])), (ch, .inr (0, [.long w0, .ref wk, .ref cs])), (wk, .inl (G 5, 11, .inr (.inr (.inr (.inr (fun ir => if ir < 11 then some (rw ir) else none)))))), (cs, .inl (G 4, 10, .inr (.inr (.inr (.inr (fun ir => if ir < 10 then some (rq ir) else none)))))), (wy, .inr (9, [.int (nI N), .int (nI B), .int (nI D), .ref a1, .ref a2, .ref a3, .ref a4, .ref a5, .ref a6])), (a1, .inl (G 0, 10, .inl f1)), (a2, .inl (G 0, 10, .inl f2)), (a4, .inl (G 0, 6, .inl f4)), (a5, .inl (G 0, 6, .inl f5)), (a6, .inl (G 0, 6, .inl f6))] : va_W) ++ ((((List.range 11).map (fun iq => (rw iq, .inl (G 1, 70, .inr (.inl (F iq)))))) : va_W) ++ ((((List.range 10).map (fun iq => (rq iq, .inl (G 0, 70, .inl (E iq))))) : va_W) ++ []))) sz) (([(h0, .inr (10, [.ref rd, .ref wy, .ref tr, .ref im, .ref kp, .ref od, .ref ch, .ref cr, .ref le, .ref mk, .ref tl, .ref sh, .int tf, .int rf])), (ch, .inr (0, [.long u0, .ref wk, .ref cs])), (wk, .inl (G 5, 11, .inr (.inr (.inr (.inr (fun ir => if ir < 11 then some (rw ir) else none)))))), (cs, .inl (G 4, 10, .inr (.inr (.inr (.inr (fun ir => if ir < 10 then some (rq ir) else none)))))), (wy, .inr (9, [.int (nI N), .int (nI B), .int (nI D), .ref a1, .ref a2, .ref a3, .ref a4, .ref a5, .ref a6])), (a1, .inl (G 0, 10, .inl f1)), (a2, .inl (G 0, 10, .inl f2)), (a4, .inl (G 0, 6, .inl f4)), (a5, .inl (G 0, 6, .inl f5)), (a6, .inl (G 0, 6, .inl f6))] : va_W) ++ ((((List.range 11).map (fun iq => (rw iq, .inl (G 1, 70, .inr (.inl (u1 iq)))))) : va_W) ++ ((((List.range 10).map (fun iq => (rq iq, .inl (G 0, 70, .inl (u2 iq))))) : va_W) ++ [])))) (va_A (([(h0, .inr (10, [.ref rd, .ref wy, .ref tr, .ref im, .ref kp, .ref od, .ref ch, .ref cr, .ref le, .ref mk, .ref tl, .ref sh, .int tf, .int rf])), (ch, .inr (0, [.long w0, .ref wk, .ref cs])), (wk, .inl (G 5, 11, .inr (.inr (.inr (.inr (fun ir => if ir < 11 then some (rw ir) else none)))))), (cs, .inl (G 4, 10, .inr (.inr (.inr (.inr (fun ir => if ir < 10 then some (rq ir) else none)))))), (wy, .inr (9, [.int (nI N), .int (nI B), .int (nI D), .ref a1, .ref a2, .ref a3, .ref a4, .ref a5, .ref a6])), (a1, .inl (G 0, 10, .inl f1)), (a2, .inl (G 0, 10, .inl f2)), (a4, .inl (G 0, 6, .inl f4)), (a5, .inl (G 0, 6, .inl f5)), (a6, .inl (G 0, 6, .inl f6))] : va_W) ++ ((((List.range 11).map (fun iq => (rw iq, .inl (G 1, 70, .inr (.inl (F iq)))))) : va_W) ++ ((((List.range 10).map (fun iq => (rq iq, .inl (G 0, 70, .inl (E iq))))) : va_W) ++ []))) sz)) 0 0 (va_A (([(h0, .inr (10, [.ref rd, .ref wy, .ref tr, .ref im, .ref kp, .ref od, .ref ch, .ref cr, .ref le, .ref mk, .ref tl, .ref sh, .int tf, .int rf])), (ch, .inr (0, [.long w0, .ref wk, .ref cs])), (wk, .inl (G 5, 11, .inr (.inr (.inr (.inr (fun ir => if ir < 11 then some (rw ir) else none)))))), (cs, .inl (G 4, 10, .inr (.inr (.inr (.inr (fun ir => if ir < 10 then some (rq ir) else none)))))), (wy, .inr (9, [.int (nI N), .int (nI B), .int (nI D), .ref a1, .ref a2, .ref a3, .ref a4, .ref a5, .ref a6])), (a1, .inl (G 0, 10, .inl f1)), (a2, .inl (G 0, 10, .inl f2)), (a4, .inl (G 0, 6, .inl f4)), (a5, .inl (G 0, 6, .inl f5)), (a6, .inl (G 0, 6, .inl f6))] : va_W) ++ ((((List.range 11).map (fun iq => (rw iq, .inl (G 1, 70, .inr (.inl (F iq)))))) : va_W) ++ ((((List.range 10).map (fun iq => (rq iq, .inl (G 0, 70, .inl (E iq))))) : va_W) ++ []))) sz) := by
  refine Met.ofW (cc := cX10_next) (maxL := 5) (ret := (some .int)) (by decide) rfl ?_
  intro p e s m args below meth c s₁ Bd hml hv
  obtain ⟨rfl, hsz, hP, hK, hD0⟩ := hv
  have hx := Bd.exec
  have hb := Bd.bytes
  have hr := Bd.returns
  have hg : ∀ w ∈ GT, w.before ([.ref h0, .int i, .int g, .int d] : List Value).toArray s = true := fun w h => atoms_spec (ws := Cond.code yX10_next cX10_next 5 (some .int) :: GT) Bd.pre w (List.mem_cons_of_mem _ h)
  have hown : s.vm.findClass RX10 = some m.cls := findClass_of_methodNamed Bd.named
  have hlocks := Bd.notSynchronized
  subst hsz
  have hD := hD0.self (sz := s.heap.size)
  generalize hAe : va_A (([(h0, .inr (10, [.ref rd, .ref wy, .ref tr, .ref im, .ref kp, .ref od, .ref ch, .ref cr, .ref le, .ref mk, .ref tl, .ref sh, .int tf, .int rf])), (ch, .inr (0, [.long w0, .ref wk, .ref cs])), (wk, .inl (G 5, 11, .inr (.inr (.inr (.inr (fun ir => if ir < 11 then some (rw ir) else none)))))), (cs, .inl (G 4, 10, .inr (.inr (.inr (.inr (fun ir => if ir < 10 then some (rq ir) else none)))))), (wy, .inr (9, [.int (nI N), .int (nI B), .int (nI D), .ref a1, .ref a2, .ref a3, .ref a4, .ref a5, .ref a6])), (a1, .inl (G 0, 10, .inl f1)), (a2, .inl (G 0, 10, .inl f2)), (a4, .inl (G 0, 6, .inl f4)), (a5, .inl (G 0, 6, .inl f5)), (a6, .inl (G 0, 6, .inl f6))] : va_W) ++ ((((List.range 11).map (fun iq => (rw iq, .inl (G 1, 70, .inr (.inl (F iq)))))) : va_W) ++ ((((List.range 10).map (fun iq => (rq iq, .inl (G 0, 70, .inl (E iq))))) : va_W) ++ []))) s.heap.size = A at hD ⊢
  have hA : ∀ q : Nat, s.heap.size ≤ q → A q := fun q h => by rw [← hAe]; exact Or.inr h
  have hS : va_S A s.heap s.heap [] := va_S.rf
  have hl := lv_entry ([.ref h0, .int i, .int g, .int d]) (n := 5) (Nat.le_of_ble_eq_true rfl)
  rw [lg_entry_eq]
  generalize (lg_sl ([.ref h0, .int i, .int g, .int d]) ++ List.replicate (5 - (lg_sl ([.ref h0, .int i, .int g, .int d])).length) Slot.unset).toArray = ls at hl ⊢
  have hl : lv_has ls 5 [(0, .ref h0), (1, .int i), (2, .int g), (3, .int d)] := hl
  refine lv_iload_n hx hb dX10_next_0 rfl (lv_at hl 2 rfl) ?_
  refine lv_bipush (v := (-4)) hx hb dX10_next_1 (by decide) ?_
  refine lv_icmp_ne (tgt := 14) hx hb dX10_next_3 (by decide) (fun c1 => ?_) (fun c1 => ?_)
  · skip
    refine lv_iconst (v := 0) hx hb dX10_next_14 (by decide) ?_
    refine lv_istore (lv' := [(4, .int 0), (0, .ref h0), (1, .int i), (2, .int g), (3, .int d)]) hx hb dX10_next_15 hl (by decide) rfl (fun ls hl => ?_)
    refine lv_aload_n hx hb dX10_next_17 rfl (lv_at hl 1 rfl) ?_
    refine va_get (D := (dC, dI)) (ci := 10) (v := .ref wy) (C := RX10) (T := TX10) (N := 14) hx hb hg inG10 hown hK.1 hP 0 rfl rfl 1 (by decide) (hg _ wt_303) (fun _ h9 => h9) rfl dX10_next_18 ?_
    refine lv_iload_n hx hb dX10_next_21 rfl (lv_at hl 2 rfl) ?_
    have hPc := hP.sub (ws' := [(wy, .inr (9, [.int (nI N), .int (nI B), .int (nI D), .ref a1, .ref a2, .ref a3, .ref a4, .ref a5, .ref a6]))]) [4] rfl
    refine va_calli (va_runVN (As := [.int i]) (rest := []) ⟨hx, hb, hml, hown, hg⟩ (c_X9_hasStretch l dC dI G _ wy a1 a2 a3 a4 a5 a6 N B D i (by have t_c1 := neI c1; have : ((-4) : Int32).toInt = -4 := (by decide); have t_n0 : (nI N).toInt = (N : Int) := nI_toInt (by omega); have t_n1 : (nI B).toInt = (B : Int) := nI_toInt (by omega); have t_n2 : (nI D).toInt = (D : Int) := nI_toInt (by omega); omega) (by have t_c1 := neI c1; have : ((-4) : Int32).toInt = -4 := (by decide); have t_n0 : (nI N).toInt = (N : Int) := nI_toInt (by omega); have t_n1 : (nI B).toInt = (B : Int) := nI_toInt (by omega); have t_n2 : (nI D).toInt = (D : Int) := nI_toInt (by omega); omega) (by have t_c1 := neI c1; have : ((-4) : Int32).toInt = -4 := (by decide); have t_n0 : (nI N).toInt = (N : Int) := nI_toInt (by omega); have t_n1 : (nI B).toInt = (B : Int) := nI_toInt (by omega); have t_n2 : (nI D).toInt = (D : Int) := nI_toInt (by omega); omega)) (kwVN hg hK mfX9_hasStretch wn_527 ⟨Nat.le_of_ble_eq_true rfl, Nat.le_of_ble_eq_true rfl⟩) (preVR hK hPc (ci := 9) rfl rfl) rfl rfl hl.1 rfl (lv_room (Nat.le_of_ble_eq_true rfl)) dX10_next_22 ⟨Nat.le_of_ble_eq_true rfl, Nat.le_of_ble_eq_true rfl⟩) hS (fun q h1 h2 => absurd h2 (Nat.not_le.mpr h1)) (fun q h => hA q (Nat.le_trans hS.1 h)) (fun r2 ur2 t H1 locs ht hvm w3 hB hz1 hk1 hS => ?_)
    have hP := keepR hP hk1
    obtain ⟨w3, w3x⟩ := w3
    try simp only [l_ii, show (0 : Int32).toInt = 0 from by decide] at w3
    try rw [nI_toInt (n := N) (by omega)] at w3
    subst w3
    refine lv_if_eq (tgt := 55) hx hb dX10_next_25 (by decide) (fun c4 => ?_) (fun c4 => ?_)
    · skip
      have b5 := if10_n c4
      refine lv_iconst (v := (-1)) hx hb dX10_next_55 (by decide) ?_
      have hpost : True := by
        trivial
      have hP9 := hP.sub (ws' := (([(h0, .inr (10, [.ref rd, .ref wy, .ref tr, .ref im, .ref kp, .ref od, .ref ch, .ref cr, .ref le, .ref mk, .ref tl, .ref sh, .int tf, .int rf])), (ch, .inr (0, [.long w0, .ref wk, .ref cs])), (wk, .inl (G 5, 11, .inr (.inr (.inr (.inr (fun ir => if ir < 11 then some (rw ir) else none)))))), (cs, .inl (G 4, 10, .inr (.inr (.inr (.inr (fun ir => if ir < 10 then some (rq ir) else none)))))), (wy, .inr (9, [.int (nI N), .int (nI B), .int (nI D), .ref a1, .ref a2, .ref a3, .ref a4, .ref a5, .ref a6])), (a1, .inl (G 0, 10, .inl f1)), (a2, .inl (G 0, 10, .inl f2)), (a4, .inl (G 0, 6, .inl f4)), (a5, .inl (G 0, 6, .inl f5)), (a6, .inl (G 0, 6, .inl f6))] : va_W) ++ ((((List.range 11).map (fun iq => (rw iq, .inl (G 1, 70, .inr (.inl (F iq)))))) : va_W) ++ ((((List.range 10).map (fun iq => (rq iq, .inl (G 0, 70, .inl (E iq))))) : va_W) ++ [])))) [0, 1, 2, 3, 4, 5, 6, 7, 8, 9, 10, 11, 12, 13, 14, 15, 16, 17, 18, 19, 20, 21, 22, 23, 24, 25, 26, 27, 28, 29, 30] rfl
      have hD9 := hD.sub (ws' := (([(h0, .inr (10, [.ref rd, .ref wy, .ref tr, .ref im, .ref kp, .ref od, .ref ch, .ref cr, .ref le, .ref mk, .ref tl, .ref sh, .int tf, .int rf])), (ch, .inr (0, [.long w0, .ref wk, .ref cs])), (wk, .inl (G 5, 11, .inr (.inr (.inr (.inr (fun ir => if ir < 11 then some (rw ir) else none)))))), (cs, .inl (G 4, 10, .inr (.inr (.inr (.inr (fun ir => if ir < 10 then some (rq ir) else none)))))), (wy, .inr (9, [.int (nI N), .int (nI B), .int (nI D), .ref a1, .ref a2, .ref a3, .ref a4, .ref a5, .ref a6])), (a1, .inl (G 0, 10, .inl f1)), (a2, .inl (G 0, 10, .inl f2)), (a4, .inl (G 0, 6, .inl f4)), (a5, .inl (G 0, 6, .inl f5)), (a6, .inl (G 0, 6, .inl f6))] : va_W) ++ ((((List.range 11).map (fun iq => (rw iq, .inl (G 1, 70, .inr (.inl (F iq)))))) : va_W) ++ ((((List.range 10).map (fun iq => (rq iq, .inl (G 0, 70, .inl (E iq))))) : va_W) ++ [])))) [0, 1, 2, 3, 4, 5, 6, 7, 8, 9, 10, 11, 12, 13, 14, 15, 16, 17, 18, 19, 20, 21, 22, 23, 24, 25, 26, 27, 28, 29, 30] (by decide) rfl
      refine W.widen (k := 0) (n := 0) (by omega) (by omega) ?_
      exact W.iret (v := (-1)) hx hb hr (fun t ht hW => ⟨⟨(-1), (w0, F, E), rfl, ⟨hpost, trivial⟩, ⟨by rw [ht]; exact hP9, hD9⟩⟩, hS.F ht⟩) hS.2.2 dX10_next_56
    · skip
      have b6 := if10_p c4
      refine lv_iload hx hb dX10_next_28 (lv_at hl 0 rfl) ?_
      refine lv_if_ne (tgt := 44) hx hb dX10_next_30 (by decide) (fun c7 => ?_) (fun c7 => ?_)
      · skip
        exact absurd c7 (by decide)
      · skip
        refine lv_aload_n hx hb dX10_next_33 rfl (lv_at hl 1 rfl) ?_
        refine va_get (D := (dC, dI)) (ci := 10) (v := .ref wy) (C := RX10) (T := TX10) (N := 14) hx hb hg inG10 hown hK.1 hP 0 rfl rfl 1 (by decide) (hg _ wt_303) (fun _ h9 => h9) rfl dX10_next_34 ?_
        refine lv_iload_n hx hb dX10_next_37 rfl (lv_at hl 3 rfl) ?_
        have hPc := hP.sub (ws' := [(wy, .inr (9, [.int (nI N), .int (nI B), .int (nI D), .ref a1, .ref a2, .ref a3, .ref a4, .ref a5, .ref a6]))]) [4] rfl
        refine va_calli (va_runVN (As := [.int g]) (rest := []) ⟨hx, hb, hml, hown, hg⟩ (c_X9_hasBearer l dC dI G _ wy a1 a2 a3 a4 a5 a6 N B D g (by have t_c1 := neI c1; have t_b6 := b6; have t_c7 := eqI c7; have : ((-4) : Int32).toInt = -4 := (by decide); have : (0 : Int32).toInt = 0 := (by decide); have t_n0 : (nI N).toInt = (N : Int) := nI_toInt (by omega); have t_n1 : (nI B).toInt = (B : Int) := nI_toInt (by omega); have t_n2 : (nI D).toInt = (D : Int) := nI_toInt (by omega); omega) (by have t_c1 := neI c1; have t_b6 := b6; have t_c7 := eqI c7; have : ((-4) : Int32).toInt = -4 := (by decide); have : (0 : Int32).toInt = 0 := (by decide); have t_n0 : (nI N).toInt = (N : Int) := nI_toInt (by omega); have t_n1 : (nI B).toInt = (B : Int) := nI_toInt (by omega); have t_n2 : (nI D).toInt = (D : Int) := nI_toInt (by omega); omega) (by have t_c1 := neI c1; have t_b6 := b6; have t_c7 := eqI c7; have : ((-4) : Int32).toInt = -4 := (by decide); have : (0 : Int32).toInt = 0 := (by decide); have t_n0 : (nI N).toInt = (N : Int) := nI_toInt (by omega); have t_n1 : (nI B).toInt = (B : Int) := nI_toInt (by omega); have t_n2 : (nI D).toInt = (D : Int) := nI_toInt (by omega); omega)) (kwVN hg hK mfX9_hasBearer wn_535 ⟨Nat.le_of_ble_eq_true rfl, Nat.le_of_ble_eq_true rfl⟩) (preVR hK hPc (ci := 9) rfl rfl) rfl rfl hl.1 rfl (lv_room (Nat.le_of_ble_eq_true rfl)) dX10_next_38 ⟨Nat.le_of_ble_eq_true rfl, Nat.le_of_ble_eq_true rfl⟩) hS (fun q h1 h2 => absurd h2 (Nat.not_le.mpr h1)) (fun q h => hA q (Nat.le_trans hS.1 h)) (fun r8 ur8 t H1 locs ht hvm w9 hB hz1 hk1 hS => ?_)
        have hP := keepR hP hk1
        obtain ⟨w9, w9x⟩ := w9
        try simp only [l_ii, show (0 : Int32).toInt = 0 from by decide] at w9
        try rw [nI_toInt (n := B) (by omega)] at w9
        subst w9
        refine lv_if_eq (tgt := 55) hx hb dX10_next_41 (by decide) (fun c10 => ?_) (fun c10 => ?_)
        · skip
          have b11 := if10_n c10
          refine lv_iconst (v := (-1)) hx hb dX10_next_55 (by decide) ?_
          have hpost : True := by
            trivial
          have hP9 := hP.sub (ws' := (([(h0, .inr (10, [.ref rd, .ref wy, .ref tr, .ref im, .ref kp, .ref od, .ref ch, .ref cr, .ref le, .ref mk, .ref tl, .ref sh, .int tf, .int rf])), (ch, .inr (0, [.long w0, .ref wk, .ref cs])), (wk, .inl (G 5, 11, .inr (.inr (.inr (.inr (fun ir => if ir < 11 then some (rw ir) else none)))))), (cs, .inl (G 4, 10, .inr (.inr (.inr (.inr (fun ir => if ir < 10 then some (rq ir) else none)))))), (wy, .inr (9, [.int (nI N), .int (nI B), .int (nI D), .ref a1, .ref a2, .ref a3, .ref a4, .ref a5, .ref a6])), (a1, .inl (G 0, 10, .inl f1)), (a2, .inl (G 0, 10, .inl f2)), (a4, .inl (G 0, 6, .inl f4)), (a5, .inl (G 0, 6, .inl f5)), (a6, .inl (G 0, 6, .inl f6))] : va_W) ++ ((((List.range 11).map (fun iq => (rw iq, .inl (G 1, 70, .inr (.inl (F iq)))))) : va_W) ++ ((((List.range 10).map (fun iq => (rq iq, .inl (G 0, 70, .inl (E iq))))) : va_W) ++ [])))) [0, 1, 2, 3, 4, 5, 6, 7, 8, 9, 10, 11, 12, 13, 14, 15, 16, 17, 18, 19, 20, 21, 22, 23, 24, 25, 26, 27, 28, 29, 30] rfl
          have hD9 := hD.sub (ws' := (([(h0, .inr (10, [.ref rd, .ref wy, .ref tr, .ref im, .ref kp, .ref od, .ref ch, .ref cr, .ref le, .ref mk, .ref tl, .ref sh, .int tf, .int rf])), (ch, .inr (0, [.long w0, .ref wk, .ref cs])), (wk, .inl (G 5, 11, .inr (.inr (.inr (.inr (fun ir => if ir < 11 then some (rw ir) else none)))))), (cs, .inl (G 4, 10, .inr (.inr (.inr (.inr (fun ir => if ir < 10 then some (rq ir) else none)))))), (wy, .inr (9, [.int (nI N), .int (nI B), .int (nI D), .ref a1, .ref a2, .ref a3, .ref a4, .ref a5, .ref a6])), (a1, .inl (G 0, 10, .inl f1)), (a2, .inl (G 0, 10, .inl f2)), (a4, .inl (G 0, 6, .inl f4)), (a5, .inl (G 0, 6, .inl f5)), (a6, .inl (G 0, 6, .inl f6))] : va_W) ++ ((((List.range 11).map (fun iq => (rw iq, .inl (G 1, 70, .inr (.inl (F iq)))))) : va_W) ++ ((((List.range 10).map (fun iq => (rq iq, .inl (G 0, 70, .inl (E iq))))) : va_W) ++ [])))) [0, 1, 2, 3, 4, 5, 6, 7, 8, 9, 10, 11, 12, 13, 14, 15, 16, 17, 18, 19, 20, 21, 22, 23, 24, 25, 26, 27, 28, 29, 30] (by decide) rfl
          refine W.widen (k := 0) (n := 0) (by omega) (by omega) ?_
          exact W.iret (v := (-1)) hx hb hr (fun t ht hW => ⟨⟨(-1), (w0, F, E), rfl, ⟨hpost, trivial⟩, ⟨by rw [ht]; exact hP9, hD9⟩⟩, hS.F ht⟩) hS.2.2 dX10_next_56
        · skip
          have b12 := if10_p c10
          refine lv_iload_n hx hb dX10_next_44 rfl (lv_at hl 4 rfl) ?_
          refine lv_iconst (v := 1) hx hb dX10_next_45 (by decide) ?_
          refine lv_icmp_lt (tgt := 55) hx hb dX10_next_46 (by decide) (fun c13 => ?_) (fun c13 => ?_)
          · skip
            refine lv_iconst (v := (-1)) hx hb dX10_next_55 (by decide) ?_
            have hpost : True := by
              trivial
            have hP9 := hP.sub (ws' := (([(h0, .inr (10, [.ref rd, .ref wy, .ref tr, .ref im, .ref kp, .ref od, .ref ch, .ref cr, .ref le, .ref mk, .ref tl, .ref sh, .int tf, .int rf])), (ch, .inr (0, [.long w0, .ref wk, .ref cs])), (wk, .inl (G 5, 11, .inr (.inr (.inr (.inr (fun ir => if ir < 11 then some (rw ir) else none)))))), (cs, .inl (G 4, 10, .inr (.inr (.inr (.inr (fun ir => if ir < 10 then some (rq ir) else none)))))), (wy, .inr (9, [.int (nI N), .int (nI B), .int (nI D), .ref a1, .ref a2, .ref a3, .ref a4, .ref a5, .ref a6])), (a1, .inl (G 0, 10, .inl f1)), (a2, .inl (G 0, 10, .inl f2)), (a4, .inl (G 0, 6, .inl f4)), (a5, .inl (G 0, 6, .inl f5)), (a6, .inl (G 0, 6, .inl f6))] : va_W) ++ ((((List.range 11).map (fun iq => (rw iq, .inl (G 1, 70, .inr (.inl (F iq)))))) : va_W) ++ ((((List.range 10).map (fun iq => (rq iq, .inl (G 0, 70, .inl (E iq))))) : va_W) ++ [])))) [0, 1, 2, 3, 4, 5, 6, 7, 8, 9, 10, 11, 12, 13, 14, 15, 16, 17, 18, 19, 20, 21, 22, 23, 24, 25, 26, 27, 28, 29, 30] rfl
            have hD9 := hD.sub (ws' := (([(h0, .inr (10, [.ref rd, .ref wy, .ref tr, .ref im, .ref kp, .ref od, .ref ch, .ref cr, .ref le, .ref mk, .ref tl, .ref sh, .int tf, .int rf])), (ch, .inr (0, [.long w0, .ref wk, .ref cs])), (wk, .inl (G 5, 11, .inr (.inr (.inr (.inr (fun ir => if ir < 11 then some (rw ir) else none)))))), (cs, .inl (G 4, 10, .inr (.inr (.inr (.inr (fun ir => if ir < 10 then some (rq ir) else none)))))), (wy, .inr (9, [.int (nI N), .int (nI B), .int (nI D), .ref a1, .ref a2, .ref a3, .ref a4, .ref a5, .ref a6])), (a1, .inl (G 0, 10, .inl f1)), (a2, .inl (G 0, 10, .inl f2)), (a4, .inl (G 0, 6, .inl f4)), (a5, .inl (G 0, 6, .inl f5)), (a6, .inl (G 0, 6, .inl f6))] : va_W) ++ ((((List.range 11).map (fun iq => (rw iq, .inl (G 1, 70, .inr (.inl (F iq)))))) : va_W) ++ ((((List.range 10).map (fun iq => (rq iq, .inl (G 0, 70, .inl (E iq))))) : va_W) ++ [])))) [0, 1, 2, 3, 4, 5, 6, 7, 8, 9, 10, 11, 12, 13, 14, 15, 16, 17, 18, 19, 20, 21, 22, 23, 24, 25, 26, 27, 28, 29, 30] (by decide) rfl
            refine W.widen (k := 0) (n := 0) (by omega) (by omega) ?_
            exact W.iret (v := (-1)) hx hb hr (fun t ht hW => ⟨⟨(-1), (w0, F, E), rfl, ⟨hpost, trivial⟩, ⟨by rw [ht]; exact hP9, hD9⟩⟩, hS.F ht⟩) hS.2.2 dX10_next_56
          · skip
            refine lv_iload_n hx hb dX10_next_49 rfl (lv_at hl 4 rfl) ?_
            refine lv_bipush (v := 9) hx hb dX10_next_50 (by decide) ?_
            refine lv_icmp_le (tgt := 57) hx hb dX10_next_52 (by decide) (fun c14 => ?_) (fun c14 => ?_)
            · skip
              obtain ⟨ii, hii, rfl⟩ : ∃ j : Nat, j < 10 ∧ i = nI j := by
                have t_c1 := neI c1
                have t_b6 := b6
                have t_c7 := eqI c7
                have t_b12 := b12
                have t_c13 := nltI c13
                have t_c14 := leI c14
                have : ((-4) : Int32).toInt = -4 := (by decide)
                have : (0 : Int32).toInt = 0 := (by decide)
                have : (1 : Int32).toInt = 1 := (by decide)
                have : (9 : Int32).toInt = 9 := (by decide)
                have t_n0 : (nI N).toInt = (N : Int) := nI_toInt (by omega)
                have t_n1 : (nI B).toInt = (B : Int) := nI_toInt (by omega)
                have t_n2 : (nI D).toInt = (D : Int) := nI_toInt (by omega)
                exact i32_nat (by omega) (by omega)
              obtain ⟨dd, hdd, rfl⟩ : ∃ j : Nat, j < 10 ∧ d = nI j := by
                have t_c1 := neI c1
                have t_b6 := b6
                have t_c7 := eqI c7
                have t_b12 := b12
                have t_c13 := nltI c13
                have t_c14 := leI c14
                have t_hii := hii
                have : ((-4) : Int32).toInt = -4 := (by decide)
                have : (0 : Int32).toInt = 0 := (by decide)
                have : (1 : Int32).toInt = 1 := (by decide)
                have : (9 : Int32).toInt = 9 := (by decide)
                have t_n0 : (nI N).toInt = (N : Int) := nI_toInt (by omega)
                have t_n1 : (nI B).toInt = (B : Int) := nI_toInt (by omega)
                have t_n2 : (nI D).toInt = (D : Int) := nI_toInt (by omega)
                have t_n3 : (nI ii).toInt = (ii : Int) := nI_toInt (by omega)
                exact i32_nat (by omega) (by omega)
              refine lv_aload_n hx hb dX10_next_57 rfl (lv_at hl 1 rfl) ?_
              refine va_get (D := (dC, dI)) (ci := 10) (v := .ref ch) (C := RX10) (T := TX10) (N := 14) hx hb hg inG10 hown hK.1 hP 0 rfl rfl 6 (by decide) (hg _ wt_308) (fun _ h9 => h9) rfl dX10_next_58 ?_
              refine lv_aload_n hx hb dX10_next_61 rfl (lv_at hl 1 rfl) ?_
              refine va_get (D := (dC, dI)) (ci := 10) (v := .ref wy) (C := RX10) (T := TX10) (N := 14) hx hb hg inG10 hown hK.1 hP 0 rfl rfl 1 (by decide) (hg _ wt_303) (fun _ h9 => h9) rfl dX10_next_62 ?_
              refine lv_bipush (v := (-4)) hx hb dX10_next_65 (by decide) ?_
              have hPc := hP.sub (ws' := (([(ch, .inr (0, [.long w0, .ref wk, .ref cs])), (wk, .inl (G 5, 11, .inr (.inr (.inr (.inr (fun ir => if ir < 11 then some (rw ir) else none)))))), (cs, .inl (G 4, 10, .inr (.inr (.inr (.inr (fun ir => if ir < 10 then some (rq ir) else none)))))), (wy, .inr (9, [.int (nI N), .int (nI B), .int (nI D), .ref a1, .ref a2, .ref a3, .ref a4, .ref a5, .ref a6])), (a1, .inl (G 0, 10, .inl f1)), (a2, .inl (G 0, 10, .inl f2)), (a4, .inl (G 0, 6, .inl f4)), (a5, .inl (G 0, 6, .inl f5)), (a6, .inl (G 0, 6, .inl f6))] : va_W) ++ ((((List.range 11).map (fun iq => (rw iq, .inl (G 1, 70, .inr (.inl (F iq)))))) : va_W) ++ ((((List.range 10).map (fun iq => (rq iq, .inl (G 0, 70, .inl (E iq))))) : va_W) ++ [])))) [1, 2, 3, 4, 5, 6, 7, 8, 9, 10, 11, 12, 13, 14, 15, 16, 17, 18, 19, 20, 21, 22, 23, 24, 25, 26, 27, 28, 29, 30] rfl
              have hDc := hD.sub (ws' := (([(ch, .inr (0, [.long w0, .ref wk, .ref cs])), (wk, .inl (G 5, 11, .inr (.inr (.inr (.inr (fun ir => if ir < 11 then some (rw ir) else none)))))), (cs, .inl (G 4, 10, .inr (.inr (.inr (.inr (fun ir => if ir < 10 then some (rq ir) else none)))))), (wy, .inr (9, [.int (nI N), .int (nI B), .int (nI D), .ref a1, .ref a2, .ref a3, .ref a4, .ref a5, .ref a6])), (a1, .inl (G 0, 10, .inl f1)), (a2, .inl (G 0, 10, .inl f2)), (a4, .inl (G 0, 6, .inl f4)), (a5, .inl (G 0, 6, .inl f5)), (a6, .inl (G 0, 6, .inl f6))] : va_W) ++ ((((List.range 11).map (fun iq => (rw iq, .inl (G 1, 70, .inr (.inl (F iq)))))) : va_W) ++ ((((List.range 10).map (fun iq => (rq iq, .inl (G 0, 70, .inl (E iq))))) : va_W) ++ [])))) [1, 2, 3, 4, 5, 6, 7, 8, 9, 10, 11, 12, 13, 14, 15, 16, 17, 18, 19, 20, 21, 22, 23, 24, 25, 26, 27, 28, 29, 30] (by decide) rfl
              have hFc := va_free (wc := (([(ch, .inr (0, [.long w0, .ref wk, .ref cs])), (wk, .inl (G 5, 11, .inr (.inr (.inr (.inr (fun ir => if ir < 11 then some (rw ir) else none)))))), (cs, .inl (G 4, 10, .inr (.inr (.inr (.inr (fun ir => if ir < 10 then some (rq ir) else none)))))), (wy, .inr (9, [.int (nI N), .int (nI B), .int (nI D), .ref a1, .ref a2, .ref a3, .ref a4, .ref a5, .ref a6])), (a1, .inl (G 0, 10, .inl f1)), (a2, .inl (G 0, 10, .inl f2)), (a4, .inl (G 0, 6, .inl f4)), (a5, .inl (G 0, 6, .inl f5)), (a6, .inl (G 0, 6, .inl f6))] : va_W) ++ ((((List.range 11).map (fun iq => (rw iq, .inl (G 1, 70, .inr (.inl (F iq)))))) : va_W) ++ ((((List.range 10).map (fun iq => (rq iq, .inl (G 0, 70, .inl (E iq))))) : va_W) ++ [])))) hD hS hA [1, 2, 3, 4, 5, 6, 7, 8, 9, 10, 11, 12, 13, 14, 15, 16, 17, 18, 19, 20, 21, 22, 23, 24, 25, 26, 27, 28, 29, 30] rfl
              refine va_callv (va_runVN (As := [.ref wy, .int (-4)]) (rest := []) ⟨hx, hb, hml, hown, hg⟩ (c_X0_plan l dC dI G _ ch wk cs wy a1 a2 a3 a4 a5 a6 N B D (-4) w0 f1 f2 f4 f5 f6 rw rq F E (by have t_c1 := neI c1; have t_b6 := b6; have t_c7 := eqI c7; have t_b12 := b12; have t_c13 := nltI c13; have t_c14 := leI c14; have t_hii := hii; have t_hdd := hdd; have : ((-4) : Int32).toInt = -4 := (by decide); have : (0 : Int32).toInt = 0 := (by decide); have : (1 : Int32).toInt = 1 := (by decide); have : (9 : Int32).toInt = 9 := (by decide); have t_n0 : (nI N).toInt = (N : Int) := nI_toInt (by omega); have t_n1 : (nI B).toInt = (B : Int) := nI_toInt (by omega); have t_n2 : (nI D).toInt = (D : Int) := nI_toInt (by omega); have t_n3 : (nI ii).toInt = (ii : Int) := nI_toInt (by omega); have t_n4 : (nI dd).toInt = (dd : Int) := nI_toInt (by omega); have : ((-4) : Int32).toInt = -4 := (by decide); omega) (by have t_c1 := neI c1; have t_b6 := b6; have t_c7 := eqI c7; have t_b12 := b12; have t_c13 := nltI c13; have t_c14 := leI c14; have t_hii := hii; have t_hdd := hdd; have : ((-4) : Int32).toInt = -4 := (by decide); have : (0 : Int32).toInt = 0 := (by decide); have : (1 : Int32).toInt = 1 := (by decide); have : (9 : Int32).toInt = 9 := (by decide); have t_n0 : (nI N).toInt = (N : Int) := nI_toInt (by omega); have t_n1 : (nI B).toInt = (B : Int) := nI_toInt (by omega); have t_n2 : (nI D).toInt = (D : Int) := nI_toInt (by omega); have t_n3 : (nI ii).toInt = (ii : Int) := nI_toInt (by omega); have t_n4 : (nI dd).toInt = (dd : Int) := nI_toInt (by omega); have : ((-4) : Int32).toInt = -4 := (by decide); omega) (by have t_c1 := neI c1; have t_b6 := b6; have t_c7 := eqI c7; have t_b12 := b12; have t_c13 := nltI c13; have t_c14 := leI c14; have t_hii := hii; have t_hdd := hdd; have : ((-4) : Int32).toInt = -4 := (by decide); have : (0 : Int32).toInt = 0 := (by decide); have : (1 : Int32).toInt = 1 := (by decide); have : (9 : Int32).toInt = 9 := (by decide); have t_n0 : (nI N).toInt = (N : Int) := nI_toInt (by omega); have t_n1 : (nI B).toInt = (B : Int) := nI_toInt (by omega); have t_n2 : (nI D).toInt = (D : Int) := nI_toInt (by omega); have t_n3 : (nI ii).toInt = (ii : Int) := nI_toInt (by omega); have t_n4 : (nI dd).toInt = (dd : Int) := nI_toInt (by omega); have : ((-4) : Int32).toInt = -4 := (by decide); omega)) (kwVN hg hK mfX0_plan wn_657 ⟨Nat.le_of_ble_eq_true rfl, Nat.le_of_ble_eq_true rfl⟩) (preVW hK hPc hDc (ci := 0) rfl rfl) rfl rfl hl.1 rfl (lv_room (Nat.le_of_ble_eq_true rfl)) dX10_next_67 ⟨Nat.le_of_ble_eq_true rfl, Nat.le_of_ble_eq_true rfl⟩) hS (fun q _ h => hFc q h) hFc (fun ur15 t H1 locs ht hvm w16 hB hz1 hk1 hS => ?_)
              obtain ⟨u17, u18, u19⟩ := ur15
              obtain ⟨hP1, hD1⟩ := hB
              rw [ht] at hP1
              obtain ⟨hP, hD⟩ := va_join (wr := [(h0, .inr (10, [.ref rd, .ref wy, .ref tr, .ref im, .ref kp, .ref od, .ref ch, .ref cr, .ref le, .ref mk, .ref tl, .ref sh, .int tf, .int rf]))]) (w1 := (([(ch, .inr (0, [.long u17, .ref wk, .ref cs])), (wk, .inl (G 5, 11, .inr (.inr (.inr (.inr (fun ir => if ir < 11 then some (rw ir) else none)))))), (cs, .inl (G 4, 10, .inr (.inr (.inr (.inr (fun ir => if ir < 10 then some (rq ir) else none)))))), (wy, .inr (9, [.int (nI N), .int (nI B), .int (nI D), .ref a1, .ref a2, .ref a3, .ref a4, .ref a5, .ref a6])), (a1, .inl (G 0, 10, .inl f1)), (a2, .inl (G 0, 10, .inl f2)), (a4, .inl (G 0, 6, .inl f4)), (a5, .inl (G 0, 6, .inl f5)), (a6, .inl (G 0, 6, .inl f6))] : va_W) ++ ((((List.range 11).map (fun iq => (rw iq, .inl (G 1, 70, .inr (.inl (u18 iq)))))) : va_W) ++ ((((List.range 10).map (fun iq => (rq iq, .inl (G 0, 70, .inl (u19 iq))))) : va_W) ++ [])))) hP hD [1, 2, 3, 4, 5, 6, 7, 8, 9, 10, 11, 12, 13, 14, 15, 16, 17, 18, 19, 20, 21, 22, 23, 24, 25, 26, 27, 28, 29, 30] [0] rfl rfl (by decide) (by decide) hk1 hFc hP1 hD1
              generalize H1 = H at hP hS ⊢
              have hP : va_P (dC, dI) vwCl (([(h0, .inr (10, [.ref rd, .ref wy, .ref tr, .ref im, .ref kp, .ref od, .ref ch, .ref cr, .ref le, .ref mk, .ref tl, .ref sh, .int tf, .int rf])), (ch, .inr (0, [.long u17, .ref wk, .ref cs])), (wk, .inl (G 5, 11, .inr (.inr (.inr (.inr (fun ir => if ir < 11 then some (rw ir) else none)))))), (cs, .inl (G 4, 10, .inr (.inr (.inr (.inr (fun ir => if ir < 10 then some (rq ir) else none)))))), (wy, .inr (9, [.int (nI N), .int (nI B), .int (nI D), .ref a1, .ref a2, .ref a3, .ref a4, .ref a5, .ref a6])), (a1, .inl (G 0, 10, .inl f1)), (a2, .inl (G 0, 10, .inl f2)), (a4, .inl (G 0, 6, .inl f4)), (a5, .inl (G 0, 6, .inl f5)), (a6, .inl (G 0, 6, .inl f6))] : va_W) ++ ((((List.range 11).map (fun iq => (rw iq, .inl (G 1, 70, .inr (.inl (u18 iq)))))) : va_W) ++ ((((List.range 10).map (fun iq => (rq iq, .inl (G 0, 70, .inl (u19 iq))))) : va_W) ++ []))) H := hP
              have hD : va_D A (([(h0, .inr (10, [.ref rd, .ref wy, .ref tr, .ref im, .ref kp, .ref od, .ref ch, .ref cr, .ref le, .ref mk, .ref tl, .ref sh, .int tf, .int rf])), (ch, .inr (0, [.long u17, .ref wk, .ref cs])), (wk, .inl (G 5, 11, .inr (.inr (.inr (.inr (fun ir => if ir < 11 then some (rw ir) else none)))))), (cs, .inl (G 4, 10, .inr (.inr (.inr (.inr (fun ir => if ir < 10 then some (rq ir) else none)))))), (wy, .inr (9, [.int (nI N), .int (nI B), .int (nI D), .ref a1, .ref a2, .ref a3, .ref a4, .ref a5, .ref a6])), (a1, .inl (G 0, 10, .inl f1)), (a2, .inl (G 0, 10, .inl f2)), (a4, .inl (G 0, 6, .inl f4)), (a5, .inl (G 0, 6, .inl f5)), (a6, .inl (G 0, 6, .inl f6))] : va_W) ++ ((((List.range 11).map (fun iq => (rw iq, .inl (G 1, 70, .inr (.inl (u18 iq)))))) : va_W) ++ ((((List.range 10).map (fun iq => (rq iq, .inl (G 0, 70, .inl (u19 iq))))) : va_W) ++ []))) := hD
              refine lv_aload_n hx hb dX10_next_70 rfl (lv_at hl 1 rfl) ?_
              refine va_get (D := (dC, dI)) (ci := 10) (v := .ref ch) (C := RX10) (T := TX10) (N := 14) hx hb hg inG10 hown hK.1 hP 0 rfl rfl 6 (by decide) (hg _ wt_308) (fun _ h9 => h9) rfl dX10_next_71 ?_
              refine va_getN (D := (dC, dI)) (ci := 0) (v := .ref cs) (C := RX0) (T := TX0) (N := 3) hx hb hg inG0 hown hK.1 hP 1 rfl rfl 2 (by decide) (hK.nest wn_184) (fun _ h9 => h9) rfl dX10_next_74 ?_
              refine lv_iload_n hx hb dX10_next_77 rfl (lv_at hl 2 rfl) ?_
              refine va_aldA hx hb hK.1 hP 3 4 rfl rfl (vp_in_nI (by have t_c1 := neI c1; have t_b6 := b6; have t_c7 := eqI c7; have t_b12 := b12; have t_c13 := nltI c13; have t_c14 := leI c14; have t_hii := hii; have t_hdd := hdd; have : ((-4) : Int32).toInt = -4 := (by decide); have : (0 : Int32).toInt = 0 := (by decide); have : (1 : Int32).toInt = 1 := (by decide); have : (9 : Int32).toInt = 9 := (by decide); have t_n0 : (nI N).toInt = (N : Int) := nI_toInt (by omega); have t_n1 : (nI B).toInt = (B : Int) := nI_toInt (by omega); have t_n2 : (nI D).toInt = (D : Int) := nI_toInt (by omega); have t_n3 : (nI ii).toInt = (ii : Int) := nI_toInt (by omega); have t_n4 : (nI dd).toInt = (dd : Int) := nI_toInt (by omega); omega) (by decide)) dX10_next_78 ?_
              refine lv_cgv (y := .ref (rq ii)) (rowref (by have t_c1 := neI c1; have t_b6 := b6; have t_c7 := eqI c7; have t_b12 := b12; have t_c13 := nltI c13; have t_c14 := leI c14; have t_hii := hii; have t_hdd := hdd; have : ((-4) : Int32).toInt = -4 := (by decide); have : (0 : Int32).toInt = 0 := (by decide); have : (1 : Int32).toInt = 1 := (by decide); have : (9 : Int32).toInt = 9 := (by decide); have t_n0 : (nI N).toInt = (N : Int) := nI_toInt (by omega); have t_n1 : (nI B).toInt = (B : Int) := nI_toInt (by omega); have t_n2 : (nI D).toInt = (D : Int) := nI_toInt (by omega); have t_n3 : (nI ii).toInt = (ii : Int) := nI_toInt (by omega); have t_n4 : (nI dd).toInt = (dd : Int) := nI_toInt (by omega); omega) (by decide)) ?_
              refine lv_iload_n hx hb dX10_next_79 rfl (lv_at hl 3 rfl) ?_
              refine lv_iload_n hx hb dX10_next_80 rfl (lv_at hl 4 rfl) ?_
              have hPc := hP.sub (ws' := []) [] rfl
              refine va_calli (va_runSN (As := [.int g, .int (nI dd)]) (rest := [.ref (rq ii)]) ⟨hx, hb, hml, hown, hg⟩ (c_X0_slot l dC dI G _ dd g (by have t_c1 := neI c1; have t_b6 := b6; have t_c7 := eqI c7; have t_b12 := b12; have t_c13 := nltI c13; have t_c14 := leI c14; have t_hii := hii; have t_hdd := hdd; have : ((-4) : Int32).toInt = -4 := (by decide); have : (0 : Int32).toInt = 0 := (by decide); have : (1 : Int32).toInt = 1 := (by decide); have : (9 : Int32).toInt = 9 := (by decide); have t_n0 : (nI N).toInt = (N : Int) := nI_toInt (by omega); have t_n1 : (nI B).toInt = (B : Int) := nI_toInt (by omega); have t_n2 : (nI D).toInt = (D : Int) := nI_toInt (by omega); have t_n3 : (nI ii).toInt = (ii : Int) := nI_toInt (by omega); have t_n4 : (nI dd).toInt = (dd : Int) := nI_toInt (by omega); omega) (by have t_c1 := neI c1; have t_b6 := b6; have t_c7 := eqI c7; have t_b12 := b12; have t_c13 := nltI c13; have t_c14 := leI c14; have t_hii := hii; have t_hdd := hdd; have : ((-4) : Int32).toInt = -4 := (by decide); have : (0 : Int32).toInt = 0 := (by decide); have : (1 : Int32).toInt = 1 := (by decide); have : (9 : Int32).toInt = 9 := (by decide); have t_n0 : (nI N).toInt = (N : Int) := nI_toInt (by omega); have t_n1 : (nI B).toInt = (B : Int) := nI_toInt (by omega); have t_n2 : (nI D).toInt = (D : Int) := nI_toInt (by omega); have t_n3 : (nI ii).toInt = (ii : Int) := nI_toInt (by omega); have t_n4 : (nI dd).toInt = (dd : Int) := nI_toInt (by omega); omega)) (kwSN hg hK mfX0_slot wn_684 ⟨Nat.le_of_ble_eq_true rfl, Nat.le_of_ble_eq_true rfl⟩) (preSR hK hPc) rfl rfl hl.1 rfl (lv_room (Nat.le_of_ble_eq_true rfl)) dX10_next_81 ⟨Nat.le_of_ble_eq_true rfl, Nat.le_of_ble_eq_true rfl⟩) hS (fun q h1 h2 => absurd h2 (Nat.not_le.mpr h1)) (fun q h => hA q (Nat.le_trans hS.1 h)) (fun r20 ur20 t H1 locs ht hvm w21 hB hz1 hk1 hS => ?_)
              have hP := keepR hP hk1
              obtain ⟨w21, w21x⟩ := w21
              have hs22 : slotF g dd < 70 := slotF_lt (by have t_c1 := neI c1; have t_b6 := b6; have t_c7 := eqI c7; have t_b12 := b12; have t_c13 := nltI c13; have t_c14 := leI c14; have t_hii := hii; have t_hdd := hdd; have : ((-4) : Int32).toInt = -4 := (by decide); have : (0 : Int32).toInt = 0 := (by decide); have : (1 : Int32).toInt = 1 := (by decide); have : (9 : Int32).toInt = 9 := (by decide); have t_n0 : (nI N).toInt = (N : Int) := nI_toInt (by omega); have t_n1 : (nI B).toInt = (B : Int) := nI_toInt (by omega); have t_n2 : (nI D).toInt = (D : Int) := nI_toInt (by omega); have t_n3 : (nI ii).toInt = (ii : Int) := nI_toInt (by omega); have t_n4 : (nI dd).toInt = (dd : Int) := nI_toInt (by omega); omega) (by have t_c1 := neI c1; have t_b6 := b6; have t_c7 := eqI c7; have t_b12 := b12; have t_c13 := nltI c13; have t_c14 := leI c14; have t_hii := hii; have t_hdd := hdd; have : ((-4) : Int32).toInt = -4 := (by decide); have : (0 : Int32).toInt = 0 := (by decide); have : (1 : Int32).toInt = 1 := (by decide); have : (9 : Int32).toInt = 9 := (by decide); have t_n0 : (nI N).toInt = (N : Int) := nI_toInt (by omega); have t_n1 : (nI B).toInt = (B : Int) := nI_toInt (by omega); have t_n2 : (nI D).toInt = (D : Int) := nI_toInt (by omega); have t_n3 : (nI ii).toInt = (ii : Int) := nI_toInt (by omega); have t_n4 : (nI dd).toInt = (dd : Int) := nI_toInt (by omega); omega)
              subst w21
              refine va_iald hx hb hK.1 (blk_P2 (j := ii) hP (by have t_c1 := neI c1; have t_b6 := b6; have t_c7 := eqI c7; have t_b12 := b12; have t_c13 := nltI c13; have t_c14 := leI c14; have t_hii := hii; have t_hdd := hdd; have t_hs22 := hs22; have : ((-4) : Int32).toInt = -4 := (by decide); have : (0 : Int32).toInt = 0 := (by decide); have : (1 : Int32).toInt = 1 := (by decide); have : (9 : Int32).toInt = 9 := (by decide); have t_n0 : (nI N).toInt = (N : Int) := nI_toInt (by omega); have t_n1 : (nI B).toInt = (B : Int) := nI_toInt (by omega); have t_n2 : (nI D).toInt = (D : Int) := nI_toInt (by omega); have t_n3 : (nI ii).toInt = (ii : Int) := nI_toInt (by omega); have t_n4 : (nI dd).toInt = (dd : Int) := nI_toInt (by omega); omega)) 0 0 rfl rfl (vp_in_nI (by have t_c1 := neI c1; have t_b6 := b6; have t_c7 := eqI c7; have t_b12 := b12; have t_c13 := nltI c13; have t_c14 := leI c14; have t_hii := hii; have t_hdd := hdd; have t_hs22 := hs22; have : ((-4) : Int32).toInt = -4 := (by decide); have : (0 : Int32).toInt = 0 := (by decide); have : (1 : Int32).toInt = 1 := (by decide); have : (9 : Int32).toInt = 9 := (by decide); have t_n0 : (nI N).toInt = (N : Int) := nI_toInt (by omega); have t_n1 : (nI B).toInt = (B : Int) := nI_toInt (by omega); have t_n2 : (nI D).toInt = (D : Int) := nI_toInt (by omega); have t_n3 : (nI ii).toInt = (ii : Int) := nI_toInt (by omega); have t_n4 : (nI dd).toInt = (dd : Int) := nI_toInt (by omega); omega) (by decide)) dX10_next_84 ?_
              refine lv_cg (y := u19 ii (slotF g dd)) (by rw [nI_clamp (by have t_c1 := neI c1; have t_b6 := b6; have t_c7 := eqI c7; have t_b12 := b12; have t_c13 := nltI c13; have t_c14 := leI c14; have t_hii := hii; have t_hdd := hdd; have t_hs22 := hs22; have : ((-4) : Int32).toInt = -4 := (by decide); have : (0 : Int32).toInt = 0 := (by decide); have : (1 : Int32).toInt = 1 := (by decide); have : (9 : Int32).toInt = 9 := (by decide); have t_n0 : (nI N).toInt = (N : Int) := nI_toInt (by omega); have t_n1 : (nI B).toInt = (B : Int) := nI_toInt (by omega); have t_n2 : (nI D).toInt = (D : Int) := nI_toInt (by omega); have t_n3 : (nI ii).toInt = (ii : Int) := nI_toInt (by omega); have t_n4 : (nI dd).toInt = (dd : Int) := nI_toInt (by omega); omega)]) ?_
              have hpost : True := by
                trivial
              have hP9 := hP.sub (ws' := (([(h0, .inr (10, [.ref rd, .ref wy, .ref tr, .ref im, .ref kp, .ref od, .ref ch, .ref cr, .ref le, .ref mk, .ref tl, .ref sh, .int tf, .int rf])), (ch, .inr (0, [.long u17, .ref wk, .ref cs])), (wk, .inl (G 5, 11, .inr (.inr (.inr (.inr (fun ir => if ir < 11 then some (rw ir) else none)))))), (cs, .inl (G 4, 10, .inr (.inr (.inr (.inr (fun ir => if ir < 10 then some (rq ir) else none)))))), (wy, .inr (9, [.int (nI N), .int (nI B), .int (nI D), .ref a1, .ref a2, .ref a3, .ref a4, .ref a5, .ref a6])), (a1, .inl (G 0, 10, .inl f1)), (a2, .inl (G 0, 10, .inl f2)), (a4, .inl (G 0, 6, .inl f4)), (a5, .inl (G 0, 6, .inl f5)), (a6, .inl (G 0, 6, .inl f6))] : va_W) ++ ((((List.range 11).map (fun iq => (rw iq, .inl (G 1, 70, .inr (.inl (u18 iq)))))) : va_W) ++ ((((List.range 10).map (fun iq => (rq iq, .inl (G 0, 70, .inl (u19 iq))))) : va_W) ++ [])))) [0, 1, 2, 3, 4, 5, 6, 7, 8, 9, 10, 11, 12, 13, 14, 15, 16, 17, 18, 19, 20, 21, 22, 23, 24, 25, 26, 27, 28, 29, 30] rfl
              have hD9 := hD.sub (ws' := (([(h0, .inr (10, [.ref rd, .ref wy, .ref tr, .ref im, .ref kp, .ref od, .ref ch, .ref cr, .ref le, .ref mk, .ref tl, .ref sh, .int tf, .int rf])), (ch, .inr (0, [.long u17, .ref wk, .ref cs])), (wk, .inl (G 5, 11, .inr (.inr (.inr (.inr (fun ir => if ir < 11 then some (rw ir) else none)))))), (cs, .inl (G 4, 10, .inr (.inr (.inr (.inr (fun ir => if ir < 10 then some (rq ir) else none)))))), (wy, .inr (9, [.int (nI N), .int (nI B), .int (nI D), .ref a1, .ref a2, .ref a3, .ref a4, .ref a5, .ref a6])), (a1, .inl (G 0, 10, .inl f1)), (a2, .inl (G 0, 10, .inl f2)), (a4, .inl (G 0, 6, .inl f4)), (a5, .inl (G 0, 6, .inl f5)), (a6, .inl (G 0, 6, .inl f6))] : va_W) ++ ((((List.range 11).map (fun iq => (rw iq, .inl (G 1, 70, .inr (.inl (u18 iq)))))) : va_W) ++ ((((List.range 10).map (fun iq => (rq iq, .inl (G 0, 70, .inl (u19 iq))))) : va_W) ++ [])))) [0, 1, 2, 3, 4, 5, 6, 7, 8, 9, 10, 11, 12, 13, 14, 15, 16, 17, 18, 19, 20, 21, 22, 23, 24, 25, 26, 27, 28, 29, 30] (by decide) rfl
              refine W.widen (k := 0) (n := 0) (by omega) (by omega) ?_
              exact W.iret (v := u19 ii (slotF g dd)) hx hb hr (fun t ht hW => ⟨⟨u19 ii (slotF g dd), (u17, u18, u19), rfl, ⟨hpost, trivial⟩, ⟨by rw [ht]; exact hP9, hD9⟩⟩, hS.F ht⟩) hS.2.2 dX10_next_85
            · skip
              refine lv_iconst (v := (-1)) hx hb dX10_next_55 (by decide) ?_
              have hpost : True := by
                trivial
              have hP9 := hP.sub (ws' := (([(h0, .inr (10, [.ref rd, .ref wy, .ref tr, .ref im, .ref kp, .ref od, .ref ch, .ref cr, .ref le, .ref mk, .ref tl, .ref sh, .int tf, .int rf])), (ch, .inr (0, [.long w0, .ref wk, .ref cs])), (wk, .inl (G 5, 11, .inr (.inr (.inr (.inr (fun ir => if ir < 11 then some (rw ir) else none)))))), (cs, .inl (G 4, 10, .inr (.inr (.inr (.inr (fun ir => if ir < 10 then some (rq ir) else none)))))), (wy, .inr (9, [.int (nI N), .int (nI B), .int (nI D), .ref a1, .ref a2, .ref a3, .ref a4, .ref a5, .ref a6])), (a1, .inl (G 0, 10, .inl f1)), (a2, .inl (G 0, 10, .inl f2)), (a4, .inl (G 0, 6, .inl f4)), (a5, .inl (G 0, 6, .inl f5)), (a6, .inl (G 0, 6, .inl f6))] : va_W) ++ ((((List.range 11).map (fun iq => (rw iq, .inl (G 1, 70, .inr (.inl (F iq)))))) : va_W) ++ ((((List.range 10).map (fun iq => (rq iq, .inl (G 0, 70, .inl (E iq))))) : va_W) ++ [])))) [0, 1, 2, 3, 4, 5, 6, 7, 8, 9, 10, 11, 12, 13, 14, 15, 16, 17, 18, 19, 20, 21, 22, 23, 24, 25, 26, 27, 28, 29, 30] rfl
              have hD9 := hD.sub (ws' := (([(h0, .inr (10, [.ref rd, .ref wy, .ref tr, .ref im, .ref kp, .ref od, .ref ch, .ref cr, .ref le, .ref mk, .ref tl, .ref sh, .int tf, .int rf])), (ch, .inr (0, [.long w0, .ref wk, .ref cs])), (wk, .inl (G 5, 11, .inr (.inr (.inr (.inr (fun ir => if ir < 11 then some (rw ir) else none)))))), (cs, .inl (G 4, 10, .inr (.inr (.inr (.inr (fun ir => if ir < 10 then some (rq ir) else none)))))), (wy, .inr (9, [.int (nI N), .int (nI B), .int (nI D), .ref a1, .ref a2, .ref a3, .ref a4, .ref a5, .ref a6])), (a1, .inl (G 0, 10, .inl f1)), (a2, .inl (G 0, 10, .inl f2)), (a4, .inl (G 0, 6, .inl f4)), (a5, .inl (G 0, 6, .inl f5)), (a6, .inl (G 0, 6, .inl f6))] : va_W) ++ ((((List.range 11).map (fun iq => (rw iq, .inl (G 1, 70, .inr (.inl (F iq)))))) : va_W) ++ ((((List.range 10).map (fun iq => (rq iq, .inl (G 0, 70, .inl (E iq))))) : va_W) ++ [])))) [0, 1, 2, 3, 4, 5, 6, 7, 8, 9, 10, 11, 12, 13, 14, 15, 16, 17, 18, 19, 20, 21, 22, 23, 24, 25, 26, 27, 28, 29, 30] (by decide) rfl
              refine W.widen (k := 0) (n := 0) (by omega) (by omega) ?_
              exact W.iret (v := (-1)) hx hb hr (fun t ht hW => ⟨⟨(-1), (w0, F, E), rfl, ⟨hpost, trivial⟩, ⟨by rw [ht]; exact hP9, hD9⟩⟩, hS.F ht⟩) hS.2.2 dX10_next_56
  · skip
    refine lv_iload_n hx hb dX10_next_6 rfl (lv_at hl 1 rfl) ?_
    refine lv_if_ne (tgt := 14) hx hb dX10_next_7 (by decide) (fun c23 => ?_) (fun c23 => ?_)
    · skip
      refine lv_iconst (v := 0) hx hb dX10_next_14 (by decide) ?_
      refine lv_istore (lv' := [(4, .int 0), (0, .ref h0), (1, .int i), (2, .int g), (3, .int d)]) hx hb dX10_next_15 hl (by decide) rfl (fun ls hl => ?_)
      refine lv_aload_n hx hb dX10_next_17 rfl (lv_at hl 1 rfl) ?_
      refine va_get (D := (dC, dI)) (ci := 10) (v := .ref wy) (C := RX10) (T := TX10) (N := 14) hx hb hg inG10 hown hK.1 hP 0 rfl rfl 1 (by decide) (hg _ wt_303) (fun _ h9 => h9) rfl dX10_next_18 ?_
      refine lv_iload_n hx hb dX10_next_21 rfl (lv_at hl 2 rfl) ?_
      have hPc := hP.sub (ws' := [(wy, .inr (9, [.int (nI N), .int (nI B), .int (nI D), .ref a1, .ref a2, .ref a3, .ref a4, .ref a5, .ref a6]))]) [4] rfl
      refine va_calli (va_runVN (As := [.int i]) (rest := []) ⟨hx, hb, hml, hown, hg⟩ (c_X9_hasStretch l dC dI G _ wy a1 a2 a3 a4 a5 a6 N B D i (by have t_c1 := eqI c1; have t_c23 := neI c23; have : ((-4) : Int32).toInt = -4 := (by decide); have : (0 : Int32).toInt = 0 := (by decide); have t_n0 : (nI N).toInt = (N : Int) := nI_toInt (by omega); have t_n1 : (nI B).toInt = (B : Int) := nI_toInt (by omega); have t_n2 : (nI D).toInt = (D : Int) := nI_toInt (by omega); omega) (by have t_c1 := eqI c1; have t_c23 := neI c23; have : ((-4) : Int32).toInt = -4 := (by decide); have : (0 : Int32).toInt = 0 := (by decide); have t_n0 : (nI N).toInt = (N : Int) := nI_toInt (by omega); have t_n1 : (nI B).toInt = (B : Int) := nI_toInt (by omega); have t_n2 : (nI D).toInt = (D : Int) := nI_toInt (by omega); omega) (by have t_c1 := eqI c1; have t_c23 := neI c23; have : ((-4) : Int32).toInt = -4 := (by decide); have : (0 : Int32).toInt = 0 := (by decide); have t_n0 : (nI N).toInt = (N : Int) := nI_toInt (by omega); have t_n1 : (nI B).toInt = (B : Int) := nI_toInt (by omega); have t_n2 : (nI D).toInt = (D : Int) := nI_toInt (by omega); omega)) (kwVN hg hK mfX9_hasStretch wn_527 ⟨Nat.le_of_ble_eq_true rfl, Nat.le_of_ble_eq_true rfl⟩) (preVR hK hPc (ci := 9) rfl rfl) rfl rfl hl.1 rfl (lv_room (Nat.le_of_ble_eq_true rfl)) dX10_next_22 ⟨Nat.le_of_ble_eq_true rfl, Nat.le_of_ble_eq_true rfl⟩) hS (fun q h1 h2 => absurd h2 (Nat.not_le.mpr h1)) (fun q h => hA q (Nat.le_trans hS.1 h)) (fun r24 ur24 t H1 locs ht hvm w25 hB hz1 hk1 hS => ?_)
      have hP := keepR hP hk1
      obtain ⟨w25, w25x⟩ := w25
      try simp only [l_ii, show (0 : Int32).toInt = 0 from by decide] at w25
      try rw [nI_toInt (n := N) (by omega)] at w25
      subst w25
      refine lv_if_eq (tgt := 55) hx hb dX10_next_25 (by decide) (fun c26 => ?_) (fun c26 => ?_)
      · skip
        have b27 := if10_n c26
        refine lv_iconst (v := (-1)) hx hb dX10_next_55 (by decide) ?_
        have hpost : True := by
          trivial
        have hP9 := hP.sub (ws' := (([(h0, .inr (10, [.ref rd, .ref wy, .ref tr, .ref im, .ref kp, .ref od, .ref ch, .ref cr, .ref le, .ref mk, .ref tl, .ref sh, .int tf, .int rf])), (ch, .inr (0, [.long w0, .ref wk, .ref cs])), (wk, .inl (G 5, 11, .inr (.inr (.inr (.inr (fun ir => if ir < 11 then some (rw ir) else none)))))), (cs, .inl (G 4, 10, .inr (.inr (.inr (.inr (fun ir => if ir < 10 then some (rq ir) else none)))))), (wy, .inr (9, [.int (nI N), .int (nI B), .int (nI D), .ref a1, .ref a2, .ref a3, .ref a4, .ref a5, .ref a6])), (a1, .inl (G 0, 10, .inl f1)), (a2, .inl (G 0, 10, .inl f2)), (a4, .inl (G 0, 6, .inl f4)), (a5, .inl (G 0, 6, .inl f5)), (a6, .inl (G 0, 6, .inl f6))] : va_W) ++ ((((List.range 11).map (fun iq => (rw iq, .inl (G 1, 70, .inr (.inl (F iq)))))) : va_W) ++ ((((List.range 10).map (fun iq => (rq iq, .inl (G 0, 70, .inl (E iq))))) : va_W) ++ [])))) [0, 1, 2, 3, 4, 5, 6, 7, 8, 9, 10, 11, 12, 13, 14, 15, 16, 17, 18, 19, 20, 21, 22, 23, 24, 25, 26, 27, 28, 29, 30] rfl
        have hD9 := hD.sub (ws' := (([(h0, .inr (10, [.ref rd, .ref wy, .ref tr, .ref im, .ref kp, .ref od, .ref ch, .ref cr, .ref le, .ref mk, .ref tl, .ref sh, .int tf, .int rf])), (ch, .inr (0, [.long w0, .ref wk, .ref cs])), (wk, .inl (G 5, 11, .inr (.inr (.inr (.inr (fun ir => if ir < 11 then some (rw ir) else none)))))), (cs, .inl (G 4, 10, .inr (.inr (.inr (.inr (fun ir => if ir < 10 then some (rq ir) else none)))))), (wy, .inr (9, [.int (nI N), .int (nI B), .int (nI D), .ref a1, .ref a2, .ref a3, .ref a4, .ref a5, .ref a6])), (a1, .inl (G 0, 10, .inl f1)), (a2, .inl (G 0, 10, .inl f2)), (a4, .inl (G 0, 6, .inl f4)), (a5, .inl (G 0, 6, .inl f5)), (a6, .inl (G 0, 6, .inl f6))] : va_W) ++ ((((List.range 11).map (fun iq => (rw iq, .inl (G 1, 70, .inr (.inl (F iq)))))) : va_W) ++ ((((List.range 10).map (fun iq => (rq iq, .inl (G 0, 70, .inl (E iq))))) : va_W) ++ [])))) [0, 1, 2, 3, 4, 5, 6, 7, 8, 9, 10, 11, 12, 13, 14, 15, 16, 17, 18, 19, 20, 21, 22, 23, 24, 25, 26, 27, 28, 29, 30] (by decide) rfl
        refine W.widen (k := 0) (n := 0) (by omega) (by omega) ?_
        exact W.iret (v := (-1)) hx hb hr (fun t ht hW => ⟨⟨(-1), (w0, F, E), rfl, ⟨hpost, trivial⟩, ⟨by rw [ht]; exact hP9, hD9⟩⟩, hS.F ht⟩) hS.2.2 dX10_next_56
      · skip
        have b28 := if10_p c26
        refine lv_iload hx hb dX10_next_28 (lv_at hl 0 rfl) ?_
        refine lv_if_ne (tgt := 44) hx hb dX10_next_30 (by decide) (fun c29 => ?_) (fun c29 => ?_)
        · skip
          exact absurd c29 (by decide)
        · skip
          refine lv_aload_n hx hb dX10_next_33 rfl (lv_at hl 1 rfl) ?_
          refine va_get (D := (dC, dI)) (ci := 10) (v := .ref wy) (C := RX10) (T := TX10) (N := 14) hx hb hg inG10 hown hK.1 hP 0 rfl rfl 1 (by decide) (hg _ wt_303) (fun _ h9 => h9) rfl dX10_next_34 ?_
          refine lv_iload_n hx hb dX10_next_37 rfl (lv_at hl 3 rfl) ?_
          have hPc := hP.sub (ws' := [(wy, .inr (9, [.int (nI N), .int (nI B), .int (nI D), .ref a1, .ref a2, .ref a3, .ref a4, .ref a5, .ref a6]))]) [4] rfl
          refine va_calli (va_runVN (As := [.int g]) (rest := []) ⟨hx, hb, hml, hown, hg⟩ (c_X9_hasBearer l dC dI G _ wy a1 a2 a3 a4 a5 a6 N B D g (by have t_c1 := eqI c1; have t_c23 := neI c23; have t_b28 := b28; have t_c29 := eqI c29; have : ((-4) : Int32).toInt = -4 := (by decide); have : (0 : Int32).toInt = 0 := (by decide); have t_n0 : (nI N).toInt = (N : Int) := nI_toInt (by omega); have t_n1 : (nI B).toInt = (B : Int) := nI_toInt (by omega); have t_n2 : (nI D).toInt = (D : Int) := nI_toInt (by omega); omega) (by have t_c1 := eqI c1; have t_c23 := neI c23; have t_b28 := b28; have t_c29 := eqI c29; have : ((-4) : Int32).toInt = -4 := (by decide); have : (0 : Int32).toInt = 0 := (by decide); have t_n0 : (nI N).toInt = (N : Int) := nI_toInt (by omega); have t_n1 : (nI B).toInt = (B : Int) := nI_toInt (by omega); have t_n2 : (nI D).toInt = (D : Int) := nI_toInt (by omega); omega) (by have t_c1 := eqI c1; have t_c23 := neI c23; have t_b28 := b28; have t_c29 := eqI c29; have : ((-4) : Int32).toInt = -4 := (by decide); have : (0 : Int32).toInt = 0 := (by decide); have t_n0 : (nI N).toInt = (N : Int) := nI_toInt (by omega); have t_n1 : (nI B).toInt = (B : Int) := nI_toInt (by omega); have t_n2 : (nI D).toInt = (D : Int) := nI_toInt (by omega); omega)) (kwVN hg hK mfX9_hasBearer wn_535 ⟨Nat.le_of_ble_eq_true rfl, Nat.le_of_ble_eq_true rfl⟩) (preVR hK hPc (ci := 9) rfl rfl) rfl rfl hl.1 rfl (lv_room (Nat.le_of_ble_eq_true rfl)) dX10_next_38 ⟨Nat.le_of_ble_eq_true rfl, Nat.le_of_ble_eq_true rfl⟩) hS (fun q h1 h2 => absurd h2 (Nat.not_le.mpr h1)) (fun q h => hA q (Nat.le_trans hS.1 h)) (fun r30 ur30 t H1 locs ht hvm w31 hB hz1 hk1 hS => ?_)
          have hP := keepR hP hk1
          obtain ⟨w31, w31x⟩ := w31
          try simp only [l_ii, show (0 : Int32).toInt = 0 from by decide] at w31
          try rw [nI_toInt (n := B) (by omega)] at w31
          have w31 : r30 = 0 := w31.trans (if_neg (by have t_c1 := eqI c1; have t_c23 := neI c23; have t_b28 := b28; have t_c29 := eqI c29; have : ((-4) : Int32).toInt = -4 := (by decide); have : (0 : Int32).toInt = 0 := (by decide); have t_n0 : (nI N).toInt = (N : Int) := nI_toInt (by omega); have t_n1 : (nI B).toInt = (B : Int) := nI_toInt (by omega); have t_n2 : (nI D).toInt = (D : Int) := nI_toInt (by omega); omega))
          subst w31
          refine lv_if_eq (tgt := 55) hx hb dX10_next_41 (by decide) (fun c32 => ?_) (fun c32 => ?_)
          · skip
            refine lv_iconst (v := (-1)) hx hb dX10_next_55 (by decide) ?_
            have hpost : True := by
              trivial
            have hP9 := hP.sub (ws' := (([(h0, .inr (10, [.ref rd, .ref wy, .ref tr, .ref im, .ref kp, .ref od, .ref ch, .ref cr, .ref le, .ref mk, .ref tl, .ref sh, .int tf, .int rf])), (ch, .inr (0, [.long w0, .ref wk, .ref cs])), (wk, .inl (G 5, 11, .inr (.inr (.inr (.inr (fun ir => if ir < 11 then some (rw ir) else none)))))), (cs, .inl (G 4, 10, .inr (.inr (.inr (.inr (fun ir => if ir < 10 then some (rq ir) else none)))))), (wy, .inr (9, [.int (nI N), .int (nI B), .int (nI D), .ref a1, .ref a2, .ref a3, .ref a4, .ref a5, .ref a6])), (a1, .inl (G 0, 10, .inl f1)), (a2, .inl (G 0, 10, .inl f2)), (a4, .inl (G 0, 6, .inl f4)), (a5, .inl (G 0, 6, .inl f5)), (a6, .inl (G 0, 6, .inl f6))] : va_W) ++ ((((List.range 11).map (fun iq => (rw iq, .inl (G 1, 70, .inr (.inl (F iq)))))) : va_W) ++ ((((List.range 10).map (fun iq => (rq iq, .inl (G 0, 70, .inl (E iq))))) : va_W) ++ [])))) [0, 1, 2, 3, 4, 5, 6, 7, 8, 9, 10, 11, 12, 13, 14, 15, 16, 17, 18, 19, 20, 21, 22, 23, 24, 25, 26, 27, 28, 29, 30] rfl
            have hD9 := hD.sub (ws' := (([(h0, .inr (10, [.ref rd, .ref wy, .ref tr, .ref im, .ref kp, .ref od, .ref ch, .ref cr, .ref le, .ref mk, .ref tl, .ref sh, .int tf, .int rf])), (ch, .inr (0, [.long w0, .ref wk, .ref cs])), (wk, .inl (G 5, 11, .inr (.inr (.inr (.inr (fun ir => if ir < 11 then some (rw ir) else none)))))), (cs, .inl (G 4, 10, .inr (.inr (.inr (.inr (fun ir => if ir < 10 then some (rq ir) else none)))))), (wy, .inr (9, [.int (nI N), .int (nI B), .int (nI D), .ref a1, .ref a2, .ref a3, .ref a4, .ref a5, .ref a6])), (a1, .inl (G 0, 10, .inl f1)), (a2, .inl (G 0, 10, .inl f2)), (a4, .inl (G 0, 6, .inl f4)), (a5, .inl (G 0, 6, .inl f5)), (a6, .inl (G 0, 6, .inl f6))] : va_W) ++ ((((List.range 11).map (fun iq => (rw iq, .inl (G 1, 70, .inr (.inl (F iq)))))) : va_W) ++ ((((List.range 10).map (fun iq => (rq iq, .inl (G 0, 70, .inl (E iq))))) : va_W) ++ [])))) [0, 1, 2, 3, 4, 5, 6, 7, 8, 9, 10, 11, 12, 13, 14, 15, 16, 17, 18, 19, 20, 21, 22, 23, 24, 25, 26, 27, 28, 29, 30] (by decide) rfl
            refine W.widen (k := 0) (n := 0) (by omega) (by omega) ?_
            exact W.iret (v := (-1)) hx hb hr (fun t ht hW => ⟨⟨(-1), (w0, F, E), rfl, ⟨hpost, trivial⟩, ⟨by rw [ht]; exact hP9, hD9⟩⟩, hS.F ht⟩) hS.2.2 dX10_next_56
          · skip
            exact absurd c32 (by decide)
    · skip
      refine lv_iconst (v := 1) hx hb dX10_next_10 (by decide) ?_
      refine lv_goto (tgt := 15) hx hb dX10_next_11 (by decide) ?_
      refine lv_istore (lv' := [(4, .int 1), (0, .ref h0), (1, .int i), (2, .int g), (3, .int d)]) hx hb dX10_next_15 hl (by decide) rfl (fun ls hl => ?_)
      refine lv_aload_n hx hb dX10_next_17 rfl (lv_at hl 1 rfl) ?_
      refine va_get (D := (dC, dI)) (ci := 10) (v := .ref wy) (C := RX10) (T := TX10) (N := 14) hx hb hg inG10 hown hK.1 hP 0 rfl rfl 1 (by decide) (hg _ wt_303) (fun _ h9 => h9) rfl dX10_next_18 ?_
      refine lv_iload_n hx hb dX10_next_21 rfl (lv_at hl 2 rfl) ?_
      have hPc := hP.sub (ws' := [(wy, .inr (9, [.int (nI N), .int (nI B), .int (nI D), .ref a1, .ref a2, .ref a3, .ref a4, .ref a5, .ref a6]))]) [4] rfl
      refine va_calli (va_runVN (As := [.int i]) (rest := []) ⟨hx, hb, hml, hown, hg⟩ (c_X9_hasStretch l dC dI G _ wy a1 a2 a3 a4 a5 a6 N B D i (by have t_c1 := eqI c1; have t_c23 := eqI c23; have : ((-4) : Int32).toInt = -4 := (by decide); have : (0 : Int32).toInt = 0 := (by decide); have t_n0 : (nI N).toInt = (N : Int) := nI_toInt (by omega); have t_n1 : (nI B).toInt = (B : Int) := nI_toInt (by omega); have t_n2 : (nI D).toInt = (D : Int) := nI_toInt (by omega); omega) (by have t_c1 := eqI c1; have t_c23 := eqI c23; have : ((-4) : Int32).toInt = -4 := (by decide); have : (0 : Int32).toInt = 0 := (by decide); have t_n0 : (nI N).toInt = (N : Int) := nI_toInt (by omega); have t_n1 : (nI B).toInt = (B : Int) := nI_toInt (by omega); have t_n2 : (nI D).toInt = (D : Int) := nI_toInt (by omega); omega) (by have t_c1 := eqI c1; have t_c23 := eqI c23; have : ((-4) : Int32).toInt = -4 := (by decide); have : (0 : Int32).toInt = 0 := (by decide); have t_n0 : (nI N).toInt = (N : Int) := nI_toInt (by omega); have t_n1 : (nI B).toInt = (B : Int) := nI_toInt (by omega); have t_n2 : (nI D).toInt = (D : Int) := nI_toInt (by omega); omega)) (kwVN hg hK mfX9_hasStretch wn_527 ⟨Nat.le_of_ble_eq_true rfl, Nat.le_of_ble_eq_true rfl⟩) (preVR hK hPc (ci := 9) rfl rfl) rfl rfl hl.1 rfl (lv_room (Nat.le_of_ble_eq_true rfl)) dX10_next_22 ⟨Nat.le_of_ble_eq_true rfl, Nat.le_of_ble_eq_true rfl⟩) hS (fun q h1 h2 => absurd h2 (Nat.not_le.mpr h1)) (fun q h => hA q (Nat.le_trans hS.1 h)) (fun r33 ur33 t H1 locs ht hvm w34 hB hz1 hk1 hS => ?_)
      have hP := keepR hP hk1
      obtain ⟨w34, w34x⟩ := w34
      try simp only [l_ii, show (0 : Int32).toInt = 0 from by decide] at w34
      try rw [nI_toInt (n := N) (by omega)] at w34
      subst w34
      refine lv_if_eq (tgt := 55) hx hb dX10_next_25 (by decide) (fun c35 => ?_) (fun c35 => ?_)
      · skip
        have b36 := if10_n c35
        refine lv_iconst (v := (-1)) hx hb dX10_next_55 (by decide) ?_
        have hpost : True := by
          trivial
        have hP9 := hP.sub (ws' := (([(h0, .inr (10, [.ref rd, .ref wy, .ref tr, .ref im, .ref kp, .ref od, .ref ch, .ref cr, .ref le, .ref mk, .ref tl, .ref sh, .int tf, .int rf])), (ch, .inr (0, [.long w0, .ref wk, .ref cs])), (wk, .inl (G 5, 11, .inr (.inr (.inr (.inr (fun ir => if ir < 11 then some (rw ir) else none)))))), (cs, .inl (G 4, 10, .inr (.inr (.inr (.inr (fun ir => if ir < 10 then some (rq ir) else none)))))), (wy, .inr (9, [.int (nI N), .int (nI B), .int (nI D), .ref a1, .ref a2, .ref a3, .ref a4, .ref a5, .ref a6])), (a1, .inl (G 0, 10, .inl f1)), (a2, .inl (G 0, 10, .inl f2)), (a4, .inl (G 0, 6, .inl f4)), (a5, .inl (G 0, 6, .inl f5)), (a6, .inl (G 0, 6, .inl f6))] : va_W) ++ ((((List.range 11).map (fun iq => (rw iq, .inl (G 1, 70, .inr (.inl (F iq)))))) : va_W) ++ ((((List.range 10).map (fun iq => (rq iq, .inl (G 0, 70, .inl (E iq))))) : va_W) ++ [])))) [0, 1, 2, 3, 4, 5, 6, 7, 8, 9, 10, 11, 12, 13, 14, 15, 16, 17, 18, 19, 20, 21, 22, 23, 24, 25, 26, 27, 28, 29, 30] rfl
        have hD9 := hD.sub (ws' := (([(h0, .inr (10, [.ref rd, .ref wy, .ref tr, .ref im, .ref kp, .ref od, .ref ch, .ref cr, .ref le, .ref mk, .ref tl, .ref sh, .int tf, .int rf])), (ch, .inr (0, [.long w0, .ref wk, .ref cs])), (wk, .inl (G 5, 11, .inr (.inr (.inr (.inr (fun ir => if ir < 11 then some (rw ir) else none)))))), (cs, .inl (G 4, 10, .inr (.inr (.inr (.inr (fun ir => if ir < 10 then some (rq ir) else none)))))), (wy, .inr (9, [.int (nI N), .int (nI B), .int (nI D), .ref a1, .ref a2, .ref a3, .ref a4, .ref a5, .ref a6])), (a1, .inl (G 0, 10, .inl f1)), (a2, .inl (G 0, 10, .inl f2)), (a4, .inl (G 0, 6, .inl f4)), (a5, .inl (G 0, 6, .inl f5)), (a6, .inl (G 0, 6, .inl f6))] : va_W) ++ ((((List.range 11).map (fun iq => (rw iq, .inl (G 1, 70, .inr (.inl (F iq)))))) : va_W) ++ ((((List.range 10).map (fun iq => (rq iq, .inl (G 0, 70, .inl (E iq))))) : va_W) ++ [])))) [0, 1, 2, 3, 4, 5, 6, 7, 8, 9, 10, 11, 12, 13, 14, 15, 16, 17, 18, 19, 20, 21, 22, 23, 24, 25, 26, 27, 28, 29, 30] (by decide) rfl
        refine W.widen (k := 0) (n := 0) (by omega) (by omega) ?_
        exact W.iret (v := (-1)) hx hb hr (fun t ht hW => ⟨⟨(-1), (w0, F, E), rfl, ⟨hpost, trivial⟩, ⟨by rw [ht]; exact hP9, hD9⟩⟩, hS.F ht⟩) hS.2.2 dX10_next_56
      · skip
        have b37 := if10_p c35
        refine lv_iload hx hb dX10_next_28 (lv_at hl 0 rfl) ?_
        refine lv_if_ne (tgt := 44) hx hb dX10_next_30 (by decide) (fun c38 => ?_) (fun c38 => ?_)
        · skip
          refine lv_iload_n hx hb dX10_next_44 rfl (lv_at hl 4 rfl) ?_
          refine lv_iconst (v := 1) hx hb dX10_next_45 (by decide) ?_
          refine lv_icmp_lt (tgt := 55) hx hb dX10_next_46 (by decide) (fun c39 => ?_) (fun c39 => ?_)
          · skip
            refine lv_iconst (v := (-1)) hx hb dX10_next_55 (by decide) ?_
            have hpost : True := by
              trivial
            have hP9 := hP.sub (ws' := (([(h0, .inr (10, [.ref rd, .ref wy, .ref tr, .ref im, .ref kp, .ref od, .ref ch, .ref cr, .ref le, .ref mk, .ref tl, .ref sh, .int tf, .int rf])), (ch, .inr (0, [.long w0, .ref wk, .ref cs])), (wk, .inl (G 5, 11, .inr (.inr (.inr (.inr (fun ir => if ir < 11 then some (rw ir) else none)))))), (cs, .inl (G 4, 10, .inr (.inr (.inr (.inr (fun ir => if ir < 10 then some (rq ir) else none)))))), (wy, .inr (9, [.int (nI N), .int (nI B), .int (nI D), .ref a1, .ref a2, .ref a3, .ref a4, .ref a5, .ref a6])), (a1, .inl (G 0, 10, .inl f1)), (a2, .inl (G 0, 10, .inl f2)), (a4, .inl (G 0, 6, .inl f4)), (a5, .inl (G 0, 6, .inl f5)), (a6, .inl (G 0, 6, .inl f6))] : va_W) ++ ((((List.range 11).map (fun iq => (rw iq, .inl (G 1, 70, .inr (.inl (F iq)))))) : va_W) ++ ((((List.range 10).map (fun iq => (rq iq, .inl (G 0, 70, .inl (E iq))))) : va_W) ++ [])))) [0, 1, 2, 3, 4, 5, 6, 7, 8, 9, 10, 11, 12, 13, 14, 15, 16, 17, 18, 19, 20, 21, 22, 23, 24, 25, 26, 27, 28, 29, 30] rfl
            have hD9 := hD.sub (ws' := (([(h0, .inr (10, [.ref rd, .ref wy, .ref tr, .ref im, .ref kp, .ref od, .ref ch, .ref cr, .ref le, .ref mk, .ref tl, .ref sh, .int tf, .int rf])), (ch, .inr (0, [.long w0, .ref wk, .ref cs])), (wk, .inl (G 5, 11, .inr (.inr (.inr (.inr (fun ir => if ir < 11 then some (rw ir) else none)))))), (cs, .inl (G 4, 10, .inr (.inr (.inr (.inr (fun ir => if ir < 10 then some (rq ir) else none)))))), (wy, .inr (9, [.int (nI N), .int (nI B), .int (nI D), .ref a1, .ref a2, .ref a3, .ref a4, .ref a5, .ref a6])), (a1, .inl (G 0, 10, .inl f1)), (a2, .inl (G 0, 10, .inl f2)), (a4, .inl (G 0, 6, .inl f4)), (a5, .inl (G 0, 6, .inl f5)), (a6, .inl (G 0, 6, .inl f6))] : va_W) ++ ((((List.range 11).map (fun iq => (rw iq, .inl (G 1, 70, .inr (.inl (F iq)))))) : va_W) ++ ((((List.range 10).map (fun iq => (rq iq, .inl (G 0, 70, .inl (E iq))))) : va_W) ++ [])))) [0, 1, 2, 3, 4, 5, 6, 7, 8, 9, 10, 11, 12, 13, 14, 15, 16, 17, 18, 19, 20, 21, 22, 23, 24, 25, 26, 27, 28, 29, 30] (by decide) rfl
            refine W.widen (k := 0) (n := 0) (by omega) (by omega) ?_
            exact W.iret (v := (-1)) hx hb hr (fun t ht hW => ⟨⟨(-1), (w0, F, E), rfl, ⟨hpost, trivial⟩, ⟨by rw [ht]; exact hP9, hD9⟩⟩, hS.F ht⟩) hS.2.2 dX10_next_56
          · skip
            refine lv_iload_n hx hb dX10_next_49 rfl (lv_at hl 4 rfl) ?_
            refine lv_bipush (v := 9) hx hb dX10_next_50 (by decide) ?_
            refine lv_icmp_le (tgt := 57) hx hb dX10_next_52 (by decide) (fun c40 => ?_) (fun c40 => ?_)
            · skip
              obtain ⟨ii, hii, rfl⟩ : ∃ j : Nat, j < 10 ∧ i = nI j := by
                have t_c1 := eqI c1
                have t_c23 := eqI c23
                have t_b37 := b37
                have t_c38 := neI c38
                have t_c39 := nltI c39
                have t_c40 := leI c40
                have : ((-4) : Int32).toInt = -4 := (by decide)
                have : (0 : Int32).toInt = 0 := (by decide)
                have : (1 : Int32).toInt = 1 := (by decide)
                have : (9 : Int32).toInt = 9 := (by decide)
                have t_n0 : (nI N).toInt = (N : Int) := nI_toInt (by omega)
                have t_n1 : (nI B).toInt = (B : Int) := nI_toInt (by omega)
                have t_n2 : (nI D).toInt = (D : Int) := nI_toInt (by omega)
                exact i32_nat (by omega) (by omega)
              obtain ⟨dd, hdd, rfl⟩ : ∃ j : Nat, j < 10 ∧ d = nI j := by
                have t_c1 := eqI c1
                have t_c23 := eqI c23
                have t_b37 := b37
                have t_c38 := neI c38
                have t_c39 := nltI c39
                have t_c40 := leI c40
                have t_hii := hii
                have : ((-4) : Int32).toInt = -4 := (by decide)
                have : (0 : Int32).toInt = 0 := (by decide)
                have : (1 : Int32).toInt = 1 := (by decide)
                have : (9 : Int32).toInt = 9 := (by decide)
                have t_n0 : (nI N).toInt = (N : Int) := nI_toInt (by omega)
                have t_n1 : (nI B).toInt = (B : Int) := nI_toInt (by omega)
                have t_n2 : (nI D).toInt = (D : Int) := nI_toInt (by omega)
                have t_n3 : (nI ii).toInt = (ii : Int) := nI_toInt (by omega)
                exact i32_nat (by omega) (by omega)
              refine lv_aload_n hx hb dX10_next_57 rfl (lv_at hl 1 rfl) ?_
              refine va_get (D := (dC, dI)) (ci := 10) (v := .ref ch) (C := RX10) (T := TX10) (N := 14) hx hb hg inG10 hown hK.1 hP 0 rfl rfl 6 (by decide) (hg _ wt_308) (fun _ h9 => h9) rfl dX10_next_58 ?_
              refine lv_aload_n hx hb dX10_next_61 rfl (lv_at hl 1 rfl) ?_
              refine va_get (D := (dC, dI)) (ci := 10) (v := .ref wy) (C := RX10) (T := TX10) (N := 14) hx hb hg inG10 hown hK.1 hP 0 rfl rfl 1 (by decide) (hg _ wt_303) (fun _ h9 => h9) rfl dX10_next_62 ?_
              refine lv_bipush (v := (-4)) hx hb dX10_next_65 (by decide) ?_
              have hPc := hP.sub (ws' := (([(ch, .inr (0, [.long w0, .ref wk, .ref cs])), (wk, .inl (G 5, 11, .inr (.inr (.inr (.inr (fun ir => if ir < 11 then some (rw ir) else none)))))), (cs, .inl (G 4, 10, .inr (.inr (.inr (.inr (fun ir => if ir < 10 then some (rq ir) else none)))))), (wy, .inr (9, [.int (nI N), .int (nI B), .int (nI D), .ref a1, .ref a2, .ref a3, .ref a4, .ref a5, .ref a6])), (a1, .inl (G 0, 10, .inl f1)), (a2, .inl (G 0, 10, .inl f2)), (a4, .inl (G 0, 6, .inl f4)), (a5, .inl (G 0, 6, .inl f5)), (a6, .inl (G 0, 6, .inl f6))] : va_W) ++ ((((List.range 11).map (fun iq => (rw iq, .inl (G 1, 70, .inr (.inl (F iq)))))) : va_W) ++ ((((List.range 10).map (fun iq => (rq iq, .inl (G 0, 70, .inl (E iq))))) : va_W) ++ [])))) [1, 2, 3, 4, 5, 6, 7, 8, 9, 10, 11, 12, 13, 14, 15, 16, 17, 18, 19, 20, 21, 22, 23, 24, 25, 26, 27, 28, 29, 30] rfl
              have hDc := hD.sub (ws' := (([(ch, .inr (0, [.long w0, .ref wk, .ref cs])), (wk, .inl (G 5, 11, .inr (.inr (.inr (.inr (fun ir => if ir < 11 then some (rw ir) else none)))))), (cs, .inl (G 4, 10, .inr (.inr (.inr (.inr (fun ir => if ir < 10 then some (rq ir) else none)))))), (wy, .inr (9, [.int (nI N), .int (nI B), .int (nI D), .ref a1, .ref a2, .ref a3, .ref a4, .ref a5, .ref a6])), (a1, .inl (G 0, 10, .inl f1)), (a2, .inl (G 0, 10, .inl f2)), (a4, .inl (G 0, 6, .inl f4)), (a5, .inl (G 0, 6, .inl f5)), (a6, .inl (G 0, 6, .inl f6))] : va_W) ++ ((((List.range 11).map (fun iq => (rw iq, .inl (G 1, 70, .inr (.inl (F iq)))))) : va_W) ++ ((((List.range 10).map (fun iq => (rq iq, .inl (G 0, 70, .inl (E iq))))) : va_W) ++ [])))) [1, 2, 3, 4, 5, 6, 7, 8, 9, 10, 11, 12, 13, 14, 15, 16, 17, 18, 19, 20, 21, 22, 23, 24, 25, 26, 27, 28, 29, 30] (by decide) rfl
              have hFc := va_free (wc := (([(ch, .inr (0, [.long w0, .ref wk, .ref cs])), (wk, .inl (G 5, 11, .inr (.inr (.inr (.inr (fun ir => if ir < 11 then some (rw ir) else none)))))), (cs, .inl (G 4, 10, .inr (.inr (.inr (.inr (fun ir => if ir < 10 then some (rq ir) else none)))))), (wy, .inr (9, [.int (nI N), .int (nI B), .int (nI D), .ref a1, .ref a2, .ref a3, .ref a4, .ref a5, .ref a6])), (a1, .inl (G 0, 10, .inl f1)), (a2, .inl (G 0, 10, .inl f2)), (a4, .inl (G 0, 6, .inl f4)), (a5, .inl (G 0, 6, .inl f5)), (a6, .inl (G 0, 6, .inl f6))] : va_W) ++ ((((List.range 11).map (fun iq => (rw iq, .inl (G 1, 70, .inr (.inl (F iq)))))) : va_W) ++ ((((List.range 10).map (fun iq => (rq iq, .inl (G 0, 70, .inl (E iq))))) : va_W) ++ [])))) hD hS hA [1, 2, 3, 4, 5, 6, 7, 8, 9, 10, 11, 12, 13, 14, 15, 16, 17, 18, 19, 20, 21, 22, 23, 24, 25, 26, 27, 28, 29, 30] rfl
              refine va_callv (va_runVN (As := [.ref wy, .int (-4)]) (rest := []) ⟨hx, hb, hml, hown, hg⟩ (c_X0_plan l dC dI G _ ch wk cs wy a1 a2 a3 a4 a5 a6 N B D (-4) w0 f1 f2 f4 f5 f6 rw rq F E (by have t_c1 := eqI c1; have t_c23 := eqI c23; have t_b37 := b37; have t_c38 := neI c38; have t_c39 := nltI c39; have t_c40 := leI c40; have t_hii := hii; have t_hdd := hdd; have : ((-4) : Int32).toInt = -4 := (by decide); have : (0 : Int32).toInt = 0 := (by decide); have : (1 : Int32).toInt = 1 := (by decide); have : (9 : Int32).toInt = 9 := (by decide); have t_n0 : (nI N).toInt = (N : Int) := nI_toInt (by omega); have t_n1 : (nI B).toInt = (B : Int) := nI_toInt (by omega); have t_n2 : (nI D).toInt = (D : Int) := nI_toInt (by omega); have t_n3 : (nI ii).toInt = (ii : Int) := nI_toInt (by omega); have t_n4 : (nI dd).toInt = (dd : Int) := nI_toInt (by omega); have : ((-4) : Int32).toInt = -4 := (by decide); omega) (by have t_c1 := eqI c1; have t_c23 := eqI c23; have t_b37 := b37; have t_c38 := neI c38; have t_c39 := nltI c39; have t_c40 := leI c40; have t_hii := hii; have t_hdd := hdd; have : ((-4) : Int32).toInt = -4 := (by decide); have : (0 : Int32).toInt = 0 := (by decide); have : (1 : Int32).toInt = 1 := (by decide); have : (9 : Int32).toInt = 9 := (by decide); have t_n0 : (nI N).toInt = (N : Int) := nI_toInt (by omega); have t_n1 : (nI B).toInt = (B : Int) := nI_toInt (by omega); have t_n2 : (nI D).toInt = (D : Int) := nI_toInt (by omega); have t_n3 : (nI ii).toInt = (ii : Int) := nI_toInt (by omega); have t_n4 : (nI dd).toInt = (dd : Int) := nI_toInt (by omega); have : ((-4) : Int32).toInt = -4 := (by decide); omega) (by have t_c1 := eqI c1; have t_c23 := eqI c23; have t_b37 := b37; have t_c38 := neI c38; have t_c39 := nltI c39; have t_c40 := leI c40; have t_hii := hii; have t_hdd := hdd; have : ((-4) : Int32).toInt = -4 := (by decide); have : (0 : Int32).toInt = 0 := (by decide); have : (1 : Int32).toInt = 1 := (by decide); have : (9 : Int32).toInt = 9 := (by decide); have t_n0 : (nI N).toInt = (N : Int) := nI_toInt (by omega); have t_n1 : (nI B).toInt = (B : Int) := nI_toInt (by omega); have t_n2 : (nI D).toInt = (D : Int) := nI_toInt (by omega); have t_n3 : (nI ii).toInt = (ii : Int) := nI_toInt (by omega); have t_n4 : (nI dd).toInt = (dd : Int) := nI_toInt (by omega); have : ((-4) : Int32).toInt = -4 := (by decide); omega)) (kwVN hg hK mfX0_plan wn_657 ⟨Nat.le_of_ble_eq_true rfl, Nat.le_of_ble_eq_true rfl⟩) (preVW hK hPc hDc (ci := 0) rfl rfl) rfl rfl hl.1 rfl (lv_room (Nat.le_of_ble_eq_true rfl)) dX10_next_67 ⟨Nat.le_of_ble_eq_true rfl, Nat.le_of_ble_eq_true rfl⟩) hS (fun q _ h => hFc q h) hFc (fun ur41 t H1 locs ht hvm w42 hB hz1 hk1 hS => ?_)
              obtain ⟨u43, u44, u45⟩ := ur41
              obtain ⟨hP1, hD1⟩ := hB
              rw [ht] at hP1
              obtain ⟨hP, hD⟩ := va_join (wr := [(h0, .inr (10, [.ref rd, .ref wy, .ref tr, .ref im, .ref kp, .ref od, .ref ch, .ref cr, .ref le, .ref mk, .ref tl, .ref sh, .int tf, .int rf]))]) (w1 := (([(ch, .inr (0, [.long u43, .ref wk, .ref cs])), (wk, .inl (G 5, 11, .inr (.inr (.inr (.inr (fun ir => if ir < 11 then some (rw ir) else none)))))), (cs, .inl (G 4, 10, .inr (.inr (.inr (.inr (fun ir => if ir < 10 then some (rq ir) else none)))))), (wy, .inr (9, [.int (nI N), .int (nI B), .int (nI D), .ref a1, .ref a2, .ref a3, .ref a4, .ref a5, .ref a6])), (a1, .inl (G 0, 10, .inl f1)), (a2, .inl (G 0, 10, .inl f2)), (a4, .inl (G 0, 6, .inl f4)), (a5, .inl (G 0, 6, .inl f5)), (a6, .inl (G 0, 6, .inl f6))] : va_W) ++ ((((List.range 11).map (fun iq => (rw iq, .inl (G 1, 70, .inr (.inl (u44 iq)))))) : va_W) ++ ((((List.range 10).map (fun iq => (rq iq, .inl (G 0, 70, .inl (u45 iq))))) : va_W) ++ [])))) hP hD [1, 2, 3, 4, 5, 6, 7, 8, 9, 10, 11, 12, 13, 14, 15, 16, 17, 18, 19, 20, 21, 22, 23, 24, 25, 26, 27, 28, 29, 30] [0] rfl rfl (by decide) (by decide) hk1 hFc hP1 hD1
              generalize H1 = H at hP hS ⊢
              have hP : va_P (dC, dI) vwCl (([(h0, .inr (10, [.ref rd, .ref wy, .ref tr, .ref im, .ref kp, .ref od, .ref ch, .ref cr, .ref le, .ref mk, .ref tl, .ref sh, .int tf, .int rf])), (ch, .inr (0, [.long u43, .ref wk, .ref cs])), (wk, .inl (G 5, 11, .inr (.inr (.inr (.inr (fun ir => if ir < 11 then some (rw ir) else none)))))), (cs, .inl (G 4, 10, .inr (.inr (.inr (.inr (fun ir => if ir < 10 then some (rq ir) else none)))))), (wy, .inr (9, [.int (nI N), .int (nI B), .int (nI D), .ref a1, .ref a2, .ref a3, .ref a4, .ref a5, .ref a6])), (a1, .inl (G 0, 10, .inl f1)), (a2, .inl (G 0, 10, .inl f2)), (a4, .inl (G 0, 6, .inl f4)), (a5, .inl (G 0, 6, .inl f5)), (a6, .inl (G 0, 6, .inl f6))] : va_W) ++ ((((List.range 11).map (fun iq => (rw iq, .inl (G 1, 70, .inr (.inl (u44 iq)))))) : va_W) ++ ((((List.range 10).map (fun iq => (rq iq, .inl (G 0, 70, .inl (u45 iq))))) : va_W) ++ []))) H := hP
              have hD : va_D A (([(h0, .inr (10, [.ref rd, .ref wy, .ref tr, .ref im, .ref kp, .ref od, .ref ch, .ref cr, .ref le, .ref mk, .ref tl, .ref sh, .int tf, .int rf])), (ch, .inr (0, [.long u43, .ref wk, .ref cs])), (wk, .inl (G 5, 11, .inr (.inr (.inr (.inr (fun ir => if ir < 11 then some (rw ir) else none)))))), (cs, .inl (G 4, 10, .inr (.inr (.inr (.inr (fun ir => if ir < 10 then some (rq ir) else none)))))), (wy, .inr (9, [.int (nI N), .int (nI B), .int (nI D), .ref a1, .ref a2, .ref a3, .ref a4, .ref a5, .ref a6])), (a1, .inl (G 0, 10, .inl f1)), (a2, .inl (G 0, 10, .inl f2)), (a4, .inl (G 0, 6, .inl f4)), (a5, .inl (G 0, 6, .inl f5)), (a6, .inl (G 0, 6, .inl f6))] : va_W) ++ ((((List.range 11).map (fun iq => (rw iq, .inl (G 1, 70, .inr (.inl (u44 iq)))))) : va_W) ++ ((((List.range 10).map (fun iq => (rq iq, .inl (G 0, 70, .inl (u45 iq))))) : va_W) ++ []))) := hD
              refine lv_aload_n hx hb dX10_next_70 rfl (lv_at hl 1 rfl) ?_
              refine va_get (D := (dC, dI)) (ci := 10) (v := .ref ch) (C := RX10) (T := TX10) (N := 14) hx hb hg inG10 hown hK.1 hP 0 rfl rfl 6 (by decide) (hg _ wt_308) (fun _ h9 => h9) rfl dX10_next_71 ?_
              refine va_getN (D := (dC, dI)) (ci := 0) (v := .ref cs) (C := RX0) (T := TX0) (N := 3) hx hb hg inG0 hown hK.1 hP 1 rfl rfl 2 (by decide) (hK.nest wn_184) (fun _ h9 => h9) rfl dX10_next_74 ?_
              refine lv_iload_n hx hb dX10_next_77 rfl (lv_at hl 2 rfl) ?_
              refine va_aldA hx hb hK.1 hP 3 4 rfl rfl (vp_in_nI (by have t_c1 := eqI c1; have t_c23 := eqI c23; have t_b37 := b37; have t_c38 := neI c38; have t_c39 := nltI c39; have t_c40 := leI c40; have t_hii := hii; have t_hdd := hdd; have : ((-4) : Int32).toInt = -4 := (by decide); have : (0 : Int32).toInt = 0 := (by decide); have : (1 : Int32).toInt = 1 := (by decide); have : (9 : Int32).toInt = 9 := (by decide); have t_n0 : (nI N).toInt = (N : Int) := nI_toInt (by omega); have t_n1 : (nI B).toInt = (B : Int) := nI_toInt (by omega); have t_n2 : (nI D).toInt = (D : Int) := nI_toInt (by omega); have t_n3 : (nI ii).toInt = (ii : Int) := nI_toInt (by omega); have t_n4 : (nI dd).toInt = (dd : Int) := nI_toInt (by omega); omega) (by decide)) dX10_next_78 ?_
              refine lv_cgv (y := .ref (rq ii)) (rowref (by have t_c1 := eqI c1; have t_c23 := eqI c23; have t_b37 := b37; have t_c38 := neI c38; have t_c39 := nltI c39; have t_c40 := leI c40; have t_hii := hii; have t_hdd := hdd; have : ((-4) : Int32).toInt = -4 := (by decide); have : (0 : Int32).toInt = 0 := (by decide); have : (1 : Int32).toInt = 1 := (by decide); have : (9 : Int32).toInt = 9 := (by decide); have t_n0 : (nI N).toInt = (N : Int) := nI_toInt (by omega); have t_n1 : (nI B).toInt = (B : Int) := nI_toInt (by omega); have t_n2 : (nI D).toInt = (D : Int) := nI_toInt (by omega); have t_n3 : (nI ii).toInt = (ii : Int) := nI_toInt (by omega); have t_n4 : (nI dd).toInt = (dd : Int) := nI_toInt (by omega); omega) (by decide)) ?_
              refine lv_iload_n hx hb dX10_next_79 rfl (lv_at hl 3 rfl) ?_
              refine lv_iload_n hx hb dX10_next_80 rfl (lv_at hl 4 rfl) ?_
              have hPc := hP.sub (ws' := []) [] rfl
              refine va_calli (va_runSN (As := [.int g, .int (nI dd)]) (rest := [.ref (rq ii)]) ⟨hx, hb, hml, hown, hg⟩ (c_X0_slot l dC dI G _ dd g (by have t_c1 := eqI c1; have t_c23 := eqI c23; have t_b37 := b37; have t_c38 := neI c38; have t_c39 := nltI c39; have t_c40 := leI c40; have t_hii := hii; have t_hdd := hdd; have : ((-4) : Int32).toInt = -4 := (by decide); have : (0 : Int32).toInt = 0 := (by decide); have : (1 : Int32).toInt = 1 := (by decide); have : (9 : Int32).toInt = 9 := (by decide); have t_n0 : (nI N).toInt = (N : Int) := nI_toInt (by omega); have t_n1 : (nI B).toInt = (B : Int) := nI_toInt (by omega); have t_n2 : (nI D).toInt = (D : Int) := nI_toInt (by omega); have t_n3 : (nI ii).toInt = (ii : Int) := nI_toInt (by omega); have t_n4 : (nI dd).toInt = (dd : Int) := nI_toInt (by omega); omega) (by have t_c1 := eqI c1; have t_c23 := eqI c23; have t_b37 := b37; have t_c38 := neI c38; have t_c39 := nltI c39; have t_c40 := leI c40; have t_hii := hii; have t_hdd := hdd; have : ((-4) : Int32).toInt = -4 := (by decide); have : (0 : Int32).toInt = 0 := (by decide); have : (1 : Int32).toInt = 1 := (by decide); have : (9 : Int32).toInt = 9 := (by decide); have t_n0 : (nI N).toInt = (N : Int) := nI_toInt (by omega); have t_n1 : (nI B).toInt = (B : Int) := nI_toInt (by omega); have t_n2 : (nI D).toInt = (D : Int) := nI_toInt (by omega); have t_n3 : (nI ii).toInt = (ii : Int) := nI_toInt (by omega); have t_n4 : (nI dd).toInt = (dd : Int) := nI_toInt (by omega); omega)) (kwSN hg hK mfX0_slot wn_684 ⟨Nat.le_of_ble_eq_true rfl, Nat.le_of_ble_eq_true rfl⟩) (preSR hK hPc) rfl rfl hl.1 rfl (lv_room (Nat.le_of_ble_eq_true rfl)) dX10_next_81 ⟨Nat.le_of_ble_eq_true rfl, Nat.le_of_ble_eq_true rfl⟩) hS (fun q h1 h2 => absurd h2 (Nat.not_le.mpr h1)) (fun q h => hA q (Nat.le_trans hS.1 h)) (fun r46 ur46 t H1 locs ht hvm w47 hB hz1 hk1 hS => ?_)
              have hP := keepR hP hk1
              obtain ⟨w47, w47x⟩ := w47
              have hs48 : slotF g dd < 70 := slotF_lt (by have t_c1 := eqI c1; have t_c23 := eqI c23; have t_b37 := b37; have t_c38 := neI c38; have t_c39 := nltI c39; have t_c40 := leI c40; have t_hii := hii; have t_hdd := hdd; have : ((-4) : Int32).toInt = -4 := (by decide); have : (0 : Int32).toInt = 0 := (by decide); have : (1 : Int32).toInt = 1 := (by decide); have : (9 : Int32).toInt = 9 := (by decide); have t_n0 : (nI N).toInt = (N : Int) := nI_toInt (by omega); have t_n1 : (nI B).toInt = (B : Int) := nI_toInt (by omega); have t_n2 : (nI D).toInt = (D : Int) := nI_toInt (by omega); have t_n3 : (nI ii).toInt = (ii : Int) := nI_toInt (by omega); have t_n4 : (nI dd).toInt = (dd : Int) := nI_toInt (by omega); omega) (by have t_c1 := eqI c1; have t_c23 := eqI c23; have t_b37 := b37; have t_c38 := neI c38; have t_c39 := nltI c39; have t_c40 := leI c40; have t_hii := hii; have t_hdd := hdd; have : ((-4) : Int32).toInt = -4 := (by decide); have : (0 : Int32).toInt = 0 := (by decide); have : (1 : Int32).toInt = 1 := (by decide); have : (9 : Int32).toInt = 9 := (by decide); have t_n0 : (nI N).toInt = (N : Int) := nI_toInt (by omega); have t_n1 : (nI B).toInt = (B : Int) := nI_toInt (by omega); have t_n2 : (nI D).toInt = (D : Int) := nI_toInt (by omega); have t_n3 : (nI ii).toInt = (ii : Int) := nI_toInt (by omega); have t_n4 : (nI dd).toInt = (dd : Int) := nI_toInt (by omega); omega)
              subst w47
              refine va_iald hx hb hK.1 (blk_P2 (j := ii) hP (by have t_c1 := eqI c1; have t_c23 := eqI c23; have t_b37 := b37; have t_c38 := neI c38; have t_c39 := nltI c39; have t_c40 := leI c40; have t_hii := hii; have t_hdd := hdd; have t_hs48 := hs48; have : ((-4) : Int32).toInt = -4 := (by decide); have : (0 : Int32).toInt = 0 := (by decide); have : (1 : Int32).toInt = 1 := (by decide); have : (9 : Int32).toInt = 9 := (by decide); have t_n0 : (nI N).toInt = (N : Int) := nI_toInt (by omega); have t_n1 : (nI B).toInt = (B : Int) := nI_toInt (by omega); have t_n2 : (nI D).toInt = (D : Int) := nI_toInt (by omega); have t_n3 : (nI ii).toInt = (ii : Int) := nI_toInt (by omega); have t_n4 : (nI dd).toInt = (dd : Int) := nI_toInt (by omega); omega)) 0 0 rfl rfl (vp_in_nI (by have t_c1 := eqI c1; have t_c23 := eqI c23; have t_b37 := b37; have t_c38 := neI c38; have t_c39 := nltI c39; have t_c40 := leI c40; have t_hii := hii; have t_hdd := hdd; have t_hs48 := hs48; have : ((-4) : Int32).toInt = -4 := (by decide); have : (0 : Int32).toInt = 0 := (by decide); have : (1 : Int32).toInt = 1 := (by decide); have : (9 : Int32).toInt = 9 := (by decide); have t_n0 : (nI N).toInt = (N : Int) := nI_toInt (by omega); have t_n1 : (nI B).toInt = (B : Int) := nI_toInt (by omega); have t_n2 : (nI D).toInt = (D : Int) := nI_toInt (by omega); have t_n3 : (nI ii).toInt = (ii : Int) := nI_toInt (by omega); have t_n4 : (nI dd).toInt = (dd : Int) := nI_toInt (by omega); omega) (by decide)) dX10_next_84 ?_
              refine lv_cg (y := u45 ii (slotF g dd)) (by rw [nI_clamp (by have t_c1 := eqI c1; have t_c23 := eqI c23; have t_b37 := b37; have t_c38 := neI c38; have t_c39 := nltI c39; have t_c40 := leI c40; have t_hii := hii; have t_hdd := hdd; have t_hs48 := hs48; have : ((-4) : Int32).toInt = -4 := (by decide); have : (0 : Int32).toInt = 0 := (by decide); have : (1 : Int32).toInt = 1 := (by decide); have : (9 : Int32).toInt = 9 := (by decide); have t_n0 : (nI N).toInt = (N : Int) := nI_toInt (by omega); have t_n1 : (nI B).toInt = (B : Int) := nI_toInt (by omega); have t_n2 : (nI D).toInt = (D : Int) := nI_toInt (by omega); have t_n3 : (nI ii).toInt = (ii : Int) := nI_toInt (by omega); have t_n4 : (nI dd).toInt = (dd : Int) := nI_toInt (by omega); omega)]) ?_
              have hpost : True := by
                trivial
              have hP9 := hP.sub (ws' := (([(h0, .inr (10, [.ref rd, .ref wy, .ref tr, .ref im, .ref kp, .ref od, .ref ch, .ref cr, .ref le, .ref mk, .ref tl, .ref sh, .int tf, .int rf])), (ch, .inr (0, [.long u43, .ref wk, .ref cs])), (wk, .inl (G 5, 11, .inr (.inr (.inr (.inr (fun ir => if ir < 11 then some (rw ir) else none)))))), (cs, .inl (G 4, 10, .inr (.inr (.inr (.inr (fun ir => if ir < 10 then some (rq ir) else none)))))), (wy, .inr (9, [.int (nI N), .int (nI B), .int (nI D), .ref a1, .ref a2, .ref a3, .ref a4, .ref a5, .ref a6])), (a1, .inl (G 0, 10, .inl f1)), (a2, .inl (G 0, 10, .inl f2)), (a4, .inl (G 0, 6, .inl f4)), (a5, .inl (G 0, 6, .inl f5)), (a6, .inl (G 0, 6, .inl f6))] : va_W) ++ ((((List.range 11).map (fun iq => (rw iq, .inl (G 1, 70, .inr (.inl (u44 iq)))))) : va_W) ++ ((((List.range 10).map (fun iq => (rq iq, .inl (G 0, 70, .inl (u45 iq))))) : va_W) ++ [])))) [0, 1, 2, 3, 4, 5, 6, 7, 8, 9, 10, 11, 12, 13, 14, 15, 16, 17, 18, 19, 20, 21, 22, 23, 24, 25, 26, 27, 28, 29, 30] rfl
              have hD9 := hD.sub (ws' := (([(h0, .inr (10, [.ref rd, .ref wy, .ref tr, .ref im, .ref kp, .ref od, .ref ch, .ref cr, .ref le, .ref mk, .ref tl, .ref sh, .int tf, .int rf])), (ch, .inr (0, [.long u43, .ref wk, .ref cs])), (wk, .inl (G 5, 11, .inr (.inr (.inr (.inr (fun ir => if ir < 11 then some (rw ir) else none)))))), (cs, .inl (G 4, 10, .inr (.inr (.inr (.inr (fun ir => if ir < 10 then some (rq ir) else none)))))), (wy, .inr (9, [.int (nI N), .int (nI B), .int (nI D), .ref a1, .ref a2, .ref a3, .ref a4, .ref a5, .ref a6])), (a1, .inl (G 0, 10, .inl f1)), (a2, .inl (G 0, 10, .inl f2)), (a4, .inl (G 0, 6, .inl f4)), (a5, .inl (G 0, 6, .inl f5)), (a6, .inl (G 0, 6, .inl f6))] : va_W) ++ ((((List.range 11).map (fun iq => (rw iq, .inl (G 1, 70, .inr (.inl (u44 iq)))))) : va_W) ++ ((((List.range 10).map (fun iq => (rq iq, .inl (G 0, 70, .inl (u45 iq))))) : va_W) ++ [])))) [0, 1, 2, 3, 4, 5, 6, 7, 8, 9, 10, 11, 12, 13, 14, 15, 16, 17, 18, 19, 20, 21, 22, 23, 24, 25, 26, 27, 28, 29, 30] (by decide) rfl
              refine W.widen (k := 0) (n := 0) (by omega) (by omega) ?_
              exact W.iret (v := u45 ii (slotF g dd)) hx hb hr (fun t ht hW => ⟨⟨u45 ii (slotF g dd), (u43, u44, u45), rfl, ⟨hpost, trivial⟩, ⟨by rw [ht]; exact hP9, hD9⟩⟩, hS.F ht⟩) hS.2.2 dX10_next_85
            · skip
              refine lv_iconst (v := (-1)) hx hb dX10_next_55 (by decide) ?_
              have hpost : True := by
                trivial
              have hP9 := hP.sub (ws' := (([(h0, .inr (10, [.ref rd, .ref wy, .ref tr, .ref im, .ref kp, .ref od, .ref ch, .ref cr, .ref le, .ref mk, .ref tl, .ref sh, .int tf, .int rf])), (ch, .inr (0, [.long w0, .ref wk, .ref cs])), (wk, .inl (G 5, 11, .inr (.inr (.inr (.inr (fun ir => if ir < 11 then some (rw ir) else none)))))), (cs, .inl (G 4, 10, .inr (.inr (.inr (.inr (fun ir => if ir < 10 then some (rq ir) else none)))))), (wy, .inr (9, [.int (nI N), .int (nI B), .int (nI D), .ref a1, .ref a2, .ref a3, .ref a4, .ref a5, .ref a6])), (a1, .inl (G 0, 10, .inl f1)), (a2, .inl (G 0, 10, .inl f2)), (a4, .inl (G 0, 6, .inl f4)), (a5, .inl (G 0, 6, .inl f5)), (a6, .inl (G 0, 6, .inl f6))] : va_W) ++ ((((List.range 11).map (fun iq => (rw iq, .inl (G 1, 70, .inr (.inl (F iq)))))) : va_W) ++ ((((List.range 10).map (fun iq => (rq iq, .inl (G 0, 70, .inl (E iq))))) : va_W) ++ [])))) [0, 1, 2, 3, 4, 5, 6, 7, 8, 9, 10, 11, 12, 13, 14, 15, 16, 17, 18, 19, 20, 21, 22, 23, 24, 25, 26, 27, 28, 29, 30] rfl
              have hD9 := hD.sub (ws' := (([(h0, .inr (10, [.ref rd, .ref wy, .ref tr, .ref im, .ref kp, .ref od, .ref ch, .ref cr, .ref le, .ref mk, .ref tl, .ref sh, .int tf, .int rf])), (ch, .inr (0, [.long w0, .ref wk, .ref cs])), (wk, .inl (G 5, 11, .inr (.inr (.inr (.inr (fun ir => if ir < 11 then some (rw ir) else none)))))), (cs, .inl (G 4, 10, .inr (.inr (.inr (.inr (fun ir => if ir < 10 then some (rq ir) else none)))))), (wy, .inr (9, [.int (nI N), .int (nI B), .int (nI D), .ref a1, .ref a2, .ref a3, .ref a4, .ref a5, .ref a6])), (a1, .inl (G 0, 10, .inl f1)), (a2, .inl (G 0, 10, .inl f2)), (a4, .inl (G 0, 6, .inl f4)), (a5, .inl (G 0, 6, .inl f5)), (a6, .inl (G 0, 6, .inl f6))] : va_W) ++ ((((List.range 11).map (fun iq => (rw iq, .inl (G 1, 70, .inr (.inl (F iq)))))) : va_W) ++ ((((List.range 10).map (fun iq => (rq iq, .inl (G 0, 70, .inl (E iq))))) : va_W) ++ [])))) [0, 1, 2, 3, 4, 5, 6, 7, 8, 9, 10, 11, 12, 13, 14, 15, 16, 17, 18, 19, 20, 21, 22, 23, 24, 25, 26, 27, 28, 29, 30] (by decide) rfl
              refine W.widen (k := 0) (n := 0) (by omega) (by omega) ?_
              exact W.iret (v := (-1)) hx hb hr (fun t ht hW => ⟨⟨(-1), (w0, F, E), rfl, ⟨hpost, trivial⟩, ⟨by rw [ht]; exact hP9, hD9⟩⟩, hS.F ht⟩) hS.2.2 dX10_next_56
        · skip
          exact absurd c38 (by decide)

