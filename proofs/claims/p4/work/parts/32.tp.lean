set_option maxHeartbeats 1000000 in
set_option maxRecDepth 100000 in
theorem c_X5_readBearerE (l : Launch) (dC : Nat → ClassId) (dI : Nat → Nat → Nat) (G : Nat → ClassId) (sz : Nat) (h0 tp td ta T F P a1 a2 a3 a4 a5 a6 N B D : Nat) (x0 x1 x2 x3 x6 x7 x8 x9 : Int32) (f g4 g5 g6 : Nat → Int32) (adK adV : Nat → Nat) (hF : F ≤ P) (hP0 : P ≤ T) (hT : T ≤ 320) (hN_N : N ≤ 10) (hB_B : B ≤ 6) (hD_D : 1 ≤ D ∧ D ≤ 9) : Met l yX5_readBearer (Cond.code yX5_readBearer cX5_readBearer 3 (some .boolean) :: GT) ({ frames := 7, cells := 0, slots := 0, locals := 150 } : Room) (PcWS [.ref h0] dC dI G [(h0, .inr (5, [.ref tp, .ref td, .int x0, .int x1, .int x2, .int x3, .int (nI F), .int (nI P), .int x6, .int x7, .int x8, .int x9])), (tp, .inr (7, [.int (nI T), .ref ta])), (ta, .inl (G 0, 320, .inl f)), (td, .inr (9, [.int (nI N), .int (nI B), .int (nI D), .ref a1, .ref a2, .ref a3, .ref a4, .ref a5, .ref a6])), (a4, .inl (G 0, 6, .inl g4)), (a5, .inl (G 0, 6, .inl g5)), (a6, .inl (G 0, 6, .inl g6))] adK adV sz) (va_Qi (fun (r : Int32) (u : Int32 × Int32 × Int32 × Nat × Nat × Nat × (Nat → Int32) × (Nat → Int32) × (Nat → Int32)) => match u with | (u0, u1, u3, u4, u5, v0, v1, v2, v3) => ((r = 0 ∨ r = 1) ∧ r = (cBR f T (x0, x1, x3, F, P) B g4 g5 g6).1) ∧ u4 ≤ u5 ∧ u5 ≤ T ∧ v0 ≤ 6 ∧ ((u0, u1, u3, u4, u5), v0, v1, v2, v3) = (cBR f T (x0, x1, x3, F, P) B g4 g5 g6).2) (fun (u : Int32 × Int32 × Int32 × Nat × Nat × Nat × (Nat → Int32) × (Nat → Int32) × (Nat → Int32)) (t : State) => match u with | (u0, u1, u3, u4, u5, v0, v1, v2, v3) => va_P (dC, dI) vwCl [(h0, .inr (5, [.ref tp, .ref td, .int u0, .int u1, .int x2, .int u3, .int (nI u4), .int (nI u5), .int x6, .int x7, .int x8, .int x9])), (tp, .inr (7, [.int (nI T), .ref ta])), (ta, .inl (G 0, 320, .inl f)), (td, .inr (9, [.int (nI N), .int (nI v0), .int (nI D), .ref a1, .ref a2, .ref a3, .ref a4, .ref a5, .ref a6])), (a4, .inl (G 0, 6, .inl v1)), (a5, .inl (G 0, 6, .inl v2)), (a6, .inl (G 0, 6, .inl v3))] t.heap ∧ va_D (va_A [(h0, .inr (5, [.ref tp, .ref td, .int x0, .int x1, .int x2, .int x3, .int (nI F), .int (nI P), .int x6, .int x7, .int x8, .int x9])), (tp, .inr (7, [.int (nI T), .ref ta])), (ta, .inl (G 0, 320, .inl f)), (td, .inr (9, [.int (nI N), .int (nI B), .int (nI D), .ref a1, .ref a2, .ref a3, .ref a4, .ref a5, .ref a6])), (a4, .inl (G 0, 6, .inl g4)), (a5, .inl (G 0, 6, .inl g5)), (a6, .inl (G 0, 6, .inl g6))] sz) [(h0, .inr (5, [.ref tp, .ref td, .int u0, .int u1, .int x2, .int u3, .int (nI u4), .int (nI u5), .int x6, .int x7, .int x8, .int x9])), (tp, .inr (7, [.int (nI T), .ref ta])), (ta, .inl (G 0, 320, .inl f)), (td, .inr (9, [.int (nI N), .int (nI v0), .int (nI D), .ref a1, .ref a2, .ref a3, .ref a4, .ref a5, .ref a6])), (a4, .inl (G 0, 6, .inl v1)), (a5, .inl (G 0, 6, .inl v2)), (a6, .inl (G 0, 6, .inl v3))]) (va_A [(h0, .inr (5, [.ref tp, .ref td, .int x0, .int x1, .int x2, .int x3, .int (nI F), .int (nI P), .int x6, .int x7, .int x8, .int x9])), (tp, .inr (7, [.int (nI T), .ref ta])), (ta, .inl (G 0, 320, .inl f)), (td, .inr (9, [.int (nI N), .int (nI B), .int (nI D), .ref a1, .ref a2, .ref a3, .ref a4, .ref a5, .ref a6])), (a4, .inl (G 0, 6, .inl g4)), (a5, .inl (G 0, 6, .inl g5)), (a6, .inl (G 0, 6, .inl g6))] sz)) 0 0 (va_A [(h0, .inr (5, [.ref tp, .ref td, .int x0, .int x1, .int x2, .int x3, .int (nI F), .int (nI P), .int x6, .int x7, .int x8, .int x9])), (tp, .inr (7, [.int (nI T), .ref ta])), (ta, .inl (G 0, 320, .inl f)), (td, .inr (9, [.int (nI N), .int (nI B), .int (nI D), .ref a1, .ref a2, .ref a3, .ref a4, .ref a5, .ref a6])), (a4, .inl (G 0, 6, .inl g4)), (a5, .inl (G 0, 6, .inl g5)), (a6, .inl (G 0, 6, .inl g6))] sz) := by
  refine Met.ofW (cc := cX5_readBearer) (maxL := 3) (ret := (some .boolean)) (by decide) rfl ?_
  intro p e s m args below meth c s₁ Bd hml hv
  obtain ⟨rfl, hsz, hP, hK, hD0, hSS⟩ := hv
  have hx := Bd.exec
  have hb := Bd.bytes
  have hr := Bd.returns
  have hg : ∀ w ∈ GT, w.before ([.ref h0] : List Value).toArray s = true := fun w h => atoms_spec (ws := Cond.code yX5_readBearer cX5_readBearer 3 (some .boolean) :: GT) Bd.pre w (List.mem_cons_of_mem _ h)
  have hown : s.vm.findClass RX5 = some m.cls := findClass_of_methodNamed Bd.named
  have hlocks := Bd.notSynchronized
  subst hsz
  have hD := hD0.self (sz := s.heap.size)
  generalize hAe : va_A [(h0, .inr (5, [.ref tp, .ref td, .int x0, .int x1, .int x2, .int x3, .int (nI F), .int (nI P), .int x6, .int x7, .int x8, .int x9])), (tp, .inr (7, [.int (nI T), .ref ta])), (ta, .inl (G 0, 320, .inl f)), (td, .inr (9, [.int (nI N), .int (nI B), .int (nI D), .ref a1, .ref a2, .ref a3, .ref a4, .ref a5, .ref a6])), (a4, .inl (G 0, 6, .inl g4)), (a5, .inl (G 0, 6, .inl g5)), (a6, .inl (G 0, 6, .inl g6))] s.heap.size = A at hD hSS ⊢
  have hA : ∀ q : Nat, s.heap.size ≤ q → A q := fun q h => by rw [← hAe]; exact Or.inr h
  have hS : va_S A s.heap s.heap [] := va_S.rf
  have hl := lv_entry ([.ref h0]) (n := 3) (Nat.le_of_ble_eq_true rfl)
  rw [lg_entry_eq]
  generalize (lg_sl ([.ref h0]) ++ List.replicate (3 - (lg_sl ([.ref h0])).length) Slot.unset).toArray = ls at hl ⊢
  have hl : lv_has ls 3 [(0, .ref h0)] := hl
  refine lv_aload_n hx hb dX5_readBearer_0 rfl (lv_at hl 0 rfl) ?_
  refine va_get (D := (dC, dI)) (ci := 5) (v := .ref td) (C := RX5) (T := TX5) (N := 12) hx hb hg inG5 hown hK.1 hP 0 rfl rfl 1 (by decide) (hg _ wt_107) (fun _ h9 => h9) rfl dX5_readBearer_1 ?_
  refine va_getN (D := (dC, dI)) (ci := 9) (v := .int (nI B)) (C := RX9) (T := TX9) (N := 9) hx hb hg inG9 hown hK.1 hP 3 rfl rfl 1 (by decide) (hK.nest wn_65) (fun _ h9 => h9) rfl dX5_readBearer_4 ?_
  refine lv_bipush (v := 6) hx hb dX5_readBearer_7 (by decide) ?_
  refine lv_icmp_lt (tgt := 22) hx hb dX5_readBearer_9 (by decide) (fun c1 => ?_) (fun c1 => ?_)
  · skip
    have n2 : B < 6 := by have t := ltI c1; rw [nI_toInt (n := B) (by omega)] at t; have : (6 : Int32).toInt = 6 := (by decide); omega
    refine lv_aload_n hx hb dX5_readBearer_22 rfl (lv_at hl 0 rfl) ?_
    have hPc := hP.sub (ws' := [(h0, .inr (5, [.ref tp, .ref td, .int x0, .int x1, .int x2, .int x3, .int (nI F), .int (nI P), .int x6, .int x7, .int x8, .int x9])), (tp, .inr (7, [.int (nI T), .ref ta])), (ta, .inl (G 0, 320, .inl f))]) [0, 1, 2] rfl
    have hDc := hD.sub (ws' := [(h0, .inr (5, [.ref tp, .ref td, .int x0, .int x1, .int x2, .int x3, .int (nI F), .int (nI P), .int x6, .int x7, .int x8, .int x9])), (tp, .inr (7, [.int (nI T), .ref ta])), (ta, .inl (G 0, 320, .inl f))]) [0, 1, 2] (by decide) rfl
    have hFc := va_free (wc := [(h0, .inr (5, [.ref tp, .ref td, .int x0, .int x1, .int x2, .int x3, .int (nI F), .int (nI P), .int x6, .int x7, .int x8, .int x9])), (tp, .inr (7, [.int (nI T), .ref ta])), (ta, .inl (G 0, 320, .inl f))]) hD hS hA [0, 1, 2] rfl
    refine va_calli (va_runV (As := []) (rest := []) ⟨hx, hb, hml, hown, hg⟩ (c_X5_nextTokenE l dC dI G _ h0 tp td ta T P x0 x1 x2 x3 x6 x7 x8 x9 (nI F) f (by have t_n2 := n2; have t_n0 : (nI F).toInt = (F : Int) := nI_toInt (by omega); have t_n1 : (nI P).toInt = (P : Int) := nI_toInt (by omega); have t_n2 : (nI T).toInt = (T : Int) := nI_toInt (by omega); have t_n3 : (nI N).toInt = (N : Int) := nI_toInt (by omega); have t_n4 : (nI B).toInt = (B : Int) := nI_toInt (by omega); have t_n5 : (nI D).toInt = (D : Int) := nI_toInt (by omega); omega) (by have t_n2 := n2; have t_n0 : (nI F).toInt = (F : Int) := nI_toInt (by omega); have t_n1 : (nI P).toInt = (P : Int) := nI_toInt (by omega); have t_n2 : (nI T).toInt = (T : Int) := nI_toInt (by omega); have t_n3 : (nI N).toInt = (N : Int) := nI_toInt (by omega); have t_n4 : (nI B).toInt = (B : Int) := nI_toInt (by omega); have t_n5 : (nI D).toInt = (D : Int) := nI_toInt (by omega); omega)) (kwV hg mfX5_nextToken wt_374 ⟨Nat.le_of_ble_eq_true rfl, Nat.le_of_ble_eq_true rfl⟩) (preVW hK hPc hDc (ci := 5) rfl rfl) rfl rfl hl.1 rfl (lv_room (Nat.le_of_ble_eq_true rfl)) dX5_readBearer_23 ⟨Nat.le_of_ble_eq_true rfl, Nat.le_of_ble_eq_true rfl⟩) hS (fun q _ h => hFc q h) hFc (fun r3 ur3 t H1 locs ht hvm w4 hB hz1 hk1 hS => ?_)
    obtain ⟨u5, u6, u7, u8, u9⟩ := ur3
    obtain ⟨hP1, hD1⟩ := hB
    rw [ht] at hP1
    obtain ⟨hP, hD⟩ := va_join (wr := [(td, .inr (9, [.int (nI N), .int (nI B), .int (nI D), .ref a1, .ref a2, .ref a3, .ref a4, .ref a5, .ref a6])), (a4, .inl (G 0, 6, .inl g4)), (a5, .inl (G 0, 6, .inl g5)), (a6, .inl (G 0, 6, .inl g6))]) (w1 := [(h0, .inr (5, [.ref tp, .ref td, .int u5, .int u6, .int x2, .int u7, .int (nI u8), .int (nI u9), .int x6, .int x7, .int x8, .int x9])), (tp, .inr (7, [.int (nI T), .ref ta])), (ta, .inl (G 0, 320, .inl f))]) hP hD [0, 1, 2] [3, 4, 5, 6] rfl rfl (by decide) (by decide) hk1 hFc hP1 hD1
    generalize H1 = H at hP hS ⊢
    have hP : va_P (dC, dI) vwCl [(td, .inr (9, [.int (nI N), .int (nI B), .int (nI D), .ref a1, .ref a2, .ref a3, .ref a4, .ref a5, .ref a6])), (a4, .inl (G 0, 6, .inl g4)), (a5, .inl (G 0, 6, .inl g5)), (a6, .inl (G 0, 6, .inl g6)), (h0, .inr (5, [.ref tp, .ref td, .int u5, .int u6, .int x2, .int u7, .int (nI u8), .int (nI u9), .int x6, .int x7, .int x8, .int x9])), (tp, .inr (7, [.int (nI T), .ref ta])), (ta, .inl (G 0, 320, .inl f))] H := hP
    have hD : va_D A [(td, .inr (9, [.int (nI N), .int (nI B), .int (nI D), .ref a1, .ref a2, .ref a3, .ref a4, .ref a5, .ref a6])), (a4, .inl (G 0, 6, .inl g4)), (a5, .inl (G 0, 6, .inl g5)), (a6, .inl (G 0, 6, .inl g6)), (h0, .inr (5, [.ref tp, .ref td, .int u5, .int u6, .int x2, .int u7, .int (nI u8), .int (nI u9), .int x6, .int x7, .int x8, .int x9])), (tp, .inr (7, [.int (nI T), .ref ta])), (ta, .inl (G 0, 320, .inl f))] := hD
    obtain ⟨w4, w4x⟩ := w4
    have vw4 : tNG f T (x0, x1, x3, F, P) = r3 := w4.symm
    have ew4 : tNT f T (x0, x1, x3, F, P) = (u5, u6, u7, u8, u9) := w4x.2.2.symm
    refine lv_if_ne (tgt := 31) hx hb dX5_readBearer_26 (by decide) (fun c10 => ?_) (fun c10 => ?_)
    · skip
      refine lv_aload_n hx hb dX5_readBearer_31 rfl (lv_at hl 0 rfl) ?_
      have hPc := hP.sub (ws' := [(h0, .inr (5, [.ref tp, .ref td, .int u5, .int u6, .int x2, .int u7, .int (nI u8), .int (nI u9), .int x6, .int x7, .int x8, .int x9])), (tp, .inr (7, [.int (nI T), .ref ta])), (ta, .inl (G 0, 320, .inl f))]) [4, 5, 6] rfl
      refine va_calli (va_runV (As := []) (rest := []) ⟨hx, hb, hml, hown, hg⟩ (c_X5_kindE l dC dI G _ h0 tp td ta T u8 u9 u5 u6 x2 u7 x6 x7 x8 x9 f adK adV (by have t_n2 := n2; have t_c10 := neI c10; have : (0 : Int32).toInt = 0 := (by decide); have t_n0 : (nI F).toInt = (F : Int) := nI_toInt (by omega); have t_n1 : (nI P).toInt = (P : Int) := nI_toInt (by omega); have t_n2 : (nI T).toInt = (T : Int) := nI_toInt (by omega); have t_n3 : (nI N).toInt = (N : Int) := nI_toInt (by omega); have t_n4 : (nI B).toInt = (B : Int) := nI_toInt (by omega); have t_n5 : (nI D).toInt = (D : Int) := nI_toInt (by omega); omega) (by have t_n2 := n2; have t_c10 := neI c10; have : (0 : Int32).toInt = 0 := (by decide); have t_n0 : (nI F).toInt = (F : Int) := nI_toInt (by omega); have t_n1 : (nI P).toInt = (P : Int) := nI_toInt (by omega); have t_n2 : (nI T).toInt = (T : Int) := nI_toInt (by omega); have t_n3 : (nI N).toInt = (N : Int) := nI_toInt (by omega); have t_n4 : (nI B).toInt = (B : Int) := nI_toInt (by omega); have t_n5 : (nI D).toInt = (D : Int) := nI_toInt (by omega); omega) (by have t_n2 := n2; have t_c10 := neI c10; have : (0 : Int32).toInt = 0 := (by decide); have t_n0 : (nI F).toInt = (F : Int) := nI_toInt (by omega); have t_n1 : (nI P).toInt = (P : Int) := nI_toInt (by omega); have t_n2 : (nI T).toInt = (T : Int) := nI_toInt (by omega); have t_n3 : (nI N).toInt = (N : Int) := nI_toInt (by omega); have t_n4 : (nI B).toInt = (B : Int) := nI_toInt (by omega); have t_n5 : (nI D).toInt = (D : Int) := nI_toInt (by omega); omega)) (kwV hg mfX5_kind wt_481 ⟨Nat.le_of_ble_eq_true rfl, Nat.le_of_ble_eq_true rfl⟩) (preVRS hK hPc hSS hS (fun q h => hA q (Nat.le_trans hS.1 h)) (ci := 5) rfl rfl) rfl rfl hl.1 rfl (lv_room (Nat.le_of_ble_eq_true rfl)) dX5_readBearer_32 ⟨Nat.le_of_ble_eq_true rfl, Nat.le_of_ble_eq_true rfl⟩) hS (fun q h1 h2 => absurd h2 (Nat.not_le.mpr h1)) (fun q h => hA q (Nat.le_trans hS.1 h)) (fun r11 ur11 t H1 locs ht hvm w12 hB hz1 hk1 hS => ?_)
      have hP := keepR hP hk1
      obtain ⟨w12, w12x⟩ := w12
      subst w12
      refine lv_istore_n (lv' := [(1, .int (kdF f u8 u9 u7)), (0, .ref h0)]) hx hb dX5_readBearer_35 rfl hl (by decide) rfl (fun ls hl => ?_)
      refine lv_iload_n hx hb dX5_readBearer_36 rfl (lv_at hl 0 rfl) ?_
      refine lv_bipush (v := (-4)) hx hb dX5_readBearer_37 (by decide) ?_
      refine lv_icmp_ne (tgt := 52) hx hb dX5_readBearer_39 (by decide) (fun c13 => ?_) (fun c13 => ?_)
      · skip
        refine lv_aload_n hx hb dX5_readBearer_52 rfl (lv_at hl 1 rfl) ?_
        refine lv_iconst (v := 0) hx hb dX5_readBearer_53 (by decide) ?_
        refine lv_bipush (v := 9) hx hb dX5_readBearer_54 (by decide) ?_
        have hPc := hP.sub (ws' := [(h0, .inr (5, [.ref tp, .ref td, .int u5, .int u6, .int x2, .int u7, .int (nI u8), .int (nI u9), .int x6, .int x7, .int x8, .int x9])), (tp, .inr (7, [.int (nI T), .ref ta])), (ta, .inl (G 0, 320, .inl f))]) [4, 5, 6] rfl
        have hDc := hD.sub (ws' := [(h0, .inr (5, [.ref tp, .ref td, .int u5, .int u6, .int x2, .int u7, .int (nI u8), .int (nI u9), .int x6, .int x7, .int x8, .int x9])), (tp, .inr (7, [.int (nI T), .ref ta])), (ta, .inl (G 0, 320, .inl f))]) [4, 5, 6] (by decide) rfl
        have hFc := va_free (wc := [(h0, .inr (5, [.ref tp, .ref td, .int u5, .int u6, .int x2, .int u7, .int (nI u8), .int (nI u9), .int x6, .int x7, .int x8, .int x9])), (tp, .inr (7, [.int (nI T), .ref ta])), (ta, .inl (G 0, 320, .inl f))]) hD hS hA [4, 5, 6] rfl
        refine va_calli (va_runV (As := [.int 0, .int 9]) (rest := []) ⟨hx, hb, hml, hown, hg⟩ (c_X5_nextNumberE l dC dI G _ h0 tp td ta T u9 u5 u6 x2 u7 x6 x7 x8 x9 (nI u8) 0 9 f (by have t_n2 := n2; have t_c10 := neI c10; have t_c13 := neI c13; have : ((-4) : Int32).toInt = -4 := (by decide); have : (0 : Int32).toInt = 0 := (by decide); have t_n0 : (nI F).toInt = (F : Int) := nI_toInt (by omega); have t_n1 : (nI P).toInt = (P : Int) := nI_toInt (by omega); have t_n2 : (nI T).toInt = (T : Int) := nI_toInt (by omega); have t_n3 : (nI N).toInt = (N : Int) := nI_toInt (by omega); have t_n4 : (nI B).toInt = (B : Int) := nI_toInt (by omega); have t_n5 : (nI D).toInt = (D : Int) := nI_toInt (by omega); have : (0 : Int32).toInt = 0 := (by decide); have : (9 : Int32).toInt = 9 := (by decide); omega) (by have t_n2 := n2; have t_c10 := neI c10; have t_c13 := neI c13; have : ((-4) : Int32).toInt = -4 := (by decide); have : (0 : Int32).toInt = 0 := (by decide); have t_n0 : (nI F).toInt = (F : Int) := nI_toInt (by omega); have t_n1 : (nI P).toInt = (P : Int) := nI_toInt (by omega); have t_n2 : (nI T).toInt = (T : Int) := nI_toInt (by omega); have t_n3 : (nI N).toInt = (N : Int) := nI_toInt (by omega); have t_n4 : (nI B).toInt = (B : Int) := nI_toInt (by omega); have t_n5 : (nI D).toInt = (D : Int) := nI_toInt (by omega); have : (0 : Int32).toInt = 0 := (by decide); have : (9 : Int32).toInt = 9 := (by decide); omega)) (kwV hg mfX5_nextNumber wt_455 ⟨Nat.le_of_ble_eq_true rfl, Nat.le_of_ble_eq_true rfl⟩) (preVW hK hPc hDc (ci := 5) rfl rfl) rfl rfl hl.1 rfl (lv_room (Nat.le_of_ble_eq_true rfl)) dX5_readBearer_56 ⟨Nat.le_of_ble_eq_true rfl, Nat.le_of_ble_eq_true rfl⟩) hS (fun q _ h => hFc q h) hFc (fun r14 ur14 t H1 locs ht hvm w15 hB hz1 hk1 hS => ?_)
        obtain ⟨u16, u17, u18, u19, u20⟩ := ur14
        obtain ⟨hP1, hD1⟩ := hB
        rw [ht] at hP1
        obtain ⟨hP, hD⟩ := va_join (wr := [(td, .inr (9, [.int (nI N), .int (nI B), .int (nI D), .ref a1, .ref a2, .ref a3, .ref a4, .ref a5, .ref a6])), (a4, .inl (G 0, 6, .inl g4)), (a5, .inl (G 0, 6, .inl g5)), (a6, .inl (G 0, 6, .inl g6))]) (w1 := [(h0, .inr (5, [.ref tp, .ref td, .int u16, .int u17, .int x2, .int u18, .int (nI u19), .int (nI u20), .int x6, .int x7, .int x8, .int x9])), (tp, .inr (7, [.int (nI T), .ref ta])), (ta, .inl (G 0, 320, .inl f))]) hP hD [4, 5, 6] [0, 1, 2, 3] rfl rfl (by decide) (by decide) hk1 hFc hP1 hD1
        generalize H1 = H at hP hS ⊢
        have hP : va_P (dC, dI) vwCl [(td, .inr (9, [.int (nI N), .int (nI B), .int (nI D), .ref a1, .ref a2, .ref a3, .ref a4, .ref a5, .ref a6])), (a4, .inl (G 0, 6, .inl g4)), (a5, .inl (G 0, 6, .inl g5)), (a6, .inl (G 0, 6, .inl g6)), (h0, .inr (5, [.ref tp, .ref td, .int u16, .int u17, .int x2, .int u18, .int (nI u19), .int (nI u20), .int x6, .int x7, .int x8, .int x9])), (tp, .inr (7, [.int (nI T), .ref ta])), (ta, .inl (G 0, 320, .inl f))] H := hP
        have hD : va_D A [(td, .inr (9, [.int (nI N), .int (nI B), .int (nI D), .ref a1, .ref a2, .ref a3, .ref a4, .ref a5, .ref a6])), (a4, .inl (G 0, 6, .inl g4)), (a5, .inl (G 0, 6, .inl g5)), (a6, .inl (G 0, 6, .inl g6)), (h0, .inr (5, [.ref tp, .ref td, .int u16, .int u17, .int x2, .int u18, .int (nI u19), .int (nI u20), .int x6, .int x7, .int x8, .int x9])), (tp, .inr (7, [.int (nI T), .ref ta])), (ta, .inl (G 0, 320, .inl f))] := hD
        obtain ⟨w15, w15x⟩ := w15
        have vw15 : (tNN f T 0 9 (u5, u6, u7, u8, u9)).1 = r14 := w15.2.symm
        have ew15 : (tNN f T 0 9 (u5, u6, u7, u8, u9)).2 = (u16, u17, u18, u19, u20) := w15x.2.2.symm
        have bw15 : ¬ r14 = 0 → (0 : Int32).toInt ≤ (valN f T u19 (u20 - u19)).toInt ∧ (valN f T u19 (u20 - u19)).toInt ≤ (9 : Int32).toInt := (fun n9 => by rcases w15.1 with h9 | h9; exact absurd h9 n9; exact h9.2)
        refine lv_if_ne (tgt := 64) hx hb dX5_readBearer_59 (by decide) (fun c21 => ?_) (fun c21 => ?_)
        · skip
          refine lv_aload_n hx hb dX5_readBearer_64 rfl (lv_at hl 1 rfl) ?_
          have hPc := hP.sub (ws' := [(h0, .inr (5, [.ref tp, .ref td, .int u16, .int u17, .int x2, .int u18, .int (nI u19), .int (nI u20), .int x6, .int x7, .int x8, .int x9])), (tp, .inr (7, [.int (nI T), .ref ta])), (ta, .inl (G 0, 320, .inl f))]) [4, 5, 6] rfl
          refine va_calli (va_runV (As := []) (rest := []) ⟨hx, hb, hml, hown, hg⟩ (c_X5_value l dC dI G _ h0 tp td ta T u19 u20 u16 u17 x2 u18 x6 x7 x8 x9 f (by have t_n2 := n2; have t_c10 := neI c10; have t_c13 := neI c13; have t_c21 := neI c21; have : ((-4) : Int32).toInt = -4 := (by decide); have : (0 : Int32).toInt = 0 := (by decide); have t_n0 : (nI F).toInt = (F : Int) := nI_toInt (by omega); have t_n1 : (nI P).toInt = (P : Int) := nI_toInt (by omega); have t_n2 : (nI T).toInt = (T : Int) := nI_toInt (by omega); have t_n3 : (nI N).toInt = (N : Int) := nI_toInt (by omega); have t_n4 : (nI B).toInt = (B : Int) := nI_toInt (by omega); have t_n5 : (nI D).toInt = (D : Int) := nI_toInt (by omega); omega) (by have t_n2 := n2; have t_c10 := neI c10; have t_c13 := neI c13; have t_c21 := neI c21; have : ((-4) : Int32).toInt = -4 := (by decide); have : (0 : Int32).toInt = 0 := (by decide); have t_n0 : (nI F).toInt = (F : Int) := nI_toInt (by omega); have t_n1 : (nI P).toInt = (P : Int) := nI_toInt (by omega); have t_n2 : (nI T).toInt = (T : Int) := nI_toInt (by omega); have t_n3 : (nI N).toInt = (N : Int) := nI_toInt (by omega); have t_n4 : (nI B).toInt = (B : Int) := nI_toInt (by omega); have t_n5 : (nI D).toInt = (D : Int) := nI_toInt (by omega); omega) (by have t_n2 := n2; have t_c10 := neI c10; have t_c13 := neI c13; have t_c21 := neI c21; have : ((-4) : Int32).toInt = -4 := (by decide); have : (0 : Int32).toInt = 0 := (by decide); have t_n0 : (nI F).toInt = (F : Int) := nI_toInt (by omega); have t_n1 : (nI P).toInt = (P : Int) := nI_toInt (by omega); have t_n2 : (nI T).toInt = (T : Int) := nI_toInt (by omega); have t_n3 : (nI N).toInt = (N : Int) := nI_toInt (by omega); have t_n4 : (nI B).toInt = (B : Int) := nI_toInt (by omega); have t_n5 : (nI D).toInt = (D : Int) := nI_toInt (by omega); omega)) (kwV hg mfX5_value wt_459 ⟨Nat.le_of_ble_eq_true rfl, Nat.le_of_ble_eq_true rfl⟩) (preVR hK hPc (ci := 5) rfl rfl) rfl rfl hl.1 rfl (lv_room (Nat.le_of_ble_eq_true rfl)) dX5_readBearer_65 ⟨Nat.le_of_ble_eq_true rfl, Nat.le_of_ble_eq_true rfl⟩) hS (fun q h1 h2 => absurd h2 (Nat.not_le.mpr h1)) (fun q h => hA q (Nat.le_trans hS.1 h)) (fun r22 ur22 t H1 locs ht hvm w23 hB hz1 hk1 hS => ?_)
          have hP := keepR hP hk1
          obtain ⟨w23, w23x⟩ := w23
          subst w23
          refine lv_istore_n (lv' := [(2, .int (valN f T u19 (u20 - u19))), (1, .int (kdF f u8 u9 u7)), (0, .ref h0)]) hx hb dX5_readBearer_68 rfl hl (by decide) rfl (fun ls hl => ?_)
          refine lv_aload_n hx hb dX5_readBearer_69 rfl (lv_at hl 2 rfl) ?_
          refine lv_iconst (v := 0) hx hb dX5_readBearer_70 (by decide) ?_
          refine lv_bipush (v := 9) hx hb dX5_readBearer_71 (by decide) ?_
          have hPc := hP.sub (ws' := [(h0, .inr (5, [.ref tp, .ref td, .int u16, .int u17, .int x2, .int u18, .int (nI u19), .int (nI u20), .int x6, .int x7, .int x8, .int x9])), (tp, .inr (7, [.int (nI T), .ref ta])), (ta, .inl (G 0, 320, .inl f))]) [4, 5, 6] rfl
          have hDc := hD.sub (ws' := [(h0, .inr (5, [.ref tp, .ref td, .int u16, .int u17, .int x2, .int u18, .int (nI u19), .int (nI u20), .int x6, .int x7, .int x8, .int x9])), (tp, .inr (7, [.int (nI T), .ref ta])), (ta, .inl (G 0, 320, .inl f))]) [4, 5, 6] (by decide) rfl
          have hFc := va_free (wc := [(h0, .inr (5, [.ref tp, .ref td, .int u16, .int u17, .int x2, .int u18, .int (nI u19), .int (nI u20), .int x6, .int x7, .int x8, .int x9])), (tp, .inr (7, [.int (nI T), .ref ta])), (ta, .inl (G 0, 320, .inl f))]) hD hS hA [4, 5, 6] rfl
          refine va_calli (va_runV (As := [.int 0, .int 9]) (rest := []) ⟨hx, hb, hml, hown, hg⟩ (c_X5_nextNumberE l dC dI G _ h0 tp td ta T u20 u16 u17 x2 u18 x6 x7 x8 x9 (nI u19) 0 9 f (by have t_n2 := n2; have t_c10 := neI c10; have t_c13 := neI c13; have t_c21 := neI c21; have : ((-4) : Int32).toInt = -4 := (by decide); have : (0 : Int32).toInt = 0 := (by decide); have t_n0 : (nI F).toInt = (F : Int) := nI_toInt (by omega); have t_n1 : (nI P).toInt = (P : Int) := nI_toInt (by omega); have t_n2 : (nI T).toInt = (T : Int) := nI_toInt (by omega); have t_n3 : (nI N).toInt = (N : Int) := nI_toInt (by omega); have t_n4 : (nI B).toInt = (B : Int) := nI_toInt (by omega); have t_n5 : (nI D).toInt = (D : Int) := nI_toInt (by omega); have : (0 : Int32).toInt = 0 := (by decide); have : (9 : Int32).toInt = 9 := (by decide); omega) (by have t_n2 := n2; have t_c10 := neI c10; have t_c13 := neI c13; have t_c21 := neI c21; have : ((-4) : Int32).toInt = -4 := (by decide); have : (0 : Int32).toInt = 0 := (by decide); have t_n0 : (nI F).toInt = (F : Int) := nI_toInt (by omega); have t_n1 : (nI P).toInt = (P : Int) := nI_toInt (by omega); have t_n2 : (nI T).toInt = (T : Int) := nI_toInt (by omega); have t_n3 : (nI N).toInt = (N : Int) := nI_toInt (by omega); have t_n4 : (nI B).toInt = (B : Int) := nI_toInt (by omega); have t_n5 : (nI D).toInt = (D : Int) := nI_toInt (by omega); have : (0 : Int32).toInt = 0 := (by decide); have : (9 : Int32).toInt = 9 := (by decide); omega)) (kwV hg mfX5_nextNumber wt_455 ⟨Nat.le_of_ble_eq_true rfl, Nat.le_of_ble_eq_true rfl⟩) (preVW hK hPc hDc (ci := 5) rfl rfl) rfl rfl hl.1 rfl (lv_room (Nat.le_of_ble_eq_true rfl)) dX5_readBearer_73 ⟨Nat.le_of_ble_eq_true rfl, Nat.le_of_ble_eq_true rfl⟩) hS (fun q _ h => hFc q h) hFc (fun r24 ur24 t H1 locs ht hvm w25 hB hz1 hk1 hS => ?_)
          obtain ⟨u26, u27, u28, u29, u30⟩ := ur24
          obtain ⟨hP1, hD1⟩ := hB
          rw [ht] at hP1
          obtain ⟨hP, hD⟩ := va_join (wr := [(td, .inr (9, [.int (nI N), .int (nI B), .int (nI D), .ref a1, .ref a2, .ref a3, .ref a4, .ref a5, .ref a6])), (a4, .inl (G 0, 6, .inl g4)), (a5, .inl (G 0, 6, .inl g5)), (a6, .inl (G 0, 6, .inl g6))]) (w1 := [(h0, .inr (5, [.ref tp, .ref td, .int u26, .int u27, .int x2, .int u28, .int (nI u29), .int (nI u30), .int x6, .int x7, .int x8, .int x9])), (tp, .inr (7, [.int (nI T), .ref ta])), (ta, .inl (G 0, 320, .inl f))]) hP hD [4, 5, 6] [0, 1, 2, 3] rfl rfl (by decide) (by decide) hk1 hFc hP1 hD1
          generalize H1 = H at hP hS ⊢
          have hP : va_P (dC, dI) vwCl [(td, .inr (9, [.int (nI N), .int (nI B), .int (nI D), .ref a1, .ref a2, .ref a3, .ref a4, .ref a5, .ref a6])), (a4, .inl (G 0, 6, .inl g4)), (a5, .inl (G 0, 6, .inl g5)), (a6, .inl (G 0, 6, .inl g6)), (h0, .inr (5, [.ref tp, .ref td, .int u26, .int u27, .int x2, .int u28, .int (nI u29), .int (nI u30), .int x6, .int x7, .int x8, .int x9])), (tp, .inr (7, [.int (nI T), .ref ta])), (ta, .inl (G 0, 320, .inl f))] H := hP
          have hD : va_D A [(td, .inr (9, [.int (nI N), .int (nI B), .int (nI D), .ref a1, .ref a2, .ref a3, .ref a4, .ref a5, .ref a6])), (a4, .inl (G 0, 6, .inl g4)), (a5, .inl (G 0, 6, .inl g5)), (a6, .inl (G 0, 6, .inl g6)), (h0, .inr (5, [.ref tp, .ref td, .int u26, .int u27, .int x2, .int u28, .int (nI u29), .int (nI u30), .int x6, .int x7, .int x8, .int x9])), (tp, .inr (7, [.int (nI T), .ref ta])), (ta, .inl (G 0, 320, .inl f))] := hD
          obtain ⟨w25, w25x⟩ := w25
          have vw25 : (tNN f T 0 9 (u16, u17, u18, u19, u20)).1 = r24 := w25.2.symm
          have ew25 : (tNN f T 0 9 (u16, u17, u18, u19, u20)).2 = (u26, u27, u28, u29, u30) := w25x.2.2.symm
          have bw25 : ¬ r24 = 0 → (0 : Int32).toInt ≤ (valN f T u29 (u30 - u29)).toInt ∧ (valN f T u29 (u30 - u29)).toInt ≤ (9 : Int32).toInt := (fun n9 => by rcases w25.1 with h9 | h9; exact absurd h9 n9; exact h9.2)
          refine lv_if_ne (tgt := 81) hx hb dX5_readBearer_76 (by decide) (fun c31 => ?_) (fun c31 => ?_)
          · skip
            refine lv_aload_n hx hb dX5_readBearer_81 rfl (lv_at hl 2 rfl) ?_
            refine va_get (D := (dC, dI)) (ci := 5) (v := .ref td) (C := RX5) (T := TX5) (N := 12) hx hb hg inG5 hown hK.1 hP 4 rfl rfl 1 (by decide) (hg _ wt_107) (fun _ h9 => h9) rfl dX5_readBearer_82 ?_
            refine lv_iload_n hx hb dX5_readBearer_85 rfl (lv_at hl 1 rfl) ?_
            refine lv_iload_n hx hb dX5_readBearer_86 rfl (lv_at hl 0 rfl) ?_
            refine lv_aload_n hx hb dX5_readBearer_87 rfl (lv_at hl 2 rfl) ?_
            have hPc := hP.sub (ws' := [(h0, .inr (5, [.ref tp, .ref td, .int u26, .int u27, .int x2, .int u28, .int (nI u29), .int (nI u30), .int x6, .int x7, .int x8, .int x9])), (tp, .inr (7, [.int (nI T), .ref ta])), (ta, .inl (G 0, 320, .inl f))]) [4, 5, 6] rfl
            refine va_calli (va_runV (As := []) (rest := [.int (valN f T u19 (u20 - u19)), .int (kdF f u8 u9 u7), .ref td]) ⟨hx, hb, hml, hown, hg⟩ (c_X5_value l dC dI G _ h0 tp td ta T u29 u30 u26 u27 x2 u28 x6 x7 x8 x9 f (by have t_n2 := n2; have t_c10 := neI c10; have t_c13 := neI c13; have t_c21 := neI c21; have t_c31 := neI c31; have : ((-4) : Int32).toInt = -4 := (by decide); have : (0 : Int32).toInt = 0 := (by decide); have t_n0 : (nI F).toInt = (F : Int) := nI_toInt (by omega); have t_n1 : (nI P).toInt = (P : Int) := nI_toInt (by omega); have t_n2 : (nI T).toInt = (T : Int) := nI_toInt (by omega); have t_n3 : (nI N).toInt = (N : Int) := nI_toInt (by omega); have t_n4 : (nI B).toInt = (B : Int) := nI_toInt (by omega); have t_n5 : (nI D).toInt = (D : Int) := nI_toInt (by omega); omega) (by have t_n2 := n2; have t_c10 := neI c10; have t_c13 := neI c13; have t_c21 := neI c21; have t_c31 := neI c31; have : ((-4) : Int32).toInt = -4 := (by decide); have : (0 : Int32).toInt = 0 := (by decide); have t_n0 : (nI F).toInt = (F : Int) := nI_toInt (by omega); have t_n1 : (nI P).toInt = (P : Int) := nI_toInt (by omega); have t_n2 : (nI T).toInt = (T : Int) := nI_toInt (by omega); have t_n3 : (nI N).toInt = (N : Int) := nI_toInt (by omega); have t_n4 : (nI B).toInt = (B : Int) := nI_toInt (by omega); have t_n5 : (nI D).toInt = (D : Int) := nI_toInt (by omega); omega) (by have t_n2 := n2; have t_c10 := neI c10; have t_c13 := neI c13; have t_c21 := neI c21; have t_c31 := neI c31; have : ((-4) : Int32).toInt = -4 := (by decide); have : (0 : Int32).toInt = 0 := (by decide); have t_n0 : (nI F).toInt = (F : Int) := nI_toInt (by omega); have t_n1 : (nI P).toInt = (P : Int) := nI_toInt (by omega); have t_n2 : (nI T).toInt = (T : Int) := nI_toInt (by omega); have t_n3 : (nI N).toInt = (N : Int) := nI_toInt (by omega); have t_n4 : (nI B).toInt = (B : Int) := nI_toInt (by omega); have t_n5 : (nI D).toInt = (D : Int) := nI_toInt (by omega); omega)) (kwV hg mfX5_value wt_459 ⟨Nat.le_of_ble_eq_true rfl, Nat.le_of_ble_eq_true rfl⟩) (preVR hK hPc (ci := 5) rfl rfl) rfl rfl hl.1 rfl (lv_room (Nat.le_of_ble_eq_true rfl)) dX5_readBearer_88 ⟨Nat.le_of_ble_eq_true rfl, Nat.le_of_ble_eq_true rfl⟩) hS (fun q h1 h2 => absurd h2 (Nat.not_le.mpr h1)) (fun q h => hA q (Nat.le_trans hS.1 h)) (fun r32 ur32 t H1 locs ht hvm w33 hB hz1 hk1 hS => ?_)
            have hP := keepR hP hk1
            obtain ⟨w33, w33x⟩ := w33
            subst w33
            have hPc := hP.sub (ws' := [(td, .inr (9, [.int (nI N), .int (nI B), .int (nI D), .ref a1, .ref a2, .ref a3, .ref a4, .ref a5, .ref a6])), (a4, .inl (G 0, 6, .inl g4)), (a5, .inl (G 0, 6, .inl g5)), (a6, .inl (G 0, 6, .inl g6))]) [0, 1, 2, 3] rfl
            have hDc := hD.sub (ws' := [(td, .inr (9, [.int (nI N), .int (nI B), .int (nI D), .ref a1, .ref a2, .ref a3, .ref a4, .ref a5, .ref a6])), (a4, .inl (G 0, 6, .inl g4)), (a5, .inl (G 0, 6, .inl g5)), (a6, .inl (G 0, 6, .inl g6))]) [0, 1, 2, 3] (by decide) rfl
            have hFc := va_free (wc := [(td, .inr (9, [.int (nI N), .int (nI B), .int (nI D), .ref a1, .ref a2, .ref a3, .ref a4, .ref a5, .ref a6])), (a4, .inl (G 0, 6, .inl g4)), (a5, .inl (G 0, 6, .inl g5)), (a6, .inl (G 0, 6, .inl g6))]) hD hS hA [0, 1, 2, 3] rfl
            refine va_callv (va_runVN (As := [.int (kdF f u8 u9 u7), .int (valN f T u19 (u20 - u19)), .int (valN f T u29 (u30 - u29))]) (rest := []) ⟨hx, hb, hml, hown, hg⟩ (c_X9_addBearerE l dC dI G _ td a1 a2 a3 a4 a5 a6 N B D (kdF f u8 u9 u7) (valN f T u19 (u20 - u19)) (valN f T u29 (u30 - u29)) g4 g5 g6 (by have t_n2 := n2; have t_c10 := neI c10; have t_c13 := neI c13; have t_c21 := neI c21; have t_c31 := neI c31; have : ((-4) : Int32).toInt = -4 := (by decide); have : (0 : Int32).toInt = 0 := (by decide); have t_n0 : (nI F).toInt = (F : Int) := nI_toInt (by omega); have t_n1 : (nI P).toInt = (P : Int) := nI_toInt (by omega); have t_n2 : (nI T).toInt = (T : Int) := nI_toInt (by omega); have t_n3 : (nI N).toInt = (N : Int) := nI_toInt (by omega); have t_n4 : (nI B).toInt = (B : Int) := nI_toInt (by omega); have t_n5 : (nI D).toInt = (D : Int) := nI_toInt (by omega); omega) (by have t_n2 := n2; have t_c10 := neI c10; have t_c13 := neI c13; have t_c21 := neI c21; have t_c31 := neI c31; have : ((-4) : Int32).toInt = -4 := (by decide); have : (0 : Int32).toInt = 0 := (by decide); have t_n0 : (nI F).toInt = (F : Int) := nI_toInt (by omega); have t_n1 : (nI P).toInt = (P : Int) := nI_toInt (by omega); have t_n2 : (nI T).toInt = (T : Int) := nI_toInt (by omega); have t_n3 : (nI N).toInt = (N : Int) := nI_toInt (by omega); have t_n4 : (nI B).toInt = (B : Int) := nI_toInt (by omega); have t_n5 : (nI D).toInt = (D : Int) := nI_toInt (by omega); omega) (by have t_n2 := n2; have t_c10 := neI c10; have t_c13 := neI c13; have t_c21 := neI c21; have t_c31 := neI c31; have : ((-4) : Int32).toInt = -4 := (by decide); have : (0 : Int32).toInt = 0 := (by decide); have t_n0 : (nI F).toInt = (F : Int) := nI_toInt (by omega); have t_n1 : (nI P).toInt = (P : Int) := nI_toInt (by omega); have t_n2 : (nI T).toInt = (T : Int) := nI_toInt (by omega); have t_n3 : (nI N).toInt = (N : Int) := nI_toInt (by omega); have t_n4 : (nI B).toInt = (B : Int) := nI_toInt (by omega); have t_n5 : (nI D).toInt = (D : Int) := nI_toInt (by omega); omega)) (kwVN hg hK mfX9_addBearer wn_491 ⟨Nat.le_of_ble_eq_true rfl, Nat.le_of_ble_eq_true rfl⟩) (preVW hK hPc hDc (ci := 9) rfl rfl) rfl rfl hl.1 rfl (lv_room (Nat.le_of_ble_eq_true rfl)) dX5_readBearer_91 ⟨Nat.le_of_ble_eq_true rfl, Nat.le_of_ble_eq_true rfl⟩) hS (fun q _ h => hFc q h) hFc (fun ur34 t H1 locs ht hvm w35 hB hz1 hk1 hS => ?_)
            obtain ⟨u36, u37, u38, u39⟩ := ur34
            obtain ⟨hP1, hD1⟩ := hB
            rw [ht] at hP1
            obtain ⟨hP, hD⟩ := va_join (wr := [(h0, .inr (5, [.ref tp, .ref td, .int u26, .int u27, .int x2, .int u28, .int (nI u29), .int (nI u30), .int x6, .int x7, .int x8, .int x9])), (tp, .inr (7, [.int (nI T), .ref ta])), (ta, .inl (G 0, 320, .inl f))]) (w1 := [(td, .inr (9, [.int (nI N), .int (nI u36), .int (nI D), .ref a1, .ref a2, .ref a3, .ref a4, .ref a5, .ref a6])), (a4, .inl (G 0, 6, .inl u37)), (a5, .inl (G 0, 6, .inl u38)), (a6, .inl (G 0, 6, .inl u39))]) hP hD [0, 1, 2, 3] [4, 5, 6] rfl rfl (by decide) (by decide) hk1 hFc hP1 hD1
            have w35 : u36 = (if B < 6 then B + 1 else B) ∧ u37 = (if B < 6 then upd g4 B (kdF f u8 u9 u7) else g4) ∧ u38 = (if B < 6 then upd g5 B (valN f T u19 (u20 - u19)) else g5) ∧ u39 = (if B < 6 then upd g6 B (valN f T u29 (u30 - u29)) else g6) := w35
            generalize H1 = H at hP hS ⊢
            have hP : va_P (dC, dI) vwCl [(h0, .inr (5, [.ref tp, .ref td, .int u26, .int u27, .int x2, .int u28, .int (nI u29), .int (nI u30), .int x6, .int x7, .int x8, .int x9])), (tp, .inr (7, [.int (nI T), .ref ta])), (ta, .inl (G 0, 320, .inl f)), (td, .inr (9, [.int (nI N), .int (nI u36), .int (nI D), .ref a1, .ref a2, .ref a3, .ref a4, .ref a5, .ref a6])), (a4, .inl (G 0, 6, .inl u37)), (a5, .inl (G 0, 6, .inl u38)), (a6, .inl (G 0, 6, .inl u39))] H := hP
            have hD : va_D A [(h0, .inr (5, [.ref tp, .ref td, .int u26, .int u27, .int x2, .int u28, .int (nI u29), .int (nI u30), .int x6, .int x7, .int x8, .int x9])), (tp, .inr (7, [.int (nI T), .ref ta])), (ta, .inl (G 0, 320, .inl f)), (td, .inr (9, [.int (nI N), .int (nI u36), .int (nI D), .ref a1, .ref a2, .ref a3, .ref a4, .ref a5, .ref a6])), (a4, .inl (G 0, 6, .inl u37)), (a5, .inl (G 0, 6, .inl u38)), (a6, .inl (G 0, 6, .inl u39))] := hD
            have qw35a : u36 = B + 1 := (by have t_n2 := n2; have t_c10 := neI c10; have t_c13 := neI c13; have t_c21 := neI c21; have t_c31 := neI c31; have : ((-4) : Int32).toInt = -4 := (by decide); have : (0 : Int32).toInt = 0 := (by decide); have t_n0 : (nI F).toInt = (F : Int) := nI_toInt (by omega); have t_n1 : (nI P).toInt = (P : Int) := nI_toInt (by omega); have t_n2 : (nI T).toInt = (T : Int) := nI_toInt (by omega); have t_n3 : (nI N).toInt = (N : Int) := nI_toInt (by omega); have t_n4 : (nI B).toInt = (B : Int) := nI_toInt (by omega); have t_n5 : (nI D).toInt = (D : Int) := nI_toInt (by omega); have h9 := w35.1; rw [if_pos (by omega)] at h9; exact h9)
            have qw35b0 : u37 = upd g4 B (kdF f u8 u9 u7) := (by have t_n2 := n2; have t_c10 := neI c10; have t_c13 := neI c13; have t_c21 := neI c21; have t_c31 := neI c31; have : ((-4) : Int32).toInt = -4 := (by decide); have : (0 : Int32).toInt = 0 := (by decide); have t_n0 : (nI F).toInt = (F : Int) := nI_toInt (by omega); have t_n1 : (nI P).toInt = (P : Int) := nI_toInt (by omega); have t_n2 : (nI T).toInt = (T : Int) := nI_toInt (by omega); have t_n3 : (nI N).toInt = (N : Int) := nI_toInt (by omega); have t_n4 : (nI B).toInt = (B : Int) := nI_toInt (by omega); have t_n5 : (nI D).toInt = (D : Int) := nI_toInt (by omega); have h9 := w35.2.1; rw [if_pos (by omega)] at h9; exact h9)
            have qw35b1 : u38 = upd g5 B (valN f T u19 (u20 - u19)) := (by have t_n2 := n2; have t_c10 := neI c10; have t_c13 := neI c13; have t_c21 := neI c21; have t_c31 := neI c31; have : ((-4) : Int32).toInt = -4 := (by decide); have : (0 : Int32).toInt = 0 := (by decide); have t_n0 : (nI F).toInt = (F : Int) := nI_toInt (by omega); have t_n1 : (nI P).toInt = (P : Int) := nI_toInt (by omega); have t_n2 : (nI T).toInt = (T : Int) := nI_toInt (by omega); have t_n3 : (nI N).toInt = (N : Int) := nI_toInt (by omega); have t_n4 : (nI B).toInt = (B : Int) := nI_toInt (by omega); have t_n5 : (nI D).toInt = (D : Int) := nI_toInt (by omega); have h9 := w35.2.2.1; rw [if_pos (by omega)] at h9; exact h9)
            have qw35b2 : u39 = upd g6 B (valN f T u29 (u30 - u29)) := (by have t_n2 := n2; have t_c10 := neI c10; have t_c13 := neI c13; have t_c21 := neI c21; have t_c31 := neI c31; have : ((-4) : Int32).toInt = -4 := (by decide); have : (0 : Int32).toInt = 0 := (by decide); have t_n0 : (nI F).toInt = (F : Int) := nI_toInt (by omega); have t_n1 : (nI P).toInt = (P : Int) := nI_toInt (by omega); have t_n2 : (nI T).toInt = (T : Int) := nI_toInt (by omega); have t_n3 : (nI N).toInt = (N : Int) := nI_toInt (by omega); have t_n4 : (nI B).toInt = (B : Int) := nI_toInt (by omega); have t_n5 : (nI D).toInt = (D : Int) := nI_toInt (by omega); have h9 := w35.2.2.2; rw [if_pos (by omega)] at h9; exact h9)
            refine lv_aload_n hx hb dX5_readBearer_94 rfl (lv_at hl 2 rfl) ?_
            have hPc := hP.sub (ws' := [(h0, .inr (5, [.ref tp, .ref td, .int u26, .int u27, .int x2, .int u28, .int (nI u29), .int (nI u30), .int x6, .int x7, .int x8, .int x9])), (tp, .inr (7, [.int (nI T), .ref ta])), (ta, .inl (G 0, 320, .inl f))]) [0, 1, 2] rfl
            have hDc := hD.sub (ws' := [(h0, .inr (5, [.ref tp, .ref td, .int u26, .int u27, .int x2, .int u28, .int (nI u29), .int (nI u30), .int x6, .int x7, .int x8, .int x9])), (tp, .inr (7, [.int (nI T), .ref ta])), (ta, .inl (G 0, 320, .inl f))]) [0, 1, 2] (by decide) rfl
            have hFc := va_free (wc := [(h0, .inr (5, [.ref tp, .ref td, .int u26, .int u27, .int x2, .int u28, .int (nI u29), .int (nI u30), .int x6, .int x7, .int x8, .int x9])), (tp, .inr (7, [.int (nI T), .ref ta])), (ta, .inl (G 0, 320, .inl f))]) hD hS hA [0, 1, 2] rfl
            refine va_calli (va_runV (As := []) (rest := []) ⟨hx, hb, hml, hown, hg⟩ (c_X5_nextStopE l dC dI G _ h0 tp td ta T u30 u26 u27 x2 u28 x6 x7 x8 x9 (nI u29) f (by have t_n2 := n2; have t_c10 := neI c10; have t_c13 := neI c13; have t_c21 := neI c21; have t_c31 := neI c31; have : ((-4) : Int32).toInt = -4 := (by decide); have : (0 : Int32).toInt = 0 := (by decide); have t_n0 : (nI F).toInt = (F : Int) := nI_toInt (by omega); have t_n1 : (nI P).toInt = (P : Int) := nI_toInt (by omega); have t_n2 : (nI T).toInt = (T : Int) := nI_toInt (by omega); have t_n3 : (nI N).toInt = (N : Int) := nI_toInt (by omega); have t_n4 : (nI B).toInt = (B : Int) := nI_toInt (by omega); have t_n5 : (nI D).toInt = (D : Int) := nI_toInt (by omega); omega) (by have t_n2 := n2; have t_c10 := neI c10; have t_c13 := neI c13; have t_c21 := neI c21; have t_c31 := neI c31; have : ((-4) : Int32).toInt = -4 := (by decide); have : (0 : Int32).toInt = 0 := (by decide); have t_n0 : (nI F).toInt = (F : Int) := nI_toInt (by omega); have t_n1 : (nI P).toInt = (P : Int) := nI_toInt (by omega); have t_n2 : (nI T).toInt = (T : Int) := nI_toInt (by omega); have t_n3 : (nI N).toInt = (N : Int) := nI_toInt (by omega); have t_n4 : (nI B).toInt = (B : Int) := nI_toInt (by omega); have t_n5 : (nI D).toInt = (D : Int) := nI_toInt (by omega); omega)) (kwV hg mfX5_nextStop wt_463 ⟨Nat.le_of_ble_eq_true rfl, Nat.le_of_ble_eq_true rfl⟩) (preVW hK hPc hDc (ci := 5) rfl rfl) rfl rfl hl.1 rfl (lv_room (Nat.le_of_ble_eq_true rfl)) dX5_readBearer_95 ⟨Nat.le_of_ble_eq_true rfl, Nat.le_of_ble_eq_true rfl⟩) hS (fun q _ h => hFc q h) hFc (fun r40 ur40 t H1 locs ht hvm w41 hB hz1 hk1 hS => ?_)
            obtain ⟨u42, u43, u44, u45, u46⟩ := ur40
            obtain ⟨hP1, hD1⟩ := hB
            rw [ht] at hP1
            obtain ⟨hP, hD⟩ := va_join (wr := [(td, .inr (9, [.int (nI N), .int (nI u36), .int (nI D), .ref a1, .ref a2, .ref a3, .ref a4, .ref a5, .ref a6])), (a4, .inl (G 0, 6, .inl u37)), (a5, .inl (G 0, 6, .inl u38)), (a6, .inl (G 0, 6, .inl u39))]) (w1 := [(h0, .inr (5, [.ref tp, .ref td, .int u42, .int u43, .int x2, .int u44, .int (nI u45), .int (nI u46), .int x6, .int x7, .int x8, .int x9])), (tp, .inr (7, [.int (nI T), .ref ta])), (ta, .inl (G 0, 320, .inl f))]) hP hD [0, 1, 2] [3, 4, 5, 6] rfl rfl (by decide) (by decide) hk1 hFc hP1 hD1
            generalize H1 = H at hP hS ⊢
            have hP : va_P (dC, dI) vwCl [(td, .inr (9, [.int (nI N), .int (nI u36), .int (nI D), .ref a1, .ref a2, .ref a3, .ref a4, .ref a5, .ref a6])), (a4, .inl (G 0, 6, .inl u37)), (a5, .inl (G 0, 6, .inl u38)), (a6, .inl (G 0, 6, .inl u39)), (h0, .inr (5, [.ref tp, .ref td, .int u42, .int u43, .int x2, .int u44, .int (nI u45), .int (nI u46), .int x6, .int x7, .int x8, .int x9])), (tp, .inr (7, [.int (nI T), .ref ta])), (ta, .inl (G 0, 320, .inl f))] H := hP
            have hD : va_D A [(td, .inr (9, [.int (nI N), .int (nI u36), .int (nI D), .ref a1, .ref a2, .ref a3, .ref a4, .ref a5, .ref a6])), (a4, .inl (G 0, 6, .inl u37)), (a5, .inl (G 0, 6, .inl u38)), (a6, .inl (G 0, 6, .inl u39)), (h0, .inr (5, [.ref tp, .ref td, .int u42, .int u43, .int x2, .int u44, .int (nI u45), .int (nI u46), .int x6, .int x7, .int x8, .int x9])), (tp, .inr (7, [.int (nI T), .ref ta])), (ta, .inl (G 0, 320, .inl f))] := hD
            obtain ⟨w41, w41x⟩ := w41
            have vw41 : (tNS f T (u26, u27, u28, u29, u30)).1 = r40 := w41.2.symm
            have ew41 : (tNS f T (u26, u27, u28, u29, u30)).2 = (u42, u43, u44, u45, u46) := w41x.2.2.symm
            have hpost : ((r40 : Int32) = 0 ∨ (r40 : Int32) = 1) ∧ (r40 : Int32) = (cBR f T (x0, x1, x3, F, P) B g4 g5 g6).1 := by
              have t_n2 := n2
              have t_c10 := neI c10
              have t_c13 := neI c13
              have t_c21 := neI c21
              have t_c31 := neI c31
              have : ((-4) : Int32).toInt = -4 := (by decide)
              have : (0 : Int32).toInt = 0 := (by decide)
              have t_n0 : (nI F).toInt = (F : Int) := nI_toInt (by omega)
              have t_n1 : (nI P).toInt = (P : Int) := nI_toInt (by omega)
              have t_n2 : (nI T).toInt = (T : Int) := nI_toInt (by omega)
              have t_n3 : (nI N).toInt = (N : Int) := nI_toInt (by omega)
              have t_n4 : (nI B).toInt = (B : Int) := nI_toInt (by omega)
              have t_n5 : (nI D).toInt = (D : Int) := nI_toInt (by omega)
              have z0 : (0 : Int32).toInt = 0 := (by decide)
              have z1 : (1 : Int32).toInt = 1 := (by decide)
              have z2 : (2 : Int32).toInt = 2 := (by decide)
              have z3 : (3 : Int32).toInt = 3 := (by decide)
              have z5 : (5 : Int32).toInt = 5 := (by decide)
              have z9 : (9 : Int32).toInt = 9 := (by decide)
              refine ⟨w41.1, ?_⟩
              unfold cBR
              (try rw [vw4])
              (try rw [ew4])
              (try rw [vw15])
              (try rw [ew15])
              (try rw [vw25])
              (try rw [ew25])
              (try rw [qw35a])
              (try rw [qw35b0])
              (try rw [qw35b1])
              (try rw [qw35b2])
              (try rw [vw41])
              (try rw [ew41])
              (try (repeat (first | rw [if_pos (by assumption)] | rw [if_neg (by assumption)] | rw [if_pos (by omega)] | rw [if_neg (by omega)] | rw [if_pos (by decide)] | rw [if_neg (by decide)])))
              all_goals rfl
            have hP9 := hP.sub (ws' := [(h0, .inr (5, [.ref tp, .ref td, .int u42, .int u43, .int x2, .int u44, .int (nI u45), .int (nI u46), .int x6, .int x7, .int x8, .int x9])), (tp, .inr (7, [.int (nI T), .ref ta])), (ta, .inl (G 0, 320, .inl f)), (td, .inr (9, [.int (nI N), .int (nI u36), .int (nI D), .ref a1, .ref a2, .ref a3, .ref a4, .ref a5, .ref a6])), (a4, .inl (G 0, 6, .inl u37)), (a5, .inl (G 0, 6, .inl u38)), (a6, .inl (G 0, 6, .inl u39))]) [4, 5, 6, 0, 1, 2, 3] rfl
            have hD9 := hD.sub (ws' := [(h0, .inr (5, [.ref tp, .ref td, .int u42, .int u43, .int x2, .int u44, .int (nI u45), .int (nI u46), .int x6, .int x7, .int x8, .int x9])), (tp, .inr (7, [.int (nI T), .ref ta])), (ta, .inl (G 0, 320, .inl f)), (td, .inr (9, [.int (nI N), .int (nI u36), .int (nI D), .ref a1, .ref a2, .ref a3, .ref a4, .ref a5, .ref a6])), (a4, .inl (G 0, 6, .inl u37)), (a5, .inl (G 0, 6, .inl u38)), (a6, .inl (G 0, 6, .inl u39))]) [4, 5, 6, 0, 1, 2, 3] (by decide) rfl
            refine W.widen (k := 0) (n := 0) (by omega) (by omega) ?_
            exact W.zret (v := r40) hx hb hr (by first | rfl | decide | exact zn01 w41.1) (fun t ht hW => ⟨⟨r40, (u42, u43, u44, u45, u46, u36, u37, u38, u39), rfl, ⟨hpost, (by have t_n2 := n2; have t_c10 := neI c10; have t_c13 := neI c13; have t_c21 := neI c21; have t_c31 := neI c31; have : ((-4) : Int32).toInt = -4 := (by decide); have : (0 : Int32).toInt = 0 := (by decide); have t_n0 : (nI F).toInt = (F : Int) := nI_toInt (by omega); have t_n1 : (nI P).toInt = (P : Int) := nI_toInt (by omega); have t_n2 : (nI T).toInt = (T : Int) := nI_toInt (by omega); have t_n3 : (nI N).toInt = (N : Int) := nI_toInt (by omega); have t_n4 : (nI B).toInt = (B : Int) := nI_toInt (by omega); have t_n5 : (nI D).toInt = (D : Int) := nI_toInt (by omega); have z0 : (0 : Int32).toInt = 0 := (by decide); have z1 : (1 : Int32).toInt = 1 := (by decide); have z2 : (2 : Int32).toInt = 2 := (by decide); have z3 : (3 : Int32).toInt = 3 := (by decide); have z5 : (5 : Int32).toInt = 5 := (by decide); have z9 : (9 : Int32).toInt = 9 := (by decide); refine ⟨by omega, by omega, by omega, ?_⟩; unfold cBR; (try rw [vw4]); (try rw [ew4]); (try rw [vw15]); (try rw [ew15]); (try rw [vw25]); (try rw [ew25]); (try rw [qw35a]); (try rw [qw35b0]); (try rw [qw35b1]); (try rw [qw35b2]); (try rw [vw41]); (try rw [ew41]); (try (repeat (first | rw [if_pos (by assumption)] | rw [if_neg (by assumption)] | rw [if_pos (by omega)] | rw [if_neg (by omega)] | rw [if_pos (by decide)] | rw [if_neg (by decide)]))); all_goals rfl; skip)⟩, ⟨by rw [ht]; exact hP9, hD9⟩⟩, hS.F ht⟩) hS.2.2 dX5_readBearer_98
          · skip
            refine lv_iconst (v := 0) hx hb dX5_readBearer_79 (by decide) ?_
            have hpost : ((0 : Int32) = 0 ∨ (0 : Int32) = 1) ∧ (0 : Int32) = (cBR f T (x0, x1, x3, F, P) B g4 g5 g6).1 := by
              have t_n2 := n2
              have t_c10 := neI c10
              have t_c13 := neI c13
              have t_c21 := neI c21
              have t_c31 := eqI c31
              have : ((-4) : Int32).toInt = -4 := (by decide)
              have : (0 : Int32).toInt = 0 := (by decide)
              have t_n0 : (nI F).toInt = (F : Int) := nI_toInt (by omega)
              have t_n1 : (nI P).toInt = (P : Int) := nI_toInt (by omega)
              have t_n2 : (nI T).toInt = (T : Int) := nI_toInt (by omega)
              have t_n3 : (nI N).toInt = (N : Int) := nI_toInt (by omega)
              have t_n4 : (nI B).toInt = (B : Int) := nI_toInt (by omega)
              have t_n5 : (nI D).toInt = (D : Int) := nI_toInt (by omega)
              have z0 : (0 : Int32).toInt = 0 := (by decide)
              have z1 : (1 : Int32).toInt = 1 := (by decide)
              have z2 : (2 : Int32).toInt = 2 := (by decide)
              have z3 : (3 : Int32).toInt = 3 := (by decide)
              have z5 : (5 : Int32).toInt = 5 := (by decide)
              have z9 : (9 : Int32).toInt = 9 := (by decide)
              refine ⟨Or.inl rfl, ?_⟩
              unfold cBR
              (try rw [vw4])
              (try rw [ew4])
              (try rw [vw15])
              (try rw [ew15])
              (try rw [vw25])
              (try rw [ew25])
              (try (repeat (first | rw [if_pos (by assumption)] | rw [if_neg (by assumption)] | rw [if_pos (by omega)] | rw [if_neg (by omega)] | rw [if_pos (by decide)] | rw [if_neg (by decide)])))
              all_goals rfl
            have hP9 := hP.sub (ws' := [(h0, .inr (5, [.ref tp, .ref td, .int u26, .int u27, .int x2, .int u28, .int (nI u29), .int (nI u30), .int x6, .int x7, .int x8, .int x9])), (tp, .inr (7, [.int (nI T), .ref ta])), (ta, .inl (G 0, 320, .inl f)), (td, .inr (9, [.int (nI N), .int (nI B), .int (nI D), .ref a1, .ref a2, .ref a3, .ref a4, .ref a5, .ref a6])), (a4, .inl (G 0, 6, .inl g4)), (a5, .inl (G 0, 6, .inl g5)), (a6, .inl (G 0, 6, .inl g6))]) [4, 5, 6, 0, 1, 2, 3] rfl
            have hD9 := hD.sub (ws' := [(h0, .inr (5, [.ref tp, .ref td, .int u26, .int u27, .int x2, .int u28, .int (nI u29), .int (nI u30), .int x6, .int x7, .int x8, .int x9])), (tp, .inr (7, [.int (nI T), .ref ta])), (ta, .inl (G 0, 320, .inl f)), (td, .inr (9, [.int (nI N), .int (nI B), .int (nI D), .ref a1, .ref a2, .ref a3, .ref a4, .ref a5, .ref a6])), (a4, .inl (G 0, 6, .inl g4)), (a5, .inl (G 0, 6, .inl g5)), (a6, .inl (G 0, 6, .inl g6))]) [4, 5, 6, 0, 1, 2, 3] (by decide) rfl
            refine W.widen (k := 0) (n := 0) (by omega) (by omega) ?_
            exact W.zret (v := 0) hx hb hr (by first | rfl | decide | exact rfl) (fun t ht hW => ⟨⟨0, (u26, u27, u28, u29, u30, B, g4, g5, g6), rfl, ⟨hpost, (by have t_n2 := n2; have t_c10 := neI c10; have t_c13 := neI c13; have t_c21 := neI c21; have t_c31 := eqI c31; have : ((-4) : Int32).toInt = -4 := (by decide); have : (0 : Int32).toInt = 0 := (by decide); have t_n0 : (nI F).toInt = (F : Int) := nI_toInt (by omega); have t_n1 : (nI P).toInt = (P : Int) := nI_toInt (by omega); have t_n2 : (nI T).toInt = (T : Int) := nI_toInt (by omega); have t_n3 : (nI N).toInt = (N : Int) := nI_toInt (by omega); have t_n4 : (nI B).toInt = (B : Int) := nI_toInt (by omega); have t_n5 : (nI D).toInt = (D : Int) := nI_toInt (by omega); have z0 : (0 : Int32).toInt = 0 := (by decide); have z1 : (1 : Int32).toInt = 1 := (by decide); have z2 : (2 : Int32).toInt = 2 := (by decide); have z3 : (3 : Int32).toInt = 3 := (by decide); have z5 : (5 : Int32).toInt = 5 := (by decide); have z9 : (9 : Int32).toInt = 9 := (by decide); refine ⟨by omega, by omega, by omega, ?_⟩; unfold cBR; (try rw [vw4]); (try rw [ew4]); (try rw [vw15]); (try rw [ew15]); (try rw [vw25]); (try rw [ew25]); (try (repeat (first | rw [if_pos (by assumption)] | rw [if_neg (by assumption)] | rw [if_pos (by omega)] | rw [if_neg (by omega)] | rw [if_pos (by decide)] | rw [if_neg (by decide)]))); all_goals rfl; skip)⟩, ⟨by rw [ht]; exact hP9, hD9⟩⟩, hS.F ht⟩) hS.2.2 dX5_readBearer_80
        · skip
          refine lv_iconst (v := 0) hx hb dX5_readBearer_62 (by decide) ?_
          have hpost : ((0 : Int32) = 0 ∨ (0 : Int32) = 1) ∧ (0 : Int32) = (cBR f T (x0, x1, x3, F, P) B g4 g5 g6).1 := by
            have t_n2 := n2
            have t_c10 := neI c10
            have t_c13 := neI c13
            have t_c21 := eqI c21
            have : ((-4) : Int32).toInt = -4 := (by decide)
            have : (0 : Int32).toInt = 0 := (by decide)
            have t_n0 : (nI F).toInt = (F : Int) := nI_toInt (by omega)
            have t_n1 : (nI P).toInt = (P : Int) := nI_toInt (by omega)
            have t_n2 : (nI T).toInt = (T : Int) := nI_toInt (by omega)
            have t_n3 : (nI N).toInt = (N : Int) := nI_toInt (by omega)
            have t_n4 : (nI B).toInt = (B : Int) := nI_toInt (by omega)
            have t_n5 : (nI D).toInt = (D : Int) := nI_toInt (by omega)
            have z0 : (0 : Int32).toInt = 0 := (by decide)
            have z1 : (1 : Int32).toInt = 1 := (by decide)
            have z2 : (2 : Int32).toInt = 2 := (by decide)
            have z3 : (3 : Int32).toInt = 3 := (by decide)
            have z5 : (5 : Int32).toInt = 5 := (by decide)
            have z9 : (9 : Int32).toInt = 9 := (by decide)
            refine ⟨Or.inl rfl, ?_⟩
            unfold cBR
            (try rw [vw4])
            (try rw [ew4])
            (try rw [vw15])
            (try rw [ew15])
            (try (repeat (first | rw [if_pos (by assumption)] | rw [if_neg (by assumption)] | rw [if_pos (by omega)] | rw [if_neg (by omega)] | rw [if_pos (by decide)] | rw [if_neg (by decide)])))
            all_goals rfl
          have hP9 := hP.sub (ws' := [(h0, .inr (5, [.ref tp, .ref td, .int u16, .int u17, .int x2, .int u18, .int (nI u19), .int (nI u20), .int x6, .int x7, .int x8, .int x9])), (tp, .inr (7, [.int (nI T), .ref ta])), (ta, .inl (G 0, 320, .inl f)), (td, .inr (9, [.int (nI N), .int (nI B), .int (nI D), .ref a1, .ref a2, .ref a3, .ref a4, .ref a5, .ref a6])), (a4, .inl (G 0, 6, .inl g4)), (a5, .inl (G 0, 6, .inl g5)), (a6, .inl (G 0, 6, .inl g6))]) [4, 5, 6, 0, 1, 2, 3] rfl
          have hD9 := hD.sub (ws' := [(h0, .inr (5, [.ref tp, .ref td, .int u16, .int u17, .int x2, .int u18, .int (nI u19), .int (nI u20), .int x6, .int x7, .int x8, .int x9])), (tp, .inr (7, [.int (nI T), .ref ta])), (ta, .inl (G 0, 320, .inl f)), (td, .inr (9, [.int (nI N), .int (nI B), .int (nI D), .ref a1, .ref a2, .ref a3, .ref a4, .ref a5, .ref a6])), (a4, .inl (G 0, 6, .inl g4)), (a5, .inl (G 0, 6, .inl g5)), (a6, .inl (G 0, 6, .inl g6))]) [4, 5, 6, 0, 1, 2, 3] (by decide) rfl
          refine W.widen (k := 0) (n := 0) (by omega) (by omega) ?_
          exact W.zret (v := 0) hx hb hr (by first | rfl | decide | exact rfl) (fun t ht hW => ⟨⟨0, (u16, u17, u18, u19, u20, B, g4, g5, g6), rfl, ⟨hpost, (by have t_n2 := n2; have t_c10 := neI c10; have t_c13 := neI c13; have t_c21 := eqI c21; have : ((-4) : Int32).toInt = -4 := (by decide); have : (0 : Int32).toInt = 0 := (by decide); have t_n0 : (nI F).toInt = (F : Int) := nI_toInt (by omega); have t_n1 : (nI P).toInt = (P : Int) := nI_toInt (by omega); have t_n2 : (nI T).toInt = (T : Int) := nI_toInt (by omega); have t_n3 : (nI N).toInt = (N : Int) := nI_toInt (by omega); have t_n4 : (nI B).toInt = (B : Int) := nI_toInt (by omega); have t_n5 : (nI D).toInt = (D : Int) := nI_toInt (by omega); have z0 : (0 : Int32).toInt = 0 := (by decide); have z1 : (1 : Int32).toInt = 1 := (by decide); have z2 : (2 : Int32).toInt = 2 := (by decide); have z3 : (3 : Int32).toInt = 3 := (by decide); have z5 : (5 : Int32).toInt = 5 := (by decide); have z9 : (9 : Int32).toInt = 9 := (by decide); refine ⟨by omega, by omega, by omega, ?_⟩; unfold cBR; (try rw [vw4]); (try rw [ew4]); (try rw [vw15]); (try rw [ew15]); (try (repeat (first | rw [if_pos (by assumption)] | rw [if_neg (by assumption)] | rw [if_pos (by omega)] | rw [if_neg (by omega)] | rw [if_pos (by decide)] | rw [if_neg (by decide)]))); all_goals rfl; skip)⟩, ⟨by rw [ht]; exact hP9, hD9⟩⟩, hS.F ht⟩) hS.2.2 dX5_readBearer_63
      · skip
        refine lv_aload_n hx hb dX5_readBearer_42 rfl (lv_at hl 1 rfl) ?_
        refine lv_iconst (v := 2) hx hb dX5_readBearer_43 (by decide) ?_
        refine lv_aload_n hx hb dX5_readBearer_44 rfl (lv_at hl 1 rfl) ?_
        refine va_get (D := (dC, dI)) (ci := 5) (v := .int (nI u8)) (C := RX5) (T := TX5) (N := 12) hx hb hg inG5 hown hK.1 hP 4 rfl rfl 6 (by decide) (hg _ wt_116) (fun _ h9 => h9) rfl dX5_readBearer_45 ?_
        have hPc := hP.sub (ws' := [(h0, .inr (5, [.ref tp, .ref td, .int u5, .int u6, .int x2, .int u7, .int (nI u8), .int (nI u9), .int x6, .int x7, .int x8, .int x9]))]) [4] rfl
        have hDc := hD.sub (ws' := [(h0, .inr (5, [.ref tp, .ref td, .int u5, .int u6, .int x2, .int u7, .int (nI u8), .int (nI u9), .int x6, .int x7, .int x8, .int x9]))]) [4] (by decide) rfl
        have hFc := va_free (wc := [(h0, .inr (5, [.ref tp, .ref td, .int u5, .int u6, .int x2, .int u7, .int (nI u8), .int (nI u9), .int x6, .int x7, .int x8, .int x9]))]) hD hS hA [4] rfl
        refine va_calli (va_runV (As := [.int 2, .int (nI u8)]) (rest := []) ⟨hx, hb, hml, hown, hg⟩ (c_X5_refuseE l dC dI G _ h0 tp td u5 u6 x2 u7 (nI u8) (nI u9) x6 x7 x8 x9 2 (nI u8) ) (kwV hg mfX5_refuse wt_386 ⟨Nat.le_of_ble_eq_true rfl, Nat.le_of_ble_eq_true rfl⟩) (preVW hK hPc hDc (ci := 5) rfl rfl) rfl rfl hl.1 rfl (lv_room (Nat.le_of_ble_eq_true rfl)) dX5_readBearer_48 ⟨Nat.le_of_ble_eq_true rfl, Nat.le_of_ble_eq_true rfl⟩) hS (fun q _ h => hFc q h) hFc (fun r47 ur47 t H1 locs ht hvm w48 hB hz1 hk1 hS => ?_)
        obtain ⟨u49, u50⟩ := ur47
        obtain ⟨hP1, hD1⟩ := hB
        rw [ht] at hP1
        obtain ⟨hP, hD⟩ := va_join (wr := [(td, .inr (9, [.int (nI N), .int (nI B), .int (nI D), .ref a1, .ref a2, .ref a3, .ref a4, .ref a5, .ref a6])), (a4, .inl (G 0, 6, .inl g4)), (a5, .inl (G 0, 6, .inl g5)), (a6, .inl (G 0, 6, .inl g6)), (tp, .inr (7, [.int (nI T), .ref ta])), (ta, .inl (G 0, 320, .inl f))]) (w1 := [(h0, .inr (5, [.ref tp, .ref td, .int u49, .int u50, .int x2, .int u7, .int (nI u8), .int (nI u9), .int x6, .int x7, .int x8, .int x9]))]) hP hD [4] [0, 1, 2, 3, 5, 6] rfl rfl (by decide) (by decide) hk1 hFc hP1 hD1
        generalize H1 = H at hP hS ⊢
        have hP : va_P (dC, dI) vwCl [(td, .inr (9, [.int (nI N), .int (nI B), .int (nI D), .ref a1, .ref a2, .ref a3, .ref a4, .ref a5, .ref a6])), (a4, .inl (G 0, 6, .inl g4)), (a5, .inl (G 0, 6, .inl g5)), (a6, .inl (G 0, 6, .inl g6)), (tp, .inr (7, [.int (nI T), .ref ta])), (ta, .inl (G 0, 320, .inl f)), (h0, .inr (5, [.ref tp, .ref td, .int u49, .int u50, .int x2, .int u7, .int (nI u8), .int (nI u9), .int x6, .int x7, .int x8, .int x9]))] H := hP
        have hD : va_D A [(td, .inr (9, [.int (nI N), .int (nI B), .int (nI D), .ref a1, .ref a2, .ref a3, .ref a4, .ref a5, .ref a6])), (a4, .inl (G 0, 6, .inl g4)), (a5, .inl (G 0, 6, .inl g5)), (a6, .inl (G 0, 6, .inl g6)), (tp, .inr (7, [.int (nI T), .ref ta])), (ta, .inl (G 0, 320, .inl f)), (h0, .inr (5, [.ref tp, .ref td, .int u49, .int u50, .int x2, .int u7, .int (nI u8), .int (nI u9), .int x6, .int x7, .int x8, .int x9]))] := hD
        obtain ⟨w48, w48x⟩ := w48
        subst w48
        have ew48 : cRF 2 (u5, u6, u7, u8, u9) = (u49, u50, u7, u8, u9) := (by show (flB _ _, flP _ _ _, _, _, _) = _; rw [← w48x.1, ← w48x.2])
        have hpost : ((0 : Int32) = 0 ∨ (0 : Int32) = 1) ∧ (0 : Int32) = (cBR f T (x0, x1, x3, F, P) B g4 g5 g6).1 := by
          have t_n2 := n2
          have t_c10 := neI c10
          have t_c13 := eqI c13
          have : ((-4) : Int32).toInt = -4 := (by decide)
          have : (0 : Int32).toInt = 0 := (by decide)
          have t_n0 : (nI F).toInt = (F : Int) := nI_toInt (by omega)
          have t_n1 : (nI P).toInt = (P : Int) := nI_toInt (by omega)
          have t_n2 : (nI T).toInt = (T : Int) := nI_toInt (by omega)
          have t_n3 : (nI N).toInt = (N : Int) := nI_toInt (by omega)
          have t_n4 : (nI B).toInt = (B : Int) := nI_toInt (by omega)
          have t_n5 : (nI D).toInt = (D : Int) := nI_toInt (by omega)
          have z0 : (0 : Int32).toInt = 0 := (by decide)
          have z1 : (1 : Int32).toInt = 1 := (by decide)
          have z2 : (2 : Int32).toInt = 2 := (by decide)
          have z3 : (3 : Int32).toInt = 3 := (by decide)
          have z5 : (5 : Int32).toInt = 5 := (by decide)
          have z9 : (9 : Int32).toInt = 9 := (by decide)
          refine ⟨Or.inl rfl, ?_⟩
          unfold cBR
          (try rw [vw4])
          (try rw [ew4])
          (try rw [ew48])
          (try (repeat (first | rw [if_pos (by assumption)] | rw [if_neg (by assumption)] | rw [if_pos (by omega)] | rw [if_neg (by omega)] | rw [if_pos (by decide)] | rw [if_neg (by decide)])))
          all_goals rfl
        have hP9 := hP.sub (ws' := [(h0, .inr (5, [.ref tp, .ref td, .int u49, .int u50, .int x2, .int u7, .int (nI u8), .int (nI u9), .int x6, .int x7, .int x8, .int x9])), (tp, .inr (7, [.int (nI T), .ref ta])), (ta, .inl (G 0, 320, .inl f)), (td, .inr (9, [.int (nI N), .int (nI B), .int (nI D), .ref a1, .ref a2, .ref a3, .ref a4, .ref a5, .ref a6])), (a4, .inl (G 0, 6, .inl g4)), (a5, .inl (G 0, 6, .inl g5)), (a6, .inl (G 0, 6, .inl g6))]) [6, 4, 5, 0, 1, 2, 3] rfl
        have hD9 := hD.sub (ws' := [(h0, .inr (5, [.ref tp, .ref td, .int u49, .int u50, .int x2, .int u7, .int (nI u8), .int (nI u9), .int x6, .int x7, .int x8, .int x9])), (tp, .inr (7, [.int (nI T), .ref ta])), (ta, .inl (G 0, 320, .inl f)), (td, .inr (9, [.int (nI N), .int (nI B), .int (nI D), .ref a1, .ref a2, .ref a3, .ref a4, .ref a5, .ref a6])), (a4, .inl (G 0, 6, .inl g4)), (a5, .inl (G 0, 6, .inl g5)), (a6, .inl (G 0, 6, .inl g6))]) [6, 4, 5, 0, 1, 2, 3] (by decide) rfl
        refine W.widen (k := 0) (n := 0) (by omega) (by omega) ?_
        exact W.zret (v := 0) hx hb hr (by first | rfl | decide | exact rfl) (fun t ht hW => ⟨⟨0, (u49, u50, u7, u8, u9, B, g4, g5, g6), rfl, ⟨hpost, (by have t_n2 := n2; have t_c10 := neI c10; have t_c13 := eqI c13; have : ((-4) : Int32).toInt = -4 := (by decide); have : (0 : Int32).toInt = 0 := (by decide); have t_n0 : (nI F).toInt = (F : Int) := nI_toInt (by omega); have t_n1 : (nI P).toInt = (P : Int) := nI_toInt (by omega); have t_n2 : (nI T).toInt = (T : Int) := nI_toInt (by omega); have t_n3 : (nI N).toInt = (N : Int) := nI_toInt (by omega); have t_n4 : (nI B).toInt = (B : Int) := nI_toInt (by omega); have t_n5 : (nI D).toInt = (D : Int) := nI_toInt (by omega); have z0 : (0 : Int32).toInt = 0 := (by decide); have z1 : (1 : Int32).toInt = 1 := (by decide); have z2 : (2 : Int32).toInt = 2 := (by decide); have z3 : (3 : Int32).toInt = 3 := (by decide); have z5 : (5 : Int32).toInt = 5 := (by decide); have z9 : (9 : Int32).toInt = 9 := (by decide); refine ⟨by omega, by omega, by omega, ?_⟩; unfold cBR; (try rw [vw4]); (try rw [ew4]); (try rw [ew48]); (try (repeat (first | rw [if_pos (by assumption)] | rw [if_neg (by assumption)] | rw [if_pos (by omega)] | rw [if_neg (by omega)] | rw [if_pos (by decide)] | rw [if_neg (by decide)]))); all_goals rfl; skip)⟩, ⟨by rw [ht]; exact hP9, hD9⟩⟩, hS.F ht⟩) hS.2.2 dX5_readBearer_51
    · skip
      refine lv_iconst (v := 0) hx hb dX5_readBearer_29 (by decide) ?_
      have hpost : ((0 : Int32) = 0 ∨ (0 : Int32) = 1) ∧ (0 : Int32) = (cBR f T (x0, x1, x3, F, P) B g4 g5 g6).1 := by
        have t_n2 := n2
        have t_c10 := eqI c10
        have : (0 : Int32).toInt = 0 := (by decide)
        have t_n0 : (nI F).toInt = (F : Int) := nI_toInt (by omega)
        have t_n1 : (nI P).toInt = (P : Int) := nI_toInt (by omega)
        have t_n2 : (nI T).toInt = (T : Int) := nI_toInt (by omega)
        have t_n3 : (nI N).toInt = (N : Int) := nI_toInt (by omega)
        have t_n4 : (nI B).toInt = (B : Int) := nI_toInt (by omega)
        have t_n5 : (nI D).toInt = (D : Int) := nI_toInt (by omega)
        have z0 : (0 : Int32).toInt = 0 := (by decide)
        have z1 : (1 : Int32).toInt = 1 := (by decide)
        have z2 : (2 : Int32).toInt = 2 := (by decide)
        have z3 : (3 : Int32).toInt = 3 := (by decide)
        have z5 : (5 : Int32).toInt = 5 := (by decide)
        have z9 : (9 : Int32).toInt = 9 := (by decide)
        refine ⟨Or.inl rfl, ?_⟩
        unfold cBR
        (try rw [vw4])
        (try rw [ew4])
        (try (repeat (first | rw [if_pos (by assumption)] | rw [if_neg (by assumption)] | rw [if_pos (by omega)] | rw [if_neg (by omega)] | rw [if_pos (by decide)] | rw [if_neg (by decide)])))
        all_goals rfl
      have hP9 := hP.sub (ws' := [(h0, .inr (5, [.ref tp, .ref td, .int u5, .int u6, .int x2, .int u7, .int (nI u8), .int (nI u9), .int x6, .int x7, .int x8, .int x9])), (tp, .inr (7, [.int (nI T), .ref ta])), (ta, .inl (G 0, 320, .inl f)), (td, .inr (9, [.int (nI N), .int (nI B), .int (nI D), .ref a1, .ref a2, .ref a3, .ref a4, .ref a5, .ref a6])), (a4, .inl (G 0, 6, .inl g4)), (a5, .inl (G 0, 6, .inl g5)), (a6, .inl (G 0, 6, .inl g6))]) [4, 5, 6, 0, 1, 2, 3] rfl
      have hD9 := hD.sub (ws' := [(h0, .inr (5, [.ref tp, .ref td, .int u5, .int u6, .int x2, .int u7, .int (nI u8), .int (nI u9), .int x6, .int x7, .int x8, .int x9])), (tp, .inr (7, [.int (nI T), .ref ta])), (ta, .inl (G 0, 320, .inl f)), (td, .inr (9, [.int (nI N), .int (nI B), .int (nI D), .ref a1, .ref a2, .ref a3, .ref a4, .ref a5, .ref a6])), (a4, .inl (G 0, 6, .inl g4)), (a5, .inl (G 0, 6, .inl g5)), (a6, .inl (G 0, 6, .inl g6))]) [4, 5, 6, 0, 1, 2, 3] (by decide) rfl
      refine W.widen (k := 0) (n := 0) (by omega) (by omega) ?_
      exact W.zret (v := 0) hx hb hr (by first | rfl | decide | exact rfl) (fun t ht hW => ⟨⟨0, (u5, u6, u7, u8, u9, B, g4, g5, g6), rfl, ⟨hpost, (by have t_n2 := n2; have t_c10 := eqI c10; have : (0 : Int32).toInt = 0 := (by decide); have t_n0 : (nI F).toInt = (F : Int) := nI_toInt (by omega); have t_n1 : (nI P).toInt = (P : Int) := nI_toInt (by omega); have t_n2 : (nI T).toInt = (T : Int) := nI_toInt (by omega); have t_n3 : (nI N).toInt = (N : Int) := nI_toInt (by omega); have t_n4 : (nI B).toInt = (B : Int) := nI_toInt (by omega); have t_n5 : (nI D).toInt = (D : Int) := nI_toInt (by omega); have z0 : (0 : Int32).toInt = 0 := (by decide); have z1 : (1 : Int32).toInt = 1 := (by decide); have z2 : (2 : Int32).toInt = 2 := (by decide); have z3 : (3 : Int32).toInt = 3 := (by decide); have z5 : (5 : Int32).toInt = 5 := (by decide); have z9 : (9 : Int32).toInt = 9 := (by decide); refine ⟨by omega, by omega, by omega, ?_⟩; unfold cBR; (try rw [vw4]); (try rw [ew4]); (try (repeat (first | rw [if_pos (by assumption)] | rw [if_neg (by assumption)] | rw [if_pos (by omega)] | rw [if_neg (by omega)] | rw [if_pos (by decide)] | rw [if_neg (by decide)]))); all_goals rfl; skip)⟩, ⟨by rw [ht]; exact hP9, hD9⟩⟩, hS.F ht⟩) hS.2.2 dX5_readBearer_30
  · skip
    have n51 : 6 ≤ B := by have t := nltI c1; rw [nI_toInt (n := B) (by omega)] at t; have : (6 : Int32).toInt = 6 := (by decide); omega
    refine lv_aload_n hx hb dX5_readBearer_12 rfl (lv_at hl 0 rfl) ?_
    refine lv_iconst (v := 5) hx hb dX5_readBearer_13 (by decide) ?_
    refine lv_aload_n hx hb dX5_readBearer_14 rfl (lv_at hl 0 rfl) ?_
    refine va_get (D := (dC, dI)) (ci := 5) (v := .int (nI F)) (C := RX5) (T := TX5) (N := 12) hx hb hg inG5 hown hK.1 hP 0 rfl rfl 6 (by decide) (hg _ wt_116) (fun _ h9 => h9) rfl dX5_readBearer_15 ?_
    have hPc := hP.sub (ws' := [(h0, .inr (5, [.ref tp, .ref td, .int x0, .int x1, .int x2, .int x3, .int (nI F), .int (nI P), .int x6, .int x7, .int x8, .int x9]))]) [0] rfl
    have hDc := hD.sub (ws' := [(h0, .inr (5, [.ref tp, .ref td, .int x0, .int x1, .int x2, .int x3, .int (nI F), .int (nI P), .int x6, .int x7, .int x8, .int x9]))]) [0] (by decide) rfl
    have hFc := va_free (wc := [(h0, .inr (5, [.ref tp, .ref td, .int x0, .int x1, .int x2, .int x3, .int (nI F), .int (nI P), .int x6, .int x7, .int x8, .int x9]))]) hD hS hA [0] rfl
    refine va_calli (va_runV (As := [.int 5, .int (nI F)]) (rest := []) ⟨hx, hb, hml, hown, hg⟩ (c_X5_refuseE l dC dI G _ h0 tp td x0 x1 x2 x3 (nI F) (nI P) x6 x7 x8 x9 5 (nI F) ) (kwV hg mfX5_refuse wt_386 ⟨Nat.le_of_ble_eq_true rfl, Nat.le_of_ble_eq_true rfl⟩) (preVW hK hPc hDc (ci := 5) rfl rfl) rfl rfl hl.1 rfl (lv_room (Nat.le_of_ble_eq_true rfl)) dX5_readBearer_18 ⟨Nat.le_of_ble_eq_true rfl, Nat.le_of_ble_eq_true rfl⟩) hS (fun q _ h => hFc q h) hFc (fun r52 ur52 t H1 locs ht hvm w53 hB hz1 hk1 hS => ?_)
    obtain ⟨u54, u55⟩ := ur52
    obtain ⟨hP1, hD1⟩ := hB
    rw [ht] at hP1
    obtain ⟨hP, hD⟩ := va_join (wr := [(tp, .inr (7, [.int (nI T), .ref ta])), (ta, .inl (G 0, 320, .inl f)), (td, .inr (9, [.int (nI N), .int (nI B), .int (nI D), .ref a1, .ref a2, .ref a3, .ref a4, .ref a5, .ref a6])), (a4, .inl (G 0, 6, .inl g4)), (a5, .inl (G 0, 6, .inl g5)), (a6, .inl (G 0, 6, .inl g6))]) (w1 := [(h0, .inr (5, [.ref tp, .ref td, .int u54, .int u55, .int x2, .int x3, .int (nI F), .int (nI P), .int x6, .int x7, .int x8, .int x9]))]) hP hD [0] [1, 2, 3, 4, 5, 6] rfl rfl (by decide) (by decide) hk1 hFc hP1 hD1
    generalize H1 = H at hP hS ⊢
    have hP : va_P (dC, dI) vwCl [(tp, .inr (7, [.int (nI T), .ref ta])), (ta, .inl (G 0, 320, .inl f)), (td, .inr (9, [.int (nI N), .int (nI B), .int (nI D), .ref a1, .ref a2, .ref a3, .ref a4, .ref a5, .ref a6])), (a4, .inl (G 0, 6, .inl g4)), (a5, .inl (G 0, 6, .inl g5)), (a6, .inl (G 0, 6, .inl g6)), (h0, .inr (5, [.ref tp, .ref td, .int u54, .int u55, .int x2, .int x3, .int (nI F), .int (nI P), .int x6, .int x7, .int x8, .int x9]))] H := hP
    have hD : va_D A [(tp, .inr (7, [.int (nI T), .ref ta])), (ta, .inl (G 0, 320, .inl f)), (td, .inr (9, [.int (nI N), .int (nI B), .int (nI D), .ref a1, .ref a2, .ref a3, .ref a4, .ref a5, .ref a6])), (a4, .inl (G 0, 6, .inl g4)), (a5, .inl (G 0, 6, .inl g5)), (a6, .inl (G 0, 6, .inl g6)), (h0, .inr (5, [.ref tp, .ref td, .int u54, .int u55, .int x2, .int x3, .int (nI F), .int (nI P), .int x6, .int x7, .int x8, .int x9]))] := hD
    obtain ⟨w53, w53x⟩ := w53
    subst w53
    have ew53 : cRF 5 (x0, x1, x3, F, P) = (u54, u55, x3, F, P) := (by show (flB _ _, flP _ _ _, _, _, _) = _; rw [← w53x.1, ← w53x.2])
    have hpost : ((0 : Int32) = 0 ∨ (0 : Int32) = 1) ∧ (0 : Int32) = (cBR f T (x0, x1, x3, F, P) B g4 g5 g6).1 := by
      have t_n51 := n51
      have t_n0 : (nI F).toInt = (F : Int) := nI_toInt (by omega)
      have t_n1 : (nI P).toInt = (P : Int) := nI_toInt (by omega)
      have t_n2 : (nI T).toInt = (T : Int) := nI_toInt (by omega)
      have t_n3 : (nI N).toInt = (N : Int) := nI_toInt (by omega)
      have t_n4 : (nI B).toInt = (B : Int) := nI_toInt (by omega)
      have t_n5 : (nI D).toInt = (D : Int) := nI_toInt (by omega)
      have z0 : (0 : Int32).toInt = 0 := (by decide)
      have z1 : (1 : Int32).toInt = 1 := (by decide)
      have z2 : (2 : Int32).toInt = 2 := (by decide)
      have z3 : (3 : Int32).toInt = 3 := (by decide)
      have z5 : (5 : Int32).toInt = 5 := (by decide)
      have z9 : (9 : Int32).toInt = 9 := (by decide)
      refine ⟨Or.inl rfl, ?_⟩
      unfold cBR
      (try rw [ew53])
      (try (repeat (first | rw [if_pos (by assumption)] | rw [if_neg (by assumption)] | rw [if_pos (by omega)] | rw [if_neg (by omega)] | rw [if_pos (by decide)] | rw [if_neg (by decide)])))
      all_goals rfl
    have hP9 := hP.sub (ws' := [(h0, .inr (5, [.ref tp, .ref td, .int u54, .int u55, .int x2, .int x3, .int (nI F), .int (nI P), .int x6, .int x7, .int x8, .int x9])), (tp, .inr (7, [.int (nI T), .ref ta])), (ta, .inl (G 0, 320, .inl f)), (td, .inr (9, [.int (nI N), .int (nI B), .int (nI D), .ref a1, .ref a2, .ref a3, .ref a4, .ref a5, .ref a6])), (a4, .inl (G 0, 6, .inl g4)), (a5, .inl (G 0, 6, .inl g5)), (a6, .inl (G 0, 6, .inl g6))]) [6, 0, 1, 2, 3, 4, 5] rfl
    have hD9 := hD.sub (ws' := [(h0, .inr (5, [.ref tp, .ref td, .int u54, .int u55, .int x2, .int x3, .int (nI F), .int (nI P), .int x6, .int x7, .int x8, .int x9])), (tp, .inr (7, [.int (nI T), .ref ta])), (ta, .inl (G 0, 320, .inl f)), (td, .inr (9, [.int (nI N), .int (nI B), .int (nI D), .ref a1, .ref a2, .ref a3, .ref a4, .ref a5, .ref a6])), (a4, .inl (G 0, 6, .inl g4)), (a5, .inl (G 0, 6, .inl g5)), (a6, .inl (G 0, 6, .inl g6))]) [6, 0, 1, 2, 3, 4, 5] (by decide) rfl
    refine W.widen (k := 0) (n := 0) (by omega) (by omega) ?_
    exact W.zret (v := 0) hx hb hr (by first | rfl | decide | exact rfl) (fun t ht hW => ⟨⟨0, (u54, u55, x3, F, P, B, g4, g5, g6), rfl, ⟨hpost, (by have t_n51 := n51; have t_n0 : (nI F).toInt = (F : Int) := nI_toInt (by omega); have t_n1 : (nI P).toInt = (P : Int) := nI_toInt (by omega); have t_n2 : (nI T).toInt = (T : Int) := nI_toInt (by omega); have t_n3 : (nI N).toInt = (N : Int) := nI_toInt (by omega); have t_n4 : (nI B).toInt = (B : Int) := nI_toInt (by omega); have t_n5 : (nI D).toInt = (D : Int) := nI_toInt (by omega); have z0 : (0 : Int32).toInt = 0 := (by decide); have z1 : (1 : Int32).toInt = 1 := (by decide); have z2 : (2 : Int32).toInt = 2 := (by decide); have z3 : (3 : Int32).toInt = 3 := (by decide); have z5 : (5 : Int32).toInt = 5 := (by decide); have z9 : (9 : Int32).toInt = 9 := (by decide); refine ⟨by omega, by omega, by omega, ?_⟩; unfold cBR; (try rw [ew53]); (try (repeat (first | rw [if_pos (by assumption)] | rw [if_neg (by assumption)] | rw [if_pos (by omega)] | rw [if_neg (by omega)] | rw [if_pos (by decide)] | rw [if_neg (by decide)]))); all_goals rfl; skip)⟩, ⟨by rw [ht]; exact hP9, hD9⟩⟩, hS.F ht⟩) hS.2.2 dX5_readBearer_21

set_option maxHeartbeats 1000000 in
set_option maxRecDepth 100000 in
theorem c_X5_readCarryE (l : Launch) (dC : Nat → ClassId) (dI : Nat → Nat → Nat) (G : Nat → ClassId) (sz : Nat) (h0 tp td ta T F P a1 a2 a3 a4 a5 a6 N B D : Nat) (x0 x1 x2 x3 x6 x7 x8 x9 : Int32) (f g3 : Nat → Int32) (hF : F ≤ P) (hP0 : P ≤ T) (hT : T ≤ 320) (hN_N : N ≤ 10) (hB_B : B ≤ 6) (hD_D : 1 ≤ D ∧ D ≤ 9) : Met l yX5_readCarry (Cond.code yX5_readCarry cX5_readCarry 3 (some .boolean) :: GT) ({ frames := 3, cells := 0, slots := 0, locals := 68 } : Room) (PcW [.ref h0] dC dI G [(h0, .inr (5, [.ref tp, .ref td, .int x0, .int x1, .int x2, .int x3, .int (nI F), .int (nI P), .int x6, .int x7, .int x8, .int x9])), (tp, .inr (7, [.int (nI T), .ref ta])), (ta, .inl (G 0, 320, .inl f)), (td, .inr (9, [.int (nI N), .int (nI B), .int (nI D), .ref a1, .ref a2, .ref a3, .ref a4, .ref a5, .ref a6])), (a3, .inl (G 0, 10, .inl g3))] sz) (va_Qi (fun (r : Int32) (u : Int32 × Int32 × Int32 × Nat × Nat × Int32 × Int32 × Int32 × (Nat → Int32)) => match u with | (u0, u1, u3, u4, u5, u7, u8, u9, v1) => ((r = 0 ∨ r = 1) ∧ r = (cCR f T (x0, x1, x3, F, P) x7 x8 x9 g3).1) ∧ u4 ≤ u5 ∧ u5 ≤ T ∧ ((u0, u1, u3, u4, u5), u7, u8, u9, v1) = (cCR f T (x0, x1, x3, F, P) x7 x8 x9 g3).2) (fun (u : Int32 × Int32 × Int32 × Nat × Nat × Int32 × Int32 × Int32 × (Nat → Int32)) (t : State) => match u with | (u0, u1, u3, u4, u5, u7, u8, u9, v1) => va_P (dC, dI) vwCl [(h0, .inr (5, [.ref tp, .ref td, .int u0, .int u1, .int x2, .int u3, .int (nI u4), .int (nI u5), .int x6, .int u7, .int u8, .int u9])), (tp, .inr (7, [.int (nI T), .ref ta])), (ta, .inl (G 0, 320, .inl f)), (td, .inr (9, [.int (nI N), .int (nI B), .int (nI D), .ref a1, .ref a2, .ref a3, .ref a4, .ref a5, .ref a6])), (a3, .inl (G 0, 10, .inl v1))] t.heap ∧ va_D (va_A [(h0, .inr (5, [.ref tp, .ref td, .int x0, .int x1, .int x2, .int x3, .int (nI F), .int (nI P), .int x6, .int x7, .int x8, .int x9])), (tp, .inr (7, [.int (nI T), .ref ta])), (ta, .inl (G 0, 320, .inl f)), (td, .inr (9, [.int (nI N), .int (nI B), .int (nI D), .ref a1, .ref a2, .ref a3, .ref a4, .ref a5, .ref a6])), (a3, .inl (G 0, 10, .inl g3))] sz) [(h0, .inr (5, [.ref tp, .ref td, .int u0, .int u1, .int x2, .int u3, .int (nI u4), .int (nI u5), .int x6, .int u7, .int u8, .int u9])), (tp, .inr (7, [.int (nI T), .ref ta])), (ta, .inl (G 0, 320, .inl f)), (td, .inr (9, [.int (nI N), .int (nI B), .int (nI D), .ref a1, .ref a2, .ref a3, .ref a4, .ref a5, .ref a6])), (a3, .inl (G 0, 10, .inl v1))]) (va_A [(h0, .inr (5, [.ref tp, .ref td, .int x0, .int x1, .int x2, .int x3, .int (nI F), .int (nI P), .int x6, .int x7, .int x8, .int x9])), (tp, .inr (7, [.int (nI T), .ref ta])), (ta, .inl (G 0, 320, .inl f)), (td, .inr (9, [.int (nI N), .int (nI B), .int (nI D), .ref a1, .ref a2, .ref a3, .ref a4, .ref a5, .ref a6])), (a3, .inl (G 0, 10, .inl g3))] sz)) 0 0 (va_A [(h0, .inr (5, [.ref tp, .ref td, .int x0, .int x1, .int x2, .int x3, .int (nI F), .int (nI P), .int x6, .int x7, .int x8, .int x9])), (tp, .inr (7, [.int (nI T), .ref ta])), (ta, .inl (G 0, 320, .inl f)), (td, .inr (9, [.int (nI N), .int (nI B), .int (nI D), .ref a1, .ref a2, .ref a3, .ref a4, .ref a5, .ref a6])), (a3, .inl (G 0, 10, .inl g3))] sz) := by
  refine Met.ofW (cc := cX5_readCarry) (maxL := 3) (ret := (some .boolean)) (by decide) rfl ?_
  intro p e s m args below meth c s₁ Bd hml hv
  obtain ⟨rfl, hsz, hP, hK, hD0⟩ := hv
  have hx := Bd.exec
  have hb := Bd.bytes
  have hr := Bd.returns
  have hg : ∀ w ∈ GT, w.before ([.ref h0] : List Value).toArray s = true := fun w h => atoms_spec (ws := Cond.code yX5_readCarry cX5_readCarry 3 (some .boolean) :: GT) Bd.pre w (List.mem_cons_of_mem _ h)
  have hown : s.vm.findClass RX5 = some m.cls := findClass_of_methodNamed Bd.named
  have hlocks := Bd.notSynchronized
  subst hsz
  have hD := hD0.self (sz := s.heap.size)
  generalize hAe : va_A [(h0, .inr (5, [.ref tp, .ref td, .int x0, .int x1, .int x2, .int x3, .int (nI F), .int (nI P), .int x6, .int x7, .int x8, .int x9])), (tp, .inr (7, [.int (nI T), .ref ta])), (ta, .inl (G 0, 320, .inl f)), (td, .inr (9, [.int (nI N), .int (nI B), .int (nI D), .ref a1, .ref a2, .ref a3, .ref a4, .ref a5, .ref a6])), (a3, .inl (G 0, 10, .inl g3))] s.heap.size = A at hD ⊢
  have hA : ∀ q : Nat, s.heap.size ≤ q → A q := fun q h => by rw [← hAe]; exact Or.inr h
  have hS : va_S A s.heap s.heap [] := va_S.rf
  have hl := lv_entry ([.ref h0]) (n := 3) (Nat.le_of_ble_eq_true rfl)
  rw [lg_entry_eq]
  generalize (lg_sl ([.ref h0]) ++ List.replicate (3 - (lg_sl ([.ref h0])).length) Slot.unset).toArray = ls at hl ⊢
  have hl : lv_has ls 3 [(0, .ref h0)] := hl
  refine lv_aload_n hx hb dX5_readCarry_0 rfl (lv_at hl 0 rfl) ?_
  refine lv_iconst (v := 0) hx hb dX5_readCarry_1 (by decide) ?_
  refine lv_bipush (v := 9) hx hb dX5_readCarry_2 (by decide) ?_
  have hPc := hP.sub (ws' := [(h0, .inr (5, [.ref tp, .ref td, .int x0, .int x1, .int x2, .int x3, .int (nI F), .int (nI P), .int x6, .int x7, .int x8, .int x9])), (tp, .inr (7, [.int (nI T), .ref ta])), (ta, .inl (G 0, 320, .inl f))]) [0, 1, 2] rfl
  have hDc := hD.sub (ws' := [(h0, .inr (5, [.ref tp, .ref td, .int x0, .int x1, .int x2, .int x3, .int (nI F), .int (nI P), .int x6, .int x7, .int x8, .int x9])), (tp, .inr (7, [.int (nI T), .ref ta])), (ta, .inl (G 0, 320, .inl f))]) [0, 1, 2] (by decide) rfl
  have hFc := va_free (wc := [(h0, .inr (5, [.ref tp, .ref td, .int x0, .int x1, .int x2, .int x3, .int (nI F), .int (nI P), .int x6, .int x7, .int x8, .int x9])), (tp, .inr (7, [.int (nI T), .ref ta])), (ta, .inl (G 0, 320, .inl f))]) hD hS hA [0, 1, 2] rfl
  refine va_calli (va_runV (As := [.int 0, .int 9]) (rest := []) ⟨hx, hb, hml, hown, hg⟩ (c_X5_nextNumberE l dC dI G _ h0 tp td ta T P x0 x1 x2 x3 x6 x7 x8 x9 (nI F) 0 9 f (by have t_n0 : (nI F).toInt = (F : Int) := nI_toInt (by omega); have t_n1 : (nI P).toInt = (P : Int) := nI_toInt (by omega); have t_n2 : (nI T).toInt = (T : Int) := nI_toInt (by omega); have t_n3 : (nI N).toInt = (N : Int) := nI_toInt (by omega); have t_n4 : (nI B).toInt = (B : Int) := nI_toInt (by omega); have t_n5 : (nI D).toInt = (D : Int) := nI_toInt (by omega); have : (0 : Int32).toInt = 0 := (by decide); have : (9 : Int32).toInt = 9 := (by decide); omega) (by have t_n0 : (nI F).toInt = (F : Int) := nI_toInt (by omega); have t_n1 : (nI P).toInt = (P : Int) := nI_toInt (by omega); have t_n2 : (nI T).toInt = (T : Int) := nI_toInt (by omega); have t_n3 : (nI N).toInt = (N : Int) := nI_toInt (by omega); have t_n4 : (nI B).toInt = (B : Int) := nI_toInt (by omega); have t_n5 : (nI D).toInt = (D : Int) := nI_toInt (by omega); have : (0 : Int32).toInt = 0 := (by decide); have : (9 : Int32).toInt = 9 := (by decide); omega)) (kwV hg mfX5_nextNumber wt_455 ⟨Nat.le_of_ble_eq_true rfl, Nat.le_of_ble_eq_true rfl⟩) (preVW hK hPc hDc (ci := 5) rfl rfl) rfl rfl hl.1 rfl (lv_room (Nat.le_of_ble_eq_true rfl)) dX5_readCarry_4 ⟨Nat.le_of_ble_eq_true rfl, Nat.le_of_ble_eq_true rfl⟩) hS (fun q _ h => hFc q h) hFc (fun r1 ur1 t H1 locs ht hvm w2 hB hz1 hk1 hS => ?_)
  obtain ⟨u3, u4, u5, u6, u7⟩ := ur1
  obtain ⟨hP1, hD1⟩ := hB
  rw [ht] at hP1
  obtain ⟨hP, hD⟩ := va_join (wr := [(td, .inr (9, [.int (nI N), .int (nI B), .int (nI D), .ref a1, .ref a2, .ref a3, .ref a4, .ref a5, .ref a6])), (a3, .inl (G 0, 10, .inl g3))]) (w1 := [(h0, .inr (5, [.ref tp, .ref td, .int u3, .int u4, .int x2, .int u5, .int (nI u6), .int (nI u7), .int x6, .int x7, .int x8, .int x9])), (tp, .inr (7, [.int (nI T), .ref ta])), (ta, .inl (G 0, 320, .inl f))]) hP hD [0, 1, 2] [3, 4] rfl rfl (by decide) (by decide) hk1 hFc hP1 hD1
  generalize H1 = H at hP hS ⊢
  have hP : va_P (dC, dI) vwCl [(td, .inr (9, [.int (nI N), .int (nI B), .int (nI D), .ref a1, .ref a2, .ref a3, .ref a4, .ref a5, .ref a6])), (a3, .inl (G 0, 10, .inl g3)), (h0, .inr (5, [.ref tp, .ref td, .int u3, .int u4, .int x2, .int u5, .int (nI u6), .int (nI u7), .int x6, .int x7, .int x8, .int x9])), (tp, .inr (7, [.int (nI T), .ref ta])), (ta, .inl (G 0, 320, .inl f))] H := hP
  have hD : va_D A [(td, .inr (9, [.int (nI N), .int (nI B), .int (nI D), .ref a1, .ref a2, .ref a3, .ref a4, .ref a5, .ref a6])), (a3, .inl (G 0, 10, .inl g3)), (h0, .inr (5, [.ref tp, .ref td, .int u3, .int u4, .int x2, .int u5, .int (nI u6), .int (nI u7), .int x6, .int x7, .int x8, .int x9])), (tp, .inr (7, [.int (nI T), .ref ta])), (ta, .inl (G 0, 320, .inl f))] := hD
  obtain ⟨w2, w2x⟩ := w2
  have vw2 : (tNN f T 0 9 (x0, x1, x3, F, P)).1 = r1 := w2.2.symm
  have ew2 : (tNN f T 0 9 (x0, x1, x3, F, P)).2 = (u3, u4, u5, u6, u7) := w2x.2.2.symm
  have bw2 : ¬ r1 = 0 → (0 : Int32).toInt ≤ (valN f T u6 (u7 - u6)).toInt ∧ (valN f T u6 (u7 - u6)).toInt ≤ (9 : Int32).toInt := (fun n9 => by rcases w2.1 with h9 | h9; exact absurd h9 n9; exact h9.2)
  refine lv_if_ne (tgt := 12) hx hb dX5_readCarry_7 (by decide) (fun c8 => ?_) (fun c8 => ?_)
  · skip
    refine lv_aload_n hx hb dX5_readCarry_12 rfl (lv_at hl 0 rfl) ?_
    have hPc := hP.sub (ws' := [(h0, .inr (5, [.ref tp, .ref td, .int u3, .int u4, .int x2, .int u5, .int (nI u6), .int (nI u7), .int x6, .int x7, .int x8, .int x9])), (tp, .inr (7, [.int (nI T), .ref ta])), (ta, .inl (G 0, 320, .inl f))]) [2, 3, 4] rfl
    refine va_calli (va_runV (As := []) (rest := []) ⟨hx, hb, hml, hown, hg⟩ (c_X5_value l dC dI G _ h0 tp td ta T u6 u7 u3 u4 x2 u5 x6 x7 x8 x9 f (by have t_c8 := neI c8; have : (0 : Int32).toInt = 0 := (by decide); have t_n0 : (nI F).toInt = (F : Int) := nI_toInt (by omega); have t_n1 : (nI P).toInt = (P : Int) := nI_toInt (by omega); have t_n2 : (nI T).toInt = (T : Int) := nI_toInt (by omega); have t_n3 : (nI N).toInt = (N : Int) := nI_toInt (by omega); have t_n4 : (nI B).toInt = (B : Int) := nI_toInt (by omega); have t_n5 : (nI D).toInt = (D : Int) := nI_toInt (by omega); omega) (by have t_c8 := neI c8; have : (0 : Int32).toInt = 0 := (by decide); have t_n0 : (nI F).toInt = (F : Int) := nI_toInt (by omega); have t_n1 : (nI P).toInt = (P : Int) := nI_toInt (by omega); have t_n2 : (nI T).toInt = (T : Int) := nI_toInt (by omega); have t_n3 : (nI N).toInt = (N : Int) := nI_toInt (by omega); have t_n4 : (nI B).toInt = (B : Int) := nI_toInt (by omega); have t_n5 : (nI D).toInt = (D : Int) := nI_toInt (by omega); omega) (by have t_c8 := neI c8; have : (0 : Int32).toInt = 0 := (by decide); have t_n0 : (nI F).toInt = (F : Int) := nI_toInt (by omega); have t_n1 : (nI P).toInt = (P : Int) := nI_toInt (by omega); have t_n2 : (nI T).toInt = (T : Int) := nI_toInt (by omega); have t_n3 : (nI N).toInt = (N : Int) := nI_toInt (by omega); have t_n4 : (nI B).toInt = (B : Int) := nI_toInt (by omega); have t_n5 : (nI D).toInt = (D : Int) := nI_toInt (by omega); omega)) (kwV hg mfX5_value wt_459 ⟨Nat.le_of_ble_eq_true rfl, Nat.le_of_ble_eq_true rfl⟩) (preVR hK hPc (ci := 5) rfl rfl) rfl rfl hl.1 rfl (lv_room (Nat.le_of_ble_eq_true rfl)) dX5_readCarry_13 ⟨Nat.le_of_ble_eq_true rfl, Nat.le_of_ble_eq_true rfl⟩) hS (fun q h1 h2 => absurd h2 (Nat.not_le.mpr h1)) (fun q h => hA q (Nat.le_trans hS.1 h)) (fun r9 ur9 t H1 locs ht hvm w10 hB hz1 hk1 hS => ?_)
    have hP := keepR hP hk1
    obtain ⟨w10, w10x⟩ := w10
    subst w10
    refine lv_istore_n (lv' := [(1, .int (valN f T u6 (u7 - u6))), (0, .ref h0)]) hx hb dX5_readCarry_16 rfl hl (by decide) rfl (fun ls hl => ?_)
    refine lv_aload_n hx hb dX5_readCarry_17 rfl (lv_at hl 1 rfl) ?_
    refine va_get (D := (dC, dI)) (ci := 5) (v := .int x7) (C := RX5) (T := TX5) (N := 12) hx hb hg inG5 hown hK.1 hP 2 rfl rfl 9 (by decide) (hg _ wt_119) (fun _ h9 => h9) rfl dX5_readCarry_18 ?_
    refine lv_iload_n hx hb dX5_readCarry_21 rfl (lv_at hl 0 rfl) ?_
    refine lv_ishr hx hb dX5_readCarry_22 ?_
    refine lv_iconst (v := 1) hx hb dX5_readCarry_23 (by decide) ?_
    refine lv_iand hx hb dX5_readCarry_24 ?_
    refine lv_iconst (v := 1) hx hb dX5_readCarry_25 (by decide) ?_
    refine lv_icmp_ne (tgt := 39) hx hb dX5_readCarry_26 (by decide) (fun c11 => ?_) (fun c11 => ?_)
    · skip
      refine lv_aload_n hx hb dX5_readCarry_39 rfl (lv_at hl 1 rfl) ?_
      refine lv_dup hx hb dX5_readCarry_40 rfl ?_
      refine va_get (D := (dC, dI)) (ci := 5) (v := .int x7) (C := RX5) (T := TX5) (N := 12) hx hb hg inG5 hown hK.1 hP 2 rfl rfl 9 (by decide) (hg _ wt_119) (fun _ h9 => h9) rfl dX5_readCarry_41 ?_
      refine lv_iconst (v := 1) hx hb dX5_readCarry_44 (by decide) ?_
      refine lv_iload_n hx hb dX5_readCarry_45 rfl (lv_at hl 0 rfl) ?_
      refine lv_ishl hx hb dX5_readCarry_46 ?_
      refine lv_ior hx hb dX5_readCarry_47 ?_
      refine va_put (D := (dC, dI)) (ci := 5) (v := .int (x7 ||| (1 <<< ((valN f T u6 (u7 - u6)) &&& 31)))) (ty := .int) (C := RX5) (T := TX5) (N := 12) hx hb hg inG5 tyX5 tyX5_ok nmX5 hown hK.1 hP hD hS 2 rfl rfl 9 (by decide) (hg _ wt_119) (fun _ h9 => h9) rfl (by decide +kernel) rfl rfl (Nat.le_of_ble_eq_true rfl) dX5_readCarry_48 (fun H locs hP hD hS => ?_)
      have hP : va_P (dC, dI) vwCl [(td, .inr (9, [.int (nI N), .int (nI B), .int (nI D), .ref a1, .ref a2, .ref a3, .ref a4, .ref a5, .ref a6])), (a3, .inl (G 0, 10, .inl g3)), (h0, .inr (5, [.ref tp, .ref td, .int u3, .int u4, .int x2, .int u5, .int (nI u6), .int (nI u7), .int x6, .int (x7 ||| (1 <<< ((valN f T u6 (u7 - u6)) &&& 31))), .int x8, .int x9])), (tp, .inr (7, [.int (nI T), .ref ta])), (ta, .inl (G 0, 320, .inl f))] H := hP
      have hD : va_D A [(td, .inr (9, [.int (nI N), .int (nI B), .int (nI D), .ref a1, .ref a2, .ref a3, .ref a4, .ref a5, .ref a6])), (a3, .inl (G 0, 10, .inl g3)), (h0, .inr (5, [.ref tp, .ref td, .int u3, .int u4, .int x2, .int u5, .int (nI u6), .int (nI u7), .int x6, .int (x7 ||| (1 <<< ((valN f T u6 (u7 - u6)) &&& 31))), .int x8, .int x9])), (tp, .inr (7, [.int (nI T), .ref ta])), (ta, .inl (G 0, 320, .inl f))] := hD
      refine lv_aload_n hx hb dX5_readCarry_51 rfl (lv_at hl 1 rfl) ?_
      refine lv_iconst (v := 0) hx hb dX5_readCarry_52 (by decide) ?_
      refine lv_iconst (v := 5) hx hb dX5_readCarry_53 (by decide) ?_
      have hPc := hP.sub (ws' := [(h0, .inr (5, [.ref tp, .ref td, .int u3, .int u4, .int x2, .int u5, .int (nI u6), .int (nI u7), .int x6, .int (x7 ||| (1 <<< ((valN f T u6 (u7 - u6)) &&& 31))), .int x8, .int x9])), (tp, .inr (7, [.int (nI T), .ref ta])), (ta, .inl (G 0, 320, .inl f))]) [2, 3, 4] rfl
      have hDc := hD.sub (ws' := [(h0, .inr (5, [.ref tp, .ref td, .int u3, .int u4, .int x2, .int u5, .int (nI u6), .int (nI u7), .int x6, .int (x7 ||| (1 <<< ((valN f T u6 (u7 - u6)) &&& 31))), .int x8, .int x9])), (tp, .inr (7, [.int (nI T), .ref ta])), (ta, .inl (G 0, 320, .inl f))]) [2, 3, 4] (by decide) rfl
      have hFc := va_free (wc := [(h0, .inr (5, [.ref tp, .ref td, .int u3, .int u4, .int x2, .int u5, .int (nI u6), .int (nI u7), .int x6, .int (x7 ||| (1 <<< ((valN f T u6 (u7 - u6)) &&& 31))), .int x8, .int x9])), (tp, .inr (7, [.int (nI T), .ref ta])), (ta, .inl (G 0, 320, .inl f))]) hD hS hA [2, 3, 4] rfl
      refine va_calli (va_runV (As := [.int 0, .int 5]) (rest := []) ⟨hx, hb, hml, hown, hg⟩ (c_X5_nextNumberE l dC dI G _ h0 tp td ta T u7 u3 u4 x2 u5 x6 (x7 ||| (1 <<< ((valN f T u6 (u7 - u6)) &&& 31))) x8 x9 (nI u6) 0 5 f (by have t_c8 := neI c8; have t_c11 := neI c11; have : (0 : Int32).toInt = 0 := (by decide); have : (1 : Int32).toInt = 1 := (by decide); have t_n0 : (nI F).toInt = (F : Int) := nI_toInt (by omega); have t_n1 : (nI P).toInt = (P : Int) := nI_toInt (by omega); have t_n2 : (nI T).toInt = (T : Int) := nI_toInt (by omega); have t_n3 : (nI N).toInt = (N : Int) := nI_toInt (by omega); have t_n4 : (nI B).toInt = (B : Int) := nI_toInt (by omega); have t_n5 : (nI D).toInt = (D : Int) := nI_toInt (by omega); have : (0 : Int32).toInt = 0 := (by decide); have : (5 : Int32).toInt = 5 := (by decide); omega) (by have t_c8 := neI c8; have t_c11 := neI c11; have : (0 : Int32).toInt = 0 := (by decide); have : (1 : Int32).toInt = 1 := (by decide); have t_n0 : (nI F).toInt = (F : Int) := nI_toInt (by omega); have t_n1 : (nI P).toInt = (P : Int) := nI_toInt (by omega); have t_n2 : (nI T).toInt = (T : Int) := nI_toInt (by omega); have t_n3 : (nI N).toInt = (N : Int) := nI_toInt (by omega); have t_n4 : (nI B).toInt = (B : Int) := nI_toInt (by omega); have t_n5 : (nI D).toInt = (D : Int) := nI_toInt (by omega); have : (0 : Int32).toInt = 0 := (by decide); have : (5 : Int32).toInt = 5 := (by decide); omega)) (kwV hg mfX5_nextNumber wt_455 ⟨Nat.le_of_ble_eq_true rfl, Nat.le_of_ble_eq_true rfl⟩) (preVW hK hPc hDc (ci := 5) rfl rfl) rfl rfl hl.1 rfl (lv_room (Nat.le_of_ble_eq_true rfl)) dX5_readCarry_54 ⟨Nat.le_of_ble_eq_true rfl, Nat.le_of_ble_eq_true rfl⟩) hS (fun q _ h => hFc q h) hFc (fun r12 ur12 t H1 locs ht hvm w13 hB hz1 hk1 hS => ?_)
      obtain ⟨u14, u15, u16, u17, u18⟩ := ur12
      obtain ⟨hP1, hD1⟩ := hB
      rw [ht] at hP1
      obtain ⟨hP, hD⟩ := va_join (wr := [(td, .inr (9, [.int (nI N), .int (nI B), .int (nI D), .ref a1, .ref a2, .ref a3, .ref a4, .ref a5, .ref a6])), (a3, .inl (G 0, 10, .inl g3))]) (w1 := [(h0, .inr (5, [.ref tp, .ref td, .int u14, .int u15, .int x2, .int u16, .int (nI u17), .int (nI u18), .int x6, .int (x7 ||| (1 <<< ((valN f T u6 (u7 - u6)) &&& 31))), .int x8, .int x9])), (tp, .inr (7, [.int (nI T), .ref ta])), (ta, .inl (G 0, 320, .inl f))]) hP hD [2, 3, 4] [0, 1] rfl rfl (by decide) (by decide) hk1 hFc hP1 hD1
      generalize H1 = H at hP hS ⊢
      have hP : va_P (dC, dI) vwCl [(td, .inr (9, [.int (nI N), .int (nI B), .int (nI D), .ref a1, .ref a2, .ref a3, .ref a4, .ref a5, .ref a6])), (a3, .inl (G 0, 10, .inl g3)), (h0, .inr (5, [.ref tp, .ref td, .int u14, .int u15, .int x2, .int u16, .int (nI u17), .int (nI u18), .int x6, .int (x7 ||| (1 <<< ((valN f T u6 (u7 - u6)) &&& 31))), .int x8, .int x9])), (tp, .inr (7, [.int (nI T), .ref ta])), (ta, .inl (G 0, 320, .inl f))] H := hP
      have hD : va_D A [(td, .inr (9, [.int (nI N), .int (nI B), .int (nI D), .ref a1, .ref a2, .ref a3, .ref a4, .ref a5, .ref a6])), (a3, .inl (G 0, 10, .inl g3)), (h0, .inr (5, [.ref tp, .ref td, .int u14, .int u15, .int x2, .int u16, .int (nI u17), .int (nI u18), .int x6, .int (x7 ||| (1 <<< ((valN f T u6 (u7 - u6)) &&& 31))), .int x8, .int x9])), (tp, .inr (7, [.int (nI T), .ref ta])), (ta, .inl (G 0, 320, .inl f))] := hD
      obtain ⟨w13, w13x⟩ := w13
      have vw13 : (tNN f T 0 5 (u3, u4, u5, u6, u7)).1 = r12 := w13.2.symm
      have ew13 : (tNN f T 0 5 (u3, u4, u5, u6, u7)).2 = (u14, u15, u16, u17, u18) := w13x.2.2.symm
      have bw13 : ¬ r12 = 0 → (0 : Int32).toInt ≤ (valN f T u17 (u18 - u17)).toInt ∧ (valN f T u17 (u18 - u17)).toInt ≤ (5 : Int32).toInt := (fun n9 => by rcases w13.1 with h9 | h9; exact absurd h9 n9; exact h9.2)
      refine lv_if_ne (tgt := 62) hx hb dX5_readCarry_57 (by decide) (fun c19 => ?_) (fun c19 => ?_)
      · skip
        refine lv_aload_n hx hb dX5_readCarry_62 rfl (lv_at hl 1 rfl) ?_
        have hPc := hP.sub (ws' := [(h0, .inr (5, [.ref tp, .ref td, .int u14, .int u15, .int x2, .int u16, .int (nI u17), .int (nI u18), .int x6, .int (x7 ||| (1 <<< ((valN f T u6 (u7 - u6)) &&& 31))), .int x8, .int x9])), (tp, .inr (7, [.int (nI T), .ref ta])), (ta, .inl (G 0, 320, .inl f))]) [2, 3, 4] rfl
        refine va_calli (va_runV (As := []) (rest := []) ⟨hx, hb, hml, hown, hg⟩ (c_X5_value l dC dI G _ h0 tp td ta T u17 u18 u14 u15 x2 u16 x6 (x7 ||| (1 <<< ((valN f T u6 (u7 - u6)) &&& 31))) x8 x9 f (by have t_c8 := neI c8; have t_c11 := neI c11; have t_c19 := neI c19; have : (0 : Int32).toInt = 0 := (by decide); have : (1 : Int32).toInt = 1 := (by decide); have t_n0 : (nI F).toInt = (F : Int) := nI_toInt (by omega); have t_n1 : (nI P).toInt = (P : Int) := nI_toInt (by omega); have t_n2 : (nI T).toInt = (T : Int) := nI_toInt (by omega); have t_n3 : (nI N).toInt = (N : Int) := nI_toInt (by omega); have t_n4 : (nI B).toInt = (B : Int) := nI_toInt (by omega); have t_n5 : (nI D).toInt = (D : Int) := nI_toInt (by omega); omega) (by have t_c8 := neI c8; have t_c11 := neI c11; have t_c19 := neI c19; have : (0 : Int32).toInt = 0 := (by decide); have : (1 : Int32).toInt = 1 := (by decide); have t_n0 : (nI F).toInt = (F : Int) := nI_toInt (by omega); have t_n1 : (nI P).toInt = (P : Int) := nI_toInt (by omega); have t_n2 : (nI T).toInt = (T : Int) := nI_toInt (by omega); have t_n3 : (nI N).toInt = (N : Int) := nI_toInt (by omega); have t_n4 : (nI B).toInt = (B : Int) := nI_toInt (by omega); have t_n5 : (nI D).toInt = (D : Int) := nI_toInt (by omega); omega) (by have t_c8 := neI c8; have t_c11 := neI c11; have t_c19 := neI c19; have : (0 : Int32).toInt = 0 := (by decide); have : (1 : Int32).toInt = 1 := (by decide); have t_n0 : (nI F).toInt = (F : Int) := nI_toInt (by omega); have t_n1 : (nI P).toInt = (P : Int) := nI_toInt (by omega); have t_n2 : (nI T).toInt = (T : Int) := nI_toInt (by omega); have t_n3 : (nI N).toInt = (N : Int) := nI_toInt (by omega); have t_n4 : (nI B).toInt = (B : Int) := nI_toInt (by omega); have t_n5 : (nI D).toInt = (D : Int) := nI_toInt (by omega); omega)) (kwV hg mfX5_value wt_459 ⟨Nat.le_of_ble_eq_true rfl, Nat.le_of_ble_eq_true rfl⟩) (preVR hK hPc (ci := 5) rfl rfl) rfl rfl hl.1 rfl (lv_room (Nat.le_of_ble_eq_true rfl)) dX5_readCarry_63 ⟨Nat.le_of_ble_eq_true rfl, Nat.le_of_ble_eq_true rfl⟩) hS (fun q h1 h2 => absurd h2 (Nat.not_le.mpr h1)) (fun q h => hA q (Nat.le_trans hS.1 h)) (fun r20 ur20 t H1 locs ht hvm w21 hB hz1 hk1 hS => ?_)
        have hP := keepR hP hk1
        obtain ⟨w21, w21x⟩ := w21
        subst w21
        refine lv_istore_n (lv' := [(2, .int (valN f T u17 (u18 - u17))), (1, .int (valN f T u6 (u7 - u6))), (0, .ref h0)]) hx hb dX5_readCarry_66 rfl hl (by decide) rfl (fun ls hl => ?_)
        refine lv_iload_n hx hb dX5_readCarry_67 rfl (lv_at hl 1 rfl) ?_
        refine lv_if_lt (tgt := 87) hx hb dX5_readCarry_68 (by decide) (fun c22 => ?_) (fun c22 => ?_)
        · skip
          refine lv_aload_n hx hb dX5_readCarry_87 rfl (lv_at hl 2 rfl) ?_
          refine lv_aload_n hx hb dX5_readCarry_88 rfl (lv_at hl 2 rfl) ?_
          refine va_get (D := (dC, dI)) (ci := 5) (v := .int x8) (C := RX5) (T := TX5) (N := 12) hx hb hg inG5 hown hK.1 hP 2 rfl rfl 10 (by decide) (hg _ wt_120) (fun _ h9 => h9) rfl dX5_readCarry_89 ?_
          refine lv_iload_n hx hb dX5_readCarry_92 rfl (lv_at hl 1 rfl) ?_
          have hPc := hP.sub (ws' := []) [] rfl
          refine va_calli (va_runS (As := [.int x8, .int (valN f T u6 (u7 - u6))]) (rest := [.ref h0]) ⟨hx, hb, hml, hown, hg⟩ (c_J9_max l dC dI G _ x8 (valN f T u6 (u7 - u6)) ) (kwS hg mfJ9_max_7cf53 wt_500 ⟨Nat.le_of_ble_eq_true rfl, Nat.le_of_ble_eq_true rfl⟩) (preSR hK hPc) rfl rfl hl.1 rfl (lv_room (Nat.le_of_ble_eq_true rfl)) dX5_readCarry_93 ⟨Nat.le_of_ble_eq_true rfl, Nat.le_of_ble_eq_true rfl⟩) hS (fun q h1 h2 => absurd h2 (Nat.not_le.mpr h1)) (fun q h => hA q (Nat.le_trans hS.1 h)) (fun r23 ur23 t H1 locs ht hvm w24 hB hz1 hk1 hS => ?_)
          have hP := keepR hP hk1
          obtain ⟨w24, w24x⟩ := w24
          subst w24
          refine va_put (D := (dC, dI)) (ci := 5) (v := .int (mx x8 (valN f T u6 (u7 - u6)))) (ty := .int) (C := RX5) (T := TX5) (N := 12) hx hb hg inG5 tyX5 tyX5_ok nmX5 hown hK.1 hP hD hS 2 rfl rfl 10 (by decide) (hg _ wt_120) (fun _ h9 => h9) rfl (by decide +kernel) rfl rfl (Nat.le_of_ble_eq_true rfl) dX5_readCarry_96 (fun H locs hP hD hS => ?_)
          have hP : va_P (dC, dI) vwCl [(td, .inr (9, [.int (nI N), .int (nI B), .int (nI D), .ref a1, .ref a2, .ref a3, .ref a4, .ref a5, .ref a6])), (a3, .inl (G 0, 10, .inl g3)), (h0, .inr (5, [.ref tp, .ref td, .int u14, .int u15, .int x2, .int u16, .int (nI u17), .int (nI u18), .int x6, .int (x7 ||| (1 <<< ((valN f T u6 (u7 - u6)) &&& 31))), .int (mx x8 (valN f T u6 (u7 - u6))), .int x9])), (tp, .inr (7, [.int (nI T), .ref ta])), (ta, .inl (G 0, 320, .inl f))] H := hP
          have hD : va_D A [(td, .inr (9, [.int (nI N), .int (nI B), .int (nI D), .ref a1, .ref a2, .ref a3, .ref a4, .ref a5, .ref a6])), (a3, .inl (G 0, 10, .inl g3)), (h0, .inr (5, [.ref tp, .ref td, .int u14, .int u15, .int x2, .int u16, .int (nI u17), .int (nI u18), .int x6, .int (x7 ||| (1 <<< ((valN f T u6 (u7 - u6)) &&& 31))), .int (mx x8 (valN f T u6 (u7 - u6))), .int x9])), (tp, .inr (7, [.int (nI T), .ref ta])), (ta, .inl (G 0, 320, .inl f))] := hD
          refine lv_aload_n hx hb dX5_readCarry_99 rfl (lv_at hl 2 rfl) ?_
          refine lv_aload_n hx hb dX5_readCarry_100 rfl (lv_at hl 2 rfl) ?_
          refine va_get (D := (dC, dI)) (ci := 5) (v := .int x9) (C := RX5) (T := TX5) (N := 12) hx hb hg inG5 hown hK.1 hP 2 rfl rfl 11 (by decide) (hg _ wt_121) (fun _ h9 => h9) rfl dX5_readCarry_101 ?_
          refine lv_iload_n hx hb dX5_readCarry_104 rfl (lv_at hl 0 rfl) ?_
          have hPc := hP.sub (ws' := []) [] rfl
          refine va_calli (va_runS (As := [.int x9, .int (valN f T u17 (u18 - u17))]) (rest := [.ref h0]) ⟨hx, hb, hml, hown, hg⟩ (c_J9_max l dC dI G _ x9 (valN f T u17 (u18 - u17)) ) (kwS hg mfJ9_max_7cf53 wt_500 ⟨Nat.le_of_ble_eq_true rfl, Nat.le_of_ble_eq_true rfl⟩) (preSR hK hPc) rfl rfl hl.1 rfl (lv_room (Nat.le_of_ble_eq_true rfl)) dX5_readCarry_105 ⟨Nat.le_of_ble_eq_true rfl, Nat.le_of_ble_eq_true rfl⟩) hS (fun q h1 h2 => absurd h2 (Nat.not_le.mpr h1)) (fun q h => hA q (Nat.le_trans hS.1 h)) (fun r25 ur25 t H1 locs ht hvm w26 hB hz1 hk1 hS => ?_)
          have hP := keepR hP hk1
          obtain ⟨w26, w26x⟩ := w26
          subst w26
          refine va_put (D := (dC, dI)) (ci := 5) (v := .int (mx x9 (valN f T u17 (u18 - u17)))) (ty := .int) (C := RX5) (T := TX5) (N := 12) hx hb hg inG5 tyX5 tyX5_ok nmX5 hown hK.1 hP hD hS 2 rfl rfl 11 (by decide) (hg _ wt_121) (fun _ h9 => h9) rfl (by decide +kernel) rfl rfl (Nat.le_of_ble_eq_true rfl) dX5_readCarry_108 (fun H locs hP hD hS => ?_)
          have hP : va_P (dC, dI) vwCl [(td, .inr (9, [.int (nI N), .int (nI B), .int (nI D), .ref a1, .ref a2, .ref a3, .ref a4, .ref a5, .ref a6])), (a3, .inl (G 0, 10, .inl g3)), (h0, .inr (5, [.ref tp, .ref td, .int u14, .int u15, .int x2, .int u16, .int (nI u17), .int (nI u18), .int x6, .int (x7 ||| (1 <<< ((valN f T u6 (u7 - u6)) &&& 31))), .int (mx x8 (valN f T u6 (u7 - u6))), .int (mx x9 (valN f T u17 (u18 - u17)))])), (tp, .inr (7, [.int (nI T), .ref ta])), (ta, .inl (G 0, 320, .inl f))] H := hP
          have hD : va_D A [(td, .inr (9, [.int (nI N), .int (nI B), .int (nI D), .ref a1, .ref a2, .ref a3, .ref a4, .ref a5, .ref a6])), (a3, .inl (G 0, 10, .inl g3)), (h0, .inr (5, [.ref tp, .ref td, .int u14, .int u15, .int x2, .int u16, .int (nI u17), .int (nI u18), .int x6, .int (x7 ||| (1 <<< ((valN f T u6 (u7 - u6)) &&& 31))), .int (mx x8 (valN f T u6 (u7 - u6))), .int (mx x9 (valN f T u17 (u18 - u17)))])), (tp, .inr (7, [.int (nI T), .ref ta])), (ta, .inl (G 0, 320, .inl f))] := hD
          refine lv_aload_n hx hb dX5_readCarry_111 rfl (lv_at hl 2 rfl) ?_
          have hPc := hP.sub (ws' := [(h0, .inr (5, [.ref tp, .ref td, .int u14, .int u15, .int x2, .int u16, .int (nI u17), .int (nI u18), .int x6, .int (x7 ||| (1 <<< ((valN f T u6 (u7 - u6)) &&& 31))), .int (mx x8 (valN f T u6 (u7 - u6))), .int (mx x9 (valN f T u17 (u18 - u17)))])), (tp, .inr (7, [.int (nI T), .ref ta])), (ta, .inl (G 0, 320, .inl f))]) [2, 3, 4] rfl
          have hDc := hD.sub (ws' := [(h0, .inr (5, [.ref tp, .ref td, .int u14, .int u15, .int x2, .int u16, .int (nI u17), .int (nI u18), .int x6, .int (x7 ||| (1 <<< ((valN f T u6 (u7 - u6)) &&& 31))), .int (mx x8 (valN f T u6 (u7 - u6))), .int (mx x9 (valN f T u17 (u18 - u17)))])), (tp, .inr (7, [.int (nI T), .ref ta])), (ta, .inl (G 0, 320, .inl f))]) [2, 3, 4] (by decide) rfl
          have hFc := va_free (wc := [(h0, .inr (5, [.ref tp, .ref td, .int u14, .int u15, .int x2, .int u16, .int (nI u17), .int (nI u18), .int x6, .int (x7 ||| (1 <<< ((valN f T u6 (u7 - u6)) &&& 31))), .int (mx x8 (valN f T u6 (u7 - u6))), .int (mx x9 (valN f T u17 (u18 - u17)))])), (tp, .inr (7, [.int (nI T), .ref ta])), (ta, .inl (G 0, 320, .inl f))]) hD hS hA [2, 3, 4] rfl
          refine va_calli (va_runV (As := []) (rest := []) ⟨hx, hb, hml, hown, hg⟩ (c_X5_nextStopE l dC dI G _ h0 tp td ta T u18 u14 u15 x2 u16 x6 (x7 ||| (1 <<< ((valN f T u6 (u7 - u6)) &&& 31))) (mx x8 (valN f T u6 (u7 - u6))) (mx x9 (valN f T u17 (u18 - u17))) (nI u17) f (by have t_c8 := neI c8; have t_c11 := neI c11; have t_c19 := neI c19; have t_c22 := ltI c22; have : (0 : Int32).toInt = 0 := (by decide); have : (1 : Int32).toInt = 1 := (by decide); have t_n0 : (nI F).toInt = (F : Int) := nI_toInt (by omega); have t_n1 : (nI P).toInt = (P : Int) := nI_toInt (by omega); have t_n2 : (nI T).toInt = (T : Int) := nI_toInt (by omega); have t_n3 : (nI N).toInt = (N : Int) := nI_toInt (by omega); have t_n4 : (nI B).toInt = (B : Int) := nI_toInt (by omega); have t_n5 : (nI D).toInt = (D : Int) := nI_toInt (by omega); omega) (by have t_c8 := neI c8; have t_c11 := neI c11; have t_c19 := neI c19; have t_c22 := ltI c22; have : (0 : Int32).toInt = 0 := (by decide); have : (1 : Int32).toInt = 1 := (by decide); have t_n0 : (nI F).toInt = (F : Int) := nI_toInt (by omega); have t_n1 : (nI P).toInt = (P : Int) := nI_toInt (by omega); have t_n2 : (nI T).toInt = (T : Int) := nI_toInt (by omega); have t_n3 : (nI N).toInt = (N : Int) := nI_toInt (by omega); have t_n4 : (nI B).toInt = (B : Int) := nI_toInt (by omega); have t_n5 : (nI D).toInt = (D : Int) := nI_toInt (by omega); omega)) (kwV hg mfX5_nextStop wt_463 ⟨Nat.le_of_ble_eq_true rfl, Nat.le_of_ble_eq_true rfl⟩) (preVW hK hPc hDc (ci := 5) rfl rfl) rfl rfl hl.1 rfl (lv_room (Nat.le_of_ble_eq_true rfl)) dX5_readCarry_112 ⟨Nat.le_of_ble_eq_true rfl, Nat.le_of_ble_eq_true rfl⟩) hS (fun q _ h => hFc q h) hFc (fun r27 ur27 t H1 locs ht hvm w28 hB hz1 hk1 hS => ?_)
          obtain ⟨u29, u30, u31, u32, u33⟩ := ur27
          obtain ⟨hP1, hD1⟩ := hB
          rw [ht] at hP1
          obtain ⟨hP, hD⟩ := va_join (wr := [(td, .inr (9, [.int (nI N), .int (nI B), .int (nI D), .ref a1, .ref a2, .ref a3, .ref a4, .ref a5, .ref a6])), (a3, .inl (G 0, 10, .inl g3))]) (w1 := [(h0, .inr (5, [.ref tp, .ref td, .int u29, .int u30, .int x2, .int u31, .int (nI u32), .int (nI u33), .int x6, .int (x7 ||| (1 <<< ((valN f T u6 (u7 - u6)) &&& 31))), .int (mx x8 (valN f T u6 (u7 - u6))), .int (mx x9 (valN f T u17 (u18 - u17)))])), (tp, .inr (7, [.int (nI T), .ref ta])), (ta, .inl (G 0, 320, .inl f))]) hP hD [2, 3, 4] [0, 1] rfl rfl (by decide) (by decide) hk1 hFc hP1 hD1
          generalize H1 = H at hP hS ⊢
          have hP : va_P (dC, dI) vwCl [(td, .inr (9, [.int (nI N), .int (nI B), .int (nI D), .ref a1, .ref a2, .ref a3, .ref a4, .ref a5, .ref a6])), (a3, .inl (G 0, 10, .inl g3)), (h0, .inr (5, [.ref tp, .ref td, .int u29, .int u30, .int x2, .int u31, .int (nI u32), .int (nI u33), .int x6, .int (x7 ||| (1 <<< ((valN f T u6 (u7 - u6)) &&& 31))), .int (mx x8 (valN f T u6 (u7 - u6))), .int (mx x9 (valN f T u17 (u18 - u17)))])), (tp, .inr (7, [.int (nI T), .ref ta])), (ta, .inl (G 0, 320, .inl f))] H := hP
          have hD : va_D A [(td, .inr (9, [.int (nI N), .int (nI B), .int (nI D), .ref a1, .ref a2, .ref a3, .ref a4, .ref a5, .ref a6])), (a3, .inl (G 0, 10, .inl g3)), (h0, .inr (5, [.ref tp, .ref td, .int u29, .int u30, .int x2, .int u31, .int (nI u32), .int (nI u33), .int x6, .int (x7 ||| (1 <<< ((valN f T u6 (u7 - u6)) &&& 31))), .int (mx x8 (valN f T u6 (u7 - u6))), .int (mx x9 (valN f T u17 (u18 - u17)))])), (tp, .inr (7, [.int (nI T), .ref ta])), (ta, .inl (G 0, 320, .inl f))] := hD
          obtain ⟨w28, w28x⟩ := w28
          have vw28 : (tNS f T (u14, u15, u16, u17, u18)).1 = r27 := w28.2.symm
          have ew28 : (tNS f T (u14, u15, u16, u17, u18)).2 = (u29, u30, u31, u32, u33) := w28x.2.2.symm
          have hpost : ((r27 : Int32) = 0 ∨ (r27 : Int32) = 1) ∧ (r27 : Int32) = (cCR f T (x0, x1, x3, F, P) x7 x8 x9 g3).1 := by
            have t_c8 := neI c8
            have t_c11 := neI c11
            have t_c19 := neI c19
            have t_c22 := ltI c22
            have : (0 : Int32).toInt = 0 := (by decide)
            have : (1 : Int32).toInt = 1 := (by decide)
            have t_n0 : (nI F).toInt = (F : Int) := nI_toInt (by omega)
            have t_n1 : (nI P).toInt = (P : Int) := nI_toInt (by omega)
            have t_n2 : (nI T).toInt = (T : Int) := nI_toInt (by omega)
            have t_n3 : (nI N).toInt = (N : Int) := nI_toInt (by omega)
            have t_n4 : (nI B).toInt = (B : Int) := nI_toInt (by omega)
            have t_n5 : (nI D).toInt = (D : Int) := nI_toInt (by omega)
            have z0 : (0 : Int32).toInt = 0 := (by decide)
            have z1 : (1 : Int32).toInt = 1 := (by decide)
            have z2 : (2 : Int32).toInt = 2 := (by decide)
            have z3 : (3 : Int32).toInt = 3 := (by decide)
            have z5 : (5 : Int32).toInt = 5 := (by decide)
            have z9 : (9 : Int32).toInt = 9 := (by decide)
            (have b9 := bw2 (by assumption))
            first | (exfalso; omega) | (refine ⟨w28.1, ?_⟩; unfold cCR; (try rw [vw2]); (try rw [ew2]); (try rw [vw13]); (try rw [ew13]); (try rw [vw28]); (try rw [ew28]); (try (repeat (first | rw [if_pos (by assumption)] | rw [if_neg (by assumption)] | rw [if_pos (by omega)] | rw [if_neg (by omega)] | rw [if_pos (by decide)] | rw [if_neg (by decide)]))); all_goals rfl)
          have hP9 := hP.sub (ws' := [(h0, .inr (5, [.ref tp, .ref td, .int u29, .int u30, .int x2, .int u31, .int (nI u32), .int (nI u33), .int x6, .int (x7 ||| (1 <<< ((valN f T u6 (u7 - u6)) &&& 31))), .int (mx x8 (valN f T u6 (u7 - u6))), .int (mx x9 (valN f T u17 (u18 - u17)))])), (tp, .inr (7, [.int (nI T), .ref ta])), (ta, .inl (G 0, 320, .inl f)), (td, .inr (9, [.int (nI N), .int (nI B), .int (nI D), .ref a1, .ref a2, .ref a3, .ref a4, .ref a5, .ref a6])), (a3, .inl (G 0, 10, .inl g3))]) [2, 3, 4, 0, 1] rfl
          have hD9 := hD.sub (ws' := [(h0, .inr (5, [.ref tp, .ref td, .int u29, .int u30, .int x2, .int u31, .int (nI u32), .int (nI u33), .int x6, .int (x7 ||| (1 <<< ((valN f T u6 (u7 - u6)) &&& 31))), .int (mx x8 (valN f T u6 (u7 - u6))), .int (mx x9 (valN f T u17 (u18 - u17)))])), (tp, .inr (7, [.int (nI T), .ref ta])), (ta, .inl (G 0, 320, .inl f)), (td, .inr (9, [.int (nI N), .int (nI B), .int (nI D), .ref a1, .ref a2, .ref a3, .ref a4, .ref a5, .ref a6])), (a3, .inl (G 0, 10, .inl g3))]) [2, 3, 4, 0, 1] (by decide) rfl
          refine W.widen (k := 0) (n := 0) (by omega) (by omega) ?_
          exact W.zret (v := r27) hx hb hr (by first | rfl | decide | exact zn01 w28.1) (fun t ht hW => ⟨⟨r27, (u29, u30, u31, u32, u33, (x7 ||| (1 <<< ((valN f T u6 (u7 - u6)) &&& 31))), (mx x8 (valN f T u6 (u7 - u6))), (mx x9 (valN f T u17 (u18 - u17))), g3), rfl, ⟨hpost, (by have t_c8 := neI c8; have t_c11 := neI c11; have t_c19 := neI c19; have t_c22 := ltI c22; have : (0 : Int32).toInt = 0 := (by decide); have : (1 : Int32).toInt = 1 := (by decide); have t_n0 : (nI F).toInt = (F : Int) := nI_toInt (by omega); have t_n1 : (nI P).toInt = (P : Int) := nI_toInt (by omega); have t_n2 : (nI T).toInt = (T : Int) := nI_toInt (by omega); have t_n3 : (nI N).toInt = (N : Int) := nI_toInt (by omega); have t_n4 : (nI B).toInt = (B : Int) := nI_toInt (by omega); have t_n5 : (nI D).toInt = (D : Int) := nI_toInt (by omega); have z0 : (0 : Int32).toInt = 0 := (by decide); have z1 : (1 : Int32).toInt = 1 := (by decide); have z2 : (2 : Int32).toInt = 2 := (by decide); have z3 : (3 : Int32).toInt = 3 := (by decide); have z5 : (5 : Int32).toInt = 5 := (by decide); have z9 : (9 : Int32).toInt = 9 := (by decide); (have b9 := bw2 (by assumption)); first | (exfalso; omega) | (refine ⟨by omega, by omega, ?_⟩; unfold cCR; (try rw [vw2]); (try rw [ew2]); (try rw [vw13]); (try rw [ew13]); (try rw [vw28]); (try rw [ew28]); (try (repeat (first | rw [if_pos (by assumption)] | rw [if_neg (by assumption)] | rw [if_pos (by omega)] | rw [if_neg (by omega)] | rw [if_pos (by decide)] | rw [if_neg (by decide)]))); all_goals rfl))⟩, ⟨by rw [ht]; exact hP9, hD9⟩⟩, hS.F ht⟩) hS.2.2 dX5_readCarry_115
        · skip
          refine lv_iload_n hx hb dX5_readCarry_71 rfl (lv_at hl 1 rfl) ?_
          refine lv_bipush (v := 10) hx hb dX5_readCarry_72 (by decide) ?_
          refine lv_icmp_ge (tgt := 87) hx hb dX5_readCarry_74 (by decide) (fun c34 => ?_) (fun c34 => ?_)
          · skip
            refine lv_aload_n hx hb dX5_readCarry_87 rfl (lv_at hl 2 rfl) ?_
            refine lv_aload_n hx hb dX5_readCarry_88 rfl (lv_at hl 2 rfl) ?_
            refine va_get (D := (dC, dI)) (ci := 5) (v := .int x8) (C := RX5) (T := TX5) (N := 12) hx hb hg inG5 hown hK.1 hP 2 rfl rfl 10 (by decide) (hg _ wt_120) (fun _ h9 => h9) rfl dX5_readCarry_89 ?_
            refine lv_iload_n hx hb dX5_readCarry_92 rfl (lv_at hl 1 rfl) ?_
            have hPc := hP.sub (ws' := []) [] rfl
            refine va_calli (va_runS (As := [.int x8, .int (valN f T u6 (u7 - u6))]) (rest := [.ref h0]) ⟨hx, hb, hml, hown, hg⟩ (c_J9_max l dC dI G _ x8 (valN f T u6 (u7 - u6)) ) (kwS hg mfJ9_max_7cf53 wt_500 ⟨Nat.le_of_ble_eq_true rfl, Nat.le_of_ble_eq_true rfl⟩) (preSR hK hPc) rfl rfl hl.1 rfl (lv_room (Nat.le_of_ble_eq_true rfl)) dX5_readCarry_93 ⟨Nat.le_of_ble_eq_true rfl, Nat.le_of_ble_eq_true rfl⟩) hS (fun q h1 h2 => absurd h2 (Nat.not_le.mpr h1)) (fun q h => hA q (Nat.le_trans hS.1 h)) (fun r35 ur35 t H1 locs ht hvm w36 hB hz1 hk1 hS => ?_)
            have hP := keepR hP hk1
            obtain ⟨w36, w36x⟩ := w36
            subst w36
            refine va_put (D := (dC, dI)) (ci := 5) (v := .int (mx x8 (valN f T u6 (u7 - u6)))) (ty := .int) (C := RX5) (T := TX5) (N := 12) hx hb hg inG5 tyX5 tyX5_ok nmX5 hown hK.1 hP hD hS 2 rfl rfl 10 (by decide) (hg _ wt_120) (fun _ h9 => h9) rfl (by decide +kernel) rfl rfl (Nat.le_of_ble_eq_true rfl) dX5_readCarry_96 (fun H locs hP hD hS => ?_)
            have hP : va_P (dC, dI) vwCl [(td, .inr (9, [.int (nI N), .int (nI B), .int (nI D), .ref a1, .ref a2, .ref a3, .ref a4, .ref a5, .ref a6])), (a3, .inl (G 0, 10, .inl g3)), (h0, .inr (5, [.ref tp, .ref td, .int u14, .int u15, .int x2, .int u16, .int (nI u17), .int (nI u18), .int x6, .int (x7 ||| (1 <<< ((valN f T u6 (u7 - u6)) &&& 31))), .int (mx x8 (valN f T u6 (u7 - u6))), .int x9])), (tp, .inr (7, [.int (nI T), .ref ta])), (ta, .inl (G 0, 320, .inl f))] H := hP
            have hD : va_D A [(td, .inr (9, [.int (nI N), .int (nI B), .int (nI D), .ref a1, .ref a2, .ref a3, .ref a4, .ref a5, .ref a6])), (a3, .inl (G 0, 10, .inl g3)), (h0, .inr (5, [.ref tp, .ref td, .int u14, .int u15, .int x2, .int u16, .int (nI u17), .int (nI u18), .int x6, .int (x7 ||| (1 <<< ((valN f T u6 (u7 - u6)) &&& 31))), .int (mx x8 (valN f T u6 (u7 - u6))), .int x9])), (tp, .inr (7, [.int (nI T), .ref ta])), (ta, .inl (G 0, 320, .inl f))] := hD
            refine lv_aload_n hx hb dX5_readCarry_99 rfl (lv_at hl 2 rfl) ?_
            refine lv_aload_n hx hb dX5_readCarry_100 rfl (lv_at hl 2 rfl) ?_
            refine va_get (D := (dC, dI)) (ci := 5) (v := .int x9) (C := RX5) (T := TX5) (N := 12) hx hb hg inG5 hown hK.1 hP 2 rfl rfl 11 (by decide) (hg _ wt_121) (fun _ h9 => h9) rfl dX5_readCarry_101 ?_
            refine lv_iload_n hx hb dX5_readCarry_104 rfl (lv_at hl 0 rfl) ?_
            have hPc := hP.sub (ws' := []) [] rfl
            refine va_calli (va_runS (As := [.int x9, .int (valN f T u17 (u18 - u17))]) (rest := [.ref h0]) ⟨hx, hb, hml, hown, hg⟩ (c_J9_max l dC dI G _ x9 (valN f T u17 (u18 - u17)) ) (kwS hg mfJ9_max_7cf53 wt_500 ⟨Nat.le_of_ble_eq_true rfl, Nat.le_of_ble_eq_true rfl⟩) (preSR hK hPc) rfl rfl hl.1 rfl (lv_room (Nat.le_of_ble_eq_true rfl)) dX5_readCarry_105 ⟨Nat.le_of_ble_eq_true rfl, Nat.le_of_ble_eq_true rfl⟩) hS (fun q h1 h2 => absurd h2 (Nat.not_le.mpr h1)) (fun q h => hA q (Nat.le_trans hS.1 h)) (fun r37 ur37 t H1 locs ht hvm w38 hB hz1 hk1 hS => ?_)
            have hP := keepR hP hk1
            obtain ⟨w38, w38x⟩ := w38
            subst w38
            refine va_put (D := (dC, dI)) (ci := 5) (v := .int (mx x9 (valN f T u17 (u18 - u17)))) (ty := .int) (C := RX5) (T := TX5) (N := 12) hx hb hg inG5 tyX5 tyX5_ok nmX5 hown hK.1 hP hD hS 2 rfl rfl 11 (by decide) (hg _ wt_121) (fun _ h9 => h9) rfl (by decide +kernel) rfl rfl (Nat.le_of_ble_eq_true rfl) dX5_readCarry_108 (fun H locs hP hD hS => ?_)
            have hP : va_P (dC, dI) vwCl [(td, .inr (9, [.int (nI N), .int (nI B), .int (nI D), .ref a1, .ref a2, .ref a3, .ref a4, .ref a5, .ref a6])), (a3, .inl (G 0, 10, .inl g3)), (h0, .inr (5, [.ref tp, .ref td, .int u14, .int u15, .int x2, .int u16, .int (nI u17), .int (nI u18), .int x6, .int (x7 ||| (1 <<< ((valN f T u6 (u7 - u6)) &&& 31))), .int (mx x8 (valN f T u6 (u7 - u6))), .int (mx x9 (valN f T u17 (u18 - u17)))])), (tp, .inr (7, [.int (nI T), .ref ta])), (ta, .inl (G 0, 320, .inl f))] H := hP
            have hD : va_D A [(td, .inr (9, [.int (nI N), .int (nI B), .int (nI D), .ref a1, .ref a2, .ref a3, .ref a4, .ref a5, .ref a6])), (a3, .inl (G 0, 10, .inl g3)), (h0, .inr (5, [.ref tp, .ref td, .int u14, .int u15, .int x2, .int u16, .int (nI u17), .int (nI u18), .int x6, .int (x7 ||| (1 <<< ((valN f T u6 (u7 - u6)) &&& 31))), .int (mx x8 (valN f T u6 (u7 - u6))), .int (mx x9 (valN f T u17 (u18 - u17)))])), (tp, .inr (7, [.int (nI T), .ref ta])), (ta, .inl (G 0, 320, .inl f))] := hD
            refine lv_aload_n hx hb dX5_readCarry_111 rfl (lv_at hl 2 rfl) ?_
            have hPc := hP.sub (ws' := [(h0, .inr (5, [.ref tp, .ref td, .int u14, .int u15, .int x2, .int u16, .int (nI u17), .int (nI u18), .int x6, .int (x7 ||| (1 <<< ((valN f T u6 (u7 - u6)) &&& 31))), .int (mx x8 (valN f T u6 (u7 - u6))), .int (mx x9 (valN f T u17 (u18 - u17)))])), (tp, .inr (7, [.int (nI T), .ref ta])), (ta, .inl (G 0, 320, .inl f))]) [2, 3, 4] rfl
            have hDc := hD.sub (ws' := [(h0, .inr (5, [.ref tp, .ref td, .int u14, .int u15, .int x2, .int u16, .int (nI u17), .int (nI u18), .int x6, .int (x7 ||| (1 <<< ((valN f T u6 (u7 - u6)) &&& 31))), .int (mx x8 (valN f T u6 (u7 - u6))), .int (mx x9 (valN f T u17 (u18 - u17)))])), (tp, .inr (7, [.int (nI T), .ref ta])), (ta, .inl (G 0, 320, .inl f))]) [2, 3, 4] (by decide) rfl
            have hFc := va_free (wc := [(h0, .inr (5, [.ref tp, .ref td, .int u14, .int u15, .int x2, .int u16, .int (nI u17), .int (nI u18), .int x6, .int (x7 ||| (1 <<< ((valN f T u6 (u7 - u6)) &&& 31))), .int (mx x8 (valN f T u6 (u7 - u6))), .int (mx x9 (valN f T u17 (u18 - u17)))])), (tp, .inr (7, [.int (nI T), .ref ta])), (ta, .inl (G 0, 320, .inl f))]) hD hS hA [2, 3, 4] rfl
            refine va_calli (va_runV (As := []) (rest := []) ⟨hx, hb, hml, hown, hg⟩ (c_X5_nextStopE l dC dI G _ h0 tp td ta T u18 u14 u15 x2 u16 x6 (x7 ||| (1 <<< ((valN f T u6 (u7 - u6)) &&& 31))) (mx x8 (valN f T u6 (u7 - u6))) (mx x9 (valN f T u17 (u18 - u17))) (nI u17) f (by have t_c8 := neI c8; have t_c11 := neI c11; have t_c19 := neI c19; have t_c22 := nltI c22; have t_c34 := leI c34; have : (0 : Int32).toInt = 0 := (by decide); have : (1 : Int32).toInt = 1 := (by decide); have : (10 : Int32).toInt = 10 := (by decide); have t_n0 : (nI F).toInt = (F : Int) := nI_toInt (by omega); have t_n1 : (nI P).toInt = (P : Int) := nI_toInt (by omega); have t_n2 : (nI T).toInt = (T : Int) := nI_toInt (by omega); have t_n3 : (nI N).toInt = (N : Int) := nI_toInt (by omega); have t_n4 : (nI B).toInt = (B : Int) := nI_toInt (by omega); have t_n5 : (nI D).toInt = (D : Int) := nI_toInt (by omega); omega) (by have t_c8 := neI c8; have t_c11 := neI c11; have t_c19 := neI c19; have t_c22 := nltI c22; have t_c34 := leI c34; have : (0 : Int32).toInt = 0 := (by decide); have : (1 : Int32).toInt = 1 := (by decide); have : (10 : Int32).toInt = 10 := (by decide); have t_n0 : (nI F).toInt = (F : Int) := nI_toInt (by omega); have t_n1 : (nI P).toInt = (P : Int) := nI_toInt (by omega); have t_n2 : (nI T).toInt = (T : Int) := nI_toInt (by omega); have t_n3 : (nI N).toInt = (N : Int) := nI_toInt (by omega); have t_n4 : (nI B).toInt = (B : Int) := nI_toInt (by omega); have t_n5 : (nI D).toInt = (D : Int) := nI_toInt (by omega); omega)) (kwV hg mfX5_nextStop wt_463 ⟨Nat.le_of_ble_eq_true rfl, Nat.le_of_ble_eq_true rfl⟩) (preVW hK hPc hDc (ci := 5) rfl rfl) rfl rfl hl.1 rfl (lv_room (Nat.le_of_ble_eq_true rfl)) dX5_readCarry_112 ⟨Nat.le_of_ble_eq_true rfl, Nat.le_of_ble_eq_true rfl⟩) hS (fun q _ h => hFc q h) hFc (fun r39 ur39 t H1 locs ht hvm w40 hB hz1 hk1 hS => ?_)
            obtain ⟨u41, u42, u43, u44, u45⟩ := ur39
            obtain ⟨hP1, hD1⟩ := hB
            rw [ht] at hP1
            obtain ⟨hP, hD⟩ := va_join (wr := [(td, .inr (9, [.int (nI N), .int (nI B), .int (nI D), .ref a1, .ref a2, .ref a3, .ref a4, .ref a5, .ref a6])), (a3, .inl (G 0, 10, .inl g3))]) (w1 := [(h0, .inr (5, [.ref tp, .ref td, .int u41, .int u42, .int x2, .int u43, .int (nI u44), .int (nI u45), .int x6, .int (x7 ||| (1 <<< ((valN f T u6 (u7 - u6)) &&& 31))), .int (mx x8 (valN f T u6 (u7 - u6))), .int (mx x9 (valN f T u17 (u18 - u17)))])), (tp, .inr (7, [.int (nI T), .ref ta])), (ta, .inl (G 0, 320, .inl f))]) hP hD [2, 3, 4] [0, 1] rfl rfl (by decide) (by decide) hk1 hFc hP1 hD1
            generalize H1 = H at hP hS ⊢
            have hP : va_P (dC, dI) vwCl [(td, .inr (9, [.int (nI N), .int (nI B), .int (nI D), .ref a1, .ref a2, .ref a3, .ref a4, .ref a5, .ref a6])), (a3, .inl (G 0, 10, .inl g3)), (h0, .inr (5, [.ref tp, .ref td, .int u41, .int u42, .int x2, .int u43, .int (nI u44), .int (nI u45), .int x6, .int (x7 ||| (1 <<< ((valN f T u6 (u7 - u6)) &&& 31))), .int (mx x8 (valN f T u6 (u7 - u6))), .int (mx x9 (valN f T u17 (u18 - u17)))])), (tp, .inr (7, [.int (nI T), .ref ta])), (ta, .inl (G 0, 320, .inl f))] H := hP
            have hD : va_D A [(td, .inr (9, [.int (nI N), .int (nI B), .int (nI D), .ref a1, .ref a2, .ref a3, .ref a4, .ref a5, .ref a6])), (a3, .inl (G 0, 10, .inl g3)), (h0, .inr (5, [.ref tp, .ref td, .int u41, .int u42, .int x2, .int u43, .int (nI u44), .int (nI u45), .int x6, .int (x7 ||| (1 <<< ((valN f T u6 (u7 - u6)) &&& 31))), .int (mx x8 (valN f T u6 (u7 - u6))), .int (mx x9 (valN f T u17 (u18 - u17)))])), (tp, .inr (7, [.int (nI T), .ref ta])), (ta, .inl (G 0, 320, .inl f))] := hD
            obtain ⟨w40, w40x⟩ := w40
            have vw40 : (tNS f T (u14, u15, u16, u17, u18)).1 = r39 := w40.2.symm
            have ew40 : (tNS f T (u14, u15, u16, u17, u18)).2 = (u41, u42, u43, u44, u45) := w40x.2.2.symm
            have hpost : ((r39 : Int32) = 0 ∨ (r39 : Int32) = 1) ∧ (r39 : Int32) = (cCR f T (x0, x1, x3, F, P) x7 x8 x9 g3).1 := by
              have t_c8 := neI c8
              have t_c11 := neI c11
              have t_c19 := neI c19
              have t_c22 := nltI c22
              have t_c34 := leI c34
              have : (0 : Int32).toInt = 0 := (by decide)
              have : (1 : Int32).toInt = 1 := (by decide)
              have : (10 : Int32).toInt = 10 := (by decide)
              have t_n0 : (nI F).toInt = (F : Int) := nI_toInt (by omega)
              have t_n1 : (nI P).toInt = (P : Int) := nI_toInt (by omega)
              have t_n2 : (nI T).toInt = (T : Int) := nI_toInt (by omega)
              have t_n3 : (nI N).toInt = (N : Int) := nI_toInt (by omega)
              have t_n4 : (nI B).toInt = (B : Int) := nI_toInt (by omega)
              have t_n5 : (nI D).toInt = (D : Int) := nI_toInt (by omega)
              have z0 : (0 : Int32).toInt = 0 := (by decide)
              have z1 : (1 : Int32).toInt = 1 := (by decide)
              have z2 : (2 : Int32).toInt = 2 := (by decide)
              have z3 : (3 : Int32).toInt = 3 := (by decide)
              have z5 : (5 : Int32).toInt = 5 := (by decide)
              have z9 : (9 : Int32).toInt = 9 := (by decide)
              (have b9 := bw2 (by assumption))
              first | (exfalso; omega) | (refine ⟨w40.1, ?_⟩; unfold cCR; (try rw [vw2]); (try rw [ew2]); (try rw [vw13]); (try rw [ew13]); (try rw [vw40]); (try rw [ew40]); (try (repeat (first | rw [if_pos (by assumption)] | rw [if_neg (by assumption)] | rw [if_pos (by omega)] | rw [if_neg (by omega)] | rw [if_pos (by decide)] | rw [if_neg (by decide)]))); all_goals rfl)
            have hP9 := hP.sub (ws' := [(h0, .inr (5, [.ref tp, .ref td, .int u41, .int u42, .int x2, .int u43, .int (nI u44), .int (nI u45), .int x6, .int (x7 ||| (1 <<< ((valN f T u6 (u7 - u6)) &&& 31))), .int (mx x8 (valN f T u6 (u7 - u6))), .int (mx x9 (valN f T u17 (u18 - u17)))])), (tp, .inr (7, [.int (nI T), .ref ta])), (ta, .inl (G 0, 320, .inl f)), (td, .inr (9, [.int (nI N), .int (nI B), .int (nI D), .ref a1, .ref a2, .ref a3, .ref a4, .ref a5, .ref a6])), (a3, .inl (G 0, 10, .inl g3))]) [2, 3, 4, 0, 1] rfl
            have hD9 := hD.sub (ws' := [(h0, .inr (5, [.ref tp, .ref td, .int u41, .int u42, .int x2, .int u43, .int (nI u44), .int (nI u45), .int x6, .int (x7 ||| (1 <<< ((valN f T u6 (u7 - u6)) &&& 31))), .int (mx x8 (valN f T u6 (u7 - u6))), .int (mx x9 (valN f T u17 (u18 - u17)))])), (tp, .inr (7, [.int (nI T), .ref ta])), (ta, .inl (G 0, 320, .inl f)), (td, .inr (9, [.int (nI N), .int (nI B), .int (nI D), .ref a1, .ref a2, .ref a3, .ref a4, .ref a5, .ref a6])), (a3, .inl (G 0, 10, .inl g3))]) [2, 3, 4, 0, 1] (by decide) rfl
            refine W.widen (k := 0) (n := 0) (by omega) (by omega) ?_
            exact W.zret (v := r39) hx hb hr (by first | rfl | decide | exact zn01 w40.1) (fun t ht hW => ⟨⟨r39, (u41, u42, u43, u44, u45, (x7 ||| (1 <<< ((valN f T u6 (u7 - u6)) &&& 31))), (mx x8 (valN f T u6 (u7 - u6))), (mx x9 (valN f T u17 (u18 - u17))), g3), rfl, ⟨hpost, (by have t_c8 := neI c8; have t_c11 := neI c11; have t_c19 := neI c19; have t_c22 := nltI c22; have t_c34 := leI c34; have : (0 : Int32).toInt = 0 := (by decide); have : (1 : Int32).toInt = 1 := (by decide); have : (10 : Int32).toInt = 10 := (by decide); have t_n0 : (nI F).toInt = (F : Int) := nI_toInt (by omega); have t_n1 : (nI P).toInt = (P : Int) := nI_toInt (by omega); have t_n2 : (nI T).toInt = (T : Int) := nI_toInt (by omega); have t_n3 : (nI N).toInt = (N : Int) := nI_toInt (by omega); have t_n4 : (nI B).toInt = (B : Int) := nI_toInt (by omega); have t_n5 : (nI D).toInt = (D : Int) := nI_toInt (by omega); have z0 : (0 : Int32).toInt = 0 := (by decide); have z1 : (1 : Int32).toInt = 1 := (by decide); have z2 : (2 : Int32).toInt = 2 := (by decide); have z3 : (3 : Int32).toInt = 3 := (by decide); have z5 : (5 : Int32).toInt = 5 := (by decide); have z9 : (9 : Int32).toInt = 9 := (by decide); (have b9 := bw2 (by assumption)); first | (exfalso; omega) | (refine ⟨by omega, by omega, ?_⟩; unfold cCR; (try rw [vw2]); (try rw [ew2]); (try rw [vw13]); (try rw [ew13]); (try rw [vw40]); (try rw [ew40]); (try (repeat (first | rw [if_pos (by assumption)] | rw [if_neg (by assumption)] | rw [if_pos (by omega)] | rw [if_neg (by omega)] | rw [if_pos (by decide)] | rw [if_neg (by decide)]))); all_goals rfl))⟩, ⟨by rw [ht]; exact hP9, hD9⟩⟩, hS.F ht⟩) hS.2.2 dX5_readCarry_115
          · skip
            refine lv_aload_n hx hb dX5_readCarry_77 rfl (lv_at hl 2 rfl) ?_
            refine va_get (D := (dC, dI)) (ci := 5) (v := .ref td) (C := RX5) (T := TX5) (N := 12) hx hb hg inG5 hown hK.1 hP 2 rfl rfl 1 (by decide) (hg _ wt_107) (fun _ h9 => h9) rfl dX5_readCarry_78 ?_
            refine va_getN (D := (dC, dI)) (ci := 9) (v := .ref a3) (C := RX9) (T := TX9) (N := 9) hx hb hg inG9 hown hK.1 hP 0 rfl rfl 5 (by decide) (hK.nest wn_79) (fun _ h9 => h9) rfl dX5_readCarry_81 ?_
            refine lv_iload_n hx hb dX5_readCarry_84 rfl (lv_at hl 1 rfl) ?_
            refine lv_iload_n hx hb dX5_readCarry_85 rfl (lv_at hl 0 rfl) ?_
            refine va_iast hx hb hK.1 hP hD hS 1 0 rfl rfl (vp_in_iff.mpr (by have t_c8 := neI c8; have t_c11 := neI c11; have t_c19 := neI c19; have t_c22 := nltI c22; have t_c34 := nleI c34; have : (0 : Int32).toInt = 0 := (by decide); have : (1 : Int32).toInt = 1 := (by decide); have : (10 : Int32).toInt = 10 := (by decide); have t_n0 : (nI F).toInt = (F : Int) := nI_toInt (by omega); have t_n1 : (nI P).toInt = (P : Int) := nI_toInt (by omega); have t_n2 : (nI T).toInt = (T : Int) := nI_toInt (by omega); have t_n3 : (nI N).toInt = (N : Int) := nI_toInt (by omega); have t_n4 : (nI B).toInt = (B : Int) := nI_toInt (by omega); have t_n5 : (nI D).toInt = (D : Int) := nI_toInt (by omega); constructor <;> omega)) dX5_readCarry_86 (fun H locs hP hD hS => ?_)
            have hP : va_P (dC, dI) vwCl [(td, .inr (9, [.int (nI N), .int (nI B), .int (nI D), .ref a1, .ref a2, .ref a3, .ref a4, .ref a5, .ref a6])), (a3, .inl (G 0, 10, .inl (upd g3 (valN f T u6 (u7 - u6)).toNatClampNeg (valN f T u17 (u18 - u17))))), (h0, .inr (5, [.ref tp, .ref td, .int u14, .int u15, .int x2, .int u16, .int (nI u17), .int (nI u18), .int x6, .int (x7 ||| (1 <<< ((valN f T u6 (u7 - u6)) &&& 31))), .int x8, .int x9])), (tp, .inr (7, [.int (nI T), .ref ta])), (ta, .inl (G 0, 320, .inl f))] H := hP
            have hD : va_D A [(td, .inr (9, [.int (nI N), .int (nI B), .int (nI D), .ref a1, .ref a2, .ref a3, .ref a4, .ref a5, .ref a6])), (a3, .inl (G 0, 10, .inl (upd g3 (valN f T u6 (u7 - u6)).toNatClampNeg (valN f T u17 (u18 - u17))))), (h0, .inr (5, [.ref tp, .ref td, .int u14, .int u15, .int x2, .int u16, .int (nI u17), .int (nI u18), .int x6, .int (x7 ||| (1 <<< ((valN f T u6 (u7 - u6)) &&& 31))), .int x8, .int x9])), (tp, .inr (7, [.int (nI T), .ref ta])), (ta, .inl (G 0, 320, .inl f))] := hD
            refine lv_aload_n hx hb dX5_readCarry_87 rfl (lv_at hl 2 rfl) ?_
            refine lv_aload_n hx hb dX5_readCarry_88 rfl (lv_at hl 2 rfl) ?_
            refine va_get (D := (dC, dI)) (ci := 5) (v := .int x8) (C := RX5) (T := TX5) (N := 12) hx hb hg inG5 hown hK.1 hP 2 rfl rfl 10 (by decide) (hg _ wt_120) (fun _ h9 => h9) rfl dX5_readCarry_89 ?_
            refine lv_iload_n hx hb dX5_readCarry_92 rfl (lv_at hl 1 rfl) ?_
            have hPc := hP.sub (ws' := []) [] rfl
            refine va_calli (va_runS (As := [.int x8, .int (valN f T u6 (u7 - u6))]) (rest := [.ref h0]) ⟨hx, hb, hml, hown, hg⟩ (c_J9_max l dC dI G _ x8 (valN f T u6 (u7 - u6)) ) (kwS hg mfJ9_max_7cf53 wt_500 ⟨Nat.le_of_ble_eq_true rfl, Nat.le_of_ble_eq_true rfl⟩) (preSR hK hPc) rfl rfl hl.1 rfl (lv_room (Nat.le_of_ble_eq_true rfl)) dX5_readCarry_93 ⟨Nat.le_of_ble_eq_true rfl, Nat.le_of_ble_eq_true rfl⟩) hS (fun q h1 h2 => absurd h2 (Nat.not_le.mpr h1)) (fun q h => hA q (Nat.le_trans hS.1 h)) (fun r46 ur46 t H1 locs ht hvm w47 hB hz1 hk1 hS => ?_)
            have hP := keepR hP hk1
            obtain ⟨w47, w47x⟩ := w47
            subst w47
            refine va_put (D := (dC, dI)) (ci := 5) (v := .int (mx x8 (valN f T u6 (u7 - u6)))) (ty := .int) (C := RX5) (T := TX5) (N := 12) hx hb hg inG5 tyX5 tyX5_ok nmX5 hown hK.1 hP hD hS 2 rfl rfl 10 (by decide) (hg _ wt_120) (fun _ h9 => h9) rfl (by decide +kernel) rfl rfl (Nat.le_of_ble_eq_true rfl) dX5_readCarry_96 (fun H locs hP hD hS => ?_)
            have hP : va_P (dC, dI) vwCl [(td, .inr (9, [.int (nI N), .int (nI B), .int (nI D), .ref a1, .ref a2, .ref a3, .ref a4, .ref a5, .ref a6])), (a3, .inl (G 0, 10, .inl (upd g3 (valN f T u6 (u7 - u6)).toNatClampNeg (valN f T u17 (u18 - u17))))), (h0, .inr (5, [.ref tp, .ref td, .int u14, .int u15, .int x2, .int u16, .int (nI u17), .int (nI u18), .int x6, .int (x7 ||| (1 <<< ((valN f T u6 (u7 - u6)) &&& 31))), .int (mx x8 (valN f T u6 (u7 - u6))), .int x9])), (tp, .inr (7, [.int (nI T), .ref ta])), (ta, .inl (G 0, 320, .inl f))] H := hP
            have hD : va_D A [(td, .inr (9, [.int (nI N), .int (nI B), .int (nI D), .ref a1, .ref a2, .ref a3, .ref a4, .ref a5, .ref a6])), (a3, .inl (G 0, 10, .inl (upd g3 (valN f T u6 (u7 - u6)).toNatClampNeg (valN f T u17 (u18 - u17))))), (h0, .inr (5, [.ref tp, .ref td, .int u14, .int u15, .int x2, .int u16, .int (nI u17), .int (nI u18), .int x6, .int (x7 ||| (1 <<< ((valN f T u6 (u7 - u6)) &&& 31))), .int (mx x8 (valN f T u6 (u7 - u6))), .int x9])), (tp, .inr (7, [.int (nI T), .ref ta])), (ta, .inl (G 0, 320, .inl f))] := hD
            refine lv_aload_n hx hb dX5_readCarry_99 rfl (lv_at hl 2 rfl) ?_
            refine lv_aload_n hx hb dX5_readCarry_100 rfl (lv_at hl 2 rfl) ?_
            refine va_get (D := (dC, dI)) (ci := 5) (v := .int x9) (C := RX5) (T := TX5) (N := 12) hx hb hg inG5 hown hK.1 hP 2 rfl rfl 11 (by decide) (hg _ wt_121) (fun _ h9 => h9) rfl dX5_readCarry_101 ?_
            refine lv_iload_n hx hb dX5_readCarry_104 rfl (lv_at hl 0 rfl) ?_
            have hPc := hP.sub (ws' := []) [] rfl
            refine va_calli (va_runS (As := [.int x9, .int (valN f T u17 (u18 - u17))]) (rest := [.ref h0]) ⟨hx, hb, hml, hown, hg⟩ (c_J9_max l dC dI G _ x9 (valN f T u17 (u18 - u17)) ) (kwS hg mfJ9_max_7cf53 wt_500 ⟨Nat.le_of_ble_eq_true rfl, Nat.le_of_ble_eq_true rfl⟩) (preSR hK hPc) rfl rfl hl.1 rfl (lv_room (Nat.le_of_ble_eq_true rfl)) dX5_readCarry_105 ⟨Nat.le_of_ble_eq_true rfl, Nat.le_of_ble_eq_true rfl⟩) hS (fun q h1 h2 => absurd h2 (Nat.not_le.mpr h1)) (fun q h => hA q (Nat.le_trans hS.1 h)) (fun r48 ur48 t H1 locs ht hvm w49 hB hz1 hk1 hS => ?_)
            have hP := keepR hP hk1
            obtain ⟨w49, w49x⟩ := w49
            subst w49
            refine va_put (D := (dC, dI)) (ci := 5) (v := .int (mx x9 (valN f T u17 (u18 - u17)))) (ty := .int) (C := RX5) (T := TX5) (N := 12) hx hb hg inG5 tyX5 tyX5_ok nmX5 hown hK.1 hP hD hS 2 rfl rfl 11 (by decide) (hg _ wt_121) (fun _ h9 => h9) rfl (by decide +kernel) rfl rfl (Nat.le_of_ble_eq_true rfl) dX5_readCarry_108 (fun H locs hP hD hS => ?_)
            have hP : va_P (dC, dI) vwCl [(td, .inr (9, [.int (nI N), .int (nI B), .int (nI D), .ref a1, .ref a2, .ref a3, .ref a4, .ref a5, .ref a6])), (a3, .inl (G 0, 10, .inl (upd g3 (valN f T u6 (u7 - u6)).toNatClampNeg (valN f T u17 (u18 - u17))))), (h0, .inr (5, [.ref tp, .ref td, .int u14, .int u15, .int x2, .int u16, .int (nI u17), .int (nI u18), .int x6, .int (x7 ||| (1 <<< ((valN f T u6 (u7 - u6)) &&& 31))), .int (mx x8 (valN f T u6 (u7 - u6))), .int (mx x9 (valN f T u17 (u18 - u17)))])), (tp, .inr (7, [.int (nI T), .ref ta])), (ta, .inl (G 0, 320, .inl f))] H := hP
            have hD : va_D A [(td, .inr (9, [.int (nI N), .int (nI B), .int (nI D), .ref a1, .ref a2, .ref a3, .ref a4, .ref a5, .ref a6])), (a3, .inl (G 0, 10, .inl (upd g3 (valN f T u6 (u7 - u6)).toNatClampNeg (valN f T u17 (u18 - u17))))), (h0, .inr (5, [.ref tp, .ref td, .int u14, .int u15, .int x2, .int u16, .int (nI u17), .int (nI u18), .int x6, .int (x7 ||| (1 <<< ((valN f T u6 (u7 - u6)) &&& 31))), .int (mx x8 (valN f T u6 (u7 - u6))), .int (mx x9 (valN f T u17 (u18 - u17)))])), (tp, .inr (7, [.int (nI T), .ref ta])), (ta, .inl (G 0, 320, .inl f))] := hD
            refine lv_aload_n hx hb dX5_readCarry_111 rfl (lv_at hl 2 rfl) ?_
            have hPc := hP.sub (ws' := [(h0, .inr (5, [.ref tp, .ref td, .int u14, .int u15, .int x2, .int u16, .int (nI u17), .int (nI u18), .int x6, .int (x7 ||| (1 <<< ((valN f T u6 (u7 - u6)) &&& 31))), .int (mx x8 (valN f T u6 (u7 - u6))), .int (mx x9 (valN f T u17 (u18 - u17)))])), (tp, .inr (7, [.int (nI T), .ref ta])), (ta, .inl (G 0, 320, .inl f))]) [2, 3, 4] rfl
            have hDc := hD.sub (ws' := [(h0, .inr (5, [.ref tp, .ref td, .int u14, .int u15, .int x2, .int u16, .int (nI u17), .int (nI u18), .int x6, .int (x7 ||| (1 <<< ((valN f T u6 (u7 - u6)) &&& 31))), .int (mx x8 (valN f T u6 (u7 - u6))), .int (mx x9 (valN f T u17 (u18 - u17)))])), (tp, .inr (7, [.int (nI T), .ref ta])), (ta, .inl (G 0, 320, .inl f))]) [2, 3, 4] (by decide) rfl
            have hFc := va_free (wc := [(h0, .inr (5, [.ref tp, .ref td, .int u14, .int u15, .int x2, .int u16, .int (nI u17), .int (nI u18), .int x6, .int (x7 ||| (1 <<< ((valN f T u6 (u7 - u6)) &&& 31))), .int (mx x8 (valN f T u6 (u7 - u6))), .int (mx x9 (valN f T u17 (u18 - u17)))])), (tp, .inr (7, [.int (nI T), .ref ta])), (ta, .inl (G 0, 320, .inl f))]) hD hS hA [2, 3, 4] rfl
            refine va_calli (va_runV (As := []) (rest := []) ⟨hx, hb, hml, hown, hg⟩ (c_X5_nextStopE l dC dI G _ h0 tp td ta T u18 u14 u15 x2 u16 x6 (x7 ||| (1 <<< ((valN f T u6 (u7 - u6)) &&& 31))) (mx x8 (valN f T u6 (u7 - u6))) (mx x9 (valN f T u17 (u18 - u17))) (nI u17) f (by have t_c8 := neI c8; have t_c11 := neI c11; have t_c19 := neI c19; have t_c22 := nltI c22; have t_c34 := nleI c34; have : (0 : Int32).toInt = 0 := (by decide); have : (1 : Int32).toInt = 1 := (by decide); have : (10 : Int32).toInt = 10 := (by decide); have t_n0 : (nI F).toInt = (F : Int) := nI_toInt (by omega); have t_n1 : (nI P).toInt = (P : Int) := nI_toInt (by omega); have t_n2 : (nI T).toInt = (T : Int) := nI_toInt (by omega); have t_n3 : (nI N).toInt = (N : Int) := nI_toInt (by omega); have t_n4 : (nI B).toInt = (B : Int) := nI_toInt (by omega); have t_n5 : (nI D).toInt = (D : Int) := nI_toInt (by omega); omega) (by have t_c8 := neI c8; have t_c11 := neI c11; have t_c19 := neI c19; have t_c22 := nltI c22; have t_c34 := nleI c34; have : (0 : Int32).toInt = 0 := (by decide); have : (1 : Int32).toInt = 1 := (by decide); have : (10 : Int32).toInt = 10 := (by decide); have t_n0 : (nI F).toInt = (F : Int) := nI_toInt (by omega); have t_n1 : (nI P).toInt = (P : Int) := nI_toInt (by omega); have t_n2 : (nI T).toInt = (T : Int) := nI_toInt (by omega); have t_n3 : (nI N).toInt = (N : Int) := nI_toInt (by omega); have t_n4 : (nI B).toInt = (B : Int) := nI_toInt (by omega); have t_n5 : (nI D).toInt = (D : Int) := nI_toInt (by omega); omega)) (kwV hg mfX5_nextStop wt_463 ⟨Nat.le_of_ble_eq_true rfl, Nat.le_of_ble_eq_true rfl⟩) (preVW hK hPc hDc (ci := 5) rfl rfl) rfl rfl hl.1 rfl (lv_room (Nat.le_of_ble_eq_true rfl)) dX5_readCarry_112 ⟨Nat.le_of_ble_eq_true rfl, Nat.le_of_ble_eq_true rfl⟩) hS (fun q _ h => hFc q h) hFc (fun r50 ur50 t H1 locs ht hvm w51 hB hz1 hk1 hS => ?_)
            obtain ⟨u52, u53, u54, u55, u56⟩ := ur50
            obtain ⟨hP1, hD1⟩ := hB
            rw [ht] at hP1
            obtain ⟨hP, hD⟩ := va_join (wr := [(td, .inr (9, [.int (nI N), .int (nI B), .int (nI D), .ref a1, .ref a2, .ref a3, .ref a4, .ref a5, .ref a6])), (a3, .inl (G 0, 10, .inl (upd g3 (valN f T u6 (u7 - u6)).toNatClampNeg (valN f T u17 (u18 - u17)))))]) (w1 := [(h0, .inr (5, [.ref tp, .ref td, .int u52, .int u53, .int x2, .int u54, .int (nI u55), .int (nI u56), .int x6, .int (x7 ||| (1 <<< ((valN f T u6 (u7 - u6)) &&& 31))), .int (mx x8 (valN f T u6 (u7 - u6))), .int (mx x9 (valN f T u17 (u18 - u17)))])), (tp, .inr (7, [.int (nI T), .ref ta])), (ta, .inl (G 0, 320, .inl f))]) hP hD [2, 3, 4] [0, 1] rfl rfl (by decide) (by decide) hk1 hFc hP1 hD1
            generalize H1 = H at hP hS ⊢
            have hP : va_P (dC, dI) vwCl [(td, .inr (9, [.int (nI N), .int (nI B), .int (nI D), .ref a1, .ref a2, .ref a3, .ref a4, .ref a5, .ref a6])), (a3, .inl (G 0, 10, .inl (upd g3 (valN f T u6 (u7 - u6)).toNatClampNeg (valN f T u17 (u18 - u17))))), (h0, .inr (5, [.ref tp, .ref td, .int u52, .int u53, .int x2, .int u54, .int (nI u55), .int (nI u56), .int x6, .int (x7 ||| (1 <<< ((valN f T u6 (u7 - u6)) &&& 31))), .int (mx x8 (valN f T u6 (u7 - u6))), .int (mx x9 (valN f T u17 (u18 - u17)))])), (tp, .inr (7, [.int (nI T), .ref ta])), (ta, .inl (G 0, 320, .inl f))] H := hP
            have hD : va_D A [(td, .inr (9, [.int (nI N), .int (nI B), .int (nI D), .ref a1, .ref a2, .ref a3, .ref a4, .ref a5, .ref a6])), (a3, .inl (G 0, 10, .inl (upd g3 (valN f T u6 (u7 - u6)).toNatClampNeg (valN f T u17 (u18 - u17))))), (h0, .inr (5, [.ref tp, .ref td, .int u52, .int u53, .int x2, .int u54, .int (nI u55), .int (nI u56), .int x6, .int (x7 ||| (1 <<< ((valN f T u6 (u7 - u6)) &&& 31))), .int (mx x8 (valN f T u6 (u7 - u6))), .int (mx x9 (valN f T u17 (u18 - u17)))])), (tp, .inr (7, [.int (nI T), .ref ta])), (ta, .inl (G 0, 320, .inl f))] := hD
            obtain ⟨w51, w51x⟩ := w51
            have vw51 : (tNS f T (u14, u15, u16, u17, u18)).1 = r50 := w51.2.symm
            have ew51 : (tNS f T (u14, u15, u16, u17, u18)).2 = (u52, u53, u54, u55, u56) := w51x.2.2.symm
            have hpost : ((r50 : Int32) = 0 ∨ (r50 : Int32) = 1) ∧ (r50 : Int32) = (cCR f T (x0, x1, x3, F, P) x7 x8 x9 g3).1 := by
              have t_c8 := neI c8
              have t_c11 := neI c11
              have t_c19 := neI c19
              have t_c22 := nltI c22
              have t_c34 := nleI c34
              have : (0 : Int32).toInt = 0 := (by decide)
              have : (1 : Int32).toInt = 1 := (by decide)
              have : (10 : Int32).toInt = 10 := (by decide)
              have t_n0 : (nI F).toInt = (F : Int) := nI_toInt (by omega)
              have t_n1 : (nI P).toInt = (P : Int) := nI_toInt (by omega)
              have t_n2 : (nI T).toInt = (T : Int) := nI_toInt (by omega)
              have t_n3 : (nI N).toInt = (N : Int) := nI_toInt (by omega)
              have t_n4 : (nI B).toInt = (B : Int) := nI_toInt (by omega)
              have t_n5 : (nI D).toInt = (D : Int) := nI_toInt (by omega)
              have z0 : (0 : Int32).toInt = 0 := (by decide)
              have z1 : (1 : Int32).toInt = 1 := (by decide)
              have z2 : (2 : Int32).toInt = 2 := (by decide)
              have z3 : (3 : Int32).toInt = 3 := (by decide)
              have z5 : (5 : Int32).toInt = 5 := (by decide)
              have z9 : (9 : Int32).toInt = 9 := (by decide)
              (have b9 := bw2 (by assumption))
              first | (exfalso; omega) | (refine ⟨w51.1, ?_⟩; unfold cCR; (try rw [vw2]); (try rw [ew2]); (try rw [vw13]); (try rw [ew13]); (try rw [vw51]); (try rw [ew51]); (try (repeat (first | rw [if_pos (by assumption)] | rw [if_neg (by assumption)] | rw [if_pos (by omega)] | rw [if_neg (by omega)] | rw [if_pos (by decide)] | rw [if_neg (by decide)]))); all_goals rfl)
            have hP9 := hP.sub (ws' := [(h0, .inr (5, [.ref tp, .ref td, .int u52, .int u53, .int x2, .int u54, .int (nI u55), .int (nI u56), .int x6, .int (x7 ||| (1 <<< ((valN f T u6 (u7 - u6)) &&& 31))), .int (mx x8 (valN f T u6 (u7 - u6))), .int (mx x9 (valN f T u17 (u18 - u17)))])), (tp, .inr (7, [.int (nI T), .ref ta])), (ta, .inl (G 0, 320, .inl f)), (td, .inr (9, [.int (nI N), .int (nI B), .int (nI D), .ref a1, .ref a2, .ref a3, .ref a4, .ref a5, .ref a6])), (a3, .inl (G 0, 10, .inl (upd g3 (valN f T u6 (u7 - u6)).toNatClampNeg (valN f T u17 (u18 - u17)))))]) [2, 3, 4, 0, 1] rfl
            have hD9 := hD.sub (ws' := [(h0, .inr (5, [.ref tp, .ref td, .int u52, .int u53, .int x2, .int u54, .int (nI u55), .int (nI u56), .int x6, .int (x7 ||| (1 <<< ((valN f T u6 (u7 - u6)) &&& 31))), .int (mx x8 (valN f T u6 (u7 - u6))), .int (mx x9 (valN f T u17 (u18 - u17)))])), (tp, .inr (7, [.int (nI T), .ref ta])), (ta, .inl (G 0, 320, .inl f)), (td, .inr (9, [.int (nI N), .int (nI B), .int (nI D), .ref a1, .ref a2, .ref a3, .ref a4, .ref a5, .ref a6])), (a3, .inl (G 0, 10, .inl (upd g3 (valN f T u6 (u7 - u6)).toNatClampNeg (valN f T u17 (u18 - u17)))))]) [2, 3, 4, 0, 1] (by decide) rfl
            refine W.widen (k := 0) (n := 0) (by omega) (by omega) ?_
            exact W.zret (v := r50) hx hb hr (by first | rfl | decide | exact zn01 w51.1) (fun t ht hW => ⟨⟨r50, (u52, u53, u54, u55, u56, (x7 ||| (1 <<< ((valN f T u6 (u7 - u6)) &&& 31))), (mx x8 (valN f T u6 (u7 - u6))), (mx x9 (valN f T u17 (u18 - u17))), (upd g3 (valN f T u6 (u7 - u6)).toNatClampNeg (valN f T u17 (u18 - u17)))), rfl, ⟨hpost, (by have t_c8 := neI c8; have t_c11 := neI c11; have t_c19 := neI c19; have t_c22 := nltI c22; have t_c34 := nleI c34; have : (0 : Int32).toInt = 0 := (by decide); have : (1 : Int32).toInt = 1 := (by decide); have : (10 : Int32).toInt = 10 := (by decide); have t_n0 : (nI F).toInt = (F : Int) := nI_toInt (by omega); have t_n1 : (nI P).toInt = (P : Int) := nI_toInt (by omega); have t_n2 : (nI T).toInt = (T : Int) := nI_toInt (by omega); have t_n3 : (nI N).toInt = (N : Int) := nI_toInt (by omega); have t_n4 : (nI B).toInt = (B : Int) := nI_toInt (by omega); have t_n5 : (nI D).toInt = (D : Int) := nI_toInt (by omega); have z0 : (0 : Int32).toInt = 0 := (by decide); have z1 : (1 : Int32).toInt = 1 := (by decide); have z2 : (2 : Int32).toInt = 2 := (by decide); have z3 : (3 : Int32).toInt = 3 := (by decide); have z5 : (5 : Int32).toInt = 5 := (by decide); have z9 : (9 : Int32).toInt = 9 := (by decide); (have b9 := bw2 (by assumption)); first | (exfalso; omega) | (refine ⟨by omega, by omega, ?_⟩; unfold cCR; (try rw [vw2]); (try rw [ew2]); (try rw [vw13]); (try rw [ew13]); (try rw [vw51]); (try rw [ew51]); (try (repeat (first | rw [if_pos (by assumption)] | rw [if_neg (by assumption)] | rw [if_pos (by omega)] | rw [if_neg (by omega)] | rw [if_pos (by decide)] | rw [if_neg (by decide)]))); all_goals rfl))⟩, ⟨by rw [ht]; exact hP9, hD9⟩⟩, hS.F ht⟩) hS.2.2 dX5_readCarry_115
      · skip
        refine lv_iconst (v := 0) hx hb dX5_readCarry_60 (by decide) ?_
        have hpost : ((0 : Int32) = 0 ∨ (0 : Int32) = 1) ∧ (0 : Int32) = (cCR f T (x0, x1, x3, F, P) x7 x8 x9 g3).1 := by
          have t_c8 := neI c8
          have t_c11 := neI c11
          have t_c19 := eqI c19
          have : (0 : Int32).toInt = 0 := (by decide)
          have : (1 : Int32).toInt = 1 := (by decide)
          have t_n0 : (nI F).toInt = (F : Int) := nI_toInt (by omega)
          have t_n1 : (nI P).toInt = (P : Int) := nI_toInt (by omega)
          have t_n2 : (nI T).toInt = (T : Int) := nI_toInt (by omega)
          have t_n3 : (nI N).toInt = (N : Int) := nI_toInt (by omega)
          have t_n4 : (nI B).toInt = (B : Int) := nI_toInt (by omega)
          have t_n5 : (nI D).toInt = (D : Int) := nI_toInt (by omega)
          have z0 : (0 : Int32).toInt = 0 := (by decide)
          have z1 : (1 : Int32).toInt = 1 := (by decide)
          have z2 : (2 : Int32).toInt = 2 := (by decide)
          have z3 : (3 : Int32).toInt = 3 := (by decide)
          have z5 : (5 : Int32).toInt = 5 := (by decide)
          have z9 : (9 : Int32).toInt = 9 := (by decide)
          (have b9 := bw2 (by assumption))
          first | (exfalso; omega) | (refine ⟨Or.inl rfl, ?_⟩; unfold cCR; (try rw [vw2]); (try rw [ew2]); (try rw [vw13]); (try rw [ew13]); (try (repeat (first | rw [if_pos (by assumption)] | rw [if_neg (by assumption)] | rw [if_pos (by omega)] | rw [if_neg (by omega)] | rw [if_pos (by decide)] | rw [if_neg (by decide)]))); all_goals rfl)
        have hP9 := hP.sub (ws' := [(h0, .inr (5, [.ref tp, .ref td, .int u14, .int u15, .int x2, .int u16, .int (nI u17), .int (nI u18), .int x6, .int (x7 ||| (1 <<< ((valN f T u6 (u7 - u6)) &&& 31))), .int x8, .int x9])), (tp, .inr (7, [.int (nI T), .ref ta])), (ta, .inl (G 0, 320, .inl f)), (td, .inr (9, [.int (nI N), .int (nI B), .int (nI D), .ref a1, .ref a2, .ref a3, .ref a4, .ref a5, .ref a6])), (a3, .inl (G 0, 10, .inl g3))]) [2, 3, 4, 0, 1] rfl
        have hD9 := hD.sub (ws' := [(h0, .inr (5, [.ref tp, .ref td, .int u14, .int u15, .int x2, .int u16, .int (nI u17), .int (nI u18), .int x6, .int (x7 ||| (1 <<< ((valN f T u6 (u7 - u6)) &&& 31))), .int x8, .int x9])), (tp, .inr (7, [.int (nI T), .ref ta])), (ta, .inl (G 0, 320, .inl f)), (td, .inr (9, [.int (nI N), .int (nI B), .int (nI D), .ref a1, .ref a2, .ref a3, .ref a4, .ref a5, .ref a6])), (a3, .inl (G 0, 10, .inl g3))]) [2, 3, 4, 0, 1] (by decide) rfl
        refine W.widen (k := 0) (n := 0) (by omega) (by omega) ?_
        exact W.zret (v := 0) hx hb hr (by first | rfl | decide | exact rfl) (fun t ht hW => ⟨⟨0, (u14, u15, u16, u17, u18, (x7 ||| (1 <<< ((valN f T u6 (u7 - u6)) &&& 31))), x8, x9, g3), rfl, ⟨hpost, (by have t_c8 := neI c8; have t_c11 := neI c11; have t_c19 := eqI c19; have : (0 : Int32).toInt = 0 := (by decide); have : (1 : Int32).toInt = 1 := (by decide); have t_n0 : (nI F).toInt = (F : Int) := nI_toInt (by omega); have t_n1 : (nI P).toInt = (P : Int) := nI_toInt (by omega); have t_n2 : (nI T).toInt = (T : Int) := nI_toInt (by omega); have t_n3 : (nI N).toInt = (N : Int) := nI_toInt (by omega); have t_n4 : (nI B).toInt = (B : Int) := nI_toInt (by omega); have t_n5 : (nI D).toInt = (D : Int) := nI_toInt (by omega); have z0 : (0 : Int32).toInt = 0 := (by decide); have z1 : (1 : Int32).toInt = 1 := (by decide); have z2 : (2 : Int32).toInt = 2 := (by decide); have z3 : (3 : Int32).toInt = 3 := (by decide); have z5 : (5 : Int32).toInt = 5 := (by decide); have z9 : (9 : Int32).toInt = 9 := (by decide); (have b9 := bw2 (by assumption)); first | (exfalso; omega) | (refine ⟨by omega, by omega, ?_⟩; unfold cCR; (try rw [vw2]); (try rw [ew2]); (try rw [vw13]); (try rw [ew13]); (try (repeat (first | rw [if_pos (by assumption)] | rw [if_neg (by assumption)] | rw [if_pos (by omega)] | rw [if_neg (by omega)] | rw [if_pos (by decide)] | rw [if_neg (by decide)]))); all_goals rfl))⟩, ⟨by rw [ht]; exact hP9, hD9⟩⟩, hS.F ht⟩) hS.2.2 dX5_readCarry_61
    · skip
      refine lv_aload_n hx hb dX5_readCarry_29 rfl (lv_at hl 1 rfl) ?_
      refine lv_iconst (v := 4) hx hb dX5_readCarry_30 (by decide) ?_
      refine lv_aload_n hx hb dX5_readCarry_31 rfl (lv_at hl 1 rfl) ?_
      refine va_get (D := (dC, dI)) (ci := 5) (v := .int (nI u6)) (C := RX5) (T := TX5) (N := 12) hx hb hg inG5 hown hK.1 hP 2 rfl rfl 6 (by decide) (hg _ wt_116) (fun _ h9 => h9) rfl dX5_readCarry_32 ?_
      have hPc := hP.sub (ws' := [(h0, .inr (5, [.ref tp, .ref td, .int u3, .int u4, .int x2, .int u5, .int (nI u6), .int (nI u7), .int x6, .int x7, .int x8, .int x9]))]) [2] rfl
      have hDc := hD.sub (ws' := [(h0, .inr (5, [.ref tp, .ref td, .int u3, .int u4, .int x2, .int u5, .int (nI u6), .int (nI u7), .int x6, .int x7, .int x8, .int x9]))]) [2] (by decide) rfl
      have hFc := va_free (wc := [(h0, .inr (5, [.ref tp, .ref td, .int u3, .int u4, .int x2, .int u5, .int (nI u6), .int (nI u7), .int x6, .int x7, .int x8, .int x9]))]) hD hS hA [2] rfl
      refine va_calli (va_runV (As := [.int 4, .int (nI u6)]) (rest := []) ⟨hx, hb, hml, hown, hg⟩ (c_X5_refuseE l dC dI G _ h0 tp td u3 u4 x2 u5 (nI u6) (nI u7) x6 x7 x8 x9 4 (nI u6) ) (kwV hg mfX5_refuse wt_386 ⟨Nat.le_of_ble_eq_true rfl, Nat.le_of_ble_eq_true rfl⟩) (preVW hK hPc hDc (ci := 5) rfl rfl) rfl rfl hl.1 rfl (lv_room (Nat.le_of_ble_eq_true rfl)) dX5_readCarry_35 ⟨Nat.le_of_ble_eq_true rfl, Nat.le_of_ble_eq_true rfl⟩) hS (fun q _ h => hFc q h) hFc (fun r57 ur57 t H1 locs ht hvm w58 hB hz1 hk1 hS => ?_)
      obtain ⟨u59, u60⟩ := ur57
      obtain ⟨hP1, hD1⟩ := hB
      rw [ht] at hP1
      obtain ⟨hP, hD⟩ := va_join (wr := [(td, .inr (9, [.int (nI N), .int (nI B), .int (nI D), .ref a1, .ref a2, .ref a3, .ref a4, .ref a5, .ref a6])), (a3, .inl (G 0, 10, .inl g3)), (tp, .inr (7, [.int (nI T), .ref ta])), (ta, .inl (G 0, 320, .inl f))]) (w1 := [(h0, .inr (5, [.ref tp, .ref td, .int u59, .int u60, .int x2, .int u5, .int (nI u6), .int (nI u7), .int x6, .int x7, .int x8, .int x9]))]) hP hD [2] [0, 1, 3, 4] rfl rfl (by decide) (by decide) hk1 hFc hP1 hD1
      generalize H1 = H at hP hS ⊢
      have hP : va_P (dC, dI) vwCl [(td, .inr (9, [.int (nI N), .int (nI B), .int (nI D), .ref a1, .ref a2, .ref a3, .ref a4, .ref a5, .ref a6])), (a3, .inl (G 0, 10, .inl g3)), (tp, .inr (7, [.int (nI T), .ref ta])), (ta, .inl (G 0, 320, .inl f)), (h0, .inr (5, [.ref tp, .ref td, .int u59, .int u60, .int x2, .int u5, .int (nI u6), .int (nI u7), .int x6, .int x7, .int x8, .int x9]))] H := hP
      have hD : va_D A [(td, .inr (9, [.int (nI N), .int (nI B), .int (nI D), .ref a1, .ref a2, .ref a3, .ref a4, .ref a5, .ref a6])), (a3, .inl (G 0, 10, .inl g3)), (tp, .inr (7, [.int (nI T), .ref ta])), (ta, .inl (G 0, 320, .inl f)), (h0, .inr (5, [.ref tp, .ref td, .int u59, .int u60, .int x2, .int u5, .int (nI u6), .int (nI u7), .int x6, .int x7, .int x8, .int x9]))] := hD
      obtain ⟨w58, w58x⟩ := w58
      subst w58
      have ew58 : cRF 4 (u3, u4, u5, u6, u7) = (u59, u60, u5, u6, u7) := (by show (flB _ _, flP _ _ _, _, _, _) = _; rw [← w58x.1, ← w58x.2])
      have hpost : ((0 : Int32) = 0 ∨ (0 : Int32) = 1) ∧ (0 : Int32) = (cCR f T (x0, x1, x3, F, P) x7 x8 x9 g3).1 := by
        have t_c8 := neI c8
        have t_c11 := eqI c11
        have : (0 : Int32).toInt = 0 := (by decide)
        have : (1 : Int32).toInt = 1 := (by decide)
        have t_n0 : (nI F).toInt = (F : Int) := nI_toInt (by omega)
        have t_n1 : (nI P).toInt = (P : Int) := nI_toInt (by omega)
        have t_n2 : (nI T).toInt = (T : Int) := nI_toInt (by omega)
        have t_n3 : (nI N).toInt = (N : Int) := nI_toInt (by omega)
        have t_n4 : (nI B).toInt = (B : Int) := nI_toInt (by omega)
        have t_n5 : (nI D).toInt = (D : Int) := nI_toInt (by omega)
        have z0 : (0 : Int32).toInt = 0 := (by decide)
        have z1 : (1 : Int32).toInt = 1 := (by decide)
        have z2 : (2 : Int32).toInt = 2 := (by decide)
        have z3 : (3 : Int32).toInt = 3 := (by decide)
        have z5 : (5 : Int32).toInt = 5 := (by decide)
        have z9 : (9 : Int32).toInt = 9 := (by decide)
        first | (exfalso; omega) | (refine ⟨Or.inl rfl, ?_⟩; unfold cCR; (try rw [vw2]); (try rw [ew2]); (try rw [ew58]); (try (repeat (first | rw [if_pos (by assumption)] | rw [if_neg (by assumption)] | rw [if_pos (by omega)] | rw [if_neg (by omega)] | rw [if_pos (by decide)] | rw [if_neg (by decide)]))); all_goals rfl)
      have hP9 := hP.sub (ws' := [(h0, .inr (5, [.ref tp, .ref td, .int u59, .int u60, .int x2, .int u5, .int (nI u6), .int (nI u7), .int x6, .int x7, .int x8, .int x9])), (tp, .inr (7, [.int (nI T), .ref ta])), (ta, .inl (G 0, 320, .inl f)), (td, .inr (9, [.int (nI N), .int (nI B), .int (nI D), .ref a1, .ref a2, .ref a3, .ref a4, .ref a5, .ref a6])), (a3, .inl (G 0, 10, .inl g3))]) [4, 2, 3, 0, 1] rfl
      have hD9 := hD.sub (ws' := [(h0, .inr (5, [.ref tp, .ref td, .int u59, .int u60, .int x2, .int u5, .int (nI u6), .int (nI u7), .int x6, .int x7, .int x8, .int x9])), (tp, .inr (7, [.int (nI T), .ref ta])), (ta, .inl (G 0, 320, .inl f)), (td, .inr (9, [.int (nI N), .int (nI B), .int (nI D), .ref a1, .ref a2, .ref a3, .ref a4, .ref a5, .ref a6])), (a3, .inl (G 0, 10, .inl g3))]) [4, 2, 3, 0, 1] (by decide) rfl
      refine W.widen (k := 0) (n := 0) (by omega) (by omega) ?_
      exact W.zret (v := 0) hx hb hr (by first | rfl | decide | exact rfl) (fun t ht hW => ⟨⟨0, (u59, u60, u5, u6, u7, x7, x8, x9, g3), rfl, ⟨hpost, (by have t_c8 := neI c8; have t_c11 := eqI c11; have : (0 : Int32).toInt = 0 := (by decide); have : (1 : Int32).toInt = 1 := (by decide); have t_n0 : (nI F).toInt = (F : Int) := nI_toInt (by omega); have t_n1 : (nI P).toInt = (P : Int) := nI_toInt (by omega); have t_n2 : (nI T).toInt = (T : Int) := nI_toInt (by omega); have t_n3 : (nI N).toInt = (N : Int) := nI_toInt (by omega); have t_n4 : (nI B).toInt = (B : Int) := nI_toInt (by omega); have t_n5 : (nI D).toInt = (D : Int) := nI_toInt (by omega); have z0 : (0 : Int32).toInt = 0 := (by decide); have z1 : (1 : Int32).toInt = 1 := (by decide); have z2 : (2 : Int32).toInt = 2 := (by decide); have z3 : (3 : Int32).toInt = 3 := (by decide); have z5 : (5 : Int32).toInt = 5 := (by decide); have z9 : (9 : Int32).toInt = 9 := (by decide); first | (exfalso; omega) | (refine ⟨by omega, by omega, ?_⟩; unfold cCR; (try rw [vw2]); (try rw [ew2]); (try rw [ew58]); (try (repeat (first | rw [if_pos (by assumption)] | rw [if_neg (by assumption)] | rw [if_pos (by omega)] | rw [if_neg (by omega)] | rw [if_pos (by decide)] | rw [if_neg (by decide)]))); all_goals rfl))⟩, ⟨by rw [ht]; exact hP9, hD9⟩⟩, hS.F ht⟩) hS.2.2 dX5_readCarry_38
  · skip
    refine lv_iconst (v := 0) hx hb dX5_readCarry_10 (by decide) ?_
    have hpost : ((0 : Int32) = 0 ∨ (0 : Int32) = 1) ∧ (0 : Int32) = (cCR f T (x0, x1, x3, F, P) x7 x8 x9 g3).1 := by
      have t_c8 := eqI c8
      have : (0 : Int32).toInt = 0 := (by decide)
      have t_n0 : (nI F).toInt = (F : Int) := nI_toInt (by omega)
      have t_n1 : (nI P).toInt = (P : Int) := nI_toInt (by omega)
      have t_n2 : (nI T).toInt = (T : Int) := nI_toInt (by omega)
      have t_n3 : (nI N).toInt = (N : Int) := nI_toInt (by omega)
      have t_n4 : (nI B).toInt = (B : Int) := nI_toInt (by omega)
      have t_n5 : (nI D).toInt = (D : Int) := nI_toInt (by omega)
      have z0 : (0 : Int32).toInt = 0 := (by decide)
      have z1 : (1 : Int32).toInt = 1 := (by decide)
      have z2 : (2 : Int32).toInt = 2 := (by decide)
      have z3 : (3 : Int32).toInt = 3 := (by decide)
      have z5 : (5 : Int32).toInt = 5 := (by decide)
      have z9 : (9 : Int32).toInt = 9 := (by decide)
      first | (exfalso; omega) | (refine ⟨Or.inl rfl, ?_⟩; unfold cCR; (try rw [vw2]); (try rw [ew2]); (try (repeat (first | rw [if_pos (by assumption)] | rw [if_neg (by assumption)] | rw [if_pos (by omega)] | rw [if_neg (by omega)] | rw [if_pos (by decide)] | rw [if_neg (by decide)]))); all_goals rfl)
    have hP9 := hP.sub (ws' := [(h0, .inr (5, [.ref tp, .ref td, .int u3, .int u4, .int x2, .int u5, .int (nI u6), .int (nI u7), .int x6, .int x7, .int x8, .int x9])), (tp, .inr (7, [.int (nI T), .ref ta])), (ta, .inl (G 0, 320, .inl f)), (td, .inr (9, [.int (nI N), .int (nI B), .int (nI D), .ref a1, .ref a2, .ref a3, .ref a4, .ref a5, .ref a6])), (a3, .inl (G 0, 10, .inl g3))]) [2, 3, 4, 0, 1] rfl
    have hD9 := hD.sub (ws' := [(h0, .inr (5, [.ref tp, .ref td, .int u3, .int u4, .int x2, .int u5, .int (nI u6), .int (nI u7), .int x6, .int x7, .int x8, .int x9])), (tp, .inr (7, [.int (nI T), .ref ta])), (ta, .inl (G 0, 320, .inl f)), (td, .inr (9, [.int (nI N), .int (nI B), .int (nI D), .ref a1, .ref a2, .ref a3, .ref a4, .ref a5, .ref a6])), (a3, .inl (G 0, 10, .inl g3))]) [2, 3, 4, 0, 1] (by decide) rfl
    refine W.widen (k := 0) (n := 0) (by omega) (by omega) ?_
    exact W.zret (v := 0) hx hb hr (by first | rfl | decide | exact rfl) (fun t ht hW => ⟨⟨0, (u3, u4, u5, u6, u7, x7, x8, x9, g3), rfl, ⟨hpost, (by have t_c8 := eqI c8; have : (0 : Int32).toInt = 0 := (by decide); have t_n0 : (nI F).toInt = (F : Int) := nI_toInt (by omega); have t_n1 : (nI P).toInt = (P : Int) := nI_toInt (by omega); have t_n2 : (nI T).toInt = (T : Int) := nI_toInt (by omega); have t_n3 : (nI N).toInt = (N : Int) := nI_toInt (by omega); have t_n4 : (nI B).toInt = (B : Int) := nI_toInt (by omega); have t_n5 : (nI D).toInt = (D : Int) := nI_toInt (by omega); have z0 : (0 : Int32).toInt = 0 := (by decide); have z1 : (1 : Int32).toInt = 1 := (by decide); have z2 : (2 : Int32).toInt = 2 := (by decide); have z3 : (3 : Int32).toInt = 3 := (by decide); have z5 : (5 : Int32).toInt = 5 := (by decide); have z9 : (9 : Int32).toInt = 9 := (by decide); first | (exfalso; omega) | (refine ⟨by omega, by omega, ?_⟩; unfold cCR; (try rw [vw2]); (try rw [ew2]); (try (repeat (first | rw [if_pos (by assumption)] | rw [if_neg (by assumption)] | rw [if_pos (by omega)] | rw [if_neg (by omega)] | rw [if_pos (by decide)] | rw [if_neg (by decide)]))); all_goals rfl))⟩, ⟨by rw [ht]; exact hP9, hD9⟩⟩, hS.F ht⟩) hS.2.2 dX5_readCarry_11
