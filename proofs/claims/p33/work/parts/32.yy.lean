set_option maxHeartbeats 4000000 in
set_option maxRecDepth 100000 in
theorem c_X10_sureE (l : Launch) (dC : Nat → ClassId) (dI : Nat → Nat → Nat) (G : Nat → ClassId) (sz : Nat) (h0 rd wy tr im kp od ch cr le mk tl sh ti to a1 a2 a3 a4 a5 a6 N B D m1 m2 S : Nat) (tf rf what tt : Int32) (f1 f2 f3 f4 f5 f6 z1 z2 : Nat → Int32) (ri ro : Nat → Nat) (F E : Nat → Nat → Int32) (hN_N : N ≤ 10) (hB_B : B ≤ 6) (hD_D : 1 ≤ D ∧ D ≤ 9) (hS0 : S ≤ 6) : Met l yX10_sure (Cond.code yX10_sure cX10_sure 5 (some .int) :: GT) ({ frames := 5, cells := 0, slots := 0, locals := 112 } : Room) (PcW [.ref h0, .int what] dC dI G (([(h0, .inr (10, [.ref rd, .ref wy, .ref tr, .ref im, .ref kp, .ref od, .ref ch, .ref cr, .ref le, .ref mk, .ref tl, .ref sh, .int tf, .int rf])), (tl, .inr (8, [.int tt, .ref ti, .ref to])), (ti, .inl (G 4, 11, .inr (.inr (.inr (.inr (fun ir => if ir < 11 then some (ri ir) else none)))))), (to, .inl (G 4, 11, .inr (.inr (.inr (.inr (fun ir => if ir < 11 then some (ro ir) else none)))))), (wy, .inr (9, [.int (nI N), .int (nI B), .int (nI D), .ref a1, .ref a2, .ref a3, .ref a4, .ref a5, .ref a6])), (a1, .inl (G 0, 10, .inl f1)), (a2, .inl (G 0, 10, .inl f2)), (a3, .inl (G 0, 10, .inl f3)), (a4, .inl (G 0, 6, .inl f4)), (a5, .inl (G 0, 6, .inl f5)), (a6, .inl (G 0, 6, .inl f6)), (mk, .inr (3, [.int (nI S), .ref m1, .ref m2])), (m1, .inl (G 0, 6, .inl z1)), (m2, .inl (G 0, 6, .inl z2))] : va_W) ++ ((((List.range 11).map (fun iq => (ri iq, .inl (G 0, 10, .inl (F iq))))) : va_W) ++ ((((List.range 11).map (fun iq => (ro iq, .inl (G 0, 10, .inl (E iq))))) : va_W) ++ []))) sz) (va_Qi (fun (r : Int32) (u : Int32 × (Nat → Nat → Int32) × (Nat → Nat → Int32)) => match u with | (u0, u1, u2) => (r = if (0 ≤ what.toInt ∧ what.toInt ≤ 1) then (if (onS (fun jb => hmO N B f1 f2 f3 f4 f5 f6 (nI jb)) (fun ib qb => alB z1 z2 (nI ib) (nI qb) S) N N D) = 0 then -4 else eyR (fun ib => decide ((if what = 0 then (if hmO N B f1 f2 f3 f4 f5 f6 (nI ib) = 0 then 0 else faF (inS (fun jb => hmO N B f1 f2 f3 f4 f5 f6 (nI jb)) (fun ib qb => alB z1 z2 (nI ib) (nI qb) S) D ib) (onD ((fun ib qb => alB z1 z2 (nI ib) (nI qb) S) ib) (onS (fun jb => hmO N B f1 f2 f3 f4 f5 f6 (nI jb)) (fun ib qb => alB z1 z2 (nI ib) (nI qb) S) N (N - (ib + 1)))) 9) else (if hmO N B f1 f2 f3 f4 f5 f6 (nI ib) = 20 then 0 else riF (inS (fun jb => hmO N B f1 f2 f3 f4 f5 f6 (nI jb)) (fun ib qb => alB z1 z2 (nI ib) (nI qb) S) D ib) (onD ((fun ib qb => alB z1 z2 (nI ib) (nI qb) S) ib) (onS (fun jb => hmO N B f1 f2 f3 f4 f5 f6 (nI jb)) (fun ib qb => alB z1 z2 (nI ib) (nI qb) S) N (N - (ib + 1)))) 9)) = (onS (fun jb => hmO N B f1 f2 f3 f4 f5 f6 (nI jb)) (fun ib qb => alB z1 z2 (nI ib) (nI qb) S) N N D))) N) else -1) ∧ True) (fun (u : Int32 × (Nat → Nat → Int32) × (Nat → Nat → Int32)) (t : State) => match u with | (u0, u1, u2) => va_P (dC, dI) vwCl (([(h0, .inr (10, [.ref rd, .ref wy, .ref tr, .ref im, .ref kp, .ref od, .ref ch, .ref cr, .ref le, .ref mk, .ref tl, .ref sh, .int tf, .int rf])), (tl, .inr (8, [.int u0, .ref ti, .ref to])), (ti, .inl (G 4, 11, .inr (.inr (.inr (.inr (fun ir => if ir < 11 then some (ri ir) else none)))))), (to, .inl (G 4, 11, .inr (.inr (.inr (.inr (fun ir => if ir < 11 then some (ro ir) else none)))))), (wy, .inr (9, [.int (nI N), .int (nI B), .int (nI D), .ref a1, .ref a2, .ref a3, .ref a4, .ref a5, .ref a6])), (a1, .inl (G 0, 10, .inl f1)), (a2, .inl (G 0, 10, .inl f2)), (a3, .inl (G 0, 10, .inl f3)), (a4, .inl (G 0, 6, .inl f4)), (a5, .inl (G 0, 6, .inl f5)), (a6, .inl (G 0, 6, .inl f6)), (mk, .inr (3, [.int (nI S), .ref m1, .ref m2])), (m1, .inl (G 0, 6, .inl z1)), (m2, .inl (G 0, 6, .inl z2))] : va_W) ++ ((((List.range 11).map (fun iq => (ri iq, .inl (G 0, 10, .inl (u1 iq))))) : va_W) ++ ((((List.range 11).map (fun iq => (ro iq, .inl (G 0, 10, .inl (u2 iq))))) : va_W) ++ []))) t.heap ∧ va_D (va_A (([(h0, .inr (10, [.ref rd, .ref wy, .ref tr, .ref im, .ref kp, .ref od, .ref ch, .ref cr, .ref le, .ref mk, .ref tl, .ref sh, .int tf, .int rf])), (tl, .inr (8, [.int tt, .ref ti, .ref to])), (ti, .inl (G 4, 11, .inr (.inr (.inr (.inr (fun ir => if ir < 11 then some (ri ir) else none)))))), (to, .inl (G 4, 11, .inr (.inr (.inr (.inr (fun ir => if ir < 11 then some (ro ir) else none)))))), (wy, .inr (9, [.int (nI N), .int (nI B), .int (nI D), .ref a1, .ref a2, .ref a3, .ref a4, .ref a5, .ref a6])), (a1, .inl (G 0, 10, .inl f1)), (a2, .inl (G 0, 10, .inl f2)), (a3, .inl (G 0, 10, .inl f3)), (a4, .inl (G 0, 6, .inl f4)), (a5, .inl (G 0, 6, .inl f5)), (a6, .inl (G 0, 6, .inl f6)), (mk, .inr (3, [.int (nI S), .ref m1, .ref m2])), (m1, .inl (G 0, 6, .inl z1)), (m2, .inl (G 0, 6, .inl z2))] : va_W) ++ ((((List.range 11).map (fun iq => (ri iq, .inl (G 0, 10, .inl (F iq))))) : va_W) ++ ((((List.range 11).map (fun iq => (ro iq, .inl (G 0, 10, .inl (E iq))))) : va_W) ++ []))) sz) (([(h0, .inr (10, [.ref rd, .ref wy, .ref tr, .ref im, .ref kp, .ref od, .ref ch, .ref cr, .ref le, .ref mk, .ref tl, .ref sh, .int tf, .int rf])), (tl, .inr (8, [.int u0, .ref ti, .ref to])), (ti, .inl (G 4, 11, .inr (.inr (.inr (.inr (fun ir => if ir < 11 then some (ri ir) else none)))))), (to, .inl (G 4, 11, .inr (.inr (.inr (.inr (fun ir => if ir < 11 then some (ro ir) else none)))))), (wy, .inr (9, [.int (nI N), .int (nI B), .int (nI D), .ref a1, .ref a2, .ref a3, .ref a4, .ref a5, .ref a6])), (a1, .inl (G 0, 10, .inl f1)), (a2, .inl (G 0, 10, .inl f2)), (a3, .inl (G 0, 10, .inl f3)), (a4, .inl (G 0, 6, .inl f4)), (a5, .inl (G 0, 6, .inl f5)), (a6, .inl (G 0, 6, .inl f6)), (mk, .inr (3, [.int (nI S), .ref m1, .ref m2])), (m1, .inl (G 0, 6, .inl z1)), (m2, .inl (G 0, 6, .inl z2))] : va_W) ++ ((((List.range 11).map (fun iq => (ri iq, .inl (G 0, 10, .inl (u1 iq))))) : va_W) ++ ((((List.range 11).map (fun iq => (ro iq, .inl (G 0, 10, .inl (u2 iq))))) : va_W) ++ [])))) (va_A (([(h0, .inr (10, [.ref rd, .ref wy, .ref tr, .ref im, .ref kp, .ref od, .ref ch, .ref cr, .ref le, .ref mk, .ref tl, .ref sh, .int tf, .int rf])), (tl, .inr (8, [.int tt, .ref ti, .ref to])), (ti, .inl (G 4, 11, .inr (.inr (.inr (.inr (fun ir => if ir < 11 then some (ri ir) else none)))))), (to, .inl (G 4, 11, .inr (.inr (.inr (.inr (fun ir => if ir < 11 then some (ro ir) else none)))))), (wy, .inr (9, [.int (nI N), .int (nI B), .int (nI D), .ref a1, .ref a2, .ref a3, .ref a4, .ref a5, .ref a6])), (a1, .inl (G 0, 10, .inl f1)), (a2, .inl (G 0, 10, .inl f2)), (a3, .inl (G 0, 10, .inl f3)), (a4, .inl (G 0, 6, .inl f4)), (a5, .inl (G 0, 6, .inl f5)), (a6, .inl (G 0, 6, .inl f6)), (mk, .inr (3, [.int (nI S), .ref m1, .ref m2])), (m1, .inl (G 0, 6, .inl z1)), (m2, .inl (G 0, 6, .inl z2))] : va_W) ++ ((((List.range 11).map (fun iq => (ri iq, .inl (G 0, 10, .inl (F iq))))) : va_W) ++ ((((List.range 11).map (fun iq => (ro iq, .inl (G 0, 10, .inl (E iq))))) : va_W) ++ []))) sz)) 0 0 (va_A (([(h0, .inr (10, [.ref rd, .ref wy, .ref tr, .ref im, .ref kp, .ref od, .ref ch, .ref cr, .ref le, .ref mk, .ref tl, .ref sh, .int tf, .int rf])), (tl, .inr (8, [.int tt, .ref ti, .ref to])), (ti, .inl (G 4, 11, .inr (.inr (.inr (.inr (fun ir => if ir < 11 then some (ri ir) else none)))))), (to, .inl (G 4, 11, .inr (.inr (.inr (.inr (fun ir => if ir < 11 then some (ro ir) else none)))))), (wy, .inr (9, [.int (nI N), .int (nI B), .int (nI D), .ref a1, .ref a2, .ref a3, .ref a4, .ref a5, .ref a6])), (a1, .inl (G 0, 10, .inl f1)), (a2, .inl (G 0, 10, .inl f2)), (a3, .inl (G 0, 10, .inl f3)), (a4, .inl (G 0, 6, .inl f4)), (a5, .inl (G 0, 6, .inl f5)), (a6, .inl (G 0, 6, .inl f6)), (mk, .inr (3, [.int (nI S), .ref m1, .ref m2])), (m1, .inl (G 0, 6, .inl z1)), (m2, .inl (G 0, 6, .inl z2))] : va_W) ++ ((((List.range 11).map (fun iq => (ri iq, .inl (G 0, 10, .inl (F iq))))) : va_W) ++ ((((List.range 11).map (fun iq => (ro iq, .inl (G 0, 10, .inl (E iq))))) : va_W) ++ []))) sz) := by
  have tn2511_ : nIT N := fun _ => nI_toInt (by omega)
  have tn2512_ : nIT B := fun _ => nI_toInt (by omega)
  have tn2513_ : nIT D := fun _ => nI_toInt (by omega)
  have tn2514_ : nIT S := fun _ => nI_toInt (by omega)
  refine Met.ofW (cc := cX10_sure) (maxL := 5) (ret := (some .int)) (by decide) rfl ?_
  intro p e s m args below meth c s₁ Bd hml hv
  obtain ⟨rfl, hsz, hP, hK, hD0⟩ := hv
  have hx := Bd.exec
  have hb := Bd.bytes
  have hr := Bd.returns
  have hg : ∀ w ∈ GT, w.before ([.ref h0, .int what] : List Value).toArray s = true := fun w h => atoms_spec (ws := Cond.code yX10_sure cX10_sure 5 (some .int) :: GT) Bd.pre w (List.mem_cons_of_mem _ h)
  have hown : s.vm.findClass RX10 = some m.cls := findClass_of_methodNamed Bd.named
  have hlocks := Bd.notSynchronized
  subst hsz
  have hD := hD0.self (sz := s.heap.size)
  generalize hAe : va_A (([(h0, .inr (10, [.ref rd, .ref wy, .ref tr, .ref im, .ref kp, .ref od, .ref ch, .ref cr, .ref le, .ref mk, .ref tl, .ref sh, .int tf, .int rf])), (tl, .inr (8, [.int tt, .ref ti, .ref to])), (ti, .inl (G 4, 11, .inr (.inr (.inr (.inr (fun ir => if ir < 11 then some (ri ir) else none)))))), (to, .inl (G 4, 11, .inr (.inr (.inr (.inr (fun ir => if ir < 11 then some (ro ir) else none)))))), (wy, .inr (9, [.int (nI N), .int (nI B), .int (nI D), .ref a1, .ref a2, .ref a3, .ref a4, .ref a5, .ref a6])), (a1, .inl (G 0, 10, .inl f1)), (a2, .inl (G 0, 10, .inl f2)), (a3, .inl (G 0, 10, .inl f3)), (a4, .inl (G 0, 6, .inl f4)), (a5, .inl (G 0, 6, .inl f5)), (a6, .inl (G 0, 6, .inl f6)), (mk, .inr (3, [.int (nI S), .ref m1, .ref m2])), (m1, .inl (G 0, 6, .inl z1)), (m2, .inl (G 0, 6, .inl z2))] : va_W) ++ ((((List.range 11).map (fun iq => (ri iq, .inl (G 0, 10, .inl (F iq))))) : va_W) ++ ((((List.range 11).map (fun iq => (ro iq, .inl (G 0, 10, .inl (E iq))))) : va_W) ++ []))) s.heap.size = A at hD ⊢
  have hA : ∀ q : Nat, s.heap.size ≤ q → A q := fun q h => by rw [← hAe]; exact Or.inr h
  have hS : va_S A s.heap s.heap [] := va_S.rf
  have hl := lv_entry ([.ref h0, .int what]) (n := 5) (Nat.le_of_ble_eq_true rfl)
  rw [lg_entry_eq]
  generalize (lg_sl ([.ref h0, .int what]) ++ List.replicate (5 - (lg_sl ([.ref h0, .int what])).length) Slot.unset).toArray = ls at hl ⊢
  have hl : lv_has ls 5 [(0, .ref h0), (1, .int what)] := hl
  refine lv_iload_n hx hb dX10_sure_0 rfl (lv_at hl 1 rfl) ?_
  have hPc := hP.sub (ws' := []) [] rfl
  refine va_calli (va_runS (As := [.int what]) (rest := []) ⟨hx, hb, hml, hown, hg⟩ (c_X10_isFractionPart l dC dI G _ what) (kwS hg mfX10_isFractionPart wt_604 ⟨Nat.le_of_ble_eq_true rfl, Nat.le_of_ble_eq_true rfl⟩) (preSR hK hPc) rfl rfl hl.1 rfl (lv_room (Nat.le_of_ble_eq_true rfl)) dX10_sure_1 ⟨Nat.le_of_ble_eq_true rfl, Nat.le_of_ble_eq_true rfl⟩) hS (fun q h1 h2 => absurd h2 (Nat.not_le.mpr h1)) (fun q h => hA q (Nat.le_trans hS.1 h)) (fun r1 ur1 t H1 locs ht hvm w2 hB hz1 hk1 hS => ?_)
  have hP := keepR hP hk1
  obtain ⟨w2, w2x⟩ := w2
  try simp only [l_ii, show (0 : Int32).toInt = 0 from by decide, show (1 : Int32).toInt = 1 from by decide] at w2
  subst w2
  refine lv_if_ne (tgt := 9) hx hb dX10_sure_4 rfl (fun c3 => ?_) (fun c3 => ?_)
  · skip
    have b4 := if10_p c3
    refine lv_aload_n hx hb dX10_sure_9 rfl (lv_at hl 0 rfl) ?_
    refine va_get (D := (dC, dI)) (ci := 10) (v := .ref tl) (C := RX10) (T := TX10) (N := 14) hx hb hg inG10 hown hK.1 hP 0 rfl rfl 10 (Nat.le_of_ble_eq_true rfl) (hg _ wt_312) (fun _ h9 => h9) rfl dX10_sure_10 ?_
    refine lv_aload_n hx hb dX10_sure_13 rfl (lv_at hl 0 rfl) ?_
    refine va_get (D := (dC, dI)) (ci := 10) (v := .ref wy) (C := RX10) (T := TX10) (N := 14) hx hb hg inG10 hown hK.1 hP 0 rfl rfl 1 (Nat.le_of_ble_eq_true rfl) (hg _ wt_303) (fun _ h9 => h9) rfl dX10_sure_14 ?_
    refine lv_aload_n hx hb dX10_sure_17 rfl (lv_at hl 0 rfl) ?_
    refine va_get (D := (dC, dI)) (ci := 10) (v := .ref mk) (C := RX10) (T := TX10) (N := 14) hx hb hg inG10 hown hK.1 hP 0 rfl rfl 9 (Nat.le_of_ble_eq_true rfl) (hg _ wt_311) (fun _ h9 => h9) rfl dX10_sure_18 ?_
    obtain ⟨hPc, hDc, hFc⟩ := va_sub3 (ws' := (([(tl, .inr (8, [.int tt, .ref ti, .ref to])), (ti, .inl (G 4, 11, .inr (.inr (.inr (.inr (fun ir => if ir < 11 then some (ri ir) else none)))))), (to, .inl (G 4, 11, .inr (.inr (.inr (.inr (fun ir => if ir < 11 then some (ro ir) else none)))))), (wy, .inr (9, [.int (nI N), .int (nI B), .int (nI D), .ref a1, .ref a2, .ref a3, .ref a4, .ref a5, .ref a6])), (a1, .inl (G 0, 10, .inl f1)), (a2, .inl (G 0, 10, .inl f2)), (a3, .inl (G 0, 10, .inl f3)), (a4, .inl (G 0, 6, .inl f4)), (a5, .inl (G 0, 6, .inl f5)), (a6, .inl (G 0, 6, .inl f6)), (mk, .inr (3, [.int (nI S), .ref m1, .ref m2])), (m1, .inl (G 0, 6, .inl z1)), (m2, .inl (G 0, 6, .inl z2))] : va_W) ++ ((((List.range 11).map (fun iq => (ri iq, .inl (G 0, 10, .inl (F iq))))) : va_W) ++ ((((List.range 11).map (fun iq => (ro iq, .inl (G 0, 10, .inl (E iq))))) : va_W) ++ [])))) hP hD hS hA [1, 2, 3, 4, 5, 6, 7, 8, 9, 10, 11, 12, 13, 14, 15, 16, 17, 18, 19, 20, 21, 22, 23, 24, 25, 26, 27, 28, 29, 30, 31, 32, 33, 34, 35] (by decide +kernel) rfl
    refine va_callv (va_runVN (As := [.ref wy, .ref mk]) (rest := []) ⟨hx, hb, hml, hown, hg⟩ (c_X8_exploreE l dC dI G _ tl ti to wy a1 a2 a3 a4 a5 a6 N B D mk m1 m2 S tt f1 f2 f3 f4 f5 f6 z1 z2 ri ro F E hN_N hB_B hD_D hS0) (kwVN hg hK mfX8_explore wn_767 ⟨Nat.le_of_ble_eq_true rfl, Nat.le_of_ble_eq_true rfl⟩) (preVW hK hPc hDc (ci := 8) (r := (RX8, TX8, 3)) rfl rfl) rfl rfl hl.1 rfl (lv_room (Nat.le_of_ble_eq_true rfl)) dX10_sure_21 ⟨Nat.le_of_ble_eq_true rfl, Nat.le_of_ble_eq_true rfl⟩) hS (fun q _ h => hFc q h) hFc (fun ur5 t H1 locs ht hvm w6 hB hz1 hk1 hS => ?_)
    obtain ⟨u7, u8, u9⟩ := ur5
    obtain ⟨hP1, hD1⟩ := hB
    rw [ht] at hP1
    obtain ⟨hP, hD⟩ := va_join (wr := [(h0, .inr (10, [.ref rd, .ref wy, .ref tr, .ref im, .ref kp, .ref od, .ref ch, .ref cr, .ref le, .ref mk, .ref tl, .ref sh, .int tf, .int rf]))]) (w1 := (([(tl, .inr (8, [.int u7, .ref ti, .ref to])), (ti, .inl (G 4, 11, .inr (.inr (.inr (.inr (fun ir => if ir < 11 then some (ri ir) else none)))))), (to, .inl (G 4, 11, .inr (.inr (.inr (.inr (fun ir => if ir < 11 then some (ro ir) else none)))))), (wy, .inr (9, [.int (nI N), .int (nI B), .int (nI D), .ref a1, .ref a2, .ref a3, .ref a4, .ref a5, .ref a6])), (a1, .inl (G 0, 10, .inl f1)), (a2, .inl (G 0, 10, .inl f2)), (a3, .inl (G 0, 10, .inl f3)), (a4, .inl (G 0, 6, .inl f4)), (a5, .inl (G 0, 6, .inl f5)), (a6, .inl (G 0, 6, .inl f6)), (mk, .inr (3, [.int (nI S), .ref m1, .ref m2])), (m1, .inl (G 0, 6, .inl z1)), (m2, .inl (G 0, 6, .inl z2))] : va_W) ++ ((((List.range 11).map (fun iq => (ri iq, .inl (G 0, 10, .inl (u8 iq))))) : va_W) ++ ((((List.range 11).map (fun iq => (ro iq, .inl (G 0, 10, .inl (u9 iq))))) : va_W) ++ [])))) hP hD [1, 2, 3, 4, 5, 6, 7, 8, 9, 10, 11, 12, 13, 14, 15, 16, 17, 18, 19, 20, 21, 22, 23, 24, 25, 26, 27, 28, 29, 30, 31, 32, 33, 34, 35] [0] rfl rfl (by decide +kernel) (by decide +kernel) hk1 hFc hP1 hD1
    have w6 : u7 = onS (fun jb => hmO N B f1 f2 f3 f4 f5 f6 (nI jb)) (fun ib qb => alB z1 z2 (nI ib) (nI qb) S) N N D ∧ EXF (fun jb => hmO N B f1 f2 f3 f4 f5 f6 (nI jb)) (fun ib qb => alB z1 z2 (nI ib) (nI qb) S) D N u8 ∧ EXO (fun jb => hmO N B f1 f2 f3 f4 f5 f6 (nI jb)) (fun ib qb => alB z1 z2 (nI ib) (nI qb) S) N 0 u9 := w6
    generalize H1 = H at hP hS ⊢
    refine lv_aload_n hx hb dX10_sure_24 rfl (lv_at hl 0 rfl) ?_
    refine va_get (D := (dC, dI)) (ci := 10) (v := .ref tl) (C := RX10) (T := TX10) (N := 14) hx hb hg inG10 hown hK.1 hP 0 rfl rfl 10 (Nat.le_of_ble_eq_true rfl) (hg _ wt_312) (fun _ h9 => h9) rfl dX10_sure_25 ?_
    refine va_getN (D := (dC, dI)) (ci := 8) (v := .int u7) (C := RX8) (T := TX8) (N := 3) hx hb hg inG8 hown hK.1 hP 1 rfl rfl 0 (Nat.le_of_ble_eq_true rfl) (hK.nest wn_259) (fun _ h9 => h9) rfl dX10_sure_28 ?_
    refine lv_if_ne (tgt := 37) hx hb dX10_sure_31 rfl (fun c10 => ?_) (fun c10 => ?_)
    · skip
      refine lv_iconst (v := 0) hx hb dX10_sure_37 rfl ?_
      refine lv_istore_n (lv' := [(2, .int 0), (0, .ref h0), (1, .int what)]) hx hb dX10_sure_38 rfl hl (by decide) rfl (fun ls hl => ?_)
      refine lv_iconst (v := 0) hx hb dX10_sure_39 rfl ?_
      refine lv_istore_n (lv' := [(3, .int 0), (2, .int 0), (0, .ref h0), (1, .int what)]) hx hb dX10_sure_40 rfl hl (by decide) rfl (fun ls hl => ?_)
      have loop41_13 : ∀ (nf j11 : Nat), N + 1 ≤ j11 + nf → j11 ≤ N → ∀ (y12 : Int32) (H : Heap) (locs : List Loc), y12 = eyR (fun ib => decide ((if what = 0 then (if hmO N B f1 f2 f3 f4 f5 f6 (nI ib) = 0 then 0 else faF (inS (fun jb => hmO N B f1 f2 f3 f4 f5 f6 (nI jb)) (fun ib qb => alB z1 z2 (nI ib) (nI qb) S) D ib) (onD ((fun ib qb => alB z1 z2 (nI ib) (nI qb) S) ib) (onS (fun jb => hmO N B f1 f2 f3 f4 f5 f6 (nI jb)) (fun ib qb => alB z1 z2 (nI ib) (nI qb) S) N (N - (ib + 1)))) 9) else (if hmO N B f1 f2 f3 f4 f5 f6 (nI ib) = 20 then 0 else riF (inS (fun jb => hmO N B f1 f2 f3 f4 f5 f6 (nI jb)) (fun ib qb => alB z1 z2 (nI ib) (nI qb) S) D ib) (onD ((fun ib qb => alB z1 z2 (nI ib) (nI qb) S) ib) (onS (fun jb => hmO N B f1 f2 f3 f4 f5 f6 (nI jb)) (fun ib qb => alB z1 z2 (nI ib) (nI qb) S) N (N - (ib + 1)))) 9)) = (onS (fun jb => hmO N B f1 f2 f3 f4 f5 f6 (nI jb)) (fun ib qb => alB z1 z2 (nI ib) (nI qb) S) N N D))) j11 → va_P (dC, dI) vwCl (([(h0, .inr (10, [.ref rd, .ref wy, .ref tr, .ref im, .ref kp, .ref od, .ref ch, .ref cr, .ref le, .ref mk, .ref tl, .ref sh, .int tf, .int rf])), (tl, .inr (8, [.int u7, .ref ti, .ref to])), (ti, .inl (G 4, 11, .inr (.inr (.inr (.inr (fun ir => if ir < 11 then some (ri ir) else none)))))), (to, .inl (G 4, 11, .inr (.inr (.inr (.inr (fun ir => if ir < 11 then some (ro ir) else none)))))), (wy, .inr (9, [.int (nI N), .int (nI B), .int (nI D), .ref a1, .ref a2, .ref a3, .ref a4, .ref a5, .ref a6])), (a1, .inl (G 0, 10, .inl f1)), (a2, .inl (G 0, 10, .inl f2)), (a3, .inl (G 0, 10, .inl f3)), (a4, .inl (G 0, 6, .inl f4)), (a5, .inl (G 0, 6, .inl f5)), (a6, .inl (G 0, 6, .inl f6)), (mk, .inr (3, [.int (nI S), .ref m1, .ref m2])), (m1, .inl (G 0, 6, .inl z1)), (m2, .inl (G 0, 6, .inl z2))] : va_W) ++ ((((List.range 11).map (fun iq => (ri iq, .inl (G 0, 10, .inl (u8 iq))))) : va_W) ++ ((((List.range 11).map (fun iq => (ro iq, .inl (G 0, 10, .inl (u9 iq))))) : va_W) ++ []))) H → va_D A (([(h0, .inr (10, [.ref rd, .ref wy, .ref tr, .ref im, .ref kp, .ref od, .ref ch, .ref cr, .ref le, .ref mk, .ref tl, .ref sh, .int tf, .int rf])), (tl, .inr (8, [.int u7, .ref ti, .ref to])), (ti, .inl (G 4, 11, .inr (.inr (.inr (.inr (fun ir => if ir < 11 then some (ri ir) else none)))))), (to, .inl (G 4, 11, .inr (.inr (.inr (.inr (fun ir => if ir < 11 then some (ro ir) else none)))))), (wy, .inr (9, [.int (nI N), .int (nI B), .int (nI D), .ref a1, .ref a2, .ref a3, .ref a4, .ref a5, .ref a6])), (a1, .inl (G 0, 10, .inl f1)), (a2, .inl (G 0, 10, .inl f2)), (a3, .inl (G 0, 10, .inl f3)), (a4, .inl (G 0, 6, .inl f4)), (a5, .inl (G 0, 6, .inl f5)), (a6, .inl (G 0, 6, .inl f6)), (mk, .inr (3, [.int (nI S), .ref m1, .ref m2])), (m1, .inl (G 0, 6, .inl z1)), (m2, .inl (G 0, 6, .inl z2))] : va_W) ++ ((((List.range 11).map (fun iq => (ri iq, .inl (G 0, 10, .inl (u8 iq))))) : va_W) ++ ((((List.range 11).map (fun iq => (ro iq, .inl (G 0, 10, .inl (u9 iq))))) : va_W) ++ []))) → va_S A s.heap H locs → ∀ (ls : Array Slot), lv_has ls 5 [(3, .int (nI j11)), (2, .int y12), (0, .ref h0), (1, .int what)] → W p l e (headSpec (Cond.code yX10_sure cX10_sure 5 (some .int) :: GT) ({ frames := 5, cells := 0, slots := 0, locals := 112 } : Room)).room s m ([.ref h0, .int what] : List Value).toArray below meth c H locs 0 0 (MQ below (va_Qi (fun (r : Int32) (u : Int32 × (Nat → Nat → Int32) × (Nat → Nat → Int32)) => match u with | (u0, u1, u2) => (r = if (0 ≤ what.toInt ∧ what.toInt ≤ 1) then (if (onS (fun jb => hmO N B f1 f2 f3 f4 f5 f6 (nI jb)) (fun ib qb => alB z1 z2 (nI ib) (nI qb) S) N N D) = 0 then -4 else eyR (fun ib => decide ((if what = 0 then (if hmO N B f1 f2 f3 f4 f5 f6 (nI ib) = 0 then 0 else faF (inS (fun jb => hmO N B f1 f2 f3 f4 f5 f6 (nI jb)) (fun ib qb => alB z1 z2 (nI ib) (nI qb) S) D ib) (onD ((fun ib qb => alB z1 z2 (nI ib) (nI qb) S) ib) (onS (fun jb => hmO N B f1 f2 f3 f4 f5 f6 (nI jb)) (fun ib qb => alB z1 z2 (nI ib) (nI qb) S) N (N - (ib + 1)))) 9) else (if hmO N B f1 f2 f3 f4 f5 f6 (nI ib) = 20 then 0 else riF (inS (fun jb => hmO N B f1 f2 f3 f4 f5 f6 (nI jb)) (fun ib qb => alB z1 z2 (nI ib) (nI qb) S) D ib) (onD ((fun ib qb => alB z1 z2 (nI ib) (nI qb) S) ib) (onS (fun jb => hmO N B f1 f2 f3 f4 f5 f6 (nI jb)) (fun ib qb => alB z1 z2 (nI ib) (nI qb) S) N (N - (ib + 1)))) 9)) = (onS (fun jb => hmO N B f1 f2 f3 f4 f5 f6 (nI jb)) (fun ib qb => alB z1 z2 (nI ib) (nI qb) S) N N D))) N) else -1) ∧ True) (fun (u : Int32 × (Nat → Nat → Int32) × (Nat → Nat → Int32)) (t : State) => match u with | (u0, u1, u2) => va_P (dC, dI) vwCl (([(h0, .inr (10, [.ref rd, .ref wy, .ref tr, .ref im, .ref kp, .ref od, .ref ch, .ref cr, .ref le, .ref mk, .ref tl, .ref sh, .int tf, .int rf])), (tl, .inr (8, [.int u0, .ref ti, .ref to])), (ti, .inl (G 4, 11, .inr (.inr (.inr (.inr (fun ir => if ir < 11 then some (ri ir) else none)))))), (to, .inl (G 4, 11, .inr (.inr (.inr (.inr (fun ir => if ir < 11 then some (ro ir) else none)))))), (wy, .inr (9, [.int (nI N), .int (nI B), .int (nI D), .ref a1, .ref a2, .ref a3, .ref a4, .ref a5, .ref a6])), (a1, .inl (G 0, 10, .inl f1)), (a2, .inl (G 0, 10, .inl f2)), (a3, .inl (G 0, 10, .inl f3)), (a4, .inl (G 0, 6, .inl f4)), (a5, .inl (G 0, 6, .inl f5)), (a6, .inl (G 0, 6, .inl f6)), (mk, .inr (3, [.int (nI S), .ref m1, .ref m2])), (m1, .inl (G 0, 6, .inl z1)), (m2, .inl (G 0, 6, .inl z2))] : va_W) ++ ((((List.range 11).map (fun iq => (ri iq, .inl (G 0, 10, .inl (u1 iq))))) : va_W) ++ ((((List.range 11).map (fun iq => (ro iq, .inl (G 0, 10, .inl (u2 iq))))) : va_W) ++ []))) t.heap ∧ va_D A (([(h0, .inr (10, [.ref rd, .ref wy, .ref tr, .ref im, .ref kp, .ref od, .ref ch, .ref cr, .ref le, .ref mk, .ref tl, .ref sh, .int tf, .int rf])), (tl, .inr (8, [.int u0, .ref ti, .ref to])), (ti, .inl (G 4, 11, .inr (.inr (.inr (.inr (fun ir => if ir < 11 then some (ri ir) else none)))))), (to, .inl (G 4, 11, .inr (.inr (.inr (.inr (fun ir => if ir < 11 then some (ro ir) else none)))))), (wy, .inr (9, [.int (nI N), .int (nI B), .int (nI D), .ref a1, .ref a2, .ref a3, .ref a4, .ref a5, .ref a6])), (a1, .inl (G 0, 10, .inl f1)), (a2, .inl (G 0, 10, .inl f2)), (a3, .inl (G 0, 10, .inl f3)), (a4, .inl (G 0, 6, .inl f4)), (a5, .inl (G 0, 6, .inl f5)), (a6, .inl (G 0, 6, .inl f6)), (mk, .inr (3, [.int (nI S), .ref m1, .ref m2])), (m1, .inl (G 0, 6, .inl z1)), (m2, .inl (G 0, 6, .inl z2))] : va_W) ++ ((((List.range 11).map (fun iq => (ri iq, .inl (G 0, 10, .inl (u1 iq))))) : va_W) ++ ((((List.range 11).map (fun iq => (ro iq, .inl (G 0, 10, .inl (u2 iq))))) : va_W) ++ [])))) A) ([.ref h0, .int what] : List Value).toArray s 0 0 A) (F0 m 41 ls []) := by
        intro nf
        induction nf with
        | zero => intro j11 h1 h2; exact absurd h1 (by omega)
        | succ nf ih41_13 =>
          intro j11 hn14 hj15 y12 H locs hinv hP hD hS ls hl
          refine lv_iload_n hx hb dX10_sure_41 rfl (lv_at hl 0 rfl) ?_
          refine lv_aload_n hx hb dX10_sure_42 rfl (lv_at hl 2 rfl) ?_
          refine va_get (D := (dC, dI)) (ci := 10) (v := .ref wy) (C := RX10) (T := TX10) (N := 14) hx hb hg inG10 hown hK.1 hP 0 rfl rfl 1 (Nat.le_of_ble_eq_true rfl) (hg _ wt_303) (fun _ h9 => h9) rfl dX10_sure_43 ?_
          refine va_getN (D := (dC, dI)) (ci := 9) (v := .int (nI N)) (C := RX9) (T := TX9) (N := 9) hx hb hg inG9 hown hK.1 hP 4 rfl rfl 0 (Nat.le_of_ble_eq_true rfl) (hK.nest wn_60) (fun _ h9 => h9) rfl dX10_sure_46 ?_
          refine lv_icmp_ge (tgt := 109) hx hb dX10_sure_49 rfl (fun c16 => ?_) (fun c16 => ?_)
          · skip
            have tn2515_ : nIT j11 := fun _ => nI_toInt (by first | omega | (have t := leI c16; omega))
            have n17 : N ≤ j11 := by have t := leI c16; rw [show (nI (j11)).toInt = ((j11 : Nat) : Int) from tn2515_ ()] at t; rw [show (nI (N)).toInt = ((N : Nat) : Int) from tn2511_ ()] at t; omega
            refine lv_iload_n hx hb dX10_sure_109 rfl (lv_at hl 1 rfl) ?_
            have hpost : (y12 : Int32) = if (0 ≤ what.toInt ∧ what.toInt ≤ 1) then (if (onS (fun jb => hmO N B f1 f2 f3 f4 f5 f6 (nI jb)) (fun ib qb => alB z1 z2 (nI ib) (nI qb) S) N N D) = 0 then -4 else eyR (fun ib => decide ((if what = 0 then (if hmO N B f1 f2 f3 f4 f5 f6 (nI ib) = 0 then 0 else faF (inS (fun jb => hmO N B f1 f2 f3 f4 f5 f6 (nI jb)) (fun ib qb => alB z1 z2 (nI ib) (nI qb) S) D ib) (onD ((fun ib qb => alB z1 z2 (nI ib) (nI qb) S) ib) (onS (fun jb => hmO N B f1 f2 f3 f4 f5 f6 (nI jb)) (fun ib qb => alB z1 z2 (nI ib) (nI qb) S) N (N - (ib + 1)))) 9) else (if hmO N B f1 f2 f3 f4 f5 f6 (nI ib) = 20 then 0 else riF (inS (fun jb => hmO N B f1 f2 f3 f4 f5 f6 (nI jb)) (fun ib qb => alB z1 z2 (nI ib) (nI qb) S) D ib) (onD ((fun ib qb => alB z1 z2 (nI ib) (nI qb) S) ib) (onS (fun jb => hmO N B f1 f2 f3 f4 f5 f6 (nI jb)) (fun ib qb => alB z1 z2 (nI ib) (nI qb) S) N (N - (ib + 1)))) 9)) = (onS (fun jb => hmO N B f1 f2 f3 f4 f5 f6 (nI jb)) (fun ib qb => alB z1 z2 (nI ib) (nI qb) S) N N D))) N) else -1 := by
              have lm4 : (-4 : Int32).toInt = -4 := (by decide)
              rw [if_pos (by (have t_b4 := b4; have t_c10 := neI c10; have t_hj15 := hj15; have t_n17 := n17; have : (0 : Int32).toInt = 0 := qI_0; have tnb_ := nib5 tn2511_ tn2512_ tn2513_ tn2514_ tn2515_; have lz0 : (0 : Int32).toInt = 0 := qI_0; have lz1 : (1 : Int32).toInt = 1 := qI_1; have lz2 : (2 : Int32).toInt = 2 := qI_2; have lz3 : (3 : Int32).toInt = 3 := qI_3; have lz5 : (5 : Int32).toInt = 5 := qI_5; have lz9 : (9 : Int32).toInt = 9 := qI_9; omega)), ← w6.1, if_neg (by first | with_reducible assumption | assumption), w6.1, hinv, show j11 = N by (have t_b4 := b4; have t_c10 := neI c10; have t_hj15 := hj15; have t_n17 := n17; have : (0 : Int32).toInt = 0 := qI_0; have tnb_ := nib5 tn2511_ tn2512_ tn2513_ tn2514_ tn2515_; have lz0 : (0 : Int32).toInt = 0 := qI_0; have lz1 : (1 : Int32).toInt = 1 := qI_1; have lz2 : (2 : Int32).toInt = 2 := qI_2; have lz3 : (3 : Int32).toInt = 3 := qI_3; have lz5 : (5 : Int32).toInt = 5 := qI_5; have lz9 : (9 : Int32).toInt = 9 := qI_9; omega)]
            obtain ⟨hP9, hD9⟩ := va_sub2 (ws' := (([(h0, .inr (10, [.ref rd, .ref wy, .ref tr, .ref im, .ref kp, .ref od, .ref ch, .ref cr, .ref le, .ref mk, .ref tl, .ref sh, .int tf, .int rf])), (tl, .inr (8, [.int u7, .ref ti, .ref to])), (ti, .inl (G 4, 11, .inr (.inr (.inr (.inr (fun ir => if ir < 11 then some (ri ir) else none)))))), (to, .inl (G 4, 11, .inr (.inr (.inr (.inr (fun ir => if ir < 11 then some (ro ir) else none)))))), (wy, .inr (9, [.int (nI N), .int (nI B), .int (nI D), .ref a1, .ref a2, .ref a3, .ref a4, .ref a5, .ref a6])), (a1, .inl (G 0, 10, .inl f1)), (a2, .inl (G 0, 10, .inl f2)), (a3, .inl (G 0, 10, .inl f3)), (a4, .inl (G 0, 6, .inl f4)), (a5, .inl (G 0, 6, .inl f5)), (a6, .inl (G 0, 6, .inl f6)), (mk, .inr (3, [.int (nI S), .ref m1, .ref m2])), (m1, .inl (G 0, 6, .inl z1)), (m2, .inl (G 0, 6, .inl z2))] : va_W) ++ ((((List.range 11).map (fun iq => (ri iq, .inl (G 0, 10, .inl (u8 iq))))) : va_W) ++ ((((List.range 11).map (fun iq => (ro iq, .inl (G 0, 10, .inl (u9 iq))))) : va_W) ++ [])))) hP hD [0, 1, 2, 3, 4, 5, 6, 7, 8, 9, 10, 11, 12, 13, 14, 15, 16, 17, 18, 19, 20, 21, 22, 23, 24, 25, 26, 27, 28, 29, 30, 31, 32, 33, 34, 35] (by decide +kernel) rfl
            refine W.widen (k := 0) (n := 0) (Nat.le_of_ble_eq_true rfl) (Nat.le_of_ble_eq_true rfl) ?_
            exact W.iret (v := y12) hx hb hr (fun t ht hW => ⟨⟨y12, (u7, u8, u9), rfl, ⟨hpost, trivial⟩, ⟨by rw [ht]; exact hP9, hD9⟩⟩, hS.F ht⟩) hS.2.2 dX10_sure_110
          · skip
            have tn2516_ : nIT j11 := fun _ => nI_toInt (by first | omega | (have t := nleI c16; omega))
            have n18 : j11 < N := by have t := nleI c16; rw [show (nI (j11)).toInt = ((j11 : Nat) : Int) from tn2516_ ()] at t; rw [show (nI (N)).toInt = ((N : Nat) : Int) from tn2511_ ()] at t; omega
            refine lv_iload_n hx hb dX10_sure_52 rfl (lv_at hl 3 rfl) ?_
            refine lv_if_ne (tgt := 71) hx hb dX10_sure_53 rfl (fun c19 => ?_) (fun c19 => ?_)
            · skip
              refine lv_aload_n hx hb dX10_sure_71 rfl (lv_at hl 2 rfl) ?_
              refine va_get (D := (dC, dI)) (ci := 10) (v := .ref tl) (C := RX10) (T := TX10) (N := 14) hx hb hg inG10 hown hK.1 hP 0 rfl rfl 10 (Nat.le_of_ble_eq_true rfl) (hg _ wt_312) (fun _ h9 => h9) rfl dX10_sure_72 ?_
              refine lv_aload_n hx hb dX10_sure_75 rfl (lv_at hl 2 rfl) ?_
              refine va_get (D := (dC, dI)) (ci := 10) (v := .ref wy) (C := RX10) (T := TX10) (N := 14) hx hb hg inG10 hown hK.1 hP 0 rfl rfl 1 (Nat.le_of_ble_eq_true rfl) (hg _ wt_303) (fun _ h9 => h9) rfl dX10_sure_76 ?_
              refine lv_iload_n hx hb dX10_sure_79 rfl (lv_at hl 0 rfl) ?_
              have hPc := hP.sub (ws' := (([(tl, .inr (8, [.int u7, .ref ti, .ref to])), (ti, .inl (G 4, 11, .inr (.inr (.inr (.inr (fun ir => if ir < 11 then some (ri ir) else none)))))), (to, .inl (G 4, 11, .inr (.inr (.inr (.inr (fun ir => if ir < 11 then some (ro ir) else none)))))), (wy, .inr (9, [.int (nI N), .int (nI B), .int (nI D), .ref a1, .ref a2, .ref a3, .ref a4, .ref a5, .ref a6])), (a1, .inl (G 0, 10, .inl f1)), (a2, .inl (G 0, 10, .inl f2)), (a3, .inl (G 0, 10, .inl f3)), (a4, .inl (G 0, 6, .inl f4)), (a5, .inl (G 0, 6, .inl f5)), (a6, .inl (G 0, 6, .inl f6))] : va_W) ++ ((((List.range 11).map (fun iq => (ri iq, .inl (G 0, 10, .inl (u8 iq))))) : va_W) ++ ((((List.range 11).map (fun iq => (ro iq, .inl (G 0, 10, .inl (u9 iq))))) : va_W) ++ [])))) [1, 2, 3, 4, 5, 6, 7, 8, 9, 10, 14, 15, 16, 17, 18, 19, 20, 21, 22, 23, 24, 25, 26, 27, 28, 29, 30, 31, 32, 33, 34, 35] rfl
              refine va_calli (va_runVN (As := [.ref wy, .int (nI j11)]) (rest := []) ⟨hx, hb, hml, hown, hg⟩ (c_X8_risingE l dC dI G _ tl ti to wy a1 a2 a3 a4 a5 a6 N B D j11 u7 f1 f2 f3 f4 f5 f6 ri ro u8 u9 hN_N hB_B hD_D (by first | omega | (have t_b4 := b4; have t_c10 := neI c10; have t_hj15 := hj15; have t_n18 := n18; have t_c19 := neI c19; have : (0 : Int32).toInt = 0 := qI_0; have tnb_ := nib5 tn2511_ tn2512_ tn2513_ tn2514_ tn2516_; omega))) (kwVN hg hK mfX8_rising wn_804 ⟨Nat.le_of_ble_eq_true rfl, Nat.le_of_ble_eq_true rfl⟩) (preVR hK hPc (ci := 8) (r := (RX8, TX8, 3)) rfl rfl) rfl rfl hl.1 rfl (lv_room (Nat.le_of_ble_eq_true rfl)) dX10_sure_80 ⟨Nat.le_of_ble_eq_true rfl, Nat.le_of_ble_eq_true rfl⟩) hS (fun q h1 h2 => absurd h2 (Nat.not_le.mpr h1)) (fun q h => hA q (Nat.le_trans hS.1 h)) (fun r20 ur20 t H1 locs ht hvm w21 hB hz1 hk1 hS => ?_)
              have hP := keepR hP hk1
              obtain ⟨w21, w21x⟩ := w21
              subst w21
              refine lv_istore (lv' := [(4, .int (if hmO N B f1 f2 f3 f4 f5 f6 (nI j11) = 20 then 0 else riF (u8 j11) (u9 (j11 + 1)) 9)), (3, .int (nI j11)), (2, .int y12), (0, .ref h0), (1, .int what)]) hx hb dX10_sure_83 hl (by decide) rfl (fun ls hl => ?_)
              refine lv_iload hx hb dX10_sure_85 (lv_at hl 0 rfl) ?_
              refine lv_aload_n hx hb dX10_sure_87 rfl (lv_at hl 3 rfl) ?_
              refine va_get (D := (dC, dI)) (ci := 10) (v := .ref tl) (C := RX10) (T := TX10) (N := 14) hx hb hg inG10 hown hK.1 hP 0 rfl rfl 10 (Nat.le_of_ble_eq_true rfl) (hg _ wt_312) (fun _ h9 => h9) rfl dX10_sure_88 ?_
              refine va_getN (D := (dC, dI)) (ci := 8) (v := .int u7) (C := RX8) (T := TX8) (N := 3) hx hb hg inG8 hown hK.1 hP 1 rfl rfl 0 (Nat.le_of_ble_eq_true rfl) (hK.nest wn_259) (fun _ h9 => h9) rfl dX10_sure_91 ?_
              refine lv_icmp_ne (tgt := 103) hx hb dX10_sure_94 rfl (fun c22 => ?_) (fun c22 => ?_)
              · skip
                refine lv_iinc (v := nI (j11 + 1)) (lv' := [(3, .int (nI (j11 + 1))), (4, .int (if hmO N B f1 f2 f3 f4 f5 f6 (nI j11) = 20 then 0 else riF (u8 j11) (u9 (j11 + 1)) 9)), (2, .int y12), (0, .ref h0), (1, .int what)]) hx hb dX10_sure_103 hl (k := 1) rfl (by rw [show Int32.ofInt 1 = nI 1 from by decide]; exact nI_add _ _) (by decide) rfl (fun ls hl => ?_)
                refine lv_goto (tgt := 41) hx hb dX10_sure_106 rfl ?_
                exact ih41_13 (j11 + 1) (by omega) (by omega) y12 _ _ (by have e7 : (if hmO N B f1 f2 f3 f4 f5 f6 (nI j11) = 20 then 0 else riF (u8 j11) (u9 (j11 + 1)) 9) = (if what = 0 then (if hmO N B f1 f2 f3 f4 f5 f6 (nI j11) = 0 then 0 else faF (inS (fun jb => hmO N B f1 f2 f3 f4 f5 f6 (nI jb)) (fun ib qb => alB z1 z2 (nI ib) (nI qb) S) D j11) (onD ((fun ib qb => alB z1 z2 (nI ib) (nI qb) S) j11) (onS (fun jb => hmO N B f1 f2 f3 f4 f5 f6 (nI jb)) (fun ib qb => alB z1 z2 (nI ib) (nI qb) S) N (N - (j11 + 1)))) 9) else (if hmO N B f1 f2 f3 f4 f5 f6 (nI j11) = 20 then 0 else riF (inS (fun jb => hmO N B f1 f2 f3 f4 f5 f6 (nI jb)) (fun ib qb => alB z1 z2 (nI ib) (nI qb) S) D j11) (onD ((fun ib qb => alB z1 z2 (nI ib) (nI qb) S) j11) (onS (fun jb => hmO N B f1 f2 f3 f4 f5 f6 (nI jb)) (fun ib qb => alB z1 z2 (nI ib) (nI qb) S) N (N - (j11 + 1)))) 9)) := (by rw [if_neg (show ¬ what = 0 from by assumption)]; rw [riF_cg (w6.2.1 j11 (by (have t_b4 := b4; have t_c10 := neI c10; have t_hj15 := hj15; have t_n18 := n18; have t_c19 := neI c19; have t_c22 := neI c22; have : (0 : Int32).toInt = 0 := qI_0; have tnb_ := nib5 tn2511_ tn2512_ tn2513_ tn2514_ tn2516_; have lz0 : (0 : Int32).toInt = 0 := qI_0; have lz1 : (1 : Int32).toInt = 1 := qI_1; have lz2 : (2 : Int32).toInt = 2 := qI_2; have lz3 : (3 : Int32).toInt = 3 := qI_3; have lz5 : (5 : Int32).toInt = 5 := qI_5; have lz9 : (9 : Int32).toInt = 9 := qI_9; omega))) (w6.2.2.2 j11 (Nat.zero_le _) (by (have t_b4 := b4; have t_c10 := neI c10; have t_hj15 := hj15; have t_n18 := n18; have t_c19 := neI c19; have t_c22 := neI c22; have : (0 : Int32).toInt = 0 := qI_0; have tnb_ := nib5 tn2511_ tn2512_ tn2513_ tn2514_ tn2516_; have lz0 : (0 : Int32).toInt = 0 := qI_0; have lz1 : (1 : Int32).toInt = 1 := qI_1; have lz2 : (2 : Int32).toInt = 2 := qI_2; have lz3 : (3 : Int32).toInt = 3 := qI_3; have lz5 : (5 : Int32).toInt = 5 := qI_5; have lz9 : (9 : Int32).toInt = 9 := qI_9; omega))) 9 (by decide)]); exact ey_n hinv (fun e9 => by have e8 : (if what = 0 then (if hmO N B f1 f2 f3 f4 f5 f6 (nI j11) = 0 then 0 else faF (inS (fun jb => hmO N B f1 f2 f3 f4 f5 f6 (nI jb)) (fun ib qb => alB z1 z2 (nI ib) (nI qb) S) D j11) (onD ((fun ib qb => alB z1 z2 (nI ib) (nI qb) S) j11) (onS (fun jb => hmO N B f1 f2 f3 f4 f5 f6 (nI jb)) (fun ib qb => alB z1 z2 (nI ib) (nI qb) S) N (N - (j11 + 1)))) 9) else (if hmO N B f1 f2 f3 f4 f5 f6 (nI j11) = 20 then 0 else riF (inS (fun jb => hmO N B f1 f2 f3 f4 f5 f6 (nI jb)) (fun ib qb => alB z1 z2 (nI ib) (nI qb) S) D j11) (onD ((fun ib qb => alB z1 z2 (nI ib) (nI qb) S) j11) (onS (fun jb => hmO N B f1 f2 f3 f4 f5 f6 (nI jb)) (fun ib qb => alB z1 z2 (nI ib) (nI qb) S) N (N - (j11 + 1)))) 9)) = (onS (fun jb => hmO N B f1 f2 f3 f4 f5 f6 (nI jb)) (fun ib qb => alB z1 z2 (nI ib) (nI qb) S) N N D) := of_decide_eq_true e9; rw [← e7, ← w6.1] at e8; exact absurd e8 (by first | with_reducible assumption | assumption))) hP hD hS ls (lv_sub hl [0, 2, 3, 4] rfl)
              · skip
                refine lv_iload_n hx hb dX10_sure_97 rfl (lv_at hl 2 rfl) ?_
                refine lv_iconst (v := 1) hx hb dX10_sure_98 rfl ?_
                refine lv_iload_n hx hb dX10_sure_99 rfl (lv_at hl 1 rfl) ?_
                refine lv_ishl hx hb dX10_sure_100 ?_
                refine lv_ior hx hb dX10_sure_101 ?_
                refine lv_istore_n (lv' := [(2, .int (y12 ||| (1 <<< ((nI j11) &&& 31)))), (4, .int (if hmO N B f1 f2 f3 f4 f5 f6 (nI j11) = 20 then 0 else riF (u8 j11) (u9 (j11 + 1)) 9)), (3, .int (nI j11)), (0, .ref h0), (1, .int what)]) hx hb dX10_sure_102 rfl hl (by decide) rfl (fun ls hl => ?_)
                refine lv_iinc (v := nI (j11 + 1)) (lv' := [(3, .int (nI (j11 + 1))), (2, .int (y12 ||| (1 <<< ((nI j11) &&& 31)))), (4, .int (if hmO N B f1 f2 f3 f4 f5 f6 (nI j11) = 20 then 0 else riF (u8 j11) (u9 (j11 + 1)) 9)), (0, .ref h0), (1, .int what)]) hx hb dX10_sure_103 hl (k := 2) rfl (by rw [show Int32.ofInt 1 = nI 1 from by decide]; exact nI_add _ _) (by decide) rfl (fun ls hl => ?_)
                refine lv_goto (tgt := 41) hx hb dX10_sure_106 rfl ?_
                exact ih41_13 (j11 + 1) (by omega) (by omega) (y12 ||| (1 <<< ((nI j11) &&& 31))) _ _ (by have e7 : (if hmO N B f1 f2 f3 f4 f5 f6 (nI j11) = 20 then 0 else riF (u8 j11) (u9 (j11 + 1)) 9) = (if what = 0 then (if hmO N B f1 f2 f3 f4 f5 f6 (nI j11) = 0 then 0 else faF (inS (fun jb => hmO N B f1 f2 f3 f4 f5 f6 (nI jb)) (fun ib qb => alB z1 z2 (nI ib) (nI qb) S) D j11) (onD ((fun ib qb => alB z1 z2 (nI ib) (nI qb) S) j11) (onS (fun jb => hmO N B f1 f2 f3 f4 f5 f6 (nI jb)) (fun ib qb => alB z1 z2 (nI ib) (nI qb) S) N (N - (j11 + 1)))) 9) else (if hmO N B f1 f2 f3 f4 f5 f6 (nI j11) = 20 then 0 else riF (inS (fun jb => hmO N B f1 f2 f3 f4 f5 f6 (nI jb)) (fun ib qb => alB z1 z2 (nI ib) (nI qb) S) D j11) (onD ((fun ib qb => alB z1 z2 (nI ib) (nI qb) S) j11) (onS (fun jb => hmO N B f1 f2 f3 f4 f5 f6 (nI jb)) (fun ib qb => alB z1 z2 (nI ib) (nI qb) S) N (N - (j11 + 1)))) 9)) := (by rw [if_neg (show ¬ what = 0 from by assumption)]; rw [riF_cg (w6.2.1 j11 (by (have t_b4 := b4; have t_c10 := neI c10; have t_hj15 := hj15; have t_n18 := n18; have t_c19 := neI c19; have t_c22 := eqI c22; have : (0 : Int32).toInt = 0 := qI_0; have tnb_ := nib5 tn2511_ tn2512_ tn2513_ tn2514_ tn2516_; have lz0 : (0 : Int32).toInt = 0 := qI_0; have lz1 : (1 : Int32).toInt = 1 := qI_1; have lz2 : (2 : Int32).toInt = 2 := qI_2; have lz3 : (3 : Int32).toInt = 3 := qI_3; have lz5 : (5 : Int32).toInt = 5 := qI_5; have lz9 : (9 : Int32).toInt = 9 := qI_9; omega))) (w6.2.2.2 j11 (Nat.zero_le _) (by (have t_b4 := b4; have t_c10 := neI c10; have t_hj15 := hj15; have t_n18 := n18; have t_c19 := neI c19; have t_c22 := eqI c22; have : (0 : Int32).toInt = 0 := qI_0; have tnb_ := nib5 tn2511_ tn2512_ tn2513_ tn2514_ tn2516_; have lz0 : (0 : Int32).toInt = 0 := qI_0; have lz1 : (1 : Int32).toInt = 1 := qI_1; have lz2 : (2 : Int32).toInt = 2 := qI_2; have lz3 : (3 : Int32).toInt = 3 := qI_3; have lz5 : (5 : Int32).toInt = 5 := qI_5; have lz9 : (9 : Int32).toInt = 9 := qI_9; omega))) 9 (by decide)]); exact ey_y hinv (decide_eq_true (by show (if what = 0 then (if hmO N B f1 f2 f3 f4 f5 f6 (nI j11) = 0 then 0 else faF (inS (fun jb => hmO N B f1 f2 f3 f4 f5 f6 (nI jb)) (fun ib qb => alB z1 z2 (nI ib) (nI qb) S) D j11) (onD ((fun ib qb => alB z1 z2 (nI ib) (nI qb) S) j11) (onS (fun jb => hmO N B f1 f2 f3 f4 f5 f6 (nI jb)) (fun ib qb => alB z1 z2 (nI ib) (nI qb) S) N (N - (j11 + 1)))) 9) else (if hmO N B f1 f2 f3 f4 f5 f6 (nI j11) = 20 then 0 else riF (inS (fun jb => hmO N B f1 f2 f3 f4 f5 f6 (nI jb)) (fun ib qb => alB z1 z2 (nI ib) (nI qb) S) D j11) (onD ((fun ib qb => alB z1 z2 (nI ib) (nI qb) S) j11) (onS (fun jb => hmO N B f1 f2 f3 f4 f5 f6 (nI jb)) (fun ib qb => alB z1 z2 (nI ib) (nI qb) S) N (N - (j11 + 1)))) 9)) = (onS (fun jb => hmO N B f1 f2 f3 f4 f5 f6 (nI jb)) (fun ib qb => alB z1 z2 (nI ib) (nI qb) S) N N D); rw [← e7, ← w6.1]; assumption))) hP hD hS ls (lv_sub hl [0, 1, 3, 4] rfl)
            · skip
              refine lv_aload_n hx hb dX10_sure_56 rfl (lv_at hl 2 rfl) ?_
              refine va_get (D := (dC, dI)) (ci := 10) (v := .ref tl) (C := RX10) (T := TX10) (N := 14) hx hb hg inG10 hown hK.1 hP 0 rfl rfl 10 (Nat.le_of_ble_eq_true rfl) (hg _ wt_312) (fun _ h9 => h9) rfl dX10_sure_57 ?_
              refine lv_aload_n hx hb dX10_sure_60 rfl (lv_at hl 2 rfl) ?_
              refine va_get (D := (dC, dI)) (ci := 10) (v := .ref wy) (C := RX10) (T := TX10) (N := 14) hx hb hg inG10 hown hK.1 hP 0 rfl rfl 1 (Nat.le_of_ble_eq_true rfl) (hg _ wt_303) (fun _ h9 => h9) rfl dX10_sure_61 ?_
              refine lv_iload_n hx hb dX10_sure_64 rfl (lv_at hl 0 rfl) ?_
              have hPc := hP.sub (ws' := (([(tl, .inr (8, [.int u7, .ref ti, .ref to])), (ti, .inl (G 4, 11, .inr (.inr (.inr (.inr (fun ir => if ir < 11 then some (ri ir) else none)))))), (to, .inl (G 4, 11, .inr (.inr (.inr (.inr (fun ir => if ir < 11 then some (ro ir) else none)))))), (wy, .inr (9, [.int (nI N), .int (nI B), .int (nI D), .ref a1, .ref a2, .ref a3, .ref a4, .ref a5, .ref a6])), (a1, .inl (G 0, 10, .inl f1)), (a2, .inl (G 0, 10, .inl f2)), (a3, .inl (G 0, 10, .inl f3)), (a4, .inl (G 0, 6, .inl f4)), (a5, .inl (G 0, 6, .inl f5)), (a6, .inl (G 0, 6, .inl f6))] : va_W) ++ ((((List.range 11).map (fun iq => (ri iq, .inl (G 0, 10, .inl (u8 iq))))) : va_W) ++ ((((List.range 11).map (fun iq => (ro iq, .inl (G 0, 10, .inl (u9 iq))))) : va_W) ++ [])))) [1, 2, 3, 4, 5, 6, 7, 8, 9, 10, 14, 15, 16, 17, 18, 19, 20, 21, 22, 23, 24, 25, 26, 27, 28, 29, 30, 31, 32, 33, 34, 35] rfl
              refine va_calli (va_runVN (As := [.ref wy, .int (nI j11)]) (rest := []) ⟨hx, hb, hml, hown, hg⟩ (c_X8_fallingE l dC dI G _ tl ti to wy a1 a2 a3 a4 a5 a6 N B D j11 u7 f1 f2 f3 f4 f5 f6 ri ro u8 u9 hN_N hB_B hD_D (by first | omega | (have t_b4 := b4; have t_c10 := neI c10; have t_hj15 := hj15; have t_n18 := n18; have t_c19 := eqI c19; have : (0 : Int32).toInt = 0 := qI_0; have tnb_ := nib5 tn2511_ tn2512_ tn2513_ tn2514_ tn2516_; omega))) (kwVN hg hK mfX8_falling wn_800 ⟨Nat.le_of_ble_eq_true rfl, Nat.le_of_ble_eq_true rfl⟩) (preVR hK hPc (ci := 8) (r := (RX8, TX8, 3)) rfl rfl) rfl rfl hl.1 rfl (lv_room (Nat.le_of_ble_eq_true rfl)) dX10_sure_65 ⟨Nat.le_of_ble_eq_true rfl, Nat.le_of_ble_eq_true rfl⟩) hS (fun q h1 h2 => absurd h2 (Nat.not_le.mpr h1)) (fun q h => hA q (Nat.le_trans hS.1 h)) (fun r23 ur23 t H1 locs ht hvm w24 hB hz1 hk1 hS => ?_)
              have hP := keepR hP hk1
              obtain ⟨w24, w24x⟩ := w24
              subst w24
              refine lv_goto (tgt := 83) hx hb dX10_sure_68 rfl ?_
              refine lv_istore (lv' := [(4, .int (if hmO N B f1 f2 f3 f4 f5 f6 (nI j11) = 0 then 0 else faF (u8 j11) (u9 (j11 + 1)) 9)), (3, .int (nI j11)), (2, .int y12), (0, .ref h0), (1, .int what)]) hx hb dX10_sure_83 hl (by decide) rfl (fun ls hl => ?_)
              refine lv_iload hx hb dX10_sure_85 (lv_at hl 0 rfl) ?_
              refine lv_aload_n hx hb dX10_sure_87 rfl (lv_at hl 3 rfl) ?_
              refine va_get (D := (dC, dI)) (ci := 10) (v := .ref tl) (C := RX10) (T := TX10) (N := 14) hx hb hg inG10 hown hK.1 hP 0 rfl rfl 10 (Nat.le_of_ble_eq_true rfl) (hg _ wt_312) (fun _ h9 => h9) rfl dX10_sure_88 ?_
              refine va_getN (D := (dC, dI)) (ci := 8) (v := .int u7) (C := RX8) (T := TX8) (N := 3) hx hb hg inG8 hown hK.1 hP 1 rfl rfl 0 (Nat.le_of_ble_eq_true rfl) (hK.nest wn_259) (fun _ h9 => h9) rfl dX10_sure_91 ?_
              refine lv_icmp_ne (tgt := 103) hx hb dX10_sure_94 rfl (fun c25 => ?_) (fun c25 => ?_)
              · skip
                refine lv_iinc (v := nI (j11 + 1)) (lv' := [(3, .int (nI (j11 + 1))), (4, .int (if hmO N B f1 f2 f3 f4 f5 f6 (nI j11) = 0 then 0 else faF (u8 j11) (u9 (j11 + 1)) 9)), (2, .int y12), (0, .ref h0), (1, .int what)]) hx hb dX10_sure_103 hl (k := 1) rfl (by rw [show Int32.ofInt 1 = nI 1 from by decide]; exact nI_add _ _) (by decide) rfl (fun ls hl => ?_)
                refine lv_goto (tgt := 41) hx hb dX10_sure_106 rfl ?_
                exact ih41_13 (j11 + 1) (by omega) (by omega) y12 _ _ (by have e7 : (if hmO N B f1 f2 f3 f4 f5 f6 (nI j11) = 0 then 0 else faF (u8 j11) (u9 (j11 + 1)) 9) = (if what = 0 then (if hmO N B f1 f2 f3 f4 f5 f6 (nI j11) = 0 then 0 else faF (inS (fun jb => hmO N B f1 f2 f3 f4 f5 f6 (nI jb)) (fun ib qb => alB z1 z2 (nI ib) (nI qb) S) D j11) (onD ((fun ib qb => alB z1 z2 (nI ib) (nI qb) S) j11) (onS (fun jb => hmO N B f1 f2 f3 f4 f5 f6 (nI jb)) (fun ib qb => alB z1 z2 (nI ib) (nI qb) S) N (N - (j11 + 1)))) 9) else (if hmO N B f1 f2 f3 f4 f5 f6 (nI j11) = 20 then 0 else riF (inS (fun jb => hmO N B f1 f2 f3 f4 f5 f6 (nI jb)) (fun ib qb => alB z1 z2 (nI ib) (nI qb) S) D j11) (onD ((fun ib qb => alB z1 z2 (nI ib) (nI qb) S) j11) (onS (fun jb => hmO N B f1 f2 f3 f4 f5 f6 (nI jb)) (fun ib qb => alB z1 z2 (nI ib) (nI qb) S) N (N - (j11 + 1)))) 9)) := (by rw [if_pos (show what = 0 from by assumption)]; rw [faF_cg (w6.2.1 j11 (by (have t_b4 := b4; have t_c10 := neI c10; have t_hj15 := hj15; have t_n18 := n18; have t_c19 := eqI c19; have t_c25 := neI c25; have : (0 : Int32).toInt = 0 := qI_0; have tnb_ := nib5 tn2511_ tn2512_ tn2513_ tn2514_ tn2516_; have lz0 : (0 : Int32).toInt = 0 := qI_0; have lz1 : (1 : Int32).toInt = 1 := qI_1; have lz2 : (2 : Int32).toInt = 2 := qI_2; have lz3 : (3 : Int32).toInt = 3 := qI_3; have lz5 : (5 : Int32).toInt = 5 := qI_5; have lz9 : (9 : Int32).toInt = 9 := qI_9; omega))) (w6.2.2.2 j11 (Nat.zero_le _) (by (have t_b4 := b4; have t_c10 := neI c10; have t_hj15 := hj15; have t_n18 := n18; have t_c19 := eqI c19; have t_c25 := neI c25; have : (0 : Int32).toInt = 0 := qI_0; have tnb_ := nib5 tn2511_ tn2512_ tn2513_ tn2514_ tn2516_; have lz0 : (0 : Int32).toInt = 0 := qI_0; have lz1 : (1 : Int32).toInt = 1 := qI_1; have lz2 : (2 : Int32).toInt = 2 := qI_2; have lz3 : (3 : Int32).toInt = 3 := qI_3; have lz5 : (5 : Int32).toInt = 5 := qI_5; have lz9 : (9 : Int32).toInt = 9 := qI_9; omega))) 9 (by decide)]); exact ey_n hinv (fun e9 => by have e8 : (if what = 0 then (if hmO N B f1 f2 f3 f4 f5 f6 (nI j11) = 0 then 0 else faF (inS (fun jb => hmO N B f1 f2 f3 f4 f5 f6 (nI jb)) (fun ib qb => alB z1 z2 (nI ib) (nI qb) S) D j11) (onD ((fun ib qb => alB z1 z2 (nI ib) (nI qb) S) j11) (onS (fun jb => hmO N B f1 f2 f3 f4 f5 f6 (nI jb)) (fun ib qb => alB z1 z2 (nI ib) (nI qb) S) N (N - (j11 + 1)))) 9) else (if hmO N B f1 f2 f3 f4 f5 f6 (nI j11) = 20 then 0 else riF (inS (fun jb => hmO N B f1 f2 f3 f4 f5 f6 (nI jb)) (fun ib qb => alB z1 z2 (nI ib) (nI qb) S) D j11) (onD ((fun ib qb => alB z1 z2 (nI ib) (nI qb) S) j11) (onS (fun jb => hmO N B f1 f2 f3 f4 f5 f6 (nI jb)) (fun ib qb => alB z1 z2 (nI ib) (nI qb) S) N (N - (j11 + 1)))) 9)) = (onS (fun jb => hmO N B f1 f2 f3 f4 f5 f6 (nI jb)) (fun ib qb => alB z1 z2 (nI ib) (nI qb) S) N N D) := of_decide_eq_true e9; rw [← e7, ← w6.1] at e8; exact absurd e8 (by first | with_reducible assumption | assumption))) hP hD hS ls (lv_sub hl [0, 2, 3, 4] rfl)
              · skip
                refine lv_iload_n hx hb dX10_sure_97 rfl (lv_at hl 2 rfl) ?_
                refine lv_iconst (v := 1) hx hb dX10_sure_98 rfl ?_
                refine lv_iload_n hx hb dX10_sure_99 rfl (lv_at hl 1 rfl) ?_
                refine lv_ishl hx hb dX10_sure_100 ?_
                refine lv_ior hx hb dX10_sure_101 ?_
                refine lv_istore_n (lv' := [(2, .int (y12 ||| (1 <<< ((nI j11) &&& 31)))), (4, .int (if hmO N B f1 f2 f3 f4 f5 f6 (nI j11) = 0 then 0 else faF (u8 j11) (u9 (j11 + 1)) 9)), (3, .int (nI j11)), (0, .ref h0), (1, .int what)]) hx hb dX10_sure_102 rfl hl (by decide) rfl (fun ls hl => ?_)
                refine lv_iinc (v := nI (j11 + 1)) (lv' := [(3, .int (nI (j11 + 1))), (2, .int (y12 ||| (1 <<< ((nI j11) &&& 31)))), (4, .int (if hmO N B f1 f2 f3 f4 f5 f6 (nI j11) = 0 then 0 else faF (u8 j11) (u9 (j11 + 1)) 9)), (0, .ref h0), (1, .int what)]) hx hb dX10_sure_103 hl (k := 2) rfl (by rw [show Int32.ofInt 1 = nI 1 from by decide]; exact nI_add _ _) (by decide) rfl (fun ls hl => ?_)
                refine lv_goto (tgt := 41) hx hb dX10_sure_106 rfl ?_
                exact ih41_13 (j11 + 1) (by omega) (by omega) (y12 ||| (1 <<< ((nI j11) &&& 31))) _ _ (by have e7 : (if hmO N B f1 f2 f3 f4 f5 f6 (nI j11) = 0 then 0 else faF (u8 j11) (u9 (j11 + 1)) 9) = (if what = 0 then (if hmO N B f1 f2 f3 f4 f5 f6 (nI j11) = 0 then 0 else faF (inS (fun jb => hmO N B f1 f2 f3 f4 f5 f6 (nI jb)) (fun ib qb => alB z1 z2 (nI ib) (nI qb) S) D j11) (onD ((fun ib qb => alB z1 z2 (nI ib) (nI qb) S) j11) (onS (fun jb => hmO N B f1 f2 f3 f4 f5 f6 (nI jb)) (fun ib qb => alB z1 z2 (nI ib) (nI qb) S) N (N - (j11 + 1)))) 9) else (if hmO N B f1 f2 f3 f4 f5 f6 (nI j11) = 20 then 0 else riF (inS (fun jb => hmO N B f1 f2 f3 f4 f5 f6 (nI jb)) (fun ib qb => alB z1 z2 (nI ib) (nI qb) S) D j11) (onD ((fun ib qb => alB z1 z2 (nI ib) (nI qb) S) j11) (onS (fun jb => hmO N B f1 f2 f3 f4 f5 f6 (nI jb)) (fun ib qb => alB z1 z2 (nI ib) (nI qb) S) N (N - (j11 + 1)))) 9)) := (by rw [if_pos (show what = 0 from by assumption)]; rw [faF_cg (w6.2.1 j11 (by (have t_b4 := b4; have t_c10 := neI c10; have t_hj15 := hj15; have t_n18 := n18; have t_c19 := eqI c19; have t_c25 := eqI c25; have : (0 : Int32).toInt = 0 := qI_0; have tnb_ := nib5 tn2511_ tn2512_ tn2513_ tn2514_ tn2516_; have lz0 : (0 : Int32).toInt = 0 := qI_0; have lz1 : (1 : Int32).toInt = 1 := qI_1; have lz2 : (2 : Int32).toInt = 2 := qI_2; have lz3 : (3 : Int32).toInt = 3 := qI_3; have lz5 : (5 : Int32).toInt = 5 := qI_5; have lz9 : (9 : Int32).toInt = 9 := qI_9; omega))) (w6.2.2.2 j11 (Nat.zero_le _) (by (have t_b4 := b4; have t_c10 := neI c10; have t_hj15 := hj15; have t_n18 := n18; have t_c19 := eqI c19; have t_c25 := eqI c25; have : (0 : Int32).toInt = 0 := qI_0; have tnb_ := nib5 tn2511_ tn2512_ tn2513_ tn2514_ tn2516_; have lz0 : (0 : Int32).toInt = 0 := qI_0; have lz1 : (1 : Int32).toInt = 1 := qI_1; have lz2 : (2 : Int32).toInt = 2 := qI_2; have lz3 : (3 : Int32).toInt = 3 := qI_3; have lz5 : (5 : Int32).toInt = 5 := qI_5; have lz9 : (9 : Int32).toInt = 9 := qI_9; omega))) 9 (by decide)]); exact ey_y hinv (decide_eq_true (by show (if what = 0 then (if hmO N B f1 f2 f3 f4 f5 f6 (nI j11) = 0 then 0 else faF (inS (fun jb => hmO N B f1 f2 f3 f4 f5 f6 (nI jb)) (fun ib qb => alB z1 z2 (nI ib) (nI qb) S) D j11) (onD ((fun ib qb => alB z1 z2 (nI ib) (nI qb) S) j11) (onS (fun jb => hmO N B f1 f2 f3 f4 f5 f6 (nI jb)) (fun ib qb => alB z1 z2 (nI ib) (nI qb) S) N (N - (j11 + 1)))) 9) else (if hmO N B f1 f2 f3 f4 f5 f6 (nI j11) = 20 then 0 else riF (inS (fun jb => hmO N B f1 f2 f3 f4 f5 f6 (nI jb)) (fun ib qb => alB z1 z2 (nI ib) (nI qb) S) D j11) (onD ((fun ib qb => alB z1 z2 (nI ib) (nI qb) S) j11) (onS (fun jb => hmO N B f1 f2 f3 f4 f5 f6 (nI jb)) (fun ib qb => alB z1 z2 (nI ib) (nI qb) S) N (N - (j11 + 1)))) 9)) = (onS (fun jb => hmO N B f1 f2 f3 f4 f5 f6 (nI jb)) (fun ib qb => alB z1 z2 (nI ib) (nI qb) S) N N D); rw [← e7, ← w6.1]; assumption))) hP hD hS ls (lv_sub hl [0, 1, 3, 4] rfl)
      exact loop41_13 (N + 1) 0 (by omega) (by omega) 0 _ _ rfl hP hD hS ls (lv_sub hl [0, 1, 2, 3] rfl)
    · skip
      refine lv_bipush (v := (-4)) hx hb dX10_sure_34 rfl ?_
      have hpost : ((-4) : Int32) = if (0 ≤ what.toInt ∧ what.toInt ≤ 1) then (if (onS (fun jb => hmO N B f1 f2 f3 f4 f5 f6 (nI jb)) (fun ib qb => alB z1 z2 (nI ib) (nI qb) S) N N D) = 0 then -4 else eyR (fun ib => decide ((if what = 0 then (if hmO N B f1 f2 f3 f4 f5 f6 (nI ib) = 0 then 0 else faF (inS (fun jb => hmO N B f1 f2 f3 f4 f5 f6 (nI jb)) (fun ib qb => alB z1 z2 (nI ib) (nI qb) S) D ib) (onD ((fun ib qb => alB z1 z2 (nI ib) (nI qb) S) ib) (onS (fun jb => hmO N B f1 f2 f3 f4 f5 f6 (nI jb)) (fun ib qb => alB z1 z2 (nI ib) (nI qb) S) N (N - (ib + 1)))) 9) else (if hmO N B f1 f2 f3 f4 f5 f6 (nI ib) = 20 then 0 else riF (inS (fun jb => hmO N B f1 f2 f3 f4 f5 f6 (nI jb)) (fun ib qb => alB z1 z2 (nI ib) (nI qb) S) D ib) (onD ((fun ib qb => alB z1 z2 (nI ib) (nI qb) S) ib) (onS (fun jb => hmO N B f1 f2 f3 f4 f5 f6 (nI jb)) (fun ib qb => alB z1 z2 (nI ib) (nI qb) S) N (N - (ib + 1)))) 9)) = (onS (fun jb => hmO N B f1 f2 f3 f4 f5 f6 (nI jb)) (fun ib qb => alB z1 z2 (nI ib) (nI qb) S) N N D))) N) else -1 := by
        have lm4 : (-4 : Int32).toInt = -4 := (by decide)
        rw [if_pos (by (have t_b4 := b4; have t_c10 := eqI c10; have : (0 : Int32).toInt = 0 := qI_0; have tnb_ := nib4 tn2511_ tn2512_ tn2513_ tn2514_; have lz0 : (0 : Int32).toInt = 0 := qI_0; have lz1 : (1 : Int32).toInt = 1 := qI_1; have lz2 : (2 : Int32).toInt = 2 := qI_2; have lz3 : (3 : Int32).toInt = 3 := qI_3; have lz5 : (5 : Int32).toInt = 5 := qI_5; have lz9 : (9 : Int32).toInt = 9 := qI_9; omega)), ← w6.1, if_pos (by first | with_reducible assumption | assumption)]
      obtain ⟨hP9, hD9⟩ := va_sub2 (ws' := (([(h0, .inr (10, [.ref rd, .ref wy, .ref tr, .ref im, .ref kp, .ref od, .ref ch, .ref cr, .ref le, .ref mk, .ref tl, .ref sh, .int tf, .int rf])), (tl, .inr (8, [.int u7, .ref ti, .ref to])), (ti, .inl (G 4, 11, .inr (.inr (.inr (.inr (fun ir => if ir < 11 then some (ri ir) else none)))))), (to, .inl (G 4, 11, .inr (.inr (.inr (.inr (fun ir => if ir < 11 then some (ro ir) else none)))))), (wy, .inr (9, [.int (nI N), .int (nI B), .int (nI D), .ref a1, .ref a2, .ref a3, .ref a4, .ref a5, .ref a6])), (a1, .inl (G 0, 10, .inl f1)), (a2, .inl (G 0, 10, .inl f2)), (a3, .inl (G 0, 10, .inl f3)), (a4, .inl (G 0, 6, .inl f4)), (a5, .inl (G 0, 6, .inl f5)), (a6, .inl (G 0, 6, .inl f6)), (mk, .inr (3, [.int (nI S), .ref m1, .ref m2])), (m1, .inl (G 0, 6, .inl z1)), (m2, .inl (G 0, 6, .inl z2))] : va_W) ++ ((((List.range 11).map (fun iq => (ri iq, .inl (G 0, 10, .inl (u8 iq))))) : va_W) ++ ((((List.range 11).map (fun iq => (ro iq, .inl (G 0, 10, .inl (u9 iq))))) : va_W) ++ [])))) hP hD [0, 1, 2, 3, 4, 5, 6, 7, 8, 9, 10, 11, 12, 13, 14, 15, 16, 17, 18, 19, 20, 21, 22, 23, 24, 25, 26, 27, 28, 29, 30, 31, 32, 33, 34, 35] (by decide +kernel) rfl
      refine W.widen (k := 0) (n := 0) (Nat.le_of_ble_eq_true rfl) (Nat.le_of_ble_eq_true rfl) ?_
      exact W.iret (v := (-4)) hx hb hr (fun t ht hW => ⟨⟨(-4), (u7, u8, u9), rfl, ⟨hpost, trivial⟩, ⟨by rw [ht]; exact hP9, hD9⟩⟩, hS.F ht⟩) hS.2.2 dX10_sure_36
  · skip
    have b26 := if10_n c3
    refine lv_iconst (v := (-1)) hx hb dX10_sure_7 rfl ?_
    have hpost : ((-1) : Int32) = if (0 ≤ what.toInt ∧ what.toInt ≤ 1) then (if (onS (fun jb => hmO N B f1 f2 f3 f4 f5 f6 (nI jb)) (fun ib qb => alB z1 z2 (nI ib) (nI qb) S) N N D) = 0 then -4 else eyR (fun ib => decide ((if what = 0 then (if hmO N B f1 f2 f3 f4 f5 f6 (nI ib) = 0 then 0 else faF (inS (fun jb => hmO N B f1 f2 f3 f4 f5 f6 (nI jb)) (fun ib qb => alB z1 z2 (nI ib) (nI qb) S) D ib) (onD ((fun ib qb => alB z1 z2 (nI ib) (nI qb) S) ib) (onS (fun jb => hmO N B f1 f2 f3 f4 f5 f6 (nI jb)) (fun ib qb => alB z1 z2 (nI ib) (nI qb) S) N (N - (ib + 1)))) 9) else (if hmO N B f1 f2 f3 f4 f5 f6 (nI ib) = 20 then 0 else riF (inS (fun jb => hmO N B f1 f2 f3 f4 f5 f6 (nI jb)) (fun ib qb => alB z1 z2 (nI ib) (nI qb) S) D ib) (onD ((fun ib qb => alB z1 z2 (nI ib) (nI qb) S) ib) (onS (fun jb => hmO N B f1 f2 f3 f4 f5 f6 (nI jb)) (fun ib qb => alB z1 z2 (nI ib) (nI qb) S) N (N - (ib + 1)))) 9)) = (onS (fun jb => hmO N B f1 f2 f3 f4 f5 f6 (nI jb)) (fun ib qb => alB z1 z2 (nI ib) (nI qb) S) N N D))) N) else -1 := by
      have t_b26 := b26
      have t_n0 : (nI N).toInt = (N : Int) := tn2511_ ()
      have t_n1 : (nI B).toInt = (B : Int) := tn2512_ ()
      have t_n2 : (nI D).toInt = (D : Int) := tn2513_ ()
      have t_n3 : (nI S).toInt = (S : Int) := tn2514_ ()
      have lz0 : (0 : Int32).toInt = 0 := qI_0
      have lz1 : (1 : Int32).toInt = 1 := qI_1
      have lz2 : (2 : Int32).toInt = 2 := qI_2
      have lz3 : (3 : Int32).toInt = 3 := qI_3
      have lz5 : (5 : Int32).toInt = 5 := qI_5
      have lz9 : (9 : Int32).toInt = 9 := qI_9
      have lm4 : (-4 : Int32).toInt = -4 := (by decide)
      rw [if_neg (by omega)]
    obtain ⟨hP9, hD9⟩ := va_sub2 (ws' := (([(h0, .inr (10, [.ref rd, .ref wy, .ref tr, .ref im, .ref kp, .ref od, .ref ch, .ref cr, .ref le, .ref mk, .ref tl, .ref sh, .int tf, .int rf])), (tl, .inr (8, [.int tt, .ref ti, .ref to])), (ti, .inl (G 4, 11, .inr (.inr (.inr (.inr (fun ir => if ir < 11 then some (ri ir) else none)))))), (to, .inl (G 4, 11, .inr (.inr (.inr (.inr (fun ir => if ir < 11 then some (ro ir) else none)))))), (wy, .inr (9, [.int (nI N), .int (nI B), .int (nI D), .ref a1, .ref a2, .ref a3, .ref a4, .ref a5, .ref a6])), (a1, .inl (G 0, 10, .inl f1)), (a2, .inl (G 0, 10, .inl f2)), (a3, .inl (G 0, 10, .inl f3)), (a4, .inl (G 0, 6, .inl f4)), (a5, .inl (G 0, 6, .inl f5)), (a6, .inl (G 0, 6, .inl f6)), (mk, .inr (3, [.int (nI S), .ref m1, .ref m2])), (m1, .inl (G 0, 6, .inl z1)), (m2, .inl (G 0, 6, .inl z2))] : va_W) ++ ((((List.range 11).map (fun iq => (ri iq, .inl (G 0, 10, .inl (F iq))))) : va_W) ++ ((((List.range 11).map (fun iq => (ro iq, .inl (G 0, 10, .inl (E iq))))) : va_W) ++ [])))) hP hD [0, 1, 2, 3, 4, 5, 6, 7, 8, 9, 10, 11, 12, 13, 14, 15, 16, 17, 18, 19, 20, 21, 22, 23, 24, 25, 26, 27, 28, 29, 30, 31, 32, 33, 34, 35] (by decide +kernel) rfl
    refine W.widen (k := 0) (n := 0) (Nat.le_of_ble_eq_true rfl) (Nat.le_of_ble_eq_true rfl) ?_
    exact W.iret (v := (-1)) hx hb hr (fun t ht hW => ⟨⟨(-1), (tt, F, E), rfl, ⟨hpost, trivial⟩, ⟨by rw [ht]; exact hP9, hD9⟩⟩, hS.F ht⟩) hS.2.2 dX10_sure_8

theorem if_or {α : Type} {C : Prop} [Decidable C] {r x y : α} (h : r = if C then x else y) : (C ∧ r = x) ∨ (¬ C ∧ r = y) := by
  by_cases c : C
  · rw [if_pos c] at h; exact Or.inl ⟨c, h⟩
  · rw [if_neg c] at h; exact Or.inr ⟨c, h⟩
theorem al_k {a b : Nat → Int32} {i d : Int32} {n k : Nat} (h : (k = 1 ∧ alB a b i d n = true) ∨ (k = 0 ∧ alB a b i d n = false)) : nI k = if alB a b i d n = true then 1 else 0 := by
  rcases h with h | h
  · rw [h.1, if_pos h.2]; rfl
  · rw [h.1, h.2]; rfl
theorem onD_up {AL : Nat → Bool} {g : Nat → Int32} {k : Nat} {x : Int32} : onD AL (upd g k (g k + x)) = if AL k = true then upd (onD AL g) k (onD AL g k + x) else onD AL g := by
  funext q
  by_cases c : AL k = true
  · rw [if_pos c]
    show (if AL q = true then (if q = k then g k + x else g q) else 0) = (if q = k then (if AL k = true then g k else 0) + x else (if AL q = true then g q else 0))
    by_cases d : q = k
    · rw [if_pos d, if_pos d, d, if_pos c, if_pos c]
    · rw [if_neg d, if_neg d]
  · rw [if_neg c]
    show (if AL q = true then (if q = k then g k + x else g q) else 0) = (if AL q = true then g q else 0)
    by_cases d : q = k
    · rw [d, if_neg c, if_neg c]
    · rw [if_neg d]
def rwF (c : Prop) [Decidable c] (k : Nat) (x : Int32) (g : Nat → Int32) : Nat → Int32 := if c then upd g k (g k + x) else g
theorem rwF_cg {c : Prop} [Decidable c] {k : Nat} {x : Int32} {g g' : Nat → Int32} (hk : k < 10) (e : ∀ q : Nat, q < 10 → g q = g' q) : ∀ q : Nat, q < 10 → rwF c k x g q = rwF c k x g' q := by
  intro q hq
  unfold rwF
  split
  · exact up_cg hk e q hq
  · exact e q hq
theorem row_eq {AL : Nat → Bool} {f r : Bool} {d : Nat} {x : Int32} {G : Nat → Int32} : onD AL (inT f r d x G) = rwF (r = true ∧ AL (min 9 (d + 1)) = true) (min 9 (d + 1)) x (rwF (f = true ∧ AL (d - 1) = true) (d - 1) x (onD AL G)) := by
  have one : ∀ (k : Nat) (g : Nat → Int32), onD AL (upd g k (g k + x)) = rwF (AL k = true) k x (onD AL g) := fun k g => onD_up
  unfold inT
  cases f with
  | true =>
    cases r with
    | true =>
      rw [if_pos rfl, if_pos rfl, one, one]
      unfold rwF
      simp
    | false =>
      rw [if_pos rfl, if_neg (by decide), one]
      unfold rwF
      simp
  | false =>
    cases r with
    | true =>
      rw [if_neg (by decide), if_pos rfl, one]
      unfold rwF
      simp
    | false =>
      rw [if_neg (by decide), if_neg (by decide)]
      unfold rwF
      simp
def fl10 (i : Nat) (g : Nat → Int32) : Nat → Int32 := fun q => g (10 * i + 10 + q)
theorem fl_up {i k : Nat} {g : Nat → Int32} {v : Int32} : fl10 i (upd g (10 * i + 10 + k) v) = upd (fl10 i g) k v := by
  funext q
  show (if 10 * i + 10 + q = 10 * i + 10 + k then v else g (10 * i + 10 + q)) = (if q = k then v else g (10 * i + 10 + q))
  by_cases c : q = k
  · rw [if_pos c, if_pos (by omega)]
  · rw [if_neg c, if_neg (by omega)]
theorem fl_up2 {i k m : Nat} {g : Nat → Int32} {v x : Int32} : upd (upd (fl10 i g) k v) m ((upd g (10 * i + 10 + k) v) (10 * i + 10 + m) + x) = upd (upd (fl10 i g) k v) m (upd (fl10 i g) k v m + x) := by
  rw [show (upd g (10 * i + 10 + k) v) (10 * i + 10 + m) = upd (fl10 i g) k v m from congrFun fl_up m]
def rpF (AL : Nat → Bool) (f r : Bool) (a : Nat → Int32) : Nat → Nat → Int32
  | 0 => fun _ => 0
  | d + 1 => onD AL (inR f r a d)
def AHO (H : Nat → Int32) (AL : Nat → Nat → Bool) (D i : Nat) (g : Nat → Int32) : Prop := (∀ m : Nat, m ≤ i → ∀ q : Nat, q < 10 → g (10 * m + q) = inS H AL D m q) ∧ (∀ k : Nat, 10 * i + 10 ≤ k → k < 110 → g k = 0)
def AHI (H : Nat → Int32) (AL : Nat → Nat → Bool) (D i d : Nat) (g : Nat → Int32) : Prop := (∀ m : Nat, m ≤ i → ∀ q : Nat, q < 10 → g (10 * m + q) = inS H AL D m q) ∧ (∀ q : Nat, q < 10 → fl10 i g q = rpF (AL i) (decide (0 < (H i).toInt)) (decide ((H i).toInt < 20)) (inS H AL D i) d q) ∧ (∀ k : Nat, 10 * i + 20 ≤ k → k < 110 → g k = 0)
theorem AHI.z {H : Nat → Int32} {AL : Nat → Nat → Bool} {D i : Nat} {g : Nat → Int32} (hi : i < 10) (h : AHO H AL D i g) : AHI H AL D i 0 g := ⟨h.1, fun q hq => h.2 _ (by omega) (by omega), fun k h1 h2 => h.2 k (by omega) h2⟩
theorem AHI.o {H : Nat → Int32} {AL : Nat → Nat → Bool} {D i : Nat} {g : Nat → Int32} (h : AHI H AL D i 10 g) : AHO H AL D (i + 1) g := by
  refine ⟨fun m hm q hq => ?_, fun k h1 h2 => h.2.2 k (by omega) h2⟩
  by_cases c : m = i + 1
  · rw [c, show 10 * (i + 1) + q = 10 * i + 10 + q by omega]
    exact h.2.1 q hq
  · exact h.1 m (by omega) q hq
theorem AHI.s {H : Nat → Int32} {AL : Nat → Nat → Bool} {D i d : Nat} {g g' : Nat → Int32} (h : AHI H AL D i d g) (hi : i < 10) (e1 : ∀ k : Nat, ¬ (10 * i + 10 ≤ k ∧ k < 10 * i + 20) → g' k = g k) (e2 : ∀ q : Nat, q < 10 → fl10 i g' q = rpF (AL i) (decide (0 < (H i).toInt)) (decide ((H i).toInt < 20)) (inS H AL D i) (d + 1) q) : AHI H AL D i (d + 1) g' :=
  ⟨fun m hm q hq => (e1 _ (by omega)).trans (h.1 m hm q hq), e2, fun k h1 h2 => (e1 k (by omega)).trans (h.2.2 k h1 h2)⟩
theorem ah_0y {H : Nat → Int32} {AL : Nat → Nat → Bool} {D i d : Nat} {g : Nat → Int32} (h : AHI H AL D i d g) (hi : i < 10) (hd : d = 0) (ha : AL i 0 = true) : AHI H AL D i (d + 1) (upd g (10 * i + 10) (g (10 * i + 10) + g (10 * i + d))) := by
  subst hd
  refine h.s hi (fun k hk => if_neg (fun e => hk (by omega))) (fun q hq => ?_)
  have hx := h.1 i (Nat.le_refl i) 0 (by decide)
  have h0 : g (10 * i + 10) = 0 := h.2.1 0 (by decide)
  rw [h0, hx, Int32.zero_add]
  show (if 10 * i + 10 + q = 10 * i + 10 then inS H AL D i 0 else g (10 * i + 10 + q)) = (if AL i q = true then (if q = 0 then inS H AL D i 0 else 0) else 0)
  by_cases c : q = 0
  · rw [if_pos (by omega), c, if_pos ha, if_pos rfl]
  · rw [if_neg (by omega), if_neg c]
    have hz : g (10 * i + 10 + q) = 0 := h.2.1 q hq
    rw [hz]
    split <;> rfl
theorem ah_0n {H : Nat → Int32} {AL : Nat → Nat → Bool} {D i d : Nat} {g : Nat → Int32} (h : AHI H AL D i d g) (hi : i < 10) (hd : d = 0) (ha : ¬ AL i 0 = true) : AHI H AL D i (d + 1) g := by
  subst hd
  refine h.s hi (fun k hk => rfl) (fun q hq => ?_)
  have hz : fl10 i g q = 0 := h.2.1 q hq
  rw [hz]
  show 0 = (if AL i q = true then (if q = 0 then inS H AL D i 0 else 0) else 0)
  by_cases c : q = 0
  · rw [c, if_neg ha]
  · rw [if_neg c]; split <;> rfl
theorem ah_d {H : Nat → Int32} {AL : Nat → Nat → Bool} {D i d : Nat} {g g' : Nat → Int32} {c1 c2 : Prop} [Decidable c1] [Decidable c2] (h : AHI H AL D i d g) (hi : i < 10) (hd : 1 ≤ d) (hd9 : d < 10) (k1 : c1 ↔ (0 < (H i).toInt ∧ AL i (d - 1) = true)) (k2 : c2 ↔ ((H i).toInt < 20 ∧ AL i (min 9 (d + 1)) = true)) (e1 : ∀ k : Nat, ¬ (10 * i + 10 ≤ k ∧ k < 10 * i + 20) → g' k = g k) (e2 : fl10 i g' = rwF c2 (min 9 (d + 1)) (g (10 * i + d)) (rwF c1 (d - 1) (g (10 * i + d)) (fl10 i g))) : AHI H AL D i (d + 1) g' := by
  refine h.s hi e1 (fun q hq => ?_)
  obtain ⟨e, rfl⟩ : ∃ e : Nat, d = e + 1 := ⟨d - 1, by omega⟩
  have hx := h.1 i (Nat.le_refl i) (e + 1) hd9
  show _ = onD (AL i) (inT (decide (0 < (H i).toInt)) (decide ((H i).toInt < 20)) (e + 1) (inS H AL D i (e + 1)) (inR (decide (0 < (H i).toInt)) (decide ((H i).toInt < 20)) (inS H AL D i) e)) q
  rw [row_eq, e2, hx]
  have s1 : ∀ (q : Nat) (g : Nat → Int32), rwF (decide (0 < (H i).toInt) = true ∧ AL i (e + 1 - 1) = true) (e + 1 - 1) (inS H AL D i (e + 1)) g q = rwF c1 (e + 1 - 1) (inS H AL D i (e + 1)) g q := by
    intro q g
    unfold rwF
    by_cases c : c1
    · rw [if_pos c, if_pos ⟨decide_eq_true (k1.mp c).1, (k1.mp c).2⟩]
    · rw [if_neg c, if_neg (fun z => c (k1.mpr ⟨of_decide_eq_true z.1, z.2⟩))]
  have s2 : ∀ (q : Nat) (g : Nat → Int32), rwF (decide ((H i).toInt < 20) = true ∧ AL i (min 9 (e + 1 + 1)) = true) (min 9 (e + 1 + 1)) (inS H AL D i (e + 1)) g q = rwF c2 (min 9 (e + 1 + 1)) (inS H AL D i (e + 1)) g q := by
    intro q g
    unfold rwF
    by_cases c : c2
    · rw [if_pos c, if_pos ⟨decide_eq_true (k2.mp c).1, (k2.mp c).2⟩]
    · rw [if_neg c, if_neg (fun z => c (k2.mpr ⟨of_decide_eq_true z.1, z.2⟩))]
  rw [s2]
  refine rwF_cg (by omega) (fun q hq => ?_) q hq
  rw [s1]
  exact rwF_cg (by omega) h.2.1 q hq
-- what leads on
def BHO (H : Nat → Int32) (AL : Nat → Nat → Bool) (N j : Nat) (g : Nat → Int32) : Prop := ∀ m : Nat, j ≤ m → m ≤ N → ∀ q : Nat, q < 10 → g (10 * m + q) = onS H AL N (N - m) q
def BHI (H : Nat → Int32) (AL : Nat → Nat → Bool) (N i d : Nat) (g : Nat → Int32) : Prop := BHO H AL N (i + 1) g ∧ (∀ q : Nat, q < d → g (10 * i + q) = onS H AL N (N - i) q)
theorem BHI.s {H : Nat → Int32} {AL : Nat → Nat → Bool} {N i d : Nat} {g : Nat → Int32} {x : Int32} (h : BHI H AL N i d g) (hi : i + 1 ≤ N) (hd : d < 10) (hx : x = onT (decide (0 < (H i).toInt)) (decide ((H i).toInt < 20)) (onD (AL i) (fl10 i g)) d) : BHI H AL N i (d + 1) (upd g (10 * i + d) x) := by
  refine ⟨fun m h1 h2 q hq => (if_neg (by omega)).trans (h.1 m h1 h2 q hq), fun q hq => ?_⟩
  show (if 10 * i + q = 10 * i + d then x else g (10 * i + q)) = _
  by_cases c : q = d
  · rw [if_pos (by omega), hx, c, show N - i = (N - (i + 1)) + 1 by omega]
    show _ = onT (decide (0 < (H (N - (N - (i + 1) + 1))).toInt)) (decide ((H (N - (N - (i + 1) + 1))).toInt < 20)) (onD (AL (N - (N - (i + 1) + 1))) (onS H AL N (N - (i + 1)))) d
    rw [show N - (N - (i + 1) + 1) = i by omega]
    refine onT_cg (onD_cg (fun _ _ => rfl) (fun q hq => ?_)) d hd
    show g (10 * i + 10 + q) = _
    rw [show 10 * i + 10 + q = 10 * (i + 1) + q by omega]
    exact h.1 (i + 1) (Nat.le_refl _) hi q hq
  · rw [if_neg (by omega)]; exact h.2 q (by omega)
theorem BHI.o {H : Nat → Int32} {AL : Nat → Nat → Bool} {N i : Nat} {g : Nat → Int32} (h : BHI H AL N i 10 g) : BHO H AL N i g := by
  intro m h1 h2 q hq
  by_cases c : m = i
  · rw [c]; exact h.2 q hq
  · exact h.1 m (by omega) h2 q hq
theorem onT_0 {f r : Bool} {P : Nat → Int32} {d : Nat} {x : Int32} (hd : d = 0) (hx : x = P 0) : x = onT f r P d := by
  rw [hd, hx]; rfl
theorem onT_d9 {f r : Bool} {P : Nat → Int32} {d : Nat} {x y : Int32} (hd : 1 ≤ d) (hx : x = if f = true then P (d - 1) else 0) (hy : y = if r = true then P (min 9 (d + 1)) else 0) : x + y = onT f r P d := by
  unfold onT
  rw [if_neg (by omega), hx, hy]
theorem upP_s {g P : Nat → Int32} {j : Nat} {x : Int32} (h : ∀ q : Nat, q < j → g q = P q) (hx : x = P j) : ∀ q : Nat, q < j + 1 → upd g j x q = P q := by
  intro q hq
  show (if q = j then x else g q) = P q
  by_cases c : q = j
  · rw [if_pos c, hx, c]
  · rw [if_neg c]; exact h q (by omega)
theorem c1_iff {h : Int32} {d : Nat} {A : Prop} (h0 : 0 ≤ h.toInt) (hd : ¬ d = 0) : ((¬ d = 0 ∧ ¬ h = 0) ∧ A) ↔ (0 < h.toInt ∧ A) := by
  have z : (0 : Int32).toInt = 0 := by decide
  constructor
  · intro q
    refine ⟨?_, q.2⟩
    have n : ¬ h.toInt = 0 := fun e => q.1.2 (Int32.toInt_inj.mp (by rw [e, z]))
    omega
  · intro q
    exact ⟨⟨hd, fun e => by rw [e, z] at q; exact absurd q.1 (by decide)⟩, q.2⟩
theorem c2_iff {h : Int32} {d : Nat} {A : Prop} (h1 : h.toInt ≤ 20) (hd : ¬ d = 0) : ((¬ d = 0 ∧ ¬ h = 20) ∧ A) ↔ (h.toInt < 20 ∧ A) := by
  have z : (20 : Int32).toInt = 20 := by decide
  constructor
  · intro q
    refine ⟨?_, q.2⟩
    have n : ¬ h.toInt = 20 := fun e => q.1.2 (Int32.toInt_inj.mp (by rw [e, z]))
    omega
  · intro q
    exact ⟨⟨hd, fun e => by rw [e, z] at q; exact absurd q.1 (by decide)⟩, q.2⟩
theorem AHO.z {H : Nat → Int32} {AL : Nat → Nat → Bool} {D : Nat} {g : Nat → Int32} (hD : D ≤ 9) (h : ∀ q : Nat, q < 110 → g q = if q = D then 1 else 0) : AHO H AL D 0 g := by
  refine ⟨fun m hm q hq => ?_, fun k h1 h2 => ?_⟩
  · rw [show m = 0 by omega, show 10 * 0 + q = q by omega, h q (by omega)]
    rfl
  · rw [h k h2, if_neg (by omega)]
theorem BHO.z {H : Nat → Int32} {AL : Nat → Nat → Bool} {N : Nat} {g : Nat → Int32} (hN : N ≤ 10) (h : ∀ q : Nat, q < 110 → g q = if q / 10 = N then 1 else 0) : BHO H AL N N g := by
  intro m h1 h2 q hq
  rw [show m = N by omega, h _ (by omega), if_pos (by omega), Nat.sub_self]
  rfl
/-- the reference's sum over the depths -/
def snF (a v : Nat → Int32) : Nat → Int32
  | 0 => 0
  | d + 1 => snF a v d + a d * v d
theorem sn_s {a v : Nat → Int32} {j : Nat} {y x z : Int32} (h : y = snF a v j) (hx : x = a j) (hz : z = v j) : y + x * z = snF a v (j + 1) := by
  rw [h, hx, hz]; rfl
theorem sn_fa {a v b : Nat → Int32} (h0 : v 0 = 0) (h : ∀ d : Nat, 1 ≤ d → d < 10 → v d = b (d - 1)) : ∀ n : Nat, n ≤ 9 → snF a v (n + 1) = faF a b n := by
  intro n
  induction n with
  | zero =>
    intro _
    show 0 + a 0 * v 0 = 0
    rw [h0, Int32.mul_zero, Int32.add_zero]
  | succ n ih =>
    intro hn
    show snF a v (n + 1) + a (n + 1) * v (n + 1) = faF a b n + a (n + 1) * b n
    rw [ih (by omega), h (n + 1) (by omega) (by omega)]
    rfl
theorem sn_ri {a v b : Nat → Int32} (h0 : v 0 = 0) (h : ∀ d : Nat, 1 ≤ d → d < 10 → v d = b (min 9 (d + 1))) : ∀ n : Nat, n ≤ 9 → snF a v (n + 1) = riF a b n := by
  intro n
  induction n with
  | zero =>
    intro _
    show 0 + a 0 * v 0 = 0
    rw [h0, Int32.mul_zero, Int32.add_zero]
  | succ n ih =>
    intro hn
    show snF a v (n + 1) + a (n + 1) * v (n + 1) = riF a b n + a (n + 1) * b (min 9 (n + 2))
    rw [ih (by omega), h (n + 1) (by omega) (by omega)]
theorem sn_0 {a v : Nat → Int32} : ∀ n : Nat, (∀ d : Nat, d < n → v d = 0) → snF a v n = 0 := by
  intro n
  induction n with
  | zero => intro _; rfl
  | succ n ih =>
    intro h
    show snF a v n + a n * v n = 0
    rw [ih (fun d hd => h d (by omega)), h n (by omega), Int32.mul_zero, Int32.add_zero]
theorem ey_z {p : Nat → Bool} {i : Nat} {y : Int32} (h : y = eyR p i) (e : ¬ p i = true) : y ||| 0 = eyR p (i + 1) := by
  rw [Int32.or_zero]
  exact ey_n h e

set_option maxHeartbeats 1000000 in
set_option maxRecDepth 100000 in
theorem c_X11_isMarkedE (l : Launch) (dC : Nat → ClassId) (dI : Nat → Nat → Nat) (G : Nat → ClassId) (sz : Nat) (h0 st N B rp tp T cu lt od th be ln S ma M ah bh ik la lg ce : Nat) (x1 x2 vrs vrb vhs vca vxs vxb vfa vbr vba vsp vhe vtk vva vto : Int32) (fma : Nat → Int32) (hN : N ≤ 10) (hB : B ≤ 6) (hT : T ≤ 320) (hS0 : S ≤ 8) (hM : M ≤ 6) : Met l yX11_isMarked (Cond.code yX11_isMarked cX11_isMarked 5 (some .boolean) :: GT) ({ frames := 0, cells := 0, slots := 0, locals := 0 } : Room) (PcR [.ref h0, .int x1, .int x2] dC dI G [(h0, .inr (11, [.ref st, .int (nI N), .int (nI B), .ref rp, .int vrs, .int vrb, .int vhs, .int vca, .int vxs, .int vxb, .ref tp, .int (nI T), .int vfa, .int vbr, .int vba, .int vsp, .int vhe, .int vtk, .int vva, .ref cu, .ref lt, .ref od, .ref th, .ref be, .ref ln, .int (nI S), .ref ma, .int (nI M), .ref ah, .ref bh, .ref ik, .ref la, .ref lg, .ref ce, .int vto])), (ma, .inl (G 0, 12, .inl fma))] sz) (va_Qi (fun (r : Int32) (u : Unit) => match u with | _ => (r = if alB (fun qb => fma (2 * qb)) (fun qb => fma (2 * qb + 1)) x1 x2 M = true then 1 else 0) ∧ True) (fun _ _ => True) (fun q : Nat => sz ≤ q)) 0 0 (fun q : Nat => sz ≤ q) := by
  have tn2517_ : nIT N := fun _ => nI_toInt (by omega)
  have tn2518_ : nIT B := fun _ => nI_toInt (by omega)
  have tn2519_ : nIT T := fun _ => nI_toInt (by omega)
  have tn2520_ : nIT S := fun _ => nI_toInt (by omega)
  have tn2521_ : nIT M := fun _ => nI_toInt (by omega)
  refine Met.ofW (cc := cX11_isMarked) (maxL := 5) (ret := (some .boolean)) (by decide) rfl ?_
  intro p e s m args below meth c s₁ Bd hml hv
  obtain ⟨rfl, hsz, hP, hK⟩ := hv
  have hx := Bd.exec
  have hb := Bd.bytes
  have hr := Bd.returns
  have hg : ∀ w ∈ GT, w.before ([.ref h0, .int x1, .int x2] : List Value).toArray s = true := fun w h => atoms_spec (ws := Cond.code yX11_isMarked cX11_isMarked 5 (some .boolean) :: GT) Bd.pre w (List.mem_cons_of_mem _ h)
  have hown : s.vm.findClass RX11 = some m.cls := findClass_of_methodNamed Bd.named
  have hlocks := Bd.notSynchronized
  subst hsz
  have hA : ∀ q : Nat, s.heap.size ≤ q → (fun q : Nat => s.heap.size ≤ q) q := fun _ h => h
  have hS : va_S (fun q : Nat => s.heap.size ≤ q) s.heap s.heap [] := va_S.rf
  have hl := lv_entry ([.ref h0, .int x1, .int x2]) (n := 5) (Nat.le_of_ble_eq_true rfl)
  rw [lg_entry_eq]
  generalize (lg_sl ([.ref h0, .int x1, .int x2]) ++ List.replicate (5 - (lg_sl ([.ref h0, .int x1, .int x2])).length) Slot.unset).toArray = ls at hl ⊢
  have hl : lv_has ls 5 [(0, .ref h0), (1, .int x1), (2, .int x2)] := hl
  refine lv_iconst (v := 1) hx hb dX11_isMarked_0 rfl ?_
  refine lv_istore_n (lv' := [(3, .int 1), (0, .ref h0), (1, .int x1), (2, .int x2)]) hx hb dX11_isMarked_1 rfl hl (by decide) rfl (fun ls hl => ?_)
  refine lv_iconst (v := 0) hx hb dX11_isMarked_2 rfl ?_
  refine lv_istore (lv' := [(4, .int 0), (3, .int 1), (0, .ref h0), (1, .int x1), (2, .int x2)]) hx hb dX11_isMarked_3 hl (by decide) rfl (fun ls hl => ?_)
  have loop5_4 : ∀ (nf j1 : Nat), M + 1 ≤ j1 + nf → j1 ≤ M → ∀ (k3 : Nat) (H : Heap) (locs : List Loc), ((k3 = 1 ∧ alB (fun qb => fma (2 * qb)) (fun qb => fma (2 * qb + 1)) x1 x2 j1 = true) ∨ (k3 = 0 ∧ alB (fun qb => fma (2 * qb)) (fun qb => fma (2 * qb + 1)) x1 x2 j1 = false)) → va_P (dC, dI) vwCl [(h0, .inr (11, [.ref st, .int (nI N), .int (nI B), .ref rp, .int vrs, .int vrb, .int vhs, .int vca, .int vxs, .int vxb, .ref tp, .int (nI T), .int vfa, .int vbr, .int vba, .int vsp, .int vhe, .int vtk, .int vva, .ref cu, .ref lt, .ref od, .ref th, .ref be, .ref ln, .int (nI S), .ref ma, .int (nI M), .ref ah, .ref bh, .ref ik, .ref la, .ref lg, .ref ce, .int vto])), (ma, .inl (G 0, 12, .inl fma))] H → va_S (fun q : Nat => s.heap.size ≤ q) s.heap H locs → ∀ (ls : Array Slot), lv_has ls 5 [(4, .int (nI j1)), (3, .int (nI k3)), (0, .ref h0), (1, .int x1), (2, .int x2)] → W p l e (headSpec (Cond.code yX11_isMarked cX11_isMarked 5 (some .boolean) :: GT) ({ frames := 0, cells := 0, slots := 0, locals := 0 } : Room)).room s m ([.ref h0, .int x1, .int x2] : List Value).toArray below meth c H locs 0 0 (MQ below (va_Qi (fun (r : Int32) (u : Unit) => match u with | _ => (r = if alB (fun qb => fma (2 * qb)) (fun qb => fma (2 * qb + 1)) x1 x2 M = true then 1 else 0) ∧ True) (fun _ _ => True) (fun q : Nat => s.heap.size ≤ q)) ([.ref h0, .int x1, .int x2] : List Value).toArray s 0 0 (fun q : Nat => s.heap.size ≤ q)) (F0 m 5 ls []) := by
    intro nf
    induction nf with
    | zero => intro j1 h1 h2; exact absurd h1 (by omega)
    | succ nf ih5_4 =>
      intro j1 hn5 hj6 k3 H locs hinv hP hS ls hl
      refine lv_iload hx hb dX11_isMarked_5 (lv_at hl 0 rfl) ?_
      refine lv_aload_n hx hb dX11_isMarked_7 rfl (lv_at hl 2 rfl) ?_
      refine va_get (D := (dC, dI)) (ci := 11) (v := .int (nI M)) (C := RX11) (T := TX11) (N := 35) hx hb hg inG11 hown hK.1 hP 0 rfl rfl 27 (Nat.le_of_ble_eq_true rfl) (hg _ wt_905) (fun _ h9 => h9) rfl dX11_isMarked_8 ?_
      refine lv_icmp_ge (tgt := 58) hx hb dX11_isMarked_11 rfl (fun c7 => ?_) (fun c7 => ?_)
      · skip
        have tn2522_ : nIT j1 := fun _ => nI_toInt (by first | omega | (have t := leI c7; omega))
        have n8 : M ≤ j1 := by have t := leI c7; rw [show (nI (j1)).toInt = ((j1 : Nat) : Int) from tn2522_ ()] at t; rw [show (nI (M)).toInt = ((M : Nat) : Int) from tn2521_ ()] at t; omega
        refine lv_iload_n hx hb dX11_isMarked_58 rfl (lv_at hl 1 rfl) ?_
        have hpost : (nI k3 : Int32) = if alB (fun qb => fma (2 * qb)) (fun qb => fma (2 * qb + 1)) x1 x2 M = true then 1 else 0 := by
          have t_hj6 := hj6
          have t_hk5 := (lo_k1 hinv)
          have t_n8 := n8
          have t_n0 : (nI N).toInt = (N : Int) := tn2517_ ()
          have t_n1 : (nI B).toInt = (B : Int) := tn2518_ ()
          have t_n2 : (nI T).toInt = (T : Int) := tn2519_ ()
          have t_n3 : (nI S).toInt = (S : Int) := tn2520_ ()
          have t_n4 : (nI M).toInt = (M : Int) := tn2521_ ()
          have t_n5 : (nI j1).toInt = (j1 : Int) := tn2522_ ()
          have tn2523_ : nIT k3 := fun _ => nI_toInt (by omega)
          have t_n6 : (nI k3).toInt = (k3 : Int) := tn2523_ ()
          have e9 := al_k hinv
          rw [show j1 = M by omega] at e9
          exact e9
        refine W.widen (k := 0) (n := 0) (Nat.le_of_ble_eq_true rfl) (Nat.le_of_ble_eq_true rfl) ?_
        exact W.zret (v := nI k3) hx hb hr (by first | rfl | decide | exact zn01 (nI01 (lo_k1 hinv))) (fun t ht hW => ⟨⟨nI k3, (), rfl, ⟨hpost, trivial⟩, trivial⟩, hS.F ht⟩) hS.2.2 dX11_isMarked_59
      · skip
        have tn2524_ : nIT j1 := fun _ => nI_toInt (by first | omega | (have t := nleI c7; omega))
        have n9 : j1 < M := by have t := nleI c7; rw [show (nI (j1)).toInt = ((j1 : Nat) : Int) from tn2524_ ()] at t; rw [show (nI (M)).toInt = ((M : Nat) : Int) from tn2521_ ()] at t; omega
        refine lv_iload_n hx hb dX11_isMarked_14 rfl (lv_at hl 1 rfl) ?_
        refine lv_if_eq (tgt := 50) hx hb dX11_isMarked_15 rfl (fun c10 => ?_) (fun c10 => ?_)
        · skip
          have tn2525_ : nIT k3 := fun _ => nI_toInt (by first | omega | (have t := eqI c10; omega))
          have n11 : k3 = 0 := by have t := eqI c10; rw [show (nI (k3)).toInt = ((k3 : Nat) : Int) from tn2525_ ()] at t; have : (0 : Int32).toInt = 0 := qI_0; omega
          refine lv_iconst (v := 0) hx hb dX11_isMarked_50 rfl ?_
          refine lv_istore_n (lv' := [(3, .int 0), (4, .int (nI j1)), (0, .ref h0), (1, .int x1), (2, .int x2)]) hx hb dX11_isMarked_51 rfl hl (by decide) rfl (fun ls hl => ?_)
          refine lv_iinc (v := nI (j1 + 1)) (lv' := [(4, .int (nI (j1 + 1))), (3, .int 0), (0, .ref h0), (1, .int x1), (2, .int x2)]) hx hb dX11_isMarked_52 hl (k := 1) rfl (by rw [show Int32.ofInt 1 = nI 1 from by decide]; exact nI_add _ _) (by decide) rfl (fun ls hl => ?_)
          refine lv_goto (tgt := 5) hx hb dX11_isMarked_55 rfl ?_
          exact ih5_4 (j1 + 1) (by omega) (by omega) 0 _ _ (by first | exact Or.inr ⟨rfl, al_n ⟨by assumption, by assumption⟩⟩ | exact Or.inr ⟨rfl, al_f (hinv.resolve_left (fun z9 => by have z8 := z9.1; have t_hj6 := hj6; have t_hk5 := (lo_k1 hinv); have t_n9 := n9; have t_n11 := n11; have tnb_ := nib7 tn2517_ tn2518_ tn2519_ tn2520_ tn2521_ tn2524_ tn2525_; have lz0 : (0 : Int32).toInt = 0 := qI_0; have lz1 : (1 : Int32).toInt = 1 := qI_1; have lz2 : (2 : Int32).toInt = 2 := qI_2; have lz3 : (3 : Int32).toInt = 3 := qI_3; have lz5 : (5 : Int32).toInt = 5 := qI_5; have lz9 : (9 : Int32).toInt = 9 := qI_9; omega)).2 _ (by omega)⟩) hP hS ls (lv_sub hl [0, 1, 2, 3, 4] rfl)
        · skip
          have tn2526_ : nIT k3 := fun _ => nI_toInt (by first | omega | (have t := neI c10; omega))
          have n12 : k3 ≠ 0 := by have t := neI c10; rw [show (nI (k3)).toInt = ((k3 : Nat) : Int) from tn2526_ ()] at t; have : (0 : Int32).toInt = 0 := qI_0; omega
          refine lv_aload_n hx hb dX11_isMarked_18 rfl (lv_at hl 2 rfl) ?_
          refine va_get (D := (dC, dI)) (ci := 11) (v := .ref ma) (C := RX11) (T := TX11) (N := 35) hx hb hg inG11 hown hK.1 hP 0 rfl rfl 26 (Nat.le_of_ble_eq_true rfl) (hg _ wt_904) (fun _ h9 => h9) rfl dX11_isMarked_19 ?_
          refine lv_iconst (v := 2) hx hb dX11_isMarked_22 rfl ?_
          refine lv_iload hx hb dX11_isMarked_23 (lv_at hl 0 rfl) ?_
          refine lv_imul hx hb dX11_isMarked_25 ?_
          refine lv_cg (y := nI (2 * j1)) (by rw [show (2 : Int32) = nI 2 from rfl]; exact pk_mul _ _) ?_
          refine va_iald hx hb hK.1 hP 1 0 rfl rfl (vp_in_nI (by first | omega | (have t_hj6 := hj6; have t_hk5 := (lo_k1 hinv); have t_n9 := n9; have t_n12 := n12; have tnb_ := nib7 tn2517_ tn2518_ tn2519_ tn2520_ tn2521_ tn2524_ tn2526_; omega)) (by decide)) dX11_isMarked_26 ?_
          refine lv_cg (y := fma (2 * j1)) (by rw [nI_clamp (by omega)]) ?_
          refine lv_iload_n hx hb dX11_isMarked_27 rfl (lv_at hl 3 rfl) ?_
          refine lv_icmp_ne (tgt := 46) hx hb dX11_isMarked_28 rfl (fun c13 => ?_) (fun c13 => ?_)
          · skip
            refine lv_iconst (v := 1) hx hb dX11_isMarked_46 rfl ?_
            refine lv_goto (tgt := 51) hx hb dX11_isMarked_47 rfl ?_
            refine lv_istore_n (lv' := [(3, .int 1), (4, .int (nI j1)), (0, .ref h0), (1, .int x1), (2, .int x2)]) hx hb dX11_isMarked_51 rfl hl (by decide) rfl (fun ls hl => ?_)
            refine lv_iinc (v := nI (j1 + 1)) (lv' := [(4, .int (nI (j1 + 1))), (3, .int 1), (0, .ref h0), (1, .int x1), (2, .int x2)]) hx hb dX11_isMarked_52 hl (k := 1) rfl (by rw [show Int32.ofInt 1 = nI 1 from by decide]; exact nI_add _ _) (by decide) rfl (fun ls hl => ?_)
            refine lv_goto (tgt := 5) hx hb dX11_isMarked_55 rfl ?_
            exact ih5_4 (j1 + 1) (by omega) (by omega) 1 _ _ (Or.inl ⟨rfl, al_y (hinv.resolve_right (fun z9 => by have z8 := z9.1; have t_hj6 := hj6; have t_hk5 := (lo_k1 hinv); have t_n9 := n9; have t_n12 := n12; have t_c13 := neI c13; have tnb_ := nib7 tn2517_ tn2518_ tn2519_ tn2520_ tn2521_ tn2524_ tn2526_; have lz0 : (0 : Int32).toInt = 0 := qI_0; have lz1 : (1 : Int32).toInt = 1 := qI_1; have lz2 : (2 : Int32).toInt = 2 := qI_2; have lz3 : (3 : Int32).toInt = 3 := qI_3; have lz5 : (5 : Int32).toInt = 5 := qI_5; have lz9 : (9 : Int32).toInt = 9 := qI_9; omega)).2 (by first | exact (fun e9 => absurd e9.1 (by first | with_reducible assumption | assumption)) | exact (fun e9 => e9.2 (by first | with_reducible assumption | assumption)))⟩) hP hS ls (lv_sub hl [0, 1, 2, 3, 4] rfl)
          · skip
            refine lv_aload_n hx hb dX11_isMarked_31 rfl (lv_at hl 2 rfl) ?_
            refine va_get (D := (dC, dI)) (ci := 11) (v := .ref ma) (C := RX11) (T := TX11) (N := 35) hx hb hg inG11 hown hK.1 hP 0 rfl rfl 26 (Nat.le_of_ble_eq_true rfl) (hg _ wt_904) (fun _ h9 => h9) rfl dX11_isMarked_32 ?_
            refine lv_iconst (v := 2) hx hb dX11_isMarked_35 rfl ?_
            refine lv_iload hx hb dX11_isMarked_36 (lv_at hl 0 rfl) ?_
            refine lv_imul hx hb dX11_isMarked_38 ?_
            refine lv_cg (y := nI (2 * j1)) (by rw [show (2 : Int32) = nI 2 from rfl]; exact pk_mul _ _) ?_
            refine lv_iconst (v := 1) hx hb dX11_isMarked_39 rfl ?_
            refine lv_iadd hx hb dX11_isMarked_40 ?_
            refine lv_cg (y := nI ((2 * j1) + 1)) (by rw [show (1 : Int32) = nI 1 from rfl]; exact nI_add _ _) ?_
            refine va_iald hx hb hK.1 hP 1 0 rfl rfl (vp_in_nI (by first | omega | (have t_hj6 := hj6; have t_hk5 := (lo_k1 hinv); have t_n9 := n9; have t_n12 := n12; have t_c13 := eqI c13; have tnb_ := nib7 tn2517_ tn2518_ tn2519_ tn2520_ tn2521_ tn2524_ tn2526_; omega)) (by decide)) dX11_isMarked_41 ?_
            refine lv_cg (y := fma ((2 * j1) + 1)) (by rw [nI_clamp (by omega)]) ?_
            refine lv_iload_n hx hb dX11_isMarked_42 rfl (lv_at hl 4 rfl) ?_
            refine lv_icmp_ne (tgt := 50) hx hb dX11_isMarked_43 rfl (fun c14 => ?_) (fun c14 => ?_)
            · skip
              refine lv_iconst (v := 0) hx hb dX11_isMarked_50 rfl ?_
              refine lv_istore_n (lv' := [(3, .int 0), (4, .int (nI j1)), (0, .ref h0), (1, .int x1), (2, .int x2)]) hx hb dX11_isMarked_51 rfl hl (by decide) rfl (fun ls hl => ?_)
              refine lv_iinc (v := nI (j1 + 1)) (lv' := [(4, .int (nI (j1 + 1))), (3, .int 0), (0, .ref h0), (1, .int x1), (2, .int x2)]) hx hb dX11_isMarked_52 hl (k := 1) rfl (by rw [show Int32.ofInt 1 = nI 1 from by decide]; exact nI_add _ _) (by decide) rfl (fun ls hl => ?_)
              refine lv_goto (tgt := 5) hx hb dX11_isMarked_55 rfl ?_
              exact ih5_4 (j1 + 1) (by omega) (by omega) 0 _ _ (by first | exact Or.inr ⟨rfl, al_n ⟨by assumption, by assumption⟩⟩ | exact Or.inr ⟨rfl, al_f (hinv.resolve_left (fun z9 => by have z8 := z9.1; have t_hj6 := hj6; have t_hk5 := (lo_k1 hinv); have t_n9 := n9; have t_n12 := n12; have t_c13 := eqI c13; have t_c14 := neI c14; have tnb_ := nib7 tn2517_ tn2518_ tn2519_ tn2520_ tn2521_ tn2524_ tn2526_; have lz0 : (0 : Int32).toInt = 0 := qI_0; have lz1 : (1 : Int32).toInt = 1 := qI_1; have lz2 : (2 : Int32).toInt = 2 := qI_2; have lz3 : (3 : Int32).toInt = 3 := qI_3; have lz5 : (5 : Int32).toInt = 5 := qI_5; have lz9 : (9 : Int32).toInt = 9 := qI_9; omega)).2 _ (by omega)⟩) hP hS ls (lv_sub hl [0, 1, 2, 3, 4] rfl)
            · skip
              refine lv_iconst (v := 1) hx hb dX11_isMarked_46 rfl ?_
              refine lv_goto (tgt := 51) hx hb dX11_isMarked_47 rfl ?_
              refine lv_istore_n (lv' := [(3, .int 1), (4, .int (nI j1)), (0, .ref h0), (1, .int x1), (2, .int x2)]) hx hb dX11_isMarked_51 rfl hl (by decide) rfl (fun ls hl => ?_)
              refine lv_iinc (v := nI (j1 + 1)) (lv' := [(4, .int (nI (j1 + 1))), (3, .int 1), (0, .ref h0), (1, .int x1), (2, .int x2)]) hx hb dX11_isMarked_52 hl (k := 1) rfl (by rw [show Int32.ofInt 1 = nI 1 from by decide]; exact nI_add _ _) (by decide) rfl (fun ls hl => ?_)
              refine lv_goto (tgt := 5) hx hb dX11_isMarked_55 rfl ?_
              exact ih5_4 (j1 + 1) (by omega) (by omega) 1 _ _ (Or.inl ⟨rfl, al_y (hinv.resolve_right (fun z9 => by have z8 := z9.1; have t_hj6 := hj6; have t_hk5 := (lo_k1 hinv); have t_n9 := n9; have t_n12 := n12; have t_c13 := eqI c13; have t_c14 := eqI c14; have tnb_ := nib7 tn2517_ tn2518_ tn2519_ tn2520_ tn2521_ tn2524_ tn2526_; have lz0 : (0 : Int32).toInt = 0 := qI_0; have lz1 : (1 : Int32).toInt = 1 := qI_1; have lz2 : (2 : Int32).toInt = 2 := qI_2; have lz3 : (3 : Int32).toInt = 3 := qI_3; have lz5 : (5 : Int32).toInt = 5 := qI_5; have lz9 : (9 : Int32).toInt = 9 := qI_9; omega)).2 (by first | exact (fun e9 => absurd e9.1 (by first | with_reducible assumption | assumption)) | exact (fun e9 => e9.2 (by first | with_reducible assumption | assumption)))⟩) hP hS ls (lv_sub hl [0, 1, 2, 3, 4] rfl)
  exact loop5_4 (M + 1) 0 (by omega) (by omega) 1 _ _ (Or.inl ⟨rfl, rfl⟩) hP hS ls (lv_sub hl [0, 1, 2, 3, 4] rfl)

set_option maxHeartbeats 1000000 in
set_option maxRecDepth 100000 in
theorem c_X11_depthThen1 (l : Launch) (dC : Nat → ClassId) (dI : Nat → Nat → Nat) (G : Nat → ClassId) (sz : Nat) (h0 i d st N B rp tp T cu lt od th be ln S ma M ah bh ik la lg ce : Nat) (vrs vrb vhs vca vxs vxb vfa vbr vba vsp vhe vtk vva vto : Int32) (fst : Nat → Int32) (fma : Nat → Int32) (hN : N ≤ 10) (hB : B ≤ 6) (hT : T ≤ 320) (hS0 : S ≤ 8) (hM : M ≤ 6) (hst : OKS fst) (hi : i < 10) (hd9 : d ≤ 9) : Met l yX11_depthThen (Cond.code yX11_depthThen cX11_depthThen 6 (some .int) :: GT) ({ frames := 3, cells := 0, slots := 0, locals := 72 } : Room) (PcR [.ref h0, .int (nI i), .int (nI d), .int 1] dC dI G [(h0, .inr (11, [.ref st, .int (nI N), .int (nI B), .ref rp, .int vrs, .int vrb, .int vhs, .int vca, .int vxs, .int vxb, .ref tp, .int (nI T), .int vfa, .int vbr, .int vba, .int vsp, .int vhe, .int vtk, .int vva, .ref cu, .ref lt, .ref od, .ref th, .ref be, .ref ln, .int (nI S), .ref ma, .int (nI M), .ref ah, .ref bh, .ref ik, .ref la, .ref lg, .ref ce, .int vto])), (st, .inl (G 0, 196, .inl fst)), (ma, .inl (G 0, 12, .inl fma))] sz) (va_Qi (fun (r : Int32) (u : Unit) => match u with | _ => (r = if ((¬ d = 0 ∧ ¬ rhO fst i 0 = 0) ∧ alB (fun qb => fma (2 * qb)) (fun qb => fma (2 * qb + 1)) (nI i) (nI (d - 1)) M = true) then nI (d - 1) else -4) ∧ True) (fun _ _ => True) (fun q : Nat => sz ≤ q)) 0 0 (fun q : Nat => sz ≤ q) := by
  have hB_ := hB
  have hM_ := hM
  have hT_ := hT
  have tn2527_ : nIT N := fun _ => nI_toInt (by omega)
  have tn2528_ : nIT B := fun _ => nI_toInt (by omega)
  have tn2529_ : nIT T := fun _ => nI_toInt (by omega)
  have tn2530_ : nIT S := fun _ => nI_toInt (by omega)
  have tn2531_ : nIT M := fun _ => nI_toInt (by omega)
  refine Met.ofW (cc := cX11_depthThen) (maxL := 6) (ret := (some .int)) (by decide) rfl ?_
  intro p e s m args below meth c s₁ Bd hml hv
  obtain ⟨rfl, hsz, hP, hK⟩ := hv
  have hx := Bd.exec
  have hb := Bd.bytes
  have hr := Bd.returns
  have hg : ∀ w ∈ GT, w.before ([.ref h0, .int (nI i), .int (nI d), .int 1] : List Value).toArray s = true := fun w h => atoms_spec (ws := Cond.code yX11_depthThen cX11_depthThen 6 (some .int) :: GT) Bd.pre w (List.mem_cons_of_mem _ h)
  have hown : s.vm.findClass RX11 = some m.cls := findClass_of_methodNamed Bd.named
  have hlocks := Bd.notSynchronized
  subst hsz
  have hA : ∀ q : Nat, s.heap.size ≤ q → (fun q : Nat => s.heap.size ≤ q) q := fun _ h => h
  have hS : va_S (fun q : Nat => s.heap.size ≤ q) s.heap s.heap [] := va_S.rf
  have hl := lv_entry ([.ref h0, .int (nI i), .int (nI d), .int 1]) (n := 6) (Nat.le_of_ble_eq_true rfl)
  rw [lg_entry_eq]
  generalize (lg_sl ([.ref h0, .int (nI i), .int (nI d), .int 1]) ++ List.replicate (6 - (lg_sl ([.ref h0, .int (nI i), .int (nI d), .int 1])).length) Slot.unset).toArray = ls at hl ⊢
  have hl : lv_has ls 6 [(0, .ref h0), (1, .int (nI i)), (2, .int (nI d)), (3, .int 1)] := hl
  refine lv_aload_n hx hb dX11_depthThen_0 rfl (lv_at hl 0 rfl) ?_
  refine lv_iload_n hx hb dX11_depthThen_1 rfl (lv_at hl 1 rfl) ?_
  refine lv_iconst (v := 0) hx hb dX11_depthThen_2 rfl ?_
  have hPc := hP.sub (ws' := [(h0, .inr (11, [.ref st, .int (nI N), .int (nI B), .ref rp, .int vrs, .int vrb, .int vhs, .int vca, .int vxs, .int vxb, .ref tp, .int (nI T), .int vfa, .int vbr, .int vba, .int vsp, .int vhe, .int vtk, .int vva, .ref cu, .ref lt, .ref od, .ref th, .ref be, .ref ln, .int (nI S), .ref ma, .int (nI M), .ref ah, .ref bh, .ref ik, .ref la, .ref lg, .ref ce, .int vto])), (st, .inl (G 0, 196, .inl fst))]) [0, 1] rfl
  have tn2532_ : nIT i := fun _ => nI_toInt (by omega)
  have tn2533_ : nIT d := fun _ => nI_toInt (by omega)
  refine va_calli (va_runV (As := [.int (nI i), .int 0]) (rest := []) ⟨hx, hb, hml, hown, hg⟩ (c_X11_orderedHarmE l dC dI G _ h0 i st N B rp tp T cu lt od th be ln S ma M ah bh ik la lg ce 0 vrs vrb vhs vca vxs vxb vfa vbr vba vsp vhe vtk vva vto fst hN hB_ hT_ hS0 hM_ hi hst) (kwV hg mfX11_orderedHarm wt_1123 ⟨Nat.le_of_ble_eq_true rfl, Nat.le_of_ble_eq_true rfl⟩) (preVR hK hPc (ci := 11) (r := (RX11, TX11, 35)) rfl rfl) rfl rfl hl.1 rfl (lv_room (Nat.le_of_ble_eq_true rfl)) dX11_depthThen_3 ⟨Nat.le_of_ble_eq_true rfl, Nat.le_of_ble_eq_true rfl⟩) hS (fun q h1 h2 => absurd h2 (Nat.not_le.mpr h1)) (fun q h => hA q (Nat.le_trans hS.1 h)) (fun r1 ur1 t H1 locs ht hvm w2 hB hz1 hk1 hS => ?_)
  have hP := keepR hP hk1
  obtain ⟨w2, w2x⟩ := w2
  subst w2
  refine lv_istore (lv' := [(4, .int (rhO fst i 0)), (0, .ref h0), (1, .int (nI i)), (2, .int (nI d)), (3, .int 1)]) hx hb dX11_depthThen_6 hl (by decide) rfl (fun ls hl => ?_)
  refine lv_iload_n hx hb dX11_depthThen_8 rfl (lv_at hl 3 rfl) ?_
  refine lv_if_eq (tgt := 31) hx hb dX11_depthThen_9 rfl (fun c3 => ?_) (fun c3 => ?_)
  · skip
    have n4 : d = 0 := by have t := eqI c3; rw [show (nI (d)).toInt = ((d : Nat) : Int) from tn2533_ ()] at t; have : (0 : Int32).toInt = 0 := qI_0; omega
    refine lv_bipush (v := (-4)) hx hb dX11_depthThen_31 rfl ?_
    have hpost : ((-4) : Int32) = if ((¬ d = 0 ∧ ¬ rhO fst i 0 = 0) ∧ alB (fun qb => fma (2 * qb)) (fun qb => fma (2 * qb + 1)) (nI i) (nI (d - 1)) M = true) then nI (d - 1) else -4 := by
      rw [if_neg (by first | exact (fun h9 => h9.1.1 (by (have t_n4 := n4; have tnb_ := nib7 tn2532_ tn2533_ tn2527_ tn2528_ tn2529_ tn2530_ tn2531_; have lz0 : (0 : Int32).toInt = 0 := qI_0; have lz1 : (1 : Int32).toInt = 1 := qI_1; have lz2 : (2 : Int32).toInt = 2 := qI_2; have lz3 : (3 : Int32).toInt = 3 := qI_3; have lz5 : (5 : Int32).toInt = 5 := qI_5; have lz9 : (9 : Int32).toInt = 9 := qI_9; omega))) | exact (fun h9 => h9.1.2 (by first | with_reducible assumption | assumption)))]
    refine W.widen (k := 0) (n := 0) (Nat.le_of_ble_eq_true rfl) (Nat.le_of_ble_eq_true rfl) ?_
    exact W.iret (v := (-4)) hx hb hr (fun t ht hW => ⟨⟨(-4), (), rfl, ⟨hpost, trivial⟩, trivial⟩, hS.F ht⟩) hS.2.2 dX11_depthThen_33
  · skip
    have n5 : d ≠ 0 := by have t := neI c3; rw [show (nI (d)).toInt = ((d : Nat) : Int) from tn2533_ ()] at t; have : (0 : Int32).toInt = 0 := qI_0; omega
    refine lv_iload_n hx hb dX11_depthThen_12 rfl (lv_at hl 4 rfl) ?_
    refine lv_if_eq (tgt := 24) hx hb dX11_depthThen_13 rfl (fun c6 => ?_) (fun c6 => ?_)
    · skip
      exact absurd c6 (by decide)
    · skip
      refine lv_iload hx hb dX11_depthThen_16 (lv_at hl 0 rfl) ?_
      refine lv_if_ne (tgt := 34) hx hb dX11_depthThen_18 rfl (fun c7 => ?_) (fun c7 => ?_)
      · skip
        refine lv_iload_n hx hb dX11_depthThen_34 rfl (lv_at hl 4 rfl) ?_
        refine lv_if_eq (tgt := 44) hx hb dX11_depthThen_35 rfl (fun c8 => ?_) (fun c8 => ?_)
        · skip
          exact absurd c8 (by decide)
        · skip
          refine lv_iload_n hx hb dX11_depthThen_38 rfl (lv_at hl 3 rfl) ?_
          refine lv_iconst (v := 1) hx hb dX11_depthThen_39 rfl ?_
          refine lv_isub hx hb dX11_depthThen_40 ?_
          refine lv_cg (y := nI (d - 1)) (by rw [show (1 : Int32) = nI 1 from rfl]; exact pk_sub (by have t_n5 := n5; have t_c6 := neI c6; have t_c7 := neI c7; have t_c8 := neI c8; have tqz_ := qz2_; have tnb_ := nib7 tn2532_ tn2533_ tn2527_ tn2528_ tn2529_ tn2530_ tn2531_; omega)) ?_
          refine lv_goto (tgt := 49) hx hb dX11_depthThen_41 rfl ?_
          refine lv_istore (lv' := [(5, .int (nI (d - 1))), (4, .int (rhO fst i 0)), (0, .ref h0), (1, .int (nI i)), (2, .int (nI d)), (3, .int 1)]) hx hb dX11_depthThen_49 hl (by decide) rfl (fun ls hl => ?_)
          refine lv_aload_n hx hb dX11_depthThen_51 rfl (lv_at hl 2 rfl) ?_
          refine lv_iload_n hx hb dX11_depthThen_52 rfl (lv_at hl 3 rfl) ?_
          refine lv_iload hx hb dX11_depthThen_53 (lv_at hl 0 rfl) ?_
          have hPc := hP.sub (ws' := [(h0, .inr (11, [.ref st, .int (nI N), .int (nI B), .ref rp, .int vrs, .int vrb, .int vhs, .int vca, .int vxs, .int vxb, .ref tp, .int (nI T), .int vfa, .int vbr, .int vba, .int vsp, .int vhe, .int vtk, .int vva, .ref cu, .ref lt, .ref od, .ref th, .ref be, .ref ln, .int (nI S), .ref ma, .int (nI M), .ref ah, .ref bh, .ref ik, .ref la, .ref lg, .ref ce, .int vto])), (ma, .inl (G 0, 12, .inl fma))]) [0, 2] rfl
          refine va_calli (va_runV (As := [.int (nI i), .int (nI (d - 1))]) (rest := []) ⟨hx, hb, hml, hown, hg⟩ (c_X11_isMarkedE l dC dI G _ h0 st N B rp tp T cu lt od th be ln S ma M ah bh ik la lg ce (nI i) (nI (d - 1)) vrs vrb vhs vca vxs vxb vfa vbr vba vsp vhe vtk vva vto fma hN hB_ hT_ hS0 hM_) (kwV hg mfX11_isMarked wt_1228 ⟨Nat.le_of_ble_eq_true rfl, Nat.le_of_ble_eq_true rfl⟩) (preVR hK hPc (ci := 11) (r := (RX11, TX11, 35)) rfl rfl) rfl rfl hl.1 rfl (lv_room (Nat.le_of_ble_eq_true rfl)) dX11_depthThen_55 ⟨Nat.le_of_ble_eq_true rfl, Nat.le_of_ble_eq_true rfl⟩) hS (fun q h1 h2 => absurd h2 (Nat.not_le.mpr h1)) (fun q h => hA q (Nat.le_trans hS.1 h)) (fun r9 ur9 t H1 locs ht hvm w10 hB hz1 hk1 hS => ?_)
          have hP := keepR hP hk1
          obtain ⟨w10, w10x⟩ := w10
          refine lv_if_eq (tgt := 66) hx hb dX11_depthThen_58 rfl (fun c11 => ?_) (fun c11 => ?_)
          · skip
            refine lv_bipush (v := (-4)) hx hb dX11_depthThen_66 rfl ?_
            have hpost : ((-4) : Int32) = if ((¬ d = 0 ∧ ¬ rhO fst i 0 = 0) ∧ alB (fun qb => fma (2 * qb)) (fun qb => fma (2 * qb + 1)) (nI i) (nI (d - 1)) M = true) then nI (d - 1) else -4 := by
              rw [if_neg (fun h9 => by have e7 := w10; rw [if_pos h9.2] at e7; exact absurd (e7.symm.trans (show _ = (0 : Int32) from by assumption)) (by decide))]
            refine W.widen (k := 0) (n := 0) (Nat.le_of_ble_eq_true rfl) (Nat.le_of_ble_eq_true rfl) ?_
            exact W.iret (v := (-4)) hx hb hr (fun t ht hW => ⟨⟨(-4), (), rfl, ⟨hpost, trivial⟩, trivial⟩, hS.F ht⟩) hS.2.2 dX11_depthThen_68
          · skip
            refine lv_iload hx hb dX11_depthThen_61 (lv_at hl 0 rfl) ?_
            refine lv_goto (tgt := 68) hx hb dX11_depthThen_63 rfl ?_
            have hpost : (nI (d - 1) : Int32) = if ((¬ d = 0 ∧ ¬ rhO fst i 0 = 0) ∧ alB (fun qb => fma (2 * qb)) (fun qb => fma (2 * qb + 1)) (nI i) (nI (d - 1)) M = true) then nI (d - 1) else -4 := by
              have e7 := w10
              rw [if_pos ⟨⟨by (have t_n5 := n5; have t_c6 := neI c6; have t_c7 := neI c7; have t_c8 := neI c8; have t_c11 := neI c11; have tqz_ := qz2_; have tnb_ := nib7 tn2532_ tn2533_ tn2527_ tn2528_ tn2529_ tn2530_ tn2531_; have lz0 : (0 : Int32).toInt = 0 := qI_0; have lz1 : (1 : Int32).toInt = 1 := qI_1; have lz2 : (2 : Int32).toInt = 2 := qI_2; have lz3 : (3 : Int32).toInt = 3 := qI_3; have lz5 : (5 : Int32).toInt = 5 := qI_5; have lz9 : (9 : Int32).toInt = 9 := qI_9; omega), by assumption⟩, (by by_cases e8 : alB (fun qb => fma (2 * qb)) (fun qb => fma (2 * qb + 1)) (nI i) (nI (d - 1)) M = true; exact e8; (rw [if_neg e8] at e7; exact absurd e7 (by first | with_reducible assumption | assumption)))⟩]
            refine W.widen (k := 0) (n := 0) (Nat.le_of_ble_eq_true rfl) (Nat.le_of_ble_eq_true rfl) ?_
            exact W.iret (v := nI (d - 1)) hx hb hr (fun t ht hW => ⟨⟨nI (d - 1), (), rfl, ⟨hpost, trivial⟩, trivial⟩, hS.F ht⟩) hS.2.2 dX11_depthThen_68
      · skip
        refine lv_goto (tgt := 31) hx hb dX11_depthThen_21 rfl ?_
        refine lv_bipush (v := (-4)) hx hb dX11_depthThen_31 rfl ?_
        have hpost : ((-4) : Int32) = if ((¬ d = 0 ∧ ¬ rhO fst i 0 = 0) ∧ alB (fun qb => fma (2 * qb)) (fun qb => fma (2 * qb + 1)) (nI i) (nI (d - 1)) M = true) then nI (d - 1) else -4 := by
          rw [if_neg (by first | exact (fun h9 => h9.1.1 (by (have t_n5 := n5; have t_c6 := neI c6; have t_c7 := eqI c7; have tqz_ := qz2_; have tnb_ := nib7 tn2532_ tn2533_ tn2527_ tn2528_ tn2529_ tn2530_ tn2531_; have lz0 : (0 : Int32).toInt = 0 := qI_0; have lz1 : (1 : Int32).toInt = 1 := qI_1; have lz2 : (2 : Int32).toInt = 2 := qI_2; have lz3 : (3 : Int32).toInt = 3 := qI_3; have lz5 : (5 : Int32).toInt = 5 := qI_5; have lz9 : (9 : Int32).toInt = 9 := qI_9; omega))) | exact (fun h9 => h9.1.2 (by first | with_reducible assumption | assumption)))]
        refine W.widen (k := 0) (n := 0) (Nat.le_of_ble_eq_true rfl) (Nat.le_of_ble_eq_true rfl) ?_
        exact W.iret (v := (-4)) hx hb hr (fun t ht hW => ⟨⟨(-4), (), rfl, ⟨hpost, trivial⟩, trivial⟩, hS.F ht⟩) hS.2.2 dX11_depthThen_33

set_option maxHeartbeats 1000000 in
set_option maxRecDepth 100000 in
theorem c_X11_depthThen0 (l : Launch) (dC : Nat → ClassId) (dI : Nat → Nat → Nat) (G : Nat → ClassId) (sz : Nat) (h0 i d st N B rp tp T cu lt od th be ln S ma M ah bh ik la lg ce : Nat) (vrs vrb vhs vca vxs vxb vfa vbr vba vsp vhe vtk vva vto : Int32) (fst : Nat → Int32) (fma : Nat → Int32) (hN : N ≤ 10) (hB : B ≤ 6) (hT : T ≤ 320) (hS0 : S ≤ 8) (hM : M ≤ 6) (hst : OKS fst) (hi : i < 10) (hd9 : d ≤ 9) : Met l yX11_depthThen (Cond.code yX11_depthThen cX11_depthThen 6 (some .int) :: GT) ({ frames := 3, cells := 0, slots := 0, locals := 72 } : Room) (PcR [.ref h0, .int (nI i), .int (nI d), .int 0] dC dI G [(h0, .inr (11, [.ref st, .int (nI N), .int (nI B), .ref rp, .int vrs, .int vrb, .int vhs, .int vca, .int vxs, .int vxb, .ref tp, .int (nI T), .int vfa, .int vbr, .int vba, .int vsp, .int vhe, .int vtk, .int vva, .ref cu, .ref lt, .ref od, .ref th, .ref be, .ref ln, .int (nI S), .ref ma, .int (nI M), .ref ah, .ref bh, .ref ik, .ref la, .ref lg, .ref ce, .int vto])), (st, .inl (G 0, 196, .inl fst)), (ma, .inl (G 0, 12, .inl fma))] sz) (va_Qi (fun (r : Int32) (u : Unit) => match u with | _ => (r = if ((¬ d = 0 ∧ ¬ rhO fst i 0 = 20) ∧ alB (fun qb => fma (2 * qb)) (fun qb => fma (2 * qb + 1)) (nI i) (nI (min 9 (d + 1))) M = true) then nI (min 9 (d + 1)) else -4) ∧ True) (fun _ _ => True) (fun q : Nat => sz ≤ q)) 0 0 (fun q : Nat => sz ≤ q) := by
  have hB_ := hB
  have hM_ := hM
  have hT_ := hT
  have tn2534_ : nIT N := fun _ => nI_toInt (by omega)
  have tn2535_ : nIT B := fun _ => nI_toInt (by omega)
  have tn2536_ : nIT T := fun _ => nI_toInt (by omega)
  have tn2537_ : nIT S := fun _ => nI_toInt (by omega)
  have tn2538_ : nIT M := fun _ => nI_toInt (by omega)
  refine Met.ofW (cc := cX11_depthThen) (maxL := 6) (ret := (some .int)) (by decide) rfl ?_
  intro p e s m args below meth c s₁ Bd hml hv
  obtain ⟨rfl, hsz, hP, hK⟩ := hv
  have hx := Bd.exec
  have hb := Bd.bytes
  have hr := Bd.returns
  have hg : ∀ w ∈ GT, w.before ([.ref h0, .int (nI i), .int (nI d), .int 0] : List Value).toArray s = true := fun w h => atoms_spec (ws := Cond.code yX11_depthThen cX11_depthThen 6 (some .int) :: GT) Bd.pre w (List.mem_cons_of_mem _ h)
  have hown : s.vm.findClass RX11 = some m.cls := findClass_of_methodNamed Bd.named
  have hlocks := Bd.notSynchronized
  subst hsz
  have hA : ∀ q : Nat, s.heap.size ≤ q → (fun q : Nat => s.heap.size ≤ q) q := fun _ h => h
  have hS : va_S (fun q : Nat => s.heap.size ≤ q) s.heap s.heap [] := va_S.rf
  have hl := lv_entry ([.ref h0, .int (nI i), .int (nI d), .int 0]) (n := 6) (Nat.le_of_ble_eq_true rfl)
  rw [lg_entry_eq]
  generalize (lg_sl ([.ref h0, .int (nI i), .int (nI d), .int 0]) ++ List.replicate (6 - (lg_sl ([.ref h0, .int (nI i), .int (nI d), .int 0])).length) Slot.unset).toArray = ls at hl ⊢
  have hl : lv_has ls 6 [(0, .ref h0), (1, .int (nI i)), (2, .int (nI d)), (3, .int 0)] := hl
  refine lv_aload_n hx hb dX11_depthThen_0 rfl (lv_at hl 0 rfl) ?_
  refine lv_iload_n hx hb dX11_depthThen_1 rfl (lv_at hl 1 rfl) ?_
  refine lv_iconst (v := 0) hx hb dX11_depthThen_2 rfl ?_
  have hPc := hP.sub (ws' := [(h0, .inr (11, [.ref st, .int (nI N), .int (nI B), .ref rp, .int vrs, .int vrb, .int vhs, .int vca, .int vxs, .int vxb, .ref tp, .int (nI T), .int vfa, .int vbr, .int vba, .int vsp, .int vhe, .int vtk, .int vva, .ref cu, .ref lt, .ref od, .ref th, .ref be, .ref ln, .int (nI S), .ref ma, .int (nI M), .ref ah, .ref bh, .ref ik, .ref la, .ref lg, .ref ce, .int vto])), (st, .inl (G 0, 196, .inl fst))]) [0, 1] rfl
  have tn2539_ : nIT i := fun _ => nI_toInt (by omega)
  have tn2540_ : nIT d := fun _ => nI_toInt (by omega)
  refine va_calli (va_runV (As := [.int (nI i), .int 0]) (rest := []) ⟨hx, hb, hml, hown, hg⟩ (c_X11_orderedHarmE l dC dI G _ h0 i st N B rp tp T cu lt od th be ln S ma M ah bh ik la lg ce 0 vrs vrb vhs vca vxs vxb vfa vbr vba vsp vhe vtk vva vto fst hN hB_ hT_ hS0 hM_ hi hst) (kwV hg mfX11_orderedHarm wt_1123 ⟨Nat.le_of_ble_eq_true rfl, Nat.le_of_ble_eq_true rfl⟩) (preVR hK hPc (ci := 11) (r := (RX11, TX11, 35)) rfl rfl) rfl rfl hl.1 rfl (lv_room (Nat.le_of_ble_eq_true rfl)) dX11_depthThen_3 ⟨Nat.le_of_ble_eq_true rfl, Nat.le_of_ble_eq_true rfl⟩) hS (fun q h1 h2 => absurd h2 (Nat.not_le.mpr h1)) (fun q h => hA q (Nat.le_trans hS.1 h)) (fun r1 ur1 t H1 locs ht hvm w2 hB hz1 hk1 hS => ?_)
  have hP := keepR hP hk1
  obtain ⟨w2, w2x⟩ := w2
  subst w2
  refine lv_istore (lv' := [(4, .int (rhO fst i 0)), (0, .ref h0), (1, .int (nI i)), (2, .int (nI d)), (3, .int 0)]) hx hb dX11_depthThen_6 hl (by decide) rfl (fun ls hl => ?_)
  refine lv_iload_n hx hb dX11_depthThen_8 rfl (lv_at hl 3 rfl) ?_
  refine lv_if_eq (tgt := 31) hx hb dX11_depthThen_9 rfl (fun c3 => ?_) (fun c3 => ?_)
  · skip
    have n4 : d = 0 := by have t := eqI c3; rw [show (nI (d)).toInt = ((d : Nat) : Int) from tn2540_ ()] at t; have : (0 : Int32).toInt = 0 := qI_0; omega
    refine lv_bipush (v := (-4)) hx hb dX11_depthThen_31 rfl ?_
    have hpost : ((-4) : Int32) = if ((¬ d = 0 ∧ ¬ rhO fst i 0 = 20) ∧ alB (fun qb => fma (2 * qb)) (fun qb => fma (2 * qb + 1)) (nI i) (nI (min 9 (d + 1))) M = true) then nI (min 9 (d + 1)) else -4 := by
      rw [if_neg (by first | exact (fun h9 => h9.1.1 (by (have t_n4 := n4; have tnb_ := nib7 tn2539_ tn2540_ tn2534_ tn2535_ tn2536_ tn2537_ tn2538_; have lz0 : (0 : Int32).toInt = 0 := qI_0; have lz1 : (1 : Int32).toInt = 1 := qI_1; have lz2 : (2 : Int32).toInt = 2 := qI_2; have lz3 : (3 : Int32).toInt = 3 := qI_3; have lz5 : (5 : Int32).toInt = 5 := qI_5; have lz9 : (9 : Int32).toInt = 9 := qI_9; omega))) | exact (fun h9 => h9.1.2 (by first | with_reducible assumption | assumption)))]
    refine W.widen (k := 0) (n := 0) (Nat.le_of_ble_eq_true rfl) (Nat.le_of_ble_eq_true rfl) ?_
    exact W.iret (v := (-4)) hx hb hr (fun t ht hW => ⟨⟨(-4), (), rfl, ⟨hpost, trivial⟩, trivial⟩, hS.F ht⟩) hS.2.2 dX11_depthThen_33
  · skip
    have n5 : d ≠ 0 := by have t := neI c3; rw [show (nI (d)).toInt = ((d : Nat) : Int) from tn2540_ ()] at t; have : (0 : Int32).toInt = 0 := qI_0; omega
    refine lv_iload_n hx hb dX11_depthThen_12 rfl (lv_at hl 4 rfl) ?_
    refine lv_if_eq (tgt := 24) hx hb dX11_depthThen_13 rfl (fun c6 => ?_) (fun c6 => ?_)
    · skip
      refine lv_iload hx hb dX11_depthThen_24 (lv_at hl 0 rfl) ?_
      refine lv_bipush (v := 20) hx hb dX11_depthThen_26 rfl ?_
      refine lv_icmp_ne (tgt := 34) hx hb dX11_depthThen_28 rfl (fun c7 => ?_) (fun c7 => ?_)
      · skip
        refine lv_iload_n hx hb dX11_depthThen_34 rfl (lv_at hl 4 rfl) ?_
        refine lv_if_eq (tgt := 44) hx hb dX11_depthThen_35 rfl (fun c8 => ?_) (fun c8 => ?_)
        · skip
          refine lv_iload_n hx hb dX11_depthThen_44 rfl (lv_at hl 3 rfl) ?_
          refine lv_iconst (v := 1) hx hb dX11_depthThen_45 rfl ?_
          have hPc := hP.sub (ws' := []) [] rfl
          refine va_calli (va_runS (As := [.int (nI d), .int 1]) (rest := []) ⟨hx, hb, hml, hown, hg⟩ (c_X11_deeper l dC dI G _ d 1 hd9 (by first | omega | (have t_n5 := n5; have t_c6 := eqI c6; have t_c7 := neI c7; have t_c8 := eqI c8; have tqz_ := qz12_; have tnb_ := nib7 tn2539_ tn2540_ tn2534_ tn2535_ tn2536_ tn2537_ tn2538_; have : (1 : Int32).toInt = 1 := qI_1; omega))) (kwS hg mfX11_deeper wt_1128 ⟨Nat.le_of_ble_eq_true rfl, Nat.le_of_ble_eq_true rfl⟩) (preSR hK hPc) rfl rfl hl.1 rfl (lv_room (Nat.le_of_ble_eq_true rfl)) dX11_depthThen_46 ⟨Nat.le_of_ble_eq_true rfl, Nat.le_of_ble_eq_true rfl⟩) hS (fun q h1 h2 => absurd h2 (Nat.not_le.mpr h1)) (fun q h => hA q (Nat.le_trans hS.1 h)) (fun r9 ur9 t H1 locs ht hvm w10 hB hz1 hk1 hS => ?_)
          have hP := keepR hP hk1
          obtain ⟨w10, w10x⟩ := w10
          have hs11 : d ≤ (min 9 (d + 1)) ∧ (min 9 (d + 1)) ≤ 9 := (by omega)
          subst w10
          refine lv_istore (lv' := [(5, .int (nI (min 9 (d + 1)))), (4, .int (rhO fst i 0)), (0, .ref h0), (1, .int (nI i)), (2, .int (nI d)), (3, .int 0)]) hx hb dX11_depthThen_49 hl (by decide) rfl (fun ls hl => ?_)
          refine lv_aload_n hx hb dX11_depthThen_51 rfl (lv_at hl 2 rfl) ?_
          refine lv_iload_n hx hb dX11_depthThen_52 rfl (lv_at hl 3 rfl) ?_
          refine lv_iload hx hb dX11_depthThen_53 (lv_at hl 0 rfl) ?_
          have hPc := hP.sub (ws' := [(h0, .inr (11, [.ref st, .int (nI N), .int (nI B), .ref rp, .int vrs, .int vrb, .int vhs, .int vca, .int vxs, .int vxb, .ref tp, .int (nI T), .int vfa, .int vbr, .int vba, .int vsp, .int vhe, .int vtk, .int vva, .ref cu, .ref lt, .ref od, .ref th, .ref be, .ref ln, .int (nI S), .ref ma, .int (nI M), .ref ah, .ref bh, .ref ik, .ref la, .ref lg, .ref ce, .int vto])), (ma, .inl (G 0, 12, .inl fma))]) [0, 2] rfl
          refine va_calli (va_runV (As := [.int (nI i), .int (nI (min 9 (d + 1)))]) (rest := []) ⟨hx, hb, hml, hown, hg⟩ (c_X11_isMarkedE l dC dI G _ h0 st N B rp tp T cu lt od th be ln S ma M ah bh ik la lg ce (nI i) (nI (min 9 (d + 1))) vrs vrb vhs vca vxs vxb vfa vbr vba vsp vhe vtk vva vto fma hN hB_ hT_ hS0 hM_) (kwV hg mfX11_isMarked wt_1228 ⟨Nat.le_of_ble_eq_true rfl, Nat.le_of_ble_eq_true rfl⟩) (preVR hK hPc (ci := 11) (r := (RX11, TX11, 35)) rfl rfl) rfl rfl hl.1 rfl (lv_room (Nat.le_of_ble_eq_true rfl)) dX11_depthThen_55 ⟨Nat.le_of_ble_eq_true rfl, Nat.le_of_ble_eq_true rfl⟩) hS (fun q h1 h2 => absurd h2 (Nat.not_le.mpr h1)) (fun q h => hA q (Nat.le_trans hS.1 h)) (fun r12 ur12 t H1 locs ht hvm w13 hB hz1 hk1 hS => ?_)
          have hP := keepR hP hk1
          obtain ⟨w13, w13x⟩ := w13
          refine lv_if_eq (tgt := 66) hx hb dX11_depthThen_58 rfl (fun c14 => ?_) (fun c14 => ?_)
          · skip
            refine lv_bipush (v := (-4)) hx hb dX11_depthThen_66 rfl ?_
            have hpost : ((-4) : Int32) = if ((¬ d = 0 ∧ ¬ rhO fst i 0 = 20) ∧ alB (fun qb => fma (2 * qb)) (fun qb => fma (2 * qb + 1)) (nI i) (nI (min 9 (d + 1))) M = true) then nI (min 9 (d + 1)) else -4 := by
              rw [if_neg (fun h9 => by have e7 := w13; rw [if_pos h9.2] at e7; exact absurd (e7.symm.trans (show _ = (0 : Int32) from by assumption)) (by decide))]
            refine W.widen (k := 0) (n := 0) (Nat.le_of_ble_eq_true rfl) (Nat.le_of_ble_eq_true rfl) ?_
            exact W.iret (v := (-4)) hx hb hr (fun t ht hW => ⟨⟨(-4), (), rfl, ⟨hpost, trivial⟩, trivial⟩, hS.F ht⟩) hS.2.2 dX11_depthThen_68
          · skip
            refine lv_iload hx hb dX11_depthThen_61 (lv_at hl 0 rfl) ?_
            refine lv_goto (tgt := 68) hx hb dX11_depthThen_63 rfl ?_
            have hpost : (nI (min 9 (d + 1)) : Int32) = if ((¬ d = 0 ∧ ¬ rhO fst i 0 = 20) ∧ alB (fun qb => fma (2 * qb)) (fun qb => fma (2 * qb + 1)) (nI i) (nI (min 9 (d + 1))) M = true) then nI (min 9 (d + 1)) else -4 := by
              have e7 := w13
              rw [if_pos ⟨⟨by (have t_n5 := n5; have t_c6 := eqI c6; have t_c7 := neI c7; have t_c8 := eqI c8; have t_hs11 := hs11; have t_c14 := neI c14; have tqz_ := qz12_; have tnb_ := nib7 tn2539_ tn2540_ tn2534_ tn2535_ tn2536_ tn2537_ tn2538_; have lz0 : (0 : Int32).toInt = 0 := qI_0; have lz1 : (1 : Int32).toInt = 1 := qI_1; have lz2 : (2 : Int32).toInt = 2 := qI_2; have lz3 : (3 : Int32).toInt = 3 := qI_3; have lz5 : (5 : Int32).toInt = 5 := qI_5; have lz9 : (9 : Int32).toInt = 9 := qI_9; omega), by assumption⟩, (by by_cases e8 : alB (fun qb => fma (2 * qb)) (fun qb => fma (2 * qb + 1)) (nI i) (nI (min 9 (d + 1))) M = true; exact e8; (rw [if_neg e8] at e7; exact absurd e7 (by first | with_reducible assumption | assumption)))⟩]
            refine W.widen (k := 0) (n := 0) (Nat.le_of_ble_eq_true rfl) (Nat.le_of_ble_eq_true rfl) ?_
            exact W.iret (v := nI (min 9 (d + 1))) hx hb hr (fun t ht hW => ⟨⟨nI (min 9 (d + 1)), (), rfl, ⟨hpost, trivial⟩, trivial⟩, hS.F ht⟩) hS.2.2 dX11_depthThen_68
        · skip
          exact absurd c8 (by decide)
      · skip
        refine lv_bipush (v := (-4)) hx hb dX11_depthThen_31 rfl ?_
        have hpost : ((-4) : Int32) = if ((¬ d = 0 ∧ ¬ rhO fst i 0 = 20) ∧ alB (fun qb => fma (2 * qb)) (fun qb => fma (2 * qb + 1)) (nI i) (nI (min 9 (d + 1))) M = true) then nI (min 9 (d + 1)) else -4 := by
          rw [if_neg (by first | exact (fun h9 => h9.1.1 (by (have t_n5 := n5; have t_c6 := eqI c6; have t_c7 := eqI c7; have tqz_ := qz12_; have tnb_ := nib7 tn2539_ tn2540_ tn2534_ tn2535_ tn2536_ tn2537_ tn2538_; have lz0 : (0 : Int32).toInt = 0 := qI_0; have lz1 : (1 : Int32).toInt = 1 := qI_1; have lz2 : (2 : Int32).toInt = 2 := qI_2; have lz3 : (3 : Int32).toInt = 3 := qI_3; have lz5 : (5 : Int32).toInt = 5 := qI_5; have lz9 : (9 : Int32).toInt = 9 := qI_9; omega))) | exact (fun h9 => h9.1.2 (by first | with_reducible assumption | assumption)))]
        refine W.widen (k := 0) (n := 0) (Nat.le_of_ble_eq_true rfl) (Nat.le_of_ble_eq_true rfl) ?_
        exact W.iret (v := (-4)) hx hb hr (fun t ht hW => ⟨⟨(-4), (), rfl, ⟨hpost, trivial⟩, trivial⟩, hS.F ht⟩) hS.2.2 dX11_depthThen_33
    · skip
      exact absurd c6 (by decide)

set_option maxHeartbeats 1000000 in
set_option maxRecDepth 100000 in
theorem c_X11_onward1 (l : Launch) (dC : Nat → ClassId) (dI : Nat → Nat → Nat) (G : Nat → ClassId) (sz : Nat) (h0 i d st N B rp tp T cu lt od th be ln S ma M ah bh ik la lg ce : Nat) (vrs vrb vhs vca vxs vxb vfa vbr vba vsp vhe vtk vva vto : Int32) (fst : Nat → Int32) (fma : Nat → Int32) (fbh : Nat → Int32) (hN : N ≤ 10) (hB : B ≤ 6) (hT : T ≤ 320) (hS0 : S ≤ 8) (hM : M ≤ 6) (hst : OKS fst) (hi : i < 10) (hd9 : d ≤ 9) : Met l yX11_onward (Cond.code yX11_onward cX11_onward 5 (some .int) :: GT) ({ frames := 4, cells := 0, slots := 0, locals := 97 } : Room) (PcR [.ref h0, .int (nI i), .int (nI d), .int 1] dC dI G [(h0, .inr (11, [.ref st, .int (nI N), .int (nI B), .ref rp, .int vrs, .int vrb, .int vhs, .int vca, .int vxs, .int vxb, .ref tp, .int (nI T), .int vfa, .int vbr, .int vba, .int vsp, .int vhe, .int vtk, .int vva, .ref cu, .ref lt, .ref od, .ref th, .ref be, .ref ln, .int (nI S), .ref ma, .int (nI M), .ref ah, .ref bh, .ref ik, .ref la, .ref lg, .ref ce, .int vto])), (st, .inl (G 0, 196, .inl fst)), (ma, .inl (G 0, 12, .inl fma)), (bh, .inl (G 0, 110, .inl fbh))] sz) (va_Qi (fun (r : Int32) (u : Unit) => match u with | _ => (r = if ((¬ d = 0 ∧ ¬ rhO fst i 0 = 0) ∧ alB (fun qb => fma (2 * qb)) (fun qb => fma (2 * qb + 1)) (nI i) (nI (d - 1)) M = true) then fbh (10 * i + 10 + (d - 1)) else 0) ∧ True) (fun _ _ => True) (fun q : Nat => sz ≤ q)) 0 0 (fun q : Nat => sz ≤ q) := by
  have hB_ := hB
  have hM_ := hM
  have hT_ := hT
  have tn2541_ : nIT N := fun _ => nI_toInt (by omega)
  have tn2542_ : nIT B := fun _ => nI_toInt (by omega)
  have tn2543_ : nIT T := fun _ => nI_toInt (by omega)
  have tn2544_ : nIT S := fun _ => nI_toInt (by omega)
  have tn2545_ : nIT M := fun _ => nI_toInt (by omega)
  refine Met.ofW (cc := cX11_onward) (maxL := 5) (ret := (some .int)) (by decide) rfl ?_
  intro p e s m args below meth c s₁ Bd hml hv
  obtain ⟨rfl, hsz, hP, hK⟩ := hv
  have hx := Bd.exec
  have hb := Bd.bytes
  have hr := Bd.returns
  have hg : ∀ w ∈ GT, w.before ([.ref h0, .int (nI i), .int (nI d), .int 1] : List Value).toArray s = true := fun w h => atoms_spec (ws := Cond.code yX11_onward cX11_onward 5 (some .int) :: GT) Bd.pre w (List.mem_cons_of_mem _ h)
  have hown : s.vm.findClass RX11 = some m.cls := findClass_of_methodNamed Bd.named
  have hlocks := Bd.notSynchronized
  subst hsz
  have hA : ∀ q : Nat, s.heap.size ≤ q → (fun q : Nat => s.heap.size ≤ q) q := fun _ h => h
  have hS : va_S (fun q : Nat => s.heap.size ≤ q) s.heap s.heap [] := va_S.rf
  have hl := lv_entry ([.ref h0, .int (nI i), .int (nI d), .int 1]) (n := 5) (Nat.le_of_ble_eq_true rfl)
  rw [lg_entry_eq]
  generalize (lg_sl ([.ref h0, .int (nI i), .int (nI d), .int 1]) ++ List.replicate (5 - (lg_sl ([.ref h0, .int (nI i), .int (nI d), .int 1])).length) Slot.unset).toArray = ls at hl ⊢
  have hl : lv_has ls 5 [(0, .ref h0), (1, .int (nI i)), (2, .int (nI d)), (3, .int 1)] := hl
  refine lv_aload_n hx hb dX11_onward_0 rfl (lv_at hl 0 rfl) ?_
  refine lv_iload_n hx hb dX11_onward_1 rfl (lv_at hl 1 rfl) ?_
  refine lv_iload_n hx hb dX11_onward_2 rfl (lv_at hl 2 rfl) ?_
  refine lv_iload_n hx hb dX11_onward_3 rfl (lv_at hl 3 rfl) ?_
  have hPc := hP.sub (ws' := [(h0, .inr (11, [.ref st, .int (nI N), .int (nI B), .ref rp, .int vrs, .int vrb, .int vhs, .int vca, .int vxs, .int vxb, .ref tp, .int (nI T), .int vfa, .int vbr, .int vba, .int vsp, .int vhe, .int vtk, .int vva, .ref cu, .ref lt, .ref od, .ref th, .ref be, .ref ln, .int (nI S), .ref ma, .int (nI M), .ref ah, .ref bh, .ref ik, .ref la, .ref lg, .ref ce, .int vto])), (st, .inl (G 0, 196, .inl fst)), (ma, .inl (G 0, 12, .inl fma))]) [0, 1, 2] rfl
  have tn2546_ : nIT i := fun _ => nI_toInt (by omega)
  have tn2547_ : nIT d := fun _ => nI_toInt (by omega)
  refine va_calli (va_runV (As := [.int (nI i), .int (nI d), .int 1]) (rest := []) ⟨hx, hb, hml, hown, hg⟩ (c_X11_depthThen1 l dC dI G _ h0 i d st N B rp tp T cu lt od th be ln S ma M ah bh ik la lg ce vrs vrb vhs vca vxs vxb vfa vbr vba vsp vhe vtk vva vto fst fma hN hB_ hT_ hS0 hM_ hst hi hd9) (kwV hg mfX11_depthThen wt_1224 ⟨Nat.le_of_ble_eq_true rfl, Nat.le_of_ble_eq_true rfl⟩) (preVR hK hPc (ci := 11) (r := (RX11, TX11, 35)) rfl rfl) rfl rfl hl.1 rfl (lv_room (Nat.le_of_ble_eq_true rfl)) dX11_onward_4 ⟨Nat.le_of_ble_eq_true rfl, Nat.le_of_ble_eq_true rfl⟩) hS (fun q h1 h2 => absurd h2 (Nat.not_le.mpr h1)) (fun q h => hA q (Nat.le_trans hS.1 h)) (fun r1 ur1 t H1 locs ht hvm w2 hB hz1 hk1 hS => ?_)
  have hP := keepR hP hk1
  obtain ⟨w2, w2x⟩ := w2
  rcases if_or w2 with ⟨w2c, w2e⟩ | ⟨w2c, w2e⟩
  · skip
    have w2b : 1 ≤ d ∧ (d - 1) ≤ 9 := (by have e9 := w2c.1.1; omega)
    refine lv_cg (y := nI (d - 1)) w2e ?_
    refine lv_istore (lv' := [(4, .int (nI (d - 1))), (0, .ref h0), (1, .int (nI i)), (2, .int (nI d)), (3, .int 1)]) hx hb dX11_onward_7 hl (by decide) rfl (fun ls hl => ?_)
    refine lv_iload hx hb dX11_onward_9 (lv_at hl 0 rfl) ?_
    refine lv_bipush (v := (-4)) hx hb dX11_onward_11 rfl ?_
    refine lv_icmp_ne (tgt := 20) hx hb dX11_onward_13 rfl (fun c3 => ?_) (fun c3 => ?_)
    · skip
      refine lv_aload_n hx hb dX11_onward_20 rfl (lv_at hl 1 rfl) ?_
      refine va_get (D := (dC, dI)) (ci := 11) (v := .ref bh) (C := RX11) (T := TX11) (N := 35) hx hb hg inG11 hown hK.1 hP 0 rfl rfl 29 (Nat.le_of_ble_eq_true rfl) (hg _ wt_907) (fun _ h9 => h9) rfl dX11_onward_21 ?_
      refine lv_bipush (v := 10) hx hb dX11_onward_24 rfl ?_
      refine lv_iload_n hx hb dX11_onward_26 rfl (lv_at hl 2 rfl) ?_
      refine lv_imul hx hb dX11_onward_27 ?_
      refine lv_cg (y := nI (10 * i)) (by rw [show (10 : Int32) = nI 10 from rfl]; exact pk_mul _ _) ?_
      refine lv_bipush (v := 10) hx hb dX11_onward_28 rfl ?_
      refine lv_iadd hx hb dX11_onward_30 ?_
      refine lv_cg (y := nI ((10 * i) + 10)) (by rw [show (10 : Int32) = nI 10 from rfl]; exact nI_add _ _) ?_
      refine lv_iload hx hb dX11_onward_31 (lv_at hl 0 rfl) ?_
      refine lv_iadd hx hb dX11_onward_33 ?_
      refine lv_cg (y := nI (((10 * i) + 10) + (d - 1))) (by exact nI_add _ _) ?_
      refine va_iald hx hb hK.1 hP 3 0 rfl rfl (vp_in_nI (by first | omega | (have t_w2b := w2b; have t_c3 := neI c3; have : ((-4) : Int32).toInt = -4 := qI_m4; have tnb_ := nib7 tn2546_ tn2547_ tn2541_ tn2542_ tn2543_ tn2544_ tn2545_; have t_n7 : (nI (d - 1)).toInt = (((d - 1) : Nat) : Int) := nI_toInt (by omega); omega)) (by decide)) dX11_onward_34 ?_
      refine lv_cg (y := fbh (((10 * i) + 10) + (d - 1))) (by rw [nI_clamp (by omega)]) ?_
      have hpost : (fbh (((10 * i) + 10) + (d - 1)) : Int32) = if ((¬ d = 0 ∧ ¬ rhO fst i 0 = 0) ∧ alB (fun qb => fma (2 * qb)) (fun qb => fma (2 * qb + 1)) (nI i) (nI (d - 1)) M = true) then fbh (10 * i + 10 + (d - 1)) else 0 := by
        have t_w2b := w2b
        have t_c3 := neI c3
        have : ((-4) : Int32).toInt = -4 := qI_m4
        have t_n0 : (nI i).toInt = (i : Int) := tn2546_ ()
        have t_n1 : (nI d).toInt = (d : Int) := tn2547_ ()
        have t_n2 : (nI N).toInt = (N : Int) := tn2541_ ()
        have t_n3 : (nI B).toInt = (B : Int) := tn2542_ ()
        have t_n4 : (nI T).toInt = (T : Int) := tn2543_ ()
        have t_n5 : (nI S).toInt = (S : Int) := tn2544_ ()
        have t_n6 : (nI M).toInt = (M : Int) := tn2545_ ()
        have t_n7 : (nI (d - 1)).toInt = (((d - 1) : Nat) : Int) := nI_toInt (by omega)
        rw [if_pos w2c]
      refine W.widen (k := 0) (n := 0) (Nat.le_of_ble_eq_true rfl) (Nat.le_of_ble_eq_true rfl) ?_
      exact W.iret (v := fbh (((10 * i) + 10) + (d - 1))) hx hb hr (fun t ht hW => ⟨⟨fbh (((10 * i) + 10) + (d - 1)), (), rfl, ⟨hpost, trivial⟩, trivial⟩, hS.F ht⟩) hS.2.2 dX11_onward_35
    · skip
      have t_w2b := w2b
      have t_c3 := eqI c3
      have : ((-4) : Int32).toInt = -4 := qI_m4
      have t_n0 : (nI i).toInt = (i : Int) := tn2546_ ()
      have t_n1 : (nI d).toInt = (d : Int) := tn2547_ ()
      have t_n2 : (nI N).toInt = (N : Int) := tn2541_ ()
      have t_n3 : (nI B).toInt = (B : Int) := tn2542_ ()
      have t_n4 : (nI T).toInt = (T : Int) := tn2543_ ()
      have t_n5 : (nI S).toInt = (S : Int) := tn2544_ ()
      have t_n6 : (nI M).toInt = (M : Int) := tn2545_ ()
      have t_n7 : (nI (d - 1)).toInt = (((d - 1) : Nat) : Int) := nI_toInt (by omega)
      exfalso; omega
  · skip
    refine lv_cg (y := (-4)) w2e ?_
    refine lv_istore (lv' := [(4, .int (-4)), (0, .ref h0), (1, .int (nI i)), (2, .int (nI d)), (3, .int 1)]) hx hb dX11_onward_7 hl (by decide) rfl (fun ls hl => ?_)
    refine lv_iload hx hb dX11_onward_9 (lv_at hl 0 rfl) ?_
    refine lv_bipush (v := (-4)) hx hb dX11_onward_11 rfl ?_
    refine lv_icmp_ne (tgt := 20) hx hb dX11_onward_13 rfl (fun c4 => ?_) (fun c4 => ?_)
    · skip
      exact absurd c4 (by decide)
    · skip
      refine lv_iconst (v := 0) hx hb dX11_onward_16 rfl ?_
      refine lv_goto (tgt := 35) hx hb dX11_onward_17 rfl ?_
      have hpost : (0 : Int32) = if ((¬ d = 0 ∧ ¬ rhO fst i 0 = 0) ∧ alB (fun qb => fma (2 * qb)) (fun qb => fma (2 * qb + 1)) (nI i) (nI (d - 1)) M = true) then fbh (10 * i + 10 + (d - 1)) else 0 := by
        have t_c4 := eqI c4
        have : ((-4) : Int32).toInt = -4 := qI_m4
        have t_n0 : (nI i).toInt = (i : Int) := tn2546_ ()
        have t_n1 : (nI d).toInt = (d : Int) := tn2547_ ()
        have t_n2 : (nI N).toInt = (N : Int) := tn2541_ ()
        have t_n3 : (nI B).toInt = (B : Int) := tn2542_ ()
        have t_n4 : (nI T).toInt = (T : Int) := tn2543_ ()
        have t_n5 : (nI S).toInt = (S : Int) := tn2544_ ()
        have t_n6 : (nI M).toInt = (M : Int) := tn2545_ ()
        rw [if_neg w2c]
      refine W.widen (k := 0) (n := 0) (Nat.le_of_ble_eq_true rfl) (Nat.le_of_ble_eq_true rfl) ?_
      exact W.iret (v := 0) hx hb hr (fun t ht hW => ⟨⟨0, (), rfl, ⟨hpost, trivial⟩, trivial⟩, hS.F ht⟩) hS.2.2 dX11_onward_35

set_option maxHeartbeats 1000000 in
set_option maxRecDepth 100000 in
theorem c_X11_onward0 (l : Launch) (dC : Nat → ClassId) (dI : Nat → Nat → Nat) (G : Nat → ClassId) (sz : Nat) (h0 i d st N B rp tp T cu lt od th be ln S ma M ah bh ik la lg ce : Nat) (vrs vrb vhs vca vxs vxb vfa vbr vba vsp vhe vtk vva vto : Int32) (fst : Nat → Int32) (fma : Nat → Int32) (fbh : Nat → Int32) (hN : N ≤ 10) (hB : B ≤ 6) (hT : T ≤ 320) (hS0 : S ≤ 8) (hM : M ≤ 6) (hst : OKS fst) (hi : i < 10) (hd9 : d ≤ 9) : Met l yX11_onward (Cond.code yX11_onward cX11_onward 5 (some .int) :: GT) ({ frames := 4, cells := 0, slots := 0, locals := 97 } : Room) (PcR [.ref h0, .int (nI i), .int (nI d), .int 0] dC dI G [(h0, .inr (11, [.ref st, .int (nI N), .int (nI B), .ref rp, .int vrs, .int vrb, .int vhs, .int vca, .int vxs, .int vxb, .ref tp, .int (nI T), .int vfa, .int vbr, .int vba, .int vsp, .int vhe, .int vtk, .int vva, .ref cu, .ref lt, .ref od, .ref th, .ref be, .ref ln, .int (nI S), .ref ma, .int (nI M), .ref ah, .ref bh, .ref ik, .ref la, .ref lg, .ref ce, .int vto])), (st, .inl (G 0, 196, .inl fst)), (ma, .inl (G 0, 12, .inl fma)), (bh, .inl (G 0, 110, .inl fbh))] sz) (va_Qi (fun (r : Int32) (u : Unit) => match u with | _ => (r = if ((¬ d = 0 ∧ ¬ rhO fst i 0 = 20) ∧ alB (fun qb => fma (2 * qb)) (fun qb => fma (2 * qb + 1)) (nI i) (nI (min 9 (d + 1))) M = true) then fbh (10 * i + 10 + (min 9 (d + 1))) else 0) ∧ True) (fun _ _ => True) (fun q : Nat => sz ≤ q)) 0 0 (fun q : Nat => sz ≤ q) := by
  have hB_ := hB
  have hM_ := hM
  have hT_ := hT
  have tn2548_ : nIT N := fun _ => nI_toInt (by omega)
  have tn2549_ : nIT B := fun _ => nI_toInt (by omega)
  have tn2550_ : nIT T := fun _ => nI_toInt (by omega)
  have tn2551_ : nIT S := fun _ => nI_toInt (by omega)
  have tn2552_ : nIT M := fun _ => nI_toInt (by omega)
  refine Met.ofW (cc := cX11_onward) (maxL := 5) (ret := (some .int)) (by decide) rfl ?_
  intro p e s m args below meth c s₁ Bd hml hv
  obtain ⟨rfl, hsz, hP, hK⟩ := hv
  have hx := Bd.exec
  have hb := Bd.bytes
  have hr := Bd.returns
  have hg : ∀ w ∈ GT, w.before ([.ref h0, .int (nI i), .int (nI d), .int 0] : List Value).toArray s = true := fun w h => atoms_spec (ws := Cond.code yX11_onward cX11_onward 5 (some .int) :: GT) Bd.pre w (List.mem_cons_of_mem _ h)
  have hown : s.vm.findClass RX11 = some m.cls := findClass_of_methodNamed Bd.named
  have hlocks := Bd.notSynchronized
  subst hsz
  have hA : ∀ q : Nat, s.heap.size ≤ q → (fun q : Nat => s.heap.size ≤ q) q := fun _ h => h
  have hS : va_S (fun q : Nat => s.heap.size ≤ q) s.heap s.heap [] := va_S.rf
  have hl := lv_entry ([.ref h0, .int (nI i), .int (nI d), .int 0]) (n := 5) (Nat.le_of_ble_eq_true rfl)
  rw [lg_entry_eq]
  generalize (lg_sl ([.ref h0, .int (nI i), .int (nI d), .int 0]) ++ List.replicate (5 - (lg_sl ([.ref h0, .int (nI i), .int (nI d), .int 0])).length) Slot.unset).toArray = ls at hl ⊢
  have hl : lv_has ls 5 [(0, .ref h0), (1, .int (nI i)), (2, .int (nI d)), (3, .int 0)] := hl
  refine lv_aload_n hx hb dX11_onward_0 rfl (lv_at hl 0 rfl) ?_
  refine lv_iload_n hx hb dX11_onward_1 rfl (lv_at hl 1 rfl) ?_
  refine lv_iload_n hx hb dX11_onward_2 rfl (lv_at hl 2 rfl) ?_
  refine lv_iload_n hx hb dX11_onward_3 rfl (lv_at hl 3 rfl) ?_
  have hPc := hP.sub (ws' := [(h0, .inr (11, [.ref st, .int (nI N), .int (nI B), .ref rp, .int vrs, .int vrb, .int vhs, .int vca, .int vxs, .int vxb, .ref tp, .int (nI T), .int vfa, .int vbr, .int vba, .int vsp, .int vhe, .int vtk, .int vva, .ref cu, .ref lt, .ref od, .ref th, .ref be, .ref ln, .int (nI S), .ref ma, .int (nI M), .ref ah, .ref bh, .ref ik, .ref la, .ref lg, .ref ce, .int vto])), (st, .inl (G 0, 196, .inl fst)), (ma, .inl (G 0, 12, .inl fma))]) [0, 1, 2] rfl
  have tn2553_ : nIT i := fun _ => nI_toInt (by omega)
  have tn2554_ : nIT d := fun _ => nI_toInt (by omega)
  refine va_calli (va_runV (As := [.int (nI i), .int (nI d), .int 0]) (rest := []) ⟨hx, hb, hml, hown, hg⟩ (c_X11_depthThen0 l dC dI G _ h0 i d st N B rp tp T cu lt od th be ln S ma M ah bh ik la lg ce vrs vrb vhs vca vxs vxb vfa vbr vba vsp vhe vtk vva vto fst fma hN hB_ hT_ hS0 hM_ hst hi hd9) (kwV hg mfX11_depthThen wt_1224 ⟨Nat.le_of_ble_eq_true rfl, Nat.le_of_ble_eq_true rfl⟩) (preVR hK hPc (ci := 11) (r := (RX11, TX11, 35)) rfl rfl) rfl rfl hl.1 rfl (lv_room (Nat.le_of_ble_eq_true rfl)) dX11_onward_4 ⟨Nat.le_of_ble_eq_true rfl, Nat.le_of_ble_eq_true rfl⟩) hS (fun q h1 h2 => absurd h2 (Nat.not_le.mpr h1)) (fun q h => hA q (Nat.le_trans hS.1 h)) (fun r1 ur1 t H1 locs ht hvm w2 hB hz1 hk1 hS => ?_)
  have hP := keepR hP hk1
  obtain ⟨w2, w2x⟩ := w2
  rcases if_or w2 with ⟨w2c, w2e⟩ | ⟨w2c, w2e⟩
  · skip
    have w2b : 1 ≤ d ∧ (min 9 (d + 1)) ≤ 9 := (by have e9 := w2c.1.1; omega)
    refine lv_cg (y := nI (min 9 (d + 1))) w2e ?_
    refine lv_istore (lv' := [(4, .int (nI (min 9 (d + 1)))), (0, .ref h0), (1, .int (nI i)), (2, .int (nI d)), (3, .int 0)]) hx hb dX11_onward_7 hl (by decide) rfl (fun ls hl => ?_)
    refine lv_iload hx hb dX11_onward_9 (lv_at hl 0 rfl) ?_
    refine lv_bipush (v := (-4)) hx hb dX11_onward_11 rfl ?_
    refine lv_icmp_ne (tgt := 20) hx hb dX11_onward_13 rfl (fun c3 => ?_) (fun c3 => ?_)
    · skip
      refine lv_aload_n hx hb dX11_onward_20 rfl (lv_at hl 1 rfl) ?_
      refine va_get (D := (dC, dI)) (ci := 11) (v := .ref bh) (C := RX11) (T := TX11) (N := 35) hx hb hg inG11 hown hK.1 hP 0 rfl rfl 29 (Nat.le_of_ble_eq_true rfl) (hg _ wt_907) (fun _ h9 => h9) rfl dX11_onward_21 ?_
      refine lv_bipush (v := 10) hx hb dX11_onward_24 rfl ?_
      refine lv_iload_n hx hb dX11_onward_26 rfl (lv_at hl 2 rfl) ?_
      refine lv_imul hx hb dX11_onward_27 ?_
      refine lv_cg (y := nI (10 * i)) (by rw [show (10 : Int32) = nI 10 from rfl]; exact pk_mul _ _) ?_
      refine lv_bipush (v := 10) hx hb dX11_onward_28 rfl ?_
      refine lv_iadd hx hb dX11_onward_30 ?_
      refine lv_cg (y := nI ((10 * i) + 10)) (by rw [show (10 : Int32) = nI 10 from rfl]; exact nI_add _ _) ?_
      refine lv_iload hx hb dX11_onward_31 (lv_at hl 0 rfl) ?_
      refine lv_iadd hx hb dX11_onward_33 ?_
      refine lv_cg (y := nI (((10 * i) + 10) + (min 9 (d + 1)))) (by exact nI_add _ _) ?_
      refine va_iald hx hb hK.1 hP 3 0 rfl rfl (vp_in_nI (by first | omega | (have t_w2b := w2b; have t_c3 := neI c3; have : ((-4) : Int32).toInt = -4 := qI_m4; have tnb_ := nib7 tn2553_ tn2554_ tn2548_ tn2549_ tn2550_ tn2551_ tn2552_; have t_n7 : (nI (min 9 (d + 1))).toInt = (((min 9 (d + 1)) : Nat) : Int) := nI_toInt (by omega); omega)) (by decide)) dX11_onward_34 ?_
      refine lv_cg (y := fbh (((10 * i) + 10) + (min 9 (d + 1)))) (by rw [nI_clamp (by omega)]) ?_
      have hpost : (fbh (((10 * i) + 10) + (min 9 (d + 1))) : Int32) = if ((¬ d = 0 ∧ ¬ rhO fst i 0 = 20) ∧ alB (fun qb => fma (2 * qb)) (fun qb => fma (2 * qb + 1)) (nI i) (nI (min 9 (d + 1))) M = true) then fbh (10 * i + 10 + (min 9 (d + 1))) else 0 := by
        have t_w2b := w2b
        have t_c3 := neI c3
        have : ((-4) : Int32).toInt = -4 := qI_m4
        have t_n0 : (nI i).toInt = (i : Int) := tn2553_ ()
        have t_n1 : (nI d).toInt = (d : Int) := tn2554_ ()
        have t_n2 : (nI N).toInt = (N : Int) := tn2548_ ()
        have t_n3 : (nI B).toInt = (B : Int) := tn2549_ ()
        have t_n4 : (nI T).toInt = (T : Int) := tn2550_ ()
        have t_n5 : (nI S).toInt = (S : Int) := tn2551_ ()
        have t_n6 : (nI M).toInt = (M : Int) := tn2552_ ()
        have t_n7 : (nI (min 9 (d + 1))).toInt = (((min 9 (d + 1)) : Nat) : Int) := nI_toInt (by omega)
        rw [if_pos w2c]
      refine W.widen (k := 0) (n := 0) (Nat.le_of_ble_eq_true rfl) (Nat.le_of_ble_eq_true rfl) ?_
      exact W.iret (v := fbh (((10 * i) + 10) + (min 9 (d + 1)))) hx hb hr (fun t ht hW => ⟨⟨fbh (((10 * i) + 10) + (min 9 (d + 1))), (), rfl, ⟨hpost, trivial⟩, trivial⟩, hS.F ht⟩) hS.2.2 dX11_onward_35
    · skip
      have t_w2b := w2b
      have t_c3 := eqI c3
      have : ((-4) : Int32).toInt = -4 := qI_m4
      have t_n0 : (nI i).toInt = (i : Int) := tn2553_ ()
      have t_n1 : (nI d).toInt = (d : Int) := tn2554_ ()
      have t_n2 : (nI N).toInt = (N : Int) := tn2548_ ()
      have t_n3 : (nI B).toInt = (B : Int) := tn2549_ ()
      have t_n4 : (nI T).toInt = (T : Int) := tn2550_ ()
      have t_n5 : (nI S).toInt = (S : Int) := tn2551_ ()
      have t_n6 : (nI M).toInt = (M : Int) := tn2552_ ()
      have t_n7 : (nI (min 9 (d + 1))).toInt = (((min 9 (d + 1)) : Nat) : Int) := nI_toInt (by omega)
      exfalso; omega
  · skip
    refine lv_cg (y := (-4)) w2e ?_
    refine lv_istore (lv' := [(4, .int (-4)), (0, .ref h0), (1, .int (nI i)), (2, .int (nI d)), (3, .int 0)]) hx hb dX11_onward_7 hl (by decide) rfl (fun ls hl => ?_)
    refine lv_iload hx hb dX11_onward_9 (lv_at hl 0 rfl) ?_
    refine lv_bipush (v := (-4)) hx hb dX11_onward_11 rfl ?_
    refine lv_icmp_ne (tgt := 20) hx hb dX11_onward_13 rfl (fun c4 => ?_) (fun c4 => ?_)
    · skip
      exact absurd c4 (by decide)
    · skip
      refine lv_iconst (v := 0) hx hb dX11_onward_16 rfl ?_
      refine lv_goto (tgt := 35) hx hb dX11_onward_17 rfl ?_
      have hpost : (0 : Int32) = if ((¬ d = 0 ∧ ¬ rhO fst i 0 = 20) ∧ alB (fun qb => fma (2 * qb)) (fun qb => fma (2 * qb + 1)) (nI i) (nI (min 9 (d + 1))) M = true) then fbh (10 * i + 10 + (min 9 (d + 1))) else 0 := by
        have t_c4 := eqI c4
        have : ((-4) : Int32).toInt = -4 := qI_m4
        have t_n0 : (nI i).toInt = (i : Int) := tn2553_ ()
        have t_n1 : (nI d).toInt = (d : Int) := tn2554_ ()
        have t_n2 : (nI N).toInt = (N : Int) := tn2548_ ()
        have t_n3 : (nI B).toInt = (B : Int) := tn2549_ ()
        have t_n4 : (nI T).toInt = (T : Int) := tn2550_ ()
        have t_n5 : (nI S).toInt = (S : Int) := tn2551_ ()
        have t_n6 : (nI M).toInt = (M : Int) := tn2552_ ()
        rw [if_neg w2c]
      refine W.widen (k := 0) (n := 0) (Nat.le_of_ble_eq_true rfl) (Nat.le_of_ble_eq_true rfl) ?_
      exact W.iret (v := 0) hx hb hr (fun t ht hW => ⟨⟨0, (), rfl, ⟨hpost, trivial⟩, trivial⟩, hS.F ht⟩) hS.2.2 dX11_onward_35

set_option maxHeartbeats 8000000 in
set_option maxRecDepth 100000 in
theorem c_X11_layPathsE (l : Launch) (dC : Nat → ClassId) (dI : Nat → Nat → Nat) (G : Nat → ClassId) (sz : Nat) (h0 st N B rp tp T cu lt od th be ln S ma M ah bh ik la lg ce : Nat) (vrs vrb vhs vca vxs vxb vfa vbr vba vsp vhe vtk vva vto : Int32) (fst : Nat → Int32) (fma : Nat → Int32) (fah : Nat → Int32) (fbh : Nat → Int32) (hN : N ≤ 10) (hB : B ≤ 6) (hT : T ≤ 320) (hS0 : S ≤ 8) (hM : M ≤ 6) (hst : OKS fst) : Met l yX11_layPaths (Cond.code yX11_layPaths cX11_layPaths 6 none :: GT) ({ frames := 5, cells := 0, slots := 0, locals := 121 } : Room) (PcW [.ref h0] dC dI G [(h0, .inr (11, [.ref st, .int (nI N), .int (nI B), .ref rp, .int vrs, .int vrb, .int vhs, .int vca, .int vxs, .int vxb, .ref tp, .int (nI T), .int vfa, .int vbr, .int vba, .int vsp, .int vhe, .int vtk, .int vva, .ref cu, .ref lt, .ref od, .ref th, .ref be, .ref ln, .int (nI S), .ref ma, .int (nI M), .ref ah, .ref bh, .ref ik, .ref la, .ref lg, .ref ce, .int vto])), (st, .inl (G 0, 196, .inl fst)), (ma, .inl (G 0, 12, .inl fma)), (ah, .inl (G 0, 110, .inl fah)), (bh, .inl (G 0, 110, .inl fbh))] sz) (va_Qv (fun (u : (Nat → Int32) × (Nat → Int32)) => match u with | (oah, obh) => AHO (fun jb => rhO fst jb 0) (fun ib qb => alB (fun qb => fma (2 * qb)) (fun qb => fma (2 * qb + 1)) (nI ib) (nI qb) M) (sdN fst) N oah ∧ BHO (fun jb => rhO fst jb 0) (fun ib qb => alB (fun qb => fma (2 * qb)) (fun qb => fma (2 * qb + 1)) (nI ib) (nI qb) M) N 0 obh) (fun (u : (Nat → Int32) × (Nat → Int32)) (t : State) => match u with | (oah, obh) => va_P (dC, dI) vwCl [(h0, .inr (11, [.ref st, .int (nI N), .int (nI B), .ref rp, .int vrs, .int vrb, .int vhs, .int vca, .int vxs, .int vxb, .ref tp, .int (nI T), .int vfa, .int vbr, .int vba, .int vsp, .int vhe, .int vtk, .int vva, .ref cu, .ref lt, .ref od, .ref th, .ref be, .ref ln, .int (nI S), .ref ma, .int (nI M), .ref ah, .ref bh, .ref ik, .ref la, .ref lg, .ref ce, .int vto])), (st, .inl (G 0, 196, .inl fst)), (ma, .inl (G 0, 12, .inl fma)), (ah, .inl (G 0, 110, .inl oah)), (bh, .inl (G 0, 110, .inl obh))] t.heap ∧ va_D (va_A [(h0, .inr (11, [.ref st, .int (nI N), .int (nI B), .ref rp, .int vrs, .int vrb, .int vhs, .int vca, .int vxs, .int vxb, .ref tp, .int (nI T), .int vfa, .int vbr, .int vba, .int vsp, .int vhe, .int vtk, .int vva, .ref cu, .ref lt, .ref od, .ref th, .ref be, .ref ln, .int (nI S), .ref ma, .int (nI M), .ref ah, .ref bh, .ref ik, .ref la, .ref lg, .ref ce, .int vto])), (st, .inl (G 0, 196, .inl fst)), (ma, .inl (G 0, 12, .inl fma)), (ah, .inl (G 0, 110, .inl fah)), (bh, .inl (G 0, 110, .inl fbh))] sz) [(h0, .inr (11, [.ref st, .int (nI N), .int (nI B), .ref rp, .int vrs, .int vrb, .int vhs, .int vca, .int vxs, .int vxb, .ref tp, .int (nI T), .int vfa, .int vbr, .int vba, .int vsp, .int vhe, .int vtk, .int vva, .ref cu, .ref lt, .ref od, .ref th, .ref be, .ref ln, .int (nI S), .ref ma, .int (nI M), .ref ah, .ref bh, .ref ik, .ref la, .ref lg, .ref ce, .int vto])), (st, .inl (G 0, 196, .inl fst)), (ma, .inl (G 0, 12, .inl fma)), (ah, .inl (G 0, 110, .inl oah)), (bh, .inl (G 0, 110, .inl obh))]) (va_A [(h0, .inr (11, [.ref st, .int (nI N), .int (nI B), .ref rp, .int vrs, .int vrb, .int vhs, .int vca, .int vxs, .int vxb, .ref tp, .int (nI T), .int vfa, .int vbr, .int vba, .int vsp, .int vhe, .int vtk, .int vva, .ref cu, .ref lt, .ref od, .ref th, .ref be, .ref ln, .int (nI S), .ref ma, .int (nI M), .ref ah, .ref bh, .ref ik, .ref la, .ref lg, .ref ce, .int vto])), (st, .inl (G 0, 196, .inl fst)), (ma, .inl (G 0, 12, .inl fma)), (ah, .inl (G 0, 110, .inl fah)), (bh, .inl (G 0, 110, .inl fbh))] sz)) 0 0 (va_A [(h0, .inr (11, [.ref st, .int (nI N), .int (nI B), .ref rp, .int vrs, .int vrb, .int vhs, .int vca, .int vxs, .int vxb, .ref tp, .int (nI T), .int vfa, .int vbr, .int vba, .int vsp, .int vhe, .int vtk, .int vva, .ref cu, .ref lt, .ref od, .ref th, .ref be, .ref ln, .int (nI S), .ref ma, .int (nI M), .ref ah, .ref bh, .ref ik, .ref la, .ref lg, .ref ce, .int vto])), (st, .inl (G 0, 196, .inl fst)), (ma, .inl (G 0, 12, .inl fma)), (ah, .inl (G 0, 110, .inl fah)), (bh, .inl (G 0, 110, .inl fbh))] sz) := by
  have hB_ := hB
  have hM_ := hM
  have hT_ := hT
  have tn2555_ : nIT N := fun _ => nI_toInt (by omega)
  have tn2556_ : nIT B := fun _ => nI_toInt (by omega)
  have tn2557_ : nIT T := fun _ => nI_toInt (by omega)
  have tn2558_ : nIT S := fun _ => nI_toInt (by omega)
  have tn2559_ : nIT M := fun _ => nI_toInt (by omega)
  refine Met.ofW (cc := cX11_layPaths) (maxL := 6) (ret := none) (by decide) rfl ?_
  intro p e s m args below meth c s₁ Bd hml hv
  obtain ⟨rfl, hsz, hP, hK, hD0⟩ := hv
  have hx := Bd.exec
  have hb := Bd.bytes
  have hr := Bd.returns
  have hg : ∀ w ∈ GT, w.before ([.ref h0] : List Value).toArray s = true := fun w h => atoms_spec (ws := Cond.code yX11_layPaths cX11_layPaths 6 none :: GT) Bd.pre w (List.mem_cons_of_mem _ h)
  have hown : s.vm.findClass RX11 = some m.cls := findClass_of_methodNamed Bd.named
  have hlocks := Bd.notSynchronized
  subst hsz
  have hD := hD0.self (sz := s.heap.size)
  generalize hAe : va_A [(h0, .inr (11, [.ref st, .int (nI N), .int (nI B), .ref rp, .int vrs, .int vrb, .int vhs, .int vca, .int vxs, .int vxb, .ref tp, .int (nI T), .int vfa, .int vbr, .int vba, .int vsp, .int vhe, .int vtk, .int vva, .ref cu, .ref lt, .ref od, .ref th, .ref be, .ref ln, .int (nI S), .ref ma, .int (nI M), .ref ah, .ref bh, .ref ik, .ref la, .ref lg, .ref ce, .int vto])), (st, .inl (G 0, 196, .inl fst)), (ma, .inl (G 0, 12, .inl fma)), (ah, .inl (G 0, 110, .inl fah)), (bh, .inl (G 0, 110, .inl fbh))] s.heap.size = A at hD ⊢
  have hA : ∀ q : Nat, s.heap.size ≤ q → A q := fun q h => by rw [← hAe]; exact Or.inr h
  have hS : va_S A s.heap s.heap [] := va_S.rf
  have hl := lv_entry ([.ref h0]) (n := 6) (Nat.le_of_ble_eq_true rfl)
  rw [lg_entry_eq]
  generalize (lg_sl ([.ref h0]) ++ List.replicate (6 - (lg_sl ([.ref h0])).length) Slot.unset).toArray = ls at hl ⊢
  have hl : lv_has ls 6 [(0, .ref h0)] := hl
  refine lv_iconst (v := 0) hx hb dX11_layPaths_0 rfl ?_
  refine lv_istore_n (lv' := [(1, .int 0), (0, .ref h0)]) hx hb dX11_layPaths_1 rfl hl (by decide) rfl (fun ls hl => ?_)
  have loop2_4 : ∀ (nf j1 : Nat), 110 + 1 ≤ j1 + nf → j1 ≤ 110 → ∀ (g2 : Nat → Int32) (g3 : Nat → Int32) (H : Heap) (locs : List Loc), ((∀ q9 : Nat, q9 < j1 → g2 q9 = (fun qb => if qb = sdN fst then 1 else 0) q9) ∧ (∀ q9 : Nat, q9 < j1 → g3 q9 = (fun qb => if qb / 10 = N then 1 else 0) q9)) → va_P (dC, dI) vwCl [(h0, .inr (11, [.ref st, .int (nI N), .int (nI B), .ref rp, .int vrs, .int vrb, .int vhs, .int vca, .int vxs, .int vxb, .ref tp, .int (nI T), .int vfa, .int vbr, .int vba, .int vsp, .int vhe, .int vtk, .int vva, .ref cu, .ref lt, .ref od, .ref th, .ref be, .ref ln, .int (nI S), .ref ma, .int (nI M), .ref ah, .ref bh, .ref ik, .ref la, .ref lg, .ref ce, .int vto])), (st, .inl (G 0, 196, .inl fst)), (ma, .inl (G 0, 12, .inl fma)), (ah, .inl (G 0, 110, .inl g2)), (bh, .inl (G 0, 110, .inl g3))] H → va_D A [(h0, .inr (11, [.ref st, .int (nI N), .int (nI B), .ref rp, .int vrs, .int vrb, .int vhs, .int vca, .int vxs, .int vxb, .ref tp, .int (nI T), .int vfa, .int vbr, .int vba, .int vsp, .int vhe, .int vtk, .int vva, .ref cu, .ref lt, .ref od, .ref th, .ref be, .ref ln, .int (nI S), .ref ma, .int (nI M), .ref ah, .ref bh, .ref ik, .ref la, .ref lg, .ref ce, .int vto])), (st, .inl (G 0, 196, .inl fst)), (ma, .inl (G 0, 12, .inl fma)), (ah, .inl (G 0, 110, .inl g2)), (bh, .inl (G 0, 110, .inl g3))] → va_S A s.heap H locs → ∀ (ls : Array Slot), lv_has ls 6 [(1, .int (nI j1)), (0, .ref h0)] → W p l e (headSpec (Cond.code yX11_layPaths cX11_layPaths 6 none :: GT) ({ frames := 5, cells := 0, slots := 0, locals := 121 } : Room)).room s m ([.ref h0] : List Value).toArray below meth c H locs 0 0 (MQ below (va_Qv (fun (u : (Nat → Int32) × (Nat → Int32)) => match u with | (oah, obh) => AHO (fun jb => rhO fst jb 0) (fun ib qb => alB (fun qb => fma (2 * qb)) (fun qb => fma (2 * qb + 1)) (nI ib) (nI qb) M) (sdN fst) N oah ∧ BHO (fun jb => rhO fst jb 0) (fun ib qb => alB (fun qb => fma (2 * qb)) (fun qb => fma (2 * qb + 1)) (nI ib) (nI qb) M) N 0 obh) (fun (u : (Nat → Int32) × (Nat → Int32)) (t : State) => match u with | (oah, obh) => va_P (dC, dI) vwCl [(h0, .inr (11, [.ref st, .int (nI N), .int (nI B), .ref rp, .int vrs, .int vrb, .int vhs, .int vca, .int vxs, .int vxb, .ref tp, .int (nI T), .int vfa, .int vbr, .int vba, .int vsp, .int vhe, .int vtk, .int vva, .ref cu, .ref lt, .ref od, .ref th, .ref be, .ref ln, .int (nI S), .ref ma, .int (nI M), .ref ah, .ref bh, .ref ik, .ref la, .ref lg, .ref ce, .int vto])), (st, .inl (G 0, 196, .inl fst)), (ma, .inl (G 0, 12, .inl fma)), (ah, .inl (G 0, 110, .inl oah)), (bh, .inl (G 0, 110, .inl obh))] t.heap ∧ va_D A [(h0, .inr (11, [.ref st, .int (nI N), .int (nI B), .ref rp, .int vrs, .int vrb, .int vhs, .int vca, .int vxs, .int vxb, .ref tp, .int (nI T), .int vfa, .int vbr, .int vba, .int vsp, .int vhe, .int vtk, .int vva, .ref cu, .ref lt, .ref od, .ref th, .ref be, .ref ln, .int (nI S), .ref ma, .int (nI M), .ref ah, .ref bh, .ref ik, .ref la, .ref lg, .ref ce, .int vto])), (st, .inl (G 0, 196, .inl fst)), (ma, .inl (G 0, 12, .inl fma)), (ah, .inl (G 0, 110, .inl oah)), (bh, .inl (G 0, 110, .inl obh))]) A) ([.ref h0] : List Value).toArray s 0 0 A) (F0 m 2 ls []) := by
    intro nf
    induction nf with
    | zero => intro j1 h1 h2; exact absurd h1 (by omega)
    | succ nf ih2_4 =>
      intro j1 hn5 hj6 g2 g3 H locs hinv hP hD hS ls hl
      refine lv_iload_n hx hb dX11_layPaths_2 rfl (lv_at hl 0 rfl) ?_
      refine lv_bipush (v := 110) hx hb dX11_layPaths_3 rfl ?_
      refine lv_icmp_ge (tgt := 55) hx hb dX11_layPaths_5 rfl (fun c7 => ?_) (fun c7 => ?_)
      · skip
        have tn2560_ : nIT j1 := fun _ => nI_toInt (by first | omega | (have t := leI c7; omega))
        have n8 : 110 ≤ j1 := by have t := leI c7; rw [show (nI (j1)).toInt = ((j1 : Nat) : Int) from tn2560_ ()] at t; have : (110 : Int32).toInt = 110 := qI_110; omega
        have hs9 := sdN_ok (hst 48 (by omega))
        have hA9 : AHO (fun jb => rhO fst jb 0) (fun ib qb => alB (fun qb => fma (2 * qb)) (fun qb => fma (2 * qb + 1)) (nI ib) (nI qb) M) (sdN fst) 0 g2 := AHO.z (by omega) (fun q9 h9 => hinv.1 q9 (by omega))
        have hB9 : BHO (fun jb => rhO fst jb 0) (fun ib qb => alB (fun qb => fma (2 * qb)) (fun qb => fma (2 * qb + 1)) (nI ib) (nI qb) M) N N g3 := BHO.z (by omega) (fun q9 h9 => hinv.2 q9 (by omega))
        refine lv_iconst (v := 0) hx hb dX11_layPaths_55 rfl ?_
        refine lv_istore_n (lv' := [(1, .int 0), (0, .ref h0)]) hx hb dX11_layPaths_56 rfl hl (by decide) rfl (fun ls hl => ?_)
        have loop57_11 : ∀ (nf j9 : Nat), N + 1 ≤ j9 + nf → j9 ≤ N → ∀ (g10 : Nat → Int32) (H : Heap) (locs : List Loc), AHO (fun jb => rhO fst jb 0) (fun ib qb => alB (fun qb => fma (2 * qb)) (fun qb => fma (2 * qb + 1)) (nI ib) (nI qb) M) (sdN fst) j9 g10 → va_P (dC, dI) vwCl [(h0, .inr (11, [.ref st, .int (nI N), .int (nI B), .ref rp, .int vrs, .int vrb, .int vhs, .int vca, .int vxs, .int vxb, .ref tp, .int (nI T), .int vfa, .int vbr, .int vba, .int vsp, .int vhe, .int vtk, .int vva, .ref cu, .ref lt, .ref od, .ref th, .ref be, .ref ln, .int (nI S), .ref ma, .int (nI M), .ref ah, .ref bh, .ref ik, .ref la, .ref lg, .ref ce, .int vto])), (st, .inl (G 0, 196, .inl fst)), (ma, .inl (G 0, 12, .inl fma)), (ah, .inl (G 0, 110, .inl g10)), (bh, .inl (G 0, 110, .inl g3))] H → va_D A [(h0, .inr (11, [.ref st, .int (nI N), .int (nI B), .ref rp, .int vrs, .int vrb, .int vhs, .int vca, .int vxs, .int vxb, .ref tp, .int (nI T), .int vfa, .int vbr, .int vba, .int vsp, .int vhe, .int vtk, .int vva, .ref cu, .ref lt, .ref od, .ref th, .ref be, .ref ln, .int (nI S), .ref ma, .int (nI M), .ref ah, .ref bh, .ref ik, .ref la, .ref lg, .ref ce, .int vto])), (st, .inl (G 0, 196, .inl fst)), (ma, .inl (G 0, 12, .inl fma)), (ah, .inl (G 0, 110, .inl g10)), (bh, .inl (G 0, 110, .inl g3))] → va_S A s.heap H locs → ∀ (ls : Array Slot), lv_has ls 6 [(1, .int (nI j9)), (0, .ref h0)] → W p l e (headSpec (Cond.code yX11_layPaths cX11_layPaths 6 none :: GT) ({ frames := 5, cells := 0, slots := 0, locals := 121 } : Room)).room s m ([.ref h0] : List Value).toArray below meth c H locs 0 0 (MQ below (va_Qv (fun (u : (Nat → Int32) × (Nat → Int32)) => match u with | (oah, obh) => AHO (fun jb => rhO fst jb 0) (fun ib qb => alB (fun qb => fma (2 * qb)) (fun qb => fma (2 * qb + 1)) (nI ib) (nI qb) M) (sdN fst) N oah ∧ BHO (fun jb => rhO fst jb 0) (fun ib qb => alB (fun qb => fma (2 * qb)) (fun qb => fma (2 * qb + 1)) (nI ib) (nI qb) M) N 0 obh) (fun (u : (Nat → Int32) × (Nat → Int32)) (t : State) => match u with | (oah, obh) => va_P (dC, dI) vwCl [(h0, .inr (11, [.ref st, .int (nI N), .int (nI B), .ref rp, .int vrs, .int vrb, .int vhs, .int vca, .int vxs, .int vxb, .ref tp, .int (nI T), .int vfa, .int vbr, .int vba, .int vsp, .int vhe, .int vtk, .int vva, .ref cu, .ref lt, .ref od, .ref th, .ref be, .ref ln, .int (nI S), .ref ma, .int (nI M), .ref ah, .ref bh, .ref ik, .ref la, .ref lg, .ref ce, .int vto])), (st, .inl (G 0, 196, .inl fst)), (ma, .inl (G 0, 12, .inl fma)), (ah, .inl (G 0, 110, .inl oah)), (bh, .inl (G 0, 110, .inl obh))] t.heap ∧ va_D A [(h0, .inr (11, [.ref st, .int (nI N), .int (nI B), .ref rp, .int vrs, .int vrb, .int vhs, .int vca, .int vxs, .int vxb, .ref tp, .int (nI T), .int vfa, .int vbr, .int vba, .int vsp, .int vhe, .int vtk, .int vva, .ref cu, .ref lt, .ref od, .ref th, .ref be, .ref ln, .int (nI S), .ref ma, .int (nI M), .ref ah, .ref bh, .ref ik, .ref la, .ref lg, .ref ce, .int vto])), (st, .inl (G 0, 196, .inl fst)), (ma, .inl (G 0, 12, .inl fma)), (ah, .inl (G 0, 110, .inl oah)), (bh, .inl (G 0, 110, .inl obh))]) A) ([.ref h0] : List Value).toArray s 0 0 A) (F0 m 57 ls []) := by
          intro nf
          induction nf with
          | zero => intro j9 h1 h2; exact absurd h1 (by omega)
          | succ nf ih57_11 =>
            intro j9 hn12 hj13 g10 H locs hinv hP hD hS ls hl
            refine lv_iload_n hx hb dX11_layPaths_57 rfl (lv_at hl 0 rfl) ?_
            refine lv_aload_n hx hb dX11_layPaths_58 rfl (lv_at hl 1 rfl) ?_
            refine va_get (D := (dC, dI)) (ci := 11) (v := .int (nI N)) (C := RX11) (T := TX11) (N := 35) hx hb hg inG11 hown hK.1 hP 0 rfl rfl 1 (Nat.le_of_ble_eq_true rfl) (hg _ wt_879) (fun _ h9 => h9) rfl dX11_layPaths_59 ?_
            refine lv_icmp_ge (tgt := 196) hx hb dX11_layPaths_62 rfl (fun c14 => ?_) (fun c14 => ?_)
            · skip
              have tn2561_ : nIT j9 := fun _ => nI_toInt (by first | omega | (have t := leI c14; omega))
              have n15 : N ≤ j9 := by have t := leI c14; rw [show (nI (j9)).toInt = ((j9 : Nat) : Int) from tn2561_ ()] at t; rw [show (nI (N)).toInt = ((N : Nat) : Int) from tn2555_ ()] at t; omega
              have hC9 := hinv
              rw [show j9 = N by omega] at hC9
              refine lv_aload_n hx hb dX11_layPaths_196 rfl (lv_at hl 1 rfl) ?_
              refine va_get (D := (dC, dI)) (ci := 11) (v := .int (nI N)) (C := RX11) (T := TX11) (N := 35) hx hb hg inG11 hown hK.1 hP 0 rfl rfl 1 (Nat.le_of_ble_eq_true rfl) (hg _ wt_879) (fun _ h9 => h9) rfl dX11_layPaths_197 ?_
              refine lv_iconst (v := 1) hx hb dX11_layPaths_200 rfl ?_
              refine lv_isub hx hb dX11_layPaths_201 ?_
              refine lv_istore_n (lv' := [(1, .int ((nI N) - 1)), (0, .ref h0)]) hx hb dX11_layPaths_202 rfl hl (by decide) rfl (fun ls hl => ?_)
              rw [dn_sub] at hl
              have loop203_18 : ∀ (j16 : Nat), j16 ≤ N → ∀ (g17 : Nat → Int32) (H : Heap) (locs : List Loc), BHO (fun jb => rhO fst jb 0) (fun ib qb => alB (fun qb => fma (2 * qb)) (fun qb => fma (2 * qb + 1)) (nI ib) (nI qb) M) N j16 g17 → va_P (dC, dI) vwCl [(h0, .inr (11, [.ref st, .int (nI N), .int (nI B), .ref rp, .int vrs, .int vrb, .int vhs, .int vca, .int vxs, .int vxb, .ref tp, .int (nI T), .int vfa, .int vbr, .int vba, .int vsp, .int vhe, .int vtk, .int vva, .ref cu, .ref lt, .ref od, .ref th, .ref be, .ref ln, .int (nI S), .ref ma, .int (nI M), .ref ah, .ref bh, .ref ik, .ref la, .ref lg, .ref ce, .int vto])), (st, .inl (G 0, 196, .inl fst)), (ma, .inl (G 0, 12, .inl fma)), (ah, .inl (G 0, 110, .inl g10)), (bh, .inl (G 0, 110, .inl g17))] H → va_D A [(h0, .inr (11, [.ref st, .int (nI N), .int (nI B), .ref rp, .int vrs, .int vrb, .int vhs, .int vca, .int vxs, .int vxb, .ref tp, .int (nI T), .int vfa, .int vbr, .int vba, .int vsp, .int vhe, .int vtk, .int vva, .ref cu, .ref lt, .ref od, .ref th, .ref be, .ref ln, .int (nI S), .ref ma, .int (nI M), .ref ah, .ref bh, .ref ik, .ref la, .ref lg, .ref ce, .int vto])), (st, .inl (G 0, 196, .inl fst)), (ma, .inl (G 0, 12, .inl fma)), (ah, .inl (G 0, 110, .inl g10)), (bh, .inl (G 0, 110, .inl g17))] → va_S A s.heap H locs → ∀ (ls : Array Slot), lv_has ls 6 [(1, .int (dn j16)), (0, .ref h0)] → W p l e (headSpec (Cond.code yX11_layPaths cX11_layPaths 6 none :: GT) ({ frames := 5, cells := 0, slots := 0, locals := 121 } : Room)).room s m ([.ref h0] : List Value).toArray below meth c H locs 0 0 (MQ below (va_Qv (fun (u : (Nat → Int32) × (Nat → Int32)) => match u with | (oah, obh) => AHO (fun jb => rhO fst jb 0) (fun ib qb => alB (fun qb => fma (2 * qb)) (fun qb => fma (2 * qb + 1)) (nI ib) (nI qb) M) (sdN fst) N oah ∧ BHO (fun jb => rhO fst jb 0) (fun ib qb => alB (fun qb => fma (2 * qb)) (fun qb => fma (2 * qb + 1)) (nI ib) (nI qb) M) N 0 obh) (fun (u : (Nat → Int32) × (Nat → Int32)) (t : State) => match u with | (oah, obh) => va_P (dC, dI) vwCl [(h0, .inr (11, [.ref st, .int (nI N), .int (nI B), .ref rp, .int vrs, .int vrb, .int vhs, .int vca, .int vxs, .int vxb, .ref tp, .int (nI T), .int vfa, .int vbr, .int vba, .int vsp, .int vhe, .int vtk, .int vva, .ref cu, .ref lt, .ref od, .ref th, .ref be, .ref ln, .int (nI S), .ref ma, .int (nI M), .ref ah, .ref bh, .ref ik, .ref la, .ref lg, .ref ce, .int vto])), (st, .inl (G 0, 196, .inl fst)), (ma, .inl (G 0, 12, .inl fma)), (ah, .inl (G 0, 110, .inl oah)), (bh, .inl (G 0, 110, .inl obh))] t.heap ∧ va_D A [(h0, .inr (11, [.ref st, .int (nI N), .int (nI B), .ref rp, .int vrs, .int vrb, .int vhs, .int vca, .int vxs, .int vxb, .ref tp, .int (nI T), .int vfa, .int vbr, .int vba, .int vsp, .int vhe, .int vtk, .int vva, .ref cu, .ref lt, .ref od, .ref th, .ref be, .ref ln, .int (nI S), .ref ma, .int (nI M), .ref ah, .ref bh, .ref ik, .ref la, .ref lg, .ref ce, .int vto])), (st, .inl (G 0, 196, .inl fst)), (ma, .inl (G 0, 12, .inl fma)), (ah, .inl (G 0, 110, .inl oah)), (bh, .inl (G 0, 110, .inl obh))]) A) ([.ref h0] : List Value).toArray s 0 0 A) (F0 m 203 ls []) := by
                intro j16
                induction j16 with
                | zero =>
                  intro hj19 g17 H locs hinv hP hD hS ls hl
                  have hl : lv_has ls 6 [(1, .int (-1)), (0, .ref h0)] := hl
                  refine lv_iload_n hx hb dX11_layPaths_203 rfl (lv_at hl 0 rfl) ?_
                  refine lv_if_lt (tgt := 281) hx hb dX11_layPaths_204 rfl (fun c20 => ?_) (fun c20 => ?_)
                  · skip
                    obtain ⟨hP9, hD9⟩ := va_sub2 (ws' := [(h0, .inr (11, [.ref st, .int (nI N), .int (nI B), .ref rp, .int vrs, .int vrb, .int vhs, .int vca, .int vxs, .int vxb, .ref tp, .int (nI T), .int vfa, .int vbr, .int vba, .int vsp, .int vhe, .int vtk, .int vva, .ref cu, .ref lt, .ref od, .ref th, .ref be, .ref ln, .int (nI S), .ref ma, .int (nI M), .ref ah, .ref bh, .ref ik, .ref la, .ref lg, .ref ce, .int vto])), (st, .inl (G 0, 196, .inl fst)), (ma, .inl (G 0, 12, .inl fma)), (ah, .inl (G 0, 110, .inl g10)), (bh, .inl (G 0, 110, .inl g17))]) hP hD [0, 1, 2, 3, 4] (by decide +kernel) rfl
                    refine W.widen (k := 0) (n := 0) (Nat.le_of_ble_eq_true rfl) (Nat.le_of_ble_eq_true rfl) ?_
                    exact W.vret hx hb hr (fun t ht hW => ⟨⟨(g10, g17), rfl, ⟨hC9, hinv⟩, ⟨by rw [ht]; exact hP9, hD9⟩⟩, hS.F ht⟩) hS.2.2 dX11_layPaths_281
                  · skip
                    exact absurd c20 (by decide)
                | succ j16 ih203_18 =>
                  intro hj19 g17 H locs hinv hP hD hS ls hl
                  have hl : lv_has ls 6 [(1, .int (nI j16)), (0, .ref h0)] := hl
                  refine lv_iload_n hx hb dX11_layPaths_203 rfl (lv_at hl 0 rfl) ?_
                  refine lv_if_lt (tgt := 281) hx hb dX11_layPaths_204 rfl (fun c21 => ?_) (fun c21 => ?_)
                  · skip
                    have t_hj6 := hj6
                    have t_n8 := n8
                    have t_hj13 := hj13
                    have t_n15 := n15
                    have t_hj19 := hj19
                    have t_c21 := ltI c21
                    have : (0 : Int32).toInt = 0 := qI_0
                    have t_n0 : (nI N).toInt = (N : Int) := tn2555_ ()
                    have t_n1 : (nI B).toInt = (B : Int) := tn2556_ ()
                    have t_n2 : (nI T).toInt = (T : Int) := tn2557_ ()
                    have t_n3 : (nI S).toInt = (S : Int) := tn2558_ ()
                    have t_n4 : (nI M).toInt = (M : Int) := tn2559_ ()
                    have t_n5 : (nI j1).toInt = (j1 : Int) := tn2560_ ()
                    have t_n6 : (nI j9).toInt = (j9 : Int) := tn2561_ ()
                    have tn2562_ : nIT j16 := fun _ => nI_toInt (by omega)
                    have t_n7 : (nI j16).toInt = (j16 : Int) := tn2562_ ()
                    exfalso; omega
                  · skip
                    have tn2563_ : nIT j16 := fun _ => nI_toInt (by first | omega | (have t := nltI c21; omega))
                    have n22 : 0 ≤ j16 := by have t := nltI c21; rw [show (nI (j16)).toInt = ((j16 : Nat) : Int) from tn2563_ ()] at t; have : (0 : Int32).toInt = 0 := qI_0; omega
                    refine lv_iconst (v := 0) hx hb dX11_layPaths_207 rfl ?_
                    refine lv_istore_n (lv' := [(2, .int 0), (1, .int (nI j16)), (0, .ref h0)]) hx hb dX11_layPaths_208 rfl hl (by decide) rfl (fun ls hl => ?_)
                    have loop209_25 : ∀ (nf j23 : Nat), 10 + 1 ≤ j23 + nf → j23 ≤ 10 → ∀ (g24 : Nat → Int32) (H : Heap) (locs : List Loc), BHI (fun jb => rhO fst jb 0) (fun ib qb => alB (fun qb => fma (2 * qb)) (fun qb => fma (2 * qb + 1)) (nI ib) (nI qb) M) N j16 j23 g24 → va_P (dC, dI) vwCl [(h0, .inr (11, [.ref st, .int (nI N), .int (nI B), .ref rp, .int vrs, .int vrb, .int vhs, .int vca, .int vxs, .int vxb, .ref tp, .int (nI T), .int vfa, .int vbr, .int vba, .int vsp, .int vhe, .int vtk, .int vva, .ref cu, .ref lt, .ref od, .ref th, .ref be, .ref ln, .int (nI S), .ref ma, .int (nI M), .ref ah, .ref bh, .ref ik, .ref la, .ref lg, .ref ce, .int vto])), (st, .inl (G 0, 196, .inl fst)), (ma, .inl (G 0, 12, .inl fma)), (ah, .inl (G 0, 110, .inl g10)), (bh, .inl (G 0, 110, .inl g24))] H → va_D A [(h0, .inr (11, [.ref st, .int (nI N), .int (nI B), .ref rp, .int vrs, .int vrb, .int vhs, .int vca, .int vxs, .int vxb, .ref tp, .int (nI T), .int vfa, .int vbr, .int vba, .int vsp, .int vhe, .int vtk, .int vva, .ref cu, .ref lt, .ref od, .ref th, .ref be, .ref ln, .int (nI S), .ref ma, .int (nI M), .ref ah, .ref bh, .ref ik, .ref la, .ref lg, .ref ce, .int vto])), (st, .inl (G 0, 196, .inl fst)), (ma, .inl (G 0, 12, .inl fma)), (ah, .inl (G 0, 110, .inl g10)), (bh, .inl (G 0, 110, .inl g24))] → va_S A s.heap H locs → ∀ (ls : Array Slot), lv_has ls 6 [(2, .int (nI j23)), (1, .int (nI j16)), (0, .ref h0)] → W p l e (headSpec (Cond.code yX11_layPaths cX11_layPaths 6 none :: GT) ({ frames := 5, cells := 0, slots := 0, locals := 121 } : Room)).room s m ([.ref h0] : List Value).toArray below meth c H locs 0 0 (MQ below (va_Qv (fun (u : (Nat → Int32) × (Nat → Int32)) => match u with | (oah, obh) => AHO (fun jb => rhO fst jb 0) (fun ib qb => alB (fun qb => fma (2 * qb)) (fun qb => fma (2 * qb + 1)) (nI ib) (nI qb) M) (sdN fst) N oah ∧ BHO (fun jb => rhO fst jb 0) (fun ib qb => alB (fun qb => fma (2 * qb)) (fun qb => fma (2 * qb + 1)) (nI ib) (nI qb) M) N 0 obh) (fun (u : (Nat → Int32) × (Nat → Int32)) (t : State) => match u with | (oah, obh) => va_P (dC, dI) vwCl [(h0, .inr (11, [.ref st, .int (nI N), .int (nI B), .ref rp, .int vrs, .int vrb, .int vhs, .int vca, .int vxs, .int vxb, .ref tp, .int (nI T), .int vfa, .int vbr, .int vba, .int vsp, .int vhe, .int vtk, .int vva, .ref cu, .ref lt, .ref od, .ref th, .ref be, .ref ln, .int (nI S), .ref ma, .int (nI M), .ref ah, .ref bh, .ref ik, .ref la, .ref lg, .ref ce, .int vto])), (st, .inl (G 0, 196, .inl fst)), (ma, .inl (G 0, 12, .inl fma)), (ah, .inl (G 0, 110, .inl oah)), (bh, .inl (G 0, 110, .inl obh))] t.heap ∧ va_D A [(h0, .inr (11, [.ref st, .int (nI N), .int (nI B), .ref rp, .int vrs, .int vrb, .int vhs, .int vca, .int vxs, .int vxb, .ref tp, .int (nI T), .int vfa, .int vbr, .int vba, .int vsp, .int vhe, .int vtk, .int vva, .ref cu, .ref lt, .ref od, .ref th, .ref be, .ref ln, .int (nI S), .ref ma, .int (nI M), .ref ah, .ref bh, .ref ik, .ref la, .ref lg, .ref ce, .int vto])), (st, .inl (G 0, 196, .inl fst)), (ma, .inl (G 0, 12, .inl fma)), (ah, .inl (G 0, 110, .inl oah)), (bh, .inl (G 0, 110, .inl obh))]) A) ([.ref h0] : List Value).toArray s 0 0 A) (F0 m 209 ls []) := by
                      intro nf
                      induction nf with
                      | zero => intro j23 h1 h2; exact absurd h1 (by omega)
                      | succ nf ih209_25 =>
                        intro j23 hn26 hj27 g24 H locs hinv hP hD hS ls hl
                        refine lv_iload_n hx hb dX11_layPaths_209 rfl (lv_at hl 0 rfl) ?_
                        refine lv_bipush (v := 10) hx hb dX11_layPaths_210 rfl ?_
                        refine lv_icmp_ge (tgt := 275) hx hb dX11_layPaths_212 rfl (fun c28 => ?_) (fun c28 => ?_)
                        · skip
                          have tn2564_ : nIT j23 := fun _ => nI_toInt (by first | omega | (have t := leI c28; omega))
                          have n29 : 10 ≤ j23 := by have t := leI c28; rw [show (nI (j23)).toInt = ((j23 : Nat) : Int) from tn2564_ ()] at t; have : (10 : Int32).toInt = 10 := qI_10; omega
                          refine lv_iinc (v := dn j16) (lv' := [(1, .int (dn j16)), (2, .int (nI j23)), (0, .ref h0)]) hx hb dX11_layPaths_275 hl (k := 1) rfl (by exact dn_pred _) (by decide) rfl (fun ls hl => ?_)
                          refine lv_goto (tgt := 203) hx hb dX11_layPaths_278 rfl ?_
                          exact ih203_18 (by omega) g24 _ _ (BHI.o (by rw [show (10 : Nat) = j23 by omega]; exact hinv)) hP hD hS ls (lv_sub hl [0, 2] rfl)
                        · skip
                          have tn2565_ : nIT j23 := fun _ => nI_toInt (by first | omega | (have t := nleI c28; omega))
                          have n30 : j23 < 10 := by have t := nleI c28; rw [show (nI (j23)).toInt = ((j23 : Nat) : Int) from tn2565_ ()] at t; have : (10 : Int32).toInt = 10 := qI_10; omega
                          refine lv_aload_n hx hb dX11_layPaths_215 rfl (lv_at hl 2 rfl) ?_
                          refine va_get (D := (dC, dI)) (ci := 11) (v := .ref bh) (C := RX11) (T := TX11) (N := 35) hx hb hg inG11 hown hK.1 hP 0 rfl rfl 29 (Nat.le_of_ble_eq_true rfl) (hg _ wt_907) (fun _ h9 => h9) rfl dX11_layPaths_216 ?_
                          refine lv_bipush (v := 10) hx hb dX11_layPaths_219 rfl ?_
                          refine lv_iload_n hx hb dX11_layPaths_221 rfl (lv_at hl 1 rfl) ?_
                          refine lv_imul hx hb dX11_layPaths_222 ?_
                          refine lv_cg (y := nI (10 * j16)) (by rw [show (10 : Int32) = nI 10 from rfl]; exact pk_mul _ _) ?_
                          refine lv_iload_n hx hb dX11_layPaths_223 rfl (lv_at hl 0 rfl) ?_
                          refine lv_iadd hx hb dX11_layPaths_224 ?_
                          refine lv_cg (y := nI ((10 * j16) + j23)) (by exact nI_add _ _) ?_
                          refine lv_iload_n hx hb dX11_layPaths_225 rfl (lv_at hl 0 rfl) ?_
                          refine lv_if_ne (tgt := 253) hx hb dX11_layPaths_226 rfl (fun c31 => ?_) (fun c31 => ?_)
                          · skip
                            have n32 : j23 ≠ 0 := by have t := neI c31; rw [show (nI (j23)).toInt = ((j23 : Nat) : Int) from tn2565_ ()] at t; have : (0 : Int32).toInt = 0 := qI_0; omega
                            refine lv_aload_n hx hb dX11_layPaths_253 rfl (lv_at hl 2 rfl) ?_
                            refine lv_iload_n hx hb dX11_layPaths_254 rfl (lv_at hl 1 rfl) ?_
                            refine lv_iload_n hx hb dX11_layPaths_255 rfl (lv_at hl 0 rfl) ?_
                            refine lv_iconst (v := 1) hx hb dX11_layPaths_256 rfl ?_
                            have hPc := hP.sub (ws' := [(h0, .inr (11, [.ref st, .int (nI N), .int (nI B), .ref rp, .int vrs, .int vrb, .int vhs, .int vca, .int vxs, .int vxb, .ref tp, .int (nI T), .int vfa, .int vbr, .int vba, .int vsp, .int vhe, .int vtk, .int vva, .ref cu, .ref lt, .ref od, .ref th, .ref be, .ref ln, .int (nI S), .ref ma, .int (nI M), .ref ah, .ref bh, .ref ik, .ref la, .ref lg, .ref ce, .int vto])), (st, .inl (G 0, 196, .inl fst)), (ma, .inl (G 0, 12, .inl fma)), (bh, .inl (G 0, 110, .inl g24))]) [0, 1, 2, 4] rfl
                            refine va_calli (va_runV (As := [.int (nI j16), .int (nI j23), .int 1]) (rest := [.int (nI ((10 * j16) + j23)), .ref bh]) ⟨hx, hb, hml, hown, hg⟩ (c_X11_onward1 l dC dI G _ h0 j16 j23 st N B rp tp T cu lt od th be ln S ma M ah bh ik la lg ce vrs vrb vhs vca vxs vxb vfa vbr vba vsp vhe vtk vva vto fst fma g24 hN hB_ hT_ hS0 hM_ hst (by first | omega | (have t_hj6 := hj6; have t_n8 := n8; have t_hj13 := hj13; have t_n15 := n15; have t_hj19 := hj19; have t_n22 := n22; have t_hj27 := hj27; have t_n30 := n30; have t_n32 := n32; have tnb_ := nib9 tn2555_ tn2556_ tn2557_ tn2558_ tn2559_ tn2560_ tn2561_ tn2563_ tn2565_; omega)) (by first | omega | (have t_hj6 := hj6; have t_n8 := n8; have t_hj13 := hj13; have t_n15 := n15; have t_hj19 := hj19; have t_n22 := n22; have t_hj27 := hj27; have t_n30 := n30; have t_n32 := n32; have tnb_ := nib9 tn2555_ tn2556_ tn2557_ tn2558_ tn2559_ tn2560_ tn2561_ tn2563_ tn2565_; omega))) (kwV hg mfX11_onward wt_1232 ⟨Nat.le_of_ble_eq_true rfl, Nat.le_of_ble_eq_true rfl⟩) (preVR hK hPc (ci := 11) (r := (RX11, TX11, 35)) rfl rfl) rfl rfl hl.1 rfl (lv_room (Nat.le_of_ble_eq_true rfl)) dX11_layPaths_257 ⟨Nat.le_of_ble_eq_true rfl, Nat.le_of_ble_eq_true rfl⟩) hS (fun q h1 h2 => absurd h2 (Nat.not_le.mpr h1)) (fun q h => hA q (Nat.le_trans hS.1 h)) (fun r33 ur33 t H1 locs ht hvm w34 hB hz1 hk1 hS => ?_)
                            have hP := keepR hP hk1
                            obtain ⟨w34, w34x⟩ := w34
                            refine lv_aload_n hx hb dX11_layPaths_260 rfl (lv_at hl 2 rfl) ?_
                            refine lv_iload_n hx hb dX11_layPaths_261 rfl (lv_at hl 1 rfl) ?_
                            refine lv_iload_n hx hb dX11_layPaths_262 rfl (lv_at hl 0 rfl) ?_
                            refine lv_iconst (v := 0) hx hb dX11_layPaths_263 rfl ?_
                            have hPc := hP.sub (ws' := [(h0, .inr (11, [.ref st, .int (nI N), .int (nI B), .ref rp, .int vrs, .int vrb, .int vhs, .int vca, .int vxs, .int vxb, .ref tp, .int (nI T), .int vfa, .int vbr, .int vba, .int vsp, .int vhe, .int vtk, .int vva, .ref cu, .ref lt, .ref od, .ref th, .ref be, .ref ln, .int (nI S), .ref ma, .int (nI M), .ref ah, .ref bh, .ref ik, .ref la, .ref lg, .ref ce, .int vto])), (st, .inl (G 0, 196, .inl fst)), (ma, .inl (G 0, 12, .inl fma)), (bh, .inl (G 0, 110, .inl g24))]) [0, 1, 2, 4] rfl
                            refine va_calli (va_runV (As := [.int (nI j16), .int (nI j23), .int 0]) (rest := [.int r33, .int (nI ((10 * j16) + j23)), .ref bh]) ⟨hx, hb, hml, hown, hg⟩ (c_X11_onward0 l dC dI G _ h0 j16 j23 st N B rp tp T cu lt od th be ln S ma M ah bh ik la lg ce vrs vrb vhs vca vxs vxb vfa vbr vba vsp vhe vtk vva vto fst fma g24 hN hB_ hT_ hS0 hM_ hst (by first | omega | (have t_hj6 := hj6; have t_n8 := n8; have t_hj13 := hj13; have t_n15 := n15; have t_hj19 := hj19; have t_n22 := n22; have t_hj27 := hj27; have t_n30 := n30; have t_n32 := n32; have tnb_ := nib9 tn2555_ tn2556_ tn2557_ tn2558_ tn2559_ tn2560_ tn2561_ tn2563_ tn2565_; omega)) (by first | omega | (have t_hj6 := hj6; have t_n8 := n8; have t_hj13 := hj13; have t_n15 := n15; have t_hj19 := hj19; have t_n22 := n22; have t_hj27 := hj27; have t_n30 := n30; have t_n32 := n32; have tnb_ := nib9 tn2555_ tn2556_ tn2557_ tn2558_ tn2559_ tn2560_ tn2561_ tn2563_ tn2565_; omega))) (kwV hg mfX11_onward wt_1232 ⟨Nat.le_of_ble_eq_true rfl, Nat.le_of_ble_eq_true rfl⟩) (preVR hK hPc (ci := 11) (r := (RX11, TX11, 35)) rfl rfl) rfl rfl hl.1 rfl (lv_room (Nat.le_of_ble_eq_true rfl)) dX11_layPaths_264 ⟨Nat.le_of_ble_eq_true rfl, Nat.le_of_ble_eq_true rfl⟩) hS (fun q h1 h2 => absurd h2 (Nat.not_le.mpr h1)) (fun q h => hA q (Nat.le_trans hS.1 h)) (fun r35 ur35 t H1 locs ht hvm w36 hB hz1 hk1 hS => ?_)
                            have hP := keepR hP hk1
                            obtain ⟨w36, w36x⟩ := w36
                            refine lv_iadd hx hb dX11_layPaths_267 ?_
                            refine va_iast hx hb hK.1 hP hD hS 4 0 rfl rfl (vp_in_nI (by first | omega | (have t_hj6 := hj6; have t_n8 := n8; have t_hj13 := hj13; have t_n15 := n15; have t_hj19 := hj19; have t_n22 := n22; have t_hj27 := hj27; have t_n30 := n30; have t_n32 := n32; have tnb_ := nib9 tn2555_ tn2556_ tn2557_ tn2558_ tn2559_ tn2560_ tn2561_ tn2563_ tn2565_; omega)) (by decide)) dX11_layPaths_268 (fun H locs hP hD hS => ?_)
                            rw [nI_clamp (by omega)] at hP hD
                            refine lv_iinc (v := nI (j23 + 1)) (lv' := [(2, .int (nI (j23 + 1))), (1, .int (nI j16)), (0, .ref h0)]) hx hb dX11_layPaths_269 hl (k := 0) rfl (by rw [show Int32.ofInt 1 = nI 1 from by decide]; exact nI_add _ _) (by decide) rfl (fun ls hl => ?_)
                            refine lv_goto (tgt := 209) hx hb dX11_layPaths_272 rfl ?_
                            exact ih209_25 (j23 + 1) (by omega) (by omega) (upd g24 ((10 * j16) + j23) (r33 + r35)) _ _ (BHI.s hinv (by omega) (by omega) (onT_d9 (by omega) (by have e6 := w34; by_cases e4 : ((¬ j23 = 0 ∧ ¬ rhO fst j16 0 = 0) ∧ alB (fun qb => fma (2 * qb)) (fun qb => fma (2 * qb + 1)) (nI j16) (nI (j23 - 1)) M = true); (rw [if_pos e4] at e6; have e3 := (c1_iff (rhOb hst (j := j16) (by omega)).1 (by omega)).mp e4; rw [e6, if_pos (decide_eq_true e3.1)]; show _ = (if alB (fun qb => fma (2 * qb)) (fun qb => fma (2 * qb + 1)) (nI j16) (nI (j23 - 1)) M = true then _ else _); rw [if_pos e4.2]; rfl); (rw [if_neg e4] at e6; rw [e6]; by_cases e2 : 0 < (rhO fst j16 0).toInt; (rw [if_pos (decide_eq_true e2)]; show _ = (if alB (fun qb => fma (2 * qb)) (fun qb => fma (2 * qb + 1)) (nI j16) (nI (j23 - 1)) M = true then _ else _); rw [if_neg (fun e1 => e4 ((c1_iff (rhOb hst (j := j16) (by omega)).1 (by omega)).mpr ⟨e2, e1⟩))]); (rw [if_neg (fun e1 => e2 (of_decide_eq_true e1))]))) (by have e6 := w36; by_cases e4 : ((¬ j23 = 0 ∧ ¬ rhO fst j16 0 = 20) ∧ alB (fun qb => fma (2 * qb)) (fun qb => fma (2 * qb + 1)) (nI j16) (nI (min 9 (j23 + 1))) M = true); (rw [if_pos e4] at e6; have e3 := (c2_iff (rhOb hst (j := j16) (by omega)).2 (by omega)).mp e4; rw [e6, if_pos (decide_eq_true e3.1)]; show _ = (if alB (fun qb => fma (2 * qb)) (fun qb => fma (2 * qb + 1)) (nI j16) (nI (min 9 (j23 + 1))) M = true then _ else _); rw [if_pos e4.2]; rfl); (rw [if_neg e4] at e6; rw [e6]; by_cases e2 : (rhO fst j16 0).toInt < 20; (rw [if_pos (decide_eq_true e2)]; show _ = (if alB (fun qb => fma (2 * qb)) (fun qb => fma (2 * qb + 1)) (nI j16) (nI (min 9 (j23 + 1))) M = true then _ else _); rw [if_neg (fun e1 => e4 ((c2_iff (rhOb hst (j := j16) (by omega)).2 (by omega)).mpr ⟨e2, e1⟩))]); (rw [if_neg (fun e1 => e2 (of_decide_eq_true e1))]))))) hP hD hS ls (lv_sub hl [0, 1, 2] rfl)
                          · skip
                            have n37 : j23 = 0 := by have t := eqI c31; rw [show (nI (j23)).toInt = ((j23 : Nat) : Int) from tn2565_ ()] at t; have : (0 : Int32).toInt = 0 := qI_0; omega
                            refine lv_aload_n hx hb dX11_layPaths_229 rfl (lv_at hl 2 rfl) ?_
                            refine lv_iload_n hx hb dX11_layPaths_230 rfl (lv_at hl 1 rfl) ?_
                            refine lv_iconst (v := 0) hx hb dX11_layPaths_231 rfl ?_
                            have hPc := hP.sub (ws' := [(h0, .inr (11, [.ref st, .int (nI N), .int (nI B), .ref rp, .int vrs, .int vrb, .int vhs, .int vca, .int vxs, .int vxb, .ref tp, .int (nI T), .int vfa, .int vbr, .int vba, .int vsp, .int vhe, .int vtk, .int vva, .ref cu, .ref lt, .ref od, .ref th, .ref be, .ref ln, .int (nI S), .ref ma, .int (nI M), .ref ah, .ref bh, .ref ik, .ref la, .ref lg, .ref ce, .int vto])), (ma, .inl (G 0, 12, .inl fma))]) [0, 2] rfl
                            refine va_calli (va_runV (As := [.int (nI j16), .int 0]) (rest := [.int (nI ((10 * j16) + j23)), .ref bh]) ⟨hx, hb, hml, hown, hg⟩ (c_X11_isMarkedE l dC dI G _ h0 st N B rp tp T cu lt od th be ln S ma M ah bh ik la lg ce (nI j16) 0 vrs vrb vhs vca vxs vxb vfa vbr vba vsp vhe vtk vva vto fma hN hB_ hT_ hS0 hM_) (kwV hg mfX11_isMarked wt_1228 ⟨Nat.le_of_ble_eq_true rfl, Nat.le_of_ble_eq_true rfl⟩) (preVR hK hPc (ci := 11) (r := (RX11, TX11, 35)) rfl rfl) rfl rfl hl.1 rfl (lv_room (Nat.le_of_ble_eq_true rfl)) dX11_layPaths_232 ⟨Nat.le_of_ble_eq_true rfl, Nat.le_of_ble_eq_true rfl⟩) hS (fun q h1 h2 => absurd h2 (Nat.not_le.mpr h1)) (fun q h => hA q (Nat.le_trans hS.1 h)) (fun r38 ur38 t H1 locs ht hvm w39 hB hz1 hk1 hS => ?_)
                            have hP := keepR hP hk1
                            obtain ⟨w39, w39x⟩ := w39
                            refine lv_if_eq (tgt := 253) hx hb dX11_layPaths_235 rfl (fun c40 => ?_) (fun c40 => ?_)
                            · skip
                              refine lv_aload_n hx hb dX11_layPaths_253 rfl (lv_at hl 2 rfl) ?_
                              refine lv_iload_n hx hb dX11_layPaths_254 rfl (lv_at hl 1 rfl) ?_
                              refine lv_iload_n hx hb dX11_layPaths_255 rfl (lv_at hl 0 rfl) ?_
                              refine lv_iconst (v := 1) hx hb dX11_layPaths_256 rfl ?_
                              have hPc := hP.sub (ws' := [(h0, .inr (11, [.ref st, .int (nI N), .int (nI B), .ref rp, .int vrs, .int vrb, .int vhs, .int vca, .int vxs, .int vxb, .ref tp, .int (nI T), .int vfa, .int vbr, .int vba, .int vsp, .int vhe, .int vtk, .int vva, .ref cu, .ref lt, .ref od, .ref th, .ref be, .ref ln, .int (nI S), .ref ma, .int (nI M), .ref ah, .ref bh, .ref ik, .ref la, .ref lg, .ref ce, .int vto])), (st, .inl (G 0, 196, .inl fst)), (ma, .inl (G 0, 12, .inl fma)), (bh, .inl (G 0, 110, .inl g24))]) [0, 1, 2, 4] rfl
                              refine va_calli (va_runV (As := [.int (nI j16), .int (nI j23), .int 1]) (rest := [.int (nI ((10 * j16) + j23)), .ref bh]) ⟨hx, hb, hml, hown, hg⟩ (c_X11_onward1 l dC dI G _ h0 j16 j23 st N B rp tp T cu lt od th be ln S ma M ah bh ik la lg ce vrs vrb vhs vca vxs vxb vfa vbr vba vsp vhe vtk vva vto fst fma g24 hN hB_ hT_ hS0 hM_ hst (by first | omega | (have t_hj6 := hj6; have t_n8 := n8; have t_hj13 := hj13; have t_n15 := n15; have t_hj19 := hj19; have t_n22 := n22; have t_hj27 := hj27; have t_n30 := n30; have t_n37 := n37; have t_c40 := eqI c40; have : (0 : Int32).toInt = 0 := qI_0; have tnb_ := nib9 tn2555_ tn2556_ tn2557_ tn2558_ tn2559_ tn2560_ tn2561_ tn2563_ tn2565_; omega)) (by first | omega | (have t_hj6 := hj6; have t_n8 := n8; have t_hj13 := hj13; have t_n15 := n15; have t_hj19 := hj19; have t_n22 := n22; have t_hj27 := hj27; have t_n30 := n30; have t_n37 := n37; have t_c40 := eqI c40; have : (0 : Int32).toInt = 0 := qI_0; have tnb_ := nib9 tn2555_ tn2556_ tn2557_ tn2558_ tn2559_ tn2560_ tn2561_ tn2563_ tn2565_; omega))) (kwV hg mfX11_onward wt_1232 ⟨Nat.le_of_ble_eq_true rfl, Nat.le_of_ble_eq_true rfl⟩) (preVR hK hPc (ci := 11) (r := (RX11, TX11, 35)) rfl rfl) rfl rfl hl.1 rfl (lv_room (Nat.le_of_ble_eq_true rfl)) dX11_layPaths_257 ⟨Nat.le_of_ble_eq_true rfl, Nat.le_of_ble_eq_true rfl⟩) hS (fun q h1 h2 => absurd h2 (Nat.not_le.mpr h1)) (fun q h => hA q (Nat.le_trans hS.1 h)) (fun r41 ur41 t H1 locs ht hvm w42 hB hz1 hk1 hS => ?_)
                              have hP := keepR hP hk1
                              obtain ⟨w42, w42x⟩ := w42
                              refine lv_aload_n hx hb dX11_layPaths_260 rfl (lv_at hl 2 rfl) ?_
                              refine lv_iload_n hx hb dX11_layPaths_261 rfl (lv_at hl 1 rfl) ?_
                              refine lv_iload_n hx hb dX11_layPaths_262 rfl (lv_at hl 0 rfl) ?_
                              refine lv_iconst (v := 0) hx hb dX11_layPaths_263 rfl ?_
                              have hPc := hP.sub (ws' := [(h0, .inr (11, [.ref st, .int (nI N), .int (nI B), .ref rp, .int vrs, .int vrb, .int vhs, .int vca, .int vxs, .int vxb, .ref tp, .int (nI T), .int vfa, .int vbr, .int vba, .int vsp, .int vhe, .int vtk, .int vva, .ref cu, .ref lt, .ref od, .ref th, .ref be, .ref ln, .int (nI S), .ref ma, .int (nI M), .ref ah, .ref bh, .ref ik, .ref la, .ref lg, .ref ce, .int vto])), (st, .inl (G 0, 196, .inl fst)), (ma, .inl (G 0, 12, .inl fma)), (bh, .inl (G 0, 110, .inl g24))]) [0, 1, 2, 4] rfl
                              refine va_calli (va_runV (As := [.int (nI j16), .int (nI j23), .int 0]) (rest := [.int r41, .int (nI ((10 * j16) + j23)), .ref bh]) ⟨hx, hb, hml, hown, hg⟩ (c_X11_onward0 l dC dI G _ h0 j16 j23 st N B rp tp T cu lt od th be ln S ma M ah bh ik la lg ce vrs vrb vhs vca vxs vxb vfa vbr vba vsp vhe vtk vva vto fst fma g24 hN hB_ hT_ hS0 hM_ hst (by first | omega | (have t_hj6 := hj6; have t_n8 := n8; have t_hj13 := hj13; have t_n15 := n15; have t_hj19 := hj19; have t_n22 := n22; have t_hj27 := hj27; have t_n30 := n30; have t_n37 := n37; have t_c40 := eqI c40; have : (0 : Int32).toInt = 0 := qI_0; have tnb_ := nib9 tn2555_ tn2556_ tn2557_ tn2558_ tn2559_ tn2560_ tn2561_ tn2563_ tn2565_; omega)) (by first | omega | (have t_hj6 := hj6; have t_n8 := n8; have t_hj13 := hj13; have t_n15 := n15; have t_hj19 := hj19; have t_n22 := n22; have t_hj27 := hj27; have t_n30 := n30; have t_n37 := n37; have t_c40 := eqI c40; have : (0 : Int32).toInt = 0 := qI_0; have tnb_ := nib9 tn2555_ tn2556_ tn2557_ tn2558_ tn2559_ tn2560_ tn2561_ tn2563_ tn2565_; omega))) (kwV hg mfX11_onward wt_1232 ⟨Nat.le_of_ble_eq_true rfl, Nat.le_of_ble_eq_true rfl⟩) (preVR hK hPc (ci := 11) (r := (RX11, TX11, 35)) rfl rfl) rfl rfl hl.1 rfl (lv_room (Nat.le_of_ble_eq_true rfl)) dX11_layPaths_264 ⟨Nat.le_of_ble_eq_true rfl, Nat.le_of_ble_eq_true rfl⟩) hS (fun q h1 h2 => absurd h2 (Nat.not_le.mpr h1)) (fun q h => hA q (Nat.le_trans hS.1 h)) (fun r43 ur43 t H1 locs ht hvm w44 hB hz1 hk1 hS => ?_)
                              have hP := keepR hP hk1
                              obtain ⟨w44, w44x⟩ := w44
                              refine lv_iadd hx hb dX11_layPaths_267 ?_
                              refine va_iast hx hb hK.1 hP hD hS 4 0 rfl rfl (vp_in_nI (by first | omega | (have t_hj6 := hj6; have t_n8 := n8; have t_hj13 := hj13; have t_n15 := n15; have t_hj19 := hj19; have t_n22 := n22; have t_hj27 := hj27; have t_n30 := n30; have t_n37 := n37; have t_c40 := eqI c40; have : (0 : Int32).toInt = 0 := qI_0; have tnb_ := nib9 tn2555_ tn2556_ tn2557_ tn2558_ tn2559_ tn2560_ tn2561_ tn2563_ tn2565_; omega)) (by decide)) dX11_layPaths_268 (fun H locs hP hD hS => ?_)
                              rw [nI_clamp (by omega)] at hP hD
                              refine lv_iinc (v := nI (j23 + 1)) (lv' := [(2, .int (nI (j23 + 1))), (1, .int (nI j16)), (0, .ref h0)]) hx hb dX11_layPaths_269 hl (k := 0) rfl (by rw [show Int32.ofInt 1 = nI 1 from by decide]; exact nI_add _ _) (by decide) rfl (fun ls hl => ?_)
                              refine lv_goto (tgt := 209) hx hb dX11_layPaths_272 rfl ?_
                              exact ih209_25 (j23 + 1) (by omega) (by omega) (upd g24 ((10 * j16) + j23) (r41 + r43)) _ _ (BHI.s hinv (by omega) (by omega) (onT_0 (by omega) (by have e6 := w42; have e5 := w44; rw [if_neg (fun h9 => h9.1.1 (by omega))] at e6 e5; have e7 := w39; show _ = (if alB (fun qb => fma (2 * qb)) (fun qb => fma (2 * qb + 1)) (nI j16) (nI 0) M = true then _ else _); rw [e6, e5, if_neg (fun e8 => by rw [if_pos (show alB (fun qb => fma (2 * qb)) (fun qb => fma (2 * qb + 1)) (nI j16) 0 M = true from e8)] at e7; exact absurd (e7.symm.trans (show _ = (0 : Int32) from by assumption)) (by decide))]; rfl))) hP hD hS ls (lv_sub hl [0, 1, 2] rfl)
                            · skip
                              refine lv_aload_n hx hb dX11_layPaths_238 rfl (lv_at hl 2 rfl) ?_
                              refine va_get (D := (dC, dI)) (ci := 11) (v := .ref bh) (C := RX11) (T := TX11) (N := 35) hx hb hg inG11 hown hK.1 hP 0 rfl rfl 29 (Nat.le_of_ble_eq_true rfl) (hg _ wt_907) (fun _ h9 => h9) rfl dX11_layPaths_239 ?_
                              refine lv_bipush (v := 10) hx hb dX11_layPaths_242 rfl ?_
                              refine lv_iload_n hx hb dX11_layPaths_244 rfl (lv_at hl 1 rfl) ?_
                              refine lv_imul hx hb dX11_layPaths_245 ?_
                              refine lv_cg (y := nI (10 * j16)) (by rw [show (10 : Int32) = nI 10 from rfl]; exact pk_mul _ _) ?_
                              refine lv_bipush (v := 10) hx hb dX11_layPaths_246 rfl ?_
                              refine lv_iadd hx hb dX11_layPaths_248 ?_
                              refine lv_cg (y := nI ((10 * j16) + 10)) (by rw [show (10 : Int32) = nI 10 from rfl]; exact nI_add _ _) ?_
                              refine va_iald hx hb hK.1 hP 4 0 rfl rfl (vp_in_nI (by first | omega | (have t_hj6 := hj6; have t_n8 := n8; have t_hj13 := hj13; have t_n15 := n15; have t_hj19 := hj19; have t_n22 := n22; have t_hj27 := hj27; have t_n30 := n30; have t_n37 := n37; have t_c40 := neI c40; have : (0 : Int32).toInt = 0 := qI_0; have tnb_ := nib9 tn2555_ tn2556_ tn2557_ tn2558_ tn2559_ tn2560_ tn2561_ tn2563_ tn2565_; omega)) (by decide)) dX11_layPaths_249 ?_
                              refine lv_cg (y := g24 ((10 * j16) + 10)) (by rw [nI_clamp (by omega)]) ?_
                              refine lv_goto (tgt := 268) hx hb dX11_layPaths_250 rfl ?_
                              refine va_iast hx hb hK.1 hP hD hS 4 0 rfl rfl (vp_in_nI (by first | omega | (have t_hj6 := hj6; have t_n8 := n8; have t_hj13 := hj13; have t_n15 := n15; have t_hj19 := hj19; have t_n22 := n22; have t_hj27 := hj27; have t_n30 := n30; have t_n37 := n37; have t_c40 := neI c40; have : (0 : Int32).toInt = 0 := qI_0; have tnb_ := nib9 tn2555_ tn2556_ tn2557_ tn2558_ tn2559_ tn2560_ tn2561_ tn2563_ tn2565_; omega)) (by decide)) dX11_layPaths_268 (fun H locs hP hD hS => ?_)
                              rw [nI_clamp (by omega)] at hP hD
                              refine lv_iinc (v := nI (j23 + 1)) (lv' := [(2, .int (nI (j23 + 1))), (1, .int (nI j16)), (0, .ref h0)]) hx hb dX11_layPaths_269 hl (k := 0) rfl (by rw [show Int32.ofInt 1 = nI 1 from by decide]; exact nI_add _ _) (by decide) rfl (fun ls hl => ?_)
                              refine lv_goto (tgt := 209) hx hb dX11_layPaths_272 rfl ?_
                              exact ih209_25 (j23 + 1) (by omega) (by omega) (upd g24 ((10 * j16) + j23) (g24 ((10 * j16) + 10))) _ _ (BHI.s hinv (by omega) (by omega) (onT_0 (by omega) (by have e7 := w39; show _ = (if alB (fun qb => fma (2 * qb)) (fun qb => fma (2 * qb + 1)) (nI j16) (nI 0) M = true then _ else _); rw [if_pos (show alB (fun qb => fma (2 * qb)) (fun qb => fma (2 * qb + 1)) (nI j16) (nI 0) M = true from (by by_cases e8 : alB (fun qb => fma (2 * qb)) (fun qb => fma (2 * qb + 1)) (nI j16) 0 M = true; exact e8; (rw [if_neg e8] at e7; exact absurd e7 (by first | with_reducible assumption | assumption))))]; rfl))) hP hD hS ls (lv_sub hl [0, 1, 2] rfl)
                    exact loop209_25 (10 + 1) 0 (by omega) (by omega) g17 _ _ ⟨hinv, fun q9 h9 => absurd h9 (Nat.not_lt_zero _)⟩ hP hD hS ls (lv_sub hl [0, 1, 2] rfl)
              exact loop203_18 N (Nat.le_refl _) g3 _ _ hB9 hP hD hS ls (lv_sub hl [0, 1] rfl)
            · skip
              have tn2566_ : nIT j9 := fun _ => nI_toInt (by first | omega | (have t := nleI c14; omega))
              have n45 : j9 < N := by have t := nleI c14; rw [show (nI (j9)).toInt = ((j9 : Nat) : Int) from tn2566_ ()] at t; rw [show (nI (N)).toInt = ((N : Nat) : Int) from tn2555_ ()] at t; omega
              refine lv_iconst (v := 0) hx hb dX11_layPaths_65 rfl ?_
              refine lv_istore_n (lv' := [(2, .int 0), (1, .int (nI j9)), (0, .ref h0)]) hx hb dX11_layPaths_66 rfl hl (by decide) rfl (fun ls hl => ?_)
              have loop67_48 : ∀ (nf j46 : Nat), 10 + 1 ≤ j46 + nf → j46 ≤ 10 → ∀ (g47 : Nat → Int32) (H : Heap) (locs : List Loc), AHI (fun jb => rhO fst jb 0) (fun ib qb => alB (fun qb => fma (2 * qb)) (fun qb => fma (2 * qb + 1)) (nI ib) (nI qb) M) (sdN fst) j9 j46 g47 → va_P (dC, dI) vwCl [(h0, .inr (11, [.ref st, .int (nI N), .int (nI B), .ref rp, .int vrs, .int vrb, .int vhs, .int vca, .int vxs, .int vxb, .ref tp, .int (nI T), .int vfa, .int vbr, .int vba, .int vsp, .int vhe, .int vtk, .int vva, .ref cu, .ref lt, .ref od, .ref th, .ref be, .ref ln, .int (nI S), .ref ma, .int (nI M), .ref ah, .ref bh, .ref ik, .ref la, .ref lg, .ref ce, .int vto])), (st, .inl (G 0, 196, .inl fst)), (ma, .inl (G 0, 12, .inl fma)), (ah, .inl (G 0, 110, .inl g47)), (bh, .inl (G 0, 110, .inl g3))] H → va_D A [(h0, .inr (11, [.ref st, .int (nI N), .int (nI B), .ref rp, .int vrs, .int vrb, .int vhs, .int vca, .int vxs, .int vxb, .ref tp, .int (nI T), .int vfa, .int vbr, .int vba, .int vsp, .int vhe, .int vtk, .int vva, .ref cu, .ref lt, .ref od, .ref th, .ref be, .ref ln, .int (nI S), .ref ma, .int (nI M), .ref ah, .ref bh, .ref ik, .ref la, .ref lg, .ref ce, .int vto])), (st, .inl (G 0, 196, .inl fst)), (ma, .inl (G 0, 12, .inl fma)), (ah, .inl (G 0, 110, .inl g47)), (bh, .inl (G 0, 110, .inl g3))] → va_S A s.heap H locs → ∀ (ls : Array Slot), lv_has ls 6 [(2, .int (nI j46)), (1, .int (nI j9)), (0, .ref h0)] → W p l e (headSpec (Cond.code yX11_layPaths cX11_layPaths 6 none :: GT) ({ frames := 5, cells := 0, slots := 0, locals := 121 } : Room)).room s m ([.ref h0] : List Value).toArray below meth c H locs 0 0 (MQ below (va_Qv (fun (u : (Nat → Int32) × (Nat → Int32)) => match u with | (oah, obh) => AHO (fun jb => rhO fst jb 0) (fun ib qb => alB (fun qb => fma (2 * qb)) (fun qb => fma (2 * qb + 1)) (nI ib) (nI qb) M) (sdN fst) N oah ∧ BHO (fun jb => rhO fst jb 0) (fun ib qb => alB (fun qb => fma (2 * qb)) (fun qb => fma (2 * qb + 1)) (nI ib) (nI qb) M) N 0 obh) (fun (u : (Nat → Int32) × (Nat → Int32)) (t : State) => match u with | (oah, obh) => va_P (dC, dI) vwCl [(h0, .inr (11, [.ref st, .int (nI N), .int (nI B), .ref rp, .int vrs, .int vrb, .int vhs, .int vca, .int vxs, .int vxb, .ref tp, .int (nI T), .int vfa, .int vbr, .int vba, .int vsp, .int vhe, .int vtk, .int vva, .ref cu, .ref lt, .ref od, .ref th, .ref be, .ref ln, .int (nI S), .ref ma, .int (nI M), .ref ah, .ref bh, .ref ik, .ref la, .ref lg, .ref ce, .int vto])), (st, .inl (G 0, 196, .inl fst)), (ma, .inl (G 0, 12, .inl fma)), (ah, .inl (G 0, 110, .inl oah)), (bh, .inl (G 0, 110, .inl obh))] t.heap ∧ va_D A [(h0, .inr (11, [.ref st, .int (nI N), .int (nI B), .ref rp, .int vrs, .int vrb, .int vhs, .int vca, .int vxs, .int vxb, .ref tp, .int (nI T), .int vfa, .int vbr, .int vba, .int vsp, .int vhe, .int vtk, .int vva, .ref cu, .ref lt, .ref od, .ref th, .ref be, .ref ln, .int (nI S), .ref ma, .int (nI M), .ref ah, .ref bh, .ref ik, .ref la, .ref lg, .ref ce, .int vto])), (st, .inl (G 0, 196, .inl fst)), (ma, .inl (G 0, 12, .inl fma)), (ah, .inl (G 0, 110, .inl oah)), (bh, .inl (G 0, 110, .inl obh))]) A) ([.ref h0] : List Value).toArray s 0 0 A) (F0 m 67 ls []) := by
                intro nf
                induction nf with
                | zero => intro j46 h1 h2; exact absurd h1 (by omega)
                | succ nf ih67_48 =>
                  intro j46 hn49 hj50 g47 H locs hinv hP hD hS ls hl
                  refine lv_iload_n hx hb dX11_layPaths_67 rfl (lv_at hl 0 rfl) ?_
                  refine lv_bipush (v := 10) hx hb dX11_layPaths_68 rfl ?_
                  refine lv_icmp_ge (tgt := 190) hx hb dX11_layPaths_70 rfl (fun c51 => ?_) (fun c51 => ?_)
                  · skip
                    have tn2567_ : nIT j46 := fun _ => nI_toInt (by first | omega | (have t := leI c51; omega))
                    have n52 : 10 ≤ j46 := by have t := leI c51; rw [show (nI (j46)).toInt = ((j46 : Nat) : Int) from tn2567_ ()] at t; have : (10 : Int32).toInt = 10 := qI_10; omega
                    refine lv_iinc (v := nI (j9 + 1)) (lv' := [(1, .int (nI (j9 + 1))), (2, .int (nI j46)), (0, .ref h0)]) hx hb dX11_layPaths_190 hl (k := 1) rfl (by rw [show Int32.ofInt 1 = nI 1 from by decide]; exact nI_add _ _) (by decide) rfl (fun ls hl => ?_)
                    refine lv_goto (tgt := 57) hx hb dX11_layPaths_193 rfl ?_
                    exact ih57_11 (j9 + 1) (by omega) (by omega) g47 _ _ (AHI.o (by rw [show (10 : Nat) = j46 by omega]; exact hinv)) hP hD hS ls (lv_sub hl [0, 2] rfl)
                  · skip
                    have tn2568_ : nIT j46 := fun _ => nI_toInt (by first | omega | (have t := nleI c51; omega))
                    have n53 : j46 < 10 := by have t := nleI c51; rw [show (nI (j46)).toInt = ((j46 : Nat) : Int) from tn2568_ ()] at t; have : (10 : Int32).toInt = 10 := qI_10; omega
                    refine lv_aload_n hx hb dX11_layPaths_73 rfl (lv_at hl 2 rfl) ?_
                    refine va_get (D := (dC, dI)) (ci := 11) (v := .ref ah) (C := RX11) (T := TX11) (N := 35) hx hb hg inG11 hown hK.1 hP 0 rfl rfl 28 (Nat.le_of_ble_eq_true rfl) (hg _ wt_906) (fun _ h9 => h9) rfl dX11_layPaths_74 ?_
                    refine lv_bipush (v := 10) hx hb dX11_layPaths_77 rfl ?_
                    refine lv_iload_n hx hb dX11_layPaths_79 rfl (lv_at hl 1 rfl) ?_
                    refine lv_imul hx hb dX11_layPaths_80 ?_
                    refine lv_cg (y := nI (10 * j9)) (by rw [show (10 : Int32) = nI 10 from rfl]; exact pk_mul _ _) ?_
                    refine lv_iload_n hx hb dX11_layPaths_81 rfl (lv_at hl 0 rfl) ?_
                    refine lv_iadd hx hb dX11_layPaths_82 ?_
                    refine lv_cg (y := nI ((10 * j9) + j46)) (by exact nI_add _ _) ?_
                    refine va_iald hx hb hK.1 hP 3 0 rfl rfl (vp_in_nI (by first | omega | (have t_hj6 := hj6; have t_n8 := n8; have t_hj13 := hj13; have t_n45 := n45; have t_hj50 := hj50; have t_n53 := n53; have tnb_ := nib8 tn2555_ tn2556_ tn2557_ tn2558_ tn2559_ tn2560_ tn2566_ tn2568_; omega)) (by decide)) dX11_layPaths_83 ?_
                    refine lv_cg (y := g47 ((10 * j9) + j46)) (by rw [nI_clamp (by omega)]) ?_
                    refine lv_istore_n (lv' := [(3, .int (g47 ((10 * j9) + j46))), (2, .int (nI j46)), (1, .int (nI j9)), (0, .ref h0)]) hx hb dX11_layPaths_84 rfl hl (by decide) rfl (fun ls hl => ?_)
                    refine lv_aload_n hx hb dX11_layPaths_85 rfl (lv_at hl 3 rfl) ?_
                    refine lv_iload_n hx hb dX11_layPaths_86 rfl (lv_at hl 2 rfl) ?_
                    refine lv_iload_n hx hb dX11_layPaths_87 rfl (lv_at hl 1 rfl) ?_
                    refine lv_iconst (v := 1) hx hb dX11_layPaths_88 rfl ?_
                    have hPc := hP.sub (ws' := [(h0, .inr (11, [.ref st, .int (nI N), .int (nI B), .ref rp, .int vrs, .int vrb, .int vhs, .int vca, .int vxs, .int vxb, .ref tp, .int (nI T), .int vfa, .int vbr, .int vba, .int vsp, .int vhe, .int vtk, .int vva, .ref cu, .ref lt, .ref od, .ref th, .ref be, .ref ln, .int (nI S), .ref ma, .int (nI M), .ref ah, .ref bh, .ref ik, .ref la, .ref lg, .ref ce, .int vto])), (st, .inl (G 0, 196, .inl fst)), (ma, .inl (G 0, 12, .inl fma))]) [0, 1, 2] rfl
                    refine va_calli (va_runV (As := [.int (nI j9), .int (nI j46), .int 1]) (rest := []) ⟨hx, hb, hml, hown, hg⟩ (c_X11_depthThen1 l dC dI G _ h0 j9 j46 st N B rp tp T cu lt od th be ln S ma M ah bh ik la lg ce vrs vrb vhs vca vxs vxb vfa vbr vba vsp vhe vtk vva vto fst fma hN hB_ hT_ hS0 hM_ hst (by first | omega | (have t_hj6 := hj6; have t_n8 := n8; have t_hj13 := hj13; have t_n45 := n45; have t_hj50 := hj50; have t_n53 := n53; have tnb_ := nib8 tn2555_ tn2556_ tn2557_ tn2558_ tn2559_ tn2560_ tn2566_ tn2568_; omega)) (by first | omega | (have t_hj6 := hj6; have t_n8 := n8; have t_hj13 := hj13; have t_n45 := n45; have t_hj50 := hj50; have t_n53 := n53; have tnb_ := nib8 tn2555_ tn2556_ tn2557_ tn2558_ tn2559_ tn2560_ tn2566_ tn2568_; omega))) (kwV hg mfX11_depthThen wt_1224 ⟨Nat.le_of_ble_eq_true rfl, Nat.le_of_ble_eq_true rfl⟩) (preVR hK hPc (ci := 11) (r := (RX11, TX11, 35)) rfl rfl) rfl rfl hl.1 rfl (lv_room (Nat.le_of_ble_eq_true rfl)) dX11_layPaths_89 ⟨Nat.le_of_ble_eq_true rfl, Nat.le_of_ble_eq_true rfl⟩) hS (fun q h1 h2 => absurd h2 (Nat.not_le.mpr h1)) (fun q h => hA q (Nat.le_trans hS.1 h)) (fun r54 ur54 t H1 locs ht hvm w55 hB hz1 hk1 hS => ?_)
                    have hP := keepR hP hk1
                    obtain ⟨w55, w55x⟩ := w55
                    rcases if_or w55 with ⟨w55c, w55e⟩ | ⟨w55c, w55e⟩
                    · skip
                      have w55b : 1 ≤ j46 ∧ (j46 - 1) ≤ 9 := (by have e9 := w55c.1.1; omega)
                      refine lv_cg (y := nI (j46 - 1)) w55e ?_
                      refine lv_istore (lv' := [(4, .int (nI (j46 - 1))), (3, .int (g47 ((10 * j9) + j46))), (2, .int (nI j46)), (1, .int (nI j9)), (0, .ref h0)]) hx hb dX11_layPaths_92 hl (by decide) rfl (fun ls hl => ?_)
                      refine lv_aload_n hx hb dX11_layPaths_94 rfl (lv_at hl 4 rfl) ?_
                      refine lv_iload_n hx hb dX11_layPaths_95 rfl (lv_at hl 3 rfl) ?_
                      refine lv_iload_n hx hb dX11_layPaths_96 rfl (lv_at hl 2 rfl) ?_
                      refine lv_iconst (v := 0) hx hb dX11_layPaths_97 rfl ?_
                      have hPc := hP.sub (ws' := [(h0, .inr (11, [.ref st, .int (nI N), .int (nI B), .ref rp, .int vrs, .int vrb, .int vhs, .int vca, .int vxs, .int vxb, .ref tp, .int (nI T), .int vfa, .int vbr, .int vba, .int vsp, .int vhe, .int vtk, .int vva, .ref cu, .ref lt, .ref od, .ref th, .ref be, .ref ln, .int (nI S), .ref ma, .int (nI M), .ref ah, .ref bh, .ref ik, .ref la, .ref lg, .ref ce, .int vto])), (st, .inl (G 0, 196, .inl fst)), (ma, .inl (G 0, 12, .inl fma))]) [0, 1, 2] rfl
                      refine va_calli (va_runV (As := [.int (nI j9), .int (nI j46), .int 0]) (rest := []) ⟨hx, hb, hml, hown, hg⟩ (c_X11_depthThen0 l dC dI G _ h0 j9 j46 st N B rp tp T cu lt od th be ln S ma M ah bh ik la lg ce vrs vrb vhs vca vxs vxb vfa vbr vba vsp vhe vtk vva vto fst fma hN hB_ hT_ hS0 hM_ hst (by first | omega | (have t_hj6 := hj6; have t_n8 := n8; have t_hj13 := hj13; have t_n45 := n45; have t_hj50 := hj50; have t_n53 := n53; have t_w55b := w55b; have tnb_ := nib8 tn2555_ tn2556_ tn2557_ tn2558_ tn2559_ tn2560_ tn2566_ tn2568_; have t_n8 : (nI (j46 - 1)).toInt = (((j46 - 1) : Nat) : Int) := nI_toInt (by omega); omega)) (by first | omega | (have t_hj6 := hj6; have t_n8 := n8; have t_hj13 := hj13; have t_n45 := n45; have t_hj50 := hj50; have t_n53 := n53; have t_w55b := w55b; have tnb_ := nib8 tn2555_ tn2556_ tn2557_ tn2558_ tn2559_ tn2560_ tn2566_ tn2568_; have t_n8 : (nI (j46 - 1)).toInt = (((j46 - 1) : Nat) : Int) := nI_toInt (by omega); omega))) (kwV hg mfX11_depthThen wt_1224 ⟨Nat.le_of_ble_eq_true rfl, Nat.le_of_ble_eq_true rfl⟩) (preVR hK hPc (ci := 11) (r := (RX11, TX11, 35)) rfl rfl) rfl rfl hl.1 rfl (lv_room (Nat.le_of_ble_eq_true rfl)) dX11_layPaths_98 ⟨Nat.le_of_ble_eq_true rfl, Nat.le_of_ble_eq_true rfl⟩) hS (fun q h1 h2 => absurd h2 (Nat.not_le.mpr h1)) (fun q h => hA q (Nat.le_trans hS.1 h)) (fun r56 ur56 t H1 locs ht hvm w57 hB hz1 hk1 hS => ?_)
                      have hP := keepR hP hk1
                      obtain ⟨w57, w57x⟩ := w57
                      rcases if_or w57 with ⟨w57c, w57e⟩ | ⟨w57c, w57e⟩
                      · skip
                        have w57b : 1 ≤ j46 ∧ (min 9 (j46 + 1)) ≤ 9 := (by have e9 := w57c.1.1; omega)
                        refine lv_cg (y := nI (min 9 (j46 + 1))) w57e ?_
                        refine lv_istore (lv' := [(5, .int (nI (min 9 (j46 + 1)))), (4, .int (nI (j46 - 1))), (3, .int (g47 ((10 * j9) + j46))), (2, .int (nI j46)), (1, .int (nI j9)), (0, .ref h0)]) hx hb dX11_layPaths_101 hl (by decide) rfl (fun ls hl => ?_)
                        refine lv_iload_n hx hb dX11_layPaths_103 rfl (lv_at hl 3 rfl) ?_
                        refine lv_if_ne (tgt := 132) hx hb dX11_layPaths_104 rfl (fun c58 => ?_) (fun c58 => ?_)
                        · skip
                          have n59 : j46 ≠ 0 := by have t := neI c58; rw [show (nI (j46)).toInt = ((j46 : Nat) : Int) from tn2568_ ()] at t; have : (0 : Int32).toInt = 0 := qI_0; omega
                          refine lv_iload hx hb dX11_layPaths_132 (lv_at hl 1 rfl) ?_
                          refine lv_bipush (v := (-4)) hx hb dX11_layPaths_134 rfl ?_
                          refine lv_icmp_eq (tgt := 158) hx hb dX11_layPaths_136 rfl (fun c60 => ?_) (fun c60 => ?_)
                          · skip
                            have t_hj6 := hj6
                            have t_n8 := n8
                            have t_hj13 := hj13
                            have t_n45 := n45
                            have t_hj50 := hj50
                            have t_n53 := n53
                            have t_w55b := w55b
                            have t_w57b := w57b
                            have t_n59 := n59
                            have t_c60 := eqI c60
                            have : ((-4) : Int32).toInt = -4 := qI_m4
                            have t_n0 : (nI N).toInt = (N : Int) := tn2555_ ()
                            have t_n1 : (nI B).toInt = (B : Int) := tn2556_ ()
                            have t_n2 : (nI T).toInt = (T : Int) := tn2557_ ()
                            have t_n3 : (nI S).toInt = (S : Int) := tn2558_ ()
                            have t_n4 : (nI M).toInt = (M : Int) := tn2559_ ()
                            have t_n5 : (nI j1).toInt = (j1 : Int) := tn2560_ ()
                            have t_n6 : (nI j9).toInt = (j9 : Int) := tn2566_ ()
                            have t_n7 : (nI j46).toInt = (j46 : Int) := tn2568_ ()
                            have t_n8 : (nI (j46 - 1)).toInt = (((j46 - 1) : Nat) : Int) := nI_toInt (by omega)
                            have t_n9 : (nI (min 9 (j46 + 1))).toInt = (((min 9 (j46 + 1)) : Nat) : Int) := nI_toInt (by omega)
                            exfalso; omega
                          · skip
                            refine lv_aload_n hx hb dX11_layPaths_139 rfl (lv_at hl 5 rfl) ?_
                            refine va_get (D := (dC, dI)) (ci := 11) (v := .ref ah) (C := RX11) (T := TX11) (N := 35) hx hb hg inG11 hown hK.1 hP 0 rfl rfl 28 (Nat.le_of_ble_eq_true rfl) (hg _ wt_906) (fun _ h9 => h9) rfl dX11_layPaths_140 ?_
                            refine lv_bipush (v := 10) hx hb dX11_layPaths_143 rfl ?_
                            refine lv_iload_n hx hb dX11_layPaths_145 rfl (lv_at hl 4 rfl) ?_
                            refine lv_imul hx hb dX11_layPaths_146 ?_
                            refine lv_cg (y := nI (10 * j9)) (by rw [show (10 : Int32) = nI 10 from rfl]; exact pk_mul _ _) ?_
                            refine lv_bipush (v := 10) hx hb dX11_layPaths_147 rfl ?_
                            refine lv_iadd hx hb dX11_layPaths_149 ?_
                            refine lv_cg (y := nI ((10 * j9) + 10)) (by rw [show (10 : Int32) = nI 10 from rfl]; exact nI_add _ _) ?_
                            refine lv_iload hx hb dX11_layPaths_150 (lv_at hl 1 rfl) ?_
                            refine lv_iadd hx hb dX11_layPaths_152 ?_
                            refine lv_cg (y := nI (((10 * j9) + 10) + (j46 - 1))) (by exact nI_add _ _) ?_
                            refine lv_dup2_11 hx hb dX11_layPaths_153 rfl rfl ?_
                            refine va_iald hx hb hK.1 hP 3 0 rfl rfl (vp_in_nI (by first | omega | (have t_hj6 := hj6; have t_n8 := n8; have t_hj13 := hj13; have t_n45 := n45; have t_hj50 := hj50; have t_n53 := n53; have t_w55b := w55b; have t_w57b := w57b; have t_n59 := n59; have t_c60 := neI c60; have : ((-4) : Int32).toInt = -4 := qI_m4; have tnb_ := nib8 tn2555_ tn2556_ tn2557_ tn2558_ tn2559_ tn2560_ tn2566_ tn2568_; have t_n8 : (nI (j46 - 1)).toInt = (((j46 - 1) : Nat) : Int) := nI_toInt (by omega); have t_n9 : (nI (min 9 (j46 + 1))).toInt = (((min 9 (j46 + 1)) : Nat) : Int) := nI_toInt (by omega); omega)) (by decide)) dX11_layPaths_154 ?_
                            refine lv_cg (y := g47 (((10 * j9) + 10) + (j46 - 1))) (by rw [nI_clamp (by omega)]) ?_
                            refine lv_iload_n hx hb dX11_layPaths_155 rfl (lv_at hl 2 rfl) ?_
                            refine lv_iadd hx hb dX11_layPaths_156 ?_
                            refine va_iast hx hb hK.1 hP hD hS 3 0 rfl rfl (vp_in_nI (by first | omega | (have t_hj6 := hj6; have t_n8 := n8; have t_hj13 := hj13; have t_n45 := n45; have t_hj50 := hj50; have t_n53 := n53; have t_w55b := w55b; have t_w57b := w57b; have t_n59 := n59; have t_c60 := neI c60; have : ((-4) : Int32).toInt = -4 := qI_m4; have tnb_ := nib8 tn2555_ tn2556_ tn2557_ tn2558_ tn2559_ tn2560_ tn2566_ tn2568_; have t_n8 : (nI (j46 - 1)).toInt = (((j46 - 1) : Nat) : Int) := nI_toInt (by omega); have t_n9 : (nI (min 9 (j46 + 1))).toInt = (((min 9 (j46 + 1)) : Nat) : Int) := nI_toInt (by omega); omega)) (by decide)) dX11_layPaths_157 (fun H locs hP hD hS => ?_)
                            rw [nI_clamp (by omega)] at hP hD
                            refine lv_iload hx hb dX11_layPaths_158 (lv_at hl 0 rfl) ?_
                            refine lv_bipush (v := (-4)) hx hb dX11_layPaths_160 rfl ?_
                            refine lv_icmp_eq (tgt := 184) hx hb dX11_layPaths_162 rfl (fun c61 => ?_) (fun c61 => ?_)
                            · skip
                              have t_hj6 := hj6
                              have t_n8 := n8
                              have t_hj13 := hj13
                              have t_n45 := n45
                              have t_hj50 := hj50
                              have t_n53 := n53
                              have t_w55b := w55b
                              have t_w57b := w57b
                              have t_n59 := n59
                              have t_c60 := neI c60
                              have t_c61 := eqI c61
                              have : ((-4) : Int32).toInt = -4 := qI_m4
                              have t_n0 : (nI N).toInt = (N : Int) := tn2555_ ()
                              have t_n1 : (nI B).toInt = (B : Int) := tn2556_ ()
                              have t_n2 : (nI T).toInt = (T : Int) := tn2557_ ()
                              have t_n3 : (nI S).toInt = (S : Int) := tn2558_ ()
                              have t_n4 : (nI M).toInt = (M : Int) := tn2559_ ()
                              have t_n5 : (nI j1).toInt = (j1 : Int) := tn2560_ ()
                              have t_n6 : (nI j9).toInt = (j9 : Int) := tn2566_ ()
                              have t_n7 : (nI j46).toInt = (j46 : Int) := tn2568_ ()
                              have t_n8 : (nI (j46 - 1)).toInt = (((j46 - 1) : Nat) : Int) := nI_toInt (by omega)
                              have t_n9 : (nI (min 9 (j46 + 1))).toInt = (((min 9 (j46 + 1)) : Nat) : Int) := nI_toInt (by omega)
                              exfalso; omega
                            · skip
                              refine lv_aload_n hx hb dX11_layPaths_165 rfl (lv_at hl 5 rfl) ?_
                              refine va_get (D := (dC, dI)) (ci := 11) (v := .ref ah) (C := RX11) (T := TX11) (N := 35) hx hb hg inG11 hown hK.1 hP 0 rfl rfl 28 (Nat.le_of_ble_eq_true rfl) (hg _ wt_906) (fun _ h9 => h9) rfl dX11_layPaths_166 ?_
                              refine lv_bipush (v := 10) hx hb dX11_layPaths_169 rfl ?_
                              refine lv_iload_n hx hb dX11_layPaths_171 rfl (lv_at hl 4 rfl) ?_
                              refine lv_imul hx hb dX11_layPaths_172 ?_
                              refine lv_cg (y := nI (10 * j9)) (by rw [show (10 : Int32) = nI 10 from rfl]; exact pk_mul _ _) ?_
                              refine lv_bipush (v := 10) hx hb dX11_layPaths_173 rfl ?_
                              refine lv_iadd hx hb dX11_layPaths_175 ?_
                              refine lv_cg (y := nI ((10 * j9) + 10)) (by rw [show (10 : Int32) = nI 10 from rfl]; exact nI_add _ _) ?_
                              refine lv_iload hx hb dX11_layPaths_176 (lv_at hl 0 rfl) ?_
                              refine lv_iadd hx hb dX11_layPaths_178 ?_
                              refine lv_cg (y := nI (((10 * j9) + 10) + (min 9 (j46 + 1)))) (by exact nI_add _ _) ?_
                              refine lv_dup2_11 hx hb dX11_layPaths_179 rfl rfl ?_
                              refine va_iald hx hb hK.1 hP 3 0 rfl rfl (vp_in_nI (by first | omega | (have t_hj6 := hj6; have t_n8 := n8; have t_hj13 := hj13; have t_n45 := n45; have t_hj50 := hj50; have t_n53 := n53; have t_w55b := w55b; have t_w57b := w57b; have t_n59 := n59; have t_c60 := neI c60; have t_c61 := neI c61; have : ((-4) : Int32).toInt = -4 := qI_m4; have tnb_ := nib8 tn2555_ tn2556_ tn2557_ tn2558_ tn2559_ tn2560_ tn2566_ tn2568_; have t_n8 : (nI (j46 - 1)).toInt = (((j46 - 1) : Nat) : Int) := nI_toInt (by omega); have t_n9 : (nI (min 9 (j46 + 1))).toInt = (((min 9 (j46 + 1)) : Nat) : Int) := nI_toInt (by omega); omega)) (by decide)) dX11_layPaths_180 ?_
                              refine lv_cg (y := (upd g47 (((10 * j9) + 10) + (j46 - 1)) ((g47 (((10 * j9) + 10) + (j46 - 1))) + (g47 ((10 * j9) + j46)))) (((10 * j9) + 10) + (min 9 (j46 + 1)))) (by rw [nI_clamp (by omega)]) ?_
                              refine lv_iload_n hx hb dX11_layPaths_181 rfl (lv_at hl 2 rfl) ?_
                              refine lv_iadd hx hb dX11_layPaths_182 ?_
                              refine va_iast hx hb hK.1 hP hD hS 3 0 rfl rfl (vp_in_nI (by first | omega | (have t_hj6 := hj6; have t_n8 := n8; have t_hj13 := hj13; have t_n45 := n45; have t_hj50 := hj50; have t_n53 := n53; have t_w55b := w55b; have t_w57b := w57b; have t_n59 := n59; have t_c60 := neI c60; have t_c61 := neI c61; have : ((-4) : Int32).toInt = -4 := qI_m4; have tnb_ := nib8 tn2555_ tn2556_ tn2557_ tn2558_ tn2559_ tn2560_ tn2566_ tn2568_; have t_n8 : (nI (j46 - 1)).toInt = (((j46 - 1) : Nat) : Int) := nI_toInt (by omega); have t_n9 : (nI (min 9 (j46 + 1))).toInt = (((min 9 (j46 + 1)) : Nat) : Int) := nI_toInt (by omega); omega)) (by decide)) dX11_layPaths_183 (fun H locs hP hD hS => ?_)
                              rw [nI_clamp (by omega)] at hP hD
                              refine lv_iinc (v := nI (j46 + 1)) (lv' := [(2, .int (nI (j46 + 1))), (5, .int (nI (min 9 (j46 + 1)))), (4, .int (nI (j46 - 1))), (3, .int (g47 ((10 * j9) + j46))), (1, .int (nI j9)), (0, .ref h0)]) hx hb dX11_layPaths_184 hl (k := 3) rfl (by rw [show Int32.ofInt 1 = nI 1 from by decide]; exact nI_add _ _) (by decide) rfl (fun ls hl => ?_)
                              refine lv_goto (tgt := 67) hx hb dX11_layPaths_187 rfl ?_
                              exact ih67_48 (j46 + 1) (by omega) (by omega) (upd (upd g47 (((10 * j9) + 10) + (j46 - 1)) ((g47 (((10 * j9) + 10) + (j46 - 1))) + (g47 ((10 * j9) + j46)))) (((10 * j9) + 10) + (min 9 (j46 + 1))) (((upd g47 (((10 * j9) + 10) + (j46 - 1)) ((g47 (((10 * j9) + 10) + (j46 - 1))) + (g47 ((10 * j9) + j46)))) (((10 * j9) + 10) + (min 9 (j46 + 1)))) + (g47 ((10 * j9) + j46)))) _ _ (ah_d (c1 := ((¬ j46 = 0 ∧ ¬ rhO fst j9 0 = 0) ∧ alB (fun qb => fma (2 * qb)) (fun qb => fma (2 * qb + 1)) (nI j9) (nI (j46 - 1)) M = true)) (c2 := ((¬ j46 = 0 ∧ ¬ rhO fst j9 0 = 20) ∧ alB (fun qb => fma (2 * qb)) (fun qb => fma (2 * qb + 1)) (nI j9) (nI (min 9 (j46 + 1))) M = true)) hinv (by omega) (by omega) (by omega) (c1_iff (rhOb hst (j := j9) (by omega)).1 (by omega)) (c2_iff (rhOb hst (j := j9) (by omega)).2 (by omega)) (fun k8 hk8 => by first | rfl | exact if_neg (by omega) | exact (if_neg (by omega)).trans (if_neg (by omega))) (by unfold rwF; rw [if_pos w57c, if_pos w55c, fl_up, fl_up]; first | done | rfl | exact fl_up2)) hP hD hS ls (lv_sub hl [0, 4, 5] rfl)
                        · skip
                          have t_hj6 := hj6
                          have t_n8 := n8
                          have t_hj13 := hj13
                          have t_n45 := n45
                          have t_hj50 := hj50
                          have t_n53 := n53
                          have t_w55b := w55b
                          have t_w57b := w57b
                          have t_c58 := eqI c58
                          have : (0 : Int32).toInt = 0 := qI_0
                          have t_n0 : (nI N).toInt = (N : Int) := tn2555_ ()
                          have t_n1 : (nI B).toInt = (B : Int) := tn2556_ ()
                          have t_n2 : (nI T).toInt = (T : Int) := tn2557_ ()
                          have t_n3 : (nI S).toInt = (S : Int) := tn2558_ ()
                          have t_n4 : (nI M).toInt = (M : Int) := tn2559_ ()
                          have t_n5 : (nI j1).toInt = (j1 : Int) := tn2560_ ()
                          have t_n6 : (nI j9).toInt = (j9 : Int) := tn2566_ ()
                          have t_n7 : (nI j46).toInt = (j46 : Int) := tn2568_ ()
                          have t_n8 : (nI (j46 - 1)).toInt = (((j46 - 1) : Nat) : Int) := nI_toInt (by omega)
                          have t_n9 : (nI (min 9 (j46 + 1))).toInt = (((min 9 (j46 + 1)) : Nat) : Int) := nI_toInt (by omega)
                          exfalso; omega
                      · skip
                        refine lv_cg (y := (-4)) w57e ?_
                        refine lv_istore (lv' := [(5, .int (-4)), (4, .int (nI (j46 - 1))), (3, .int (g47 ((10 * j9) + j46))), (2, .int (nI j46)), (1, .int (nI j9)), (0, .ref h0)]) hx hb dX11_layPaths_101 hl (by decide) rfl (fun ls hl => ?_)
                        refine lv_iload_n hx hb dX11_layPaths_103 rfl (lv_at hl 3 rfl) ?_
                        refine lv_if_ne (tgt := 132) hx hb dX11_layPaths_104 rfl (fun c62 => ?_) (fun c62 => ?_)
                        · skip
                          have n63 : j46 ≠ 0 := by have t := neI c62; rw [show (nI (j46)).toInt = ((j46 : Nat) : Int) from tn2568_ ()] at t; have : (0 : Int32).toInt = 0 := qI_0; omega
                          refine lv_iload hx hb dX11_layPaths_132 (lv_at hl 1 rfl) ?_
                          refine lv_bipush (v := (-4)) hx hb dX11_layPaths_134 rfl ?_
                          refine lv_icmp_eq (tgt := 158) hx hb dX11_layPaths_136 rfl (fun c64 => ?_) (fun c64 => ?_)
                          · skip
                            have t_hj6 := hj6
                            have t_n8 := n8
                            have t_hj13 := hj13
                            have t_n45 := n45
                            have t_hj50 := hj50
                            have t_n53 := n53
                            have t_w55b := w55b
                            have t_n63 := n63
                            have t_c64 := eqI c64
                            have : ((-4) : Int32).toInt = -4 := qI_m4
                            have t_n0 : (nI N).toInt = (N : Int) := tn2555_ ()
                            have t_n1 : (nI B).toInt = (B : Int) := tn2556_ ()
                            have t_n2 : (nI T).toInt = (T : Int) := tn2557_ ()
                            have t_n3 : (nI S).toInt = (S : Int) := tn2558_ ()
                            have t_n4 : (nI M).toInt = (M : Int) := tn2559_ ()
                            have t_n5 : (nI j1).toInt = (j1 : Int) := tn2560_ ()
                            have t_n6 : (nI j9).toInt = (j9 : Int) := tn2566_ ()
                            have t_n7 : (nI j46).toInt = (j46 : Int) := tn2568_ ()
                            have t_n8 : (nI (j46 - 1)).toInt = (((j46 - 1) : Nat) : Int) := nI_toInt (by omega)
                            exfalso; omega
                          · skip
                            refine lv_aload_n hx hb dX11_layPaths_139 rfl (lv_at hl 5 rfl) ?_
                            refine va_get (D := (dC, dI)) (ci := 11) (v := .ref ah) (C := RX11) (T := TX11) (N := 35) hx hb hg inG11 hown hK.1 hP 0 rfl rfl 28 (Nat.le_of_ble_eq_true rfl) (hg _ wt_906) (fun _ h9 => h9) rfl dX11_layPaths_140 ?_
                            refine lv_bipush (v := 10) hx hb dX11_layPaths_143 rfl ?_
                            refine lv_iload_n hx hb dX11_layPaths_145 rfl (lv_at hl 4 rfl) ?_
                            refine lv_imul hx hb dX11_layPaths_146 ?_
                            refine lv_cg (y := nI (10 * j9)) (by rw [show (10 : Int32) = nI 10 from rfl]; exact pk_mul _ _) ?_
                            refine lv_bipush (v := 10) hx hb dX11_layPaths_147 rfl ?_
                            refine lv_iadd hx hb dX11_layPaths_149 ?_
                            refine lv_cg (y := nI ((10 * j9) + 10)) (by rw [show (10 : Int32) = nI 10 from rfl]; exact nI_add _ _) ?_
                            refine lv_iload hx hb dX11_layPaths_150 (lv_at hl 1 rfl) ?_
                            refine lv_iadd hx hb dX11_layPaths_152 ?_
                            refine lv_cg (y := nI (((10 * j9) + 10) + (j46 - 1))) (by exact nI_add _ _) ?_
                            refine lv_dup2_11 hx hb dX11_layPaths_153 rfl rfl ?_
                            refine va_iald hx hb hK.1 hP 3 0 rfl rfl (vp_in_nI (by first | omega | (have t_hj6 := hj6; have t_n8 := n8; have t_hj13 := hj13; have t_n45 := n45; have t_hj50 := hj50; have t_n53 := n53; have t_w55b := w55b; have t_n63 := n63; have t_c64 := neI c64; have : ((-4) : Int32).toInt = -4 := qI_m4; have tnb_ := nib8 tn2555_ tn2556_ tn2557_ tn2558_ tn2559_ tn2560_ tn2566_ tn2568_; have t_n8 : (nI (j46 - 1)).toInt = (((j46 - 1) : Nat) : Int) := nI_toInt (by omega); omega)) (by decide)) dX11_layPaths_154 ?_
                            refine lv_cg (y := g47 (((10 * j9) + 10) + (j46 - 1))) (by rw [nI_clamp (by omega)]) ?_
                            refine lv_iload_n hx hb dX11_layPaths_155 rfl (lv_at hl 2 rfl) ?_
                            refine lv_iadd hx hb dX11_layPaths_156 ?_
                            refine va_iast hx hb hK.1 hP hD hS 3 0 rfl rfl (vp_in_nI (by first | omega | (have t_hj6 := hj6; have t_n8 := n8; have t_hj13 := hj13; have t_n45 := n45; have t_hj50 := hj50; have t_n53 := n53; have t_w55b := w55b; have t_n63 := n63; have t_c64 := neI c64; have : ((-4) : Int32).toInt = -4 := qI_m4; have tnb_ := nib8 tn2555_ tn2556_ tn2557_ tn2558_ tn2559_ tn2560_ tn2566_ tn2568_; have t_n8 : (nI (j46 - 1)).toInt = (((j46 - 1) : Nat) : Int) := nI_toInt (by omega); omega)) (by decide)) dX11_layPaths_157 (fun H locs hP hD hS => ?_)
                            rw [nI_clamp (by omega)] at hP hD
                            refine lv_iload hx hb dX11_layPaths_158 (lv_at hl 0 rfl) ?_
                            refine lv_bipush (v := (-4)) hx hb dX11_layPaths_160 rfl ?_
                            refine lv_icmp_eq (tgt := 184) hx hb dX11_layPaths_162 rfl (fun c65 => ?_) (fun c65 => ?_)
                            · skip
                              refine lv_iinc (v := nI (j46 + 1)) (lv' := [(2, .int (nI (j46 + 1))), (5, .int (-4)), (4, .int (nI (j46 - 1))), (3, .int (g47 ((10 * j9) + j46))), (1, .int (nI j9)), (0, .ref h0)]) hx hb dX11_layPaths_184 hl (k := 3) rfl (by rw [show Int32.ofInt 1 = nI 1 from by decide]; exact nI_add _ _) (by decide) rfl (fun ls hl => ?_)
                              refine lv_goto (tgt := 67) hx hb dX11_layPaths_187 rfl ?_
                              exact ih67_48 (j46 + 1) (by omega) (by omega) (upd g47 (((10 * j9) + 10) + (j46 - 1)) ((g47 (((10 * j9) + 10) + (j46 - 1))) + (g47 ((10 * j9) + j46)))) _ _ (ah_d (c1 := ((¬ j46 = 0 ∧ ¬ rhO fst j9 0 = 0) ∧ alB (fun qb => fma (2 * qb)) (fun qb => fma (2 * qb + 1)) (nI j9) (nI (j46 - 1)) M = true)) (c2 := ((¬ j46 = 0 ∧ ¬ rhO fst j9 0 = 20) ∧ alB (fun qb => fma (2 * qb)) (fun qb => fma (2 * qb + 1)) (nI j9) (nI (min 9 (j46 + 1))) M = true)) hinv (by omega) (by omega) (by omega) (c1_iff (rhOb hst (j := j9) (by omega)).1 (by omega)) (c2_iff (rhOb hst (j := j9) (by omega)).2 (by omega)) (fun k8 hk8 => by first | rfl | exact if_neg (by omega) | exact (if_neg (by omega)).trans (if_neg (by omega))) (by unfold rwF; rw [if_neg w57c, if_pos w55c, fl_up]; first | done | rfl | exact fl_up2)) hP hD hS ls (lv_sub hl [0, 4, 5] rfl)
                            · skip
                              exact absurd c65 (by decide)
                        · skip
                          have t_hj6 := hj6
                          have t_n8 := n8
                          have t_hj13 := hj13
                          have t_n45 := n45
                          have t_hj50 := hj50
                          have t_n53 := n53
                          have t_w55b := w55b
                          have t_c62 := eqI c62
                          have : (0 : Int32).toInt = 0 := qI_0
                          have t_n0 : (nI N).toInt = (N : Int) := tn2555_ ()
                          have t_n1 : (nI B).toInt = (B : Int) := tn2556_ ()
                          have t_n2 : (nI T).toInt = (T : Int) := tn2557_ ()
                          have t_n3 : (nI S).toInt = (S : Int) := tn2558_ ()
                          have t_n4 : (nI M).toInt = (M : Int) := tn2559_ ()
                          have t_n5 : (nI j1).toInt = (j1 : Int) := tn2560_ ()
                          have t_n6 : (nI j9).toInt = (j9 : Int) := tn2566_ ()
                          have t_n7 : (nI j46).toInt = (j46 : Int) := tn2568_ ()
                          have t_n8 : (nI (j46 - 1)).toInt = (((j46 - 1) : Nat) : Int) := nI_toInt (by omega)
                          exfalso; omega
                    · skip
                      refine lv_cg (y := (-4)) w55e ?_
                      refine lv_istore (lv' := [(4, .int (-4)), (3, .int (g47 ((10 * j9) + j46))), (2, .int (nI j46)), (1, .int (nI j9)), (0, .ref h0)]) hx hb dX11_layPaths_92 hl (by decide) rfl (fun ls hl => ?_)
                      refine lv_aload_n hx hb dX11_layPaths_94 rfl (lv_at hl 4 rfl) ?_
                      refine lv_iload_n hx hb dX11_layPaths_95 rfl (lv_at hl 3 rfl) ?_
                      refine lv_iload_n hx hb dX11_layPaths_96 rfl (lv_at hl 2 rfl) ?_
                      refine lv_iconst (v := 0) hx hb dX11_layPaths_97 rfl ?_
                      have hPc := hP.sub (ws' := [(h0, .inr (11, [.ref st, .int (nI N), .int (nI B), .ref rp, .int vrs, .int vrb, .int vhs, .int vca, .int vxs, .int vxb, .ref tp, .int (nI T), .int vfa, .int vbr, .int vba, .int vsp, .int vhe, .int vtk, .int vva, .ref cu, .ref lt, .ref od, .ref th, .ref be, .ref ln, .int (nI S), .ref ma, .int (nI M), .ref ah, .ref bh, .ref ik, .ref la, .ref lg, .ref ce, .int vto])), (st, .inl (G 0, 196, .inl fst)), (ma, .inl (G 0, 12, .inl fma))]) [0, 1, 2] rfl
                      refine va_calli (va_runV (As := [.int (nI j9), .int (nI j46), .int 0]) (rest := []) ⟨hx, hb, hml, hown, hg⟩ (c_X11_depthThen0 l dC dI G _ h0 j9 j46 st N B rp tp T cu lt od th be ln S ma M ah bh ik la lg ce vrs vrb vhs vca vxs vxb vfa vbr vba vsp vhe vtk vva vto fst fma hN hB_ hT_ hS0 hM_ hst (by first | omega | (have t_hj6 := hj6; have t_n8 := n8; have t_hj13 := hj13; have t_n45 := n45; have t_hj50 := hj50; have t_n53 := n53; have tnb_ := nib8 tn2555_ tn2556_ tn2557_ tn2558_ tn2559_ tn2560_ tn2566_ tn2568_; omega)) (by first | omega | (have t_hj6 := hj6; have t_n8 := n8; have t_hj13 := hj13; have t_n45 := n45; have t_hj50 := hj50; have t_n53 := n53; have tnb_ := nib8 tn2555_ tn2556_ tn2557_ tn2558_ tn2559_ tn2560_ tn2566_ tn2568_; omega))) (kwV hg mfX11_depthThen wt_1224 ⟨Nat.le_of_ble_eq_true rfl, Nat.le_of_ble_eq_true rfl⟩) (preVR hK hPc (ci := 11) (r := (RX11, TX11, 35)) rfl rfl) rfl rfl hl.1 rfl (lv_room (Nat.le_of_ble_eq_true rfl)) dX11_layPaths_98 ⟨Nat.le_of_ble_eq_true rfl, Nat.le_of_ble_eq_true rfl⟩) hS (fun q h1 h2 => absurd h2 (Nat.not_le.mpr h1)) (fun q h => hA q (Nat.le_trans hS.1 h)) (fun r66 ur66 t H1 locs ht hvm w67 hB hz1 hk1 hS => ?_)
                      have hP := keepR hP hk1
                      obtain ⟨w67, w67x⟩ := w67
                      rcases if_or w67 with ⟨w67c, w67e⟩ | ⟨w67c, w67e⟩
                      · skip
                        have w67b : 1 ≤ j46 ∧ (min 9 (j46 + 1)) ≤ 9 := (by have e9 := w67c.1.1; omega)
                        refine lv_cg (y := nI (min 9 (j46 + 1))) w67e ?_
                        refine lv_istore (lv' := [(5, .int (nI (min 9 (j46 + 1)))), (4, .int (-4)), (3, .int (g47 ((10 * j9) + j46))), (2, .int (nI j46)), (1, .int (nI j9)), (0, .ref h0)]) hx hb dX11_layPaths_101 hl (by decide) rfl (fun ls hl => ?_)
                        refine lv_iload_n hx hb dX11_layPaths_103 rfl (lv_at hl 3 rfl) ?_
                        refine lv_if_ne (tgt := 132) hx hb dX11_layPaths_104 rfl (fun c68 => ?_) (fun c68 => ?_)
                        · skip
                          have n69 : j46 ≠ 0 := by have t := neI c68; rw [show (nI (j46)).toInt = ((j46 : Nat) : Int) from tn2568_ ()] at t; have : (0 : Int32).toInt = 0 := qI_0; omega
                          refine lv_iload hx hb dX11_layPaths_132 (lv_at hl 1 rfl) ?_
                          refine lv_bipush (v := (-4)) hx hb dX11_layPaths_134 rfl ?_
                          refine lv_icmp_eq (tgt := 158) hx hb dX11_layPaths_136 rfl (fun c70 => ?_) (fun c70 => ?_)
                          · skip
                            refine lv_iload hx hb dX11_layPaths_158 (lv_at hl 0 rfl) ?_
                            refine lv_bipush (v := (-4)) hx hb dX11_layPaths_160 rfl ?_
                            refine lv_icmp_eq (tgt := 184) hx hb dX11_layPaths_162 rfl (fun c71 => ?_) (fun c71 => ?_)
                            · skip
                              have t_hj6 := hj6
                              have t_n8 := n8
                              have t_hj13 := hj13
                              have t_n45 := n45
                              have t_hj50 := hj50
                              have t_n53 := n53
                              have t_w67b := w67b
                              have t_n69 := n69
                              have t_c70 := eqI c70
                              have t_c71 := eqI c71
                              have : ((-4) : Int32).toInt = -4 := qI_m4
                              have t_n0 : (nI N).toInt = (N : Int) := tn2555_ ()
                              have t_n1 : (nI B).toInt = (B : Int) := tn2556_ ()
                              have t_n2 : (nI T).toInt = (T : Int) := tn2557_ ()
                              have t_n3 : (nI S).toInt = (S : Int) := tn2558_ ()
                              have t_n4 : (nI M).toInt = (M : Int) := tn2559_ ()
                              have t_n5 : (nI j1).toInt = (j1 : Int) := tn2560_ ()
                              have t_n6 : (nI j9).toInt = (j9 : Int) := tn2566_ ()
                              have t_n7 : (nI j46).toInt = (j46 : Int) := tn2568_ ()
                              have t_n8 : (nI (min 9 (j46 + 1))).toInt = (((min 9 (j46 + 1)) : Nat) : Int) := nI_toInt (by omega)
                              exfalso; omega
                            · skip
                              refine lv_aload_n hx hb dX11_layPaths_165 rfl (lv_at hl 5 rfl) ?_
                              refine va_get (D := (dC, dI)) (ci := 11) (v := .ref ah) (C := RX11) (T := TX11) (N := 35) hx hb hg inG11 hown hK.1 hP 0 rfl rfl 28 (Nat.le_of_ble_eq_true rfl) (hg _ wt_906) (fun _ h9 => h9) rfl dX11_layPaths_166 ?_
                              refine lv_bipush (v := 10) hx hb dX11_layPaths_169 rfl ?_
                              refine lv_iload_n hx hb dX11_layPaths_171 rfl (lv_at hl 4 rfl) ?_
                              refine lv_imul hx hb dX11_layPaths_172 ?_
                              refine lv_cg (y := nI (10 * j9)) (by rw [show (10 : Int32) = nI 10 from rfl]; exact pk_mul _ _) ?_
                              refine lv_bipush (v := 10) hx hb dX11_layPaths_173 rfl ?_
                              refine lv_iadd hx hb dX11_layPaths_175 ?_
                              refine lv_cg (y := nI ((10 * j9) + 10)) (by rw [show (10 : Int32) = nI 10 from rfl]; exact nI_add _ _) ?_
                              refine lv_iload hx hb dX11_layPaths_176 (lv_at hl 0 rfl) ?_
                              refine lv_iadd hx hb dX11_layPaths_178 ?_
                              refine lv_cg (y := nI (((10 * j9) + 10) + (min 9 (j46 + 1)))) (by exact nI_add _ _) ?_
                              refine lv_dup2_11 hx hb dX11_layPaths_179 rfl rfl ?_
                              refine va_iald hx hb hK.1 hP 3 0 rfl rfl (vp_in_nI (by first | omega | (have t_hj6 := hj6; have t_n8 := n8; have t_hj13 := hj13; have t_n45 := n45; have t_hj50 := hj50; have t_n53 := n53; have t_w67b := w67b; have t_n69 := n69; have t_c70 := eqI c70; have t_c71 := neI c71; have : ((-4) : Int32).toInt = -4 := qI_m4; have tnb_ := nib8 tn2555_ tn2556_ tn2557_ tn2558_ tn2559_ tn2560_ tn2566_ tn2568_; have t_n8 : (nI (min 9 (j46 + 1))).toInt = (((min 9 (j46 + 1)) : Nat) : Int) := nI_toInt (by omega); omega)) (by decide)) dX11_layPaths_180 ?_
                              refine lv_cg (y := g47 (((10 * j9) + 10) + (min 9 (j46 + 1)))) (by rw [nI_clamp (by omega)]) ?_
                              refine lv_iload_n hx hb dX11_layPaths_181 rfl (lv_at hl 2 rfl) ?_
                              refine lv_iadd hx hb dX11_layPaths_182 ?_
                              refine va_iast hx hb hK.1 hP hD hS 3 0 rfl rfl (vp_in_nI (by first | omega | (have t_hj6 := hj6; have t_n8 := n8; have t_hj13 := hj13; have t_n45 := n45; have t_hj50 := hj50; have t_n53 := n53; have t_w67b := w67b; have t_n69 := n69; have t_c70 := eqI c70; have t_c71 := neI c71; have : ((-4) : Int32).toInt = -4 := qI_m4; have tnb_ := nib8 tn2555_ tn2556_ tn2557_ tn2558_ tn2559_ tn2560_ tn2566_ tn2568_; have t_n8 : (nI (min 9 (j46 + 1))).toInt = (((min 9 (j46 + 1)) : Nat) : Int) := nI_toInt (by omega); omega)) (by decide)) dX11_layPaths_183 (fun H locs hP hD hS => ?_)
                              rw [nI_clamp (by omega)] at hP hD
                              refine lv_iinc (v := nI (j46 + 1)) (lv' := [(2, .int (nI (j46 + 1))), (5, .int (nI (min 9 (j46 + 1)))), (4, .int (-4)), (3, .int (g47 ((10 * j9) + j46))), (1, .int (nI j9)), (0, .ref h0)]) hx hb dX11_layPaths_184 hl (k := 3) rfl (by rw [show Int32.ofInt 1 = nI 1 from by decide]; exact nI_add _ _) (by decide) rfl (fun ls hl => ?_)
                              refine lv_goto (tgt := 67) hx hb dX11_layPaths_187 rfl ?_
                              exact ih67_48 (j46 + 1) (by omega) (by omega) (upd g47 (((10 * j9) + 10) + (min 9 (j46 + 1))) ((g47 (((10 * j9) + 10) + (min 9 (j46 + 1)))) + (g47 ((10 * j9) + j46)))) _ _ (ah_d (c1 := ((¬ j46 = 0 ∧ ¬ rhO fst j9 0 = 0) ∧ alB (fun qb => fma (2 * qb)) (fun qb => fma (2 * qb + 1)) (nI j9) (nI (j46 - 1)) M = true)) (c2 := ((¬ j46 = 0 ∧ ¬ rhO fst j9 0 = 20) ∧ alB (fun qb => fma (2 * qb)) (fun qb => fma (2 * qb + 1)) (nI j9) (nI (min 9 (j46 + 1))) M = true)) hinv (by omega) (by omega) (by omega) (c1_iff (rhOb hst (j := j9) (by omega)).1 (by omega)) (c2_iff (rhOb hst (j := j9) (by omega)).2 (by omega)) (fun k8 hk8 => by first | rfl | exact if_neg (by omega) | exact (if_neg (by omega)).trans (if_neg (by omega))) (by unfold rwF; rw [if_pos w67c, if_neg w55c, fl_up]; first | done | rfl | exact fl_up2)) hP hD hS ls (lv_sub hl [0, 4, 5] rfl)
                          · skip
                            exact absurd c70 (by decide)
                        · skip
                          have t_hj6 := hj6
                          have t_n8 := n8
                          have t_hj13 := hj13
                          have t_n45 := n45
                          have t_hj50 := hj50
                          have t_n53 := n53
                          have t_w67b := w67b
                          have t_c68 := eqI c68
                          have : (0 : Int32).toInt = 0 := qI_0
                          have t_n0 : (nI N).toInt = (N : Int) := tn2555_ ()
                          have t_n1 : (nI B).toInt = (B : Int) := tn2556_ ()
                          have t_n2 : (nI T).toInt = (T : Int) := tn2557_ ()
                          have t_n3 : (nI S).toInt = (S : Int) := tn2558_ ()
                          have t_n4 : (nI M).toInt = (M : Int) := tn2559_ ()
                          have t_n5 : (nI j1).toInt = (j1 : Int) := tn2560_ ()
                          have t_n6 : (nI j9).toInt = (j9 : Int) := tn2566_ ()
                          have t_n7 : (nI j46).toInt = (j46 : Int) := tn2568_ ()
                          have t_n8 : (nI (min 9 (j46 + 1))).toInt = (((min 9 (j46 + 1)) : Nat) : Int) := nI_toInt (by omega)
                          exfalso; omega
                      · skip
                        refine lv_cg (y := (-4)) w67e ?_
                        refine lv_istore (lv' := [(5, .int (-4)), (4, .int (-4)), (3, .int (g47 ((10 * j9) + j46))), (2, .int (nI j46)), (1, .int (nI j9)), (0, .ref h0)]) hx hb dX11_layPaths_101 hl (by decide) rfl (fun ls hl => ?_)
                        refine lv_iload_n hx hb dX11_layPaths_103 rfl (lv_at hl 3 rfl) ?_
                        refine lv_if_ne (tgt := 132) hx hb dX11_layPaths_104 rfl (fun c72 => ?_) (fun c72 => ?_)
                        · skip
                          have n73 : j46 ≠ 0 := by have t := neI c72; rw [show (nI (j46)).toInt = ((j46 : Nat) : Int) from tn2568_ ()] at t; have : (0 : Int32).toInt = 0 := qI_0; omega
                          refine lv_iload hx hb dX11_layPaths_132 (lv_at hl 1 rfl) ?_
                          refine lv_bipush (v := (-4)) hx hb dX11_layPaths_134 rfl ?_
                          refine lv_icmp_eq (tgt := 158) hx hb dX11_layPaths_136 rfl (fun c74 => ?_) (fun c74 => ?_)
                          · skip
                            refine lv_iload hx hb dX11_layPaths_158 (lv_at hl 0 rfl) ?_
                            refine lv_bipush (v := (-4)) hx hb dX11_layPaths_160 rfl ?_
                            refine lv_icmp_eq (tgt := 184) hx hb dX11_layPaths_162 rfl (fun c75 => ?_) (fun c75 => ?_)
                            · skip
                              refine lv_iinc (v := nI (j46 + 1)) (lv' := [(2, .int (nI (j46 + 1))), (5, .int (-4)), (4, .int (-4)), (3, .int (g47 ((10 * j9) + j46))), (1, .int (nI j9)), (0, .ref h0)]) hx hb dX11_layPaths_184 hl (k := 3) rfl (by rw [show Int32.ofInt 1 = nI 1 from by decide]; exact nI_add _ _) (by decide) rfl (fun ls hl => ?_)
                              refine lv_goto (tgt := 67) hx hb dX11_layPaths_187 rfl ?_
                              exact ih67_48 (j46 + 1) (by omega) (by omega) g47 _ _ (ah_d (c1 := ((¬ j46 = 0 ∧ ¬ rhO fst j9 0 = 0) ∧ alB (fun qb => fma (2 * qb)) (fun qb => fma (2 * qb + 1)) (nI j9) (nI (j46 - 1)) M = true)) (c2 := ((¬ j46 = 0 ∧ ¬ rhO fst j9 0 = 20) ∧ alB (fun qb => fma (2 * qb)) (fun qb => fma (2 * qb + 1)) (nI j9) (nI (min 9 (j46 + 1))) M = true)) hinv (by omega) (by omega) (by omega) (c1_iff (rhOb hst (j := j9) (by omega)).1 (by omega)) (c2_iff (rhOb hst (j := j9) (by omega)).2 (by omega)) (fun k8 hk8 => by first | rfl | exact if_neg (by omega) | exact (if_neg (by omega)).trans (if_neg (by omega))) (by unfold rwF; rw [if_neg w67c, if_neg w55c]; first | done | rfl | exact fl_up2)) hP hD hS ls (lv_sub hl [0, 4, 5] rfl)
                            · skip
                              exact absurd c75 (by decide)
                          · skip
                            exact absurd c74 (by decide)
                        · skip
                          have n76 : j46 = 0 := by have t := eqI c72; rw [show (nI (j46)).toInt = ((j46 : Nat) : Int) from tn2568_ ()] at t; have : (0 : Int32).toInt = 0 := qI_0; omega
                          refine lv_aload_n hx hb dX11_layPaths_107 rfl (lv_at hl 5 rfl) ?_
                          refine lv_iload_n hx hb dX11_layPaths_108 rfl (lv_at hl 4 rfl) ?_
                          refine lv_iconst (v := 0) hx hb dX11_layPaths_109 rfl ?_
                          have hPc := hP.sub (ws' := [(h0, .inr (11, [.ref st, .int (nI N), .int (nI B), .ref rp, .int vrs, .int vrb, .int vhs, .int vca, .int vxs, .int vxb, .ref tp, .int (nI T), .int vfa, .int vbr, .int vba, .int vsp, .int vhe, .int vtk, .int vva, .ref cu, .ref lt, .ref od, .ref th, .ref be, .ref ln, .int (nI S), .ref ma, .int (nI M), .ref ah, .ref bh, .ref ik, .ref la, .ref lg, .ref ce, .int vto])), (ma, .inl (G 0, 12, .inl fma))]) [0, 2] rfl
                          refine va_calli (va_runV (As := [.int (nI j9), .int 0]) (rest := []) ⟨hx, hb, hml, hown, hg⟩ (c_X11_isMarkedE l dC dI G _ h0 st N B rp tp T cu lt od th be ln S ma M ah bh ik la lg ce (nI j9) 0 vrs vrb vhs vca vxs vxb vfa vbr vba vsp vhe vtk vva vto fma hN hB_ hT_ hS0 hM_) (kwV hg mfX11_isMarked wt_1228 ⟨Nat.le_of_ble_eq_true rfl, Nat.le_of_ble_eq_true rfl⟩) (preVR hK hPc (ci := 11) (r := (RX11, TX11, 35)) rfl rfl) rfl rfl hl.1 rfl (lv_room (Nat.le_of_ble_eq_true rfl)) dX11_layPaths_110 ⟨Nat.le_of_ble_eq_true rfl, Nat.le_of_ble_eq_true rfl⟩) hS (fun q h1 h2 => absurd h2 (Nat.not_le.mpr h1)) (fun q h => hA q (Nat.le_trans hS.1 h)) (fun r77 ur77 t H1 locs ht hvm w78 hB hz1 hk1 hS => ?_)
                          have hP := keepR hP hk1
                          obtain ⟨w78, w78x⟩ := w78
                          refine lv_if_eq (tgt := 132) hx hb dX11_layPaths_113 rfl (fun c79 => ?_) (fun c79 => ?_)
                          · skip
                            refine lv_iload hx hb dX11_layPaths_132 (lv_at hl 1 rfl) ?_
                            refine lv_bipush (v := (-4)) hx hb dX11_layPaths_134 rfl ?_
                            refine lv_icmp_eq (tgt := 158) hx hb dX11_layPaths_136 rfl (fun c80 => ?_) (fun c80 => ?_)
                            · skip
                              refine lv_iload hx hb dX11_layPaths_158 (lv_at hl 0 rfl) ?_
                              refine lv_bipush (v := (-4)) hx hb dX11_layPaths_160 rfl ?_
                              refine lv_icmp_eq (tgt := 184) hx hb dX11_layPaths_162 rfl (fun c81 => ?_) (fun c81 => ?_)
                              · skip
                                refine lv_iinc (v := nI (j46 + 1)) (lv' := [(2, .int (nI (j46 + 1))), (5, .int (-4)), (4, .int (-4)), (3, .int (g47 ((10 * j9) + j46))), (1, .int (nI j9)), (0, .ref h0)]) hx hb dX11_layPaths_184 hl (k := 3) rfl (by rw [show Int32.ofInt 1 = nI 1 from by decide]; exact nI_add _ _) (by decide) rfl (fun ls hl => ?_)
                                refine lv_goto (tgt := 67) hx hb dX11_layPaths_187 rfl ?_
                                exact ih67_48 (j46 + 1) (by omega) (by omega) g47 _ _ (ah_0n hinv (by omega) (by omega) (fun e9 => by have e8 : alB (fun qb => fma (2 * qb)) (fun qb => fma (2 * qb + 1)) (nI j9) 0 M = true := e9; have e7 := w78; rw [if_pos e8] at e7; exact absurd (e7.symm.trans (show _ = (0 : Int32) from by assumption)) (by decide))) hP hD hS ls (lv_sub hl [0, 4, 5] rfl)
                              · skip
                                exact absurd c81 (by decide)
                            · skip
                              exact absurd c80 (by decide)
                          · skip
                            refine lv_aload_n hx hb dX11_layPaths_116 rfl (lv_at hl 5 rfl) ?_
                            refine va_get (D := (dC, dI)) (ci := 11) (v := .ref ah) (C := RX11) (T := TX11) (N := 35) hx hb hg inG11 hown hK.1 hP 0 rfl rfl 28 (Nat.le_of_ble_eq_true rfl) (hg _ wt_906) (fun _ h9 => h9) rfl dX11_layPaths_117 ?_
                            refine lv_bipush (v := 10) hx hb dX11_layPaths_120 rfl ?_
                            refine lv_iload_n hx hb dX11_layPaths_122 rfl (lv_at hl 4 rfl) ?_
                            refine lv_imul hx hb dX11_layPaths_123 ?_
                            refine lv_cg (y := nI (10 * j9)) (by rw [show (10 : Int32) = nI 10 from rfl]; exact pk_mul _ _) ?_
                            refine lv_bipush (v := 10) hx hb dX11_layPaths_124 rfl ?_
                            refine lv_iadd hx hb dX11_layPaths_126 ?_
                            refine lv_cg (y := nI ((10 * j9) + 10)) (by rw [show (10 : Int32) = nI 10 from rfl]; exact nI_add _ _) ?_
                            refine lv_dup2_11 hx hb dX11_layPaths_127 rfl rfl ?_
                            refine va_iald hx hb hK.1 hP 3 0 rfl rfl (vp_in_nI (by first | omega | (have t_hj6 := hj6; have t_n8 := n8; have t_hj13 := hj13; have t_n45 := n45; have t_hj50 := hj50; have t_n53 := n53; have t_n76 := n76; have t_c79 := neI c79; have : (0 : Int32).toInt = 0 := qI_0; have tnb_ := nib8 tn2555_ tn2556_ tn2557_ tn2558_ tn2559_ tn2560_ tn2566_ tn2568_; omega)) (by decide)) dX11_layPaths_128 ?_
                            refine lv_cg (y := g47 ((10 * j9) + 10)) (by rw [nI_clamp (by omega)]) ?_
                            refine lv_iload_n hx hb dX11_layPaths_129 rfl (lv_at hl 2 rfl) ?_
                            refine lv_iadd hx hb dX11_layPaths_130 ?_
                            refine va_iast hx hb hK.1 hP hD hS 3 0 rfl rfl (vp_in_nI (by first | omega | (have t_hj6 := hj6; have t_n8 := n8; have t_hj13 := hj13; have t_n45 := n45; have t_hj50 := hj50; have t_n53 := n53; have t_n76 := n76; have t_c79 := neI c79; have : (0 : Int32).toInt = 0 := qI_0; have tnb_ := nib8 tn2555_ tn2556_ tn2557_ tn2558_ tn2559_ tn2560_ tn2566_ tn2568_; omega)) (by decide)) dX11_layPaths_131 (fun H locs hP hD hS => ?_)
                            rw [nI_clamp (by omega)] at hP hD
                            refine lv_iload hx hb dX11_layPaths_132 (lv_at hl 1 rfl) ?_
                            refine lv_bipush (v := (-4)) hx hb dX11_layPaths_134 rfl ?_
                            refine lv_icmp_eq (tgt := 158) hx hb dX11_layPaths_136 rfl (fun c82 => ?_) (fun c82 => ?_)
                            · skip
                              refine lv_iload hx hb dX11_layPaths_158 (lv_at hl 0 rfl) ?_
                              refine lv_bipush (v := (-4)) hx hb dX11_layPaths_160 rfl ?_
                              refine lv_icmp_eq (tgt := 184) hx hb dX11_layPaths_162 rfl (fun c83 => ?_) (fun c83 => ?_)
                              · skip
                                refine lv_iinc (v := nI (j46 + 1)) (lv' := [(2, .int (nI (j46 + 1))), (5, .int (-4)), (4, .int (-4)), (3, .int (g47 ((10 * j9) + j46))), (1, .int (nI j9)), (0, .ref h0)]) hx hb dX11_layPaths_184 hl (k := 3) rfl (by rw [show Int32.ofInt 1 = nI 1 from by decide]; exact nI_add _ _) (by decide) rfl (fun ls hl => ?_)
                                refine lv_goto (tgt := 67) hx hb dX11_layPaths_187 rfl ?_
                                exact ih67_48 (j46 + 1) (by omega) (by omega) (upd g47 ((10 * j9) + 10) ((g47 ((10 * j9) + 10)) + (g47 ((10 * j9) + j46)))) _ _ (ah_0y hinv (by omega) (by omega) (by show alB (fun qb => fma (2 * qb)) (fun qb => fma (2 * qb + 1)) (nI j9) (nI 0) M = true; have e7 := w78; by_cases e8 : alB (fun qb => fma (2 * qb)) (fun qb => fma (2 * qb + 1)) (nI j9) 0 M = true; exact e8; (rw [if_neg e8] at e7; exact absurd e7 (by first | with_reducible assumption | assumption)))) hP hD hS ls (lv_sub hl [0, 4, 5] rfl)
                              · skip
                                exact absurd c83 (by decide)
                            · skip
                              exact absurd c82 (by decide)
              exact loop67_48 (10 + 1) 0 (by omega) (by omega) g10 _ _ (AHI.z (by omega) hinv) hP hD hS ls (lv_sub hl [0, 1, 2] rfl)
        exact loop57_11 (N + 1) 0 (by omega) (by omega) g2 _ _ hA9 hP hD hS ls (lv_sub hl [0, 1] rfl)
      · skip
        have tn2569_ : nIT j1 := fun _ => nI_toInt (by first | omega | (have t := nleI c7; omega))
        have n84 : j1 < 110 := by have t := nleI c7; rw [show (nI (j1)).toInt = ((j1 : Nat) : Int) from tn2569_ ()] at t; have : (110 : Int32).toInt = 110 := qI_110; omega
        refine lv_aload_n hx hb dX11_layPaths_8 rfl (lv_at hl 1 rfl) ?_
        refine va_get (D := (dC, dI)) (ci := 11) (v := .ref ah) (C := RX11) (T := TX11) (N := 35) hx hb hg inG11 hown hK.1 hP 0 rfl rfl 28 (Nat.le_of_ble_eq_true rfl) (hg _ wt_906) (fun _ h9 => h9) rfl dX11_layPaths_9 ?_
        refine lv_iload_n hx hb dX11_layPaths_12 rfl (lv_at hl 0 rfl) ?_
        refine lv_iload_n hx hb dX11_layPaths_13 rfl (lv_at hl 0 rfl) ?_
        refine lv_aload_n hx hb dX11_layPaths_14 rfl (lv_at hl 1 rfl) ?_
        have hPc := hP.sub (ws' := [(h0, .inr (11, [.ref st, .int (nI N), .int (nI B), .ref rp, .int vrs, .int vrb, .int vhs, .int vca, .int vxs, .int vxb, .ref tp, .int (nI T), .int vfa, .int vbr, .int vba, .int vsp, .int vhe, .int vtk, .int vva, .ref cu, .ref lt, .ref od, .ref th, .ref be, .ref ln, .int (nI S), .ref ma, .int (nI M), .ref ah, .ref bh, .ref ik, .ref la, .ref lg, .ref ce, .int vto])), (st, .inl (G 0, 196, .inl fst))]) [0, 1] rfl
        refine va_calli (va_runV (As := []) (rest := [.int (nI j1), .int (nI j1), .ref ah]) ⟨hx, hb, hml, hown, hg⟩ (c_X11_startNowS l dC dI G _ h0 st N B rp tp T cu lt od th be ln S ma M ah bh ik la lg ce vrs vrb vhs vca vxs vxb vfa vbr vba vsp vhe vtk vva vto fst hN hB_ hT_ hS0 hM_ hst) (kwV hg mfX11_startNow wt_1044 ⟨Nat.le_of_ble_eq_true rfl, Nat.le_of_ble_eq_true rfl⟩) (preVR hK hPc (ci := 11) (r := (RX11, TX11, 35)) rfl rfl) rfl rfl hl.1 rfl (lv_room (Nat.le_of_ble_eq_true rfl)) dX11_layPaths_15 ⟨Nat.le_of_ble_eq_true rfl, Nat.le_of_ble_eq_true rfl⟩) hS (fun q h1 h2 => absurd h2 (Nat.not_le.mpr h1)) (fun q h => hA q (Nat.le_trans hS.1 h)) (fun r85 ur85 t H1 locs ht hvm w86 hB hz1 hk1 hS => ?_)
        have hP := keepR hP hk1
        obtain ⟨w86, w86x⟩ := w86
        have w86b := w86.2
        replace w86 := w86.1
        subst w86
        refine lv_icmp_ne (tgt := 25) hx hb dX11_layPaths_18 rfl (fun c87 => ?_) (fun c87 => ?_)
        · skip
          have tn2570_ : nIT (sdN fst) := fun _ => nI_toInt (by omega)
          have n88 : j1 ≠ (sdN fst) := by have t := neI c87; rw [show (nI (j1)).toInt = ((j1 : Nat) : Int) from tn2569_ ()] at t; rw [show (nI (sdN fst)).toInt = ((sdN fst : Nat) : Int) from tn2570_ ()] at t; omega
          refine lv_iconst (v := 0) hx hb dX11_layPaths_25 rfl ?_
          refine va_iast hx hb hK.1 hP hD hS 3 0 rfl rfl (vp_in_nI (by first | omega | (have t_hj6 := hj6; have t_n84 := n84; have t_w86b := w86b; have t_n88 := n88; have tnb_ := nib6 tn2555_ tn2556_ tn2557_ tn2558_ tn2559_ tn2569_; omega)) (by decide)) dX11_layPaths_26 (fun H locs hP hD hS => ?_)
          rw [nI_clamp (by omega)] at hP hD
          refine lv_aload_n hx hb dX11_layPaths_27 rfl (lv_at hl 1 rfl) ?_
          refine va_get (D := (dC, dI)) (ci := 11) (v := .ref bh) (C := RX11) (T := TX11) (N := 35) hx hb hg inG11 hown hK.1 hP 0 rfl rfl 29 (Nat.le_of_ble_eq_true rfl) (hg _ wt_907) (fun _ h9 => h9) rfl dX11_layPaths_28 ?_
          refine lv_iload_n hx hb dX11_layPaths_31 rfl (lv_at hl 0 rfl) ?_
          refine lv_iload_n hx hb dX11_layPaths_32 rfl (lv_at hl 0 rfl) ?_
          refine lv_bipush (v := 10) hx hb dX11_layPaths_33 rfl ?_
          refine lv_idiv hx hb dX11_layPaths_35 (by decide) ?_
          refine lv_cg (y := nI (j1 / 10)) (by rw [show (10 : Int32) = nI 10 from rfl]; exact pk_div (by omega) (by omega) (by omega)) ?_
          refine lv_aload_n hx hb dX11_layPaths_36 rfl (lv_at hl 1 rfl) ?_
          refine va_get (D := (dC, dI)) (ci := 11) (v := .int (nI N)) (C := RX11) (T := TX11) (N := 35) hx hb hg inG11 hown hK.1 hP 0 rfl rfl 1 (Nat.le_of_ble_eq_true rfl) (hg _ wt_879) (fun _ h9 => h9) rfl dX11_layPaths_37 ?_
          refine lv_icmp_ne (tgt := 47) hx hb dX11_layPaths_40 rfl (fun c89 => ?_) (fun c89 => ?_)
          · skip
            have tn2571_ : nIT (j1 / 10) := fun _ => nI_toInt (by first | omega | (have t := neI c89; omega))
            have n90 : (j1 / 10) ≠ N := by have t := neI c89; rw [show (nI (j1 / 10)).toInt = ((j1 / 10 : Nat) : Int) from tn2571_ ()] at t; rw [show (nI (N)).toInt = ((N : Nat) : Int) from tn2555_ ()] at t; omega
            refine lv_iconst (v := 0) hx hb dX11_layPaths_47 rfl ?_
            refine va_iast hx hb hK.1 hP hD hS 4 0 rfl rfl (vp_in_nI (by first | omega | (have t_hj6 := hj6; have t_n84 := n84; have t_w86b := w86b; have t_n88 := n88; have t_n90 := n90; have tnb_ := nib6 tn2555_ tn2556_ tn2557_ tn2558_ tn2559_ tn2569_; omega)) (by decide)) dX11_layPaths_48 (fun H locs hP hD hS => ?_)
            rw [nI_clamp (by omega)] at hP hD
            refine lv_iinc (v := nI (j1 + 1)) (lv' := [(1, .int (nI (j1 + 1))), (0, .ref h0)]) hx hb dX11_layPaths_49 hl (k := 0) rfl (by rw [show Int32.ofInt 1 = nI 1 from by decide]; exact nI_add _ _) (by decide) rfl (fun ls hl => ?_)
            refine lv_goto (tgt := 2) hx hb dX11_layPaths_52 rfl ?_
            exact ih2_4 (j1 + 1) (by omega) (by omega) (upd g2 j1 0) (upd g3 j1 0) _ _ ⟨upP_s hinv.1 (by first | exact (if_pos (by omega)).symm | exact (if_neg (by omega)).symm), upP_s hinv.2 (by first | exact (if_pos (by omega)).symm | exact (if_neg (by omega)).symm)⟩ hP hD hS ls (lv_sub hl [0, 1] rfl)
          · skip
            have tn2572_ : nIT (j1 / 10) := fun _ => nI_toInt (by first | omega | (have t := eqI c89; omega))
            have n91 : (j1 / 10) = N := by have t := eqI c89; rw [show (nI (j1 / 10)).toInt = ((j1 / 10 : Nat) : Int) from tn2572_ ()] at t; rw [show (nI (N)).toInt = ((N : Nat) : Int) from tn2555_ ()] at t; omega
            refine lv_iconst (v := 1) hx hb dX11_layPaths_43 rfl ?_
            refine lv_goto (tgt := 48) hx hb dX11_layPaths_44 rfl ?_
            refine va_iast hx hb hK.1 hP hD hS 4 0 rfl rfl (vp_in_nI (by first | omega | (have t_hj6 := hj6; have t_n84 := n84; have t_w86b := w86b; have t_n88 := n88; have t_n91 := n91; have tnb_ := nib6 tn2555_ tn2556_ tn2557_ tn2558_ tn2559_ tn2569_; omega)) (by decide)) dX11_layPaths_48 (fun H locs hP hD hS => ?_)
            rw [nI_clamp (by omega)] at hP hD
            refine lv_iinc (v := nI (j1 + 1)) (lv' := [(1, .int (nI (j1 + 1))), (0, .ref h0)]) hx hb dX11_layPaths_49 hl (k := 0) rfl (by rw [show Int32.ofInt 1 = nI 1 from by decide]; exact nI_add _ _) (by decide) rfl (fun ls hl => ?_)
            refine lv_goto (tgt := 2) hx hb dX11_layPaths_52 rfl ?_
            exact ih2_4 (j1 + 1) (by omega) (by omega) (upd g2 j1 0) (upd g3 j1 1) _ _ ⟨upP_s hinv.1 (by first | exact (if_pos (by omega)).symm | exact (if_neg (by omega)).symm), upP_s hinv.2 (by first | exact (if_pos (by omega)).symm | exact (if_neg (by omega)).symm)⟩ hP hD hS ls (lv_sub hl [0, 1] rfl)
        · skip
          have tn2573_ : nIT (sdN fst) := fun _ => nI_toInt (by omega)
          have n92 : j1 = (sdN fst) := by have t := eqI c87; rw [show (nI (j1)).toInt = ((j1 : Nat) : Int) from tn2569_ ()] at t; rw [show (nI (sdN fst)).toInt = ((sdN fst : Nat) : Int) from tn2573_ ()] at t; omega
          refine lv_iconst (v := 1) hx hb dX11_layPaths_21 rfl ?_
          refine lv_goto (tgt := 26) hx hb dX11_layPaths_22 rfl ?_
          refine va_iast hx hb hK.1 hP hD hS 3 0 rfl rfl (vp_in_nI (by first | omega | (have t_hj6 := hj6; have t_n84 := n84; have t_w86b := w86b; have t_n92 := n92; have tnb_ := nib6 tn2555_ tn2556_ tn2557_ tn2558_ tn2559_ tn2569_; omega)) (by decide)) dX11_layPaths_26 (fun H locs hP hD hS => ?_)
          rw [nI_clamp (by omega)] at hP hD
          refine lv_aload_n hx hb dX11_layPaths_27 rfl (lv_at hl 1 rfl) ?_
          refine va_get (D := (dC, dI)) (ci := 11) (v := .ref bh) (C := RX11) (T := TX11) (N := 35) hx hb hg inG11 hown hK.1 hP 0 rfl rfl 29 (Nat.le_of_ble_eq_true rfl) (hg _ wt_907) (fun _ h9 => h9) rfl dX11_layPaths_28 ?_
          refine lv_iload_n hx hb dX11_layPaths_31 rfl (lv_at hl 0 rfl) ?_
          refine lv_iload_n hx hb dX11_layPaths_32 rfl (lv_at hl 0 rfl) ?_
          refine lv_bipush (v := 10) hx hb dX11_layPaths_33 rfl ?_
          refine lv_idiv hx hb dX11_layPaths_35 (by decide) ?_
          refine lv_cg (y := nI (j1 / 10)) (by rw [show (10 : Int32) = nI 10 from rfl]; exact pk_div (by omega) (by omega) (by omega)) ?_
          refine lv_aload_n hx hb dX11_layPaths_36 rfl (lv_at hl 1 rfl) ?_
          refine va_get (D := (dC, dI)) (ci := 11) (v := .int (nI N)) (C := RX11) (T := TX11) (N := 35) hx hb hg inG11 hown hK.1 hP 0 rfl rfl 1 (Nat.le_of_ble_eq_true rfl) (hg _ wt_879) (fun _ h9 => h9) rfl dX11_layPaths_37 ?_
          refine lv_icmp_ne (tgt := 47) hx hb dX11_layPaths_40 rfl (fun c93 => ?_) (fun c93 => ?_)
          · skip
            have tn2574_ : nIT (j1 / 10) := fun _ => nI_toInt (by first | omega | (have t := neI c93; omega))
            have n94 : (j1 / 10) ≠ N := by have t := neI c93; rw [show (nI (j1 / 10)).toInt = ((j1 / 10 : Nat) : Int) from tn2574_ ()] at t; rw [show (nI (N)).toInt = ((N : Nat) : Int) from tn2555_ ()] at t; omega
            refine lv_iconst (v := 0) hx hb dX11_layPaths_47 rfl ?_
            refine va_iast hx hb hK.1 hP hD hS 4 0 rfl rfl (vp_in_nI (by first | omega | (have t_hj6 := hj6; have t_n84 := n84; have t_w86b := w86b; have t_n92 := n92; have t_n94 := n94; have tnb_ := nib6 tn2555_ tn2556_ tn2557_ tn2558_ tn2559_ tn2569_; omega)) (by decide)) dX11_layPaths_48 (fun H locs hP hD hS => ?_)
            rw [nI_clamp (by omega)] at hP hD
            refine lv_iinc (v := nI (j1 + 1)) (lv' := [(1, .int (nI (j1 + 1))), (0, .ref h0)]) hx hb dX11_layPaths_49 hl (k := 0) rfl (by rw [show Int32.ofInt 1 = nI 1 from by decide]; exact nI_add _ _) (by decide) rfl (fun ls hl => ?_)
            refine lv_goto (tgt := 2) hx hb dX11_layPaths_52 rfl ?_
            exact ih2_4 (j1 + 1) (by omega) (by omega) (upd g2 j1 1) (upd g3 j1 0) _ _ ⟨upP_s hinv.1 (by first | exact (if_pos (by omega)).symm | exact (if_neg (by omega)).symm), upP_s hinv.2 (by first | exact (if_pos (by omega)).symm | exact (if_neg (by omega)).symm)⟩ hP hD hS ls (lv_sub hl [0, 1] rfl)
          · skip
            have tn2575_ : nIT (j1 / 10) := fun _ => nI_toInt (by first | omega | (have t := eqI c93; omega))
            have n95 : (j1 / 10) = N := by have t := eqI c93; rw [show (nI (j1 / 10)).toInt = ((j1 / 10 : Nat) : Int) from tn2575_ ()] at t; rw [show (nI (N)).toInt = ((N : Nat) : Int) from tn2555_ ()] at t; omega
            refine lv_iconst (v := 1) hx hb dX11_layPaths_43 rfl ?_
            refine lv_goto (tgt := 48) hx hb dX11_layPaths_44 rfl ?_
            refine va_iast hx hb hK.1 hP hD hS 4 0 rfl rfl (vp_in_nI (by first | omega | (have t_hj6 := hj6; have t_n84 := n84; have t_w86b := w86b; have t_n92 := n92; have t_n95 := n95; have tnb_ := nib6 tn2555_ tn2556_ tn2557_ tn2558_ tn2559_ tn2569_; omega)) (by decide)) dX11_layPaths_48 (fun H locs hP hD hS => ?_)
            rw [nI_clamp (by omega)] at hP hD
            refine lv_iinc (v := nI (j1 + 1)) (lv' := [(1, .int (nI (j1 + 1))), (0, .ref h0)]) hx hb dX11_layPaths_49 hl (k := 0) rfl (by rw [show Int32.ofInt 1 = nI 1 from by decide]; exact nI_add _ _) (by decide) rfl (fun ls hl => ?_)
            refine lv_goto (tgt := 2) hx hb dX11_layPaths_52 rfl ?_
            exact ih2_4 (j1 + 1) (by omega) (by omega) (upd g2 j1 1) (upd g3 j1 1) _ _ ⟨upP_s hinv.1 (by first | exact (if_pos (by omega)).symm | exact (if_neg (by omega)).symm), upP_s hinv.2 (by first | exact (if_pos (by omega)).symm | exact (if_neg (by omega)).symm)⟩ hP hD hS ls (lv_sub hl [0, 1] rfl)
  exact loop2_4 (110 + 1) 0 (by omega) (by omega) fah fbh _ _ ⟨fun q9 h9 => absurd h9 (Nat.not_lt_zero _), fun q9 h9 => absurd h9 (Nat.not_lt_zero _)⟩ hP hD hS ls (lv_sub hl [0, 1] rfl)

set_option maxHeartbeats 8000000 in
set_option maxRecDepth 100000 in
theorem c_X11_sureE (l : Launch) (dC : Nat → ClassId) (dI : Nat → Nat → Nat) (G : Nat → ClassId) (sz : Nat) (h0 st N B rp tp T cu lt od th be ln S ma M ah bh ik la lg ce : Nat) (what vrs vrb vhs vca vxs vxb vfa vbr vba vsp vhe vtk vva vto : Int32) (fst : Nat → Int32) (fma : Nat → Int32) (fah : Nat → Int32) (fbh : Nat → Int32) (hN : N ≤ 10) (hB : B ≤ 6) (hT : T ≤ 320) (hS0 : S ≤ 8) (hM : M ≤ 6) (hst : OKS fst) : Met l yX11_sure (Cond.code yX11_sure cX11_sure 7 (some .int) :: GT) ({ frames := 6, cells := 0, slots := 0, locals := 146 } : Room) (PcW [.ref h0, .int what] dC dI G [(h0, .inr (11, [.ref st, .int (nI N), .int (nI B), .ref rp, .int vrs, .int vrb, .int vhs, .int vca, .int vxs, .int vxb, .ref tp, .int (nI T), .int vfa, .int vbr, .int vba, .int vsp, .int vhe, .int vtk, .int vva, .ref cu, .ref lt, .ref od, .ref th, .ref be, .ref ln, .int (nI S), .ref ma, .int (nI M), .ref ah, .ref bh, .ref ik, .ref la, .ref lg, .ref ce, .int vto])), (st, .inl (G 0, 196, .inl fst)), (ma, .inl (G 0, 12, .inl fma)), (ah, .inl (G 0, 110, .inl fah)), (bh, .inl (G 0, 110, .inl fbh))] sz) (va_Qi (fun (r : Int32) (u : (Nat → Int32) × (Nat → Int32)) => match u with | (oah, obh) => (r = if (0 ≤ what.toInt ∧ what.toInt ≤ 1) then (if (onS (fun jb => rhO fst jb 0) (fun ib qb => alB (fun qb => fma (2 * qb)) (fun qb => fma (2 * qb + 1)) (nI ib) (nI qb) M) N N (sdN fst)) = 0 then -4 else eyR (fun ib => decide ((if what = 0 then snF (inS (fun jb => rhO fst jb 0) (fun ib qb => alB (fun qb => fma (2 * qb)) (fun qb => fma (2 * qb + 1)) (nI ib) (nI qb) M) (sdN fst) ib) (fun qd => if ((¬ qd = 0 ∧ ¬ rhO fst ib 0 = 0) ∧ alB (fun qb => fma (2 * qb)) (fun qb => fma (2 * qb + 1)) (nI ib) (nI (qd - 1)) M = true) then onS (fun jb => rhO fst jb 0) (fun ib qb => alB (fun qb => fma (2 * qb)) (fun qb => fma (2 * qb + 1)) (nI ib) (nI qb) M) N (N - (ib + 1)) (qd - 1) else 0) 10 else snF (inS (fun jb => rhO fst jb 0) (fun ib qb => alB (fun qb => fma (2 * qb)) (fun qb => fma (2 * qb + 1)) (nI ib) (nI qb) M) (sdN fst) ib) (fun qd => if ((¬ qd = 0 ∧ ¬ rhO fst ib 0 = 20) ∧ alB (fun qb => fma (2 * qb)) (fun qb => fma (2 * qb + 1)) (nI ib) (nI (min 9 (qd + 1))) M = true) then onS (fun jb => rhO fst jb 0) (fun ib qb => alB (fun qb => fma (2 * qb)) (fun qb => fma (2 * qb + 1)) (nI ib) (nI qb) M) N (N - (ib + 1)) (min 9 (qd + 1)) else 0) 10) = (onS (fun jb => rhO fst jb 0) (fun ib qb => alB (fun qb => fma (2 * qb)) (fun qb => fma (2 * qb + 1)) (nI ib) (nI qb) M) N N (sdN fst)))) N) else -1) ∧ True) (fun (u : (Nat → Int32) × (Nat → Int32)) (t : State) => match u with | (oah, obh) => va_P (dC, dI) vwCl [(h0, .inr (11, [.ref st, .int (nI N), .int (nI B), .ref rp, .int vrs, .int vrb, .int vhs, .int vca, .int vxs, .int vxb, .ref tp, .int (nI T), .int vfa, .int vbr, .int vba, .int vsp, .int vhe, .int vtk, .int vva, .ref cu, .ref lt, .ref od, .ref th, .ref be, .ref ln, .int (nI S), .ref ma, .int (nI M), .ref ah, .ref bh, .ref ik, .ref la, .ref lg, .ref ce, .int vto])), (st, .inl (G 0, 196, .inl fst)), (ma, .inl (G 0, 12, .inl fma)), (ah, .inl (G 0, 110, .inl oah)), (bh, .inl (G 0, 110, .inl obh))] t.heap ∧ va_D (va_A [(h0, .inr (11, [.ref st, .int (nI N), .int (nI B), .ref rp, .int vrs, .int vrb, .int vhs, .int vca, .int vxs, .int vxb, .ref tp, .int (nI T), .int vfa, .int vbr, .int vba, .int vsp, .int vhe, .int vtk, .int vva, .ref cu, .ref lt, .ref od, .ref th, .ref be, .ref ln, .int (nI S), .ref ma, .int (nI M), .ref ah, .ref bh, .ref ik, .ref la, .ref lg, .ref ce, .int vto])), (st, .inl (G 0, 196, .inl fst)), (ma, .inl (G 0, 12, .inl fma)), (ah, .inl (G 0, 110, .inl fah)), (bh, .inl (G 0, 110, .inl fbh))] sz) [(h0, .inr (11, [.ref st, .int (nI N), .int (nI B), .ref rp, .int vrs, .int vrb, .int vhs, .int vca, .int vxs, .int vxb, .ref tp, .int (nI T), .int vfa, .int vbr, .int vba, .int vsp, .int vhe, .int vtk, .int vva, .ref cu, .ref lt, .ref od, .ref th, .ref be, .ref ln, .int (nI S), .ref ma, .int (nI M), .ref ah, .ref bh, .ref ik, .ref la, .ref lg, .ref ce, .int vto])), (st, .inl (G 0, 196, .inl fst)), (ma, .inl (G 0, 12, .inl fma)), (ah, .inl (G 0, 110, .inl oah)), (bh, .inl (G 0, 110, .inl obh))]) (va_A [(h0, .inr (11, [.ref st, .int (nI N), .int (nI B), .ref rp, .int vrs, .int vrb, .int vhs, .int vca, .int vxs, .int vxb, .ref tp, .int (nI T), .int vfa, .int vbr, .int vba, .int vsp, .int vhe, .int vtk, .int vva, .ref cu, .ref lt, .ref od, .ref th, .ref be, .ref ln, .int (nI S), .ref ma, .int (nI M), .ref ah, .ref bh, .ref ik, .ref la, .ref lg, .ref ce, .int vto])), (st, .inl (G 0, 196, .inl fst)), (ma, .inl (G 0, 12, .inl fma)), (ah, .inl (G 0, 110, .inl fah)), (bh, .inl (G 0, 110, .inl fbh))] sz)) 0 0 (va_A [(h0, .inr (11, [.ref st, .int (nI N), .int (nI B), .ref rp, .int vrs, .int vrb, .int vhs, .int vca, .int vxs, .int vxb, .ref tp, .int (nI T), .int vfa, .int vbr, .int vba, .int vsp, .int vhe, .int vtk, .int vva, .ref cu, .ref lt, .ref od, .ref th, .ref be, .ref ln, .int (nI S), .ref ma, .int (nI M), .ref ah, .ref bh, .ref ik, .ref la, .ref lg, .ref ce, .int vto])), (st, .inl (G 0, 196, .inl fst)), (ma, .inl (G 0, 12, .inl fma)), (ah, .inl (G 0, 110, .inl fah)), (bh, .inl (G 0, 110, .inl fbh))] sz) := by
  have hB_ := hB
  have hM_ := hM
  have hT_ := hT
  have tn2589_ : nIT N := fun _ => nI_toInt (by omega)
  have tn2590_ : nIT B := fun _ => nI_toInt (by omega)
  have tn2591_ : nIT T := fun _ => nI_toInt (by omega)
  have tn2592_ : nIT S := fun _ => nI_toInt (by omega)
  have tn2593_ : nIT M := fun _ => nI_toInt (by omega)
  refine Met.ofW (cc := cX11_sure) (maxL := 7) (ret := (some .int)) (by decide) rfl ?_
  intro p e s m args below meth c s₁ Bd hml hv
  obtain ⟨rfl, hsz, hP, hK, hD0⟩ := hv
  have hx := Bd.exec
  have hb := Bd.bytes
  have hr := Bd.returns
  have hg : ∀ w ∈ GT, w.before ([.ref h0, .int what] : List Value).toArray s = true := fun w h => atoms_spec (ws := Cond.code yX11_sure cX11_sure 7 (some .int) :: GT) Bd.pre w (List.mem_cons_of_mem _ h)
  have hown : s.vm.findClass RX11 = some m.cls := findClass_of_methodNamed Bd.named
  have hlocks := Bd.notSynchronized
  subst hsz
  have hD := hD0.self (sz := s.heap.size)
  generalize hAe : va_A [(h0, .inr (11, [.ref st, .int (nI N), .int (nI B), .ref rp, .int vrs, .int vrb, .int vhs, .int vca, .int vxs, .int vxb, .ref tp, .int (nI T), .int vfa, .int vbr, .int vba, .int vsp, .int vhe, .int vtk, .int vva, .ref cu, .ref lt, .ref od, .ref th, .ref be, .ref ln, .int (nI S), .ref ma, .int (nI M), .ref ah, .ref bh, .ref ik, .ref la, .ref lg, .ref ce, .int vto])), (st, .inl (G 0, 196, .inl fst)), (ma, .inl (G 0, 12, .inl fma)), (ah, .inl (G 0, 110, .inl fah)), (bh, .inl (G 0, 110, .inl fbh))] s.heap.size = A at hD ⊢
  have hA : ∀ q : Nat, s.heap.size ≤ q → A q := fun q h => by rw [← hAe]; exact Or.inr h
  have hS : va_S A s.heap s.heap [] := va_S.rf
  have hl := lv_entry ([.ref h0, .int what]) (n := 7) (Nat.le_of_ble_eq_true rfl)
  rw [lg_entry_eq]
  generalize (lg_sl ([.ref h0, .int what]) ++ List.replicate (7 - (lg_sl ([.ref h0, .int what])).length) Slot.unset).toArray = ls at hl ⊢
  have hl : lv_has ls 7 [(0, .ref h0), (1, .int what)] := hl
  refine lv_iload_n hx hb dX11_sure_0 rfl (lv_at hl 1 rfl) ?_
  refine lv_i2l (v := what.toInt64) hx hb dX11_sure_1 rfl ?_
  refine lv_lconst (v := 0) hx hb dX11_sure_2 (by decide) ?_
  refine lv_lconst (v := 1) hx hb dX11_sure_3 (by decide) ?_
  have hPc := hP.sub (ws' := []) [] rfl
  refine va_calli (va_runS (As := [.long what.toInt64, .long 0, .long 1]) (rest := []) ⟨hx, hb, hml, hown, hg⟩ (c_X11_in l dC dI G _ what.toInt64 0 1) (kwS hg mfX11_in wt_992 ⟨Nat.le_of_ble_eq_true rfl, Nat.le_of_ble_eq_true rfl⟩) (preSR hK hPc) rfl rfl hl.1 rfl (lv_room (Nat.le_of_ble_eq_true rfl)) dX11_sure_4 ⟨Nat.le_of_ble_eq_true rfl, Nat.le_of_ble_eq_true rfl⟩) hS (fun q h1 h2 => absurd h2 (Nat.not_le.mpr h1)) (fun q h => hA q (Nat.le_trans hS.1 h)) (fun r1 ur1 t H1 locs ht hvm w2 hB hz1 hk1 hS => ?_)
  have hP := keepR hP hk1
  obtain ⟨w2, w2x⟩ := w2
  try simp only [l_ii, show (0 : Int64).toInt = 0 from by decide, show (1 : Int64).toInt = 1 from by decide] at w2
  subst w2
  refine lv_if_ne (tgt := 12) hx hb dX11_sure_7 rfl (fun c3 => ?_) (fun c3 => ?_)
  · skip
    have b4 := if10_p c3
    refine lv_aload_n hx hb dX11_sure_12 rfl (lv_at hl 0 rfl) ?_
    obtain ⟨hPc, hDc, hFc⟩ := va_sub3 (ws' := [(h0, .inr (11, [.ref st, .int (nI N), .int (nI B), .ref rp, .int vrs, .int vrb, .int vhs, .int vca, .int vxs, .int vxb, .ref tp, .int (nI T), .int vfa, .int vbr, .int vba, .int vsp, .int vhe, .int vtk, .int vva, .ref cu, .ref lt, .ref od, .ref th, .ref be, .ref ln, .int (nI S), .ref ma, .int (nI M), .ref ah, .ref bh, .ref ik, .ref la, .ref lg, .ref ce, .int vto])), (st, .inl (G 0, 196, .inl fst)), (ma, .inl (G 0, 12, .inl fma)), (ah, .inl (G 0, 110, .inl fah)), (bh, .inl (G 0, 110, .inl fbh))]) hP hD hS hA [0, 1, 2, 3, 4] (by decide +kernel) rfl
    refine va_callv (va_runV (As := []) (rest := []) ⟨hx, hb, hml, hown, hg⟩ (c_X11_layPathsE l dC dI G _ h0 st N B rp tp T cu lt od th be ln S ma M ah bh ik la lg ce vrs vrb vhs vca vxs vxb vfa vbr vba vsp vhe vtk vva vto fst fma fah fbh hN hB_ hT_ hS0 hM_ hst) (kwV hg mfX11_layPaths wt_1220 ⟨Nat.le_of_ble_eq_true rfl, Nat.le_of_ble_eq_true rfl⟩) (preVW hK hPc hDc (ci := 11) (r := (RX11, TX11, 35)) rfl rfl) rfl rfl hl.1 rfl (lv_room (Nat.le_of_ble_eq_true rfl)) dX11_sure_13 ⟨Nat.le_of_ble_eq_true rfl, Nat.le_of_ble_eq_true rfl⟩) hS (fun q _ h => hFc q h) hFc (fun ur5 t H1 locs ht hvm w6 hB hz1 hk1 hS => ?_)
    obtain ⟨u7, u8⟩ := ur5
    obtain ⟨hP1, hD1⟩ := hB
    rw [ht] at hP1
    obtain ⟨hP, hD⟩ := va_join (wr := []) (w1 := [(h0, .inr (11, [.ref st, .int (nI N), .int (nI B), .ref rp, .int vrs, .int vrb, .int vhs, .int vca, .int vxs, .int vxb, .ref tp, .int (nI T), .int vfa, .int vbr, .int vba, .int vsp, .int vhe, .int vtk, .int vva, .ref cu, .ref lt, .ref od, .ref th, .ref be, .ref ln, .int (nI S), .ref ma, .int (nI M), .ref ah, .ref bh, .ref ik, .ref la, .ref lg, .ref ce, .int vto])), (st, .inl (G 0, 196, .inl fst)), (ma, .inl (G 0, 12, .inl fma)), (ah, .inl (G 0, 110, .inl u7)), (bh, .inl (G 0, 110, .inl u8))]) hP hD [0, 1, 2, 3, 4] [] rfl rfl (by decide +kernel) (by decide +kernel) hk1 hFc hP1 hD1
    have w6 : AHO (fun jb => rhO fst jb 0) (fun ib qb => alB (fun qb => fma (2 * qb)) (fun qb => fma (2 * qb + 1)) (nI ib) (nI qb) M) (sdN fst) N u7 ∧ BHO (fun jb => rhO fst jb 0) (fun ib qb => alB (fun qb => fma (2 * qb)) (fun qb => fma (2 * qb + 1)) (nI ib) (nI qb) M) N 0 u8 := w6
    generalize H1 = H at hP hS ⊢
    refine lv_aload_n hx hb dX11_sure_16 rfl (lv_at hl 0 rfl) ?_
    refine va_get (D := (dC, dI)) (ci := 11) (v := .ref bh) (C := RX11) (T := TX11) (N := 35) hx hb hg inG11 hown hK.1 hP 0 rfl rfl 29 (Nat.le_of_ble_eq_true rfl) (hg _ wt_907) (fun _ h9 => h9) rfl dX11_sure_17 ?_
    refine lv_aload_n hx hb dX11_sure_20 rfl (lv_at hl 0 rfl) ?_
    have hPc := hP.sub (ws' := [(h0, .inr (11, [.ref st, .int (nI N), .int (nI B), .ref rp, .int vrs, .int vrb, .int vhs, .int vca, .int vxs, .int vxb, .ref tp, .int (nI T), .int vfa, .int vbr, .int vba, .int vsp, .int vhe, .int vtk, .int vva, .ref cu, .ref lt, .ref od, .ref th, .ref be, .ref ln, .int (nI S), .ref ma, .int (nI M), .ref ah, .ref bh, .ref ik, .ref la, .ref lg, .ref ce, .int vto])), (st, .inl (G 0, 196, .inl fst))]) [0, 1] rfl
    refine va_calli (va_runV (As := []) (rest := [.ref bh]) ⟨hx, hb, hml, hown, hg⟩ (c_X11_startNowS l dC dI G _ h0 st N B rp tp T cu lt od th be ln S ma M ah bh ik la lg ce vrs vrb vhs vca vxs vxb vfa vbr vba vsp vhe vtk vva vto fst hN hB_ hT_ hS0 hM_ hst) (kwV hg mfX11_startNow wt_1044 ⟨Nat.le_of_ble_eq_true rfl, Nat.le_of_ble_eq_true rfl⟩) (preVR hK hPc (ci := 11) (r := (RX11, TX11, 35)) rfl rfl) rfl rfl hl.1 rfl (lv_room (Nat.le_of_ble_eq_true rfl)) dX11_sure_21 ⟨Nat.le_of_ble_eq_true rfl, Nat.le_of_ble_eq_true rfl⟩) hS (fun q h1 h2 => absurd h2 (Nat.not_le.mpr h1)) (fun q h => hA q (Nat.le_trans hS.1 h)) (fun r9 ur9 t H1 locs ht hvm w10 hB hz1 hk1 hS => ?_)
    have hP := keepR hP hk1
    obtain ⟨w10, w10x⟩ := w10
    have w10b := w10.2
    replace w10 := w10.1
    subst w10
    refine va_iald hx hb hK.1 hP 4 0 rfl rfl (vp_in_nI (by first | omega | (have t_b4 := b4; have t_w10b := w10b; have tnb_ := nib5 tn2589_ tn2590_ tn2591_ tn2592_ tn2593_; omega)) (by decide)) dX11_sure_24 ?_
    refine lv_cg (y := u8 (sdN fst)) (by rw [nI_clamp (by omega)]) ?_
    have t9 : u8 (sdN fst) = (onS (fun jb => rhO fst jb 0) (fun ib qb => alB (fun qb => fma (2 * qb)) (fun qb => fma (2 * qb + 1)) (nI ib) (nI qb) M) N N (sdN fst)) := (by have s9 := sdN_ok (hst 48 (by omega)); have e9 := w6.2 0 (Nat.zero_le _) (Nat.zero_le _) (sdN fst) (by omega); rw [Nat.mul_zero, Nat.zero_add, Nat.sub_zero] at e9; exact e9)
    refine lv_istore_n (lv' := [(2, .int (u8 (sdN fst))), (0, .ref h0), (1, .int what)]) hx hb dX11_sure_25 rfl hl (by decide) rfl (fun ls hl => ?_)
    refine lv_iload_n hx hb dX11_sure_26 rfl (lv_at hl 0 rfl) ?_
    refine lv_if_ne (tgt := 33) hx hb dX11_sure_27 rfl (fun c11 => ?_) (fun c11 => ?_)
    · skip
      refine lv_iconst (v := 0) hx hb dX11_sure_33 rfl ?_
      refine lv_istore_n (lv' := [(3, .int 0), (2, .int (u8 (sdN fst))), (0, .ref h0), (1, .int what)]) hx hb dX11_sure_34 rfl hl (by decide) rfl (fun ls hl => ?_)
      refine lv_iconst (v := 0) hx hb dX11_sure_35 rfl ?_
      refine lv_istore (lv' := [(4, .int 0), (3, .int 0), (2, .int (u8 (sdN fst))), (0, .ref h0), (1, .int what)]) hx hb dX11_sure_36 hl (by decide) rfl (fun ls hl => ?_)
      have loop38_14 : ∀ (nf j12 : Nat), N + 1 ≤ j12 + nf → j12 ≤ N → ∀ (y13 : Int32) (H : Heap) (locs : List Loc), y13 = eyR (fun ib => decide ((if what = 0 then snF (inS (fun jb => rhO fst jb 0) (fun ib qb => alB (fun qb => fma (2 * qb)) (fun qb => fma (2 * qb + 1)) (nI ib) (nI qb) M) (sdN fst) ib) (fun qd => if ((¬ qd = 0 ∧ ¬ rhO fst ib 0 = 0) ∧ alB (fun qb => fma (2 * qb)) (fun qb => fma (2 * qb + 1)) (nI ib) (nI (qd - 1)) M = true) then onS (fun jb => rhO fst jb 0) (fun ib qb => alB (fun qb => fma (2 * qb)) (fun qb => fma (2 * qb + 1)) (nI ib) (nI qb) M) N (N - (ib + 1)) (qd - 1) else 0) 10 else snF (inS (fun jb => rhO fst jb 0) (fun ib qb => alB (fun qb => fma (2 * qb)) (fun qb => fma (2 * qb + 1)) (nI ib) (nI qb) M) (sdN fst) ib) (fun qd => if ((¬ qd = 0 ∧ ¬ rhO fst ib 0 = 20) ∧ alB (fun qb => fma (2 * qb)) (fun qb => fma (2 * qb + 1)) (nI ib) (nI (min 9 (qd + 1))) M = true) then onS (fun jb => rhO fst jb 0) (fun ib qb => alB (fun qb => fma (2 * qb)) (fun qb => fma (2 * qb + 1)) (nI ib) (nI qb) M) N (N - (ib + 1)) (min 9 (qd + 1)) else 0) 10) = (onS (fun jb => rhO fst jb 0) (fun ib qb => alB (fun qb => fma (2 * qb)) (fun qb => fma (2 * qb + 1)) (nI ib) (nI qb) M) N N (sdN fst)))) j12 → va_P (dC, dI) vwCl [(h0, .inr (11, [.ref st, .int (nI N), .int (nI B), .ref rp, .int vrs, .int vrb, .int vhs, .int vca, .int vxs, .int vxb, .ref tp, .int (nI T), .int vfa, .int vbr, .int vba, .int vsp, .int vhe, .int vtk, .int vva, .ref cu, .ref lt, .ref od, .ref th, .ref be, .ref ln, .int (nI S), .ref ma, .int (nI M), .ref ah, .ref bh, .ref ik, .ref la, .ref lg, .ref ce, .int vto])), (st, .inl (G 0, 196, .inl fst)), (ma, .inl (G 0, 12, .inl fma)), (ah, .inl (G 0, 110, .inl u7)), (bh, .inl (G 0, 110, .inl u8))] H → va_D A [(h0, .inr (11, [.ref st, .int (nI N), .int (nI B), .ref rp, .int vrs, .int vrb, .int vhs, .int vca, .int vxs, .int vxb, .ref tp, .int (nI T), .int vfa, .int vbr, .int vba, .int vsp, .int vhe, .int vtk, .int vva, .ref cu, .ref lt, .ref od, .ref th, .ref be, .ref ln, .int (nI S), .ref ma, .int (nI M), .ref ah, .ref bh, .ref ik, .ref la, .ref lg, .ref ce, .int vto])), (st, .inl (G 0, 196, .inl fst)), (ma, .inl (G 0, 12, .inl fma)), (ah, .inl (G 0, 110, .inl u7)), (bh, .inl (G 0, 110, .inl u8))] → va_S A s.heap H locs → ∀ (ls : Array Slot), lv_has ls 7 [(4, .int (nI j12)), (3, .int y13), (2, .int (u8 (sdN fst))), (0, .ref h0), (1, .int what)] → W p l e (headSpec (Cond.code yX11_sure cX11_sure 7 (some .int) :: GT) ({ frames := 6, cells := 0, slots := 0, locals := 146 } : Room)).room s m ([.ref h0, .int what] : List Value).toArray below meth c H locs 0 0 (MQ below (va_Qi (fun (r : Int32) (u : (Nat → Int32) × (Nat → Int32)) => match u with | (oah, obh) => (r = if (0 ≤ what.toInt ∧ what.toInt ≤ 1) then (if (onS (fun jb => rhO fst jb 0) (fun ib qb => alB (fun qb => fma (2 * qb)) (fun qb => fma (2 * qb + 1)) (nI ib) (nI qb) M) N N (sdN fst)) = 0 then -4 else eyR (fun ib => decide ((if what = 0 then snF (inS (fun jb => rhO fst jb 0) (fun ib qb => alB (fun qb => fma (2 * qb)) (fun qb => fma (2 * qb + 1)) (nI ib) (nI qb) M) (sdN fst) ib) (fun qd => if ((¬ qd = 0 ∧ ¬ rhO fst ib 0 = 0) ∧ alB (fun qb => fma (2 * qb)) (fun qb => fma (2 * qb + 1)) (nI ib) (nI (qd - 1)) M = true) then onS (fun jb => rhO fst jb 0) (fun ib qb => alB (fun qb => fma (2 * qb)) (fun qb => fma (2 * qb + 1)) (nI ib) (nI qb) M) N (N - (ib + 1)) (qd - 1) else 0) 10 else snF (inS (fun jb => rhO fst jb 0) (fun ib qb => alB (fun qb => fma (2 * qb)) (fun qb => fma (2 * qb + 1)) (nI ib) (nI qb) M) (sdN fst) ib) (fun qd => if ((¬ qd = 0 ∧ ¬ rhO fst ib 0 = 20) ∧ alB (fun qb => fma (2 * qb)) (fun qb => fma (2 * qb + 1)) (nI ib) (nI (min 9 (qd + 1))) M = true) then onS (fun jb => rhO fst jb 0) (fun ib qb => alB (fun qb => fma (2 * qb)) (fun qb => fma (2 * qb + 1)) (nI ib) (nI qb) M) N (N - (ib + 1)) (min 9 (qd + 1)) else 0) 10) = (onS (fun jb => rhO fst jb 0) (fun ib qb => alB (fun qb => fma (2 * qb)) (fun qb => fma (2 * qb + 1)) (nI ib) (nI qb) M) N N (sdN fst)))) N) else -1) ∧ True) (fun (u : (Nat → Int32) × (Nat → Int32)) (t : State) => match u with | (oah, obh) => va_P (dC, dI) vwCl [(h0, .inr (11, [.ref st, .int (nI N), .int (nI B), .ref rp, .int vrs, .int vrb, .int vhs, .int vca, .int vxs, .int vxb, .ref tp, .int (nI T), .int vfa, .int vbr, .int vba, .int vsp, .int vhe, .int vtk, .int vva, .ref cu, .ref lt, .ref od, .ref th, .ref be, .ref ln, .int (nI S), .ref ma, .int (nI M), .ref ah, .ref bh, .ref ik, .ref la, .ref lg, .ref ce, .int vto])), (st, .inl (G 0, 196, .inl fst)), (ma, .inl (G 0, 12, .inl fma)), (ah, .inl (G 0, 110, .inl oah)), (bh, .inl (G 0, 110, .inl obh))] t.heap ∧ va_D A [(h0, .inr (11, [.ref st, .int (nI N), .int (nI B), .ref rp, .int vrs, .int vrb, .int vhs, .int vca, .int vxs, .int vxb, .ref tp, .int (nI T), .int vfa, .int vbr, .int vba, .int vsp, .int vhe, .int vtk, .int vva, .ref cu, .ref lt, .ref od, .ref th, .ref be, .ref ln, .int (nI S), .ref ma, .int (nI M), .ref ah, .ref bh, .ref ik, .ref la, .ref lg, .ref ce, .int vto])), (st, .inl (G 0, 196, .inl fst)), (ma, .inl (G 0, 12, .inl fma)), (ah, .inl (G 0, 110, .inl oah)), (bh, .inl (G 0, 110, .inl obh))]) A) ([.ref h0, .int what] : List Value).toArray s 0 0 A) (F0 m 38 ls []) := by
        intro nf
        induction nf with
        | zero => intro j12 h1 h2; exact absurd h1 (by omega)
        | succ nf ih38_14 =>
          intro j12 hn15 hj16 y13 H locs hinv hP hD hS ls hl
          refine lv_iload hx hb dX11_sure_38 (lv_at hl 0 rfl) ?_
          refine lv_aload_n hx hb dX11_sure_40 rfl (lv_at hl 3 rfl) ?_
          refine va_get (D := (dC, dI)) (ci := 11) (v := .int (nI N)) (C := RX11) (T := TX11) (N := 35) hx hb hg inG11 hown hK.1 hP 0 rfl rfl 1 (Nat.le_of_ble_eq_true rfl) (hg _ wt_879) (fun _ h9 => h9) rfl dX11_sure_41 ?_
          refine lv_icmp_ge (tgt := 125) hx hb dX11_sure_44 rfl (fun c17 => ?_) (fun c17 => ?_)
          · skip
            have tn2594_ : nIT j12 := fun _ => nI_toInt (by first | omega | (have t := leI c17; omega))
            have n18 : N ≤ j12 := by have t := leI c17; rw [show (nI (j12)).toInt = ((j12 : Nat) : Int) from tn2594_ ()] at t; rw [show (nI (N)).toInt = ((N : Nat) : Int) from tn2589_ ()] at t; omega
            refine lv_iload_n hx hb dX11_sure_125 rfl (lv_at hl 1 rfl) ?_
            have hpost : (y13 : Int32) = if (0 ≤ what.toInt ∧ what.toInt ≤ 1) then (if (onS (fun jb => rhO fst jb 0) (fun ib qb => alB (fun qb => fma (2 * qb)) (fun qb => fma (2 * qb + 1)) (nI ib) (nI qb) M) N N (sdN fst)) = 0 then -4 else eyR (fun ib => decide ((if what = 0 then snF (inS (fun jb => rhO fst jb 0) (fun ib qb => alB (fun qb => fma (2 * qb)) (fun qb => fma (2 * qb + 1)) (nI ib) (nI qb) M) (sdN fst) ib) (fun qd => if ((¬ qd = 0 ∧ ¬ rhO fst ib 0 = 0) ∧ alB (fun qb => fma (2 * qb)) (fun qb => fma (2 * qb + 1)) (nI ib) (nI (qd - 1)) M = true) then onS (fun jb => rhO fst jb 0) (fun ib qb => alB (fun qb => fma (2 * qb)) (fun qb => fma (2 * qb + 1)) (nI ib) (nI qb) M) N (N - (ib + 1)) (qd - 1) else 0) 10 else snF (inS (fun jb => rhO fst jb 0) (fun ib qb => alB (fun qb => fma (2 * qb)) (fun qb => fma (2 * qb + 1)) (nI ib) (nI qb) M) (sdN fst) ib) (fun qd => if ((¬ qd = 0 ∧ ¬ rhO fst ib 0 = 20) ∧ alB (fun qb => fma (2 * qb)) (fun qb => fma (2 * qb + 1)) (nI ib) (nI (min 9 (qd + 1))) M = true) then onS (fun jb => rhO fst jb 0) (fun ib qb => alB (fun qb => fma (2 * qb)) (fun qb => fma (2 * qb + 1)) (nI ib) (nI qb) M) N (N - (ib + 1)) (min 9 (qd + 1)) else 0) 10) = (onS (fun jb => rhO fst jb 0) (fun ib qb => alB (fun qb => fma (2 * qb)) (fun qb => fma (2 * qb + 1)) (nI ib) (nI qb) M) N N (sdN fst)))) N) else -1 := by
              rw [if_pos (by (have t_b4 := b4; have t_w10b := w10b; have t_c11 := neI c11; have t_hj16 := hj16; have t_n18 := n18; have : (0 : Int32).toInt = 0 := qI_0; have tnb_ := nib6 tn2589_ tn2590_ tn2591_ tn2592_ tn2593_ tn2594_; have lz0 : (0 : Int32).toInt = 0 := qI_0; have lz1 : (1 : Int32).toInt = 1 := qI_1; have lz2 : (2 : Int32).toInt = 2 := qI_2; have lz3 : (3 : Int32).toInt = 3 := qI_3; have lz5 : (5 : Int32).toInt = 5 := qI_5; have lz9 : (9 : Int32).toInt = 9 := qI_9; omega)), ← t9, if_neg (by first | with_reducible assumption | assumption), t9, hinv, show j12 = N by (have t_b4 := b4; have t_w10b := w10b; have t_c11 := neI c11; have t_hj16 := hj16; have t_n18 := n18; have : (0 : Int32).toInt = 0 := qI_0; have tnb_ := nib6 tn2589_ tn2590_ tn2591_ tn2592_ tn2593_ tn2594_; have lz0 : (0 : Int32).toInt = 0 := qI_0; have lz1 : (1 : Int32).toInt = 1 := qI_1; have lz2 : (2 : Int32).toInt = 2 := qI_2; have lz3 : (3 : Int32).toInt = 3 := qI_3; have lz5 : (5 : Int32).toInt = 5 := qI_5; have lz9 : (9 : Int32).toInt = 9 := qI_9; omega)]
            obtain ⟨hP9, hD9⟩ := va_sub2 (ws' := [(h0, .inr (11, [.ref st, .int (nI N), .int (nI B), .ref rp, .int vrs, .int vrb, .int vhs, .int vca, .int vxs, .int vxb, .ref tp, .int (nI T), .int vfa, .int vbr, .int vba, .int vsp, .int vhe, .int vtk, .int vva, .ref cu, .ref lt, .ref od, .ref th, .ref be, .ref ln, .int (nI S), .ref ma, .int (nI M), .ref ah, .ref bh, .ref ik, .ref la, .ref lg, .ref ce, .int vto])), (st, .inl (G 0, 196, .inl fst)), (ma, .inl (G 0, 12, .inl fma)), (ah, .inl (G 0, 110, .inl u7)), (bh, .inl (G 0, 110, .inl u8))]) hP hD [0, 1, 2, 3, 4] (by decide +kernel) rfl
            refine W.widen (k := 0) (n := 0) (Nat.le_of_ble_eq_true rfl) (Nat.le_of_ble_eq_true rfl) ?_
            exact W.iret (v := y13) hx hb hr (fun t ht hW => ⟨⟨y13, (u7, u8), rfl, ⟨hpost, trivial⟩, ⟨by rw [ht]; exact hP9, hD9⟩⟩, hS.F ht⟩) hS.2.2 dX11_sure_126
          · skip
            have tn2595_ : nIT j12 := fun _ => nI_toInt (by first | omega | (have t := nleI c17; omega))
            have n19 : j12 < N := by have t := nleI c17; rw [show (nI (j12)).toInt = ((j12 : Nat) : Int) from tn2595_ ()] at t; rw [show (nI (N)).toInt = ((N : Nat) : Int) from tn2589_ ()] at t; omega
            have hO9 := hinv
            refine lv_iconst (v := 0) hx hb dX11_sure_47 rfl ?_
            refine lv_istore (lv' := [(5, .int 0), (4, .int (nI j12)), (3, .int y13), (2, .int (u8 (sdN fst))), (0, .ref h0), (1, .int what)]) hx hb dX11_sure_48 hl (by decide) rfl (fun ls hl => ?_)
            refine lv_iconst (v := 0) hx hb dX11_sure_50 rfl ?_
            refine lv_istore (lv' := [(6, .int 0), (5, .int 0), (4, .int (nI j12)), (3, .int y13), (2, .int (u8 (sdN fst))), (0, .ref h0), (1, .int what)]) hx hb dX11_sure_51 hl (by decide) rfl (fun ls hl => ?_)
            have loop53_22 : ∀ (nf j20 : Nat), 10 + 1 ≤ j20 + nf → j20 ≤ 10 → ∀ (y21 : Int32) (H : Heap) (locs : List Loc), ((what = 0 → y21 = snF (inS (fun jb => rhO fst jb 0) (fun ib qb => alB (fun qb => fma (2 * qb)) (fun qb => fma (2 * qb + 1)) (nI ib) (nI qb) M) (sdN fst) j12) (fun qd => if ((¬ qd = 0 ∧ ¬ rhO fst j12 0 = 0) ∧ alB (fun qb => fma (2 * qb)) (fun qb => fma (2 * qb + 1)) (nI j12) (nI (qd - 1)) M = true) then onS (fun jb => rhO fst jb 0) (fun ib qb => alB (fun qb => fma (2 * qb)) (fun qb => fma (2 * qb + 1)) (nI ib) (nI qb) M) N (N - (j12 + 1)) (qd - 1) else 0) j20) ∧ (¬ what = 0 → y21 = snF (inS (fun jb => rhO fst jb 0) (fun ib qb => alB (fun qb => fma (2 * qb)) (fun qb => fma (2 * qb + 1)) (nI ib) (nI qb) M) (sdN fst) j12) (fun qd => if ((¬ qd = 0 ∧ ¬ rhO fst j12 0 = 20) ∧ alB (fun qb => fma (2 * qb)) (fun qb => fma (2 * qb + 1)) (nI j12) (nI (min 9 (qd + 1))) M = true) then onS (fun jb => rhO fst jb 0) (fun ib qb => alB (fun qb => fma (2 * qb)) (fun qb => fma (2 * qb + 1)) (nI ib) (nI qb) M) N (N - (j12 + 1)) (min 9 (qd + 1)) else 0) j20)) → va_P (dC, dI) vwCl [(h0, .inr (11, [.ref st, .int (nI N), .int (nI B), .ref rp, .int vrs, .int vrb, .int vhs, .int vca, .int vxs, .int vxb, .ref tp, .int (nI T), .int vfa, .int vbr, .int vba, .int vsp, .int vhe, .int vtk, .int vva, .ref cu, .ref lt, .ref od, .ref th, .ref be, .ref ln, .int (nI S), .ref ma, .int (nI M), .ref ah, .ref bh, .ref ik, .ref la, .ref lg, .ref ce, .int vto])), (st, .inl (G 0, 196, .inl fst)), (ma, .inl (G 0, 12, .inl fma)), (ah, .inl (G 0, 110, .inl u7)), (bh, .inl (G 0, 110, .inl u8))] H → va_D A [(h0, .inr (11, [.ref st, .int (nI N), .int (nI B), .ref rp, .int vrs, .int vrb, .int vhs, .int vca, .int vxs, .int vxb, .ref tp, .int (nI T), .int vfa, .int vbr, .int vba, .int vsp, .int vhe, .int vtk, .int vva, .ref cu, .ref lt, .ref od, .ref th, .ref be, .ref ln, .int (nI S), .ref ma, .int (nI M), .ref ah, .ref bh, .ref ik, .ref la, .ref lg, .ref ce, .int vto])), (st, .inl (G 0, 196, .inl fst)), (ma, .inl (G 0, 12, .inl fma)), (ah, .inl (G 0, 110, .inl u7)), (bh, .inl (G 0, 110, .inl u8))] → va_S A s.heap H locs → ∀ (ls : Array Slot), lv_has ls 7 [(6, .int (nI j20)), (5, .int y21), (4, .int (nI j12)), (3, .int y13), (2, .int (u8 (sdN fst))), (0, .ref h0), (1, .int what)] → W p l e (headSpec (Cond.code yX11_sure cX11_sure 7 (some .int) :: GT) ({ frames := 6, cells := 0, slots := 0, locals := 146 } : Room)).room s m ([.ref h0, .int what] : List Value).toArray below meth c H locs 0 0 (MQ below (va_Qi (fun (r : Int32) (u : (Nat → Int32) × (Nat → Int32)) => match u with | (oah, obh) => (r = if (0 ≤ what.toInt ∧ what.toInt ≤ 1) then (if (onS (fun jb => rhO fst jb 0) (fun ib qb => alB (fun qb => fma (2 * qb)) (fun qb => fma (2 * qb + 1)) (nI ib) (nI qb) M) N N (sdN fst)) = 0 then -4 else eyR (fun ib => decide ((if what = 0 then snF (inS (fun jb => rhO fst jb 0) (fun ib qb => alB (fun qb => fma (2 * qb)) (fun qb => fma (2 * qb + 1)) (nI ib) (nI qb) M) (sdN fst) ib) (fun qd => if ((¬ qd = 0 ∧ ¬ rhO fst ib 0 = 0) ∧ alB (fun qb => fma (2 * qb)) (fun qb => fma (2 * qb + 1)) (nI ib) (nI (qd - 1)) M = true) then onS (fun jb => rhO fst jb 0) (fun ib qb => alB (fun qb => fma (2 * qb)) (fun qb => fma (2 * qb + 1)) (nI ib) (nI qb) M) N (N - (ib + 1)) (qd - 1) else 0) 10 else snF (inS (fun jb => rhO fst jb 0) (fun ib qb => alB (fun qb => fma (2 * qb)) (fun qb => fma (2 * qb + 1)) (nI ib) (nI qb) M) (sdN fst) ib) (fun qd => if ((¬ qd = 0 ∧ ¬ rhO fst ib 0 = 20) ∧ alB (fun qb => fma (2 * qb)) (fun qb => fma (2 * qb + 1)) (nI ib) (nI (min 9 (qd + 1))) M = true) then onS (fun jb => rhO fst jb 0) (fun ib qb => alB (fun qb => fma (2 * qb)) (fun qb => fma (2 * qb + 1)) (nI ib) (nI qb) M) N (N - (ib + 1)) (min 9 (qd + 1)) else 0) 10) = (onS (fun jb => rhO fst jb 0) (fun ib qb => alB (fun qb => fma (2 * qb)) (fun qb => fma (2 * qb + 1)) (nI ib) (nI qb) M) N N (sdN fst)))) N) else -1) ∧ True) (fun (u : (Nat → Int32) × (Nat → Int32)) (t : State) => match u with | (oah, obh) => va_P (dC, dI) vwCl [(h0, .inr (11, [.ref st, .int (nI N), .int (nI B), .ref rp, .int vrs, .int vrb, .int vhs, .int vca, .int vxs, .int vxb, .ref tp, .int (nI T), .int vfa, .int vbr, .int vba, .int vsp, .int vhe, .int vtk, .int vva, .ref cu, .ref lt, .ref od, .ref th, .ref be, .ref ln, .int (nI S), .ref ma, .int (nI M), .ref ah, .ref bh, .ref ik, .ref la, .ref lg, .ref ce, .int vto])), (st, .inl (G 0, 196, .inl fst)), (ma, .inl (G 0, 12, .inl fma)), (ah, .inl (G 0, 110, .inl oah)), (bh, .inl (G 0, 110, .inl obh))] t.heap ∧ va_D A [(h0, .inr (11, [.ref st, .int (nI N), .int (nI B), .ref rp, .int vrs, .int vrb, .int vhs, .int vca, .int vxs, .int vxb, .ref tp, .int (nI T), .int vfa, .int vbr, .int vba, .int vsp, .int vhe, .int vtk, .int vva, .ref cu, .ref lt, .ref od, .ref th, .ref be, .ref ln, .int (nI S), .ref ma, .int (nI M), .ref ah, .ref bh, .ref ik, .ref la, .ref lg, .ref ce, .int vto])), (st, .inl (G 0, 196, .inl fst)), (ma, .inl (G 0, 12, .inl fma)), (ah, .inl (G 0, 110, .inl oah)), (bh, .inl (G 0, 110, .inl obh))]) A) ([.ref h0, .int what] : List Value).toArray s 0 0 A) (F0 m 53 ls []) := by
              intro nf
              induction nf with
              | zero => intro j20 h1 h2; exact absurd h1 (by omega)
              | succ nf ih53_22 =>
                intro j20 hn23 hj24 y21 H locs hinv hP hD hS ls hl
                refine lv_iload hx hb dX11_sure_53 (lv_at hl 0 rfl) ?_
                refine lv_bipush (v := 10) hx hb dX11_sure_55 rfl ?_
                refine lv_icmp_ge (tgt := 102) hx hb dX11_sure_57 rfl (fun c25 => ?_) (fun c25 => ?_)
                · skip
                  have tn2596_ : nIT j20 := fun _ => nI_toInt (by first | omega | (have t := leI c25; omega))
                  have n26 : 10 ≤ j20 := by have t := leI c25; rw [show (nI (j20)).toInt = ((j20 : Nat) : Int) from tn2596_ ()] at t; have : (10 : Int32).toInt = 10 := qI_10; omega
                  have hn9 : y21 = (if what = 0 then snF (inS (fun jb => rhO fst jb 0) (fun ib qb => alB (fun qb => fma (2 * qb)) (fun qb => fma (2 * qb + 1)) (nI ib) (nI qb) M) (sdN fst) j12) (fun qd => if ((¬ qd = 0 ∧ ¬ rhO fst j12 0 = 0) ∧ alB (fun qb => fma (2 * qb)) (fun qb => fma (2 * qb + 1)) (nI j12) (nI (qd - 1)) M = true) then onS (fun jb => rhO fst jb 0) (fun ib qb => alB (fun qb => fma (2 * qb)) (fun qb => fma (2 * qb + 1)) (nI ib) (nI qb) M) N (N - (j12 + 1)) (qd - 1) else 0) 10 else snF (inS (fun jb => rhO fst jb 0) (fun ib qb => alB (fun qb => fma (2 * qb)) (fun qb => fma (2 * qb + 1)) (nI ib) (nI qb) M) (sdN fst) j12) (fun qd => if ((¬ qd = 0 ∧ ¬ rhO fst j12 0 = 20) ∧ alB (fun qb => fma (2 * qb)) (fun qb => fma (2 * qb + 1)) (nI j12) (nI (min 9 (qd + 1))) M = true) then onS (fun jb => rhO fst jb 0) (fun ib qb => alB (fun qb => fma (2 * qb)) (fun qb => fma (2 * qb + 1)) (nI ib) (nI qb) M) N (N - (j12 + 1)) (min 9 (qd + 1)) else 0) 10) := (by by_cases e9 : what = 0; (rw [if_pos e9, hinv.1 e9, show j20 = 10 by omega]); (rw [if_neg e9, hinv.2 e9, show j20 = 10 by omega]))
                  have hinv := hO9
                  refine lv_iload_n hx hb dX11_sure_102 rfl (lv_at hl 3 rfl) ?_
                  refine lv_iload hx hb dX11_sure_103 (lv_at hl 1 rfl) ?_
                  refine lv_iload_n hx hb dX11_sure_105 rfl (lv_at hl 4 rfl) ?_
                  refine lv_icmp_ne (tgt := 116) hx hb dX11_sure_106 rfl (fun c27 => ?_) (fun c27 => ?_)
                  · skip
                    refine lv_iconst (v := 0) hx hb dX11_sure_116 rfl ?_
                    refine lv_ior hx hb dX11_sure_117 ?_
                    refine lv_istore_n (lv' := [(3, .int (y13 ||| 0)), (6, .int (nI j20)), (5, .int y21), (4, .int (nI j12)), (2, .int (u8 (sdN fst))), (0, .ref h0), (1, .int what)]) hx hb dX11_sure_118 rfl hl (by decide) rfl (fun ls hl => ?_)
                    refine lv_iinc (v := nI (j12 + 1)) (lv' := [(4, .int (nI (j12 + 1))), (3, .int (y13 ||| 0)), (6, .int (nI j20)), (5, .int y21), (2, .int (u8 (sdN fst))), (0, .ref h0), (1, .int what)]) hx hb dX11_sure_119 hl (k := 3) rfl (by rw [show Int32.ofInt 1 = nI 1 from by decide]; exact nI_add _ _) (by decide) rfl (fun ls hl => ?_)
                    refine lv_goto (tgt := 38) hx hb dX11_sure_122 rfl ?_
                    exact ih38_14 (j12 + 1) (by omega) (by omega) (y13 ||| 0) _ _ (by exact ey_z hinv (fun e9 => by have e8 := of_decide_eq_true e9; rw [← hn9, ← t9] at e8; exact absurd e8 (by first | with_reducible assumption | assumption))) hP hD hS ls (lv_sub hl [0, 1, 4, 5, 6] rfl)
                  · skip
                    refine lv_iconst (v := 1) hx hb dX11_sure_109 rfl ?_
                    refine lv_iload hx hb dX11_sure_110 (lv_at hl 2 rfl) ?_
                    refine lv_ishl hx hb dX11_sure_112 ?_
                    refine lv_goto (tgt := 117) hx hb dX11_sure_113 rfl ?_
                    refine lv_ior hx hb dX11_sure_117 ?_
                    refine lv_istore_n (lv' := [(3, .int (y13 ||| (1 <<< ((nI j12) &&& 31)))), (6, .int (nI j20)), (5, .int y21), (4, .int (nI j12)), (2, .int (u8 (sdN fst))), (0, .ref h0), (1, .int what)]) hx hb dX11_sure_118 rfl hl (by decide) rfl (fun ls hl => ?_)
                    refine lv_iinc (v := nI (j12 + 1)) (lv' := [(4, .int (nI (j12 + 1))), (3, .int (y13 ||| (1 <<< ((nI j12) &&& 31)))), (6, .int (nI j20)), (5, .int y21), (2, .int (u8 (sdN fst))), (0, .ref h0), (1, .int what)]) hx hb dX11_sure_119 hl (k := 3) rfl (by rw [show Int32.ofInt 1 = nI 1 from by decide]; exact nI_add _ _) (by decide) rfl (fun ls hl => ?_)
                    refine lv_goto (tgt := 38) hx hb dX11_sure_122 rfl ?_
                    exact ih38_14 (j12 + 1) (by omega) (by omega) (y13 ||| (1 <<< ((nI j12) &&& 31))) _ _ (by exact ey_y hinv (decide_eq_true (by rw [← hn9, ← t9]; assumption))) hP hD hS ls (lv_sub hl [0, 1, 4, 5, 6] rfl)
                · skip
                  have tn2597_ : nIT j20 := fun _ => nI_toInt (by first | omega | (have t := nleI c25; omega))
                  have n28 : j20 < 10 := by have t := nleI c25; rw [show (nI (j20)).toInt = ((j20 : Nat) : Int) from tn2597_ ()] at t; have : (10 : Int32).toInt = 10 := qI_10; omega
                  refine lv_iload hx hb dX11_sure_60 (lv_at hl 1 rfl) ?_
                  refine lv_aload_n hx hb dX11_sure_62 rfl (lv_at hl 5 rfl) ?_
                  refine va_get (D := (dC, dI)) (ci := 11) (v := .ref ah) (C := RX11) (T := TX11) (N := 35) hx hb hg inG11 hown hK.1 hP 0 rfl rfl 28 (Nat.le_of_ble_eq_true rfl) (hg _ wt_906) (fun _ h9 => h9) rfl dX11_sure_63 ?_
                  refine lv_bipush (v := 10) hx hb dX11_sure_66 rfl ?_
                  refine lv_iload hx hb dX11_sure_68 (lv_at hl 2 rfl) ?_
                  refine lv_imul hx hb dX11_sure_70 ?_
                  refine lv_cg (y := nI (10 * j12)) (by rw [show (10 : Int32) = nI 10 from rfl]; exact pk_mul _ _) ?_
                  refine lv_iload hx hb dX11_sure_71 (lv_at hl 0 rfl) ?_
                  refine lv_iadd hx hb dX11_sure_73 ?_
                  refine lv_cg (y := nI ((10 * j12) + j20)) (by exact nI_add _ _) ?_
                  refine va_iald hx hb hK.1 hP 3 0 rfl rfl (vp_in_nI (by first | omega | (have t_b4 := b4; have t_w10b := w10b; have t_c11 := neI c11; have t_hj16 := hj16; have t_n19 := n19; have t_hj24 := hj24; have t_n28 := n28; have : (0 : Int32).toInt = 0 := qI_0; have tnb_ := nib7 tn2589_ tn2590_ tn2591_ tn2592_ tn2593_ tn2595_ tn2597_; omega)) (by decide)) dX11_sure_74 ?_
                  refine lv_cg (y := u7 ((10 * j12) + j20)) (by rw [nI_clamp (by omega)]) ?_
                  refine lv_aload_n hx hb dX11_sure_75 rfl (lv_at hl 5 rfl) ?_
                  refine lv_iload hx hb dX11_sure_76 (lv_at hl 2 rfl) ?_
                  refine lv_iload hx hb dX11_sure_78 (lv_at hl 0 rfl) ?_
                  refine lv_iload_n hx hb dX11_sure_80 rfl (lv_at hl 6 rfl) ?_
                  refine lv_if_ne (tgt := 88) hx hb dX11_sure_81 rfl (fun c29 => ?_) (fun c29 => ?_)
                  · skip
                    refine lv_iconst (v := 0) hx hb dX11_sure_88 rfl ?_
                    have hPc := hP.sub (ws' := [(h0, .inr (11, [.ref st, .int (nI N), .int (nI B), .ref rp, .int vrs, .int vrb, .int vhs, .int vca, .int vxs, .int vxb, .ref tp, .int (nI T), .int vfa, .int vbr, .int vba, .int vsp, .int vhe, .int vtk, .int vva, .ref cu, .ref lt, .ref od, .ref th, .ref be, .ref ln, .int (nI S), .ref ma, .int (nI M), .ref ah, .ref bh, .ref ik, .ref la, .ref lg, .ref ce, .int vto])), (st, .inl (G 0, 196, .inl fst)), (ma, .inl (G 0, 12, .inl fma)), (bh, .inl (G 0, 110, .inl u8))]) [0, 1, 2, 4] rfl
                    refine va_calli (va_runV (As := [.int (nI j12), .int (nI j20), .int 0]) (rest := [.int (u7 ((10 * j12) + j20)), .int y21]) ⟨hx, hb, hml, hown, hg⟩ (c_X11_onward0 l dC dI G _ h0 j12 j20 st N B rp tp T cu lt od th be ln S ma M ah bh ik la lg ce vrs vrb vhs vca vxs vxb vfa vbr vba vsp vhe vtk vva vto fst fma u8 hN hB_ hT_ hS0 hM_ hst (by first | omega | (have t_b4 := b4; have t_w10b := w10b; have t_c11 := neI c11; have t_hj16 := hj16; have t_n19 := n19; have t_hj24 := hj24; have t_n28 := n28; have t_c29 := neI c29; have : (0 : Int32).toInt = 0 := qI_0; have tnb_ := nib7 tn2589_ tn2590_ tn2591_ tn2592_ tn2593_ tn2595_ tn2597_; omega)) (by first | omega | (have t_b4 := b4; have t_w10b := w10b; have t_c11 := neI c11; have t_hj16 := hj16; have t_n19 := n19; have t_hj24 := hj24; have t_n28 := n28; have t_c29 := neI c29; have : (0 : Int32).toInt = 0 := qI_0; have tnb_ := nib7 tn2589_ tn2590_ tn2591_ tn2592_ tn2593_ tn2595_ tn2597_; omega))) (kwV hg mfX11_onward wt_1232 ⟨Nat.le_of_ble_eq_true rfl, Nat.le_of_ble_eq_true rfl⟩) (preVR hK hPc (ci := 11) (r := (RX11, TX11, 35)) rfl rfl) rfl rfl hl.1 rfl (lv_room (Nat.le_of_ble_eq_true rfl)) dX11_sure_89 ⟨Nat.le_of_ble_eq_true rfl, Nat.le_of_ble_eq_true rfl⟩) hS (fun q h1 h2 => absurd h2 (Nat.not_le.mpr h1)) (fun q h => hA q (Nat.le_trans hS.1 h)) (fun r30 ur30 t H1 locs ht hvm w31 hB hz1 hk1 hS => ?_)
                    have hP := keepR hP hk1
                    obtain ⟨w31, w31x⟩ := w31
                    refine lv_imul hx hb dX11_sure_92 ?_
                    refine lv_iadd hx hb dX11_sure_93 ?_
                    refine lv_istore (lv' := [(5, .int (y21 + ((u7 ((10 * j12) + j20)) * r30))), (6, .int (nI j20)), (4, .int (nI j12)), (3, .int y13), (2, .int (u8 (sdN fst))), (0, .ref h0), (1, .int what)]) hx hb dX11_sure_94 hl (by decide) rfl (fun ls hl => ?_)
                    refine lv_iinc (v := nI (j20 + 1)) (lv' := [(6, .int (nI (j20 + 1))), (5, .int (y21 + ((u7 ((10 * j12) + j20)) * r30))), (4, .int (nI j12)), (3, .int y13), (2, .int (u8 (sdN fst))), (0, .ref h0), (1, .int what)]) hx hb dX11_sure_96 hl (k := 1) rfl (by rw [show Int32.ofInt 1 = nI 1 from by decide]; exact nI_add _ _) (by decide) rfl (fun ls hl => ?_)
                    refine lv_goto (tgt := 53) hx hb dX11_sure_99 rfl ?_
                    exact ih53_22 (j20 + 1) (by omega) (by omega) (y21 + ((u7 ((10 * j12) + j20)) * r30)) _ _ ⟨fun e9 => absurd e9 (by first | with_reducible assumption | assumption), fun e9 => sn_s (hinv.2 e9) (w6.1.1 j12 (by omega) j20 (by omega)) (by have e6 := w31; show _ = (if ((¬ j20 = 0 ∧ ¬ rhO fst j12 0 = 20) ∧ alB (fun qb => fma (2 * qb)) (fun qb => fma (2 * qb + 1)) (nI j12) (nI (min 9 (j20 + 1))) M = true) then onS (fun jb => rhO fst jb 0) (fun ib qb => alB (fun qb => fma (2 * qb)) (fun qb => fma (2 * qb + 1)) (nI ib) (nI qb) M) N (N - (j12 + 1)) (min 9 (j20 + 1)) else 0); by_cases e4 : ((¬ j20 = 0 ∧ ¬ rhO fst j12 0 = 20) ∧ alB (fun qb => fma (2 * qb)) (fun qb => fma (2 * qb + 1)) (nI j12) (nI (min 9 (j20 + 1))) M = true); (rw [if_pos e4] at e6; rw [if_pos e4, e6, show 10 * j12 + 10 + (min 9 (j20 + 1)) = 10 * (j12 + 1) + (min 9 (j20 + 1)) by omega]; exact w6.2 (j12 + 1) (Nat.zero_le _) (by omega) _ (by omega)); (rw [if_neg e4] at e6; rw [if_neg e4]; exact e6))⟩ hP hD hS ls (lv_sub hl [0, 1, 2, 3, 4, 5, 6] rfl)
                  · skip
                    refine lv_iconst (v := 1) hx hb dX11_sure_84 rfl ?_
                    refine lv_goto (tgt := 89) hx hb dX11_sure_85 rfl ?_
                    have hPc := hP.sub (ws' := [(h0, .inr (11, [.ref st, .int (nI N), .int (nI B), .ref rp, .int vrs, .int vrb, .int vhs, .int vca, .int vxs, .int vxb, .ref tp, .int (nI T), .int vfa, .int vbr, .int vba, .int vsp, .int vhe, .int vtk, .int vva, .ref cu, .ref lt, .ref od, .ref th, .ref be, .ref ln, .int (nI S), .ref ma, .int (nI M), .ref ah, .ref bh, .ref ik, .ref la, .ref lg, .ref ce, .int vto])), (st, .inl (G 0, 196, .inl fst)), (ma, .inl (G 0, 12, .inl fma)), (bh, .inl (G 0, 110, .inl u8))]) [0, 1, 2, 4] rfl
                    refine va_calli (va_runV (As := [.int (nI j12), .int (nI j20), .int 1]) (rest := [.int (u7 ((10 * j12) + j20)), .int y21]) ⟨hx, hb, hml, hown, hg⟩ (c_X11_onward1 l dC dI G _ h0 j12 j20 st N B rp tp T cu lt od th be ln S ma M ah bh ik la lg ce vrs vrb vhs vca vxs vxb vfa vbr vba vsp vhe vtk vva vto fst fma u8 hN hB_ hT_ hS0 hM_ hst (by first | omega | (have t_b4 := b4; have t_w10b := w10b; have t_c11 := neI c11; have t_hj16 := hj16; have t_n19 := n19; have t_hj24 := hj24; have t_n28 := n28; have t_c29 := eqI c29; have : (0 : Int32).toInt = 0 := qI_0; have tnb_ := nib7 tn2589_ tn2590_ tn2591_ tn2592_ tn2593_ tn2595_ tn2597_; omega)) (by first | omega | (have t_b4 := b4; have t_w10b := w10b; have t_c11 := neI c11; have t_hj16 := hj16; have t_n19 := n19; have t_hj24 := hj24; have t_n28 := n28; have t_c29 := eqI c29; have : (0 : Int32).toInt = 0 := qI_0; have tnb_ := nib7 tn2589_ tn2590_ tn2591_ tn2592_ tn2593_ tn2595_ tn2597_; omega))) (kwV hg mfX11_onward wt_1232 ⟨Nat.le_of_ble_eq_true rfl, Nat.le_of_ble_eq_true rfl⟩) (preVR hK hPc (ci := 11) (r := (RX11, TX11, 35)) rfl rfl) rfl rfl hl.1 rfl (lv_room (Nat.le_of_ble_eq_true rfl)) dX11_sure_89 ⟨Nat.le_of_ble_eq_true rfl, Nat.le_of_ble_eq_true rfl⟩) hS (fun q h1 h2 => absurd h2 (Nat.not_le.mpr h1)) (fun q h => hA q (Nat.le_trans hS.1 h)) (fun r32 ur32 t H1 locs ht hvm w33 hB hz1 hk1 hS => ?_)
                    have hP := keepR hP hk1
                    obtain ⟨w33, w33x⟩ := w33
                    refine lv_imul hx hb dX11_sure_92 ?_
                    refine lv_iadd hx hb dX11_sure_93 ?_
                    refine lv_istore (lv' := [(5, .int (y21 + ((u7 ((10 * j12) + j20)) * r32))), (6, .int (nI j20)), (4, .int (nI j12)), (3, .int y13), (2, .int (u8 (sdN fst))), (0, .ref h0), (1, .int what)]) hx hb dX11_sure_94 hl (by decide) rfl (fun ls hl => ?_)
                    refine lv_iinc (v := nI (j20 + 1)) (lv' := [(6, .int (nI (j20 + 1))), (5, .int (y21 + ((u7 ((10 * j12) + j20)) * r32))), (4, .int (nI j12)), (3, .int y13), (2, .int (u8 (sdN fst))), (0, .ref h0), (1, .int what)]) hx hb dX11_sure_96 hl (k := 1) rfl (by rw [show Int32.ofInt 1 = nI 1 from by decide]; exact nI_add _ _) (by decide) rfl (fun ls hl => ?_)
                    refine lv_goto (tgt := 53) hx hb dX11_sure_99 rfl ?_
                    exact ih53_22 (j20 + 1) (by omega) (by omega) (y21 + ((u7 ((10 * j12) + j20)) * r32)) _ _ ⟨fun e9 => sn_s (hinv.1 e9) (w6.1.1 j12 (by omega) j20 (by omega)) (by have e6 := w33; show _ = (if ((¬ j20 = 0 ∧ ¬ rhO fst j12 0 = 0) ∧ alB (fun qb => fma (2 * qb)) (fun qb => fma (2 * qb + 1)) (nI j12) (nI (j20 - 1)) M = true) then onS (fun jb => rhO fst jb 0) (fun ib qb => alB (fun qb => fma (2 * qb)) (fun qb => fma (2 * qb + 1)) (nI ib) (nI qb) M) N (N - (j12 + 1)) (j20 - 1) else 0); by_cases e4 : ((¬ j20 = 0 ∧ ¬ rhO fst j12 0 = 0) ∧ alB (fun qb => fma (2 * qb)) (fun qb => fma (2 * qb + 1)) (nI j12) (nI (j20 - 1)) M = true); (rw [if_pos e4] at e6; rw [if_pos e4, e6, show 10 * j12 + 10 + (j20 - 1) = 10 * (j12 + 1) + (j20 - 1) by omega]; exact w6.2 (j12 + 1) (Nat.zero_le _) (by omega) _ (by omega)); (rw [if_neg e4] at e6; rw [if_neg e4]; exact e6)), fun e9 => absurd (by first | with_reducible assumption | assumption) e9⟩ hP hD hS ls (lv_sub hl [0, 1, 2, 3, 4, 5, 6] rfl)
            exact loop53_22 (10 + 1) 0 (by omega) (by omega) 0 _ _ ⟨fun _ => rfl, fun _ => rfl⟩ hP hD hS ls (lv_sub hl [0, 1, 2, 3, 4, 5, 6] rfl)
      exact loop38_14 (N + 1) 0 (by omega) (by omega) 0 _ _ rfl hP hD hS ls (lv_sub hl [0, 1, 2, 3, 4] rfl)
    · skip
      refine lv_bipush (v := (-4)) hx hb dX11_sure_30 rfl ?_
      have hpost : ((-4) : Int32) = if (0 ≤ what.toInt ∧ what.toInt ≤ 1) then (if (onS (fun jb => rhO fst jb 0) (fun ib qb => alB (fun qb => fma (2 * qb)) (fun qb => fma (2 * qb + 1)) (nI ib) (nI qb) M) N N (sdN fst)) = 0 then -4 else eyR (fun ib => decide ((if what = 0 then snF (inS (fun jb => rhO fst jb 0) (fun ib qb => alB (fun qb => fma (2 * qb)) (fun qb => fma (2 * qb + 1)) (nI ib) (nI qb) M) (sdN fst) ib) (fun qd => if ((¬ qd = 0 ∧ ¬ rhO fst ib 0 = 0) ∧ alB (fun qb => fma (2 * qb)) (fun qb => fma (2 * qb + 1)) (nI ib) (nI (qd - 1)) M = true) then onS (fun jb => rhO fst jb 0) (fun ib qb => alB (fun qb => fma (2 * qb)) (fun qb => fma (2 * qb + 1)) (nI ib) (nI qb) M) N (N - (ib + 1)) (qd - 1) else 0) 10 else snF (inS (fun jb => rhO fst jb 0) (fun ib qb => alB (fun qb => fma (2 * qb)) (fun qb => fma (2 * qb + 1)) (nI ib) (nI qb) M) (sdN fst) ib) (fun qd => if ((¬ qd = 0 ∧ ¬ rhO fst ib 0 = 20) ∧ alB (fun qb => fma (2 * qb)) (fun qb => fma (2 * qb + 1)) (nI ib) (nI (min 9 (qd + 1))) M = true) then onS (fun jb => rhO fst jb 0) (fun ib qb => alB (fun qb => fma (2 * qb)) (fun qb => fma (2 * qb + 1)) (nI ib) (nI qb) M) N (N - (ib + 1)) (min 9 (qd + 1)) else 0) 10) = (onS (fun jb => rhO fst jb 0) (fun ib qb => alB (fun qb => fma (2 * qb)) (fun qb => fma (2 * qb + 1)) (nI ib) (nI qb) M) N N (sdN fst)))) N) else -1 := by
        rw [if_pos (by (have t_b4 := b4; have t_w10b := w10b; have t_c11 := eqI c11; have : (0 : Int32).toInt = 0 := qI_0; have tnb_ := nib5 tn2589_ tn2590_ tn2591_ tn2592_ tn2593_; have lz0 : (0 : Int32).toInt = 0 := qI_0; have lz1 : (1 : Int32).toInt = 1 := qI_1; have lz2 : (2 : Int32).toInt = 2 := qI_2; have lz3 : (3 : Int32).toInt = 3 := qI_3; have lz5 : (5 : Int32).toInt = 5 := qI_5; have lz9 : (9 : Int32).toInt = 9 := qI_9; omega)), ← t9, if_pos (by first | with_reducible assumption | assumption)]
      obtain ⟨hP9, hD9⟩ := va_sub2 (ws' := [(h0, .inr (11, [.ref st, .int (nI N), .int (nI B), .ref rp, .int vrs, .int vrb, .int vhs, .int vca, .int vxs, .int vxb, .ref tp, .int (nI T), .int vfa, .int vbr, .int vba, .int vsp, .int vhe, .int vtk, .int vva, .ref cu, .ref lt, .ref od, .ref th, .ref be, .ref ln, .int (nI S), .ref ma, .int (nI M), .ref ah, .ref bh, .ref ik, .ref la, .ref lg, .ref ce, .int vto])), (st, .inl (G 0, 196, .inl fst)), (ma, .inl (G 0, 12, .inl fma)), (ah, .inl (G 0, 110, .inl u7)), (bh, .inl (G 0, 110, .inl u8))]) hP hD [0, 1, 2, 3, 4] (by decide +kernel) rfl
      refine W.widen (k := 0) (n := 0) (Nat.le_of_ble_eq_true rfl) (Nat.le_of_ble_eq_true rfl) ?_
      exact W.iret (v := (-4)) hx hb hr (fun t ht hW => ⟨⟨(-4), (u7, u8), rfl, ⟨hpost, trivial⟩, ⟨by rw [ht]; exact hP9, hD9⟩⟩, hS.F ht⟩) hS.2.2 dX11_sure_32
  · skip
    have b34 := if10_n c3
    refine lv_iconst (v := (-1)) hx hb dX11_sure_10 rfl ?_
    have hpost : ((-1) : Int32) = if (0 ≤ what.toInt ∧ what.toInt ≤ 1) then (if (onS (fun jb => rhO fst jb 0) (fun ib qb => alB (fun qb => fma (2 * qb)) (fun qb => fma (2 * qb + 1)) (nI ib) (nI qb) M) N N (sdN fst)) = 0 then -4 else eyR (fun ib => decide ((if what = 0 then snF (inS (fun jb => rhO fst jb 0) (fun ib qb => alB (fun qb => fma (2 * qb)) (fun qb => fma (2 * qb + 1)) (nI ib) (nI qb) M) (sdN fst) ib) (fun qd => if ((¬ qd = 0 ∧ ¬ rhO fst ib 0 = 0) ∧ alB (fun qb => fma (2 * qb)) (fun qb => fma (2 * qb + 1)) (nI ib) (nI (qd - 1)) M = true) then onS (fun jb => rhO fst jb 0) (fun ib qb => alB (fun qb => fma (2 * qb)) (fun qb => fma (2 * qb + 1)) (nI ib) (nI qb) M) N (N - (ib + 1)) (qd - 1) else 0) 10 else snF (inS (fun jb => rhO fst jb 0) (fun ib qb => alB (fun qb => fma (2 * qb)) (fun qb => fma (2 * qb + 1)) (nI ib) (nI qb) M) (sdN fst) ib) (fun qd => if ((¬ qd = 0 ∧ ¬ rhO fst ib 0 = 20) ∧ alB (fun qb => fma (2 * qb)) (fun qb => fma (2 * qb + 1)) (nI ib) (nI (min 9 (qd + 1))) M = true) then onS (fun jb => rhO fst jb 0) (fun ib qb => alB (fun qb => fma (2 * qb)) (fun qb => fma (2 * qb + 1)) (nI ib) (nI qb) M) N (N - (ib + 1)) (min 9 (qd + 1)) else 0) 10) = (onS (fun jb => rhO fst jb 0) (fun ib qb => alB (fun qb => fma (2 * qb)) (fun qb => fma (2 * qb + 1)) (nI ib) (nI qb) M) N N (sdN fst)))) N) else -1 := by
      have t_b34 := b34
      have t_n0 : (nI N).toInt = (N : Int) := tn2589_ ()
      have t_n1 : (nI B).toInt = (B : Int) := tn2590_ ()
      have t_n2 : (nI T).toInt = (T : Int) := tn2591_ ()
      have t_n3 : (nI S).toInt = (S : Int) := tn2592_ ()
      have t_n4 : (nI M).toInt = (M : Int) := tn2593_ ()
      have lz0 : (0 : Int32).toInt = 0 := qI_0
      have lz1 : (1 : Int32).toInt = 1 := qI_1
      have lz2 : (2 : Int32).toInt = 2 := qI_2
      have lz3 : (3 : Int32).toInt = 3 := qI_3
      have lz5 : (5 : Int32).toInt = 5 := qI_5
      have lz9 : (9 : Int32).toInt = 9 := qI_9
      rw [if_neg (by omega)]
    obtain ⟨hP9, hD9⟩ := va_sub2 (ws' := [(h0, .inr (11, [.ref st, .int (nI N), .int (nI B), .ref rp, .int vrs, .int vrb, .int vhs, .int vca, .int vxs, .int vxb, .ref tp, .int (nI T), .int vfa, .int vbr, .int vba, .int vsp, .int vhe, .int vtk, .int vva, .ref cu, .ref lt, .ref od, .ref th, .ref be, .ref ln, .int (nI S), .ref ma, .int (nI M), .ref ah, .ref bh, .ref ik, .ref la, .ref lg, .ref ce, .int vto])), (st, .inl (G 0, 196, .inl fst)), (ma, .inl (G 0, 12, .inl fma)), (ah, .inl (G 0, 110, .inl fah)), (bh, .inl (G 0, 110, .inl fbh))]) hP hD [0, 1, 2, 3, 4] (by decide +kernel) rfl
    refine W.widen (k := 0) (n := 0) (Nat.le_of_ble_eq_true rfl) (Nat.le_of_ble_eq_true rfl) ?_
    exact W.iret (v := (-1)) hx hb hr (fun t ht hW => ⟨⟨(-1), (fah, fbh), rfl, ⟨hpost, trivial⟩, ⟨by rw [ht]; exact hP9, hD9⟩⟩, hS.F ht⟩) hS.2.2 dX11_sure_11

-- THE BEST: pure parts (draft)
def mxF (h : Int32) (x y : Int64) : Int64 := x * h.toInt64 + y * (20 - h).toInt64
def bmF (v : Nat → Int64) (wo : Int32) (x0 : Int64) (c0 : Int32) : Nat → Int64 × Int32
  | 0 => (x0, c0)
  | b + 1 => if nI b = wo then bmF v wo x0 c0 b else if (v b).toInt < (bmF v wo x0 c0 b).1.toInt then (v b, nI b) else bmF v wo x0 c0 b
theorem bm_cg {v v' : Nat → Int64} {wo : Int32} {x0 : Int64} {c0 : Int32} : ∀ n : Nat, (∀ b : Nat, b < n → v b = v' b) → bmF v wo x0 c0 n = bmF v' wo x0 c0 n := by
  intro n
  induction n with
  | zero => intro _; rfl
  | succ n ih =>
    intro h
    show (if nI n = wo then bmF v wo x0 c0 n else if (v n).toInt < (bmF v wo x0 c0 n).1.toInt then (v n, nI n) else bmF v wo x0 c0 n) = (if nI n = wo then bmF v' wo x0 c0 n else if (v' n).toInt < (bmF v' wo x0 c0 n).1.toInt then (v' n, nI n) else bmF v' wo x0 c0 n)
    rw [h n (by omega), ih (fun b hb => h b (by omega))]
theorem bm_fst {v : Nat → Int64} {wo : Int32} {x : Int64} {c c' : Int32} : ∀ n : Nat, (bmF v wo x c n).1 = (bmF v wo x c' n).1 := by
  intro n
  induction n with
  | zero => rfl
  | succ n ih =>
    show (if nI n = wo then bmF v wo x c n else if (v n).toInt < (bmF v wo x c n).1.toInt then (v n, nI n) else bmF v wo x c n).1 = (if nI n = wo then bmF v wo x c' n else if (v n).toInt < (bmF v wo x c' n).1.toInt then (v n, nI n) else bmF v wo x c' n).1
    by_cases w : nI n = wo
    · rw [if_pos w, if_pos w]; exact ih
    · rw [if_neg w, if_neg w, ← ih]
      by_cases l : (v n).toInt < (bmF v wo x c n).1.toInt
      · rw [if_pos l, if_pos l]
      · rw [if_neg l, if_neg l]; exact ih
theorem sl_inj {g : Int32} {d e : Nat} (h : slotF g d = slotF g e) : d = e := by
  unfold slotF at h
  omega
def wgT (m : Int64) (k : Nat) (p : Int64 × Int32) : Int64 × Int32 := if m.toInt < p.1.toInt then (m, nI k) else p
def WG (i : Nat) (g : Int32) (mv : Nat → Int64) (k j : Nat) (G F : Nat → Nat → Int64) (Gc E : Nat → Nat → Int32) : Prop :=
  (∀ m : Nat, ¬ m = i → G m = F m ∧ Gc m = E m) ∧ (∀ d : Nat, 1 ≤ d → d < j → (G i (slotF g d), Gc i (slotF g d)) = wgT (mv d) k (F i (slotF g d), E i (slotF g d))) ∧ (∀ s : Nat, (∀ d : Nat, 1 ≤ d → d < j → ¬ s = slotF g d) → G i s = F i s ∧ Gc i s = E i s)
theorem WG.z {i : Nat} {g : Int32} {mv : Nat → Int64} {k : Nat} {F : Nat → Nat → Int64} {E : Nat → Nat → Int32} : WG i g mv k 1 F F E E := ⟨fun _ _ => ⟨rfl, rfl⟩, fun d h1 h2 => absurd h2 (by omega), fun _ _ => ⟨rfl, rfl⟩⟩
theorem WG.lt {i : Nat} {g : Int32} {mv : Nat → Int64} {k j : Nat} {G F : Nat → Nat → Int64} {Gc E : Nat → Nat → Int32} {x : Int64} (h : WG i g mv k j G F Gc E) (hj : 1 ≤ j) (hx : x = mv j) (c : x.toInt < (G i (slotF g j)).toInt) : WG i g mv k (j + 1) (va_up G i (vp_updL (G i) (slotF g j) x)) F (va_up Gc i (upd (Gc i) (slotF g j) (nI k))) E := by
  have hs := h.2.2 (slotF g j) (fun d h1 h2 e => by have := sl_inj e; omega)
  refine ⟨fun m hm => by rw [vu_n hm, vu_n hm]; exact h.1 m hm, fun d h1 h2 => ?_, fun s hq => ?_⟩
  · rw [vu_y, vu_y]
    by_cases e : d = j
    · rw [e, upL_eq]
      show (x, if slotF g j = slotF g j then nI k else _) = _
      rw [if_pos rfl]
      unfold wgT
      rw [if_pos (by rw [← hs.1, ← hx]; exact c), hx]
    · rw [upL_ne (fun z => e (sl_inj z))]
      show (_, if slotF g d = slotF g j then nI k else Gc i (slotF g d)) = _
      rw [if_neg (fun z => e (sl_inj z))]
      exact h.2.1 d h1 (by omega)
  · have n9 : ¬ s = slotF g j := hq j hj (by omega)
    rw [vu_y, vu_y, upL_ne n9]
    show _ ∧ (if s = slotF g j then nI k else Gc i s) = _
    rw [if_neg n9]
    exact h.2.2 s (fun d h1 h2 => hq d h1 (by omega))
theorem WG.ge {i : Nat} {g : Int32} {mv : Nat → Int64} {k j : Nat} {G F : Nat → Nat → Int64} {Gc E : Nat → Nat → Int32} {x : Int64} (h : WG i g mv k j G F Gc E) (hj : 1 ≤ j) (hx : x = mv j) (c : ¬ x.toInt < (G i (slotF g j)).toInt) : WG i g mv k (j + 1) G F Gc E := by
  have hs := h.2.2 (slotF g j) (fun d h1 h2 e => by have := sl_inj e; omega)
  refine ⟨h.1, fun d h1 h2 => ?_, fun s hq => h.2.2 s (fun d h1 h2 => hq d h1 (by omega))⟩
  by_cases e : d = j
  · rw [e, hs.1, hs.2]
    unfold wgT
    rw [if_neg (by rw [← hs.1, ← hx]; exact c)]
  · exact h.2.1 d h1 (by omega)
def MORE : Int64 := 1152921504606846976
def CI0 (i : Nat) (g : Int32) (w : Int64) (j : Nat) (G F : Nat → Nat → Int64) : Prop := (∀ m : Nat, ¬ m = i → G m = F m) ∧ G i (slotF g 0) = w ∧ (∀ d : Nat, 1 ≤ d → d < j → G i (slotF g d) = MORE) ∧ (∀ s : Nat, (∀ d : Nat, d < j → ¬ s = slotF g d) → G i s = F i s)
theorem CI0.z {i : Nat} {g : Int32} {w : Int64} {F : Nat → Nat → Int64} : CI0 i g w 1 (va_up F i (vp_updL (F i) (slotF g 0) w)) F :=
  ⟨fun m hm => vu_n hm, by rw [vu_y, upL_eq], fun d h1 h2 => absurd h2 (by omega), fun s hs => by rw [vu_y, upL_ne (hs 0 (by omega))]⟩
theorem CI0.s {i : Nat} {g : Int32} {w x : Int64} {j : Nat} {G F : Nat → Nat → Int64} (h : CI0 i g w j G F) (hj : 1 ≤ j) (hx : x = MORE) : CI0 i g w (j + 1) (va_up G i (vp_updL (G i) (slotF g j) x)) F := by
  refine ⟨fun m hm => (vu_n hm).trans (h.1 m hm), ?_, fun d h1 h2 => ?_, fun s hs => ?_⟩
  · rw [vu_y, upL_ne (fun e => by have := sl_inj e; omega)]; exact h.2.1
  · rw [vu_y]
    by_cases e : d = j
    · rw [e, upL_eq]; exact hx
    · rw [upL_ne (fun z => e (sl_inj z))]; exact h.2.2.1 d h1 (by omega)
  · rw [vu_y, upL_ne (hs j (by omega))]
    exact h.2.2.2 s (fun d hd => hs d (by omega))
def CF (i : Nat) (g : Int32) (w : Int64) (wo : Int32) (v : Nat → Nat → Int64) (b : Nat) (G F : Nat → Nat → Int64) (Gc E : Nat → Nat → Int32) : Prop := (∀ m : Nat, ¬ m = i → G m = F m ∧ Gc m = E m) ∧ G i (slotF g 0) = w ∧ (∀ d : Nat, 1 ≤ d → d < 10 → (G i (slotF g d), Gc i (slotF g d)) = bmF (v d) wo MORE (E i (slotF g d)) b) ∧ (∀ s : Nat, (∀ d : Nat, d < 10 → ¬ s = slotF g d) → G i s = F i s ∧ Gc i s = E i s)
theorem CF.z {i : Nat} {g : Int32} {w : Int64} {wo : Int32} {v : Nat → Nat → Int64} {G F : Nat → Nat → Int64} {E : Nat → Nat → Int32} (h : CI0 i g w 10 G F) : CF i g w wo v 0 G F E E :=
  ⟨fun m hm => ⟨h.1 m hm, rfl⟩, h.2.1, fun d h1 h2 => by rw [h.2.2.1 d h1 h2]; rfl, fun s hs => ⟨h.2.2.2 s hs, rfl⟩⟩
theorem CF.ex {i : Nat} {g : Int32} {w : Int64} {wo : Int32} {v : Nat → Nat → Int64} {b : Nat} {G F : Nat → Nat → Int64} {Gc E : Nat → Nat → Int32} (h : CF i g w wo v b G F Gc E) (e : nI b = wo) : CF i g w wo v (b + 1) G F Gc E := by
  refine ⟨h.1, h.2.1, fun d h1 h2 => ?_, h.2.2.2⟩
  show _ = (if nI b = wo then bmF (v d) wo MORE (E i (slotF g d)) b else if (v d b).toInt < (bmF (v d) wo MORE (E i (slotF g d)) b).1.toInt then (v d b, nI b) else bmF (v d) wo MORE (E i (slotF g d)) b)
  rw [if_pos e]
  exact h.2.2.1 d h1 h2
theorem CF.s {i : Nat} {g : Int32} {w : Int64} {wo : Int32} {v : Nat → Nat → Int64} {b : Nat} {G F G' : Nat → Nat → Int64} {Gc E Gc' : Nat → Nat → Int32} {mv : Nat → Int64} (h : CF i g w wo v b G F Gc E) (e : ¬ nI b = wo) (hw : WG i g mv b 10 G' G Gc' Gc) (hm : ∀ d : Nat, 1 ≤ d → d < 10 → mv d = v d b) : CF i g w wo v (b + 1) G' F Gc' E := by
  refine ⟨fun m hm => ⟨(hw.1 m hm).1.trans (h.1 m hm).1, (hw.1 m hm).2.trans (h.1 m hm).2⟩, ?_, fun d h1 h2 => ?_, fun s hs => ?_⟩
  · rw [(hw.2.2 (slotF g 0) (fun d h1 _ e => by have := sl_inj e; omega)).1]; exact h.2.1
  · rw [hw.2.1 d h1 h2, h.2.2.1 d h1 h2, hm d h1 h2]
    show _ = (if nI b = wo then bmF (v d) wo MORE (E i (slotF g d)) b else if (v d b).toInt < (bmF (v d) wo MORE (E i (slotF g d)) b).1.toInt then (v d b, nI b) else bmF (v d) wo MORE (E i (slotF g d)) b)
    rw [if_neg e]
    rfl
  · have t := hw.2.2 s (fun d _ h2 => hs d h2)
    have u := h.2.2.2 s hs
    exact ⟨t.1.trans u.1, t.2.trans u.2⟩
def bwV (H : Nat → Int32 → Nat → Int32) (N B : Nat) (wo : Int32) : Nat → Int32 → Nat → Int64
  | 0 => fun _ d => if d = 0 then 1 else 0
  | n + 1 => fun g d => if d = 0 then powF (n + 1) else (bmF (fun b => mxF (H (N - (n + 1)) g b) (bwV H N B wo n (nI b) (d - 1)) (bwV H N B wo n (nI b) (min 9 (d + 1)))) wo MORE 0 B).1
def VG (B : Nat) (g : Int32) : Prop := g = -4 ∨ ∃ a : Nat, a < B ∧ g = nI a
theorem sl_ne {g g' : Int32} {d d' : Nat} (hg : VG 6 g) (hg' : VG 6 g') (hd : d ≤ 9) (hd' : d' ≤ 9) (h : slotF g d = slotF g' d') : g = g' ∧ d = d' := by
  have m4 : (-4 : Int32).toInt = -4 := by decide
  have e : ∀ x : Int32, VG 6 x → (x = -4 ∧ (if x = -4 then 0 else x.toNatClampNeg + 1) = 0) ∨ (∃ a : Nat, a < 6 ∧ x = nI a ∧ (if x = -4 then 0 else x.toNatClampNeg + 1) = a + 1) := by
    intro x hx
    rcases hx with q | ⟨a, ha, q⟩
    · exact Or.inl ⟨q, if_pos q⟩
    · refine Or.inr ⟨a, ha, q, ?_⟩
      rw [if_neg (fun z => by rw [q] at z; have t := congrArg Int32.toInt z; rw [nI_toInt (by omega)] at t; omega), q, nI_clamp (by omega)]
  unfold slotF at h
  rcases e g hg with ⟨a1, a2⟩ | ⟨a, ha, a1, a2⟩
  · rcases e g' hg' with ⟨b1, b2⟩ | ⟨b, hb, b1, b2⟩
    · rw [a2, b2] at h; exact ⟨a1.trans b1.symm, by omega⟩
    · rw [a2, b2] at h; omega
  · rcases e g' hg' with ⟨b1, b2⟩ | ⟨b, hb, b1, b2⟩
    · rw [a2, b2] at h; omega
    · rw [a2, b2] at h
      have ab : a = b := by omega
      exact ⟨by rw [a1, b1, ab], by omega⟩
/-- a row of THE BEST as it should stand -/
def ROK (H : Nat → Int32 → Nat → Int32) (N B : Nat) (wo : Int32) (m : Nat) (g : Int32) (G : Nat → Nat → Int64) (Gc : Nat → Nat → Int32) : Prop := ∀ d : Nat, d ≤ 9 → G m (slotF g d) = bwV H N B wo (N - m) g d ∧ (m < N → 1 ≤ d → ∃ c0 : Int32, Gc m (slotF g d) = (bmF (fun b => mxF (H m g b) (bwV H N B wo (N - (m + 1)) (nI b) (d - 1)) (bwV H N B wo (N - (m + 1)) (nI b) (min 9 (d + 1)))) wo MORE c0 B).2)
def PLR (H : Nat → Int32 → Nat → Int32) (N B : Nat) (wo : Int32) (j : Nat) (G : Nat → Nat → Int64) (Gc : Nat → Nat → Int32) : Prop := ∀ m : Nat, j ≤ m → m ≤ N → ∀ g : Int32, VG B g → ROK H N B wo m g G Gc
def PLI (H : Nat → Int32 → Nat → Int32) (N B : Nat) (wo : Int32) (i a : Nat) (G : Nat → Nat → Int64) (Gc : Nat → Nat → Int32) : Prop := PLR H N B wo (i + 1) G Gc ∧ ∀ g : Int32, VG a g → ROK H N B wo i g G Gc
theorem PLR.z {H : Nat → Int32 → Nat → Int32} {N B : Nat} {wo : Int32} {G : Nat → Nat → Int64} {Gc : Nat → Nat → Int32} (hB : B ≤ 6) (h : ∀ s : Nat, s < 70 → G N s = if s % 10 = 0 then 1 else 0) : PLR H N B wo N G Gc := by
  intro m h1 h2 g hg d hd
  have em : m = N := by omega
  subst em
  refine ⟨?_, fun q => absurd q (Nat.lt_irrefl _)⟩
  have hs : slotF g d < 70 ∧ slotF g d % 10 = d := by
    unfold slotF
    rcases hg with q | ⟨a, ha, q⟩
    · rw [if_pos q]; omega
    · rw [q, nI_clamp (by omega)]; split <;> omega
  rw [h _ hs.1, hs.2, Nat.sub_self]
  rfl
theorem PLI.s {H : Nat → Int32 → Nat → Int32} {N B : Nat} {wo : Int32} {i a' : Nat} {g : Int32} {w : Int64} {v : Nat → Nat → Int64} {G G' : Nat → Nat → Int64} {Gc Gc' : Nat → Nat → Int32} (hi : i < N) (h : PLR H N B wo (i + 1) G Gc) (ho : ∀ x : Int32, VG a' x → x = g ∨ (VG 6 x ∧ ROK H N B wo i x G Gc)) (hg : VG 6 g) (hw : w = powF (N - i)) (hv : ∀ d b : Nat, 1 ≤ d → d < 10 → b < B → v d b = mxF (H i g b) (G (i + 1) (slotF (nI b) (d - 1))) (G (i + 1) (slotF (nI b) (min 9 (d + 1))))) (c : CF i g w wo v B G' G Gc' Gc) : PLI H N B wo i a' G' Gc' := by
  have keep : ∀ m : Nat, ¬ m = i → ∀ x : Int32, ROK H N B wo m x G Gc → ROK H N B wo m x G' Gc' := by
    intro m hm x hr d hd
    rw [(c.1 m hm).1, (c.1 m hm).2]
    exact hr d hd
  have new : ROK H N B wo i g G' Gc' := by
    intro d hd
    by_cases d0 : d = 0
    · subst d0
      refine ⟨?_, fun _ q => absurd q (by omega)⟩
      rw [c.2.1, hw, show N - i = (N - (i + 1)) + 1 by omega]
      rfl
    · have p := c.2.2.1 d (by omega) (by omega)
      have ev : bmF (v d) wo MORE (Gc i (slotF g d)) B = bmF (fun b => mxF (H i g b) (bwV H N B wo (N - (i + 1)) (nI b) (d - 1)) (bwV H N B wo (N - (i + 1)) (nI b) (min 9 (d + 1)))) wo MORE (Gc i (slotF g d)) B := by
        refine bm_cg B (fun b hb => ?_)
        rw [hv d b (by omega) (by omega) hb, (h (i + 1) (Nat.le_refl _) (by omega) (nI b) (Or.inr ⟨b, hb, rfl⟩) (d - 1) (by omega)).1, (h (i + 1) (Nat.le_refl _) (by omega) (nI b) (Or.inr ⟨b, hb, rfl⟩) (min 9 (d + 1)) (by omega)).1]
      rw [ev] at p
      refine ⟨?_, fun _ _ => ⟨Gc i (slotF g d), congrArg Prod.snd p⟩⟩
      have p1 := congrArg Prod.fst p
      refine p1.trans ?_
      rw [show N - i = (N - (i + 1)) + 1 by omega]
      show _ = (if d = 0 then powF (N - (i + 1) + 1) else (bmF (fun b => mxF (H (N - (N - (i + 1) + 1)) g b) (bwV H N B wo (N - (i + 1)) (nI b) (d - 1)) (bwV H N B wo (N - (i + 1)) (nI b) (min 9 (d + 1)))) wo MORE 0 B).1)
      rw [if_neg d0, show N - (N - (i + 1) + 1) = i by omega]
      exact bm_fst B
  refine ⟨fun m h1 h2 x hx => keep m (by omega) x (h m h1 h2 x hx), fun x hx => ?_⟩
  by_cases e : x = g
  · rw [e]; exact new
  · rcases ho x hx with q | ⟨q1, q2⟩
    · exact absurd q e
    · intro d hd
      have k := c.2.2.2 (slotF x d) (fun d' hd' z => e (sl_ne q1 hg hd (by omega) z).1)
      rw [k.1, k.2]
      exact q2 d hd
theorem PLI.n {H : Nat → Int32 → Nat → Int32} {N B : Nat} {wo : Int32} {i : Nat} {w : Int64} {v : Nat → Nat → Int64} {G G' : Nat → Nat → Int64} {Gc Gc' : Nat → Nat → Int32} (hi : i < N) (h : PLR H N B wo (i + 1) G Gc) (hw : w = powF (N - i)) (hv : ∀ d b : Nat, 1 ≤ d → d < 10 → b < B → v d b = mxF (H i (-4) b) (G (i + 1) (slotF (nI b) (d - 1))) (G (i + 1) (slotF (nI b) (min 9 (d + 1))))) (c : CF i (-4) w wo v B G' G Gc' Gc) : PLI H N B wo i 0 G' Gc' :=
  PLI.s hi h (fun x hx => Or.inl (hx.elim id (fun ⟨y, hy, _⟩ => absurd hy (Nat.not_lt_zero y)))) (Or.inl rfl) hw hv c
theorem PLI.a {H : Nat → Int32 → Nat → Int32} {N B : Nat} {wo : Int32} {i a : Nat} {w : Int64} {v : Nat → Nat → Int64} {G G' : Nat → Nat → Int64} {Gc Gc' : Nat → Nat → Int32} (hi : i < N) (hB : B ≤ 6) (ha : a < B) (h : PLI H N B wo i a G Gc) (hw : w = powF (N - i)) (hv : ∀ d b : Nat, 1 ≤ d → d < 10 → b < B → v d b = mxF (H i (nI a) b) (G (i + 1) (slotF (nI b) (d - 1))) (G (i + 1) (slotF (nI b) (min 9 (d + 1))))) (c : CF i (nI a) w wo v B G' G Gc' Gc) : PLI H N B wo i (a + 1) G' Gc' :=
  PLI.s hi h.1 (fun x hx => by
    rcases hx with q | ⟨y, hy, q⟩
    · exact Or.inr ⟨Or.inl q, h.2 x (Or.inl q)⟩
    · by_cases e : y = a
      · exact Or.inl (by rw [q, e])
      · exact Or.inr ⟨Or.inr ⟨y, by omega, q⟩, h.2 x (Or.inr ⟨y, by omega, q⟩)⟩) (Or.inr ⟨a, by omega, rfl⟩) hw hv c
theorem PLI.o {H : Nat → Int32 → Nat → Int32} {N B : Nat} {wo : Int32} {i : Nat} {G : Nat → Nat → Int64} {Gc : Nat → Nat → Int32} (h : PLI H N B wo i B G Gc) : PLR H N B wo i G Gc := by
  intro m h1 h2 g hg
  by_cases e : m = i
  · rw [e]; exact h.2 g hg
  · exact h.1 m (by omega) h2 g hg

-- THE BEST of the reference: pure parts; both sides' answers (draft)
def zbM (h : Int32) (x y : Int64) : Int64 := h.toInt64 * x + (20 - h).toInt64 * y
def zbH (fs : Nat → Int32) (i k b : Nat) : Int32 := if k < 10 then rhN fs i b 0 else rhB fs i (k / 10 - 1) b 0
def zbW (H : Nat → Nat → Nat → Int32) (g : Nat → Int64) (i k b : Nat) : Int64 := zbM (H i k b) (g (10 * (b + 1) + (k % 10 - 1))) (g (10 * (b + 1) + min 9 (k % 10 + 1)))
def FARL : Int64 := 4000000000000000000
def zbV (H : Nat → Nat → Nat → Int32) (N B : Nat) (wo : Int32) : Nat → Nat → Int64
  | 0 => fun k => if k % 10 = 0 then 1 else 0
  | n + 1 => fun k => if k % 10 = 0 then powF (n + 1) else (bmF (zbW H (zbV H N B wo n) (N - (n + 1)) k) wo FARL 0 B).1
theorem b1_w {fs : Nat → Int32} {f g : Nat → Int64} {i k b : Nat} (h1 : f (70 * (i + 1) + (10 * (b + 1) + (k % 10 - 1))) = g (10 * (b + 1) + (k % 10 - 1))) (h2 : f (70 * (i + 1) + (10 * (b + 1) + min 9 (k % 10 + 1))) = g (10 * (b + 1) + min 9 (k % 10 + 1))) : b1 fs f i k b = zbW (zbH fs) g i k b := by
  have a1 : 70 * (i + 1) + 10 * (b + 1) + (k % 10 - 1) = 70 * (i + 1) + (10 * (b + 1) + (k % 10 - 1)) := Nat.add_assoc _ _ _
  have a2 : 70 * (i + 1) + 10 * (b + 1) + min 9 (k % 10 + 1) = 70 * (i + 1) + (10 * (b + 1) + min 9 (k % 10 + 1)) := Nat.add_assoc _ _ _
  unfold b1 zbW zbM zbH b1N b1B
  rw [a1, a2, h1, h2]
  by_cases c : k < 10
  · rw [if_pos c, if_pos c]
  · rw [if_neg c, if_neg c]
def VK (B k : Nat) : Prop := k % 10 = 0 ∨ k < 10 ∨ k / 10 ≤ B
def zbR (fs : Nat → Int32) (N B : Nat) (wo : Int32) (j : Nat) (f : Nat → Int64) : Prop := ∀ i k : Nat, j ≤ i → i ≤ N → k < 70 → VK B k → f (70 * i + k) = zbV (zbH fs) N B wo (N - i) k
def zbK (fs : Nat → Int32) (N B : Nat) (wo : Int32) (i k : Nat) (f : Nat → Int64) : Prop := zbR fs N B wo (i + 1) f ∧ ∀ k' : Nat, k' < k → VK B k' → f (70 * i + k') = zbV (zbH fs) N B wo (N - i) k'
def zbB (fs : Nat → Int32) (N B : Nat) (wo : Int32) (i k b : Nat) (f : Nat → Int64) : Prop := zbK fs N B wo i k f ∧ ((k % 10 = 0 ∧ f (70 * i + k) = powF (N - i)) ∨ (k % 10 ≠ 0 ∧ f (70 * i + k) = (bmF (b1 fs f i k) wo FARL 0 b).1 ∧ (f (70 * i + k)).toInt ≤ 4000000000000000000))
def zbF (N j : Nat) (f : Nat → Int64) : Prop := ∀ k : Nat, k < j → f (70 * N + k) = if k % 10 = 0 then 1 else 0
theorem zbK.put {fs : Nat → Int32} {N B i k : Nat} {wo : Int32} {f : Nat → Int64} {v : Int64} (hk : k < 70) (h : zbK fs N B wo i k f) : zbK fs N B wo i k (vp_updL f (70 * i + k) v) :=
  ⟨fun i' k' h1 h2 h3 h4 => (upL_ne (by omega)).trans (h.1 i' k' h1 h2 h3 h4), fun k' hk' h4 => (upL_ne (by omega)).trans (h.2 k' hk' h4)⟩
theorem zbB.ini {fs : Nat → Int32} {N B i k : Nat} {wo : Int32} {f : Nat → Int64} {y : Int64} (h : zbK fs N B wo i k f) (hk : k < 70) (hc : (k % 10 = 0 ∧ y = powF (N - i)) ∨ (k % 10 ≠ 0 ∧ y = 4000000000000000000)) : zbB fs N B wo i k 0 (vp_updL f (70 * i + k) y) := by
  refine ⟨h.put hk, ?_⟩
  rw [upL_eq]
  rcases hc with hc | hc
  · exact Or.inl hc
  · exact Or.inr ⟨hc.1, hc.2, by rw [hc.2]; decide⟩
theorem bm_sc {v : Nat → Int64} {wo : Int32} {x0 : Int64} {c0 : Int32} {b : Nat} : bmF v wo x0 c0 (b + 1) = if nI b = wo then bmF v wo x0 c0 b else if (v b).toInt < (bmF v wo x0 c0 b).1.toInt then (v b, nI b) else bmF v wo x0 c0 b := rfl
theorem zbB.lt {fs : Nat → Int32} {N B i k b : Nat} {wo : Int32} {f : Nat → Int64} {v : Int64} (hk : k < 70) (hk0 : k % 10 ≠ 0) (hv : v = b1 fs f i k b) (hw : ¬ nI b = wo) (hc : v.toInt < (f (70 * i + k)).toInt) (h : zbB fs N B wo i k b f) : zbB fs N B wo i k (b + 1) (vp_updL f (70 * i + k) v) := by
  rcases h.2 with c | ⟨_, c1, c2⟩
  · exact absurd c.1 hk0
  · refine ⟨h.1.put hk, Or.inr ⟨hk0, ?_, ?_⟩⟩
    · have e : ∀ q : Nat, b1 fs (vp_updL f (70 * i + k) v) i k q = b1 fs f i k q := fun q => b1_cg (fun r hr => upL_ne (by omega))
      rw [upL_eq, bm_cg (v := b1 fs (vp_updL f (70 * i + k) v) i k) (v' := b1 fs f i k) (b + 1) (fun q _ => e q), bm_sc, if_neg hw, ← c1, ← hv, if_pos hc]
    · rw [upL_eq]; omega
theorem zbB.ge {fs : Nat → Int32} {N B i k b : Nat} {wo : Int32} {f : Nat → Int64} {v : Int64} (hk : k < 70) (hk0 : k % 10 ≠ 0) (hv : v = b1 fs f i k b) (hw : ¬ nI b = wo) (hc : (f (70 * i + k)).toInt ≤ v.toInt) (h : zbB fs N B wo i k b f) : zbB fs N B wo i k (b + 1) (vp_updL f (70 * i + k) (f (70 * i + k))) := by
  rcases h.2 with c | ⟨_, c1, c2⟩
  · exact absurd c.1 hk0
  · refine ⟨h.1.put hk, Or.inr ⟨hk0, ?_, ?_⟩⟩
    · have e : ∀ q : Nat, b1 fs (vp_updL f (70 * i + k) (f (70 * i + k))) i k q = b1 fs f i k q := fun q => b1_cg (fun r hr => upL_ne (by omega))
      rw [upL_eq, bm_cg (v := b1 fs (vp_updL f (70 * i + k) (f (70 * i + k))) i k) (v' := b1 fs f i k) (b + 1) (fun q _ => e q), bm_sc, if_neg hw, ← c1, ← hv, if_neg (by omega)]
      exact c1
    · rw [upL_eq]; exact c2
theorem zbB.wo {fs : Nat → Int32} {N B i k b : Nat} {wo : Int32} {f : Nat → Int64} (hk : k < 70) (hk0 : k % 10 ≠ 0) (hw : nI b = wo) (h : zbB fs N B wo i k b f) : zbB fs N B wo i k (b + 1) (vp_updL f (70 * i + k) (f (70 * i + k))) := by
  rcases h.2 with c | ⟨_, c1, c2⟩
  · exact absurd c.1 hk0
  · refine ⟨h.1.put hk, Or.inr ⟨hk0, ?_, ?_⟩⟩
    · have e : ∀ q : Nat, b1 fs (vp_updL f (70 * i + k) (f (70 * i + k))) i k q = b1 fs f i k q := fun q => b1_cg (fun r hr => upL_ne (by omega))
      rw [upL_eq, bm_cg (v := b1 fs (vp_updL f (70 * i + k) (f (70 * i + k))) i k) (v' := b1 fs f i k) (b + 1) (fun q _ => e q), bm_sc, if_pos hw]
      exact c1
    · rw [upL_eq]; exact c2
theorem zbB.no {fs : Nat → Int32} {N B i k b : Nat} {wo : Int32} {f : Nat → Int64} (hk0 : k % 10 ≠ 0) (hc : (4000000000000000000 : Int64).toInt < (f (70 * i + k)).toInt) (h : zbB fs N B wo i k b f) : False := by
  have z : (4000000000000000000 : Int64).toInt = 4000000000000000000 := by decide
  rcases h.2 with c | ⟨_, c1, c2⟩
  · exact hk0 c.1
  · omega
theorem zbB.out {fs : Nat → Int32} {N B i k b : Nat} {wo : Int32} {f : Nat → Int64} (hi : i < N) (hB : B ≤ 6) (hk : k < 70) (hc : b = B ∨ k % 10 = 0 ∨ (10 ≤ k ∧ B < k / 10)) (h : zbB fs N B wo i k b f) : zbK fs N B wo i (k + 1) f := by
  refine ⟨h.1.1, fun k' hk' hv => ?_⟩
  by_cases e : k' < k
  · exact h.1.2 k' e hv
  · have e2 : k' = k := by omega
    subst e2
    have en : N - i = (N - (i + 1)) + 1 := by omega
    rcases h.2 with c | ⟨c0, c1, _⟩
    · rw [c.2, en]
      show _ = (if k' % 10 = 0 then powF (N - (i + 1) + 1) else _)
      rw [if_pos c.1]
    · have hb : b = B := by
        unfold VK at hv
        omega
      rw [hb] at c1
      rw [c1, en]
      show _ = (if k' % 10 = 0 then powF (N - (i + 1) + 1) else (bmF (zbW (zbH fs) (zbV (zbH fs) N B wo (N - (i + 1))) (N - (N - (i + 1) + 1)) k') wo FARL 0 B).1)
      rw [if_neg c0, show N - (N - (i + 1) + 1) = i by omega]
      refine congrArg Prod.fst (bm_cg B (fun q hq => b1_w ?_ ?_))
      · exact h.1.1 (i + 1) (10 * (q + 1) + (k' % 10 - 1)) (Nat.le_refl _) (by omega) (by omega) (Or.inr (Or.inr (by omega)))
      · exact h.1.1 (i + 1) (10 * (q + 1) + min 9 (k' % 10 + 1)) (Nat.le_refl _) (by omega) (by omega) (Or.inr (Or.inr (by omega)))
theorem zbK.out {fs : Nat → Int32} {N B i k : Nat} {wo : Int32} {f : Nat → Int64} (hk : 70 ≤ k) (h : zbK fs N B wo i k f) : zbR fs N B wo i f := fun i' k' h1 h2 h3 h4 => by
  by_cases e : i' = i
  · rw [e]; exact h.2 k' (by omega) h4
  · exact h.1 i' k' (by omega) h2 h3 h4
theorem zbR.k0 {fs : Nat → Int32} {N B i : Nat} {wo : Int32} {f : Nat → Int64} (h : zbR fs N B wo (i + 1) f) : zbK fs N B wo i 0 f := ⟨h, fun k' hk' => absurd hk' (Nat.not_lt_zero _)⟩
theorem zbF.put {N j : Nat} {f : Nat → Int64} {y : Int64} (h : zbF N j f) (hy : y = if j % 10 = 0 then 1 else 0) : zbF N (j + 1) (vp_updL f (70 * N + j) y) := fun k hk => by
  by_cases e : k = j
  · rw [e, upL_eq]; exact hy
  · rw [upL_ne (by omega)]; exact h k (by omega)
theorem zbF.out {fs : Nat → Int32} {N B j : Nat} {wo : Int32} {f : Nat → Int64} (hj : 70 ≤ j) (h : zbF N j f) : zbR fs N B wo N f := fun i k h1 h2 h3 _ => by
  have e : i = N := by omega
  rw [e, Nat.sub_self]
  exact h k (by omega)
theorem zbR.b1 {fs : Nat → Int32} {N B i k b : Nat} {wo : Int32} {f : Nat → Int64} (h : zbR fs N B wo 0 f) (hB : B ≤ 6) (hi : i < N) (hb : b < B) : b1 fs f i k b = zbW (zbH fs) (zbV (zbH fs) N B wo (N - (i + 1))) i k b :=
  b1_w (h (i + 1) (10 * (b + 1) + (k % 10 - 1)) (Nat.zero_le _) (by omega) (by omega) (Or.inr (Or.inr (by omega)))) (h (i + 1) (10 * (b + 1) + min 9 (k % 10 + 1)) (Nat.zero_le _) (by omega) (by omega) (Or.inr (Or.inr (by omega))))
theorem b1_N {fs : Nat → Int32} {f : Nat → Int64} {i d b : Nat} (h : d ≤ 9) : b1 fs f i d b = b1N fs f i d b := by
  unfold b1
  rw [if_pos (by omega), Nat.mod_eq_of_lt (by omega)]
theorem b1_B {fs : Nat → Int32} {f : Nat → Int64} {i a d b : Nat} (h : d ≤ 9) : b1 fs f i (10 * (a + 1) + d) b = b1B fs f i a d b := by
  unfold b1
  rw [if_neg (by omega), show (10 * (a + 1) + d) % 10 = d by omega, show (10 * (a + 1) + d) / 10 - 1 = a by omega]
def nxP (fs : Nat → Int32) (N B : Nat) (i k b : Nat) : Prop := zbW (zbH fs) (zbV (zbH fs) N B (-4) (N - (i + 1))) i k b = zbV (zbH fs) N B (-4) (N - i) k
theorem sl_4 {d : Nat} : slotF (-4) d = d := by
  unfold slotF
  rw [if_pos rfl, Nat.zero_mul, Nat.zero_add]
theorem sl_n {a d : Nat} (h : a < 1000) : slotF (nI a) d = 10 * (a + 1) + d := by
  unfold slotF
  have m4 : (-4 : Int32).toInt = -4 := by decide
  rw [if_neg (fun z => by have t := congrArg Int32.toInt z; rw [nI_toInt (by omega), m4] at t; omega), nI_clamp (by omega)]
  omega
theorem zbR.xN {fs : Nat → Int32} {N B i d j : Nat} {f : Nat → Int64} (hB : B ≤ 6) (h : zbR fs N B (-4) 0 f) (hi : i < N) (h2 : d ≤ 9) (hj : j < B) (e : b1N fs f i d j = f (70 * i + d)) (hn : ∀ b8 : Nat, b8 < j → ¬ b1N fs f i d b8 = f (70 * i + d)) : nxP fs N B i (slotF (-4) d) j ∧ ∀ b8 : Nat, b8 < j → ¬ nxP fs N B i (slotF (-4) d) b8 := by
  have e9 := h i d (Nat.zero_le _) (by omega) (by omega) (Or.inr (Or.inl (by omega)))
  have k : ∀ b : Nat, b < B → (nxP fs N B i (slotF (-4) d) b ↔ b1N fs f i d b = f (70 * i + d)) := fun b hb => by
    unfold nxP
    rw [sl_4, ← h.b1 hB hi hb, ← e9, b1_N h2]
  exact ⟨(k j hj).mpr e, fun b8 h8 q => hn b8 h8 ((k b8 (by omega)).mp q)⟩
theorem zbR.xB {fs : Nat → Int32} {N B i a d j : Nat} {f : Nat → Int64} (hB : B ≤ 6) (h : zbR fs N B (-4) 0 f) (hi : i < N) (ha : a < B) (h2 : d ≤ 9) (hj : j < B) (e : b1B fs f i a d j = f (70 * i + 10 * (a + 1) + d)) (hn : ∀ b8 : Nat, b8 < j → ¬ b1B fs f i a d b8 = f (70 * i + 10 * (a + 1) + d)) : nxP fs N B i (slotF (nI a) d) j ∧ ∀ b8 : Nat, b8 < j → ¬ nxP fs N B i (slotF (nI a) d) b8 := by
  have e9 := h i (10 * (a + 1) + d) (Nat.zero_le _) (by omega) (by omega) (Or.inr (Or.inr (by omega)))
  have k : ∀ b : Nat, b < B → (nxP fs N B i (slotF (nI a) d) b ↔ b1B fs f i a d b = f (70 * i + 10 * (a + 1) + d)) := fun b hb => by
    unfold nxP
    rw [sl_n (by omega), ← h.b1 hB hi hb, ← e9, b1_B h2, Nat.add_assoc]
  exact ⟨(k j hj).mpr e, fun b8 h8 q => hn b8 h8 ((k b8 (by omega)).mp q)⟩

def lmap (E : Nat → Int32) : Nat → Int32 := fun q => if E q = -1 then -4 else E q
theorem lmap_upd {E : Nat → Int32} {k : Nat} {lane : Int32} (h : ¬ lane = -1) : upd (lmap E) k lane = lmap (upd E k lane) := by
  funext q
  show (if q = k then lane else lmap E q) = (if (if q = k then lane else E q) = -1 then -4 else (if q = k then lane else E q))
  by_cases c : q = k
  · rw [if_pos c, if_pos c, if_neg h]
  · rw [if_neg c, if_neg c]; rfl
theorem lmap_step {E : Nat → Int32} {k lane n : Int32} : (if ((0 ≤ k.toInt ∧ k.toInt < 4) ∧ (0 ≤ lane.toInt ∧ lane.toInt ≤ 2) ∧ n.toInt ≤ 40 ∧ 0 ≤ n.toInt) then upd (lmap E) k.toNatClampNeg lane else lmap E) = lmap (if ((0 ≤ k.toInt ∧ k.toInt < 4) ∧ (0 ≤ lane.toInt ∧ lane.toInt ≤ 2) ∧ n.toInt ≤ 40 ∧ 0 ≤ n.toInt) then upd E k.toNatClampNeg lane else E) := by
  split
  · rename_i h
    exact lmap_upd (fun e => by rw [e] at h; exact absurd h.2.1.1 (by decide))
  · rfl
theorem E_inv {E : Nat → Int32} {k lane n : Int32} (h : ∀ q : Nat, q < 4 → E q = -1 ∨ (0 ≤ (E q).toInt ∧ (E q).toInt ≤ 2)) : ∀ q : Nat, q < 4 → (if ((0 ≤ k.toInt ∧ k.toInt < 4) ∧ (0 ≤ lane.toInt ∧ lane.toInt ≤ 2) ∧ n.toInt ≤ 40 ∧ 0 ≤ n.toInt) then upd E k.toNatClampNeg lane else E) q = -1 ∨ (0 ≤ ((if ((0 ≤ k.toInt ∧ k.toInt < 4) ∧ (0 ≤ lane.toInt ∧ lane.toInt ≤ 2) ∧ n.toInt ≤ 40 ∧ 0 ≤ n.toInt) then upd E k.toNatClampNeg lane else E) q).toInt ∧ ((if ((0 ≤ k.toInt ∧ k.toInt < 4) ∧ (0 ≤ lane.toInt ∧ lane.toInt ≤ 2) ∧ n.toInt ≤ 40 ∧ 0 ≤ n.toInt) then upd E k.toNatClampNeg lane else E) q).toInt ≤ 2) := by
  intro q hq
  split
  · rename_i c
    show (if q = k.toNatClampNeg then lane else E q) = -1 ∨ (0 ≤ (if q = k.toNatClampNeg then lane else E q).toInt ∧ (if q = k.toNatClampNeg then lane else E q).toInt ≤ 2)
    split
    · exact Or.inr c.2.1
    · exact h q hq
  · exact h q hq
theorem lay_eq {E Z : Nat → Int32} {k i : Int32} (h : ∀ q : Nat, q < 4 → E q = -1 ∨ (0 ≤ (E q).toInt ∧ (E q).toInt ≤ 2)) : (if 0 ≤ k.toInt ∧ k.toInt < 4 then (if lmap E k.toNatClampNeg = -4 then -11 else if 0 ≤ i.toInt ∧ i.toInt < (Z k.toNatClampNeg).toInt then 1 else -12) else -1) = (if 0 ≤ k.toInt ∧ k.toInt < 4 then (if E k.toNatClampNeg = -1 then -11 else if 0 ≤ i.toInt ∧ i.toInt < (Z k.toNatClampNeg).toInt then 1 else -12) else (-1 : Int32)) := by
  split
  · rename_i c
    obtain ⟨j, hj, rfl⟩ := i32_nat (x := k) (n := 4) c.1 (by omega)
    rw [nI_clamp (by omega)]
    have e : (lmap E j = -4) = (E j = -1) := by
      apply propext
      constructor
      · intro q
        rcases h j hj with a | a
        · exact a
        · exfalso
          have q' : (if E j = -1 then (-4 : Int32) else E j) = -4 := q
          split at q'
          · rename_i b; rw [b] at a; exact absurd a.1 (by decide)
          · rw [q'] at a; exact absurd a.1 (by decide)
      · intro q
        show (if E j = -1 then (-4 : Int32) else E j) = -4
        rw [if_pos q]
    by_cases d : E j = -1
    · rw [if_pos d, if_pos (e ▸ d)]
    · rw [if_neg d, if_neg (fun z => d (e ▸ z))]
  · rfl
theorem Met.pick {l : Launch} {y : MethodName} {ws : List Cond} {rm : Room} {P' : Array Value → State → Prop} {Q' : Array Value → State → Outcome → State → Prop} {mc ms : Nat} {F' : Addr → Prop} (h : ∀ (a : Array Value) (st : State), P' a st → ∃ (P : Array Value → State → Prop) (Q : Array Value → State → Outcome → State → Prop) (F : Addr → Prop), Met l y ws rm P Q mc ms F ∧ P a st ∧ (∀ q : Nat, F q → F' q) ∧ ∀ (o : Outcome) (t : State), Q a st o t → Q' a st o t) : Met l y ws rm P' Q' mc ms F' := by
  unfold Met MetFree
  intro p e h1 h2 h3 s m args below h4 h5 h6 h7
  obtain ⟨P, Q, F, hM, hP, hF, hQ⟩ := h args s h6
  unfold Met MetFree at hM
  obtain ⟨n, o, a1, a2, a3, a4, L, a5, a6⟩ := hM p e h1 h2 h3 s m args below h4 h5 hP trivial
  exact ⟨n, o, a1, a2, a3, hQ _ _ a4, L, a5, fun q hq => hF _ (a6 q hq)⟩
theorem vpc {D : va_G} {cl : List vw_C} {q : Nat × va_E} {ws : va_W} {H : Heap} (h : va_at D cl q H) (hw : va_P D cl ws H) : va_P D cl (q :: ws) H := by
  intro k x hk
  cases k with
  | zero =>
    have e : q = x := Option.some.inj hk
    subst e
    exact h
  | succ k => exact hw k x hk
theorem vp_mid {D : va_G} {cl : List vw_C} {X B Y : va_W} {H : Heap} (h : va_P D cl (X ++ (B ++ Y)) H) : va_P D cl B H := fun k q hk => h (X.length + k) q (by
  rw [List.getElem?_append_right (by omega), Nat.add_sub_cancel_left, List.getElem?_append_left (List.getElem?_eq_some_iff.mp hk).1]
  exact hk)
theorem vp_mid2 {D : va_G} {cl : List vw_C} {X A B Y : va_W} {H : Heap} (h : va_P D cl (X ++ (A ++ (B ++ Y))) H) : va_P D cl B H := vp_mid (X := X ++ A) (B := B) (Y := Y) (by rw [List.append_assoc]; exact h)
theorem blk_kept {D : va_G} {cl : List vw_C} {N : Nat} {f : Nat → Nat × va_E} {H H1 : Heap} (hb : va_P D cl ((List.range N).map f) H) (hk : ∀ i : Nat, i < N → (f i).1 < H.size → H1[(f i).1]? = H[(f i).1]?) : va_P D cl ((List.range N).map f) H1 :=
  hb.kept (fun k q hq => by
    have hlt := (hb k q hq).lt
    have hkN : k < N := by
      have h9 := (List.getElem?_eq_some_iff.mp hq).1
      simpa using h9
    have e : f k = q := by
      rw [List.getElem?_map, List.getElem?_range hkN] at hq
      exact Option.some.inj hq
    subst e
    exact hk k hkN hlt)
def adInj (n : Nat) (ax : Nat → Nat) : Prop := ∀ i j : Nat, i < n → j < n → ax i = ax j → i = j
def adX (lo hi : Nat) (ax : Nat → Nat) (sz : Nat) : Nat → Prop := fun q => (∃ i : Nat, lo ≤ i ∧ i < hi ∧ q = ax i) ∨ sz ≤ q
theorem ix_at {ax : Nat → Nat} {ws : va_W} (is : List Nat) (h : ws.map Prod.fst = is.map ax) {k : Nat} {q : Nat × va_E} (hq : ws[k]? = some q) : ∃ x : Nat, is[k]? = some x ∧ ax x = q.1 := by
  have a1 : (ws.map Prod.fst)[k]? = some q.1 := by rw [List.getElem?_map, hq]; rfl
  rw [h, List.getElem?_map] at a1
  cases e : is[k]? with
  | none => rw [e] at a1; cases a1
  | some x => rw [e] at a1; exact ⟨x, rfl, Option.some.inj a1⟩
theorem vD_ix {n : Nat} {ax : Nat → Nat} (hi : adInj n ax) {ws : va_W} (is : List Nat) (h : ws.map Prod.fst = is.map ax) (hl : is.all (fun x => decide (x < n)) = true) (hn : va_nd is = true) : va_D (fun _ => True) ws := by
  refine ⟨fun i j p q hp hq e => ?_, fun _ _ _ => trivial⟩
  obtain ⟨x, e1, f1⟩ := ix_at is h hp
  obtain ⟨y, e2, f2⟩ := ix_at is h hq
  have lx : x < n := of_decide_eq_true (List.all_eq_true.mp hl x (List.mem_of_getElem? e1))
  have ly : y < n := of_decide_eq_true (List.all_eq_true.mp hl y (List.mem_of_getElem? e2))
  have exy : x = y := hi x y lx ly (by rw [f1, f2, e])
  subst exy
  exact va_nd_inj is hn i j x e1 e2
theorem fr_ix {n lo hi : Nat} {ax : Nat → Nat} (hi' : adInj n ax) (hhi : hi ≤ n) {ws : va_W} {H H1 : Heap} (hk : ∀ q : Nat, q < H.size → ¬ va_A ws H.size q → H1[q]? = H[q]?) (is : List Nat) (h : ws.map Prod.fst = is.map ax) (hl : is.all (fun x => decide (x < n)) = true) (hb : is.all (fun x => decide (x < lo) || decide (hi ≤ x)) = true) : ∀ j : Nat, lo ≤ j → j < hi → ax j < H.size → H1[ax j]? = H[ax j]? := by
  intro j h1 h2 h3
  refine hk _ h3 (fun hA => ?_)
  rcases hA with ⟨k, e, hke⟩ | h4
  · obtain ⟨x, e1, f1⟩ := ix_at is h hke
    have hm := List.mem_of_getElem? e1
    have lx : x < n := of_decide_eq_true (List.all_eq_true.mp hl x hm)
    have exj : x = j := hi' x j lx (by omega) f1
    subst exj
    have b := List.all_eq_true.mp hb x hm
    rcases Bool.or_eq_true _ _ |>.mp b with b | b
    · have := of_decide_eq_true b; omega
    · have := of_decide_eq_true b; omega
  · omega
theorem ad_ix {lo hi : Nat} {ax : Nat → Nat} {ws : va_W} {sz : Nat} (is : List Nat) (h : ws.map Prod.fst = is.map ax) (hl : is.all (fun x => decide (lo ≤ x) && decide (x < hi)) = true) : ∀ q : Nat, va_A ws sz q → adX lo hi ax sz q := by
  intro q hA
  rcases hA with ⟨k, e, hke⟩ | h4
  · obtain ⟨x, e1, f1⟩ := ix_at is h hke
    have b := (Bool.and_eq_true _ _).mp (List.all_eq_true.mp hl x (List.mem_of_getElem? e1))
    exact Or.inl ⟨x, of_decide_eq_true b.1, of_decide_eq_true b.2, f1.symm⟩
  · exact Or.inr h4
theorem va_F.wide {A B : Nat → Prop} {st t : State} (hF : va_F A st t) (h : ∀ q : Nat, A q → B q) : va_F B st t := ⟨hF.1, fun q h1 h2 => hF.2 q h1 (fun h3 => h2 (h q h3))⟩
theorem fr_ad {n lo hi lo' hi' : Nat} {ax : Nat → Nat} (hi0 : adInj n ax) (hn : hi ≤ n) (hn' : hi' ≤ n) (hd : hi ≤ lo' ∨ hi' ≤ lo) {H H1 : Heap} (hk : ∀ q : Nat, q < H.size → ¬ adX lo hi ax H.size q → H1[q]? = H[q]?) : ∀ j : Nat, lo' ≤ j → j < hi' → ax j < H.size → H1[ax j]? = H[ax j]? := by
  intro j h1 h2 h3
  refine hk _ h3 (fun hA => ?_)
  rcases hA with ⟨i, a, b, c⟩ | h4
  · have := hi0 j i (by omega) (by omega) c
    omega
  · omega
def PcI (av : List Value) (dC : Nat → ClassId) (dI : Nat → Nat → Nat) (G : Nat → ClassId) (I : Heap → Prop) (sz : Nat) : Array Value → State → Prop := va_Pc av (fun U => U.heap.size = sz ∧ I U.heap ∧ KK dC dI G U)
def PcIS (av : List Value) (dC : Nat → ClassId) (dI : Nat → Nat → Nat) (G : Nat → ClassId) (I : Heap → Prop) (adK adV : Nat → Nat) (A : Nat → Prop) (sz : Nat) : Array Value → State → Prop := va_Pc av (fun U => U.heap.size = sz ∧ I U.heap ∧ KK dC dI G U ∧ SS adK adV A U U.heap)
theorem PcI.blind {av : List Value} {dC : Nat → ClassId} {dI : Nat → Nat → Nat} {G : Nat → ClassId} {I : Heap → Prop} {sz : Nat} : FrameBlind (PcI av dC dI G I sz) := fun a U g mk q => by
  obtain ⟨q0, q1, q2, q3⟩ := q
  exact ⟨q0, q1, q2, KK.calling (U := U) (V := U.calling g mk a) rfl q3⟩
theorem PcIS.blind {av : List Value} {dC : Nat → ClassId} {dI : Nat → Nat → Nat} {G : Nat → ClassId} {I : Heap → Prop} {adK adV : Nat → Nat} {A : Nat → Prop} {sz : Nat} : FrameBlind (PcIS av dC dI G I adK adV A sz) := fun a U g mk q => by
  obtain ⟨q0, q1, q2, q3, q4⟩ := q
  exact ⟨q0, q1, q2, KK.calling (U := U) (V := U.calling g mk a) rfl q3, SS.calling (U := U) (V := U.calling g mk a) rfl q4⟩
theorem preVI {s : State} {H : Heap} {As : List Value} {b : Nat} {dC : Nat → ClassId} {dI : Nat → Nat → Nat} {G : Nat → ClassId} {I : Heap → Prop} {C : String} (hK : KK dC dI G s) (hI : I H) (hr : ∃ cellB : Cell, H[b]? = some cellB ∧ cellB.vm.isStatics = false ∧ s.vm.findClass C = some cellB.cls) : PreV s H C b (PcI (.ref b :: As) dC dI G I H.size) As :=
  ⟨PcI.blind, hr, fun U hU hW => ⟨rfl, by rw [hU], by rw [hU]; exact hI, hK.warm hW⟩⟩
theorem preVIS {s : State} {H : Heap} {As : List Value} {b : Nat} {dC : Nat → ClassId} {dI : Nat → Nat → Nat} {G : Nat → ClassId} {I : Heap → Prop} {C : String} {adK adV : Nat → Nat} {A B : Nat → Prop} {locs : List Loc} (hK : KK dC dI G s) (hI : I H) (hr : ∃ cellB : Cell, H[b]? = some cellB ∧ cellB.vm.isStatics = false ∧ s.vm.findClass C = some cellB.cls) (hSS : SS adK adV A s s.heap) (hS : va_S A s.heap H locs) (hB : ∀ q : Nat, B q → A q) : PreV s H C b (PcIS (.ref b :: As) dC dI G I adK adV B H.size) As :=
  ⟨PcIS.blind, hr, fun U hU hW => ⟨rfl, by rw [hU], by rw [hU]; exact hI, hK.warm hW, hSS.go hS hB hU hW⟩⟩
theorem SS.narrow {adK adV : Nat → Nat} {A B : Nat → Prop} {U : State} {H : Heap} (h : SS adK adV A U H) (hB : ∀ q : Nat, B q → A q) : SS adK adV B U H := ⟨h.1.narrow hB, h.2.1, h.2.2.1.narrow hB, h.2.2.2.narrow hB⟩
theorem ck4 {k : Int32} (h : 0 ≤ k.toInt ∧ k.toInt < 4) : k.toNatClampNeg < 4 := by
  have e : k.toNatClampNeg = k.toInt.toNat := rfl
  omega
theorem SR.puto {o N B N' B' : Nat} {i k : Int32} {st W : Nat → Int32} (h : SR o N' B' st W) (hN' : N' ≤ 10) (hB' : B' ≤ 6) (hN : N ≤ 10) (ho : o = 0 ∨ (49 ≤ o ∧ o ≤ 98)) : SR o N' B' (if ((0 ≤ i.toInt ∧ i.toInt < ((N : Nat) : Int)) ∧ (0 ≤ k.toInt ∧ k.toInt < ((B : Nat) : Int))) then upd st (38 + i.toNatClampNeg) k else st) W := by
  refine h.no3 ?_ hN' hB' ho
  split
  · rename_i c
    have := ck_lt c.1
    exact (NO.up (by omega)).n3
  · exact NO.rf.n3
theorem SO.no3 {o : Nat} {st st' O : Nat → Int32} (h : SO o st O) (g : NO3 st st') (ho : o = 87 ∨ o = 136) : SO o st' O := fun i hi => (g (o + i) (by omega) (by omega)).trans (h i hi)
theorem SO.eqq {o : Nat} {st st' O : Nat → Int32} (h : SO o st O) (g : ∀ q : Nat, st' q = st q) : SO o st' O := fun i hi => (g (o + i)).trans (h i hi)
theorem SO.bk0 {k : Int32} {K st O O1 O2 : Nat → Int32} (h : SO 38 st O) (h1 : SO 87 st O1) (h2 : SO 136 st O2) : SO 38 (if (0 ≤ k.toInt ∧ k.toInt < 2) ∧ ¬ K k.toNatClampNeg = 0 then cpj (49 * (k.toNatClampNeg + 1)) 0 49 st else st) (bkW k K O O1 O2) := by
  unfold bkW
  by_cases c : 0 ≤ k.toInt ∧ k.toInt < 2
  · rcases k01 c with e | e
    · subst e
      have e0 : (0 : Int32).toNatClampNeg = 0 := by decide
      by_cases d : K 0 = 0
      · rw [if_neg (fun z => z.2 (by rw [e0]; exact d)), if_neg (fun z => z.2 d), if_neg (fun z => absurd z.1 (by decide))]
        exact h
      · rw [if_pos ⟨c, by rw [e0]; exact d⟩, if_pos ⟨rfl, d⟩]
        intro i hi
        have q : cpj (49 * ((0 : Int32).toNatClampNeg + 1)) 0 49 st (0 + (38 + i)) = st (49 * ((0 : Int32).toNatClampNeg + 1) + (38 + i)) := cpj_in (by omega)
        rw [Nat.zero_add] at q
        refine q.trans ?_
        rw [e0]
        exact (congrArg st (by omega)).trans (h1 i hi)
    · subst e
      have e0 : (1 : Int32).toNatClampNeg = 1 := by decide
      by_cases d : K 1 = 0
      · rw [if_neg (fun z => z.2 (by rw [e0]; exact d)), if_neg (fun z => absurd z.1 (by decide)), if_neg (fun z => z.2 d)]
        exact h
      · rw [if_pos ⟨c, by rw [e0]; exact d⟩, if_neg (fun z => absurd z.1 (by decide)), if_pos ⟨rfl, d⟩]
        intro i hi
        have q : cpj (49 * ((1 : Int32).toNatClampNeg + 1)) 0 49 st (0 + (38 + i)) = st (49 * ((1 : Int32).toNatClampNeg + 1) + (38 + i)) := cpj_in (by omega)
        rw [Nat.zero_add] at q
        refine q.trans ?_
        rw [e0]
        exact (congrArg st (by omega)).trans (h2 i hi)
  · rw [if_neg (fun z => c z.1), if_neg (fun z => c (by rw [z.1]; decide)), if_neg (fun z => c (by rw [z.1]; decide))]
    exact h
theorem SO.bko {o : Nat} {k : Int32} {K st O : Nat → Int32} (h : SO o st O) (ho : 49 ≤ o) : SO o (if (0 ≤ k.toInt ∧ k.toInt < 2) ∧ ¬ K k.toNatClampNeg = 0 then cpj (49 * (k.toNatClampNeg + 1)) 0 49 st else st) O := by
  split
  · intro i hi
    exact (cpj_out (by omega)).trans (h i hi)
  · exact h
-- read
theorem rdAc {Z CE : Nat → Int32} {F : Nat → Nat → Int32} (h : CEc Z F CE) {k : Nat} (hk : k < 4) {L lane : Int32} {x : Int} {n : Nat} (c : Int) (hc : c = 0 ∨ c = 1) : ∀ q : Nat, q < tpK L lane (Z k).toInt x n → F k (x + 2 * (q : Int) + c).toNat = CE (40 * k + (x + 2 * (q : Int) + c).toNat) :=
  fun q hq => h k _ hk (by have t := tpK_in hq; omega)
theorem rdAr {Z fc CE : Nat → Int32} (h : CEr Z fc CE) {k : Nat} (hk : k < 4) {L lane : Int32} {x : Int} {n : Nat} (c : Int) (hc : c = 0 ∨ c = 1) : ∀ q : Nat, q < tpK L lane (Z k).toInt x n → fc (40 * k + (x + 2 * (q : Int) + c).toNat) = CE (40 * k + (x + 2 * (q : Int) + c).toNat) :=
  fun q hq => h k _ hk (by have t := tpK_in hq; omega)
theorem tpK_lm {E : Nat → Int32} {k n : Nat} {lane : Int32} {z x : Int} (hl : 0 ≤ lane.toInt) : tpK (lmap E k) lane z x n = tpK (E k) lane z x n := by
  unfold tpK
  have e : (lmap E k = lane) ↔ (E k = lane) := by
    show ((if E k = -1 then -4 else E k) = lane) ↔ _
    by_cases c : E k = -1
    · rw [if_pos c, c]
      constructor
      · intro q; rw [← q] at hl; exact absurd hl (by decide)
      · intro q; rw [← q] at hl; exact absurd hl (by decide)
    · rw [if_neg c]
  by_cases c : E k = lane
  · rw [if_pos c, if_pos (e.mpr c)]
  · rw [if_neg c, if_neg (fun q => c (e.mp q))]
theorem rd_c {N B : Nat} {k lane x1 n : Int32} {E Z CE : Nat → Int32} {F : Nat → Nat → Int32} (h : CEc Z F CE) : (if ((0 ≤ k.toInt ∧ k.toInt < 4) ∧ (0 ≤ lane.toInt ∧ lane.toInt ≤ 2) ∧ 0 ≤ n.toInt ∧ n.toInt ≤ 20) then rdR N B (fun q8 : Nat => F k.toNatClampNeg (x1.toInt + 2 * (q8 : Int) + 0).toNat) (fun q8 : Nat => F k.toNatClampNeg (x1.toInt + 2 * (q8 : Int) + 1).toNat) (tpK (E k.toNatClampNeg) lane (Z k.toNatClampNeg).toInt x1.toInt n.toNatClampNeg) else -1) = (if ((0 ≤ k.toInt ∧ k.toInt < 4) ∧ (0 ≤ lane.toInt ∧ lane.toInt ≤ 2) ∧ 0 ≤ n.toInt ∧ n.toInt ≤ 20) then rdR N B (fun q8 : Nat => CE (40 * k.toNatClampNeg + (x1.toInt + 2 * (q8 : Int) + 0).toNat)) (fun q8 : Nat => CE (40 * k.toNatClampNeg + (x1.toInt + 2 * (q8 : Int) + 1).toNat)) (tpK (E k.toNatClampNeg) lane (Z k.toNatClampNeg).toInt x1.toInt n.toNatClampNeg) else -1) :=
  cr_get (fun c => rdR_cg (rdAc h (ck4 c.1) 0 (Or.inl rfl)) (rdAc h (ck4 c.1) 1 (Or.inr rfl)))
theorem rd_r {N B : Nat} {k lane x1 n : Int32} {E Z CE fc : Nat → Int32} (h : CEr Z fc CE) : (if ((0 ≤ k.toInt ∧ k.toInt < 4) ∧ (0 ≤ lane.toInt ∧ lane.toInt ≤ 2) ∧ 0 ≤ n.toInt ∧ n.toInt ≤ 20) then rdR N B (fun q8 : Nat => fc (40 * k.toNatClampNeg + (x1.toInt + 2 * (q8 : Int) + 0).toNat)) (fun q8 : Nat => fc (40 * k.toNatClampNeg + (x1.toInt + 2 * (q8 : Int) + 1).toNat)) (tpK (lmap E k.toNatClampNeg) lane (Z k.toNatClampNeg).toInt x1.toInt n.toNatClampNeg) else -1) = (if ((0 ≤ k.toInt ∧ k.toInt < 4) ∧ (0 ≤ lane.toInt ∧ lane.toInt ≤ 2) ∧ 0 ≤ n.toInt ∧ n.toInt ≤ 20) then rdR N B (fun q8 : Nat => CE (40 * k.toNatClampNeg + (x1.toInt + 2 * (q8 : Int) + 0).toNat)) (fun q8 : Nat => CE (40 * k.toNatClampNeg + (x1.toInt + 2 * (q8 : Int) + 1).toNat)) (tpK (E k.toNatClampNeg) lane (Z k.toNatClampNeg).toInt x1.toInt n.toNatClampNeg) else -1) :=
  cr_get (fun c => by
    rw [tpK_lm c.2.1.1]
    exact rdR_cg (rdAr h (ck4 c.1) 0 (Or.inl rfl)) (rdAr h (ck4 c.1) 1 (Or.inr rfl)))
theorem OR.rd {N B : Nat} {k lane x1 n : Int32} {E Z CE f3 O : Nat → Int32} {F : Nat → Nat → Int32} (h : CEc Z F CE) (ho : OR f3 O) : OR (if ((0 ≤ k.toInt ∧ k.toInt < 4) ∧ (0 ≤ lane.toInt ∧ lane.toInt ≤ 2) ∧ 0 ≤ n.toInt ∧ n.toInt ≤ 20) then rdF N B (fun q8 : Nat => F k.toNatClampNeg (x1.toInt + 2 * (q8 : Int) + 0).toNat) (fun q8 : Nat => F k.toNatClampNeg (x1.toInt + 2 * (q8 : Int) + 1).toNat) (tpK (E k.toNatClampNeg) lane (Z k.toNatClampNeg).toInt x1.toInt n.toNatClampNeg) f3 else f3) (if ((0 ≤ k.toInt ∧ k.toInt < 4) ∧ (0 ≤ lane.toInt ∧ lane.toInt ≤ 2) ∧ 0 ≤ n.toInt ∧ n.toInt ≤ 20) then rdF N B (fun q8 : Nat => CE (40 * k.toNatClampNeg + (x1.toInt + 2 * (q8 : Int) + 0).toNat)) (fun q8 : Nat => CE (40 * k.toNatClampNeg + (x1.toInt + 2 * (q8 : Int) + 1).toNat)) (tpK (E k.toNatClampNeg) lane (Z k.toNatClampNeg).toInt x1.toInt n.toNatClampNeg) O else O) := by
  split
  · rename_i c
    intro i hi
    rw [rdF_cg (o := f3) (rdAc h (ck4 c.1) 0 (Or.inl rfl)) (rdAc h (ck4 c.1) 1 (Or.inr rfl))]
    exact rdF_pt (ho i hi)
  · exact ho
theorem SO.rd {N B : Nat} {k lane x1 n : Int32} {E Z CE fc st st' O : Nat → Int32} (h : CEr Z fc CE) (ho : SO 38 st O) (hu : ∀ x9 : Nat, x9 < 10 → st' (38 + x9) = (if ((0 ≤ k.toInt ∧ k.toInt < 4) ∧ (0 ≤ lane.toInt ∧ lane.toInt ≤ 2) ∧ 0 ≤ n.toInt ∧ n.toInt ≤ 20) then rdF N B (fun q8 : Nat => fc (40 * k.toNatClampNeg + (x1.toInt + 2 * (q8 : Int) + 0).toNat)) (fun q8 : Nat => fc (40 * k.toNatClampNeg + (x1.toInt + 2 * (q8 : Int) + 1).toNat)) (tpK (lmap E k.toNatClampNeg) lane (Z k.toNatClampNeg).toInt x1.toInt n.toNatClampNeg) (fun i9 => st (38 + i9)) else (fun i9 => st (38 + i9))) x9) : SO 38 st' (if ((0 ≤ k.toInt ∧ k.toInt < 4) ∧ (0 ≤ lane.toInt ∧ lane.toInt ≤ 2) ∧ 0 ≤ n.toInt ∧ n.toInt ≤ 20) then rdF N B (fun q8 : Nat => CE (40 * k.toNatClampNeg + (x1.toInt + 2 * (q8 : Int) + 0).toNat)) (fun q8 : Nat => CE (40 * k.toNatClampNeg + (x1.toInt + 2 * (q8 : Int) + 1).toNat)) (tpK (E k.toNatClampNeg) lane (Z k.toNatClampNeg).toInt x1.toInt n.toNatClampNeg) O else O) := by
  intro i hi
  rw [hu i hi]
  split
  · rename_i c
    rw [tpK_lm c.2.1.1, rdF_cg (rdAr h (ck4 c.1) 0 (Or.inl rfl)) (rdAr h (ck4 c.1) 1 (Or.inr rfl))]
    exact rdF_pt (ho i hi)
  · exact ho i hi
-- the cells of the sheets
theorem CEc.sh {k lane n : Int32} {Z CE : Nat → Int32} {F : Nat → Nat → Int32} (h : CEc Z F CE) (hz : ∀ q : Nat, q < 4 → 0 ≤ (Z q).toInt ∧ (Z q).toInt ≤ 40) : CEc (if ((0 ≤ k.toInt ∧ k.toInt < 4) ∧ (0 ≤ lane.toInt ∧ lane.toInt ≤ 2) ∧ n.toInt ≤ 40 ∧ 0 ≤ n.toInt) then upd Z k.toNatClampNeg n else Z) (if ((0 ≤ k.toInt ∧ k.toInt < 4) ∧ (0 ≤ lane.toInt ∧ lane.toInt ≤ 2) ∧ n.toInt ≤ 40 ∧ 0 ≤ n.toInt) then va_up F k.toNatClampNeg (zpF n.toNatClampNeg (F k.toNatClampNeg)) else F) (if ((0 ≤ k.toInt ∧ k.toInt < 4) ∧ (0 ≤ lane.toInt ∧ lane.toInt ≤ 2) ∧ n.toInt ≤ 40 ∧ 0 ≤ n.toInt) then zpg k.toNatClampNeg 40 CE else CE) := by
  by_cases c : ((0 ≤ k.toInt ∧ k.toInt < 4) ∧ (0 ≤ lane.toInt ∧ lane.toInt ≤ 2) ∧ n.toInt ≤ 40 ∧ 0 ≤ n.toInt)
  · rw [if_pos c, if_pos c, if_pos c]
    have hk := ck4 c.1
    have en : n.toNatClampNeg = n.toInt.toNat := rfl
    generalize k.toNatClampNeg = j at hk ⊢
    intro k' i h1 h2
    by_cases e : k' = j
    · subst e
      have h3 : (i : Int) < n.toInt := by
        have h3 : (i : Int) < (if k' = k' then n else Z k').toInt := h2
        rw [if_pos rfl] at h3
        exact h3
      show (if k' = k' then zpF n.toNatClampNeg (F k') else F k') i = (if 40 * k' ≤ 40 * k' + i ∧ 40 * k' + i < 40 * k' + 40 then 0 else CE (40 * k' + i))
      rw [if_pos rfl, if_pos (by omega)]
      show (if i < n.toNatClampNeg then 0 else F k' i) = 0
      rw [if_pos (by omega)]
    · have h3 : (i : Int) < (Z k').toInt := by
        have h3 : (i : Int) < (if k' = j then n else Z k').toInt := h2
        rw [if_neg e] at h3
        exact h3
      have hb := hz k' h1
      show (if k' = j then zpF n.toNatClampNeg (F j) else F k') i = (if 40 * j ≤ 40 * k' + i ∧ 40 * k' + i < 40 * j + 40 then 0 else CE (40 * k' + i))
      rw [if_neg e, if_neg (by omega)]
      exact h k' i h1 h3
  · rw [if_neg c, if_neg c, if_neg c]
    exact h
theorem CEr.sh {k lane n : Int32} {Z fc CE : Nat → Int32} (h : CEr Z fc CE) (hz : ∀ q : Nat, q < 4 → 0 ≤ (Z q).toInt ∧ (Z q).toInt ≤ 40) : CEr (if ((0 ≤ k.toInt ∧ k.toInt < 4) ∧ (0 ≤ lane.toInt ∧ lane.toInt ≤ 2) ∧ n.toInt ≤ 40 ∧ 0 ≤ n.toInt) then upd Z k.toNatClampNeg n else Z) (if ((0 ≤ k.toInt ∧ k.toInt < 4) ∧ (0 ≤ lane.toInt ∧ lane.toInt ≤ 2) ∧ n.toInt ≤ 40 ∧ 0 ≤ n.toInt) then zpg k.toNatClampNeg 40 fc else fc) (if ((0 ≤ k.toInt ∧ k.toInt < 4) ∧ (0 ≤ lane.toInt ∧ lane.toInt ≤ 2) ∧ n.toInt ≤ 40 ∧ 0 ≤ n.toInt) then zpg k.toNatClampNeg 40 CE else CE) := by
  by_cases c : ((0 ≤ k.toInt ∧ k.toInt < 4) ∧ (0 ≤ lane.toInt ∧ lane.toInt ≤ 2) ∧ n.toInt ≤ 40 ∧ 0 ≤ n.toInt)
  · rw [if_pos c, if_pos c, if_pos c]
    have hk := ck4 c.1
    have hn := c.2.2.1
    generalize k.toNatClampNeg = j at hk ⊢
    intro k' i h1 h2
    show (if 40 * j ≤ 40 * k' + i ∧ 40 * k' + i < 40 * j + 40 then 0 else fc (40 * k' + i)) = (if 40 * j ≤ 40 * k' + i ∧ 40 * k' + i < 40 * j + 40 then 0 else CE (40 * k' + i))
    by_cases e : k' = j
    · subst e
      have h3 : (i : Int) < n.toInt := by
        have h3 : (i : Int) < (if k' = k' then n else Z k').toInt := h2
        rw [if_pos rfl] at h3
        exact h3
      rw [if_pos (by omega), if_pos (by omega)]
    · have h3 : (i : Int) < (Z k').toInt := by
        have h3 : (i : Int) < (if k' = j then n else Z k').toInt := h2
        rw [if_neg e] at h3
        exact h3
      rw [h k' i h1 h3]
  · rw [if_neg c, if_neg c, if_neg c]
    exact h
theorem CEc.ly {k i v : Int32} {E Z CE : Nat → Int32} {F : Nat → Nat → Int32} (h : CEc Z F CE) (hz : ∀ q : Nat, q < 4 → 0 ≤ (Z q).toInt ∧ (Z q).toInt ≤ 40) : CEc Z (if ((0 ≤ k.toInt ∧ k.toInt < 4) ∧ ¬ E k.toNatClampNeg = -1 ∧ 0 ≤ i.toInt ∧ i.toInt < (Z k.toNatClampNeg).toInt) then va_up F k.toNatClampNeg (upd (F k.toNatClampNeg) i.toNatClampNeg (nrw (E k.toNatClampNeg) v)) else F) (if ((0 ≤ k.toInt ∧ k.toInt < 4) ∧ ¬ E k.toNatClampNeg = -1 ∧ 0 ≤ i.toInt ∧ i.toInt < (Z k.toNatClampNeg).toInt) then upd CE (40 * k.toNatClampNeg + i.toNatClampNeg) (nrw (E k.toNatClampNeg) v) else CE) := by
  by_cases c : ((0 ≤ k.toInt ∧ k.toInt < 4) ∧ ¬ E k.toNatClampNeg = -1 ∧ 0 ≤ i.toInt ∧ i.toInt < (Z k.toNatClampNeg).toInt)
  · rw [if_pos c, if_pos c]
    have hk := ck4 c.1
    have hi := c.2.2
    have ei : i.toNatClampNeg = i.toInt.toNat := rfl
    generalize k.toNatClampNeg = j at hk hi ⊢
    have hj := hz j hk
    intro k' q h1 h2
    have hb := hz k' h1
    show (if k' = j then upd (F j) i.toNatClampNeg (nrw (E j) v) else F k') q = (if 40 * k' + q = 40 * j + i.toNatClampNeg then nrw (E j) v else CE (40 * k' + q))
    by_cases e : k' = j
    · subst e
      rw [if_pos rfl]
      show (if q = i.toNatClampNeg then nrw (E k') v else F k' q) = _
      by_cases d : q = i.toNatClampNeg
      · rw [if_pos d, if_pos (by omega)]
      · rw [if_neg d, if_neg (by omega)]; exact h k' q h1 h2
    · rw [if_neg e, if_neg (by omega)]; exact h k' q h1 h2
  · rw [if_neg c, if_neg c]
    exact h
theorem lm_iff {E : Nat → Int32} {j : Nat} (h : ∀ q : Nat, q < 4 → E q = -1 ∨ (0 ≤ (E q).toInt ∧ (E q).toInt ≤ 2)) (hj : j < 4) : lmap E j = -4 ↔ E j = -1 := by
  constructor
  · intro q
    rcases h j hj with a | a
    · exact a
    · exfalso
      have q' : (if E j = -1 then (-4 : Int32) else E j) = -4 := q
      split at q'
      · rename_i b; rw [b] at a; exact absurd a.1 (by decide)
      · rw [q'] at a; exact absurd a.1 (by decide)
  · intro q
    show (if E j = -1 then (-4 : Int32) else E j) = -4
    rw [if_pos q]
theorem CEr.ly {k i v : Int32} {E Z fc CE : Nat → Int32} (hE : ∀ q : Nat, q < 4 → E q = -1 ∨ (0 ≤ (E q).toInt ∧ (E q).toInt ≤ 2)) (h : CEr Z fc CE) (hz : ∀ q : Nat, q < 4 → 0 ≤ (Z q).toInt ∧ (Z q).toInt ≤ 40) : CEr Z (if ((0 ≤ k.toInt ∧ k.toInt < 4) ∧ ¬ lmap E k.toNatClampNeg = -4 ∧ 0 ≤ i.toInt ∧ i.toInt < (Z k.toNatClampNeg).toInt) then upd fc (40 * k.toNatClampNeg + i.toNatClampNeg) (nrR (lmap E k.toNatClampNeg) v) else fc) (if ((0 ≤ k.toInt ∧ k.toInt < 4) ∧ ¬ E k.toNatClampNeg = -1 ∧ 0 ≤ i.toInt ∧ i.toInt < (Z k.toNatClampNeg).toInt) then upd CE (40 * k.toNatClampNeg + i.toNatClampNeg) (nrw (E k.toNatClampNeg) v) else CE) := by
  by_cases c : ((0 ≤ k.toInt ∧ k.toInt < 4) ∧ ¬ E k.toNatClampNeg = -1 ∧ 0 ≤ i.toInt ∧ i.toInt < (Z k.toNatClampNeg).toInt)
  · have hk := ck4 c.1
    have hi := c.2.2
    rw [if_pos c, if_pos ⟨c.1, fun q => c.2.1 ((lm_iff hE hk).mp q), c.2.2⟩]
    have el : lmap E k.toNatClampNeg = E k.toNatClampNeg := if_neg c.2.1
    rw [el, ← nrw_R]
    have ei : i.toNatClampNeg = i.toInt.toNat := rfl
    generalize k.toNatClampNeg = j at hk hi ⊢
    have hj := hz j hk
    intro k' q h1 h2
    have hb := hz k' h1
    show (if 40 * k' + q = 40 * j + i.toNatClampNeg then nrw (E j) v else fc (40 * k' + q)) = (if 40 * k' + q = 40 * j + i.toNatClampNeg then nrw (E j) v else CE (40 * k' + q))
    rw [h k' q h1 h2]
  · rw [if_neg c, if_neg (fun q => c ⟨q.1, fun z => q.2.1 ((lm_iff hE (ck4 q.1)).mpr z), q.2.2⟩)]
    exact h
-- answers
theorem pu_c {i k : Int32} {N B : Nat} {f3 O : Nat → Int32} (ho : OR f3 O) (hN : N ≤ 10) : (if ((0 ≤ i.toInt ∧ i.toInt < ((N : Nat) : Int)) ∧ (0 ≤ k.toInt ∧ k.toInt < ((B : Nat) : Int))) then f3 i.toNatClampNeg else -1) = (if ((0 ≤ i.toInt ∧ i.toInt < ((N : Nat) : Int)) ∧ (0 ≤ k.toInt ∧ k.toInt < ((B : Nat) : Int))) then O i.toNatClampNeg else -1) := cr_get (fun c => (ho _ (by have := ck_lt c.1; omega)).symm)
theorem pu_r {i k : Int32} {N B : Nat} {st O : Nat → Int32} (ho : SO 38 st O) (hN : N ≤ 10) : (if ((0 ≤ i.toInt ∧ i.toInt < ((N : Nat) : Int)) ∧ (0 ≤ k.toInt ∧ k.toInt < ((B : Nat) : Int))) then st (38 + i.toNatClampNeg) else -1) = (if ((0 ≤ i.toInt ∧ i.toInt < ((N : Nat) : Int)) ∧ (0 ≤ k.toInt ∧ k.toInt < ((B : Nat) : Int))) then O i.toNatClampNeg else -1) := cr_get (fun c => ho _ (by have := ck_lt c.1; omega))
def CLn (S : Nat) (z1 z2 z3 z4 LR : Nat → Int32) : Prop := ∀ q : Nat, q < S → LR (4 * q) = z1 q ∧ LR (4 * q + 1) = z2 q ∧ LR (4 * q + 2) = z3 q ∧ LR (4 * q + 3) = z4 q
def RLn (S : Nat) (fl LR : Nat → Int32) : Prop := ∀ x : Nat, x < 4 * S → fl x = LR x
theorem CLn.add {S : Nat} {z1 z2 z3 z4 LR : Nat → Int32} {C : Prop} [Decidable C] {i g k hm : Int32} (h : CLn S z1 z2 z3 z4 LR) : CLn (if C then S + 1 else S) (if C then upd z1 S i else z1) (if C then upd z2 S g else z2) (if C then upd z3 S k else z3) (if C then upd z4 S hm else z4) (if C then upd (upd (upd (upd LR (4 * S) i) (4 * S + 1) g) (4 * S + 2) k) (4 * S + 3) hm else LR) := by
  by_cases c : C
  · rw [if_pos c, if_pos c, if_pos c, if_pos c, if_pos c, if_pos c]
    intro q hq
    by_cases e : q = S
    · subst e
      unfold upd
      refine ⟨?_, ?_, ?_, ?_⟩
      · rw [if_neg (by omega), if_neg (by omega), if_neg (by omega), if_pos rfl, if_pos rfl]
      · rw [if_neg (by omega), if_neg (by omega), if_pos rfl, if_pos rfl]
      · rw [if_neg (by omega), if_pos rfl, if_pos rfl]
      · rw [if_pos rfl, if_pos rfl]
    · have b := h q (by omega)
      unfold upd
      refine ⟨?_, ?_, ?_, ?_⟩
      · rw [if_neg (by omega), if_neg (by omega), if_neg (by omega), if_neg (by omega), if_neg e]; exact b.1
      · rw [if_neg (by omega), if_neg (by omega), if_neg (by omega), if_neg (by omega), if_neg e]; exact b.2.1
      · rw [if_neg (by omega), if_neg (by omega), if_neg (by omega), if_neg (by omega), if_neg e]; exact b.2.2.1
      · rw [if_neg (by omega), if_neg (by omega), if_neg (by omega), if_neg (by omega), if_neg e]; exact b.2.2.2
  · rw [if_neg c, if_neg c, if_neg c, if_neg c, if_neg c, if_neg c]
    exact h
theorem RLn.add {S : Nat} {fl LR : Nat → Int32} {C : Prop} [Decidable C] {i g k hm : Int32} (h : RLn S fl LR) : RLn (if C then S + 1 else S) (if C then upd (upd (upd (upd fl (4 * S) i) (4 * S + 1) g) (4 * S + 2) k) (4 * S + 3) hm else fl) (if C then upd (upd (upd (upd LR (4 * S) i) (4 * S + 1) g) (4 * S + 2) k) (4 * S + 3) hm else LR) := by
  by_cases c : C
  · rw [if_pos c, if_pos c, if_pos c]
    intro x hx
    unfold upd
    by_cases e3 : x = 4 * S + 3
    · rw [if_pos e3, if_pos e3]
    rw [if_neg e3, if_neg e3]
    by_cases e2 : x = 4 * S + 2
    · rw [if_pos e2, if_pos e2]
    rw [if_neg e2, if_neg e2]
    by_cases e1 : x = 4 * S + 1
    · rw [if_pos e1, if_pos e1]
    rw [if_neg e1, if_neg e1]
    by_cases e0 : x = 4 * S
    · rw [if_pos e0, if_pos e0]
    rw [if_neg e0, if_neg e0]
    exact h x (by omega)
  · rw [if_neg c, if_neg c, if_neg c]
    exact h
theorem fg_le {S : Nat} {n : Int32} : (if 0 ≤ n.toInt ∧ n.toInt ≤ ((S : Nat) : Int) then n.toNatClampNeg else S) ≤ S := by
  have e : n.toNatClampNeg = n.toInt.toNat := rfl
  split <;> omega
theorem txS_le {f : Nat → Int32} {T S : Nat} : txS f T S ≤ S := by
  unfold txS
  split <;> omega
theorem CLn.le {S S' : Nat} {z1 z2 z3 z4 LR : Nat → Int32} (h : CLn S z1 z2 z3 z4 LR) (hs : S' ≤ S) : CLn S' z1 z2 z3 z4 LR := fun q hq => h q (by omega)
theorem RLn.le {S S' : Nat} {fl LR : Nat → Int32} (h : RLn S fl LR) (hs : S' ≤ S) : RLn S' fl LR := fun q hq => h q (by omega)
def CMk (M : Nat) (z1 z2 MR : Nat → Int32) : Prop := ∀ q : Nat, q < M → MR (2 * q) = z1 q ∧ MR (2 * q + 1) = z2 q
def RMk (M : Nat) (fm MR : Nat → Int32) : Prop := ∀ x : Nat, x < 2 * M → fm x = MR x
theorem CMk.add {M : Nat} {z1 z2 MR : Nat → Int32} {C : Prop} [Decidable C] {i d : Int32} (h : CMk M z1 z2 MR) : CMk (if C then M + 1 else M) (if C then upd z1 M i else z1) (if C then upd z2 M d else z2) (if C then upd (upd MR (2 * M) i) (2 * M + 1) d else MR) := by
  by_cases c : C
  · rw [if_pos c, if_pos c, if_pos c, if_pos c]
    intro q hq
    by_cases e : q = M
    · subst e
      unfold upd
      exact ⟨by rw [if_neg (by omega), if_pos rfl, if_pos rfl], by rw [if_pos rfl, if_pos rfl]⟩
    · have b := h q (by omega)
      unfold upd
      exact ⟨by rw [if_neg (by omega), if_neg (by omega), if_neg e]; exact b.1, by rw [if_neg (by omega), if_neg (by omega), if_neg e]; exact b.2⟩
  · rw [if_neg c, if_neg c, if_neg c, if_neg c]
    exact h
theorem RMk.add {M : Nat} {fm MR : Nat → Int32} {C : Prop} [Decidable C] {i d : Int32} (h : RMk M fm MR) : RMk (if C then M + 1 else M) (if C then upd (upd fm (2 * M) i) (2 * M + 1) d else fm) (if C then upd (upd MR (2 * M) i) (2 * M + 1) d else MR) := by
  by_cases c : C
  · rw [if_pos c, if_pos c, if_pos c]
    intro x hx
    unfold upd
    by_cases e1 : x = 2 * M + 1
    · rw [if_pos e1, if_pos e1]
    rw [if_neg e1, if_neg e1]
    by_cases e0 : x = 2 * M
    · rw [if_pos e0, if_pos e0]
    rw [if_neg e0, if_neg e0]
    exact h x (by omega)
  · rw [if_neg c, if_neg c, if_neg c]
    exact h
theorem CMk.le {S S' : Nat} {z1 z2 MR : Nat → Int32} (h : CMk S z1 z2 MR) (hs : S' ≤ S) : CMk S' z1 z2 MR := fun q hq => h q (by omega)
theorem RMk.le {S S' : Nat} {fm MR : Nat → Int32} (h : RMk S fm MR) (hs : S' ≤ S) : RMk S' fm MR := fun q hq => h q (by omega)
/-- what was learnt is of stretches and bearers that there are -/
def LVd (N B S : Nat) (LR : Nat → Int32) : Prop := ∀ q : Nat, q < S → (0 ≤ (LR (4 * q)).toInt ∧ (LR (4 * q)).toInt < ((N : Nat) : Int)) ∧ ((LR (4 * q + 1)).toInt = -4 ∨ (0 ≤ (LR (4 * q + 1)).toInt ∧ (LR (4 * q + 1)).toInt < ((B : Nat) : Int))) ∧ (0 ≤ (LR (4 * q + 2)).toInt ∧ (LR (4 * q + 2)).toInt < ((B : Nat) : Int))
theorem LVd.le {N B S S' : Nat} {LR : Nat → Int32} (h : LVd N B S LR) (hs : S' ≤ S) : LVd N B S' LR := fun q hq => h q (by omega)
theorem LVd.text {f : Nat → Int32} {T N B S : Nat} {LR : Nat → Int32} (h : LVd N B S LR) : LVd (txN f T N) (txB f T B) (txS f T S) LR := by
  unfold txN txB txS
  by_cases c : 0 < (txF f T).toInt
  · rw [if_pos c, if_pos c, if_pos c]; exact h
  · rw [if_neg c, if_neg c, if_neg c]
    exact fun q hq => absurd hq (Nat.not_lt_zero q)
theorem LVd.add {N B S : Nat} {i g k hm : Int32} {LR : Nat → Int32} (h : LVd N B S LR) : LVd N B (if ((0 ≤ i.toInt ∧ i.toInt < ((N : Nat) : Int)) ∧ (g.toInt = -4 ∨ (0 ≤ g.toInt ∧ g.toInt < ((B : Nat) : Int))) ∧ (0 ≤ k.toInt ∧ k.toInt < ((B : Nat) : Int)) ∧ 0 ≤ hm.toInt ∧ hm.toInt ≤ 20) ∧ S < 8 then S + 1 else S) (if ((0 ≤ i.toInt ∧ i.toInt < ((N : Nat) : Int)) ∧ (g.toInt = -4 ∨ (0 ≤ g.toInt ∧ g.toInt < ((B : Nat) : Int))) ∧ (0 ≤ k.toInt ∧ k.toInt < ((B : Nat) : Int)) ∧ 0 ≤ hm.toInt ∧ hm.toInt ≤ 20) ∧ S < 8 then upd (upd (upd (upd LR (4 * S) i) (4 * S + 1) g) (4 * S + 2) k) (4 * S + 3) hm else LR) := by
  by_cases c : ((0 ≤ i.toInt ∧ i.toInt < ((N : Nat) : Int)) ∧ (g.toInt = -4 ∨ (0 ≤ g.toInt ∧ g.toInt < ((B : Nat) : Int))) ∧ (0 ≤ k.toInt ∧ k.toInt < ((B : Nat) : Int)) ∧ 0 ≤ hm.toInt ∧ hm.toInt ≤ 20) ∧ S < 8
  · rw [if_pos c, if_pos c]
    intro q hq
    by_cases e : q = S
    · subst e
      unfold upd
      refine ⟨?_, ?_, ?_⟩
      · rw [if_neg (by omega), if_neg (by omega), if_neg (by omega), if_pos rfl]; exact c.1.1
      · rw [if_neg (by omega), if_neg (by omega), if_pos rfl]; exact c.1.2.1
      · rw [if_neg (by omega), if_pos rfl]; exact c.1.2.2.1
    · have b := h q (by omega)
      unfold upd
      refine ⟨?_, ?_, ?_⟩
      · rw [if_neg (by omega), if_neg (by omega), if_neg (by omega), if_neg (by omega)]; exact b.1
      · rw [if_neg (by omega), if_neg (by omega), if_neg (by omega), if_neg (by omega)]; exact b.2.1
      · rw [if_neg (by omega), if_neg (by omega), if_neg (by omega), if_neg (by omega)]; exact b.2.2
  · rw [if_neg c, if_neg c]
    exact h
theorem sdN_c {N B D : Nat} {f1 f2 f4 f5 f6 W : Nat → Int32} (h : CR N B (nI D) f1 f2 f4 f5 f6 W) (hD : D ≤ 9) : sdN W = D := by
  unfold sdN
  rw [h.1, Int32.sub_add_cancel, nI_clamp (by omega)]
theorem sdN_r {N B : Nat} {st W : Nat → Int32} (h : SR 0 N B st W) : sdN st = sdN W := by
  unfold sdN
  rw [h.g (Or.inl rfl)]
/-- the order is of bearers that there are -/
def VO (N B : Nat) (O : Nat → Int32) : Prop := ∀ i : Nat, i < N → 0 ≤ (O i).toInt ∧ (O i).toInt < ((B : Nat) : Int)
def XV (N B : Nat) (K O0 O1 O2 : Nat → Int32) : Prop := VO N B O0 ∧ (K 0 = 0 ∨ VO N B O1) ∧ (K 1 = 0 ∨ VO N B O2)
def OV (xb : Int32) (g : Nat → Int32) : Prop := ∀ i : Nat, i < 10 → g i = 0 ∨ (0 ≤ (g i).toInt ∧ (g i).toInt ≤ xb.toInt)
theorem tNN_in {f : Nat → Int32} {T : Nat} {lo hi : Int32} {c : CS5} (h : ¬ (tNN f T lo hi c).1 = 0) : lo.toInt ≤ (cVL f T (tNN f T lo hi c).2).toInt ∧ (cVL f T (tNN f T lo hi c).2).toInt ≤ hi.toInt := by
  have e : tNN f T lo hi c = (if tNG f T c = 0 then (0, tNT f T c) else if (tNT f T c).2.2.1 = 2 then (if cVL f T (tNT f T c) < lo then (0, cRF 3 (tNT f T c)) else if cVL f T (tNT f T c) ≤ hi then (1, tNT f T c) else (0, cRF 3 (tNT f T c))) else (0, cRF 2 (tNT f T c))) := rfl
  rw [e] at h ⊢
  by_cases a : tNG f T c = 0
  · rw [if_pos a] at h; exact absurd rfl h
  rw [if_neg a] at h ⊢
  by_cases b : (tNT f T c).2.2.1 = 2
  · rw [if_pos b] at h ⊢
    by_cases d : cVL f T (tNT f T c) < lo
    · rw [if_pos d] at h; exact absurd rfl h
    rw [if_neg d] at h ⊢
    by_cases g : cVL f T (tNT f T c) ≤ hi
    · rw [if_pos g]
      have d' : ¬ (cVL f T (tNT f T c)).toInt < lo.toInt := fun q => d (Int32.lt_iff_toInt_lt.mpr q)
      have g' := Int32.le_iff_toInt_le.mp g
      exact ⟨by show lo.toInt ≤ (cVL f T (tNT f T c)).toInt; omega, g'⟩
    · rw [if_neg g] at h; exact absurd rfl h
  · rw [if_neg b] at h; exact absurd rfl h
theorem mx_ge (x y : Int32) : x.toInt ≤ (mx x y).toInt ∧ y.toInt ≤ (mx x y).toInt := by
  unfold mx
  split <;> omega
theorem OV.up {xb b : Int32} {g : Nat → Int32} {k : Nat} (h : OV xb g) (hb : 0 ≤ b.toInt) : OV (mx xb b) (upd g k b) := by
  have m := mx_ge xb b
  intro i hi
  show (if i = k then b else g i) = 0 ∨ (0 ≤ (if i = k then b else g i).toInt ∧ (if i = k then b else g i).toInt ≤ (mx xb b).toInt)
  split
  · exact Or.inr ⟨hb, m.2⟩
  · rcases h i hi with a | a
    · exact Or.inl a
    · exact Or.inr ⟨a.1, by omega⟩
theorem cCR_OV {f : Nat → Int32} {T : Nat} {c : CS5} {ca xs xb : Int32} {g3 : Nat → Int32} (h : OV xb g3) : OV (cCR f T c ca xs xb g3).2.2.2.2.1 (cCR f T c ca xs xb g3).2.2.2.2.2 := by
  unfold cCR
  by_cases a : (tNN f T 0 9 c).1 = 0
  · rw [if_pos a]; exact h
  rw [if_neg a]
  by_cases b : (ca >>> (cVL f T (tNN f T 0 9 c).2 &&& 31)) &&& 1 = 1
  · rw [if_pos b]; exact h
  rw [if_neg b]
  by_cases d : (tNN f T 0 5 (tNN f T 0 9 c).2).1 = 0
  · rw [if_pos d]; exact h
  rw [if_neg d]
  have z : (0 : Int32).toInt = 0 := by decide
  have t := (tNN_in d).1
  exact h.up (by omega)
theorem cLN_OV {f : Nat → Int32} {T : Nat} {c : CS5} {st ca xs xb : Int32} {N B D : Nat} {g1 g2 g3 g4 g5 g6 : Nat → Int32} (h : OV xb g3) : OV (cLN f T c st ca xs xb N B D g1 g2 g3 g4 g5 g6).2.2.2.2.2.1 (cLN f T c st ca xs xb N B D g1 g2 g3 g4 g5 g6).2.2.2.2.2.2.2.2.2.2.2.1 := by
  unfold cLN
  by_cases i0 : cIN f c 0 = 0
  · rw [if_pos i0]
    by_cases i1 : cIN f c 1 = 0
    · rw [if_pos i1]
      by_cases i2 : cIN f c 2 = 0
      · rw [if_pos i2]
        by_cases i9 : cIN f c 9 = 0
        · rw [if_pos i9]; exact h
        · rw [if_neg i9]; exact cCR_OV h
      · rw [if_neg i2]; exact h
    · rw [if_neg i1]; exact h
  · rw [if_neg i0]; exact h
def OVq (q : CW) : Prop := OV q.2.2.2.2.1 q.2.2.2.2.2.2.2.2.2.2.1
theorem cLP_OV {f : Nat → Int32} {T : Nat} : ∀ (k : Nat) (q : CW) (n : Int32), OVq q → OVq (cLP f T k q n).1 := by
  intro k
  induction k with
  | zero => intro q n h; exact h
  | succ k ih =>
    intro q n h
    have hl : OVq (cLNq f T q).2 := cLN_OV h
    show OVq (if q.1.1 = 0 then (if q.1.2.2.1 = 0 then (q, n) else if (cLNq f T q).1 = 0 then cLP f T k (cLNq f T q).2 n else cLP f T k (cNTq f T (cLNq f T q).2) (n + 1)) else (q, n)).1
    by_cases a : q.1.1 = 0
    · rw [if_pos a]
      by_cases b : q.1.2.2.1 = 0
      · rw [if_pos b]; exact h
      rw [if_neg b]
      by_cases d : (cLNq f T q).1 = 0
      · rw [if_pos d]; exact ih _ _ hl
      · rw [if_neg d]
        have hl' : OVq (cNTq f T (cLNq f T q).2) := hl
        exact ih _ _ hl'
    · rw [if_neg a]; exact h
theorem cFN_ok {T : Nat} {q : CW} (h : (cFN T q).1 = 0) : q.2.2.2.2.1.toInt < ((q.2.2.2.2.2.2.1 : Nat) : Int) ∧ (0 < q.2.2.2.2.2.1 → ¬ q.2.2.2.2.2.2.1 = 0) := by
  unfold cFN at h
  by_cases a : q.1.1 = 0
  · rw [if_pos a] at h
    unfold cLB at h
    have bad : ∀ k : Int32, (cRT k T q.1).1 = k := fun k => if_pos a
    by_cases b : q.2.2.2.1.toInt < ((q.2.2.2.2.2.1 : Nat) : Int)
    · rw [if_pos b] at h
      by_cases c : q.2.2.2.2.1.toInt < ((q.2.2.2.2.2.2.1 : Nat) : Int)
      · rw [if_pos c] at h
        refine ⟨c, fun d e => ?_⟩
        rw [if_pos d, if_pos e, bad] at h
        exact absurd h (by decide)
      · rw [if_neg c, bad] at h
        exact absurd h (by decide)
    · rw [if_neg b, bad] at h
      exact absurd h (by decide)
  · rw [if_neg a] at h
    exact absurd h a
theorem tx_VO {f : Nat → Int32} {T : Nat} (h3 : T ≤ 320) (hF : ¬ 0 < (txF f T).toInt) : VO (TQ f T).1.2.1 (TQ f T).1.2.2.1 (fun i => (TQ f T).1.2.2.2.2.2.2.2 (38 + i)) := by
  have hO : OVq (cRA f T 0 (fun _ => 0) (fun _ => 0) (fun _ => 0) (fun _ => 0) (fun _ => 0) (fun _ => 0)).1 := cLP_OV _ _ _ (fun i hi => Or.inl (if_pos hi))
  have ts := text_sim (f := f) h3 0 (fun _ => 0) (fun _ => 0) (fun _ => 0) (fun _ => 0) (fun _ => 0) (fun _ => 0) 0 0 0 0 (fun _ => 0)
  unfold txF TQ at hF
  unfold TQ
  generalize cRA f T 0 (fun _ => 0) (fun _ => 0) (fun _ => 0) (fun _ => 0) (fun _ => 0) (fun _ => 0) = Q at hO ts
  generalize txQ f T 0 0 0 0 (fun _ => 0) = X at ts hF ⊢
  rcases ts with ⟨p, q, _, w, _⟩ | g
  · obtain ⟨⟨w1, w2, w3, w4, w5, w6⟩, w7, w8, w9, w10, w11⟩ := w
    have k := cFN_ok p
    intro i hi
    rw [← w5] at hi
    rw [← w6]
    have h10 : i < 10 := Nat.lt_of_lt_of_le hi w7.1
    show 0 ≤ (X.1.2.2.2.2.2.2.2 (38 + i)).toInt ∧ (X.1.2.2.2.2.2.2.2 (38 + i)).toInt < _
    rw [w10 i h10]
    have k2 : ¬ Q.1.2.2.2.2.2.2.1 = 0 := k.2 (by omega)
    rcases hO i h10 with a | a
    · have z : (0 : Int32).toInt = 0 := by decide
      rw [a, z]
      exact ⟨Int.le_refl 0, by omega⟩
    · exact ⟨a.1, by have k1 := k.1; have a2 := a.2; omega⟩
  · exact absurd g.pos hF
theorem tx_V {f : Nat → Int32} {T N B : Nat} {K O0 O1 O2 : Nat → Int32} (h3 : T ≤ 320) (h : XV N B K O0 O1 O2) : XV (txN f T N) (txB f T B) (txK f T K) (txO f T O0) O1 O2 := by
  unfold txN txB txK txO
  by_cases c : 0 < (txF f T).toInt
  · rw [if_pos c, if_pos c, if_pos c, if_pos c]; exact h
  · rw [if_neg c, if_neg c, if_neg c, if_neg c]
    exact ⟨tx_VO h3 c, Or.inl rfl, Or.inl rfl⟩
theorem pt_V {N B : Nat} {i k : Int32} {K O0 O1 O2 : Nat → Int32} (h : XV N B K O0 O1 O2) : XV N B K (if ((0 ≤ i.toInt ∧ i.toInt < ((N : Nat) : Int)) ∧ (0 ≤ k.toInt ∧ k.toInt < ((B : Nat) : Int))) then upd O0 i.toNatClampNeg k else O0) O1 O2 := by
  refine ⟨?_, h.2⟩
  split
  · rename_i c
    intro q hq
    show 0 ≤ (if q = i.toNatClampNeg then k else O0 q).toInt ∧ (if q = i.toNatClampNeg then k else O0 q).toInt < _
    split
    · exact c.2
    · exact h.1 q hq
  · exact h.1
theorem kp_V {N B : Nat} {k : Int32} {K O0 O1 O2 : Nat → Int32} (h : XV N B K O0 O1 O2) : XV N B (if (0 ≤ k.toInt ∧ k.toInt < 2) then upd K k.toNatClampNeg 1 else K) O0 (if k = 0 then O0 else O1) (if k = 1 then O0 else O2) := by
  by_cases c : 0 ≤ k.toInt ∧ k.toInt < 2
  · rw [if_pos c]
    rcases k01 c with e | e
    · subst e
      rw [if_pos rfl, if_neg (by decide)]
      exact ⟨h.1, Or.inr h.1, h.2.2⟩
    · subst e
      rw [if_neg (by decide), if_pos rfl]
      exact ⟨h.1, h.2.1, Or.inr h.1⟩
  · rw [if_neg c, if_neg (fun e => c (by rw [e]; decide)), if_neg (fun e => c (by rw [e]; decide))]
    exact h
theorem bk_V {N B : Nat} {k : Int32} {K O0 O1 O2 : Nat → Int32} (h : XV N B K O0 O1 O2) : XV N B K (bkW k K O0 O1 O2) O1 O2 := by
  refine ⟨?_, h.2⟩
  unfold bkW
  by_cases c : k = 0 ∧ ¬ K 0 = 0
  · rw [if_pos c]; exact h.2.1.resolve_left c.2
  rw [if_neg c]
  by_cases d : k = 1 ∧ ¬ K 1 = 0
  · rw [if_pos d]; exact h.2.2.resolve_left d.2
  rw [if_neg d]
  exact h.1
theorem rdO_V {N B : Nat} {a b o : Nat → Int32} (ho : VO N B o) : ∀ m : Nat, (∀ q : Nat, q < m → (0 ≤ (b q).toInt ∧ (b q).toInt < ((B : Nat) : Int))) → VO N B (rdO a b o m) := by
  intro m
  induction m with
  | zero => intro _; exact ho
  | succ m ih =>
    intro h i hi
    show 0 ≤ (if i = (a m).toNatClampNeg then b m else rdO a b o m i).toInt ∧ (if i = (a m).toNatClampNeg then b m else rdO a b o m i).toInt < _
    split
    · exact h m (by omega)
    · exact ih (fun q hq => h q (by omega)) i hi
theorem rdI_all {N B : Nat} {a b : Nat → Int32} : ∀ (n s : Nat), ¬ rdI N B a b n s < s + n → ∀ q : Nat, s ≤ q → q < s + n → (0 ≤ (b q).toInt ∧ (b q).toInt < ((B : Nat) : Int)) := by
  intro n
  induction n with
  | zero => intro s _ q h1 h2; exact absurd h2 (by omega)
  | succ n ih =>
    intro s h q h1 h2
    have h' : ¬ (if (0 ≤ (a s).toInt ∧ (a s).toInt < ((N : Nat) : Int)) ∧ (0 ≤ (b s).toInt ∧ (b s).toInt < ((B : Nat) : Int)) then rdI N B a b n (s + 1) else s) < s + (n + 1) := h
    by_cases c : (0 ≤ (a s).toInt ∧ (a s).toInt < ((N : Nat) : Int)) ∧ (0 ≤ (b s).toInt ∧ (b s).toInt < ((B : Nat) : Int))
    · rw [if_pos c] at h'
      by_cases e : q = s
      · rw [e]; exact c.2
      · exact ih (s + 1) (by omega) q (by omega) (by omega)
    · rw [if_neg c] at h'
      exact absurd (show s < s + (n + 1) by omega) h'
theorem rdF_V {N B m : Nat} {a b o : Nat → Int32} (ho : VO N B o) : VO N B (rdF N B a b m o) := by
  unfold rdF
  split
  · exact ho
  · rename_i c
    exact rdO_V ho m (fun q hq => rdI_all m 0 (by rw [Nat.zero_add]; exact c) q (Nat.zero_le q) (by omega))
theorem rd_V {N B m : Nat} {C : Prop} [Decidable C] {a b K O0 O1 O2 : Nat → Int32} (h : XV N B K O0 O1 O2) : XV N B K (if C then rdF N B a b m O0 else O0) O1 O2 := by
  refine ⟨?_, h.2⟩
  split
  · exact rdF_V h.1
  · exact h.1
-- harm in the order
def haO (N B : Nat) (W O : Nat → Int32) (j : Nat) : Int32 := haW N B W (nI j) (if j = 0 then -4 else O (j - 1)) (O j)
theorem haO_c {N B j : Nat} {d : Int32} {f1 f2 f3 f4 f5 f6 W O : Nat → Int32} (h : CR N B d f1 f2 f4 f5 f6 W) (ho : OR f3 O) (hv : VO N B O) (hN : N ≤ 10) (hB : B ≤ 6) (hj : j < N) : hmO N B f1 f2 f3 f4 f5 f6 (nI j) = haO N B W O j := by
  have tj : (nI j).toInt = (j : Int) := nI_toInt (by omega)
  unfold hmO haO
  rw [if_pos (by omega), nI_clamp (by omega), ← ho j (by omega)]
  have e1 : (if nI j = 0 then (-4 : Int32) else f3 (j - 1)) = (if j = 0 then -4 else O (j - 1)) := by
    by_cases c : j = 0
    · subst c; rw [if_pos (show nI 0 = (0 : Int32) from rfl), if_pos rfl]
    · rw [if_neg (fun e => c (by have t := congrArg Int32.toInt e; have z : (0 : Int32).toInt = 0 := by decide
                                 omega)), if_neg c, ho (j - 1) (by omega)]
  rw [e1]
  have m4 : (-4 : Int32).toInt = -4 := by decide
  have cg : (if j = 0 then (-4 : Int32) else O (j - 1)).toInt = -4 ∨ (0 ≤ (if j = 0 then (-4 : Int32) else O (j - 1)).toInt ∧ (if j = 0 then (-4 : Int32) else O (j - 1)).toInt < ((B : Nat) : Int)) := by
    by_cases c : j = 0
    · rw [if_pos c]; exact Or.inl m4
    · rw [if_neg c]; exact Or.inr (hv (j - 1) (by omega))
  have hh := ha_c (i := nI j) (g := if j = 0 then -4 else O (j - 1)) (k := O j) h hB
  rw [if_pos ⟨⟨by omega, by omega⟩, cg, hv j hj⟩] at hh
  exact hh
theorem haO_r {N B j : Nat} {st W O : Nat → Int32} (h : SR 0 N B st W) (ho : SO 38 st O) (hv : VO N B O) (hN : N ≤ 10) (hB : B ≤ 6) (hj : j < N) : rhO st j 0 = haO N B W O j := by
  have tj : (nI j).toInt = (j : Int) := nI_toInt (by omega)
  have m4 : (-4 : Int32).toInt = -4 := by decide
  have hb := hv j hj
  have eb : st (38 + j) = O j := ho j (by omega)
  unfold rhO haO
  rw [eb]
  by_cases c : j = 0
  · rw [if_pos c, if_pos c]
    have hh := ha_r (i := nI j) (g := -4) (k := O j) h
    rw [if_pos ⟨⟨by omega, by omega⟩, Or.inl m4, hb⟩, if_pos rfl, nI_clamp (by omega)] at hh
    exact hh
  · have ha := hv (j - 1) (by omega)
    have ea : st (38 + j - 1) = O (j - 1) := by rw [show 38 + j - 1 = 38 + (j - 1) by omega]; exact ho (j - 1) (by omega)
    rw [if_neg c, if_neg c, ea]
    have hh := ha_r (i := nI j) (g := O (j - 1)) (k := O j) h
    rw [if_pos ⟨⟨by omega, by omega⟩, Or.inr ha, hb⟩, if_neg (fun e => by rw [e] at ha; omega), nI_clamp (by omega)] at hh
    exact hh
def nzW (x : Int32) (W : Nat → Int32) : Nat → Int32 := fun q => if (q < 20 ∧ q % 2 = 0) ∧ ((x >>> (nI (q / 2) &&& 31)) &&& 1) = 1 then 0 else W q
theorem nzW_n {x : Int32} {W : Nat → Int32} {q : Nat} (h : ¬ (q < 20 ∧ q % 2 = 0)) : nzW x W q = W q := if_neg (fun z => h z.1)
theorem nzW_e {x : Int32} {W : Nat → Int32} {i : Nat} (h : i < 10) : nzW x W (2 * i) = if ((x >>> (nI i &&& 31)) &&& 1) = 1 then 0 else W (2 * i) := by
  unfold nzW
  rw [show 2 * i / 2 = i by omega]
  by_cases c : ((x >>> (nI i &&& 31)) &&& 1) = 1
  · rw [if_pos c, if_pos ⟨by omega, c⟩]
  · rw [if_neg c, if_neg (fun z => c z.2)]
theorem CR.nz {N B : Nat} {d x : Int32} {f1 f2 f4 f5 f6 W : Nat → Int32} (h : CR N B d f1 f2 f4 f5 f6 W) (hN : N ≤ 10) : CR N B d (nzS x f1) f2 f4 f5 f6 (nzW x W) := by
  refine ⟨(nzW_n (by omega)).trans h.1, fun i hi => ⟨?_, (nzW_n (by omega)).trans (h.2.1 i hi).2⟩, fun i hi => ⟨(nzW_n (by omega)).trans (h.2.2 i hi).1, (nzW_n (by omega)).trans (h.2.2 i hi).2.1, (nzW_n (by omega)).trans (h.2.2 i hi).2.2⟩⟩
  rw [nzW_e (by omega), (h.2.1 i hi).1]
  rfl
def alT (MR : Nat → Int32) (M : Nat) : Nat → Nat → Bool := fun ib qb => alB (fun q8 => MR (2 * q8)) (fun q8 => MR (2 * q8 + 1)) (nI ib) (nI qb) M
theorem alT_c {M : Nat} {z1 z2 MR : Nat → Int32} (h : CMk M z1 z2 MR) (i d : Nat) : alB z1 z2 (nI i) (nI d) M = alT MR M i d := al_cg M (fun q hq => ⟨(h q hq).1.symm, (h q hq).2.symm⟩)
theorem alT_r {M : Nat} {fm MR : Nat → Int32} (h : RMk M fm MR) (i d : Nat) : alB (fun qb => fm (2 * qb)) (fun qb => fm (2 * qb + 1)) (nI i) (nI d) M = alT MR M i d := al_cg M (fun q hq => ⟨h _ (by omega), h _ (by omega)⟩)
/-- both sides' trails, told by the way and by what was marked -/
theorem pa_c {N B D M : Nat} {f1 f2 f3 f4 f5 f6 z1 z2 W O MR : Nat → Int32} (h : CR N B (nI D) f1 f2 f4 f5 f6 W) (ho : OR f3 O) (hm : CMk M z1 z2 MR) (hv : VO N B O) (hN : N ≤ 10) (hB : B ≤ 6) (hD : 1 ≤ D ∧ D ≤ 9) : onS (fun jb => hmO N B f1 f2 f3 f4 f5 f6 (nI jb)) (fun ib qb => alB z1 z2 (nI ib) (nI qb) M) N N D = onS (haO N B W O) (alT MR M) N N (sdN W) := by
  rw [sdN_c h hD.2]
  exact onS_cg (fun j hj => haO_c h ho hv hN hB hj) (fun j q _ _ => alT_c hm j q) N (Nat.le_refl N) D (by omega)
theorem pa_r {N B M : Nat} {st fm W O MR : Nat → Int32} (h : SR 0 N B st W) (ho : SO 38 st O) (hm : RMk M fm MR) (hk : OKS st) (hv : VO N B O) (hN : N ≤ 10) (hB : B ≤ 6) : onS (fun jb => rhO st jb 0) (fun ib qb => alB (fun qb => fm (2 * qb)) (fun qb => fm (2 * qb + 1)) (nI ib) (nI qb) M) N N (sdN st) = onS (haO N B W O) (alT MR M) N N (sdN W) := by
  have s9 := (sdN_ok (hk 48 (by omega))).2.2
  rw [← sdN_r h]
  exact onS_cg (fun j hj => haO_r h ho hv hN hB hj) (fun j q _ _ => alT_r hm j q) N (Nat.le_refl N) _ (by omega)
def suM (what : Int32) (H : Nat → Int32) (AL : Nat → Nat → Bool) (D N i : Nat) : Int32 := if what = 0 then (if H i = 0 then 0 else faF (inS H AL D i) (onD (AL i) (onS H AL N (N - (i + 1)))) 9) else (if H i = 20 then 0 else riF (inS H AL D i) (onD (AL i) (onS H AL N (N - (i + 1)))) 9)
theorem suM_cg {what : Int32} {H H' : Nat → Int32} {AL AL' : Nat → Nat → Bool} {D N i : Nat} (hi : i < N) (h1 : ∀ j : Nat, j < N → H j = H' j) (h2 : ∀ j q : Nat, AL j q = AL' j q) : suM what H AL D N i = suM what H' AL' D N i := by
  have a := inS_cg (D := D) i (fun j hj => h1 j (by omega)) (fun j q _ _ => h2 j q)
  have b : ∀ q : Nat, q < 10 → onD (AL i) (onS H AL N (N - (i + 1))) q = onD (AL' i) (onS H' AL' N (N - (i + 1))) q := onD_cg (fun q _ => h2 i q) (onS_cg h1 (fun j q _ _ => h2 j q) (N - (i + 1)) (by omega))
  unfold suM
  rw [h1 i hi, faF_cg a b 9 (by decide), riF_cg a b 9 (by decide)]
theorem su_sn {what : Int32} {H : Nat → Int32} {AL : Nat → Nat → Bool} {D N i : Nat} : (if what = 0 then snF (inS H AL D i) (fun qd => if (¬ qd = 0 ∧ ¬ H i = 0) ∧ AL i (qd - 1) = true then onS H AL N (N - (i + 1)) (qd - 1) else 0) 10 else snF (inS H AL D i) (fun qd => if (¬ qd = 0 ∧ ¬ H i = 20) ∧ AL i (min 9 (qd + 1)) = true then onS H AL N (N - (i + 1)) (min 9 (qd + 1)) else 0) 10) = suM what H AL D N i := by
  unfold suM
  by_cases w : what = 0
  · rw [if_pos w, if_pos w]
    by_cases c : H i = 0
    · rw [if_pos c]
      exact sn_0 10 (fun d _ => if_neg (fun z => z.1.2 c))
    · rw [if_neg c]
      refine sn_fa (if_neg (fun z => z.1.1 rfl)) (fun d h1 h2 => ?_) 9 (Nat.le_refl 9)
      show (if (¬ d = 0 ∧ ¬ H i = 0) ∧ AL i (d - 1) = true then onS H AL N (N - (i + 1)) (d - 1) else 0) = (if AL i (d - 1) = true then onS H AL N (N - (i + 1)) (d - 1) else 0)
      by_cases a : AL i (d - 1) = true
      · rw [if_pos a, if_pos ⟨⟨by omega, c⟩, a⟩]
      · rw [if_neg a, if_neg (fun z => a z.2)]
  · rw [if_neg w, if_neg w]
    by_cases c : H i = 20
    · rw [if_pos c]
      exact sn_0 10 (fun d _ => if_neg (fun z => z.1.2 c))
    · rw [if_neg c]
      refine sn_ri (if_neg (fun z => z.1.1 rfl)) (fun d h1 h2 => ?_) 9 (Nat.le_refl 9)
      show (if (¬ d = 0 ∧ ¬ H i = 20) ∧ AL i (min 9 (d + 1)) = true then onS H AL N (N - (i + 1)) (min 9 (d + 1)) else 0) = (if AL i (min 9 (d + 1)) = true then onS H AL N (N - (i + 1)) (min 9 (d + 1)) else 0)
      by_cases a : AL i (min 9 (d + 1)) = true
      · rw [if_pos a, if_pos ⟨⟨by omega, c⟩, a⟩]
      · rw [if_neg a, if_neg (fun z => a z.2)]
theorem sv_c {what : Int32} {N B D M : Nat} {f1 f2 f3 f4 f5 f6 z1 z2 W O MR : Nat → Int32} (h : CR N B (nI D) f1 f2 f4 f5 f6 W) (ho : OR f3 O) (hm : CMk M z1 z2 MR) (hv : VO N B O) (hN : N ≤ 10) (hB : B ≤ 6) (hD : 1 ≤ D ∧ D ≤ 9) : (if (0 ≤ what.toInt ∧ what.toInt ≤ 1) then (if onS (fun jb => hmO N B f1 f2 f3 f4 f5 f6 (nI jb)) (fun ib qb => alB z1 z2 (nI ib) (nI qb) M) N N D = 0 then -4 else eyR (fun ib => decide ((if what = 0 then (if hmO N B f1 f2 f3 f4 f5 f6 (nI ib) = 0 then 0 else faF (inS (fun jb => hmO N B f1 f2 f3 f4 f5 f6 (nI jb)) (fun ib qb => alB z1 z2 (nI ib) (nI qb) M) D ib) (onD ((fun ib qb => alB z1 z2 (nI ib) (nI qb) M) ib) (onS (fun jb => hmO N B f1 f2 f3 f4 f5 f6 (nI jb)) (fun ib qb => alB z1 z2 (nI ib) (nI qb) M) N (N - (ib + 1)))) 9) else (if hmO N B f1 f2 f3 f4 f5 f6 (nI ib) = 20 then 0 else riF (inS (fun jb => hmO N B f1 f2 f3 f4 f5 f6 (nI jb)) (fun ib qb => alB z1 z2 (nI ib) (nI qb) M) D ib) (onD ((fun ib qb => alB z1 z2 (nI ib) (nI qb) M) ib) (onS (fun jb => hmO N B f1 f2 f3 f4 f5 f6 (nI jb)) (fun ib qb => alB z1 z2 (nI ib) (nI qb) M) N (N - (ib + 1)))) 9)) = onS (fun jb => hmO N B f1 f2 f3 f4 f5 f6 (nI jb)) (fun ib qb => alB z1 z2 (nI ib) (nI qb) M) N N D)) N) else -1) = (if (0 ≤ what.toInt ∧ what.toInt ≤ 1) then (if onS (haO N B W O) (alT MR M) N N (sdN W) = 0 then -4 else eyR (fun ib => decide (suM what (haO N B W O) (alT MR M) (sdN W) N ib = onS (haO N B W O) (alT MR M) N N (sdN W))) N) else -1) :=
  cr_get (fun c => by
    rw [pa_c h ho hm hv hN hB hD]
    congr 1
    refine eyR_cg N (fun i hi => ?_)
    have e : suM what (fun jb => hmO N B f1 f2 f3 f4 f5 f6 (nI jb)) (fun ib qb => alB z1 z2 (nI ib) (nI qb) M) D N i = suM what (haO N B W O) (alT MR M) (sdN W) N i := by
      rw [sdN_c h hD.2]
      exact suM_cg hi (fun j hj => haO_c h ho hv hN hB hj) (fun j q => alT_c hm j q)
    rw [← e]
    rfl)
theorem sv_r {what : Int32} {N B M : Nat} {st fm W O MR : Nat → Int32} (h : SR 0 N B st W) (ho : SO 38 st O) (hm : RMk M fm MR) (hk : OKS st) (hv : VO N B O) (hN : N ≤ 10) (hB : B ≤ 6) : (if (0 ≤ what.toInt ∧ what.toInt ≤ 1) then (if onS (fun jb => rhO st jb 0) (fun ib qb => alB (fun qb => fm (2 * qb)) (fun qb => fm (2 * qb + 1)) (nI ib) (nI qb) M) N N (sdN st) = 0 then -4 else eyR (fun ib => decide ((if what = 0 then snF (inS (fun jb => rhO st jb 0) (fun ib qb => alB (fun qb => fm (2 * qb)) (fun qb => fm (2 * qb + 1)) (nI ib) (nI qb) M) (sdN st) ib) (fun qd => if ((¬ qd = 0 ∧ ¬ rhO st ib 0 = 0) ∧ alB (fun qb => fm (2 * qb)) (fun qb => fm (2 * qb + 1)) (nI ib) (nI (qd - 1)) M = true) then onS (fun jb => rhO st jb 0) (fun ib qb => alB (fun qb => fm (2 * qb)) (fun qb => fm (2 * qb + 1)) (nI ib) (nI qb) M) N (N - (ib + 1)) (qd - 1) else 0) 10 else snF (inS (fun jb => rhO st jb 0) (fun ib qb => alB (fun qb => fm (2 * qb)) (fun qb => fm (2 * qb + 1)) (nI ib) (nI qb) M) (sdN st) ib) (fun qd => if ((¬ qd = 0 ∧ ¬ rhO st ib 0 = 20) ∧ alB (fun qb => fm (2 * qb)) (fun qb => fm (2 * qb + 1)) (nI ib) (nI (min 9 (qd + 1))) M = true) then onS (fun jb => rhO st jb 0) (fun ib qb => alB (fun qb => fm (2 * qb)) (fun qb => fm (2 * qb + 1)) (nI ib) (nI qb) M) N (N - (ib + 1)) (min 9 (qd + 1)) else 0) 10) = onS (fun jb => rhO st jb 0) (fun ib qb => alB (fun qb => fm (2 * qb)) (fun qb => fm (2 * qb + 1)) (nI ib) (nI qb) M) N N (sdN st))) N) else -1) = (if (0 ≤ what.toInt ∧ what.toInt ≤ 1) then (if onS (haO N B W O) (alT MR M) N N (sdN W) = 0 then -4 else eyR (fun ib => decide (suM what (haO N B W O) (alT MR M) (sdN W) N ib = onS (haO N B W O) (alT MR M) N N (sdN W))) N) else -1) :=
  cr_get (fun c => by
    rw [pa_r h ho hm hk hv hN hB]
    congr 1
    refine eyR_cg N (fun i hi => ?_)
    have e : suM what (fun jb => rhO st jb 0) (fun ib qb => alB (fun qb => fm (2 * qb)) (fun qb => fm (2 * qb + 1)) (nI ib) (nI qb) M) (sdN st) N i = suM what (haO N B W O) (alT MR M) (sdN W) N i := by
      rw [← sdN_r h]
      exact suM_cg hi (fun j hj => haO_r h ho hv hN hB hj) (fun j q => alT_r hm j q)
    rw [← e]
    exact congrArg (fun z => decide (z = onS (haO N B W O) (alT MR M) N N (sdN W))) su_sn)
def X10Pr (dC : Nat → ClassId) (dI : Nat → Nat → Nat) (G : Nat → ClassId) (ax : Nat → Nat) (fa : Int32) (H : Heap) : Prop := ∃ (zi0_13 : Int32), (va_at (dC, dI) vwCl (ax 0, .inr (10, [.ref (ax 1), .ref (ax 11), .ref (ax 18), .ref (ax 25), .ref (ax 40), .ref (ax 41), .ref (ax 44), .ref (ax 68), .ref (ax 69), .ref (ax 74), .ref (ax 77), .ref (ax 102), .int fa, .int zi0_13])) H)
theorem X10Pr.kept {dC : Nat → ClassId} {dI : Nat → Nat → Nat} {G : Nat → ClassId} {ax : Nat → Nat} {fa : Int32} {H H1 : Heap} (hk : ∀ j : Nat, 0 ≤ j → j < 1 → ax j < H.size → H1[ax j]? = H[ax j]?) (h : X10Pr dC dI G ax fa H) : X10Pr dC dI G ax fa H1 := by
  unfold X10Pr at h ⊢
  obtain ⟨zi0_13, q0⟩ := h
  exact ⟨zi0_13, q0.kept (hk 0 (by decide) (by decide) q0.lt)⟩
def X10P0 (dC : Nat → ClassId) (dI : Nat → Nat → Nat) (G : Nat → ClassId) (ax : Nat → Nat) (H : Heap) : Prop := ∃ (zi1_2 : Int32) (zi1_3 : Int32) (zi1_4 : Int32) (zi1_5 : Int32) (zi1_6 : Int32) (zi1_7 : Int32) (zi1_8 : Int32) (zi1_9 : Int32) (zi1_10 : Int32) (zi1_11 : Int32), (va_at (dC, dI) vwCl (ax 1, .inr (5, [.ref (ax 2), .ref (ax 4), .int zi1_2, .int zi1_3, .int zi1_4, .int zi1_5, .int zi1_6, .int zi1_7, .int zi1_8, .int zi1_9, .int zi1_10, .int zi1_11])) H)
theorem X10P0.kept {dC : Nat → ClassId} {dI : Nat → Nat → Nat} {G : Nat → ClassId} {ax : Nat → Nat} {H H1 : Heap} (hk : ∀ j : Nat, 1 ≤ j → j < 2 → ax j < H.size → H1[ax j]? = H[ax j]?) (h : X10P0 dC dI G ax H) : X10P0 dC dI G ax H1 := by
  unfold X10P0 at h ⊢
  obtain ⟨zi1_2, zi1_3, zi1_4, zi1_5, zi1_6, zi1_7, zi1_8, zi1_9, zi1_10, zi1_11, q1⟩ := h
  exact ⟨zi1_2, zi1_3, zi1_4, zi1_5, zi1_6, zi1_7, zi1_8, zi1_9, zi1_10, zi1_11, q1.kept (hk 1 (by decide) (by decide) q1.lt)⟩
def X10P0_0 (dC : Nat → ClassId) (dI : Nat → Nat → Nat) (G : Nat → ClassId) (ax : Nat → Nat) (T : Nat) (Y : Nat → Int32) (H : Heap) : Prop := (T ≤ 320) ∧ (va_at (dC, dI) vwCl (ax 2, .inr (7, [.int (nI T), .ref (ax 3)])) H) ∧ (va_at (dC, dI) vwCl (ax 3, .inl (G 0, 320, .inl Y)) H)
theorem X10P0_0.kept {dC : Nat → ClassId} {dI : Nat → Nat → Nat} {G : Nat → ClassId} {ax : Nat → Nat} {T : Nat} {Y : Nat → Int32} {H H1 : Heap} (hk : ∀ j : Nat, 2 ≤ j → j < 4 → ax j < H.size → H1[ax j]? = H[ax j]?) (h : X10P0_0 dC dI G ax T Y H) : X10P0_0 dC dI G ax T Y H1 := by
  unfold X10P0_0 at h ⊢
  obtain ⟨j0, q2, q3⟩ := h
  exact ⟨j0, q2.kept (hk 2 (by decide) (by decide) q2.lt), q3.kept (hk 3 (by decide) (by decide) q3.lt)⟩
def X10P0_1 (dC : Nat → ClassId) (dI : Nat → Nat → Nat) (G : Nat → ClassId) (ax : Nat → Nat) (H : Heap) : Prop := ∃ (zn4_0 : Nat) (zn4_1 : Nat) (zn4_2 : Nat) (zf5 : Nat → Int32) (zf6 : Nat → Int32) (zf7 : Nat → Int32) (zf8 : Nat → Int32) (zf9 : Nat → Int32) (zf10 : Nat → Int32), (zn4_0 ≤ 10) ∧ (zn4_1 ≤ 6) ∧ (1 ≤ zn4_2 ∧ zn4_2 ≤ 9) ∧ (va_at (dC, dI) vwCl (ax 4, .inr (9, [.int (nI zn4_0), .int (nI zn4_1), .int (nI zn4_2), .ref (ax 5), .ref (ax 6), .ref (ax 7), .ref (ax 8), .ref (ax 9), .ref (ax 10)])) H) ∧ (va_at (dC, dI) vwCl (ax 5, .inl (G 0, 10, .inl zf5)) H) ∧ (va_at (dC, dI) vwCl (ax 6, .inl (G 0, 10, .inl zf6)) H) ∧ (va_at (dC, dI) vwCl (ax 7, .inl (G 0, 10, .inl zf7)) H) ∧ (va_at (dC, dI) vwCl (ax 8, .inl (G 0, 6, .inl zf8)) H) ∧ (va_at (dC, dI) vwCl (ax 9, .inl (G 0, 6, .inl zf9)) H) ∧ (va_at (dC, dI) vwCl (ax 10, .inl (G 0, 6, .inl zf10)) H)
theorem X10P0_1.kept {dC : Nat → ClassId} {dI : Nat → Nat → Nat} {G : Nat → ClassId} {ax : Nat → Nat} {H H1 : Heap} (hk : ∀ j : Nat, 4 ≤ j → j < 11 → ax j < H.size → H1[ax j]? = H[ax j]?) (h : X10P0_1 dC dI G ax H) : X10P0_1 dC dI G ax H1 := by
  unfold X10P0_1 at h ⊢
  obtain ⟨zn4_0, zn4_1, zn4_2, zf5, zf6, zf7, zf8, zf9, zf10, j0, j1, j2, q4, q5, q6, q7, q8, q9, q10⟩ := h
  exact ⟨zn4_0, zn4_1, zn4_2, zf5, zf6, zf7, zf8, zf9, zf10, j0, j1, j2, q4.kept (hk 4 (by decide) (by decide) q4.lt), q5.kept (hk 5 (by decide) (by decide) q5.lt), q6.kept (hk 6 (by decide) (by decide) q6.lt), q7.kept (hk 7 (by decide) (by decide) q7.lt), q8.kept (hk 8 (by decide) (by decide) q8.lt), q9.kept (hk 9 (by decide) (by decide) q9.lt), q10.kept (hk 10 (by decide) (by decide) q10.lt)⟩
def X10P1 (dC : Nat → ClassId) (dI : Nat → Nat → Nat) (G : Nat → ClassId) (ax : Nat → Nat) (W0 : Nat → Int32) (N : Nat) (B : Nat) (O0 : Nat → Int32) (H : Heap) : Prop := ∃ (zn11_2 : Nat) (zf12 : Nat → Int32) (zf13 : Nat → Int32) (zf14 : Nat → Int32) (zf15 : Nat → Int32) (zf16 : Nat → Int32) (zf17 : Nat → Int32), (CR N B (nI zn11_2) zf12 zf13 zf15 zf16 zf17 W0) ∧ (OR zf14 O0) ∧ (N ≤ 10) ∧ (B ≤ 6) ∧ (1 ≤ zn11_2 ∧ zn11_2 ≤ 9) ∧ (va_at (dC, dI) vwCl (ax 11, .inr (9, [.int (nI N), .int (nI B), .int (nI zn11_2), .ref (ax 12), .ref (ax 13), .ref (ax 14), .ref (ax 15), .ref (ax 16), .ref (ax 17)])) H) ∧ (va_at (dC, dI) vwCl (ax 12, .inl (G 0, 10, .inl zf12)) H) ∧ (va_at (dC, dI) vwCl (ax 13, .inl (G 0, 10, .inl zf13)) H) ∧ (va_at (dC, dI) vwCl (ax 14, .inl (G 0, 10, .inl zf14)) H) ∧ (va_at (dC, dI) vwCl (ax 15, .inl (G 0, 6, .inl zf15)) H) ∧ (va_at (dC, dI) vwCl (ax 16, .inl (G 0, 6, .inl zf16)) H) ∧ (va_at (dC, dI) vwCl (ax 17, .inl (G 0, 6, .inl zf17)) H)
theorem X10P1.kept {dC : Nat → ClassId} {dI : Nat → Nat → Nat} {G : Nat → ClassId} {ax : Nat → Nat} {W0 : Nat → Int32} {N : Nat} {B : Nat} {O0 : Nat → Int32} {H H1 : Heap} (hk : ∀ j : Nat, 11 ≤ j → j < 18 → ax j < H.size → H1[ax j]? = H[ax j]?) (h : X10P1 dC dI G ax W0 N B O0 H) : X10P1 dC dI G ax W0 N B O0 H1 := by
  unfold X10P1 at h ⊢
  obtain ⟨zn11_2, zf12, zf13, zf14, zf15, zf16, zf17, j0, j1, j2, j3, j4, q11, q12, q13, q14, q15, q16, q17⟩ := h
  exact ⟨zn11_2, zf12, zf13, zf14, zf15, zf16, zf17, j0, j1, j2, j3, j4, q11.kept (hk 11 (by decide) (by decide) q11.lt), q12.kept (hk 12 (by decide) (by decide) q12.lt), q13.kept (hk 13 (by decide) (by decide) q13.lt), q14.kept (hk 14 (by decide) (by decide) q14.lt), q15.kept (hk 15 (by decide) (by decide) q15.lt), q16.kept (hk 16 (by decide) (by decide) q16.lt), q17.kept (hk 17 (by decide) (by decide) q17.lt)⟩
def X10P2 (dC : Nat → ClassId) (dI : Nat → Nat → Nat) (G : Nat → ClassId) (ax : Nat → Nat) (H : Heap) : Prop := ∃ (zn18_0 : Nat) (zn18_1 : Nat) (zn18_2 : Nat) (zf19 : Nat → Int32) (zf20 : Nat → Int32) (zf21 : Nat → Int32) (zf22 : Nat → Int32) (zf23 : Nat → Int32) (zf24 : Nat → Int32), (zn18_0 ≤ 10) ∧ (zn18_1 ≤ 6) ∧ (1 ≤ zn18_2 ∧ zn18_2 ≤ 9) ∧ (va_at (dC, dI) vwCl (ax 18, .inr (9, [.int (nI zn18_0), .int (nI zn18_1), .int (nI zn18_2), .ref (ax 19), .ref (ax 20), .ref (ax 21), .ref (ax 22), .ref (ax 23), .ref (ax 24)])) H) ∧ (va_at (dC, dI) vwCl (ax 19, .inl (G 0, 10, .inl zf19)) H) ∧ (va_at (dC, dI) vwCl (ax 20, .inl (G 0, 10, .inl zf20)) H) ∧ (va_at (dC, dI) vwCl (ax 21, .inl (G 0, 10, .inl zf21)) H) ∧ (va_at (dC, dI) vwCl (ax 22, .inl (G 0, 6, .inl zf22)) H) ∧ (va_at (dC, dI) vwCl (ax 23, .inl (G 0, 6, .inl zf23)) H) ∧ (va_at (dC, dI) vwCl (ax 24, .inl (G 0, 6, .inl zf24)) H)
theorem X10P2.kept {dC : Nat → ClassId} {dI : Nat → Nat → Nat} {G : Nat → ClassId} {ax : Nat → Nat} {H H1 : Heap} (hk : ∀ j : Nat, 18 ≤ j → j < 25 → ax j < H.size → H1[ax j]? = H[ax j]?) (h : X10P2 dC dI G ax H) : X10P2 dC dI G ax H1 := by
  unfold X10P2 at h ⊢
  obtain ⟨zn18_0, zn18_1, zn18_2, zf19, zf20, zf21, zf22, zf23, zf24, j0, j1, j2, q18, q19, q20, q21, q22, q23, q24⟩ := h
  exact ⟨zn18_0, zn18_1, zn18_2, zf19, zf20, zf21, zf22, zf23, zf24, j0, j1, j2, q18.kept (hk 18 (by decide) (by decide) q18.lt), q19.kept (hk 19 (by decide) (by decide) q19.lt), q20.kept (hk 20 (by decide) (by decide) q20.lt), q21.kept (hk 21 (by decide) (by decide) q21.lt), q22.kept (hk 22 (by decide) (by decide) q22.lt), q23.kept (hk 23 (by decide) (by decide) q23.lt), q24.kept (hk 24 (by decide) (by decide) q24.lt)⟩
def X10P3 (dC : Nat → ClassId) (dI : Nat → Nat → Nat) (G : Nat → ClassId) (ax : Nat → Nat) (H : Heap) : Prop := (va_at (dC, dI) vwCl (ax 25, .inl (G 3, 2, .inr (.inr (.inr (.inr (va_up (va_up (fun _ => none) 0 (some (ax 26))) 1 (some (ax 33)))))))) H)
theorem X10P3.kept {dC : Nat → ClassId} {dI : Nat → Nat → Nat} {G : Nat → ClassId} {ax : Nat → Nat} {H H1 : Heap} (hk : ∀ j : Nat, 25 ≤ j → j < 26 → ax j < H.size → H1[ax j]? = H[ax j]?) (h : X10P3 dC dI G ax H) : X10P3 dC dI G ax H1 := by
  unfold X10P3 at h ⊢
  have q25 := h
  exact q25.kept (hk 25 (by decide) (by decide) q25.lt)
def X10P3_0 (dC : Nat → ClassId) (dI : Nat → Nat → Nat) (G : Nat → ClassId) (ax : Nat → Nat) (W1 : Nat → Int32) (N1 : Nat) (B1 : Nat) (O1 : Nat → Int32) (H : Heap) : Prop := ∃ (zn26_2 : Nat) (zf27 : Nat → Int32) (zf28 : Nat → Int32) (zf29 : Nat → Int32) (zf30 : Nat → Int32) (zf31 : Nat → Int32) (zf32 : Nat → Int32), (CR N1 B1 (nI zn26_2) zf27 zf28 zf30 zf31 zf32 W1) ∧ (OR zf29 O1) ∧ (N1 ≤ 10) ∧ (B1 ≤ 6) ∧ (1 ≤ zn26_2 ∧ zn26_2 ≤ 9) ∧ (va_at (dC, dI) vwCl (ax 26, .inr (9, [.int (nI N1), .int (nI B1), .int (nI zn26_2), .ref (ax 27), .ref (ax 28), .ref (ax 29), .ref (ax 30), .ref (ax 31), .ref (ax 32)])) H) ∧ (va_at (dC, dI) vwCl (ax 27, .inl (G 0, 10, .inl zf27)) H) ∧ (va_at (dC, dI) vwCl (ax 28, .inl (G 0, 10, .inl zf28)) H) ∧ (va_at (dC, dI) vwCl (ax 29, .inl (G 0, 10, .inl zf29)) H) ∧ (va_at (dC, dI) vwCl (ax 30, .inl (G 0, 6, .inl zf30)) H) ∧ (va_at (dC, dI) vwCl (ax 31, .inl (G 0, 6, .inl zf31)) H) ∧ (va_at (dC, dI) vwCl (ax 32, .inl (G 0, 6, .inl zf32)) H)
theorem X10P3_0.kept {dC : Nat → ClassId} {dI : Nat → Nat → Nat} {G : Nat → ClassId} {ax : Nat → Nat} {W1 : Nat → Int32} {N1 : Nat} {B1 : Nat} {O1 : Nat → Int32} {H H1 : Heap} (hk : ∀ j : Nat, 26 ≤ j → j < 33 → ax j < H.size → H1[ax j]? = H[ax j]?) (h : X10P3_0 dC dI G ax W1 N1 B1 O1 H) : X10P3_0 dC dI G ax W1 N1 B1 O1 H1 := by
  unfold X10P3_0 at h ⊢
  obtain ⟨zn26_2, zf27, zf28, zf29, zf30, zf31, zf32, j0, j1, j2, j3, j4, q26, q27, q28, q29, q30, q31, q32⟩ := h
  exact ⟨zn26_2, zf27, zf28, zf29, zf30, zf31, zf32, j0, j1, j2, j3, j4, q26.kept (hk 26 (by decide) (by decide) q26.lt), q27.kept (hk 27 (by decide) (by decide) q27.lt), q28.kept (hk 28 (by decide) (by decide) q28.lt), q29.kept (hk 29 (by decide) (by decide) q29.lt), q30.kept (hk 30 (by decide) (by decide) q30.lt), q31.kept (hk 31 (by decide) (by decide) q31.lt), q32.kept (hk 32 (by decide) (by decide) q32.lt)⟩
def X10P3_1 (dC : Nat → ClassId) (dI : Nat → Nat → Nat) (G : Nat → ClassId) (ax : Nat → Nat) (W2 : Nat → Int32) (N2 : Nat) (B2 : Nat) (O2 : Nat → Int32) (H : Heap) : Prop := ∃ (zn33_2 : Nat) (zf34 : Nat → Int32) (zf35 : Nat → Int32) (zf36 : Nat → Int32) (zf37 : Nat → Int32) (zf38 : Nat → Int32) (zf39 : Nat → Int32), (CR N2 B2 (nI zn33_2) zf34 zf35 zf37 zf38 zf39 W2) ∧ (OR zf36 O2) ∧ (N2 ≤ 10) ∧ (B2 ≤ 6) ∧ (1 ≤ zn33_2 ∧ zn33_2 ≤ 9) ∧ (va_at (dC, dI) vwCl (ax 33, .inr (9, [.int (nI N2), .int (nI B2), .int (nI zn33_2), .ref (ax 34), .ref (ax 35), .ref (ax 36), .ref (ax 37), .ref (ax 38), .ref (ax 39)])) H) ∧ (va_at (dC, dI) vwCl (ax 34, .inl (G 0, 10, .inl zf34)) H) ∧ (va_at (dC, dI) vwCl (ax 35, .inl (G 0, 10, .inl zf35)) H) ∧ (va_at (dC, dI) vwCl (ax 36, .inl (G 0, 10, .inl zf36)) H) ∧ (va_at (dC, dI) vwCl (ax 37, .inl (G 0, 6, .inl zf37)) H) ∧ (va_at (dC, dI) vwCl (ax 38, .inl (G 0, 6, .inl zf38)) H) ∧ (va_at (dC, dI) vwCl (ax 39, .inl (G 0, 6, .inl zf39)) H)
theorem X10P3_1.kept {dC : Nat → ClassId} {dI : Nat → Nat → Nat} {G : Nat → ClassId} {ax : Nat → Nat} {W2 : Nat → Int32} {N2 : Nat} {B2 : Nat} {O2 : Nat → Int32} {H H1 : Heap} (hk : ∀ j : Nat, 33 ≤ j → j < 40 → ax j < H.size → H1[ax j]? = H[ax j]?) (h : X10P3_1 dC dI G ax W2 N2 B2 O2 H) : X10P3_1 dC dI G ax W2 N2 B2 O2 H1 := by
  unfold X10P3_1 at h ⊢
  obtain ⟨zn33_2, zf34, zf35, zf36, zf37, zf38, zf39, j0, j1, j2, j3, j4, q33, q34, q35, q36, q37, q38, q39⟩ := h
  exact ⟨zn33_2, zf34, zf35, zf36, zf37, zf38, zf39, j0, j1, j2, j3, j4, q33.kept (hk 33 (by decide) (by decide) q33.lt), q34.kept (hk 34 (by decide) (by decide) q34.lt), q35.kept (hk 35 (by decide) (by decide) q35.lt), q36.kept (hk 36 (by decide) (by decide) q36.lt), q37.kept (hk 37 (by decide) (by decide) q37.lt), q38.kept (hk 38 (by decide) (by decide) q38.lt), q39.kept (hk 39 (by decide) (by decide) q39.lt)⟩
def X10P4 (dC : Nat → ClassId) (dI : Nat → Nat → Nat) (G : Nat → ClassId) (ax : Nat → Nat) (K : Nat → Int32) (H : Heap) : Prop := (va_at (dC, dI) vwCl (ax 40, .inl (G 2, 2, .inl K)) H)
theorem X10P4.kept {dC : Nat → ClassId} {dI : Nat → Nat → Nat} {G : Nat → ClassId} {ax : Nat → Nat} {K : Nat → Int32} {H H1 : Heap} (hk : ∀ j : Nat, 40 ≤ j → j < 41 → ax j < H.size → H1[ax j]? = H[ax j]?) (h : X10P4 dC dI G ax K H) : X10P4 dC dI G ax K H1 := by
  unfold X10P4 at h ⊢
  have q40 := h
  exact q40.kept (hk 40 (by decide) (by decide) q40.lt)
def X10P5 (dC : Nat → ClassId) (dI : Nat → Nat → Nat) (G : Nat → ClassId) (ax : Nat → Nat) (H : Heap) : Prop := ∃ (zl41_0 : Int64) (zf42 : Nat → Int64) (zf43 : Nat → Int64), (va_at (dC, dI) vwCl (ax 41, .inr (4, [.long zl41_0, .ref (ax 42), .ref (ax 43)])) H) ∧ (va_at (dC, dI) vwCl (ax 42, .inl (G 1, 10, .inr (.inl zf42))) H) ∧ (va_at (dC, dI) vwCl (ax 43, .inl (G 1, 10, .inr (.inl zf43))) H)
theorem X10P5.kept {dC : Nat → ClassId} {dI : Nat → Nat → Nat} {G : Nat → ClassId} {ax : Nat → Nat} {H H1 : Heap} (hk : ∀ j : Nat, 41 ≤ j → j < 44 → ax j < H.size → H1[ax j]? = H[ax j]?) (h : X10P5 dC dI G ax H) : X10P5 dC dI G ax H1 := by
  unfold X10P5 at h ⊢
  obtain ⟨zl41_0, zf42, zf43, q41, q42, q43⟩ := h
  exact ⟨zl41_0, zf42, zf43, q41.kept (hk 41 (by decide) (by decide) q41.lt), q42.kept (hk 42 (by decide) (by decide) q42.lt), q43.kept (hk 43 (by decide) (by decide) q43.lt)⟩
def X10P6 (dC : Nat → ClassId) (dI : Nat → Nat → Nat) (G : Nat → ClassId) (ax : Nat → Nat) (H : Heap) : Prop := ∃ (zl44_0 : Int64) (zF47 : Nat → Nat → Int64) (zF58 : Nat → Nat → Int32), (va_at (dC, dI) vwCl (ax 44, .inr (0, [.long zl44_0, .ref (ax 45), .ref (ax 46)])) H) ∧ (va_at (dC, dI) vwCl (ax 45, .inl (G 5, 11, .inr (.inr (.inr (.inr (fun ir => if ir < 11 then some (ax (47 + ir)) else none)))))) H) ∧ (va_at (dC, dI) vwCl (ax 46, .inl (G 4, 10, .inr (.inr (.inr (.inr (fun ir => if ir < 10 then some (ax (58 + ir)) else none)))))) H) ∧ (va_P (dC, dI) vwCl (((List.range 11).map (fun iq => (ax (47 + iq), .inl (G 1, 70, .inr (.inl (zF47 iq)))))) : va_W) H) ∧ (va_P (dC, dI) vwCl (((List.range 10).map (fun iq => (ax (58 + iq), .inl (G 0, 70, .inl (zF58 iq))))) : va_W) H)
theorem X10P6.kept {dC : Nat → ClassId} {dI : Nat → Nat → Nat} {G : Nat → ClassId} {ax : Nat → Nat} {H H1 : Heap} (hk : ∀ j : Nat, 44 ≤ j → j < 68 → ax j < H.size → H1[ax j]? = H[ax j]?) (h : X10P6 dC dI G ax H) : X10P6 dC dI G ax H1 := by
  unfold X10P6 at h ⊢
  obtain ⟨zl44_0, zF47, zF58, q44, q45, q46, q47, q58⟩ := h
  exact ⟨zl44_0, zF47, zF58, q44.kept (hk 44 (by decide) (by decide) q44.lt), q45.kept (hk 45 (by decide) (by decide) q45.lt), q46.kept (hk 46 (by decide) (by decide) q46.lt), blk_kept q47 (fun i h1 h2 => hk (47 + i) (by omega) (by omega) h2), blk_kept q58 (fun i h1 h2 => hk (58 + i) (by omega) (by omega) h2)⟩
def X10P7 (dC : Nat → ClassId) (dI : Nat → Nat → Nat) (G : Nat → ClassId) (ax : Nat → Nat) (H : Heap) : Prop := ∃ (zi68_0 : Int32) (zi68_1 : Int32) (zi68_2 : Int32), (va_at (dC, dI) vwCl (ax 68, .inr (1, [.int zi68_0, .int zi68_1, .int zi68_2])) H)
theorem X10P7.kept {dC : Nat → ClassId} {dI : Nat → Nat → Nat} {G : Nat → ClassId} {ax : Nat → Nat} {H H1 : Heap} (hk : ∀ j : Nat, 68 ≤ j → j < 69 → ax j < H.size → H1[ax j]? = H[ax j]?) (h : X10P7 dC dI G ax H) : X10P7 dC dI G ax H1 := by
  unfold X10P7 at h ⊢
  obtain ⟨zi68_0, zi68_1, zi68_2, q68⟩ := h
  exact ⟨zi68_0, zi68_1, zi68_2, q68.kept (hk 68 (by decide) (by decide) q68.lt)⟩
def X10P8 (dC : Nat → ClassId) (dI : Nat → Nat → Nat) (G : Nat → ClassId) (ax : Nat → Nat) (S : Nat) (H : Heap) : Prop := ∃ (zf70 : Nat → Int32) (zf71 : Nat → Int32) (zf72 : Nat → Int32) (zf73 : Nat → Int32), (S ≤ 8) ∧ (va_at (dC, dI) vwCl (ax 69, .inr (2, [.int (nI S), .ref (ax 70), .ref (ax 71), .ref (ax 72), .ref (ax 73)])) H) ∧ (va_at (dC, dI) vwCl (ax 70, .inl (G 0, 8, .inl zf70)) H) ∧ (va_at (dC, dI) vwCl (ax 71, .inl (G 0, 8, .inl zf71)) H) ∧ (va_at (dC, dI) vwCl (ax 72, .inl (G 0, 8, .inl zf72)) H) ∧ (va_at (dC, dI) vwCl (ax 73, .inl (G 0, 8, .inl zf73)) H)
theorem X10P8.kept {dC : Nat → ClassId} {dI : Nat → Nat → Nat} {G : Nat → ClassId} {ax : Nat → Nat} {S : Nat} {H H1 : Heap} (hk : ∀ j : Nat, 69 ≤ j → j < 74 → ax j < H.size → H1[ax j]? = H[ax j]?) (h : X10P8 dC dI G ax S H) : X10P8 dC dI G ax S H1 := by
  unfold X10P8 at h ⊢
  obtain ⟨zf70, zf71, zf72, zf73, j0, q69, q70, q71, q72, q73⟩ := h
  exact ⟨zf70, zf71, zf72, zf73, j0, q69.kept (hk 69 (by decide) (by decide) q69.lt), q70.kept (hk 70 (by decide) (by decide) q70.lt), q71.kept (hk 71 (by decide) (by decide) q71.lt), q72.kept (hk 72 (by decide) (by decide) q72.lt), q73.kept (hk 73 (by decide) (by decide) q73.lt)⟩
def X10P9 (dC : Nat → ClassId) (dI : Nat → Nat → Nat) (G : Nat → ClassId) (ax : Nat → Nat) (M : Nat) (MR : Nat → Int32) (H : Heap) : Prop := ∃ (zf75 : Nat → Int32) (zf76 : Nat → Int32), (CMk M zf75 zf76 MR) ∧ (M ≤ 6) ∧ (va_at (dC, dI) vwCl (ax 74, .inr (3, [.int (nI M), .ref (ax 75), .ref (ax 76)])) H) ∧ (va_at (dC, dI) vwCl (ax 75, .inl (G 0, 6, .inl zf75)) H) ∧ (va_at (dC, dI) vwCl (ax 76, .inl (G 0, 6, .inl zf76)) H)
theorem X10P9.kept {dC : Nat → ClassId} {dI : Nat → Nat → Nat} {G : Nat → ClassId} {ax : Nat → Nat} {M : Nat} {MR : Nat → Int32} {H H1 : Heap} (hk : ∀ j : Nat, 74 ≤ j → j < 77 → ax j < H.size → H1[ax j]? = H[ax j]?) (h : X10P9 dC dI G ax M MR H) : X10P9 dC dI G ax M MR H1 := by
  unfold X10P9 at h ⊢
  obtain ⟨zf75, zf76, j0, j1, q74, q75, q76⟩ := h
  exact ⟨zf75, zf76, j0, j1, q74.kept (hk 74 (by decide) (by decide) q74.lt), q75.kept (hk 75 (by decide) (by decide) q75.lt), q76.kept (hk 76 (by decide) (by decide) q76.lt)⟩
def X10P10 (dC : Nat → ClassId) (dI : Nat → Nat → Nat) (G : Nat → ClassId) (ax : Nat → Nat) (H : Heap) : Prop := ∃ (zi77_0 : Int32) (zF80 : Nat → Nat → Int32) (zF91 : Nat → Nat → Int32), (va_at (dC, dI) vwCl (ax 77, .inr (8, [.int zi77_0, .ref (ax 78), .ref (ax 79)])) H) ∧ (va_at (dC, dI) vwCl (ax 78, .inl (G 4, 11, .inr (.inr (.inr (.inr (fun ir => if ir < 11 then some (ax (80 + ir)) else none)))))) H) ∧ (va_at (dC, dI) vwCl (ax 79, .inl (G 4, 11, .inr (.inr (.inr (.inr (fun ir => if ir < 11 then some (ax (91 + ir)) else none)))))) H) ∧ (va_P (dC, dI) vwCl (((List.range 11).map (fun iq => (ax (80 + iq), .inl (G 0, 10, .inl (zF80 iq))))) : va_W) H) ∧ (va_P (dC, dI) vwCl (((List.range 11).map (fun iq => (ax (91 + iq), .inl (G 0, 10, .inl (zF91 iq))))) : va_W) H)
theorem X10P10.kept {dC : Nat → ClassId} {dI : Nat → Nat → Nat} {G : Nat → ClassId} {ax : Nat → Nat} {H H1 : Heap} (hk : ∀ j : Nat, 77 ≤ j → j < 102 → ax j < H.size → H1[ax j]? = H[ax j]?) (h : X10P10 dC dI G ax H) : X10P10 dC dI G ax H1 := by
  unfold X10P10 at h ⊢
  obtain ⟨zi77_0, zF80, zF91, q77, q78, q79, q80, q91⟩ := h
  exact ⟨zi77_0, zF80, zF91, q77.kept (hk 77 (by decide) (by decide) q77.lt), q78.kept (hk 78 (by decide) (by decide) q78.lt), q79.kept (hk 79 (by decide) (by decide) q79.lt), blk_kept q80 (fun i h1 h2 => hk (80 + i) (by omega) (by omega) h2), blk_kept q91 (fun i h1 h2 => hk (91 + i) (by omega) (by omega) h2)⟩
def X10P11 (dC : Nat → ClassId) (dI : Nat → Nat → Nat) (G : Nat → ClassId) (ax : Nat → Nat) (E : Nat → Int32) (Z : Nat → Int32) (CE : Nat → Int32) (H : Heap) : Prop := ∃ (zi102_3 : Int32) (zi102_4 : Int32) (zf106 : Nat → Int32) (zf107 : Nat → Int32) (zF108 : Nat → Nat → Int32), (CEc Z zF108 CE) ∧ (∀ q : Nat, q < 4 → E q = -1 ∨ (0 ≤ (E q).toInt ∧ (E q).toInt ≤ 2)) ∧ (∀ q : Nat, q < 4 → 0 ≤ (Z q).toInt ∧ (Z q).toInt ≤ 40) ∧ (va_at (dC, dI) vwCl (ax 102, .inr (6, [.ref (ax 103), .ref (ax 104), .ref (ax 105), .int zi102_3, .int zi102_4, .ref (ax 106), .ref (ax 107)])) H) ∧ (va_at (dC, dI) vwCl (ax 103, .inl (G 0, 4, .inl E)) H) ∧ (va_at (dC, dI) vwCl (ax 104, .inl (G 0, 4, .inl Z)) H) ∧ (va_at (dC, dI) vwCl (ax 105, .inl (G 4, 4, .inr (.inr (.inr (.inr (fun ir => if ir < 4 then some (ax (108 + ir)) else none)))))) H) ∧ (va_at (dC, dI) vwCl (ax 106, .inl (G 0, 20, .inl zf106)) H) ∧ (va_at (dC, dI) vwCl (ax 107, .inl (G 0, 20, .inl zf107)) H) ∧ (va_P (dC, dI) vwCl (((List.range 4).map (fun iq => (ax (108 + iq), .inl (G 0, 40, .inl (zF108 iq))))) : va_W) H)
theorem X10P11.kept {dC : Nat → ClassId} {dI : Nat → Nat → Nat} {G : Nat → ClassId} {ax : Nat → Nat} {E : Nat → Int32} {Z : Nat → Int32} {CE : Nat → Int32} {H H1 : Heap} (hk : ∀ j : Nat, 102 ≤ j → j < 112 → ax j < H.size → H1[ax j]? = H[ax j]?) (h : X10P11 dC dI G ax E Z CE H) : X10P11 dC dI G ax E Z CE H1 := by
  unfold X10P11 at h ⊢
  obtain ⟨zi102_3, zi102_4, zf106, zf107, zF108, j0, j1, j2, q102, q103, q104, q105, q106, q107, q108⟩ := h
  exact ⟨zi102_3, zi102_4, zf106, zf107, zF108, j0, j1, j2, q102.kept (hk 102 (by decide) (by decide) q102.lt), q103.kept (hk 103 (by decide) (by decide) q103.lt), q104.kept (hk 104 (by decide) (by decide) q104.lt), q105.kept (hk 105 (by decide) (by decide) q105.lt), q106.kept (hk 106 (by decide) (by decide) q106.lt), q107.kept (hk 107 (by decide) (by decide) q107.lt), blk_kept q108 (fun i h1 h2 => hk (108 + i) (by omega) (by omega) h2)⟩
def X10I (dC : Nat → ClassId) (dI : Nat → Nat → Nat) (G : Nat → ClassId) (ax : Nat → Nat) (T : Nat) (Y : Nat → Int32) (fa : Int32) (W0 : Nat → Int32) (W1 : Nat → Int32) (W2 : Nat → Int32) (N : Nat) (B : Nat) (N1 : Nat) (B1 : Nat) (N2 : Nat) (B2 : Nat) (K : Nat → Int32) (S : Nat) (M : Nat) (E : Nat → Int32) (Z : Nat → Int32) (O0 : Nat → Int32) (O1 : Nat → Int32) (O2 : Nat → Int32) (CE : Nat → Int32) (MR : Nat → Int32) (H : Heap) : Prop := X10Pr dC dI G ax fa H ∧ X10P0 dC dI G ax H ∧ X10P0_0 dC dI G ax T Y H ∧ X10P0_1 dC dI G ax H ∧ X10P1 dC dI G ax W0 N B O0 H ∧ X10P2 dC dI G ax H ∧ X10P3 dC dI G ax H ∧ X10P3_0 dC dI G ax W1 N1 B1 O1 H ∧ X10P3_1 dC dI G ax W2 N2 B2 O2 H ∧ X10P4 dC dI G ax K H ∧ X10P5 dC dI G ax H ∧ X10P6 dC dI G ax H ∧ X10P7 dC dI G ax H ∧ X10P8 dC dI G ax S H ∧ X10P9 dC dI G ax M MR H ∧ X10P10 dC dI G ax H ∧ X10P11 dC dI G ax E Z CE H ∧ (XIN N B K N1 B1 N2 B2) ∧ XV N B K O0 O1 O2
theorem X10I.kept {dC : Nat → ClassId} {dI : Nat → Nat → Nat} {G : Nat → ClassId} {ax : Nat → Nat} {T : Nat} {Y : Nat → Int32} {fa : Int32} {W0 : Nat → Int32} {W1 : Nat → Int32} {W2 : Nat → Int32} {N : Nat} {B : Nat} {N1 : Nat} {B1 : Nat} {N2 : Nat} {B2 : Nat} {K : Nat → Int32} {S : Nat} {M : Nat} {E : Nat → Int32} {Z : Nat → Int32} {O0 : Nat → Int32} {O1 : Nat → Int32} {O2 : Nat → Int32} {CE : Nat → Int32} {MR : Nat → Int32} {H H1 : Heap} (hk : ∀ j : Nat, 0 ≤ j → j < 112 → ax j < H.size → H1[ax j]? = H[ax j]?) (h : X10I dC dI G ax T Y fa W0 W1 W2 N B N1 B1 N2 B2 K S M E Z O0 O1 O2 CE MR H) : X10I dC dI G ax T Y fa W0 W1 W2 N B N1 B1 N2 B2 K S M E Z O0 O1 O2 CE MR H1 := by
  unfold X10I at h ⊢
  obtain ⟨p0, p1, p2, p3, p4, p5, p6, p7, p8, p9, p10, p11, p12, p13, p14, p15, p16, hX⟩ := h
  exact ⟨p0.kept (fun j h1 h2 => hk j (by omega) (by omega)), p1.kept (fun j h1 h2 => hk j (by omega) (by omega)), p2.kept (fun j h1 h2 => hk j (by omega) (by omega)), p3.kept (fun j h1 h2 => hk j (by omega) (by omega)), p4.kept (fun j h1 h2 => hk j (by omega) (by omega)), p5.kept (fun j h1 h2 => hk j (by omega) (by omega)), p6.kept (fun j h1 h2 => hk j (by omega) (by omega)), p7.kept (fun j h1 h2 => hk j (by omega) (by omega)), p8.kept (fun j h1 h2 => hk j (by omega) (by omega)), p9.kept (fun j h1 h2 => hk j (by omega) (by omega)), p10.kept (fun j h1 h2 => hk j (by omega) (by omega)), p11.kept (fun j h1 h2 => hk j (by omega) (by omega)), p12.kept (fun j h1 h2 => hk j (by omega) (by omega)), p13.kept (fun j h1 h2 => hk j (by omega) (by omega)), p14.kept (fun j h1 h2 => hk j (by omega) (by omega)), p15.kept (fun j h1 h2 => hk j (by omega) (by omega)), p16.kept (fun j h1 h2 => hk j (by omega) (by omega)), hX⟩
theorem X10I.recv {dC : Nat → ClassId} {dI : Nat → Nat → Nat} {G : Nat → ClassId} {ax : Nat → Nat} {T : Nat} {Y : Nat → Int32} {fa : Int32} {W0 : Nat → Int32} {W1 : Nat → Int32} {W2 : Nat → Int32} {N : Nat} {B : Nat} {N1 : Nat} {B1 : Nat} {N2 : Nat} {B2 : Nat} {K : Nat → Int32} {S : Nat} {M : Nat} {E : Nat → Int32} {Z : Nat → Int32} {O0 : Nat → Int32} {O1 : Nat → Int32} {O2 : Nat → Int32} {CE : Nat → Int32} {MR : Nat → Int32} {H : Heap} {s : State} (hK : KK dC dI G s) (h : X10I dC dI G ax T Y fa W0 W1 W2 N B N1 B1 N2 B2 K S M E Z O0 O1 O2 CE MR H) : ∃ cellB : Cell, H[ax 0]? = some cellB ∧ cellB.vm.isStatics = false ∧ s.vm.findClass RX10 = some cellB.cls := by
  unfold X10I X10Pr at h
  obtain ⟨⟨zi0_13, q⟩, -⟩ := h
  exact va_recv (ci := 10) (q0 := 0) hK.1 (vpc q va_nilP) rfl rfl
def X11Pr (dC : Nat → ClassId) (dI : Nat → Nat → Nat) (G : Nat → ClassId) (ax : Nat → Nat) (T : Nat) (fa : Int32) (N : Nat) (B : Nat) (S : Nat) (M : Nat) (H : Heap) : Prop := ∃ (zi112_4 : Int32) (zi112_5 : Int32) (zi112_6 : Int32) (zi112_7 : Int32) (zi112_8 : Int32) (zi112_9 : Int32) (zi112_13 : Int32) (zi112_14 : Int32) (zi112_15 : Int32) (zn112_16 : Nat) (zi112_17 : Int32) (zi112_18 : Int32) (zi112_34 : Int32), (N ≤ 10) ∧ (B ≤ 6) ∧ (T ≤ 320) ∧ (S ≤ 8) ∧ (M ≤ 6) ∧ (N = 0 ∨ 0 < B) ∧ (zn112_16 ≤ 320) ∧ (va_at (dC, dI) vwCl (ax 112, .inr (11, [.ref (ax 113), .int (nI N), .int (nI B), .ref (ax 114), .int zi112_4, .int zi112_5, .int zi112_6, .int zi112_7, .int zi112_8, .int zi112_9, .ref (ax 115), .int (nI T), .int fa, .int zi112_13, .int zi112_14, .int zi112_15, .int (nI zn112_16), .int zi112_17, .int zi112_18, .ref (ax 116), .ref (ax 117), .ref (ax 118), .ref (ax 119), .ref (ax 120), .ref (ax 121), .int (nI S), .ref (ax 122), .int (nI M), .ref (ax 123), .ref (ax 124), .ref (ax 125), .ref (ax 126), .ref (ax 127), .ref (ax 128), .int zi112_34])) H)
theorem X11Pr.kept {dC : Nat → ClassId} {dI : Nat → Nat → Nat} {G : Nat → ClassId} {ax : Nat → Nat} {T : Nat} {fa : Int32} {N : Nat} {B : Nat} {S : Nat} {M : Nat} {H H1 : Heap} (hk : ∀ j : Nat, 112 ≤ j → j < 113 → ax j < H.size → H1[ax j]? = H[ax j]?) (h : X11Pr dC dI G ax T fa N B S M H) : X11Pr dC dI G ax T fa N B S M H1 := by
  unfold X11Pr at h ⊢
  obtain ⟨zi112_4, zi112_5, zi112_6, zi112_7, zi112_8, zi112_9, zi112_13, zi112_14, zi112_15, zn112_16, zi112_17, zi112_18, zi112_34, j0, j1, j2, j3, j4, j5, j6, q112⟩ := h
  exact ⟨zi112_4, zi112_5, zi112_6, zi112_7, zi112_8, zi112_9, zi112_13, zi112_14, zi112_15, zn112_16, zi112_17, zi112_18, zi112_34, j0, j1, j2, j3, j4, j5, j6, q112.kept (hk 112 (by decide) (by decide) q112.lt)⟩
def X11P0 (dC : Nat → ClassId) (dI : Nat → Nat → Nat) (G : Nat → ClassId) (ax : Nat → Nat) (W0 : Nat → Int32) (W1 : Nat → Int32) (W2 : Nat → Int32) (N : Nat) (B : Nat) (N1 : Nat) (B1 : Nat) (N2 : Nat) (B2 : Nat) (O0 : Nat → Int32) (O1 : Nat → Int32) (O2 : Nat → Int32) (H : Heap) : Prop := ∃ (zf113 : Nat → Int32), (N1 ≤ 10) ∧ (B1 ≤ 6) ∧ (N2 ≤ 10) ∧ (B2 ≤ 6) ∧ (SR 0 N B zf113 W0) ∧ (SR 49 N1 B1 zf113 W1) ∧ (SR 98 N2 B2 zf113 W2) ∧ (SO 38 zf113 O0) ∧ (SO 87 zf113 O1) ∧ (SO 136 zf113 O2) ∧ (OKS zf113) ∧ (va_at (dC, dI) vwCl (ax 113, .inl (G 0, 196, .inl zf113)) H)
theorem X11P0.kept {dC : Nat → ClassId} {dI : Nat → Nat → Nat} {G : Nat → ClassId} {ax : Nat → Nat} {W0 : Nat → Int32} {W1 : Nat → Int32} {W2 : Nat → Int32} {N : Nat} {B : Nat} {N1 : Nat} {B1 : Nat} {N2 : Nat} {B2 : Nat} {O0 : Nat → Int32} {O1 : Nat → Int32} {O2 : Nat → Int32} {H H1 : Heap} (hk : ∀ j : Nat, 113 ≤ j → j < 114 → ax j < H.size → H1[ax j]? = H[ax j]?) (h : X11P0 dC dI G ax W0 W1 W2 N B N1 B1 N2 B2 O0 O1 O2 H) : X11P0 dC dI G ax W0 W1 W2 N B N1 B1 N2 B2 O0 O1 O2 H1 := by
  unfold X11P0 at h ⊢
  obtain ⟨zf113, j0, j1, j2, j3, j4, j5, j6, j7, j8, j9, j10, q113⟩ := h
  exact ⟨zf113, j0, j1, j2, j3, j4, j5, j6, j7, j8, j9, j10, q113.kept (hk 113 (by decide) (by decide) q113.lt)⟩
def X11P3 (dC : Nat → ClassId) (dI : Nat → Nat → Nat) (G : Nat → ClassId) (ax : Nat → Nat) (H : Heap) : Prop := ∃ (zf114 : Nat → Int32), (va_at (dC, dI) vwCl (ax 114, .inl (G 0, 49, .inl zf114)) H)
theorem X11P3.kept {dC : Nat → ClassId} {dI : Nat → Nat → Nat} {G : Nat → ClassId} {ax : Nat → Nat} {H H1 : Heap} (hk : ∀ j : Nat, 114 ≤ j → j < 115 → ax j < H.size → H1[ax j]? = H[ax j]?) (h : X11P3 dC dI G ax H) : X11P3 dC dI G ax H1 := by
  unfold X11P3 at h ⊢
  obtain ⟨zf114, q114⟩ := h
  exact ⟨zf114, q114.kept (hk 114 (by decide) (by decide) q114.lt)⟩
def X11P10 (dC : Nat → ClassId) (dI : Nat → Nat → Nat) (G : Nat → ClassId) (ax : Nat → Nat) (Y : Nat → Int32) (H : Heap) : Prop := (∀ q : Nat, q < 320 → 0 ≤ (Y q).toInt) ∧ (va_at (dC, dI) vwCl (ax 115, .inl (G 0, 320, .inl Y)) H)
theorem X11P10.kept {dC : Nat → ClassId} {dI : Nat → Nat → Nat} {G : Nat → ClassId} {ax : Nat → Nat} {Y : Nat → Int32} {H H1 : Heap} (hk : ∀ j : Nat, 115 ≤ j → j < 116 → ax j < H.size → H1[ax j]? = H[ax j]?) (h : X11P10 dC dI G ax Y H) : X11P10 dC dI G ax Y H1 := by
  unfold X11P10 at h ⊢
  obtain ⟨j0, q115⟩ := h
  exact ⟨j0, q115.kept (hk 115 (by decide) (by decide) q115.lt)⟩
def X11P19 (dC : Nat → ClassId) (dI : Nat → Nat → Nat) (G : Nat → ClassId) (ax : Nat → Nat) (H : Heap) : Prop := ∃ (zf116 : Nat → Int32), (∀ q : Nat, q < 11 → zf116 q = nI (cutL.getD q 0)) ∧ (va_at (dC, dI) vwCl (ax 116, .inl (G 0, 11, .inl zf116)) H)
theorem X11P19.kept {dC : Nat → ClassId} {dI : Nat → Nat → Nat} {G : Nat → ClassId} {ax : Nat → Nat} {H H1 : Heap} (hk : ∀ j : Nat, 116 ≤ j → j < 117 → ax j < H.size → H1[ax j]? = H[ax j]?) (h : X11P19 dC dI G ax H) : X11P19 dC dI G ax H1 := by
  unfold X11P19 at h ⊢
  obtain ⟨zf116, j0, q116⟩ := h
  exact ⟨zf116, j0, q116.kept (hk 116 (by decide) (by decide) q116.lt)⟩
def X11P20 (dC : Nat → ClassId) (dI : Nat → Nat → Nat) (G : Nat → ClassId) (ax : Nat → Nat) (H : Heap) : Prop := ∃ (zf117 : Nat → Int32), (∀ q : Nat, q < 54 → zf117 q = letL.getD q 0) ∧ (va_at (dC, dI) vwCl (ax 117, .inl (G 0, 54, .inl zf117)) H)
theorem X11P20.kept {dC : Nat → ClassId} {dI : Nat → Nat → Nat} {G : Nat → ClassId} {ax : Nat → Nat} {H H1 : Heap} (hk : ∀ j : Nat, 117 ≤ j → j < 118 → ax j < H.size → H1[ax j]? = H[ax j]?) (h : X11P20 dC dI G ax H) : X11P20 dC dI G ax H1 := by
  unfold X11P20 at h ⊢
  obtain ⟨zf117, j0, q117⟩ := h
  exact ⟨zf117, j0, q117.kept (hk 117 (by decide) (by decide) q117.lt)⟩
def X11P21 (dC : Nat → ClassId) (dI : Nat → Nat → Nat) (G : Nat → ClassId) (ax : Nat → Nat) (H : Heap) : Prop := ∃ (zf118 : Nat → Int64), (va_at (dC, dI) vwCl (ax 118, .inl (G 1, 10, .inr (.inl zf118))) H)
theorem X11P21.kept {dC : Nat → ClassId} {dI : Nat → Nat → Nat} {G : Nat → ClassId} {ax : Nat → Nat} {H H1 : Heap} (hk : ∀ j : Nat, 118 ≤ j → j < 119 → ax j < H.size → H1[ax j]? = H[ax j]?) (h : X11P21 dC dI G ax H) : X11P21 dC dI G ax H1 := by
  unfold X11P21 at h ⊢
  obtain ⟨zf118, q118⟩ := h
  exact ⟨zf118, q118.kept (hk 118 (by decide) (by decide) q118.lt)⟩
def X11P22 (dC : Nat → ClassId) (dI : Nat → Nat → Nat) (G : Nat → ClassId) (ax : Nat → Nat) (H : Heap) : Prop := ∃ (zf119 : Nat → Int64), (va_at (dC, dI) vwCl (ax 119, .inl (G 1, 10, .inr (.inl zf119))) H)
theorem X11P22.kept {dC : Nat → ClassId} {dI : Nat → Nat → Nat} {G : Nat → ClassId} {ax : Nat → Nat} {H H1 : Heap} (hk : ∀ j : Nat, 119 ≤ j → j < 120 → ax j < H.size → H1[ax j]? = H[ax j]?) (h : X11P22 dC dI G ax H) : X11P22 dC dI G ax H1 := by
  unfold X11P22 at h ⊢
  obtain ⟨zf119, q119⟩ := h
  exact ⟨zf119, q119.kept (hk 119 (by decide) (by decide) q119.lt)⟩
def X11P23 (dC : Nat → ClassId) (dI : Nat → Nat → Nat) (G : Nat → ClassId) (ax : Nat → Nat) (H : Heap) : Prop := ∃ (zf120 : Nat → Int64), (va_at (dC, dI) vwCl (ax 120, .inl (G 1, 770, .inr (.inl zf120))) H)
theorem X11P23.kept {dC : Nat → ClassId} {dI : Nat → Nat → Nat} {G : Nat → ClassId} {ax : Nat → Nat} {H H1 : Heap} (hk : ∀ j : Nat, 120 ≤ j → j < 121 → ax j < H.size → H1[ax j]? = H[ax j]?) (h : X11P23 dC dI G ax H) : X11P23 dC dI G ax H1 := by
  unfold X11P23 at h ⊢
  obtain ⟨zf120, q120⟩ := h
  exact ⟨zf120, q120.kept (hk 120 (by decide) (by decide) q120.lt)⟩
def X11P24 (dC : Nat → ClassId) (dI : Nat → Nat → Nat) (G : Nat → ClassId) (ax : Nat → Nat) (H : Heap) : Prop := ∃ (zf121 : Nat → Int32), (OKL zf121) ∧ (va_at (dC, dI) vwCl (ax 121, .inl (G 0, 32, .inl zf121)) H)
theorem X11P24.kept {dC : Nat → ClassId} {dI : Nat → Nat → Nat} {G : Nat → ClassId} {ax : Nat → Nat} {H H1 : Heap} (hk : ∀ j : Nat, 121 ≤ j → j < 122 → ax j < H.size → H1[ax j]? = H[ax j]?) (h : X11P24 dC dI G ax H) : X11P24 dC dI G ax H1 := by
  unfold X11P24 at h ⊢
  obtain ⟨zf121, j0, q121⟩ := h
  exact ⟨zf121, j0, q121.kept (hk 121 (by decide) (by decide) q121.lt)⟩
def X11P26 (dC : Nat → ClassId) (dI : Nat → Nat → Nat) (G : Nat → ClassId) (ax : Nat → Nat) (M : Nat) (MR : Nat → Int32) (H : Heap) : Prop := ∃ (zf122 : Nat → Int32), (RMk M zf122 MR) ∧ (va_at (dC, dI) vwCl (ax 122, .inl (G 0, 12, .inl zf122)) H)
theorem X11P26.kept {dC : Nat → ClassId} {dI : Nat → Nat → Nat} {G : Nat → ClassId} {ax : Nat → Nat} {M : Nat} {MR : Nat → Int32} {H H1 : Heap} (hk : ∀ j : Nat, 122 ≤ j → j < 123 → ax j < H.size → H1[ax j]? = H[ax j]?) (h : X11P26 dC dI G ax M MR H) : X11P26 dC dI G ax M MR H1 := by
  unfold X11P26 at h ⊢
  obtain ⟨zf122, j0, q122⟩ := h
  exact ⟨zf122, j0, q122.kept (hk 122 (by decide) (by decide) q122.lt)⟩
def X11P28 (dC : Nat → ClassId) (dI : Nat → Nat → Nat) (G : Nat → ClassId) (ax : Nat → Nat) (H : Heap) : Prop := ∃ (zf123 : Nat → Int32), (va_at (dC, dI) vwCl (ax 123, .inl (G 0, 110, .inl zf123)) H)
theorem X11P28.kept {dC : Nat → ClassId} {dI : Nat → Nat → Nat} {G : Nat → ClassId} {ax : Nat → Nat} {H H1 : Heap} (hk : ∀ j : Nat, 123 ≤ j → j < 124 → ax j < H.size → H1[ax j]? = H[ax j]?) (h : X11P28 dC dI G ax H) : X11P28 dC dI G ax H1 := by
  unfold X11P28 at h ⊢
  obtain ⟨zf123, q123⟩ := h
  exact ⟨zf123, q123.kept (hk 123 (by decide) (by decide) q123.lt)⟩
def X11P29 (dC : Nat → ClassId) (dI : Nat → Nat → Nat) (G : Nat → ClassId) (ax : Nat → Nat) (H : Heap) : Prop := ∃ (zf124 : Nat → Int32), (va_at (dC, dI) vwCl (ax 124, .inl (G 0, 110, .inl zf124)) H)
theorem X11P29.kept {dC : Nat → ClassId} {dI : Nat → Nat → Nat} {G : Nat → ClassId} {ax : Nat → Nat} {H H1 : Heap} (hk : ∀ j : Nat, 124 ≤ j → j < 125 → ax j < H.size → H1[ax j]? = H[ax j]?) (h : X11P29 dC dI G ax H) : X11P29 dC dI G ax H1 := by
  unfold X11P29 at h ⊢
  obtain ⟨zf124, q124⟩ := h
  exact ⟨zf124, q124.kept (hk 124 (by decide) (by decide) q124.lt)⟩
def X11P30 (dC : Nat → ClassId) (dI : Nat → Nat → Nat) (G : Nat → ClassId) (ax : Nat → Nat) (K : Nat → Int32) (H : Heap) : Prop := (va_at (dC, dI) vwCl (ax 125, .inl (G 2, 2, .inl K)) H)
theorem X11P30.kept {dC : Nat → ClassId} {dI : Nat → Nat → Nat} {G : Nat → ClassId} {ax : Nat → Nat} {K : Nat → Int32} {H H1 : Heap} (hk : ∀ j : Nat, 125 ≤ j → j < 126 → ax j < H.size → H1[ax j]? = H[ax j]?) (h : X11P30 dC dI G ax K H) : X11P30 dC dI G ax K H1 := by
  unfold X11P30 at h ⊢
  have q125 := h
  exact q125.kept (hk 125 (by decide) (by decide) q125.lt)
def X11P31 (dC : Nat → ClassId) (dI : Nat → Nat → Nat) (G : Nat → ClassId) (ax : Nat → Nat) (E : Nat → Int32) (H : Heap) : Prop := (∀ q : Nat, q < 4 → E q = -1 ∨ (0 ≤ (E q).toInt ∧ (E q).toInt ≤ 2)) ∧ (va_at (dC, dI) vwCl (ax 126, .inl (G 0, 4, .inl (lmap E))) H)
theorem X11P31.kept {dC : Nat → ClassId} {dI : Nat → Nat → Nat} {G : Nat → ClassId} {ax : Nat → Nat} {E : Nat → Int32} {H H1 : Heap} (hk : ∀ j : Nat, 126 ≤ j → j < 127 → ax j < H.size → H1[ax j]? = H[ax j]?) (h : X11P31 dC dI G ax E H) : X11P31 dC dI G ax E H1 := by
  unfold X11P31 at h ⊢
  obtain ⟨j0, q126⟩ := h
  exact ⟨j0, q126.kept (hk 126 (by decide) (by decide) q126.lt)⟩
def X11P32 (dC : Nat → ClassId) (dI : Nat → Nat → Nat) (G : Nat → ClassId) (ax : Nat → Nat) (Z : Nat → Int32) (H : Heap) : Prop := (∀ q : Nat, q < 4 → 0 ≤ (Z q).toInt ∧ (Z q).toInt ≤ 40) ∧ (va_at (dC, dI) vwCl (ax 127, .inl (G 0, 4, .inl Z)) H)
theorem X11P32.kept {dC : Nat → ClassId} {dI : Nat → Nat → Nat} {G : Nat → ClassId} {ax : Nat → Nat} {Z : Nat → Int32} {H H1 : Heap} (hk : ∀ j : Nat, 127 ≤ j → j < 128 → ax j < H.size → H1[ax j]? = H[ax j]?) (h : X11P32 dC dI G ax Z H) : X11P32 dC dI G ax Z H1 := by
  unfold X11P32 at h ⊢
  obtain ⟨j0, q127⟩ := h
  exact ⟨j0, q127.kept (hk 127 (by decide) (by decide) q127.lt)⟩
def X11P33 (dC : Nat → ClassId) (dI : Nat → Nat → Nat) (G : Nat → ClassId) (ax : Nat → Nat) (Z : Nat → Int32) (CE : Nat → Int32) (H : Heap) : Prop := ∃ (zf128 : Nat → Int32), (CEr Z zf128 CE) ∧ (va_at (dC, dI) vwCl (ax 128, .inl (G 0, 160, .inl zf128)) H)
theorem X11P33.kept {dC : Nat → ClassId} {dI : Nat → Nat → Nat} {G : Nat → ClassId} {ax : Nat → Nat} {Z : Nat → Int32} {CE : Nat → Int32} {H H1 : Heap} (hk : ∀ j : Nat, 128 ≤ j → j < 129 → ax j < H.size → H1[ax j]? = H[ax j]?) (h : X11P33 dC dI G ax Z CE H) : X11P33 dC dI G ax Z CE H1 := by
  unfold X11P33 at h ⊢
  obtain ⟨zf128, j0, q128⟩ := h
  exact ⟨zf128, j0, q128.kept (hk 128 (by decide) (by decide) q128.lt)⟩
def X11I (dC : Nat → ClassId) (dI : Nat → Nat → Nat) (G : Nat → ClassId) (ax : Nat → Nat) (T : Nat) (Y : Nat → Int32) (fa : Int32) (W0 : Nat → Int32) (W1 : Nat → Int32) (W2 : Nat → Int32) (N : Nat) (B : Nat) (N1 : Nat) (B1 : Nat) (N2 : Nat) (B2 : Nat) (K : Nat → Int32) (S : Nat) (M : Nat) (E : Nat → Int32) (Z : Nat → Int32) (O0 : Nat → Int32) (O1 : Nat → Int32) (O2 : Nat → Int32) (CE : Nat → Int32) (MR : Nat → Int32) (H : Heap) : Prop := X11Pr dC dI G ax T fa N B S M H ∧ X11P0 dC dI G ax W0 W1 W2 N B N1 B1 N2 B2 O0 O1 O2 H ∧ X11P3 dC dI G ax H ∧ X11P10 dC dI G ax Y H ∧ X11P19 dC dI G ax H ∧ X11P20 dC dI G ax H ∧ X11P21 dC dI G ax H ∧ X11P22 dC dI G ax H ∧ X11P23 dC dI G ax H ∧ X11P24 dC dI G ax H ∧ X11P26 dC dI G ax M MR H ∧ X11P28 dC dI G ax H ∧ X11P29 dC dI G ax H ∧ X11P30 dC dI G ax K H ∧ X11P31 dC dI G ax E H ∧ X11P32 dC dI G ax Z H ∧ X11P33 dC dI G ax Z CE H ∧ (XIN N B K N1 B1 N2 B2) ∧ XV N B K O0 O1 O2
theorem X11I.kept {dC : Nat → ClassId} {dI : Nat → Nat → Nat} {G : Nat → ClassId} {ax : Nat → Nat} {T : Nat} {Y : Nat → Int32} {fa : Int32} {W0 : Nat → Int32} {W1 : Nat → Int32} {W2 : Nat → Int32} {N : Nat} {B : Nat} {N1 : Nat} {B1 : Nat} {N2 : Nat} {B2 : Nat} {K : Nat → Int32} {S : Nat} {M : Nat} {E : Nat → Int32} {Z : Nat → Int32} {O0 : Nat → Int32} {O1 : Nat → Int32} {O2 : Nat → Int32} {CE : Nat → Int32} {MR : Nat → Int32} {H H1 : Heap} (hk : ∀ j : Nat, 112 ≤ j → j < 129 → ax j < H.size → H1[ax j]? = H[ax j]?) (h : X11I dC dI G ax T Y fa W0 W1 W2 N B N1 B1 N2 B2 K S M E Z O0 O1 O2 CE MR H) : X11I dC dI G ax T Y fa W0 W1 W2 N B N1 B1 N2 B2 K S M E Z O0 O1 O2 CE MR H1 := by
  unfold X11I at h ⊢
  obtain ⟨p0, p1, p2, p3, p4, p5, p6, p7, p8, p9, p10, p11, p12, p13, p14, p15, p16, hX⟩ := h
  exact ⟨p0.kept (fun j h1 h2 => hk j (by omega) (by omega)), p1.kept (fun j h1 h2 => hk j (by omega) (by omega)), p2.kept (fun j h1 h2 => hk j (by omega) (by omega)), p3.kept (fun j h1 h2 => hk j (by omega) (by omega)), p4.kept (fun j h1 h2 => hk j (by omega) (by omega)), p5.kept (fun j h1 h2 => hk j (by omega) (by omega)), p6.kept (fun j h1 h2 => hk j (by omega) (by omega)), p7.kept (fun j h1 h2 => hk j (by omega) (by omega)), p8.kept (fun j h1 h2 => hk j (by omega) (by omega)), p9.kept (fun j h1 h2 => hk j (by omega) (by omega)), p10.kept (fun j h1 h2 => hk j (by omega) (by omega)), p11.kept (fun j h1 h2 => hk j (by omega) (by omega)), p12.kept (fun j h1 h2 => hk j (by omega) (by omega)), p13.kept (fun j h1 h2 => hk j (by omega) (by omega)), p14.kept (fun j h1 h2 => hk j (by omega) (by omega)), p15.kept (fun j h1 h2 => hk j (by omega) (by omega)), p16.kept (fun j h1 h2 => hk j (by omega) (by omega)), hX⟩
theorem X11I.recv {dC : Nat → ClassId} {dI : Nat → Nat → Nat} {G : Nat → ClassId} {ax : Nat → Nat} {T : Nat} {Y : Nat → Int32} {fa : Int32} {W0 : Nat → Int32} {W1 : Nat → Int32} {W2 : Nat → Int32} {N : Nat} {B : Nat} {N1 : Nat} {B1 : Nat} {N2 : Nat} {B2 : Nat} {K : Nat → Int32} {S : Nat} {M : Nat} {E : Nat → Int32} {Z : Nat → Int32} {O0 : Nat → Int32} {O1 : Nat → Int32} {O2 : Nat → Int32} {CE : Nat → Int32} {MR : Nat → Int32} {H : Heap} {s : State} (hK : KK dC dI G s) (h : X11I dC dI G ax T Y fa W0 W1 W2 N B N1 B1 N2 B2 K S M E Z O0 O1 O2 CE MR H) : ∃ cellB : Cell, H[ax 112]? = some cellB ∧ cellB.vm.isStatics = false ∧ s.vm.findClass RX11 = some cellB.cls := by
  unfold X11I X11Pr at h
  obtain ⟨⟨zi112_4, zi112_5, zi112_6, zi112_7, zi112_8, zi112_9, zi112_13, zi112_14, zi112_15, zn112_16, zi112_17, zi112_18, zi112_34, j0, j1, j2, j3, j4, j5, j6, q⟩, -⟩ := h
  exact va_recv (ci := 11) (q0 := 0) hK.1 (vpc q va_nilP) rfl rfl

set_option maxHeartbeats 1000000 in
set_option maxRecDepth 100000 in
theorem k_X10_feedE (l : Launch) (dC : Nat → ClassId) (dI : Nat → Nat → Nat) (G : Nat → ClassId) (sz : Nat) (ax : Nat → Nat) (hi : adInj 129 ax) (T : Nat) (Y : Nat → Int32) (fa : Int32) (W0 : Nat → Int32) (W1 : Nat → Int32) (W2 : Nat → Int32) (N : Nat) (B : Nat) (N1 : Nat) (B1 : Nat) (N2 : Nat) (B2 : Nat) (K : Nat → Int32) (S : Nat) (M : Nat) (E : Nat → Int32) (Z : Nat → Int32) (O0 : Nat → Int32) (O1 : Nat → Int32) (O2 : Nat → Int32) (CE : Nat → Int32) (MR : Nat → Int32) (v : Int64) : Met l yX10_feed (Cond.code yX10_feed cX10_feed 3 (some .int) :: GT) ({ frames := 1, cells := 0, slots := 0, locals := 23 } : Room) (PcI [.ref (ax 0), .long v] dC dI G (X10I dC dI G ax T Y fa W0 W1 W2 N B N1 B1 N2 B2 K S M E Z O0 O1 O2 CE MR) sz) (va_Qi (fun (r : Int32) (_ : Unit) => r = if T + 8 ≤ 320 then nI (T + 8) else -3) (fun _ t => X10I dC dI G ax (if T + 8 ≤ 320 then T + 8 else T) (if T + 8 ≤ 320 then fdC Y T v else Y) fa W0 W1 W2 N B N1 B1 N2 B2 K S M E Z O0 O1 O2 CE MR t.heap) (adX 0 112 ax sz)) 0 0 (adX 0 112 ax sz) := by
  refine Met.pick (fun a st hp => ?_)
  obtain ⟨e0, hsz, hI, hK⟩ := hp
  subst hsz
  have hI0 := hI
  unfold X10I at hI
  obtain ⟨p0, p1, p2, p3, p4, p5, p6, p7, p8, p9, p10, p11, p12, p13, p14, p15, p16, hX⟩ := hI
  have hXV := hX
  have hX := hXV.1
  unfold X10Pr at p0
  obtain ⟨zi0_13, q0⟩ := p0
  unfold X10P0 at p1
  obtain ⟨zi1_2, zi1_3, zi1_4, zi1_5, zi1_6, zi1_7, zi1_8, zi1_9, zi1_10, zi1_11, q1⟩ := p1
  unfold X10P0_0 at p2
  obtain ⟨p2j0, q2, q3⟩ := p2
  refine ⟨_, _, _, c_X10_feedE l dC dI G _ (ax 0) (ax 1) (ax 11) (ax 18) (ax 25) (ax 40) (ax 41) (ax 44) (ax 68) (ax 69) (ax 74) (ax 77) (ax 102) (ax 2) (ax 4) (ax 3) T fa zi0_13 zi1_2 zi1_3 zi1_4 zi1_5 zi1_6 zi1_7 zi1_8 zi1_9 zi1_10 zi1_11 v Y (by first | with_reducible assumption | assumption), ⟨e0, rfl, (vpc q0 (vpc q1 (vpc q2 (vpc q3 va_nilP)))), hK, vD_ix hi [0, 1, 2, 3] (by rfl) (by decide) (by decide)⟩, ad_ix [0, 1, 2, 3] (by rfl) (by decide), fun o t hq => ?_⟩
  obtain ⟨⟨r, ⟨u1, u2⟩, ho, ⟨hr, hu⟩, hP1, -⟩, hF⟩ := hq
  have FR : ∀ lo hi' : Nat, hi' ≤ 129 → ([0, 1, 2, 3] : List Nat).all (fun x => decide (x < lo) || decide (hi' ≤ x)) = true → ∀ j : Nat, lo ≤ j → j < hi' → ax j < st.heap.size → t.heap[ax j]? = st.heap[ax j]? := fun lo hi' h1 h2 => fr_ix hi h1 hF.2 [0, 1, 2, 3] (by rfl) (by decide) h2
  have xT : (if T + 8 ≤ 320 then T + 8 else T) = u1 := Eq.symm (by first | exact hu | exact hu.1 | exact hu.2 | exact hu.1.1 | exact hu.1.2 | exact hu.2.1.trans (txt_cf (by first | with_reducible assumption | assumption)) | exact hu.2.1.trans (txt_rf (by first | with_reducible assumption | assumption)) | exact hu.1.1.trans lmap_step | omega)
  subst xT
  have y3 : (if T + 8 ≤ 320 then fdC Y T v else Y) = u2 := Eq.symm (by first | exact hu | exact hu.1 | exact hu.2 | exact hu.1.1 | exact hu.1.2 | exact hu.2.1.trans (txt_cf (by first | with_reducible assumption | assumption)) | exact hu.2.1.trans (txt_rf (by first | with_reducible assumption | assumption)) | exact hu.1.1.trans lmap_step | omega)
  subst y3
  have np0 : X10Pr dC dI G ax fa t.heap := ⟨zi0_13, hP1 0 _ rfl⟩
  have np1 : X10P0 dC dI G ax t.heap := ⟨zi1_2, zi1_3, zi1_4, zi1_5, zi1_6, zi1_7, zi1_8, zi1_9, zi1_10, zi1_11, hP1 1 _ rfl⟩
  have np2 : X10P0_0 dC dI G ax (if T + 8 ≤ 320 then T + 8 else T) (if T + 8 ≤ 320 then fdC Y T v else Y) t.heap := ⟨(by first | omega | exact hu | exact hu.1 | exact hu.1.1 | exact hu.1.2 | exact hu.2 | exact hu.1.1.1 | exact hu.1.1.2 | exact fd_nn (by first | with_reducible assumption | assumption) | (split at hu <;> omega) | (split <;> omega) | exact E_inv (by first | with_reducible assumption | assumption)), hP1 2 _ rfl, hP1 3 _ rfl⟩
  exact ⟨⟨r, (), ho, hr, ⟨np0, np1, np2, p3.kept (FR 4 11 (by decide) (by decide)), p4.kept (FR 11 18 (by decide) (by decide)), p5.kept (FR 18 25 (by decide) (by decide)), p6.kept (FR 25 26 (by decide) (by decide)), p7.kept (FR 26 33 (by decide) (by decide)), p8.kept (FR 33 40 (by decide) (by decide)), p9.kept (FR 40 41 (by decide) (by decide)), p10.kept (FR 41 44 (by decide) (by decide)), p11.kept (FR 44 68 (by decide) (by decide)), p12.kept (FR 68 69 (by decide) (by decide)), p13.kept (FR 69 74 (by decide) (by decide)), p14.kept (FR 74 77 (by decide) (by decide)), p15.kept (FR 77 102 (by decide) (by decide)), p16.kept (FR 102 112 (by decide) (by decide)), ⟨hX, hXV.2⟩⟩⟩, hF.wide (ad_ix [0, 1, 2, 3] (by rfl) (by decide))⟩

set_option maxHeartbeats 1000000 in
set_option maxRecDepth 100000 in
theorem k_X10_end (l : Launch) (dC : Nat → ClassId) (dI : Nat → Nat → Nat) (G : Nat → ClassId) (sz : Nat) (ax : Nat → Nat) (hi : adInj 129 ax) (T : Nat) (Y : Nat → Int32) (fa : Int32) (W0 : Nat → Int32) (W1 : Nat → Int32) (W2 : Nat → Int32) (N : Nat) (B : Nat) (N1 : Nat) (B1 : Nat) (N2 : Nat) (B2 : Nat) (K : Nat → Int32) (S : Nat) (M : Nat) (E : Nat → Int32) (Z : Nat → Int32) (O0 : Nat → Int32) (O1 : Nat → Int32) (O2 : Nat → Int32) (CE : Nat → Int32) (MR : Nat → Int32) (n : Int32) : Met l yX10_end (Cond.code yX10_end cX10_end 3 (some .int) :: GT) ({ frames := 0, cells := 0, slots := 0, locals := 0 } : Room) (PcI [.ref (ax 0), .int n] dC dI G (X10I dC dI G ax T Y fa W0 W1 W2 N B N1 B1 N2 B2 K S M E Z O0 O1 O2 CE MR) sz) (va_Qi (fun (r : Int32) (_ : Unit) => r = if 0 ≤ n.toInt ∧ n.toInt ≤ ((T : Nat) : Int) then nI T else -1) (fun _ t => X10I dC dI G ax (if 0 ≤ n.toInt ∧ n.toInt ≤ ((T : Nat) : Int) then n.toNatClampNeg else T) Y fa W0 W1 W2 N B N1 B1 N2 B2 K S M E Z O0 O1 O2 CE MR t.heap) (adX 0 112 ax sz)) 0 0 (adX 0 112 ax sz) := by
  refine Met.pick (fun a st hp => ?_)
  obtain ⟨e0, hsz, hI, hK⟩ := hp
  subst hsz
  have hI0 := hI
  unfold X10I at hI
  obtain ⟨p0, p1, p2, p3, p4, p5, p6, p7, p8, p9, p10, p11, p12, p13, p14, p15, p16, hX⟩ := hI
  have hXV := hX
  have hX := hXV.1
  unfold X10Pr at p0
  obtain ⟨zi0_13, q0⟩ := p0
  unfold X10P0 at p1
  obtain ⟨zi1_2, zi1_3, zi1_4, zi1_5, zi1_6, zi1_7, zi1_8, zi1_9, zi1_10, zi1_11, q1⟩ := p1
  unfold X10P0_0 at p2
  obtain ⟨p2j0, q2, q3⟩ := p2
  refine ⟨_, _, _, c_X10_end l dC dI G _ (ax 0) (ax 1) (ax 11) (ax 18) (ax 25) (ax 40) (ax 41) (ax 44) (ax 68) (ax 69) (ax 74) (ax 77) (ax 102) (ax 2) (ax 4) (ax 3) T fa zi0_13 n zi1_2 zi1_3 zi1_4 zi1_5 zi1_6 zi1_7 zi1_8 zi1_9 zi1_10 zi1_11 (by first | with_reducible assumption | assumption), ⟨e0, rfl, (vpc q0 (vpc q1 (vpc q2 va_nilP))), hK, vD_ix hi [0, 1, 2] (by rfl) (by decide) (by decide)⟩, ad_ix [0, 1, 2] (by rfl) (by decide), fun o t hq => ?_⟩
  obtain ⟨⟨r, u1, ho, ⟨hr, hu⟩, hP1, -⟩, hF⟩ := hq
  have FR : ∀ lo hi' : Nat, hi' ≤ 129 → ([0, 1, 2] : List Nat).all (fun x => decide (x < lo) || decide (hi' ≤ x)) = true → ∀ j : Nat, lo ≤ j → j < hi' → ax j < st.heap.size → t.heap[ax j]? = st.heap[ax j]? := fun lo hi' h1 h2 => fr_ix hi h1 hF.2 [0, 1, 2] (by rfl) (by decide) h2
  have xT : (if 0 ≤ n.toInt ∧ n.toInt ≤ ((T : Nat) : Int) then n.toNatClampNeg else T) = u1 := Eq.symm (by first | exact hu | exact hu.1 | exact hu.2 | exact hu.1.1 | exact hu.1.2 | exact hu.2.1.trans (txt_cf (by first | with_reducible assumption | assumption)) | exact hu.2.1.trans (txt_rf (by first | with_reducible assumption | assumption)) | exact hu.1.1.trans lmap_step | omega)
  subst xT
  have np0 : X10Pr dC dI G ax fa t.heap := ⟨zi0_13, hP1 0 _ rfl⟩
  have np1 : X10P0 dC dI G ax t.heap := ⟨zi1_2, zi1_3, zi1_4, zi1_5, zi1_6, zi1_7, zi1_8, zi1_9, zi1_10, zi1_11, hP1 1 _ rfl⟩
  have np2 : X10P0_0 dC dI G ax (if 0 ≤ n.toInt ∧ n.toInt ≤ ((T : Nat) : Int) then n.toNatClampNeg else T) Y t.heap := ⟨(by first | omega | exact hu | exact hu.1 | exact hu.1.1 | exact hu.1.2 | exact hu.2 | exact hu.1.1.1 | exact hu.1.1.2 | exact fd_nn (by first | with_reducible assumption | assumption) | (split at hu <;> omega) | (split <;> omega) | exact E_inv (by first | with_reducible assumption | assumption)), hP1 2 _ rfl, q3.kept (FR 3 4 (by decide) (by decide) 3 (by decide) (by decide) q3.lt)⟩
  exact ⟨⟨r, (), ho, hr, ⟨np0, np1, np2, p3.kept (FR 4 11 (by decide) (by decide)), p4.kept (FR 11 18 (by decide) (by decide)), p5.kept (FR 18 25 (by decide) (by decide)), p6.kept (FR 25 26 (by decide) (by decide)), p7.kept (FR 26 33 (by decide) (by decide)), p8.kept (FR 33 40 (by decide) (by decide)), p9.kept (FR 40 41 (by decide) (by decide)), p10.kept (FR 41 44 (by decide) (by decide)), p11.kept (FR 44 68 (by decide) (by decide)), p12.kept (FR 68 69 (by decide) (by decide)), p13.kept (FR 69 74 (by decide) (by decide)), p14.kept (FR 74 77 (by decide) (by decide)), p15.kept (FR 77 102 (by decide) (by decide)), p16.kept (FR 102 112 (by decide) (by decide)), ⟨hX, hXV.2⟩⟩⟩, hF.wide (ad_ix [0, 1, 2] (by rfl) (by decide))⟩

set_option maxHeartbeats 1000000 in
set_option maxRecDepth 100000 in
theorem k_X10_textE (l : Launch) (dC : Nat → ClassId) (dI : Nat → Nat → Nat) (G : Nat → ClassId) (sz : Nat) (ax : Nat → Nat) (hi : adInj 129 ax) (T : Nat) (Y : Nat → Int32) (fa : Int32) (W0 : Nat → Int32) (W1 : Nat → Int32) (W2 : Nat → Int32) (N : Nat) (B : Nat) (N1 : Nat) (B1 : Nat) (N2 : Nat) (B2 : Nat) (K : Nat → Int32) (S : Nat) (M : Nat) (E : Nat → Int32) (Z : Nat → Int32) (O0 : Nat → Int32) (O1 : Nat → Int32) (O2 : Nat → Int32) (CE : Nat → Int32) (MR : Nat → Int32) (adK adV : Nat → Nat) : Met l yX10_text (Cond.code yX10_text cX10_text 2 (some .int) :: GT) ({ frames := 10, cells := 0, slots := 0, locals := 213 } : Room) (PcIS [.ref (ax 0)] dC dI G (X10I dC dI G ax T Y fa W0 W1 W2 N B N1 B1 N2 B2 K S M E Z O0 O1 O2 CE MR) adK adV (adX 0 112 ax sz) sz) (va_Qi (fun (r : Int32) (_ : Unit) => r = txA Y T) (fun _ t => X10I dC dI G ax 0 Y (txF Y T) (txW Y T W0) W1 W2 (txN Y T N) (txB Y T B) N1 B1 N2 B2 (txK Y T K) (txS Y T S) (txS Y T M) E Z (txO Y T O0) O1 O2 CE MR t.heap) (adX 0 112 ax sz)) 0 0 (adX 0 112 ax sz) := by
  refine Met.pick (fun a st hp => ?_)
  obtain ⟨e0, hsz, hI, hK, hSS⟩ := hp
  subst hsz
  have hI0 := hI
  unfold X10I at hI
  obtain ⟨p0, p1, p2, p3, p4, p5, p6, p7, p8, p9, p10, p11, p12, p13, p14, p15, p16, hX⟩ := hI
  have hXV := hX
  have hX := hXV.1
  unfold X10Pr at p0
  obtain ⟨zi0_13, q0⟩ := p0
  unfold X10P0 at p1
  obtain ⟨zi1_2, zi1_3, zi1_4, zi1_5, zi1_6, zi1_7, zi1_8, zi1_9, zi1_10, zi1_11, q1⟩ := p1
  unfold X10P0_0 at p2
  obtain ⟨p2j0, q2, q3⟩ := p2
  unfold X10P0_1 at p3
  obtain ⟨zn4_0, zn4_1, zn4_2, zf5, zf6, zf7, zf8, zf9, zf10, p3j0, p3j1, p3j2, q4, q5, q6, q7, q8, q9, q10⟩ := p3
  unfold X10P1 at p4
  obtain ⟨zn11_2, zf12, zf13, zf14, zf15, zf16, zf17, p4j0, p4j1, p4j2, p4j3, p4j4, q11, q12, q13, q14, q15, q16, q17⟩ := p4
  unfold X10P4 at p9
  have q40 := p9
  unfold X10P8 at p13
  obtain ⟨zf70, zf71, zf72, zf73, p13j0, q69, q70, q71, q72, q73⟩ := p13
  unfold X10P9 at p14
  obtain ⟨zf75, zf76, p14j0, p14j1, q74, q75, q76⟩ := p14
  refine ⟨_, _, _, c_X10_textE l dC dI G _ (ax 0) (ax 1) (ax 11) (ax 18) (ax 25) (ax 40) (ax 41) (ax 44) (ax 68) (ax 69) (ax 74) (ax 77) (ax 102) (ax 2) (ax 4) (ax 3) T (ax 5) (ax 6) (ax 7) (ax 8) (ax 9) (ax 10) zn4_0 zn4_1 zn4_2 (ax 12) (ax 13) (ax 14) (ax 15) (ax 16) (ax 17) N B zn11_2 (ax 70) (ax 71) (ax 72) (ax 73) (ax 75) (ax 76) S M fa zi0_13 zi1_2 zi1_3 zi1_4 zi1_5 zi1_6 zi1_7 zi1_8 zi1_9 zi1_10 zi1_11 Y zf5 zf6 zf7 zf8 zf9 zf10 zf12 zf13 zf14 zf15 zf16 zf17 K adK adV (by first | with_reducible assumption | assumption) (by first | with_reducible assumption | assumption) (by first | with_reducible assumption | assumption) (by first | with_reducible assumption | assumption) (by first | with_reducible assumption | assumption) (by first | with_reducible assumption | assumption) (by first | with_reducible assumption | assumption) (by first | with_reducible assumption | assumption) (by first | with_reducible assumption | assumption), ⟨e0, rfl, (vpc q0 (vpc q1 (vpc q2 (vpc q3 (vpc q4 (vpc q5 (vpc q6 (vpc q7 (vpc q8 (vpc q9 (vpc q10 (vpc q11 (vpc q12 (vpc q13 (vpc q14 (vpc q15 (vpc q16 (vpc q17 (vpc q69 (vpc q74 (vpc q40 va_nilP))))))))))))))))))))), hK, vD_ix hi [0, 1, 2, 3, 4, 5, 6, 7, 8, 9, 10, 11, 12, 13, 14, 15, 16, 17, 69, 74, 40] (by rfl) (by decide) (by decide), hSS.narrow (ad_ix [0, 1, 2, 3, 4, 5, 6, 7, 8, 9, 10, 11, 12, 13, 14, 15, 16, 17, 69, 74, 40] (by rfl) (by decide))⟩, ad_ix [0, 1, 2, 3, 4, 5, 6, 7, 8, 9, 10, 11, 12, 13, 14, 15, 16, 17, 69, 74, 40] (by rfl) (by decide), fun o t hq => ?_⟩
  obtain ⟨⟨r, ⟨ou0, ou1, ou2, ou3, ou4, ou5, ou6, ou7, ou8, ou9, ou10, n0, n1, n2, v1, v2, v3, v4, v5, v6, w0, w1, w2, y1, y2, y3, y4, y5, y6, s0, s1, s2⟩, ho, ⟨hr, hu⟩, hP1, -⟩, hF⟩ := hq
  have FR : ∀ lo hi' : Nat, hi' ≤ 129 → ([0, 1, 2, 3, 4, 5, 6, 7, 8, 9, 10, 11, 12, 13, 14, 15, 16, 17, 69, 74, 40] : List Nat).all (fun x => decide (x < lo) || decide (hi' ≤ x)) = true → ∀ j : Nat, lo ≤ j → j < hi' → ax j < st.heap.size → t.heap[ax j]? = st.heap[ax j]? := fun lo hi' h1 h2 => fr_ix hi h1 hF.2 [0, 1, 2, 3, 4, 5, 6, 7, 8, 9, 10, 11, 12, 13, 14, 15, 16, 17, 69, 74, 40] (by rfl) (by decide) h2
  have xfa : (txF Y T) = ou10 := Eq.symm (hu.2.1.trans (txt_cf (by first | with_reducible assumption | assumption)))
  subst xfa
  have xN : (txN Y T N) = w0 := Eq.symm (hu.2.2.1.trans (txt_cN (by first | with_reducible assumption | assumption)))
  subst xN
  have xB : (txB Y T B) = w1 := Eq.symm (hu.2.2.2.1.trans (txt_cB (by first | with_reducible assumption | assumption)))
  subst xB
  have xS : (txS Y T S) = s0 := Eq.symm (hu.2.2.2.2.2.2.2.2.2.2.2.1.trans (txt_c1 (by first | with_reducible assumption | assumption)))
  subst xS
  have xM : (txS Y T M) = s1 := Eq.symm (hu.2.2.2.2.2.2.2.2.2.2.2.2.1.trans (txt_c1 (by first | with_reducible assumption | assumption)))
  subst xM
  have y40 : (txK Y T K) = s2 := Eq.symm (hu.2.2.2.2.2.2.2.2.2.2.2.2.2.trans (txt_c1 (by first | with_reducible assumption | assumption)))
  subst y40
  have hT := hu.2
  replace hu := hu.1
  have np0 : X10Pr dC dI G ax (txF Y T) t.heap := ⟨zi0_13, hP1 0 _ rfl⟩
  have np1 : X10P0 dC dI G ax t.heap := ⟨ou0, ou1, ou2, ou3, ou4, ou5, ou6, ou7, ou8, ou9, hP1 1 _ rfl⟩
  have np2 : X10P0_0 dC dI G ax 0 Y t.heap := ⟨(by first | omega | exact hu | exact hu.1 | exact hu.1.1 | exact hu.1.2 | exact hu.2 | exact hu.1.1.1 | exact hu.1.1.2 | exact fd_nn (by first | with_reducible assumption | assumption) | (split at hu <;> omega) | (split <;> omega) | exact E_inv (by first | with_reducible assumption | assumption)), hP1 2 _ rfl, hP1 3 _ rfl⟩
  have np3 : X10P0_1 dC dI G ax t.heap := ⟨n0, n1, n2, v1, v2, v3, v4, v5, v6, (by first | omega | exact hu | exact hu.1 | exact hu.1.1 | exact hu.1.2 | exact hu.2 | exact hu.1.1.1 | exact hu.1.1.2 | exact fd_nn (by first | with_reducible assumption | assumption) | (split at hu <;> omega) | (split <;> omega) | exact E_inv (by first | with_reducible assumption | assumption)), (by first | omega | exact hu | exact hu.1 | exact hu.1.1 | exact hu.1.2 | exact hu.2 | exact hu.1.1.1 | exact hu.1.1.2 | exact fd_nn (by first | with_reducible assumption | assumption) | (split at hu <;> omega) | (split <;> omega) | exact E_inv (by first | with_reducible assumption | assumption)), (by first | omega | exact hu | exact hu.1 | exact hu.1.1 | exact hu.1.2 | exact hu.2 | exact hu.1.1.1 | exact hu.1.1.2 | exact fd_nn (by first | with_reducible assumption | assumption) | (split at hu <;> omega) | (split <;> omega) | exact E_inv (by first | with_reducible assumption | assumption)), hP1 4 _ rfl, hP1 5 _ rfl, hP1 6 _ rfl, hP1 7 _ rfl, hP1 8 _ rfl, hP1 9 _ rfl, hP1 10 _ rfl⟩
  have np4 : X10P1 dC dI G ax (txW Y T W0) (txN Y T N) (txB Y T B) (txO Y T O0) t.heap := ⟨w2, y1, y2, y3, y4, y5, y6, (by rw [hT.2.2.2.1, hT.2.2.2.2.1, hT.2.2.2.2.2.1, hT.2.2.2.2.2.2.2.1, hT.2.2.2.2.2.2.2.2.1, hT.2.2.2.2.2.2.2.2.2.1]; exact CR.text (by first | with_reducible assumption | assumption) (by first | with_reducible assumption | assumption)), (by rw [hT.2.2.2.2.2.2.1]; exact OR.text (by first | with_reducible assumption | assumption) (by first | with_reducible assumption | assumption)), (by first | omega | exact hu | exact hu.1 | exact hu.1.1 | exact hu.1.2 | exact hu.2 | exact hu.1.1.1 | exact hu.1.1.2 | exact fd_nn (by first | with_reducible assumption | assumption) | (split at hu <;> omega) | (split <;> omega) | exact E_inv (by first | with_reducible assumption | assumption)), (by first | omega | exact hu | exact hu.1 | exact hu.1.1 | exact hu.1.2 | exact hu.2 | exact hu.1.1.1 | exact hu.1.1.2 | exact fd_nn (by first | with_reducible assumption | assumption) | (split at hu <;> omega) | (split <;> omega) | exact E_inv (by first | with_reducible assumption | assumption)), (by first | omega | exact hu | exact hu.1 | exact hu.1.1 | exact hu.1.2 | exact hu.2 | exact hu.1.1.1 | exact hu.1.1.2 | exact fd_nn (by first | with_reducible assumption | assumption) | (split at hu <;> omega) | (split <;> omega) | exact E_inv (by first | with_reducible assumption | assumption)), hP1 11 _ rfl, hP1 12 _ rfl, hP1 13 _ rfl, hP1 14 _ rfl, hP1 15 _ rfl, hP1 16 _ rfl, hP1 17 _ rfl⟩
  have np9 : X10P4 dC dI G ax (txK Y T K) t.heap := hP1 20 _ rfl
  have np13 : X10P8 dC dI G ax (txS Y T S) t.heap := ⟨zf70, zf71, zf72, zf73, (by first | omega | exact hu | exact hu.1 | exact hu.1.1 | exact hu.1.2 | exact hu.2 | exact hu.1.1.1 | exact hu.1.1.2 | exact fd_nn (by first | with_reducible assumption | assumption) | (split at hu <;> omega) | (split <;> omega) | exact E_inv (by first | with_reducible assumption | assumption)), hP1 18 _ rfl, q70.kept (FR 70 71 (by decide) (by decide) 70 (by decide) (by decide) q70.lt), q71.kept (FR 71 72 (by decide) (by decide) 71 (by decide) (by decide) q71.lt), q72.kept (FR 72 73 (by decide) (by decide) 72 (by decide) (by decide) q72.lt), q73.kept (FR 73 74 (by decide) (by decide) 73 (by decide) (by decide) q73.lt)⟩
  have np14 : X10P9 dC dI G ax (txS Y T M) MR t.heap := ⟨zf75, zf76, (CMk.le (by first | with_reducible assumption | assumption) txS_le), (by first | omega | exact hu | exact hu.1 | exact hu.1.1 | exact hu.1.2 | exact hu.2 | exact hu.1.1.1 | exact hu.1.1.2 | exact fd_nn (by first | with_reducible assumption | assumption) | (split at hu <;> omega) | (split <;> omega) | exact E_inv (by first | with_reducible assumption | assumption)), hP1 19 _ rfl, q75.kept (FR 75 76 (by decide) (by decide) 75 (by decide) (by decide) q75.lt), q76.kept (FR 76 77 (by decide) (by decide) 76 (by decide) (by decide) q76.lt)⟩
  exact ⟨⟨r, (), ho, hr.trans (txt_ca (by first | with_reducible assumption | assumption)), ⟨np0, np1, np2, np3, np4, p5.kept (FR 18 25 (by decide) (by decide)), p6.kept (FR 25 26 (by decide) (by decide)), p7.kept (FR 26 33 (by decide) (by decide)), p8.kept (FR 33 40 (by decide) (by decide)), np9, p10.kept (FR 41 44 (by decide) (by decide)), p11.kept (FR 44 68 (by decide) (by decide)), p12.kept (FR 68 69 (by decide) (by decide)), np13, np14, p15.kept (FR 77 102 (by decide) (by decide)), p16.kept (FR 102 112 (by decide) (by decide)), ⟨tx_X hX, tx_V (by first | with_reducible assumption | assumption) hXV.2⟩⟩⟩, hF.wide (ad_ix [0, 1, 2, 3, 4, 5, 6, 7, 8, 9, 10, 11, 12, 13, 14, 15, 16, 17, 69, 74, 40] (by rfl) (by decide))⟩

set_option maxHeartbeats 1000000 in
set_option maxRecDepth 100000 in
theorem k_X10_faultE (l : Launch) (dC : Nat → ClassId) (dI : Nat → Nat → Nat) (G : Nat → ClassId) (sz : Nat) (ax : Nat → Nat) (hi : adInj 129 ax) (T : Nat) (Y : Nat → Int32) (fa : Int32) (W0 : Nat → Int32) (W1 : Nat → Int32) (W2 : Nat → Int32) (N : Nat) (B : Nat) (N1 : Nat) (B1 : Nat) (N2 : Nat) (B2 : Nat) (K : Nat → Int32) (S : Nat) (M : Nat) (E : Nat → Int32) (Z : Nat → Int32) (O0 : Nat → Int32) (O1 : Nat → Int32) (O2 : Nat → Int32) (CE : Nat → Int32) (MR : Nat → Int32) : Met l yX10_fault (Cond.code yX10_fault cX10_fault 1 (some .int) :: GT) ({ frames := 0, cells := 0, slots := 0, locals := 0 } : Room) (PcI [.ref (ax 0)] dC dI G (X10I dC dI G ax T Y fa W0 W1 W2 N B N1 B1 N2 B2 K S M E Z O0 O1 O2 CE MR) sz) (va_Qi (fun (r : Int32) (_ : Unit) => r = fa) (fun _ t => X10I dC dI G ax T Y fa W0 W1 W2 N B N1 B1 N2 B2 K S M E Z O0 O1 O2 CE MR t.heap) (adX 0 112 ax sz)) 0 0 (adX 0 112 ax sz) := by
  refine Met.pick (fun a st hp => ?_)
  obtain ⟨e0, hsz, hI, hK⟩ := hp
  subst hsz
  have hI0 := hI
  unfold X10I at hI
  obtain ⟨p0, p1, p2, p3, p4, p5, p6, p7, p8, p9, p10, p11, p12, p13, p14, p15, p16, hX⟩ := hI
  have hXV := hX
  have hX := hXV.1
  unfold X10Pr at p0
  obtain ⟨zi0_13, q0⟩ := p0
  refine ⟨_, _, _, c_X10_faultE l dC dI G _ (ax 0) (ax 1) (ax 11) (ax 18) (ax 25) (ax 40) (ax 41) (ax 44) (ax 68) (ax 69) (ax 74) (ax 77) (ax 102) fa zi0_13 , ⟨e0, rfl, (vpc q0 va_nilP), hK⟩, fun q h => Or.inr h, fun o t hq => ?_⟩
  obtain ⟨⟨r, u, ho, ⟨hr, hu⟩, -⟩, hF⟩ := hq
  exact ⟨⟨r, (), ho, hr, hI0.kept (fun j _ _ h => hF.2 _ h (Nat.not_le.mpr h))⟩, hF.wide (fun q h => Or.inr h)⟩

set_option maxHeartbeats 1000000 in
set_option maxRecDepth 100000 in
theorem k_X10_ruleE (l : Launch) (dC : Nat → ClassId) (dI : Nat → Nat → Nat) (G : Nat → ClassId) (sz : Nat) (ax : Nat → Nat) (hi : adInj 129 ax) (T : Nat) (Y : Nat → Int32) (fa : Int32) (W0 : Nat → Int32) (W1 : Nat → Int32) (W2 : Nat → Int32) (N : Nat) (B : Nat) (N1 : Nat) (B1 : Nat) (N2 : Nat) (B2 : Nat) (K : Nat → Int32) (S : Nat) (M : Nat) (E : Nat → Int32) (Z : Nat → Int32) (O0 : Nat → Int32) (O1 : Nat → Int32) (O2 : Nat → Int32) (CE : Nat → Int32) (MR : Nat → Int32) (what : Int32) : Met l yX10_rule (Cond.code yX10_rule cX10_rule 2 (some .int) :: GT) ({ frames := 0, cells := 0, slots := 0, locals := 0 } : Room) (PcI [.ref (ax 0), .int what] dC dI G (X10I dC dI G ax T Y fa W0 W1 W2 N B N1 B1 N2 B2 K S M E Z O0 O1 O2 CE MR) sz) (va_Qi (fun (r : Int32) (_ : Unit) => r = ruF what N B (W0 48 + 5)) (fun _ t => X10I dC dI G ax T Y fa W0 W1 W2 N B N1 B1 N2 B2 K S M E Z O0 O1 O2 CE MR t.heap) (adX 0 112 ax sz)) 0 0 (adX 0 112 ax sz) := by
  refine Met.pick (fun a st hp => ?_)
  obtain ⟨e0, hsz, hI, hK⟩ := hp
  subst hsz
  have hI0 := hI
  unfold X10I at hI
  obtain ⟨p0, p1, p2, p3, p4, p5, p6, p7, p8, p9, p10, p11, p12, p13, p14, p15, p16, hX⟩ := hI
  have hXV := hX
  have hX := hXV.1
  unfold X10Pr at p0
  obtain ⟨zi0_13, q0⟩ := p0
  unfold X10P1 at p4
  obtain ⟨zn11_2, zf12, zf13, zf14, zf15, zf16, zf17, p4j0, p4j1, p4j2, p4j3, p4j4, q11, q12, q13, q14, q15, q16, q17⟩ := p4
  refine ⟨_, _, _, c_X10_ruleE l dC dI G _ (ax 0) (ax 1) (ax 11) (ax 18) (ax 25) (ax 40) (ax 41) (ax 44) (ax 68) (ax 69) (ax 74) (ax 77) (ax 102) (ax 12) (ax 13) (ax 14) (ax 15) (ax 16) (ax 17) N B zn11_2 fa zi0_13 what (by first | with_reducible assumption | assumption) (by first | with_reducible assumption | assumption) (by first | with_reducible assumption | assumption), ⟨e0, rfl, (vpc q0 (vpc q11 va_nilP)), hK⟩, fun q h => Or.inr h, fun o t hq => ?_⟩
  obtain ⟨⟨r, u, ho, ⟨hr, hu⟩, -⟩, hF⟩ := hq
  exact ⟨⟨r, (), ho, hr.trans (ru_c (by first | with_reducible assumption | assumption)), hI0.kept (fun j _ _ h => hF.2 _ h (Nat.not_le.mpr h))⟩, hF.wide (fun q h => Or.inr h)⟩

set_option maxHeartbeats 1000000 in
set_option maxRecDepth 100000 in
theorem k_X10_stretch (l : Launch) (dC : Nat → ClassId) (dI : Nat → Nat → Nat) (G : Nat → ClassId) (sz : Nat) (ax : Nat → Nat) (hi : adInj 129 ax) (T : Nat) (Y : Nat → Int32) (fa : Int32) (W0 : Nat → Int32) (W1 : Nat → Int32) (W2 : Nat → Int32) (N : Nat) (B : Nat) (N1 : Nat) (B1 : Nat) (N2 : Nat) (B2 : Nat) (K : Nat → Int32) (S : Nat) (M : Nat) (E : Nat → Int32) (Z : Nat → Int32) (O0 : Nat → Int32) (O1 : Nat → Int32) (O2 : Nat → Int32) (CE : Nat → Int32) (MR : Nat → Int32) (i : Int32) (what : Int32) : Met l yX10_stretch (Cond.code yX10_stretch cX10_stretch 3 (some .int) :: GT) ({ frames := 1, cells := 0, slots := 0, locals := 21 } : Room) (PcI [.ref (ax 0), .int i, .int what] dC dI G (X10I dC dI G ax T Y fa W0 W1 W2 N B N1 B1 N2 B2 K S M E Z O0 O1 O2 CE MR) sz) (va_Qi (fun (r : Int32) (_ : Unit) => True) (fun _ t => X10I dC dI G ax T Y fa W0 W1 W2 N B N1 B1 N2 B2 K S M E Z O0 O1 O2 CE MR t.heap) (adX 0 112 ax sz)) 0 0 (adX 0 112 ax sz) := by
  refine Met.pick (fun a st hp => ?_)
  obtain ⟨e0, hsz, hI, hK⟩ := hp
  subst hsz
  have hI0 := hI
  unfold X10I at hI
  obtain ⟨p0, p1, p2, p3, p4, p5, p6, p7, p8, p9, p10, p11, p12, p13, p14, p15, p16, hX⟩ := hI
  have hXV := hX
  have hX := hXV.1
  unfold X10Pr at p0
  obtain ⟨zi0_13, q0⟩ := p0
  unfold X10P1 at p4
  obtain ⟨zn11_2, zf12, zf13, zf14, zf15, zf16, zf17, p4j0, p4j1, p4j2, p4j3, p4j4, q11, q12, q13, q14, q15, q16, q17⟩ := p4
  refine ⟨_, _, _, c_X10_stretch l dC dI G _ (ax 0) (ax 1) (ax 11) (ax 18) (ax 25) (ax 40) (ax 41) (ax 44) (ax 68) (ax 69) (ax 74) (ax 77) (ax 102) (ax 12) (ax 13) (ax 14) (ax 15) (ax 16) (ax 17) N B zn11_2 fa zi0_13 i what zf12 zf13 zf14 (by first | with_reducible assumption | assumption) (by first | with_reducible assumption | assumption) (by first | with_reducible assumption | assumption), ⟨e0, rfl, (vpc q0 (vpc q11 (vpc q12 (vpc q13 (vpc q14 va_nilP))))), hK⟩, fun q h => Or.inr h, fun o t hq => ?_⟩
  obtain ⟨⟨r, u, ho, ⟨hr, hu⟩, -⟩, hF⟩ := hq
  exact ⟨⟨r, (), ho, trivial, hI0.kept (fun j _ _ h => hF.2 _ h (Nat.not_le.mpr h))⟩, hF.wide (fun q h => Or.inr h)⟩

set_option maxHeartbeats 1000000 in
set_option maxRecDepth 100000 in
theorem k_X10_bearerE (l : Launch) (dC : Nat → ClassId) (dI : Nat → Nat → Nat) (G : Nat → ClassId) (sz : Nat) (ax : Nat → Nat) (hi : adInj 129 ax) (T : Nat) (Y : Nat → Int32) (fa : Int32) (W0 : Nat → Int32) (W1 : Nat → Int32) (W2 : Nat → Int32) (N : Nat) (B : Nat) (N1 : Nat) (B1 : Nat) (N2 : Nat) (B2 : Nat) (K : Nat → Int32) (S : Nat) (M : Nat) (E : Nat → Int32) (Z : Nat → Int32) (O0 : Nat → Int32) (O1 : Nat → Int32) (O2 : Nat → Int32) (CE : Nat → Int32) (MR : Nat → Int32) (i : Int32) (what : Int32) : Met l yX10_bearer (Cond.code yX10_bearer cX10_bearer 3 (some .int) :: GT) ({ frames := 1, cells := 0, slots := 0, locals := 21 } : Room) (PcI [.ref (ax 0), .int i, .int what] dC dI G (X10I dC dI G ax T Y fa W0 W1 W2 N B N1 B1 N2 B2 K S M E Z O0 O1 O2 CE MR) sz) (va_Qi (fun (r : Int32) (_ : Unit) => r = if (0 ≤ i.toInt ∧ i.toInt < ((B : Nat) : Int)) then beF what (W0 (20 + 3 * i.toNatClampNeg)) (W0 (20 + 3 * i.toNatClampNeg + 1)) (W0 (20 + 3 * i.toNatClampNeg + 2)) else -1) (fun _ t => X10I dC dI G ax T Y fa W0 W1 W2 N B N1 B1 N2 B2 K S M E Z O0 O1 O2 CE MR t.heap) (adX 0 112 ax sz)) 0 0 (adX 0 112 ax sz) := by
  refine Met.pick (fun a st hp => ?_)
  obtain ⟨e0, hsz, hI, hK⟩ := hp
  subst hsz
  have hI0 := hI
  unfold X10I at hI
  obtain ⟨p0, p1, p2, p3, p4, p5, p6, p7, p8, p9, p10, p11, p12, p13, p14, p15, p16, hX⟩ := hI
  have hXV := hX
  have hX := hXV.1
  unfold X10Pr at p0
  obtain ⟨zi0_13, q0⟩ := p0
  unfold X10P1 at p4
  obtain ⟨zn11_2, zf12, zf13, zf14, zf15, zf16, zf17, p4j0, p4j1, p4j2, p4j3, p4j4, q11, q12, q13, q14, q15, q16, q17⟩ := p4
  refine ⟨_, _, _, c_X10_bearerE l dC dI G _ (ax 0) (ax 1) (ax 11) (ax 18) (ax 25) (ax 40) (ax 41) (ax 44) (ax 68) (ax 69) (ax 74) (ax 77) (ax 102) (ax 12) (ax 13) (ax 14) (ax 15) (ax 16) (ax 17) N B zn11_2 fa zi0_13 i what zf15 zf16 zf17 (by first | with_reducible assumption | assumption) (by first | with_reducible assumption | assumption) (by first | with_reducible assumption | assumption), ⟨e0, rfl, (vpc q0 (vpc q11 (vpc q15 (vpc q16 (vpc q17 va_nilP))))), hK⟩, fun q h => Or.inr h, fun o t hq => ?_⟩
  obtain ⟨⟨r, u, ho, ⟨hr, hu⟩, -⟩, hF⟩ := hq
  exact ⟨⟨r, (), ho, hr.trans (be_c (by first | with_reducible assumption | assumption)), hI0.kept (fun j _ _ h => hF.2 _ h (Nat.not_le.mpr h))⟩, hF.wide (fun q h => Or.inr h)⟩

set_option maxHeartbeats 1000000 in
set_option maxRecDepth 100000 in
theorem k_X10_startE (l : Launch) (dC : Nat → ClassId) (dI : Nat → Nat → Nat) (G : Nat → ClassId) (sz : Nat) (ax : Nat → Nat) (hi : adInj 129 ax) (T : Nat) (Y : Nat → Int32) (fa : Int32) (W0 : Nat → Int32) (W1 : Nat → Int32) (W2 : Nat → Int32) (N : Nat) (B : Nat) (N1 : Nat) (B1 : Nat) (N2 : Nat) (B2 : Nat) (K : Nat → Int32) (S : Nat) (M : Nat) (E : Nat → Int32) (Z : Nat → Int32) (O0 : Nat → Int32) (O1 : Nat → Int32) (O2 : Nat → Int32) (CE : Nat → Int32) (MR : Nat → Int32) (v : Int32) : Met l yX10_start (Cond.code yX10_start cX10_start 3 (some .int) :: GT) ({ frames := 0, cells := 0, slots := 0, locals := 0 } : Room) (PcI [.ref (ax 0), .int v] dC dI G (X10I dC dI G ax T Y fa W0 W1 W2 N B N1 B1 N2 B2 K S M E Z O0 O1 O2 CE MR) sz) (va_Qi (fun (r : Int32) (_ : Unit) => r = if (1 ≤ v.toInt ∧ v.toInt ≤ 9) then W0 48 + 5 else -1) (fun _ t => X10I dC dI G ax T Y fa (if (1 ≤ v.toInt ∧ v.toInt ≤ 9) then upd W0 48 (v - 5) else W0) W1 W2 N B N1 B1 N2 B2 K S M E Z O0 O1 O2 CE MR t.heap) (adX 0 112 ax sz)) 0 0 (adX 0 112 ax sz) := by
  refine Met.pick (fun a st hp => ?_)
  obtain ⟨e0, hsz, hI, hK⟩ := hp
  subst hsz
  have hI0 := hI
  unfold X10I at hI
  obtain ⟨p0, p1, p2, p3, p4, p5, p6, p7, p8, p9, p10, p11, p12, p13, p14, p15, p16, hX⟩ := hI
  have hXV := hX
  have hX := hXV.1
  unfold X10Pr at p0
  obtain ⟨zi0_13, q0⟩ := p0
  unfold X10P1 at p4
  obtain ⟨zn11_2, zf12, zf13, zf14, zf15, zf16, zf17, p4j0, p4j1, p4j2, p4j3, p4j4, q11, q12, q13, q14, q15, q16, q17⟩ := p4
  refine ⟨_, _, _, c_X10_startE l dC dI G _ (ax 0) (ax 1) (ax 11) (ax 18) (ax 25) (ax 40) (ax 41) (ax 44) (ax 68) (ax 69) (ax 74) (ax 77) (ax 102) (ax 12) (ax 13) (ax 14) (ax 15) (ax 16) (ax 17) N B zn11_2 fa zi0_13 v (by first | with_reducible assumption | assumption) (by first | with_reducible assumption | assumption) (by first | with_reducible assumption | assumption), ⟨e0, rfl, (vpc q0 (vpc q11 va_nilP)), hK, vD_ix hi [0, 11] (by rfl) (by decide) (by decide)⟩, ad_ix [0, 11] (by rfl) (by decide), fun o t hq => ?_⟩
  obtain ⟨⟨r, u0, ho, ⟨hr, hu⟩, hP1, -⟩, hF⟩ := hq
  have FR : ∀ lo hi' : Nat, hi' ≤ 129 → ([0, 11] : List Nat).all (fun x => decide (x < lo) || decide (hi' ≤ x)) = true → ∀ j : Nat, lo ≤ j → j < hi' → ax j < st.heap.size → t.heap[ax j]? = st.heap[ax j]? := fun lo hi' h1 h2 => fr_ix hi h1 hF.2 [0, 11] (by rfl) (by decide) h2
  have np0 : X10Pr dC dI G ax fa t.heap := ⟨zi0_13, hP1 0 _ rfl⟩
  have np4 : X10P1 dC dI G ax (if (1 ≤ v.toInt ∧ v.toInt ≤ 9) then upd W0 48 (v - 5) else W0) N B O0 t.heap := ⟨u0, zf12, zf13, zf14, zf15, zf16, zf17, (by rw [hu.2]; exact CR.setD (by first | with_reducible assumption | assumption) (by first | with_reducible assumption | assumption) (by first | with_reducible assumption | assumption)), p4j1, p4j2, p4j3, (by first | omega | exact hu | exact hu.1 | exact hu.1.1 | exact hu.1.2 | exact hu.2 | exact hu.1.1.1 | exact hu.1.1.2 | exact fd_nn (by first | with_reducible assumption | assumption) | (split at hu <;> omega) | (split <;> omega) | exact E_inv (by first | with_reducible assumption | assumption)), hP1 1 _ rfl, q12.kept (FR 12 13 (by decide) (by decide) 12 (by decide) (by decide) q12.lt), q13.kept (FR 13 14 (by decide) (by decide) 13 (by decide) (by decide) q13.lt), q14.kept (FR 14 15 (by decide) (by decide) 14 (by decide) (by decide) q14.lt), q15.kept (FR 15 16 (by decide) (by decide) 15 (by decide) (by decide) q15.lt), q16.kept (FR 16 17 (by decide) (by decide) 16 (by decide) (by decide) q16.lt), q17.kept (FR 17 18 (by decide) (by decide) 17 (by decide) (by decide) q17.lt)⟩
  exact ⟨⟨r, (), ho, hr.trans (sd_c (by first | with_reducible assumption | assumption)), ⟨np0, p1.kept (FR 1 2 (by decide) (by decide)), p2.kept (FR 2 4 (by decide) (by decide)), p3.kept (FR 4 11 (by decide) (by decide)), np4, p5.kept (FR 18 25 (by decide) (by decide)), p6.kept (FR 25 26 (by decide) (by decide)), p7.kept (FR 26 33 (by decide) (by decide)), p8.kept (FR 33 40 (by decide) (by decide)), p9.kept (FR 40 41 (by decide) (by decide)), p10.kept (FR 41 44 (by decide) (by decide)), p11.kept (FR 44 68 (by decide) (by decide)), p12.kept (FR 68 69 (by decide) (by decide)), p13.kept (FR 69 74 (by decide) (by decide)), p14.kept (FR 74 77 (by decide) (by decide)), p15.kept (FR 77 102 (by decide) (by decide)), p16.kept (FR 102 112 (by decide) (by decide)), ⟨hX, hXV.2⟩⟩⟩, hF.wide (ad_ix [0, 11] (by rfl) (by decide))⟩

set_option maxHeartbeats 1000000 in
set_option maxRecDepth 100000 in
theorem k_X10_noiseE (l : Launch) (dC : Nat → ClassId) (dI : Nat → Nat → Nat) (G : Nat → ClassId) (sz : Nat) (ax : Nat → Nat) (hi : adInj 129 ax) (T : Nat) (Y : Nat → Int32) (fa : Int32) (W0 : Nat → Int32) (W1 : Nat → Int32) (W2 : Nat → Int32) (N : Nat) (B : Nat) (N1 : Nat) (B1 : Nat) (N2 : Nat) (B2 : Nat) (K : Nat → Int32) (S : Nat) (M : Nat) (E : Nat → Int32) (Z : Nat → Int32) (O0 : Nat → Int32) (O1 : Nat → Int32) (O2 : Nat → Int32) (CE : Nat → Int32) (MR : Nat → Int32) (i : Int32) (v : Int32) : Met l yX10_noise (Cond.code yX10_noise cX10_noise 3 (some .int) :: GT) ({ frames := 1, cells := 0, slots := 0, locals := 23 } : Room) (PcI [.ref (ax 0), .int i, .int v] dC dI G (X10I dC dI G ax T Y fa W0 W1 W2 N B N1 B1 N2 B2 K S M E Z O0 O1 O2 CE MR) sz) (va_Qi (fun (r : Int32) (_ : Unit) => r = if ((0 ≤ i.toInt ∧ i.toInt < ((N : Nat) : Int)) ∧ 0 ≤ v.toInt ∧ v.toInt ≤ 9) then W0 (2 * i.toNatClampNeg) else -1) (fun _ t => X10I dC dI G ax T Y fa (if ((0 ≤ i.toInt ∧ i.toInt < ((N : Nat) : Int)) ∧ 0 ≤ v.toInt ∧ v.toInt ≤ 9) then upd W0 (2 * i.toNatClampNeg) v else W0) W1 W2 N B N1 B1 N2 B2 K S M E Z O0 O1 O2 CE MR t.heap) (adX 0 112 ax sz)) 0 0 (adX 0 112 ax sz) := by
  refine Met.pick (fun a st hp => ?_)
  obtain ⟨e0, hsz, hI, hK⟩ := hp
  subst hsz
  have hI0 := hI
  unfold X10I at hI
  obtain ⟨p0, p1, p2, p3, p4, p5, p6, p7, p8, p9, p10, p11, p12, p13, p14, p15, p16, hX⟩ := hI
  have hXV := hX
  have hX := hXV.1
  unfold X10Pr at p0
  obtain ⟨zi0_13, q0⟩ := p0
  unfold X10P1 at p4
  obtain ⟨zn11_2, zf12, zf13, zf14, zf15, zf16, zf17, p4j0, p4j1, p4j2, p4j3, p4j4, q11, q12, q13, q14, q15, q16, q17⟩ := p4
  refine ⟨_, _, _, c_X10_noiseE l dC dI G _ (ax 0) (ax 1) (ax 11) (ax 18) (ax 25) (ax 40) (ax 41) (ax 44) (ax 68) (ax 69) (ax 74) (ax 77) (ax 102) (ax 12) (ax 13) (ax 14) (ax 15) (ax 16) (ax 17) N B zn11_2 fa zi0_13 i v zf12 (by first | with_reducible assumption | assumption) (by first | with_reducible assumption | assumption) (by first | with_reducible assumption | assumption), ⟨e0, rfl, (vpc q0 (vpc q11 (vpc q12 va_nilP))), hK, vD_ix hi [0, 11, 12] (by rfl) (by decide) (by decide)⟩, ad_ix [0, 11, 12] (by rfl) (by decide), fun o t hq => ?_⟩
  obtain ⟨⟨r, u0, ho, ⟨hr, hu⟩, hP1, -⟩, hF⟩ := hq
  have FR : ∀ lo hi' : Nat, hi' ≤ 129 → ([0, 11, 12] : List Nat).all (fun x => decide (x < lo) || decide (hi' ≤ x)) = true → ∀ j : Nat, lo ≤ j → j < hi' → ax j < st.heap.size → t.heap[ax j]? = st.heap[ax j]? := fun lo hi' h1 h2 => fr_ix hi h1 hF.2 [0, 11, 12] (by rfl) (by decide) h2
  have np0 : X10Pr dC dI G ax fa t.heap := ⟨zi0_13, hP1 0 _ rfl⟩
  have np4 : X10P1 dC dI G ax (if ((0 ≤ i.toInt ∧ i.toInt < ((N : Nat) : Int)) ∧ 0 ≤ v.toInt ∧ v.toInt ≤ 9) then upd W0 (2 * i.toNatClampNeg) v else W0) N B O0 t.heap := ⟨zn11_2, u0, zf13, zf14, zf15, zf16, zf17, (by rw [hu]; exact CR.set1 (by first | with_reducible assumption | assumption) (by first | with_reducible assumption | assumption)), p4j1, p4j2, p4j3, p4j4, hP1 1 _ rfl, hP1 2 _ rfl, q13.kept (FR 13 14 (by decide) (by decide) 13 (by decide) (by decide) q13.lt), q14.kept (FR 14 15 (by decide) (by decide) 14 (by decide) (by decide) q14.lt), q15.kept (FR 15 16 (by decide) (by decide) 15 (by decide) (by decide) q15.lt), q16.kept (FR 16 17 (by decide) (by decide) 16 (by decide) (by decide) q16.lt), q17.kept (FR 17 18 (by decide) (by decide) 17 (by decide) (by decide) q17.lt)⟩
  exact ⟨⟨r, (), ho, hr.trans (n1_c (by first | with_reducible assumption | assumption)), ⟨np0, p1.kept (FR 1 2 (by decide) (by decide)), p2.kept (FR 2 4 (by decide) (by decide)), p3.kept (FR 4 11 (by decide) (by decide)), np4, p5.kept (FR 18 25 (by decide) (by decide)), p6.kept (FR 25 26 (by decide) (by decide)), p7.kept (FR 26 33 (by decide) (by decide)), p8.kept (FR 33 40 (by decide) (by decide)), p9.kept (FR 40 41 (by decide) (by decide)), p10.kept (FR 41 44 (by decide) (by decide)), p11.kept (FR 44 68 (by decide) (by decide)), p12.kept (FR 68 69 (by decide) (by decide)), p13.kept (FR 69 74 (by decide) (by decide)), p14.kept (FR 74 77 (by decide) (by decide)), p15.kept (FR 77 102 (by decide) (by decide)), p16.kept (FR 102 112 (by decide) (by decide)), ⟨hX, hXV.2⟩⟩⟩, hF.wide (ad_ix [0, 11, 12] (by rfl) (by decide))⟩

set_option maxHeartbeats 1000000 in
set_option maxRecDepth 100000 in
theorem k_X10_coldE (l : Launch) (dC : Nat → ClassId) (dI : Nat → Nat → Nat) (G : Nat → ClassId) (sz : Nat) (ax : Nat → Nat) (hi : adInj 129 ax) (T : Nat) (Y : Nat → Int32) (fa : Int32) (W0 : Nat → Int32) (W1 : Nat → Int32) (W2 : Nat → Int32) (N : Nat) (B : Nat) (N1 : Nat) (B1 : Nat) (N2 : Nat) (B2 : Nat) (K : Nat → Int32) (S : Nat) (M : Nat) (E : Nat → Int32) (Z : Nat → Int32) (O0 : Nat → Int32) (O1 : Nat → Int32) (O2 : Nat → Int32) (CE : Nat → Int32) (MR : Nat → Int32) (i : Int32) (v : Int32) : Met l yX10_cold (Cond.code yX10_cold cX10_cold 3 (some .int) :: GT) ({ frames := 1, cells := 0, slots := 0, locals := 23 } : Room) (PcI [.ref (ax 0), .int i, .int v] dC dI G (X10I dC dI G ax T Y fa W0 W1 W2 N B N1 B1 N2 B2 K S M E Z O0 O1 O2 CE MR) sz) (va_Qi (fun (r : Int32) (_ : Unit) => r = if ((0 ≤ i.toInt ∧ i.toInt < ((N : Nat) : Int)) ∧ 0 ≤ v.toInt ∧ v.toInt ≤ 9) then W0 (2 * i.toNatClampNeg + 1) else -1) (fun _ t => X10I dC dI G ax T Y fa (if ((0 ≤ i.toInt ∧ i.toInt < ((N : Nat) : Int)) ∧ 0 ≤ v.toInt ∧ v.toInt ≤ 9) then upd W0 (2 * i.toNatClampNeg + 1) v else W0) W1 W2 N B N1 B1 N2 B2 K S M E Z O0 O1 O2 CE MR t.heap) (adX 0 112 ax sz)) 0 0 (adX 0 112 ax sz) := by
  refine Met.pick (fun a st hp => ?_)
  obtain ⟨e0, hsz, hI, hK⟩ := hp
  subst hsz
  have hI0 := hI
  unfold X10I at hI
  obtain ⟨p0, p1, p2, p3, p4, p5, p6, p7, p8, p9, p10, p11, p12, p13, p14, p15, p16, hX⟩ := hI
  have hXV := hX
  have hX := hXV.1
  unfold X10Pr at p0
  obtain ⟨zi0_13, q0⟩ := p0
  unfold X10P1 at p4
  obtain ⟨zn11_2, zf12, zf13, zf14, zf15, zf16, zf17, p4j0, p4j1, p4j2, p4j3, p4j4, q11, q12, q13, q14, q15, q16, q17⟩ := p4
  refine ⟨_, _, _, c_X10_coldE l dC dI G _ (ax 0) (ax 1) (ax 11) (ax 18) (ax 25) (ax 40) (ax 41) (ax 44) (ax 68) (ax 69) (ax 74) (ax 77) (ax 102) (ax 12) (ax 13) (ax 14) (ax 15) (ax 16) (ax 17) N B zn11_2 fa zi0_13 i v zf13 (by first | with_reducible assumption | assumption) (by first | with_reducible assumption | assumption) (by first | with_reducible assumption | assumption), ⟨e0, rfl, (vpc q0 (vpc q11 (vpc q13 va_nilP))), hK, vD_ix hi [0, 11, 13] (by rfl) (by decide) (by decide)⟩, ad_ix [0, 11, 13] (by rfl) (by decide), fun o t hq => ?_⟩
  obtain ⟨⟨r, u0, ho, ⟨hr, hu⟩, hP1, -⟩, hF⟩ := hq
  have FR : ∀ lo hi' : Nat, hi' ≤ 129 → ([0, 11, 13] : List Nat).all (fun x => decide (x < lo) || decide (hi' ≤ x)) = true → ∀ j : Nat, lo ≤ j → j < hi' → ax j < st.heap.size → t.heap[ax j]? = st.heap[ax j]? := fun lo hi' h1 h2 => fr_ix hi h1 hF.2 [0, 11, 13] (by rfl) (by decide) h2
  have np0 : X10Pr dC dI G ax fa t.heap := ⟨zi0_13, hP1 0 _ rfl⟩
  have np4 : X10P1 dC dI G ax (if ((0 ≤ i.toInt ∧ i.toInt < ((N : Nat) : Int)) ∧ 0 ≤ v.toInt ∧ v.toInt ≤ 9) then upd W0 (2 * i.toNatClampNeg + 1) v else W0) N B O0 t.heap := ⟨zn11_2, zf12, u0, zf14, zf15, zf16, zf17, (by rw [hu]; exact CR.set2 (by first | with_reducible assumption | assumption) (by first | with_reducible assumption | assumption)), p4j1, p4j2, p4j3, p4j4, hP1 1 _ rfl, q12.kept (FR 12 13 (by decide) (by decide) 12 (by decide) (by decide) q12.lt), hP1 2 _ rfl, q14.kept (FR 14 15 (by decide) (by decide) 14 (by decide) (by decide) q14.lt), q15.kept (FR 15 16 (by decide) (by decide) 15 (by decide) (by decide) q15.lt), q16.kept (FR 16 17 (by decide) (by decide) 16 (by decide) (by decide) q16.lt), q17.kept (FR 17 18 (by decide) (by decide) 17 (by decide) (by decide) q17.lt)⟩
  exact ⟨⟨r, (), ho, hr.trans (n2_c (by first | with_reducible assumption | assumption)), ⟨np0, p1.kept (FR 1 2 (by decide) (by decide)), p2.kept (FR 2 4 (by decide) (by decide)), p3.kept (FR 4 11 (by decide) (by decide)), np4, p5.kept (FR 18 25 (by decide) (by decide)), p6.kept (FR 25 26 (by decide) (by decide)), p7.kept (FR 26 33 (by decide) (by decide)), p8.kept (FR 33 40 (by decide) (by decide)), p9.kept (FR 40 41 (by decide) (by decide)), p10.kept (FR 41 44 (by decide) (by decide)), p11.kept (FR 44 68 (by decide) (by decide)), p12.kept (FR 68 69 (by decide) (by decide)), p13.kept (FR 69 74 (by decide) (by decide)), p14.kept (FR 74 77 (by decide) (by decide)), p15.kept (FR 77 102 (by decide) (by decide)), p16.kept (FR 102 112 (by decide) (by decide)), ⟨hX, hXV.2⟩⟩⟩, hF.wide (ad_ix [0, 11, 13] (by rfl) (by decide))⟩

set_option maxHeartbeats 1000000 in
set_option maxRecDepth 100000 in
theorem k_X10_stepE (l : Launch) (dC : Nat → ClassId) (dI : Nat → Nat → Nat) (G : Nat → ClassId) (sz : Nat) (ax : Nat → Nat) (hi : adInj 129 ax) (T : Nat) (Y : Nat → Int32) (fa : Int32) (W0 : Nat → Int32) (W1 : Nat → Int32) (W2 : Nat → Int32) (N : Nat) (B : Nat) (N1 : Nat) (B1 : Nat) (N2 : Nat) (B2 : Nat) (K : Nat → Int32) (S : Nat) (M : Nat) (E : Nat → Int32) (Z : Nat → Int32) (O0 : Nat → Int32) (O1 : Nat → Int32) (O2 : Nat → Int32) (CE : Nat → Int32) (MR : Nat → Int32) (i : Int32) (v : Int32) : Met l yX10_step (Cond.code yX10_step cX10_step 3 (some .int) :: GT) ({ frames := 1, cells := 0, slots := 0, locals := 23 } : Room) (PcI [.ref (ax 0), .int i, .int v] dC dI G (X10I dC dI G ax T Y fa W0 W1 W2 N B N1 B1 N2 B2 K S M E Z O0 O1 O2 CE MR) sz) (va_Qi (fun (r : Int32) (_ : Unit) => r = if ((0 ≤ i.toInt ∧ i.toInt < ((B : Nat) : Int)) ∧ 0 ≤ v.toInt ∧ v.toInt ≤ 9) then W0 (20 + 3 * i.toNatClampNeg + 1) else -1) (fun _ t => X10I dC dI G ax T Y fa (if ((0 ≤ i.toInt ∧ i.toInt < ((B : Nat) : Int)) ∧ 0 ≤ v.toInt ∧ v.toInt ≤ 9) then upd W0 (20 + 3 * i.toNatClampNeg + 1) v else W0) W1 W2 N B N1 B1 N2 B2 K S M E Z O0 O1 O2 CE MR t.heap) (adX 0 112 ax sz)) 0 0 (adX 0 112 ax sz) := by
  refine Met.pick (fun a st hp => ?_)
  obtain ⟨e0, hsz, hI, hK⟩ := hp
  subst hsz
  have hI0 := hI
  unfold X10I at hI
  obtain ⟨p0, p1, p2, p3, p4, p5, p6, p7, p8, p9, p10, p11, p12, p13, p14, p15, p16, hX⟩ := hI
  have hXV := hX
  have hX := hXV.1
  unfold X10Pr at p0
  obtain ⟨zi0_13, q0⟩ := p0
  unfold X10P1 at p4
  obtain ⟨zn11_2, zf12, zf13, zf14, zf15, zf16, zf17, p4j0, p4j1, p4j2, p4j3, p4j4, q11, q12, q13, q14, q15, q16, q17⟩ := p4
  refine ⟨_, _, _, c_X10_stepE l dC dI G _ (ax 0) (ax 1) (ax 11) (ax 18) (ax 25) (ax 40) (ax 41) (ax 44) (ax 68) (ax 69) (ax 74) (ax 77) (ax 102) (ax 12) (ax 13) (ax 14) (ax 15) (ax 16) (ax 17) N B zn11_2 fa zi0_13 i v zf16 (by first | with_reducible assumption | assumption) (by first | with_reducible assumption | assumption) (by first | with_reducible assumption | assumption), ⟨e0, rfl, (vpc q0 (vpc q11 (vpc q16 va_nilP))), hK, vD_ix hi [0, 11, 16] (by rfl) (by decide) (by decide)⟩, ad_ix [0, 11, 16] (by rfl) (by decide), fun o t hq => ?_⟩
  obtain ⟨⟨r, u0, ho, ⟨hr, hu⟩, hP1, -⟩, hF⟩ := hq
  have FR : ∀ lo hi' : Nat, hi' ≤ 129 → ([0, 11, 16] : List Nat).all (fun x => decide (x < lo) || decide (hi' ≤ x)) = true → ∀ j : Nat, lo ≤ j → j < hi' → ax j < st.heap.size → t.heap[ax j]? = st.heap[ax j]? := fun lo hi' h1 h2 => fr_ix hi h1 hF.2 [0, 11, 16] (by rfl) (by decide) h2
  have np0 : X10Pr dC dI G ax fa t.heap := ⟨zi0_13, hP1 0 _ rfl⟩
  have np4 : X10P1 dC dI G ax (if ((0 ≤ i.toInt ∧ i.toInt < ((B : Nat) : Int)) ∧ 0 ≤ v.toInt ∧ v.toInt ≤ 9) then upd W0 (20 + 3 * i.toNatClampNeg + 1) v else W0) N B O0 t.heap := ⟨zn11_2, zf12, zf13, zf14, zf15, u0, zf17, (by rw [hu]; exact CR.set5 (by first | with_reducible assumption | assumption) (by first | with_reducible assumption | assumption) (by first | with_reducible assumption | assumption)), p4j1, p4j2, p4j3, p4j4, hP1 1 _ rfl, q12.kept (FR 12 13 (by decide) (by decide) 12 (by decide) (by decide) q12.lt), q13.kept (FR 13 14 (by decide) (by decide) 13 (by decide) (by decide) q13.lt), q14.kept (FR 14 15 (by decide) (by decide) 14 (by decide) (by decide) q14.lt), q15.kept (FR 15 16 (by decide) (by decide) 15 (by decide) (by decide) q15.lt), hP1 2 _ rfl, q17.kept (FR 17 18 (by decide) (by decide) 17 (by decide) (by decide) q17.lt)⟩
  exact ⟨⟨r, (), ho, hr.trans (n5_c (by first | with_reducible assumption | assumption)), ⟨np0, p1.kept (FR 1 2 (by decide) (by decide)), p2.kept (FR 2 4 (by decide) (by decide)), p3.kept (FR 4 11 (by decide) (by decide)), np4, p5.kept (FR 18 25 (by decide) (by decide)), p6.kept (FR 25 26 (by decide) (by decide)), p7.kept (FR 26 33 (by decide) (by decide)), p8.kept (FR 33 40 (by decide) (by decide)), p9.kept (FR 40 41 (by decide) (by decide)), p10.kept (FR 41 44 (by decide) (by decide)), p11.kept (FR 44 68 (by decide) (by decide)), p12.kept (FR 68 69 (by decide) (by decide)), p13.kept (FR 69 74 (by decide) (by decide)), p14.kept (FR 74 77 (by decide) (by decide)), p15.kept (FR 77 102 (by decide) (by decide)), p16.kept (FR 102 112 (by decide) (by decide)), ⟨hX, hXV.2⟩⟩⟩, hF.wide (ad_ix [0, 11, 16] (by rfl) (by decide))⟩

set_option maxHeartbeats 1000000 in
set_option maxRecDepth 100000 in
theorem k_X10_warmE (l : Launch) (dC : Nat → ClassId) (dI : Nat → Nat → Nat) (G : Nat → ClassId) (sz : Nat) (ax : Nat → Nat) (hi : adInj 129 ax) (T : Nat) (Y : Nat → Int32) (fa : Int32) (W0 : Nat → Int32) (W1 : Nat → Int32) (W2 : Nat → Int32) (N : Nat) (B : Nat) (N1 : Nat) (B1 : Nat) (N2 : Nat) (B2 : Nat) (K : Nat → Int32) (S : Nat) (M : Nat) (E : Nat → Int32) (Z : Nat → Int32) (O0 : Nat → Int32) (O1 : Nat → Int32) (O2 : Nat → Int32) (CE : Nat → Int32) (MR : Nat → Int32) (i : Int32) (v : Int32) : Met l yX10_warm (Cond.code yX10_warm cX10_warm 3 (some .int) :: GT) ({ frames := 1, cells := 0, slots := 0, locals := 23 } : Room) (PcI [.ref (ax 0), .int i, .int v] dC dI G (X10I dC dI G ax T Y fa W0 W1 W2 N B N1 B1 N2 B2 K S M E Z O0 O1 O2 CE MR) sz) (va_Qi (fun (r : Int32) (_ : Unit) => r = if ((0 ≤ i.toInt ∧ i.toInt < ((B : Nat) : Int)) ∧ 0 ≤ v.toInt ∧ v.toInt ≤ 9) then W0 (20 + 3 * i.toNatClampNeg + 2) else -1) (fun _ t => X10I dC dI G ax T Y fa (if ((0 ≤ i.toInt ∧ i.toInt < ((B : Nat) : Int)) ∧ 0 ≤ v.toInt ∧ v.toInt ≤ 9) then upd W0 (20 + 3 * i.toNatClampNeg + 2) v else W0) W1 W2 N B N1 B1 N2 B2 K S M E Z O0 O1 O2 CE MR t.heap) (adX 0 112 ax sz)) 0 0 (adX 0 112 ax sz) := by
  refine Met.pick (fun a st hp => ?_)
  obtain ⟨e0, hsz, hI, hK⟩ := hp
  subst hsz
  have hI0 := hI
  unfold X10I at hI
  obtain ⟨p0, p1, p2, p3, p4, p5, p6, p7, p8, p9, p10, p11, p12, p13, p14, p15, p16, hX⟩ := hI
  have hXV := hX
  have hX := hXV.1
  unfold X10Pr at p0
  obtain ⟨zi0_13, q0⟩ := p0
  unfold X10P1 at p4
  obtain ⟨zn11_2, zf12, zf13, zf14, zf15, zf16, zf17, p4j0, p4j1, p4j2, p4j3, p4j4, q11, q12, q13, q14, q15, q16, q17⟩ := p4
  refine ⟨_, _, _, c_X10_warmE l dC dI G _ (ax 0) (ax 1) (ax 11) (ax 18) (ax 25) (ax 40) (ax 41) (ax 44) (ax 68) (ax 69) (ax 74) (ax 77) (ax 102) (ax 12) (ax 13) (ax 14) (ax 15) (ax 16) (ax 17) N B zn11_2 fa zi0_13 i v zf17 (by first | with_reducible assumption | assumption) (by first | with_reducible assumption | assumption) (by first | with_reducible assumption | assumption), ⟨e0, rfl, (vpc q0 (vpc q11 (vpc q17 va_nilP))), hK, vD_ix hi [0, 11, 17] (by rfl) (by decide) (by decide)⟩, ad_ix [0, 11, 17] (by rfl) (by decide), fun o t hq => ?_⟩
  obtain ⟨⟨r, u0, ho, ⟨hr, hu⟩, hP1, -⟩, hF⟩ := hq
  have FR : ∀ lo hi' : Nat, hi' ≤ 129 → ([0, 11, 17] : List Nat).all (fun x => decide (x < lo) || decide (hi' ≤ x)) = true → ∀ j : Nat, lo ≤ j → j < hi' → ax j < st.heap.size → t.heap[ax j]? = st.heap[ax j]? := fun lo hi' h1 h2 => fr_ix hi h1 hF.2 [0, 11, 17] (by rfl) (by decide) h2
  have np0 : X10Pr dC dI G ax fa t.heap := ⟨zi0_13, hP1 0 _ rfl⟩
  have np4 : X10P1 dC dI G ax (if ((0 ≤ i.toInt ∧ i.toInt < ((B : Nat) : Int)) ∧ 0 ≤ v.toInt ∧ v.toInt ≤ 9) then upd W0 (20 + 3 * i.toNatClampNeg + 2) v else W0) N B O0 t.heap := ⟨zn11_2, zf12, zf13, zf14, zf15, zf16, u0, (by rw [hu]; exact CR.set6 (by first | with_reducible assumption | assumption) (by first | with_reducible assumption | assumption) (by first | with_reducible assumption | assumption)), p4j1, p4j2, p4j3, p4j4, hP1 1 _ rfl, q12.kept (FR 12 13 (by decide) (by decide) 12 (by decide) (by decide) q12.lt), q13.kept (FR 13 14 (by decide) (by decide) 13 (by decide) (by decide) q13.lt), q14.kept (FR 14 15 (by decide) (by decide) 14 (by decide) (by decide) q14.lt), q15.kept (FR 15 16 (by decide) (by decide) 15 (by decide) (by decide) q15.lt), q16.kept (FR 16 17 (by decide) (by decide) 16 (by decide) (by decide) q16.lt), hP1 2 _ rfl⟩
  exact ⟨⟨r, (), ho, hr.trans (n6_c (by first | with_reducible assumption | assumption)), ⟨np0, p1.kept (FR 1 2 (by decide) (by decide)), p2.kept (FR 2 4 (by decide) (by decide)), p3.kept (FR 4 11 (by decide) (by decide)), np4, p5.kept (FR 18 25 (by decide) (by decide)), p6.kept (FR 25 26 (by decide) (by decide)), p7.kept (FR 26 33 (by decide) (by decide)), p8.kept (FR 33 40 (by decide) (by decide)), p9.kept (FR 40 41 (by decide) (by decide)), p10.kept (FR 41 44 (by decide) (by decide)), p11.kept (FR 44 68 (by decide) (by decide)), p12.kept (FR 68 69 (by decide) (by decide)), p13.kept (FR 69 74 (by decide) (by decide)), p14.kept (FR 74 77 (by decide) (by decide)), p15.kept (FR 77 102 (by decide) (by decide)), p16.kept (FR 102 112 (by decide) (by decide)), ⟨hX, hXV.2⟩⟩⟩, hF.wide (ad_ix [0, 11, 17] (by rfl) (by decide))⟩

set_option maxHeartbeats 1000000 in
set_option maxRecDepth 100000 in
theorem k_X10_putE (l : Launch) (dC : Nat → ClassId) (dI : Nat → Nat → Nat) (G : Nat → ClassId) (sz : Nat) (ax : Nat → Nat) (hi : adInj 129 ax) (T : Nat) (Y : Nat → Int32) (fa : Int32) (W0 : Nat → Int32) (W1 : Nat → Int32) (W2 : Nat → Int32) (N : Nat) (B : Nat) (N1 : Nat) (B1 : Nat) (N2 : Nat) (B2 : Nat) (K : Nat → Int32) (S : Nat) (M : Nat) (E : Nat → Int32) (Z : Nat → Int32) (O0 : Nat → Int32) (O1 : Nat → Int32) (O2 : Nat → Int32) (CE : Nat → Int32) (MR : Nat → Int32) (i : Int32) (k : Int32) : Met l yX10_put (Cond.code yX10_put cX10_put 4 (some .int) :: GT) ({ frames := 1, cells := 0, slots := 0, locals := 21 } : Room) (PcI [.ref (ax 0), .int i, .int k] dC dI G (X10I dC dI G ax T Y fa W0 W1 W2 N B N1 B1 N2 B2 K S M E Z O0 O1 O2 CE MR) sz) (va_Qi (fun (r : Int32) (_ : Unit) => r = if ((0 ≤ i.toInt ∧ i.toInt < ((N : Nat) : Int)) ∧ (0 ≤ k.toInt ∧ k.toInt < ((B : Nat) : Int))) then O0 i.toNatClampNeg else -1) (fun _ t => X10I dC dI G ax T Y fa W0 W1 W2 N B N1 B1 N2 B2 K S M E Z (if ((0 ≤ i.toInt ∧ i.toInt < ((N : Nat) : Int)) ∧ (0 ≤ k.toInt ∧ k.toInt < ((B : Nat) : Int))) then upd O0 i.toNatClampNeg k else O0) O1 O2 CE MR t.heap) (adX 0 112 ax sz)) 0 0 (adX 0 112 ax sz) := by
  refine Met.pick (fun a st hp => ?_)
  obtain ⟨e0, hsz, hI, hK⟩ := hp
  subst hsz
  have hI0 := hI
  unfold X10I at hI
  obtain ⟨p0, p1, p2, p3, p4, p5, p6, p7, p8, p9, p10, p11, p12, p13, p14, p15, p16, hX⟩ := hI
  have hXV := hX
  have hX := hXV.1
  unfold X10Pr at p0
  obtain ⟨zi0_13, q0⟩ := p0
  unfold X10P1 at p4
  obtain ⟨zn11_2, zf12, zf13, zf14, zf15, zf16, zf17, p4j0, p4j1, p4j2, p4j3, p4j4, q11, q12, q13, q14, q15, q16, q17⟩ := p4
  refine ⟨_, _, _, c_X10_putE l dC dI G _ (ax 0) (ax 1) (ax 11) (ax 18) (ax 25) (ax 40) (ax 41) (ax 44) (ax 68) (ax 69) (ax 74) (ax 77) (ax 102) (ax 12) (ax 13) (ax 14) (ax 15) (ax 16) (ax 17) N B zn11_2 fa zi0_13 i k zf14 (by first | with_reducible assumption | assumption) (by first | with_reducible assumption | assumption) (by first | with_reducible assumption | assumption), ⟨e0, rfl, (vpc q0 (vpc q11 (vpc q14 va_nilP))), hK, vD_ix hi [0, 11, 14] (by rfl) (by decide) (by decide)⟩, ad_ix [0, 11, 14] (by rfl) (by decide), fun o t hq => ?_⟩
  obtain ⟨⟨r, u0, ho, ⟨hr, hu⟩, hP1, -⟩, hF⟩ := hq
  have FR : ∀ lo hi' : Nat, hi' ≤ 129 → ([0, 11, 14] : List Nat).all (fun x => decide (x < lo) || decide (hi' ≤ x)) = true → ∀ j : Nat, lo ≤ j → j < hi' → ax j < st.heap.size → t.heap[ax j]? = st.heap[ax j]? := fun lo hi' h1 h2 => fr_ix hi h1 hF.2 [0, 11, 14] (by rfl) (by decide) h2
  have np0 : X10Pr dC dI G ax fa t.heap := ⟨zi0_13, hP1 0 _ rfl⟩
  have np4 : X10P1 dC dI G ax W0 N B (if ((0 ≤ i.toInt ∧ i.toInt < ((N : Nat) : Int)) ∧ (0 ≤ k.toInt ∧ k.toInt < ((B : Nat) : Int))) then upd O0 i.toNatClampNeg k else O0) t.heap := ⟨zn11_2, zf12, zf13, u0, zf15, zf16, zf17, p4j0, (by rw [hu]; exact OR.set (by first | with_reducible assumption | assumption)), p4j2, p4j3, p4j4, hP1 1 _ rfl, q12.kept (FR 12 13 (by decide) (by decide) 12 (by decide) (by decide) q12.lt), q13.kept (FR 13 14 (by decide) (by decide) 13 (by decide) (by decide) q13.lt), hP1 2 _ rfl, q15.kept (FR 15 16 (by decide) (by decide) 15 (by decide) (by decide) q15.lt), q16.kept (FR 16 17 (by decide) (by decide) 16 (by decide) (by decide) q16.lt), q17.kept (FR 17 18 (by decide) (by decide) 17 (by decide) (by decide) q17.lt)⟩
  exact ⟨⟨r, (), ho, hr.trans (pu_c (by first | with_reducible assumption | assumption) (by first | with_reducible assumption | assumption)), ⟨np0, p1.kept (FR 1 2 (by decide) (by decide)), p2.kept (FR 2 4 (by decide) (by decide)), p3.kept (FR 4 11 (by decide) (by decide)), np4, p5.kept (FR 18 25 (by decide) (by decide)), p6.kept (FR 25 26 (by decide) (by decide)), p7.kept (FR 26 33 (by decide) (by decide)), p8.kept (FR 33 40 (by decide) (by decide)), p9.kept (FR 40 41 (by decide) (by decide)), p10.kept (FR 41 44 (by decide) (by decide)), p11.kept (FR 44 68 (by decide) (by decide)), p12.kept (FR 68 69 (by decide) (by decide)), p13.kept (FR 69 74 (by decide) (by decide)), p14.kept (FR 74 77 (by decide) (by decide)), p15.kept (FR 77 102 (by decide) (by decide)), p16.kept (FR 102 112 (by decide) (by decide)), ⟨hX, pt_V hXV.2⟩⟩⟩, hF.wide (ad_ix [0, 11, 14] (by rfl) (by decide))⟩

set_option maxHeartbeats 1000000 in
set_option maxRecDepth 100000 in
theorem k_X10_harmE (l : Launch) (dC : Nat → ClassId) (dI : Nat → Nat → Nat) (G : Nat → ClassId) (sz : Nat) (ax : Nat → Nat) (hi : adInj 129 ax) (T : Nat) (Y : Nat → Int32) (fa : Int32) (W0 : Nat → Int32) (W1 : Nat → Int32) (W2 : Nat → Int32) (N : Nat) (B : Nat) (N1 : Nat) (B1 : Nat) (N2 : Nat) (B2 : Nat) (K : Nat → Int32) (S : Nat) (M : Nat) (E : Nat → Int32) (Z : Nat → Int32) (O0 : Nat → Int32) (O1 : Nat → Int32) (O2 : Nat → Int32) (CE : Nat → Int32) (MR : Nat → Int32) (i : Int32) (g : Int32) (k : Int32) : Met l yX10_harm (Cond.code yX10_harm cX10_harm 4 (some .int) :: GT) ({ frames := 3, cells := 0, slots := 0, locals := 67 } : Room) (PcI [.ref (ax 0), .int i, .int g, .int k] dC dI G (X10I dC dI G ax T Y fa W0 W1 W2 N B N1 B1 N2 B2 K S M E Z O0 O1 O2 CE MR) sz) (va_Qi (fun (r : Int32) (_ : Unit) => r = haW N B W0 i g k) (fun _ t => X10I dC dI G ax T Y fa W0 W1 W2 N B N1 B1 N2 B2 K S M E Z O0 O1 O2 CE MR t.heap) (adX 0 112 ax sz)) 0 0 (adX 0 112 ax sz) := by
  refine Met.pick (fun a st hp => ?_)
  obtain ⟨e0, hsz, hI, hK⟩ := hp
  subst hsz
  have hI0 := hI
  unfold X10I at hI
  obtain ⟨p0, p1, p2, p3, p4, p5, p6, p7, p8, p9, p10, p11, p12, p13, p14, p15, p16, hX⟩ := hI
  have hXV := hX
  have hX := hXV.1
  unfold X10Pr at p0
  obtain ⟨zi0_13, q0⟩ := p0
  unfold X10P1 at p4
  obtain ⟨zn11_2, zf12, zf13, zf14, zf15, zf16, zf17, p4j0, p4j1, p4j2, p4j3, p4j4, q11, q12, q13, q14, q15, q16, q17⟩ := p4
  refine ⟨_, _, _, c_X10_harmE l dC dI G _ (ax 0) (ax 1) (ax 11) (ax 18) (ax 25) (ax 40) (ax 41) (ax 44) (ax 68) (ax 69) (ax 74) (ax 77) (ax 102) (ax 12) (ax 13) (ax 14) (ax 15) (ax 16) (ax 17) N B zn11_2 fa zi0_13 i g k zf12 zf13 zf15 zf16 zf17 (by first | with_reducible assumption | assumption) (by first | with_reducible assumption | assumption) (by first | with_reducible assumption | assumption), ⟨e0, rfl, (vpc q0 (vpc q11 (vpc q12 (vpc q13 (vpc q15 (vpc q16 (vpc q17 va_nilP))))))), hK⟩, fun q h => Or.inr h, fun o t hq => ?_⟩
  obtain ⟨⟨r, u, ho, ⟨hr, hu⟩, -⟩, hF⟩ := hq
  exact ⟨⟨r, (), ho, hr.trans (ha_c (by first | with_reducible assumption | assumption) (by first | with_reducible assumption | assumption)), hI0.kept (fun j _ _ h => hF.2 _ h (Nat.not_le.mpr h))⟩, hF.wide (fun q h => Or.inr h)⟩

set_option maxHeartbeats 1000000 in
set_option maxRecDepth 100000 in
theorem k_X10_wakes (l : Launch) (dC : Nat → ClassId) (dI : Nat → Nat → Nat) (G : Nat → ClassId) (sz : Nat) (ax : Nat → Nat) (hi : adInj 129 ax) (T : Nat) (Y : Nat → Int32) (fa : Int32) (W0 : Nat → Int32) (W1 : Nat → Int32) (W2 : Nat → Int32) (N : Nat) (B : Nat) (N1 : Nat) (B1 : Nat) (N2 : Nat) (B2 : Nat) (K : Nat → Int32) (S : Nat) (M : Nat) (E : Nat → Int32) (Z : Nat → Int32) (O0 : Nat → Int32) (O1 : Nat → Int32) (O2 : Nat → Int32) (CE : Nat → Int32) (MR : Nat → Int32) (what : Int32) : Met l yX10_wakes (Cond.code yX10_wakes cX10_wakes 2 (some .long) :: GT) ({ frames := 5, cells := 0, slots := 0, locals := 112 } : Room) (PcI [.ref (ax 0), .int what] dC dI G (X10I dC dI G ax T Y fa W0 W1 W2 N B N1 B1 N2 B2 K S M E Z O0 O1 O2 CE MR) sz) (va_Ql (fun (r : Int64) (_ : Unit) => True) (fun _ t => X10I dC dI G ax T Y fa W0 W1 W2 N B N1 B1 N2 B2 K S M E Z O0 O1 O2 CE MR t.heap) (adX 0 112 ax sz)) 0 0 (adX 0 112 ax sz) := by
  refine Met.pick (fun a st hp => ?_)
  obtain ⟨e0, hsz, hI, hK⟩ := hp
  subst hsz
  have hI0 := hI
  unfold X10I at hI
  obtain ⟨p0, p1, p2, p3, p4, p5, p6, p7, p8, p9, p10, p11, p12, p13, p14, p15, p16, hX⟩ := hI
  have hXV := hX
  have hX := hXV.1
  unfold X10Pr at p0
  obtain ⟨zi0_13, q0⟩ := p0
  unfold X10P1 at p4
  obtain ⟨zn11_2, zf12, zf13, zf14, zf15, zf16, zf17, p4j0, p4j1, p4j2, p4j3, p4j4, q11, q12, q13, q14, q15, q16, q17⟩ := p4
  unfold X10P5 at p10
  obtain ⟨zl41_0, zf42, zf43, q41, q42, q43⟩ := p10
  refine ⟨_, _, _, c_X10_wakes l dC dI G _ (ax 0) (ax 1) (ax 11) (ax 18) (ax 25) (ax 40) (ax 41) (ax 44) (ax 68) (ax 69) (ax 74) (ax 77) (ax 102) (ax 42) (ax 43) (ax 12) (ax 13) (ax 14) (ax 15) (ax 16) (ax 17) N B zn11_2 fa zi0_13 what zl41_0 zf12 zf13 zf14 zf15 zf16 zf17 zf42 zf43 (by first | with_reducible assumption | assumption) (by first | with_reducible assumption | assumption) (by first | with_reducible assumption | assumption), ⟨e0, rfl, (vpc q0 (vpc q41 (vpc q42 (vpc q43 (vpc q11 (vpc q12 (vpc q13 (vpc q14 (vpc q15 (vpc q16 (vpc q17 va_nilP))))))))))), hK, vD_ix hi [0, 41, 42, 43, 11, 12, 13, 14, 15, 16, 17] (by rfl) (by decide) (by decide)⟩, ad_ix [0, 41, 42, 43, 11, 12, 13, 14, 15, 16, 17] (by rfl) (by decide), fun o t hq => ?_⟩
  obtain ⟨⟨r, ⟨u0, u1, u2⟩, ho, ⟨hr, hu⟩, hP1, -⟩, hF⟩ := hq
  have FR : ∀ lo hi' : Nat, hi' ≤ 129 → ([0, 41, 42, 43, 11, 12, 13, 14, 15, 16, 17] : List Nat).all (fun x => decide (x < lo) || decide (hi' ≤ x)) = true → ∀ j : Nat, lo ≤ j → j < hi' → ax j < st.heap.size → t.heap[ax j]? = st.heap[ax j]? := fun lo hi' h1 h2 => fr_ix hi h1 hF.2 [0, 41, 42, 43, 11, 12, 13, 14, 15, 16, 17] (by rfl) (by decide) h2
  have np0 : X10Pr dC dI G ax fa t.heap := ⟨zi0_13, hP1 0 _ rfl⟩
  have np4 : X10P1 dC dI G ax W0 N B O0 t.heap := ⟨zn11_2, zf12, zf13, zf14, zf15, zf16, zf17, p4j0, p4j1, p4j2, p4j3, p4j4, hP1 4 _ rfl, hP1 5 _ rfl, hP1 6 _ rfl, hP1 7 _ rfl, hP1 8 _ rfl, hP1 9 _ rfl, hP1 10 _ rfl⟩
  have np10 : X10P5 dC dI G ax t.heap := ⟨u0, u1, u2, hP1 1 _ rfl, hP1 2 _ rfl, hP1 3 _ rfl⟩
  exact ⟨⟨r, (), ho, trivial, ⟨np0, p1.kept (FR 1 2 (by decide) (by decide)), p2.kept (FR 2 4 (by decide) (by decide)), p3.kept (FR 4 11 (by decide) (by decide)), np4, p5.kept (FR 18 25 (by decide) (by decide)), p6.kept (FR 25 26 (by decide) (by decide)), p7.kept (FR 26 33 (by decide) (by decide)), p8.kept (FR 33 40 (by decide) (by decide)), p9.kept (FR 40 41 (by decide) (by decide)), np10, p11.kept (FR 44 68 (by decide) (by decide)), p12.kept (FR 68 69 (by decide) (by decide)), p13.kept (FR 69 74 (by decide) (by decide)), p14.kept (FR 74 77 (by decide) (by decide)), p15.kept (FR 77 102 (by decide) (by decide)), p16.kept (FR 102 112 (by decide) (by decide)), ⟨hX, hXV.2⟩⟩⟩, hF.wide (ad_ix [0, 41, 42, 43, 11, 12, 13, 14, 15, 16, 17] (by rfl) (by decide))⟩

set_option maxHeartbeats 1000000 in
set_option maxRecDepth 100000 in
theorem k_X10_awake (l : Launch) (dC : Nat → ClassId) (dI : Nat → Nat → Nat) (G : Nat → ClassId) (sz : Nat) (ax : Nat → Nat) (hi : adInj 129 ax) (T : Nat) (Y : Nat → Int32) (fa : Int32) (W0 : Nat → Int32) (W1 : Nat → Int32) (W2 : Nat → Int32) (N : Nat) (B : Nat) (N1 : Nat) (B1 : Nat) (N2 : Nat) (B2 : Nat) (K : Nat → Int32) (S : Nat) (M : Nat) (E : Nat → Int32) (Z : Nat → Int32) (O0 : Nat → Int32) (O1 : Nat → Int32) (O2 : Nat → Int32) (CE : Nat → Int32) (MR : Nat → Int32) (i : Int32) (what : Int32) : Met l yX10_awake (Cond.code yX10_awake cX10_awake 3 (some .long) :: GT) ({ frames := 6, cells := 0, slots := 0, locals := 135 } : Room) (PcI [.ref (ax 0), .int i, .int what] dC dI G (X10I dC dI G ax T Y fa W0 W1 W2 N B N1 B1 N2 B2 K S M E Z O0 O1 O2 CE MR) sz) (va_Ql (fun (r : Int64) (_ : Unit) => True) (fun _ t => X10I dC dI G ax T Y fa W0 W1 W2 N B N1 B1 N2 B2 K S M E Z O0 O1 O2 CE MR t.heap) (adX 0 112 ax sz)) 0 0 (adX 0 112 ax sz) := by
  refine Met.pick (fun a st hp => ?_)
  obtain ⟨e0, hsz, hI, hK⟩ := hp
  subst hsz
  have hI0 := hI
  unfold X10I at hI
  obtain ⟨p0, p1, p2, p3, p4, p5, p6, p7, p8, p9, p10, p11, p12, p13, p14, p15, p16, hX⟩ := hI
  have hXV := hX
  have hX := hXV.1
  unfold X10Pr at p0
  obtain ⟨zi0_13, q0⟩ := p0
  unfold X10P1 at p4
  obtain ⟨zn11_2, zf12, zf13, zf14, zf15, zf16, zf17, p4j0, p4j1, p4j2, p4j3, p4j4, q11, q12, q13, q14, q15, q16, q17⟩ := p4
  unfold X10P5 at p10
  obtain ⟨zl41_0, zf42, zf43, q41, q42, q43⟩ := p10
  refine ⟨_, _, _, c_X10_awake l dC dI G _ (ax 0) (ax 1) (ax 11) (ax 18) (ax 25) (ax 40) (ax 41) (ax 44) (ax 68) (ax 69) (ax 74) (ax 77) (ax 102) (ax 42) (ax 43) (ax 12) (ax 13) (ax 14) (ax 15) (ax 16) (ax 17) N B zn11_2 fa zi0_13 i what zl41_0 zf12 zf13 zf14 zf15 zf16 zf17 zf42 zf43 (by first | with_reducible assumption | assumption) (by first | with_reducible assumption | assumption) (by first | with_reducible assumption | assumption), ⟨e0, rfl, (vpc q0 (vpc q41 (vpc q42 (vpc q43 (vpc q11 (vpc q12 (vpc q13 (vpc q14 (vpc q15 (vpc q16 (vpc q17 va_nilP))))))))))), hK, vD_ix hi [0, 41, 42, 43, 11, 12, 13, 14, 15, 16, 17] (by rfl) (by decide) (by decide)⟩, ad_ix [0, 41, 42, 43, 11, 12, 13, 14, 15, 16, 17] (by rfl) (by decide), fun o t hq => ?_⟩
  obtain ⟨⟨r, ⟨u0, u1, u2⟩, ho, ⟨hr, hu⟩, hP1, -⟩, hF⟩ := hq
  have FR : ∀ lo hi' : Nat, hi' ≤ 129 → ([0, 41, 42, 43, 11, 12, 13, 14, 15, 16, 17] : List Nat).all (fun x => decide (x < lo) || decide (hi' ≤ x)) = true → ∀ j : Nat, lo ≤ j → j < hi' → ax j < st.heap.size → t.heap[ax j]? = st.heap[ax j]? := fun lo hi' h1 h2 => fr_ix hi h1 hF.2 [0, 41, 42, 43, 11, 12, 13, 14, 15, 16, 17] (by rfl) (by decide) h2
  have np0 : X10Pr dC dI G ax fa t.heap := ⟨zi0_13, hP1 0 _ rfl⟩
  have np4 : X10P1 dC dI G ax W0 N B O0 t.heap := ⟨zn11_2, zf12, zf13, zf14, zf15, zf16, zf17, p4j0, p4j1, p4j2, p4j3, p4j4, hP1 4 _ rfl, hP1 5 _ rfl, hP1 6 _ rfl, hP1 7 _ rfl, hP1 8 _ rfl, hP1 9 _ rfl, hP1 10 _ rfl⟩
  have np10 : X10P5 dC dI G ax t.heap := ⟨u0, u1, u2, hP1 1 _ rfl, hP1 2 _ rfl, hP1 3 _ rfl⟩
  exact ⟨⟨r, (), ho, trivial, ⟨np0, p1.kept (FR 1 2 (by decide) (by decide)), p2.kept (FR 2 4 (by decide) (by decide)), p3.kept (FR 4 11 (by decide) (by decide)), np4, p5.kept (FR 18 25 (by decide) (by decide)), p6.kept (FR 25 26 (by decide) (by decide)), p7.kept (FR 26 33 (by decide) (by decide)), p8.kept (FR 33 40 (by decide) (by decide)), p9.kept (FR 40 41 (by decide) (by decide)), np10, p11.kept (FR 44 68 (by decide) (by decide)), p12.kept (FR 68 69 (by decide) (by decide)), p13.kept (FR 69 74 (by decide) (by decide)), p14.kept (FR 74 77 (by decide) (by decide)), p15.kept (FR 77 102 (by decide) (by decide)), p16.kept (FR 102 112 (by decide) (by decide)), ⟨hX, hXV.2⟩⟩⟩, hF.wide (ad_ix [0, 41, 42, 43, 11, 12, 13, 14, 15, 16, 17] (by rfl) (by decide))⟩

set_option maxHeartbeats 1000000 in
set_option maxRecDepth 100000 in
theorem k_X10_depth (l : Launch) (dC : Nat → ClassId) (dI : Nat → Nat → Nat) (G : Nat → ClassId) (sz : Nat) (ax : Nat → Nat) (hi : adInj 129 ax) (T : Nat) (Y : Nat → Int32) (fa : Int32) (W0 : Nat → Int32) (W1 : Nat → Int32) (W2 : Nat → Int32) (N : Nat) (B : Nat) (N1 : Nat) (B1 : Nat) (N2 : Nat) (B2 : Nat) (K : Nat → Int32) (S : Nat) (M : Nat) (E : Nat → Int32) (Z : Nat → Int32) (O0 : Nat → Int32) (O1 : Nat → Int32) (O2 : Nat → Int32) (CE : Nat → Int32) (MR : Nat → Int32) (i : Int32) (d : Int32) (what : Int32) : Met l yX10_depth (Cond.code yX10_depth cX10_depth 4 (some .long) :: GT) ({ frames := 5, cells := 0, slots := 0, locals := 112 } : Room) (PcI [.ref (ax 0), .int i, .int d, .int what] dC dI G (X10I dC dI G ax T Y fa W0 W1 W2 N B N1 B1 N2 B2 K S M E Z O0 O1 O2 CE MR) sz) (va_Ql (fun (r : Int64) (_ : Unit) => True) (fun _ t => X10I dC dI G ax T Y fa W0 W1 W2 N B N1 B1 N2 B2 K S M E Z O0 O1 O2 CE MR t.heap) (adX 0 112 ax sz)) 0 0 (adX 0 112 ax sz) := by
  refine Met.pick (fun a st hp => ?_)
  obtain ⟨e0, hsz, hI, hK⟩ := hp
  subst hsz
  have hI0 := hI
  unfold X10I at hI
  obtain ⟨p0, p1, p2, p3, p4, p5, p6, p7, p8, p9, p10, p11, p12, p13, p14, p15, p16, hX⟩ := hI
  have hXV := hX
  have hX := hXV.1
  unfold X10Pr at p0
  obtain ⟨zi0_13, q0⟩ := p0
  unfold X10P1 at p4
  obtain ⟨zn11_2, zf12, zf13, zf14, zf15, zf16, zf17, p4j0, p4j1, p4j2, p4j3, p4j4, q11, q12, q13, q14, q15, q16, q17⟩ := p4
  unfold X10P5 at p10
  obtain ⟨zl41_0, zf42, zf43, q41, q42, q43⟩ := p10
  refine ⟨_, _, _, c_X10_depth l dC dI G _ (ax 0) (ax 1) (ax 11) (ax 18) (ax 25) (ax 40) (ax 41) (ax 44) (ax 68) (ax 69) (ax 74) (ax 77) (ax 102) (ax 42) (ax 43) (ax 12) (ax 13) (ax 14) (ax 15) (ax 16) (ax 17) N B zn11_2 fa zi0_13 i d what zl41_0 zf12 zf13 zf14 zf15 zf16 zf17 zf42 zf43 (by first | with_reducible assumption | assumption) (by first | with_reducible assumption | assumption) (by first | with_reducible assumption | assumption), ⟨e0, rfl, (vpc q0 (vpc q41 (vpc q42 (vpc q43 (vpc q11 (vpc q12 (vpc q13 (vpc q14 (vpc q15 (vpc q16 (vpc q17 va_nilP))))))))))), hK, vD_ix hi [0, 41, 42, 43, 11, 12, 13, 14, 15, 16, 17] (by rfl) (by decide) (by decide)⟩, ad_ix [0, 41, 42, 43, 11, 12, 13, 14, 15, 16, 17] (by rfl) (by decide), fun o t hq => ?_⟩
  obtain ⟨⟨r, ⟨u0, u1, u2⟩, ho, ⟨hr, hu⟩, hP1, -⟩, hF⟩ := hq
  have FR : ∀ lo hi' : Nat, hi' ≤ 129 → ([0, 41, 42, 43, 11, 12, 13, 14, 15, 16, 17] : List Nat).all (fun x => decide (x < lo) || decide (hi' ≤ x)) = true → ∀ j : Nat, lo ≤ j → j < hi' → ax j < st.heap.size → t.heap[ax j]? = st.heap[ax j]? := fun lo hi' h1 h2 => fr_ix hi h1 hF.2 [0, 41, 42, 43, 11, 12, 13, 14, 15, 16, 17] (by rfl) (by decide) h2
  have np0 : X10Pr dC dI G ax fa t.heap := ⟨zi0_13, hP1 0 _ rfl⟩
  have np4 : X10P1 dC dI G ax W0 N B O0 t.heap := ⟨zn11_2, zf12, zf13, zf14, zf15, zf16, zf17, p4j0, p4j1, p4j2, p4j3, p4j4, hP1 4 _ rfl, hP1 5 _ rfl, hP1 6 _ rfl, hP1 7 _ rfl, hP1 8 _ rfl, hP1 9 _ rfl, hP1 10 _ rfl⟩
  have np10 : X10P5 dC dI G ax t.heap := ⟨u0, u1, u2, hP1 1 _ rfl, hP1 2 _ rfl, hP1 3 _ rfl⟩
  exact ⟨⟨r, (), ho, trivial, ⟨np0, p1.kept (FR 1 2 (by decide) (by decide)), p2.kept (FR 2 4 (by decide) (by decide)), p3.kept (FR 4 11 (by decide) (by decide)), np4, p5.kept (FR 18 25 (by decide) (by decide)), p6.kept (FR 25 26 (by decide) (by decide)), p7.kept (FR 26 33 (by decide) (by decide)), p8.kept (FR 33 40 (by decide) (by decide)), p9.kept (FR 40 41 (by decide) (by decide)), np10, p11.kept (FR 44 68 (by decide) (by decide)), p12.kept (FR 68 69 (by decide) (by decide)), p13.kept (FR 69 74 (by decide) (by decide)), p14.kept (FR 74 77 (by decide) (by decide)), p15.kept (FR 77 102 (by decide) (by decide)), p16.kept (FR 102 112 (by decide) (by decide)), ⟨hX, hXV.2⟩⟩⟩, hF.wide (ad_ix [0, 41, 42, 43, 11, 12, 13, 14, 15, 16, 17] (by rfl) (by decide))⟩

set_option maxHeartbeats 1000000 in
set_option maxRecDepth 100000 in
theorem k_X10_best (l : Launch) (dC : Nat → ClassId) (dI : Nat → Nat → Nat) (G : Nat → ClassId) (sz : Nat) (ax : Nat → Nat) (hi : adInj 129 ax) (T : Nat) (Y : Nat → Int32) (fa : Int32) (W0 : Nat → Int32) (W1 : Nat → Int32) (W2 : Nat → Int32) (N : Nat) (B : Nat) (N1 : Nat) (B1 : Nat) (N2 : Nat) (B2 : Nat) (K : Nat → Int32) (S : Nat) (M : Nat) (E : Nat → Int32) (Z : Nat → Int32) (O0 : Nat → Int32) (O1 : Nat → Int32) (O2 : Nat → Int32) (CE : Nat → Int32) (MR : Nat → Int32) (what : Int32) : Met l yX10_best (Cond.code yX10_best cX10_best 2 (some .long) :: GT) ({ frames := 5, cells := 0, slots := 0, locals := 116 } : Room) (PcI [.ref (ax 0), .int what] dC dI G (X10I dC dI G ax T Y fa W0 W1 W2 N B N1 B1 N2 B2 K S M E Z O0 O1 O2 CE MR) sz) (va_Ql (fun (r : Int64) (_ : Unit) => True) (fun _ t => X10I dC dI G ax T Y fa W0 W1 W2 N B N1 B1 N2 B2 K S M E Z O0 O1 O2 CE MR t.heap) (adX 0 112 ax sz)) 0 0 (adX 0 112 ax sz) := by
  refine Met.pick (fun a st hp => ?_)
  obtain ⟨e0, hsz, hI, hK⟩ := hp
  subst hsz
  have hI0 := hI
  unfold X10I at hI
  obtain ⟨p0, p1, p2, p3, p4, p5, p6, p7, p8, p9, p10, p11, p12, p13, p14, p15, p16, hX⟩ := hI
  have hXV := hX
  have hX := hXV.1
  unfold X10Pr at p0
  obtain ⟨zi0_13, q0⟩ := p0
  unfold X10P1 at p4
  obtain ⟨zn11_2, zf12, zf13, zf14, zf15, zf16, zf17, p4j0, p4j1, p4j2, p4j3, p4j4, q11, q12, q13, q14, q15, q16, q17⟩ := p4
  unfold X10P6 at p11
  obtain ⟨zl44_0, zF47, zF58, q44, q45, q46, q47, q58⟩ := p11
  refine ⟨_, _, _, c_X10_best l dC dI G _ (ax 0) (ax 1) (ax 11) (ax 18) (ax 25) (ax 40) (ax 41) (ax 44) (ax 68) (ax 69) (ax 74) (ax 77) (ax 102) (ax 45) (ax 46) (ax 12) (ax 13) (ax 14) (ax 15) (ax 16) (ax 17) N B zn11_2 fa zi0_13 what zl44_0 zf12 zf13 zf15 zf16 zf17 (fun iq => ax (47 + iq)) (fun iq => ax (58 + iq)) zF47 zF58 (by first | with_reducible assumption | assumption) (by first | with_reducible assumption | assumption) (by first | with_reducible assumption | assumption), ⟨e0, rfl, (va_P.app (vpc q0 (vpc q44 (vpc q45 (vpc q46 (vpc q11 (vpc q12 (vpc q13 (vpc q15 (vpc q16 (vpc q17 va_nilP)))))))))) (va_P.app q47 (va_P.app q58 va_nilP))), hK, vD_ix hi [0, 44, 45, 46, 11, 12, 13, 15, 16, 17, 47, 48, 49, 50, 51, 52, 53, 54, 55, 56, 57, 58, 59, 60, 61, 62, 63, 64, 65, 66, 67] (by rfl) (by decide) (by decide)⟩, ad_ix [0, 44, 45, 46, 11, 12, 13, 15, 16, 17, 47, 48, 49, 50, 51, 52, 53, 54, 55, 56, 57, 58, 59, 60, 61, 62, 63, 64, 65, 66, 67] (by rfl) (by decide), fun o t hq => ?_⟩
  obtain ⟨⟨r, ⟨u0, u1, u2⟩, ho, ⟨hr, hu⟩, hP1, -⟩, hF⟩ := hq
  have FR : ∀ lo hi' : Nat, hi' ≤ 129 → ([0, 44, 45, 46, 11, 12, 13, 15, 16, 17, 47, 48, 49, 50, 51, 52, 53, 54, 55, 56, 57, 58, 59, 60, 61, 62, 63, 64, 65, 66, 67] : List Nat).all (fun x => decide (x < lo) || decide (hi' ≤ x)) = true → ∀ j : Nat, lo ≤ j → j < hi' → ax j < st.heap.size → t.heap[ax j]? = st.heap[ax j]? := fun lo hi' h1 h2 => fr_ix hi h1 hF.2 [0, 44, 45, 46, 11, 12, 13, 15, 16, 17, 47, 48, 49, 50, 51, 52, 53, 54, 55, 56, 57, 58, 59, 60, 61, 62, 63, 64, 65, 66, 67] (by rfl) (by decide) h2
  have np0 : X10Pr dC dI G ax fa t.heap := ⟨zi0_13, hP1 0 _ rfl⟩
  have np4 : X10P1 dC dI G ax W0 N B O0 t.heap := ⟨zn11_2, zf12, zf13, zf14, zf15, zf16, zf17, p4j0, p4j1, p4j2, p4j3, p4j4, hP1 4 _ rfl, hP1 5 _ rfl, hP1 6 _ rfl, q14.kept (FR 14 15 (by decide) (by decide) 14 (by decide) (by decide) q14.lt), hP1 7 _ rfl, hP1 8 _ rfl, hP1 9 _ rfl⟩
  have np11 : X10P6 dC dI G ax t.heap := ⟨u0, u1, u2, hP1 1 _ rfl, hP1 2 _ rfl, hP1 3 _ rfl, vp_mid hP1, vp_mid2 hP1⟩
  exact ⟨⟨r, (), ho, trivial, ⟨np0, p1.kept (FR 1 2 (by decide) (by decide)), p2.kept (FR 2 4 (by decide) (by decide)), p3.kept (FR 4 11 (by decide) (by decide)), np4, p5.kept (FR 18 25 (by decide) (by decide)), p6.kept (FR 25 26 (by decide) (by decide)), p7.kept (FR 26 33 (by decide) (by decide)), p8.kept (FR 33 40 (by decide) (by decide)), p9.kept (FR 40 41 (by decide) (by decide)), p10.kept (FR 41 44 (by decide) (by decide)), np11, p12.kept (FR 68 69 (by decide) (by decide)), p13.kept (FR 69 74 (by decide) (by decide)), p14.kept (FR 74 77 (by decide) (by decide)), p15.kept (FR 77 102 (by decide) (by decide)), p16.kept (FR 102 112 (by decide) (by decide)), ⟨hX, hXV.2⟩⟩⟩, hF.wide (ad_ix [0, 44, 45, 46, 11, 12, 13, 15, 16, 17, 47, 48, 49, 50, 51, 52, 53, 54, 55, 56, 57, 58, 59, 60, 61, 62, 63, 64, 65, 66, 67] (by rfl) (by decide))⟩

set_option maxHeartbeats 1000000 in
set_option maxRecDepth 100000 in
theorem k_X10_next (l : Launch) (dC : Nat → ClassId) (dI : Nat → Nat → Nat) (G : Nat → ClassId) (sz : Nat) (ax : Nat → Nat) (hi : adInj 129 ax) (T : Nat) (Y : Nat → Int32) (fa : Int32) (W0 : Nat → Int32) (W1 : Nat → Int32) (W2 : Nat → Int32) (N : Nat) (B : Nat) (N1 : Nat) (B1 : Nat) (N2 : Nat) (B2 : Nat) (K : Nat → Int32) (S : Nat) (M : Nat) (E : Nat → Int32) (Z : Nat → Int32) (O0 : Nat → Int32) (O1 : Nat → Int32) (O2 : Nat → Int32) (CE : Nat → Int32) (MR : Nat → Int32) (i : Int32) (g : Int32) (d : Int32) : Met l yX10_next (Cond.code yX10_next cX10_next 5 (some .int) :: GT) ({ frames := 5, cells := 0, slots := 0, locals := 116 } : Room) (PcI [.ref (ax 0), .int i, .int g, .int d] dC dI G (X10I dC dI G ax T Y fa W0 W1 W2 N B N1 B1 N2 B2 K S M E Z O0 O1 O2 CE MR) sz) (va_Qi (fun (r : Int32) (_ : Unit) => True) (fun _ t => X10I dC dI G ax T Y fa W0 W1 W2 N B N1 B1 N2 B2 K S M E Z O0 O1 O2 CE MR t.heap) (adX 0 112 ax sz)) 0 0 (adX 0 112 ax sz) := by
  refine Met.pick (fun a st hp => ?_)
  obtain ⟨e0, hsz, hI, hK⟩ := hp
  subst hsz
  have hI0 := hI
  unfold X10I at hI
  obtain ⟨p0, p1, p2, p3, p4, p5, p6, p7, p8, p9, p10, p11, p12, p13, p14, p15, p16, hX⟩ := hI
  have hXV := hX
  have hX := hXV.1
  unfold X10Pr at p0
  obtain ⟨zi0_13, q0⟩ := p0
  unfold X10P1 at p4
  obtain ⟨zn11_2, zf12, zf13, zf14, zf15, zf16, zf17, p4j0, p4j1, p4j2, p4j3, p4j4, q11, q12, q13, q14, q15, q16, q17⟩ := p4
  unfold X10P6 at p11
  obtain ⟨zl44_0, zF47, zF58, q44, q45, q46, q47, q58⟩ := p11
  refine ⟨_, _, _, c_X10_next l dC dI G _ (ax 0) (ax 1) (ax 11) (ax 18) (ax 25) (ax 40) (ax 41) (ax 44) (ax 68) (ax 69) (ax 74) (ax 77) (ax 102) (ax 45) (ax 46) (ax 12) (ax 13) (ax 14) (ax 15) (ax 16) (ax 17) N B zn11_2 fa zi0_13 i g d zl44_0 zf12 zf13 zf15 zf16 zf17 (fun iq => ax (47 + iq)) (fun iq => ax (58 + iq)) zF47 zF58 (by first | with_reducible assumption | assumption) (by first | with_reducible assumption | assumption) (by first | with_reducible assumption | assumption), ⟨e0, rfl, (va_P.app (vpc q0 (vpc q44 (vpc q45 (vpc q46 (vpc q11 (vpc q12 (vpc q13 (vpc q15 (vpc q16 (vpc q17 va_nilP)))))))))) (va_P.app q47 (va_P.app q58 va_nilP))), hK, vD_ix hi [0, 44, 45, 46, 11, 12, 13, 15, 16, 17, 47, 48, 49, 50, 51, 52, 53, 54, 55, 56, 57, 58, 59, 60, 61, 62, 63, 64, 65, 66, 67] (by rfl) (by decide) (by decide)⟩, ad_ix [0, 44, 45, 46, 11, 12, 13, 15, 16, 17, 47, 48, 49, 50, 51, 52, 53, 54, 55, 56, 57, 58, 59, 60, 61, 62, 63, 64, 65, 66, 67] (by rfl) (by decide), fun o t hq => ?_⟩
  obtain ⟨⟨r, ⟨u0, u1, u2⟩, ho, ⟨hr, hu⟩, hP1, -⟩, hF⟩ := hq
  have FR : ∀ lo hi' : Nat, hi' ≤ 129 → ([0, 44, 45, 46, 11, 12, 13, 15, 16, 17, 47, 48, 49, 50, 51, 52, 53, 54, 55, 56, 57, 58, 59, 60, 61, 62, 63, 64, 65, 66, 67] : List Nat).all (fun x => decide (x < lo) || decide (hi' ≤ x)) = true → ∀ j : Nat, lo ≤ j → j < hi' → ax j < st.heap.size → t.heap[ax j]? = st.heap[ax j]? := fun lo hi' h1 h2 => fr_ix hi h1 hF.2 [0, 44, 45, 46, 11, 12, 13, 15, 16, 17, 47, 48, 49, 50, 51, 52, 53, 54, 55, 56, 57, 58, 59, 60, 61, 62, 63, 64, 65, 66, 67] (by rfl) (by decide) h2
  have np0 : X10Pr dC dI G ax fa t.heap := ⟨zi0_13, hP1 0 _ rfl⟩
  have np4 : X10P1 dC dI G ax W0 N B O0 t.heap := ⟨zn11_2, zf12, zf13, zf14, zf15, zf16, zf17, p4j0, p4j1, p4j2, p4j3, p4j4, hP1 4 _ rfl, hP1 5 _ rfl, hP1 6 _ rfl, q14.kept (FR 14 15 (by decide) (by decide) 14 (by decide) (by decide) q14.lt), hP1 7 _ rfl, hP1 8 _ rfl, hP1 9 _ rfl⟩
  have np11 : X10P6 dC dI G ax t.heap := ⟨u0, u1, u2, hP1 1 _ rfl, hP1 2 _ rfl, hP1 3 _ rfl, vp_mid hP1, vp_mid2 hP1⟩
  exact ⟨⟨r, (), ho, trivial, ⟨np0, p1.kept (FR 1 2 (by decide) (by decide)), p2.kept (FR 2 4 (by decide) (by decide)), p3.kept (FR 4 11 (by decide) (by decide)), np4, p5.kept (FR 18 25 (by decide) (by decide)), p6.kept (FR 25 26 (by decide) (by decide)), p7.kept (FR 26 33 (by decide) (by decide)), p8.kept (FR 33 40 (by decide) (by decide)), p9.kept (FR 40 41 (by decide) (by decide)), p10.kept (FR 41 44 (by decide) (by decide)), np11, p12.kept (FR 68 69 (by decide) (by decide)), p13.kept (FR 69 74 (by decide) (by decide)), p14.kept (FR 74 77 (by decide) (by decide)), p15.kept (FR 77 102 (by decide) (by decide)), p16.kept (FR 102 112 (by decide) (by decide)), ⟨hX, hXV.2⟩⟩⟩, hF.wide (ad_ix [0, 44, 45, 46, 11, 12, 13, 15, 16, 17, 47, 48, 49, 50, 51, 52, 53, 54, 55, 56, 57, 58, 59, 60, 61, 62, 63, 64, 65, 66, 67] (by rfl) (by decide))⟩

set_option maxHeartbeats 1000000 in
set_option maxRecDepth 100000 in
theorem k_X10_without (l : Launch) (dC : Nat → ClassId) (dI : Nat → Nat → Nat) (G : Nat → ClassId) (sz : Nat) (ax : Nat → Nat) (hi : adInj 129 ax) (T : Nat) (Y : Nat → Int32) (fa : Int32) (W0 : Nat → Int32) (W1 : Nat → Int32) (W2 : Nat → Int32) (N : Nat) (B : Nat) (N1 : Nat) (B1 : Nat) (N2 : Nat) (B2 : Nat) (K : Nat → Int32) (S : Nat) (M : Nat) (E : Nat → Int32) (Z : Nat → Int32) (O0 : Nat → Int32) (O1 : Nat → Int32) (O2 : Nat → Int32) (CE : Nat → Int32) (MR : Nat → Int32) (i : Int32) (what : Int32) : Met l yX10_without (Cond.code yX10_without cX10_without 3 (some .long) :: GT) ({ frames := 5, cells := 0, slots := 0, locals := 116 } : Room) (PcI [.ref (ax 0), .int i, .int what] dC dI G (X10I dC dI G ax T Y fa W0 W1 W2 N B N1 B1 N2 B2 K S M E Z O0 O1 O2 CE MR) sz) (va_Ql (fun (r : Int64) (_ : Unit) => True) (fun _ t => X10I dC dI G ax T Y fa W0 W1 W2 N B N1 B1 N2 B2 K S M E Z O0 O1 O2 CE MR t.heap) (adX 0 112 ax sz)) 0 0 (adX 0 112 ax sz) := by
  refine Met.pick (fun a st hp => ?_)
  obtain ⟨e0, hsz, hI, hK⟩ := hp
  subst hsz
  have hI0 := hI
  unfold X10I at hI
  obtain ⟨p0, p1, p2, p3, p4, p5, p6, p7, p8, p9, p10, p11, p12, p13, p14, p15, p16, hX⟩ := hI
  have hXV := hX
  have hX := hXV.1
  unfold X10Pr at p0
  obtain ⟨zi0_13, q0⟩ := p0
  unfold X10P1 at p4
  obtain ⟨zn11_2, zf12, zf13, zf14, zf15, zf16, zf17, p4j0, p4j1, p4j2, p4j3, p4j4, q11, q12, q13, q14, q15, q16, q17⟩ := p4
  unfold X10P6 at p11
  obtain ⟨zl44_0, zF47, zF58, q44, q45, q46, q47, q58⟩ := p11
  refine ⟨_, _, _, c_X10_without l dC dI G _ (ax 0) (ax 1) (ax 11) (ax 18) (ax 25) (ax 40) (ax 41) (ax 44) (ax 68) (ax 69) (ax 74) (ax 77) (ax 102) (ax 45) (ax 46) (ax 12) (ax 13) (ax 14) (ax 15) (ax 16) (ax 17) N B zn11_2 fa zi0_13 i what zl44_0 zf12 zf13 zf15 zf16 zf17 (fun iq => ax (47 + iq)) (fun iq => ax (58 + iq)) zF47 zF58 (by first | with_reducible assumption | assumption) (by first | with_reducible assumption | assumption) (by first | with_reducible assumption | assumption), ⟨e0, rfl, (va_P.app (vpc q0 (vpc q44 (vpc q45 (vpc q46 (vpc q11 (vpc q12 (vpc q13 (vpc q15 (vpc q16 (vpc q17 va_nilP)))))))))) (va_P.app q47 (va_P.app q58 va_nilP))), hK, vD_ix hi [0, 44, 45, 46, 11, 12, 13, 15, 16, 17, 47, 48, 49, 50, 51, 52, 53, 54, 55, 56, 57, 58, 59, 60, 61, 62, 63, 64, 65, 66, 67] (by rfl) (by decide) (by decide)⟩, ad_ix [0, 44, 45, 46, 11, 12, 13, 15, 16, 17, 47, 48, 49, 50, 51, 52, 53, 54, 55, 56, 57, 58, 59, 60, 61, 62, 63, 64, 65, 66, 67] (by rfl) (by decide), fun o t hq => ?_⟩
  obtain ⟨⟨r, ⟨u0, u1, u2⟩, ho, ⟨hr, hu⟩, hP1, -⟩, hF⟩ := hq
  have FR : ∀ lo hi' : Nat, hi' ≤ 129 → ([0, 44, 45, 46, 11, 12, 13, 15, 16, 17, 47, 48, 49, 50, 51, 52, 53, 54, 55, 56, 57, 58, 59, 60, 61, 62, 63, 64, 65, 66, 67] : List Nat).all (fun x => decide (x < lo) || decide (hi' ≤ x)) = true → ∀ j : Nat, lo ≤ j → j < hi' → ax j < st.heap.size → t.heap[ax j]? = st.heap[ax j]? := fun lo hi' h1 h2 => fr_ix hi h1 hF.2 [0, 44, 45, 46, 11, 12, 13, 15, 16, 17, 47, 48, 49, 50, 51, 52, 53, 54, 55, 56, 57, 58, 59, 60, 61, 62, 63, 64, 65, 66, 67] (by rfl) (by decide) h2
  have np0 : X10Pr dC dI G ax fa t.heap := ⟨zi0_13, hP1 0 _ rfl⟩
  have np4 : X10P1 dC dI G ax W0 N B O0 t.heap := ⟨zn11_2, zf12, zf13, zf14, zf15, zf16, zf17, p4j0, p4j1, p4j2, p4j3, p4j4, hP1 4 _ rfl, hP1 5 _ rfl, hP1 6 _ rfl, q14.kept (FR 14 15 (by decide) (by decide) 14 (by decide) (by decide) q14.lt), hP1 7 _ rfl, hP1 8 _ rfl, hP1 9 _ rfl⟩
  have np11 : X10P6 dC dI G ax t.heap := ⟨u0, u1, u2, hP1 1 _ rfl, hP1 2 _ rfl, hP1 3 _ rfl, vp_mid hP1, vp_mid2 hP1⟩
  exact ⟨⟨r, (), ho, trivial, ⟨np0, p1.kept (FR 1 2 (by decide) (by decide)), p2.kept (FR 2 4 (by decide) (by decide)), p3.kept (FR 4 11 (by decide) (by decide)), np4, p5.kept (FR 18 25 (by decide) (by decide)), p6.kept (FR 25 26 (by decide) (by decide)), p7.kept (FR 26 33 (by decide) (by decide)), p8.kept (FR 33 40 (by decide) (by decide)), p9.kept (FR 40 41 (by decide) (by decide)), p10.kept (FR 41 44 (by decide) (by decide)), np11, p12.kept (FR 68 69 (by decide) (by decide)), p13.kept (FR 69 74 (by decide) (by decide)), p14.kept (FR 74 77 (by decide) (by decide)), p15.kept (FR 77 102 (by decide) (by decide)), p16.kept (FR 102 112 (by decide) (by decide)), ⟨hX, hXV.2⟩⟩⟩, hF.wide (ad_ix [0, 44, 45, 46, 11, 12, 13, 15, 16, 17, 47, 48, 49, 50, 51, 52, 53, 54, 55, 56, 57, 58, 59, 60, 61, 62, 63, 64, 65, 66, 67] (by rfl) (by decide))⟩

set_option maxHeartbeats 1000000 in
set_option maxRecDepth 100000 in
theorem k_X10_quiet (l : Launch) (dC : Nat → ClassId) (dI : Nat → Nat → Nat) (G : Nat → ClassId) (sz : Nat) (ax : Nat → Nat) (hi : adInj 129 ax) (T : Nat) (Y : Nat → Int32) (fa : Int32) (W0 : Nat → Int32) (W1 : Nat → Int32) (W2 : Nat → Int32) (N : Nat) (B : Nat) (N1 : Nat) (B1 : Nat) (N2 : Nat) (B2 : Nat) (K : Nat → Int32) (S : Nat) (M : Nat) (E : Nat → Int32) (Z : Nat → Int32) (O0 : Nat → Int32) (O1 : Nat → Int32) (O2 : Nat → Int32) (CE : Nat → Int32) (MR : Nat → Int32) (mm : Int32) (what : Int32) : Met l yX10_quiet (Cond.code yX10_quiet cX10_quiet 10 (some .long) :: GT) ({ frames := 5, cells := 0, slots := 0, locals := 121 } : Room) (PcI [.ref (ax 0), .int mm, .int what] dC dI G (X10I dC dI G ax T Y fa W0 W1 W2 N B N1 B1 N2 B2 K S M E Z O0 O1 O2 CE MR) sz) (va_Ql (fun (r : Int64) (_ : Unit) => True) (fun _ t => X10I dC dI G ax T Y fa W0 W1 W2 N B N1 B1 N2 B2 K S M E Z O0 O1 O2 CE MR t.heap) (adX 0 112 ax sz)) 0 0 (adX 0 112 ax sz) := by
  refine Met.pick (fun a st hp => ?_)
  obtain ⟨e0, hsz, hI, hK⟩ := hp
  subst hsz
  have hI0 := hI
  unfold X10I at hI
  obtain ⟨p0, p1, p2, p3, p4, p5, p6, p7, p8, p9, p10, p11, p12, p13, p14, p15, p16, hX⟩ := hI
  have hXV := hX
  have hX := hXV.1
  unfold X10Pr at p0
  obtain ⟨zi0_13, q0⟩ := p0
  unfold X10P1 at p4
  obtain ⟨zn11_2, zf12, zf13, zf14, zf15, zf16, zf17, p4j0, p4j1, p4j2, p4j3, p4j4, q11, q12, q13, q14, q15, q16, q17⟩ := p4
  unfold X10P2 at p5
  obtain ⟨zn18_0, zn18_1, zn18_2, zf19, zf20, zf21, zf22, zf23, zf24, p5j0, p5j1, p5j2, q18, q19, q20, q21, q22, q23, q24⟩ := p5
  unfold X10P5 at p10
  obtain ⟨zl41_0, zf42, zf43, q41, q42, q43⟩ := p10
  refine ⟨_, _, _, c_X10_quiet l dC dI G _ (ax 0) (ax 1) (ax 11) (ax 18) (ax 25) (ax 40) (ax 41) (ax 44) (ax 68) (ax 69) (ax 74) (ax 77) (ax 102) (ax 42) (ax 43) (ax 12) (ax 13) (ax 14) (ax 15) (ax 16) (ax 17) N B zn11_2 (ax 19) (ax 20) (ax 21) (ax 22) (ax 23) (ax 24) zn18_0 zn18_1 zn18_2 fa zi0_13 mm what zl41_0 zf12 zf13 zf14 zf15 zf16 zf17 zf19 zf20 zf21 zf22 zf23 zf24 zf42 zf43 (by first | with_reducible assumption | assumption) (by first | with_reducible assumption | assumption) (by first | with_reducible assumption | assumption) (by first | with_reducible assumption | assumption) (by first | with_reducible assumption | assumption) (by first | with_reducible assumption | assumption), ⟨e0, rfl, (vpc q0 (vpc q18 (vpc q19 (vpc q20 (vpc q21 (vpc q22 (vpc q23 (vpc q24 (vpc q41 (vpc q42 (vpc q43 (vpc q11 (vpc q12 (vpc q13 (vpc q14 (vpc q15 (vpc q16 (vpc q17 va_nilP)))))))))))))))))), hK, vD_ix hi [0, 18, 19, 20, 21, 22, 23, 24, 41, 42, 43, 11, 12, 13, 14, 15, 16, 17] (by rfl) (by decide) (by decide)⟩, ad_ix [0, 18, 19, 20, 21, 22, 23, 24, 41, 42, 43, 11, 12, 13, 14, 15, 16, 17] (by rfl) (by decide), fun o t hq => ?_⟩
  obtain ⟨⟨r, ⟨u0, u1, u2, u3, u4, u5, u6, u7, u8, u9, v1, v2⟩, ho, ⟨hr, hu⟩, hP1, -⟩, hF⟩ := hq
  have FR : ∀ lo hi' : Nat, hi' ≤ 129 → ([0, 18, 19, 20, 21, 22, 23, 24, 41, 42, 43, 11, 12, 13, 14, 15, 16, 17] : List Nat).all (fun x => decide (x < lo) || decide (hi' ≤ x)) = true → ∀ j : Nat, lo ≤ j → j < hi' → ax j < st.heap.size → t.heap[ax j]? = st.heap[ax j]? := fun lo hi' h1 h2 => fr_ix hi h1 hF.2 [0, 18, 19, 20, 21, 22, 23, 24, 41, 42, 43, 11, 12, 13, 14, 15, 16, 17] (by rfl) (by decide) h2
  have np0 : X10Pr dC dI G ax fa t.heap := ⟨zi0_13, hP1 0 _ rfl⟩
  have np4 : X10P1 dC dI G ax W0 N B O0 t.heap := ⟨zn11_2, zf12, zf13, zf14, zf15, zf16, zf17, p4j0, p4j1, p4j2, p4j3, p4j4, hP1 11 _ rfl, hP1 12 _ rfl, hP1 13 _ rfl, hP1 14 _ rfl, hP1 15 _ rfl, hP1 16 _ rfl, hP1 17 _ rfl⟩
  have np5 : X10P2 dC dI G ax t.heap := ⟨u0, u1, u2, u3, u4, u5, u6, u7, u8, (by first | omega | exact hu | exact hu.1 | exact hu.1.1 | exact hu.1.2 | exact hu.2 | exact hu.1.1.1 | exact hu.1.1.2 | exact fd_nn (by first | with_reducible assumption | assumption) | (split at hu <;> omega) | (split <;> omega) | exact E_inv (by first | with_reducible assumption | assumption)), (by first | omega | exact hu | exact hu.1 | exact hu.1.1 | exact hu.1.2 | exact hu.2 | exact hu.1.1.1 | exact hu.1.1.2 | exact fd_nn (by first | with_reducible assumption | assumption) | (split at hu <;> omega) | (split <;> omega) | exact E_inv (by first | with_reducible assumption | assumption)), (by first | omega | exact hu | exact hu.1 | exact hu.1.1 | exact hu.1.2 | exact hu.2 | exact hu.1.1.1 | exact hu.1.1.2 | exact fd_nn (by first | with_reducible assumption | assumption) | (split at hu <;> omega) | (split <;> omega) | exact E_inv (by first | with_reducible assumption | assumption)), hP1 1 _ rfl, hP1 2 _ rfl, hP1 3 _ rfl, hP1 4 _ rfl, hP1 5 _ rfl, hP1 6 _ rfl, hP1 7 _ rfl⟩
  have np10 : X10P5 dC dI G ax t.heap := ⟨u9, v1, v2, hP1 8 _ rfl, hP1 9 _ rfl, hP1 10 _ rfl⟩
  exact ⟨⟨r, (), ho, trivial, ⟨np0, p1.kept (FR 1 2 (by decide) (by decide)), p2.kept (FR 2 4 (by decide) (by decide)), p3.kept (FR 4 11 (by decide) (by decide)), np4, np5, p6.kept (FR 25 26 (by decide) (by decide)), p7.kept (FR 26 33 (by decide) (by decide)), p8.kept (FR 33 40 (by decide) (by decide)), p9.kept (FR 40 41 (by decide) (by decide)), np10, p11.kept (FR 44 68 (by decide) (by decide)), p12.kept (FR 68 69 (by decide) (by decide)), p13.kept (FR 69 74 (by decide) (by decide)), p14.kept (FR 74 77 (by decide) (by decide)), p15.kept (FR 77 102 (by decide) (by decide)), p16.kept (FR 102 112 (by decide) (by decide)), ⟨hX, hXV.2⟩⟩⟩, hF.wide (ad_ix [0, 18, 19, 20, 21, 22, 23, 24, 41, 42, 43, 11, 12, 13, 14, 15, 16, 17] (by rfl) (by decide))⟩

set_option maxHeartbeats 1000000 in
set_option maxRecDepth 100000 in
theorem k_X10_drop (l : Launch) (dC : Nat → ClassId) (dI : Nat → Nat → Nat) (G : Nat → ClassId) (sz : Nat) (ax : Nat → Nat) (hi : adInj 129 ax) (T : Nat) (Y : Nat → Int32) (fa : Int32) (W0 : Nat → Int32) (W1 : Nat → Int32) (W2 : Nat → Int32) (N : Nat) (B : Nat) (N1 : Nat) (B1 : Nat) (N2 : Nat) (B2 : Nat) (K : Nat → Int32) (S : Nat) (M : Nat) (E : Nat → Int32) (Z : Nat → Int32) (O0 : Nat → Int32) (O1 : Nat → Int32) (O2 : Nat → Int32) (CE : Nat → Int32) (MR : Nat → Int32) (what : Int32) : Met l yX10_drop (Cond.code yX10_drop cX10_drop 8 (some .long) :: GT) ({ frames := 5, cells := 0, slots := 0, locals := 112 } : Room) (PcI [.ref (ax 0), .int what] dC dI G (X10I dC dI G ax T Y fa W0 W1 W2 N B N1 B1 N2 B2 K S M E Z O0 O1 O2 CE MR) sz) (va_Ql (fun (r : Int64) (_ : Unit) => True) (fun _ t => X10I dC dI G ax T Y fa W0 W1 W2 N B N1 B1 N2 B2 K S M E Z O0 O1 O2 CE MR t.heap) (adX 0 112 ax sz)) 0 0 (adX 0 112 ax sz) := by
  refine Met.pick (fun a st hp => ?_)
  obtain ⟨e0, hsz, hI, hK⟩ := hp
  subst hsz
  have hI0 := hI
  unfold X10I at hI
  obtain ⟨p0, p1, p2, p3, p4, p5, p6, p7, p8, p9, p10, p11, p12, p13, p14, p15, p16, hX⟩ := hI
  have hXV := hX
  have hX := hXV.1
  unfold X10Pr at p0
  obtain ⟨zi0_13, q0⟩ := p0
  unfold X10P1 at p4
  obtain ⟨zn11_2, zf12, zf13, zf14, zf15, zf16, zf17, p4j0, p4j1, p4j2, p4j3, p4j4, q11, q12, q13, q14, q15, q16, q17⟩ := p4
  unfold X10P5 at p10
  obtain ⟨zl41_0, zf42, zf43, q41, q42, q43⟩ := p10
  refine ⟨_, _, _, c_X10_drop l dC dI G _ (ax 0) (ax 1) (ax 11) (ax 18) (ax 25) (ax 40) (ax 41) (ax 44) (ax 68) (ax 69) (ax 74) (ax 77) (ax 102) (ax 42) (ax 43) (ax 12) (ax 13) (ax 14) (ax 15) (ax 16) (ax 17) N B zn11_2 fa zi0_13 what zl41_0 zf12 zf13 zf14 zf15 zf16 zf17 zf42 zf43 (by first | with_reducible assumption | assumption) (by first | with_reducible assumption | assumption) (by first | with_reducible assumption | assumption), ⟨e0, rfl, (vpc q0 (vpc q41 (vpc q42 (vpc q43 (vpc q11 (vpc q12 (vpc q13 (vpc q14 (vpc q15 (vpc q16 (vpc q17 va_nilP))))))))))), hK, vD_ix hi [0, 41, 42, 43, 11, 12, 13, 14, 15, 16, 17] (by rfl) (by decide) (by decide)⟩, ad_ix [0, 41, 42, 43, 11, 12, 13, 14, 15, 16, 17] (by rfl) (by decide), fun o t hq => ?_⟩
  obtain ⟨⟨r, ⟨u0, u1, u2⟩, ho, ⟨hr, hu⟩, hP1, -⟩, hF⟩ := hq
  have FR : ∀ lo hi' : Nat, hi' ≤ 129 → ([0, 41, 42, 43, 11, 12, 13, 14, 15, 16, 17] : List Nat).all (fun x => decide (x < lo) || decide (hi' ≤ x)) = true → ∀ j : Nat, lo ≤ j → j < hi' → ax j < st.heap.size → t.heap[ax j]? = st.heap[ax j]? := fun lo hi' h1 h2 => fr_ix hi h1 hF.2 [0, 41, 42, 43, 11, 12, 13, 14, 15, 16, 17] (by rfl) (by decide) h2
  have np0 : X10Pr dC dI G ax fa t.heap := ⟨zi0_13, hP1 0 _ rfl⟩
  have np4 : X10P1 dC dI G ax W0 N B O0 t.heap := ⟨zn11_2, zf12, zf13, zf14, zf15, zf16, zf17, p4j0, p4j1, p4j2, p4j3, p4j4, hP1 4 _ rfl, hP1 5 _ rfl, hP1 6 _ rfl, hP1 7 _ rfl, hP1 8 _ rfl, hP1 9 _ rfl, hP1 10 _ rfl⟩
  have np10 : X10P5 dC dI G ax t.heap := ⟨u0, u1, u2, hP1 1 _ rfl, hP1 2 _ rfl, hP1 3 _ rfl⟩
  exact ⟨⟨r, (), ho, trivial, ⟨np0, p1.kept (FR 1 2 (by decide) (by decide)), p2.kept (FR 2 4 (by decide) (by decide)), p3.kept (FR 4 11 (by decide) (by decide)), np4, p5.kept (FR 18 25 (by decide) (by decide)), p6.kept (FR 25 26 (by decide) (by decide)), p7.kept (FR 26 33 (by decide) (by decide)), p8.kept (FR 33 40 (by decide) (by decide)), p9.kept (FR 40 41 (by decide) (by decide)), np10, p11.kept (FR 44 68 (by decide) (by decide)), p12.kept (FR 68 69 (by decide) (by decide)), p13.kept (FR 69 74 (by decide) (by decide)), p14.kept (FR 74 77 (by decide) (by decide)), p15.kept (FR 77 102 (by decide) (by decide)), p16.kept (FR 102 112 (by decide) (by decide)), ⟨hX, hXV.2⟩⟩⟩, hF.wide (ad_ix [0, 41, 42, 43, 11, 12, 13, 14, 15, 16, 17] (by rfl) (by decide))⟩

set_option maxHeartbeats 1000000 in
set_option maxRecDepth 100000 in
theorem k_X10_swap (l : Launch) (dC : Nat → ClassId) (dI : Nat → Nat → Nat) (G : Nat → ClassId) (sz : Nat) (ax : Nat → Nat) (hi : adInj 129 ax) (T : Nat) (Y : Nat → Int32) (fa : Int32) (W0 : Nat → Int32) (W1 : Nat → Int32) (W2 : Nat → Int32) (N : Nat) (B : Nat) (N1 : Nat) (B1 : Nat) (N2 : Nat) (B2 : Nat) (K : Nat → Int32) (S : Nat) (M : Nat) (E : Nat → Int32) (Z : Nat → Int32) (O0 : Nat → Int32) (O1 : Nat → Int32) (O2 : Nat → Int32) (CE : Nat → Int32) (MR : Nat → Int32) (what : Int32) : Met l yX10_swap (Cond.code yX10_swap cX10_swap 9 (some .long) :: GT) ({ frames := 5, cells := 0, slots := 0, locals := 121 } : Room) (PcI [.ref (ax 0), .int what] dC dI G (X10I dC dI G ax T Y fa W0 W1 W2 N B N1 B1 N2 B2 K S M E Z O0 O1 O2 CE MR) sz) (va_Ql (fun (r : Int64) (_ : Unit) => True) (fun _ t => X10I dC dI G ax T Y fa W0 W1 W2 N B N1 B1 N2 B2 K S M E Z O0 O1 O2 CE MR t.heap) (adX 0 112 ax sz)) 0 0 (adX 0 112 ax sz) := by
  refine Met.pick (fun a st hp => ?_)
  obtain ⟨e0, hsz, hI, hK⟩ := hp
  subst hsz
  have hI0 := hI
  unfold X10I at hI
  obtain ⟨p0, p1, p2, p3, p4, p5, p6, p7, p8, p9, p10, p11, p12, p13, p14, p15, p16, hX⟩ := hI
  have hXV := hX
  have hX := hXV.1
  unfold X10Pr at p0
  obtain ⟨zi0_13, q0⟩ := p0
  unfold X10P1 at p4
  obtain ⟨zn11_2, zf12, zf13, zf14, zf15, zf16, zf17, p4j0, p4j1, p4j2, p4j3, p4j4, q11, q12, q13, q14, q15, q16, q17⟩ := p4
  unfold X10P2 at p5
  obtain ⟨zn18_0, zn18_1, zn18_2, zf19, zf20, zf21, zf22, zf23, zf24, p5j0, p5j1, p5j2, q18, q19, q20, q21, q22, q23, q24⟩ := p5
  unfold X10P5 at p10
  obtain ⟨zl41_0, zf42, zf43, q41, q42, q43⟩ := p10
  refine ⟨_, _, _, c_X10_swap l dC dI G _ (ax 0) (ax 1) (ax 11) (ax 18) (ax 25) (ax 40) (ax 41) (ax 44) (ax 68) (ax 69) (ax 74) (ax 77) (ax 102) (ax 42) (ax 43) (ax 12) (ax 13) (ax 14) (ax 15) (ax 16) (ax 17) N B zn11_2 (ax 19) (ax 20) (ax 21) (ax 22) (ax 23) (ax 24) zn18_0 zn18_1 zn18_2 fa zi0_13 what zl41_0 zf12 zf13 zf14 zf15 zf16 zf17 zf19 zf20 zf21 zf22 zf23 zf24 zf42 zf43 (by first | with_reducible assumption | assumption) (by first | with_reducible assumption | assumption) (by first | with_reducible assumption | assumption) (by first | with_reducible assumption | assumption) (by first | with_reducible assumption | assumption) (by first | with_reducible assumption | assumption), ⟨e0, rfl, (vpc q0 (vpc q18 (vpc q19 (vpc q20 (vpc q21 (vpc q22 (vpc q23 (vpc q24 (vpc q41 (vpc q42 (vpc q43 (vpc q11 (vpc q12 (vpc q13 (vpc q14 (vpc q15 (vpc q16 (vpc q17 va_nilP)))))))))))))))))), hK, vD_ix hi [0, 18, 19, 20, 21, 22, 23, 24, 41, 42, 43, 11, 12, 13, 14, 15, 16, 17] (by rfl) (by decide) (by decide)⟩, ad_ix [0, 18, 19, 20, 21, 22, 23, 24, 41, 42, 43, 11, 12, 13, 14, 15, 16, 17] (by rfl) (by decide), fun o t hq => ?_⟩
  obtain ⟨⟨r, ⟨u0, u1, u2, u3, u4, u5, u6, u7, u8, u9, v1, v2⟩, ho, ⟨hr, hu⟩, hP1, -⟩, hF⟩ := hq
  have FR : ∀ lo hi' : Nat, hi' ≤ 129 → ([0, 18, 19, 20, 21, 22, 23, 24, 41, 42, 43, 11, 12, 13, 14, 15, 16, 17] : List Nat).all (fun x => decide (x < lo) || decide (hi' ≤ x)) = true → ∀ j : Nat, lo ≤ j → j < hi' → ax j < st.heap.size → t.heap[ax j]? = st.heap[ax j]? := fun lo hi' h1 h2 => fr_ix hi h1 hF.2 [0, 18, 19, 20, 21, 22, 23, 24, 41, 42, 43, 11, 12, 13, 14, 15, 16, 17] (by rfl) (by decide) h2
  have np0 : X10Pr dC dI G ax fa t.heap := ⟨zi0_13, hP1 0 _ rfl⟩
  have np4 : X10P1 dC dI G ax W0 N B O0 t.heap := ⟨zn11_2, zf12, zf13, zf14, zf15, zf16, zf17, p4j0, p4j1, p4j2, p4j3, p4j4, hP1 11 _ rfl, hP1 12 _ rfl, hP1 13 _ rfl, hP1 14 _ rfl, hP1 15 _ rfl, hP1 16 _ rfl, hP1 17 _ rfl⟩
  have np5 : X10P2 dC dI G ax t.heap := ⟨u0, u1, u2, u3, u4, u5, u6, u7, u8, (by first | omega | exact hu | exact hu.1 | exact hu.1.1 | exact hu.1.2 | exact hu.2 | exact hu.1.1.1 | exact hu.1.1.2 | exact fd_nn (by first | with_reducible assumption | assumption) | (split at hu <;> omega) | (split <;> omega) | exact E_inv (by first | with_reducible assumption | assumption)), (by first | omega | exact hu | exact hu.1 | exact hu.1.1 | exact hu.1.2 | exact hu.2 | exact hu.1.1.1 | exact hu.1.1.2 | exact fd_nn (by first | with_reducible assumption | assumption) | (split at hu <;> omega) | (split <;> omega) | exact E_inv (by first | with_reducible assumption | assumption)), (by first | omega | exact hu | exact hu.1 | exact hu.1.1 | exact hu.1.2 | exact hu.2 | exact hu.1.1.1 | exact hu.1.1.2 | exact fd_nn (by first | with_reducible assumption | assumption) | (split at hu <;> omega) | (split <;> omega) | exact E_inv (by first | with_reducible assumption | assumption)), hP1 1 _ rfl, hP1 2 _ rfl, hP1 3 _ rfl, hP1 4 _ rfl, hP1 5 _ rfl, hP1 6 _ rfl, hP1 7 _ rfl⟩
  have np10 : X10P5 dC dI G ax t.heap := ⟨u9, v1, v2, hP1 8 _ rfl, hP1 9 _ rfl, hP1 10 _ rfl⟩
  exact ⟨⟨r, (), ho, trivial, ⟨np0, p1.kept (FR 1 2 (by decide) (by decide)), p2.kept (FR 2 4 (by decide) (by decide)), p3.kept (FR 4 11 (by decide) (by decide)), np4, np5, p6.kept (FR 25 26 (by decide) (by decide)), p7.kept (FR 26 33 (by decide) (by decide)), p8.kept (FR 33 40 (by decide) (by decide)), p9.kept (FR 40 41 (by decide) (by decide)), np10, p11.kept (FR 44 68 (by decide) (by decide)), p12.kept (FR 68 69 (by decide) (by decide)), p13.kept (FR 69 74 (by decide) (by decide)), p14.kept (FR 74 77 (by decide) (by decide)), p15.kept (FR 77 102 (by decide) (by decide)), p16.kept (FR 102 112 (by decide) (by decide)), ⟨hX, hXV.2⟩⟩⟩, hF.wide (ad_ix [0, 18, 19, 20, 21, 22, 23, 24, 41, 42, 43, 11, 12, 13, 14, 15, 16, 17] (by rfl) (by decide))⟩

set_option maxHeartbeats 1000000 in
set_option maxRecDepth 100000 in
theorem k_X10_carry (l : Launch) (dC : Nat → ClassId) (dI : Nat → Nat → Nat) (G : Nat → ClassId) (sz : Nat) (ax : Nat → Nat) (hi : adInj 129 ax) (T : Nat) (Y : Nat → Int32) (fa : Int32) (W0 : Nat → Int32) (W1 : Nat → Int32) (W2 : Nat → Int32) (N : Nat) (B : Nat) (N1 : Nat) (B1 : Nat) (N2 : Nat) (B2 : Nat) (K : Nat → Int32) (S : Nat) (M : Nat) (E : Nat → Int32) (Z : Nat → Int32) (O0 : Nat → Int32) (O1 : Nat → Int32) (O2 : Nat → Int32) (CE : Nat → Int32) (MR : Nat → Int32) (sd : Int32) (what : Int32) : Met l yX10_carry (Cond.code yX10_carry cX10_carry 3 (some .int) :: GT) ({ frames := 5, cells := 0, slots := 0, locals := 112 } : Room) (PcI [.ref (ax 0), .int sd, .int what] dC dI G (X10I dC dI G ax T Y fa W0 W1 W2 N B N1 B1 N2 B2 K S M E Z O0 O1 O2 CE MR) sz) (va_Qi (fun (r : Int32) (_ : Unit) => True) (fun _ t => X10I dC dI G ax T Y fa W0 W1 W2 N B N1 B1 N2 B2 K S M E Z O0 O1 O2 CE MR t.heap) (adX 0 112 ax sz)) 0 0 (adX 0 112 ax sz) := by
  refine Met.pick (fun a st hp => ?_)
  obtain ⟨e0, hsz, hI, hK⟩ := hp
  subst hsz
  have hI0 := hI
  unfold X10I at hI
  obtain ⟨p0, p1, p2, p3, p4, p5, p6, p7, p8, p9, p10, p11, p12, p13, p14, p15, p16, hX⟩ := hI
  have hXV := hX
  have hX := hXV.1
  unfold X10Pr at p0
  obtain ⟨zi0_13, q0⟩ := p0
  unfold X10P1 at p4
  obtain ⟨zn11_2, zf12, zf13, zf14, zf15, zf16, zf17, p4j0, p4j1, p4j2, p4j3, p4j4, q11, q12, q13, q14, q15, q16, q17⟩ := p4
  unfold X10P7 at p12
  obtain ⟨zi68_0, zi68_1, zi68_2, q68⟩ := p12
  refine ⟨_, _, _, c_X10_carry l dC dI G _ (ax 0) (ax 1) (ax 11) (ax 18) (ax 25) (ax 40) (ax 41) (ax 44) (ax 68) (ax 69) (ax 74) (ax 77) (ax 102) (ax 12) (ax 13) (ax 14) (ax 15) (ax 16) (ax 17) N B zn11_2 fa zi0_13 sd what zi68_0 zi68_1 zi68_2 zf12 zf13 zf14 zf15 zf16 zf17 (by first | with_reducible assumption | assumption) (by first | with_reducible assumption | assumption) (by first | with_reducible assumption | assumption), ⟨e0, rfl, (vpc q0 (vpc q68 (vpc q11 (vpc q12 (vpc q13 (vpc q14 (vpc q15 (vpc q16 (vpc q17 va_nilP))))))))), hK, vD_ix hi [0, 68, 11, 12, 13, 14, 15, 16, 17] (by rfl) (by decide) (by decide)⟩, ad_ix [0, 68, 11, 12, 13, 14, 15, 16, 17] (by rfl) (by decide), fun o t hq => ?_⟩
  obtain ⟨⟨r, ⟨u0, u1, u2⟩, ho, ⟨hr, hu⟩, hP1, -⟩, hF⟩ := hq
  have FR : ∀ lo hi' : Nat, hi' ≤ 129 → ([0, 68, 11, 12, 13, 14, 15, 16, 17] : List Nat).all (fun x => decide (x < lo) || decide (hi' ≤ x)) = true → ∀ j : Nat, lo ≤ j → j < hi' → ax j < st.heap.size → t.heap[ax j]? = st.heap[ax j]? := fun lo hi' h1 h2 => fr_ix hi h1 hF.2 [0, 68, 11, 12, 13, 14, 15, 16, 17] (by rfl) (by decide) h2
  have np0 : X10Pr dC dI G ax fa t.heap := ⟨zi0_13, hP1 0 _ rfl⟩
  have np4 : X10P1 dC dI G ax W0 N B O0 t.heap := ⟨zn11_2, zf12, zf13, zf14, zf15, zf16, zf17, p4j0, p4j1, p4j2, p4j3, p4j4, hP1 2 _ rfl, hP1 3 _ rfl, hP1 4 _ rfl, hP1 5 _ rfl, hP1 6 _ rfl, hP1 7 _ rfl, hP1 8 _ rfl⟩
  have np12 : X10P7 dC dI G ax t.heap := ⟨u0, u1, u2, hP1 1 _ rfl⟩
  exact ⟨⟨r, (), ho, trivial, ⟨np0, p1.kept (FR 1 2 (by decide) (by decide)), p2.kept (FR 2 4 (by decide) (by decide)), p3.kept (FR 4 11 (by decide) (by decide)), np4, p5.kept (FR 18 25 (by decide) (by decide)), p6.kept (FR 25 26 (by decide) (by decide)), p7.kept (FR 26 33 (by decide) (by decide)), p8.kept (FR 33 40 (by decide) (by decide)), p9.kept (FR 40 41 (by decide) (by decide)), p10.kept (FR 41 44 (by decide) (by decide)), p11.kept (FR 44 68 (by decide) (by decide)), np12, p13.kept (FR 69 74 (by decide) (by decide)), p14.kept (FR 74 77 (by decide) (by decide)), p15.kept (FR 77 102 (by decide) (by decide)), p16.kept (FR 102 112 (by decide) (by decide)), ⟨hX, hXV.2⟩⟩⟩, hF.wide (ad_ix [0, 68, 11, 12, 13, 14, 15, 16, 17] (by rfl) (by decide))⟩

set_option maxHeartbeats 1000000 in
set_option maxRecDepth 100000 in
theorem k_X10_learnE (l : Launch) (dC : Nat → ClassId) (dI : Nat → Nat → Nat) (G : Nat → ClassId) (sz : Nat) (ax : Nat → Nat) (hi : adInj 129 ax) (T : Nat) (Y : Nat → Int32) (fa : Int32) (W0 : Nat → Int32) (W1 : Nat → Int32) (W2 : Nat → Int32) (N : Nat) (B : Nat) (N1 : Nat) (B1 : Nat) (N2 : Nat) (B2 : Nat) (K : Nat → Int32) (S : Nat) (M : Nat) (E : Nat → Int32) (Z : Nat → Int32) (O0 : Nat → Int32) (O1 : Nat → Int32) (O2 : Nat → Int32) (CE : Nat → Int32) (MR : Nat → Int32) (i : Int32) (g : Int32) (k : Int32) (hm : Int32) : Met l yX10_learn (Cond.code yX10_learn cX10_learn 5 (some .int) :: GT) ({ frames := 2, cells := 0, slots := 0, locals := 44 } : Room) (PcI [.ref (ax 0), .int i, .int g, .int k, .int hm] dC dI G (X10I dC dI G ax T Y fa W0 W1 W2 N B N1 B1 N2 B2 K S M E Z O0 O1 O2 CE MR) sz) (va_Qi (fun (r : Int32) (_ : Unit) => r = if ((0 ≤ i.toInt ∧ i.toInt < ((N : Nat) : Int)) ∧ (g.toInt = -4 ∨ (0 ≤ g.toInt ∧ g.toInt < ((B : Nat) : Int))) ∧ (0 ≤ k.toInt ∧ k.toInt < ((B : Nat) : Int)) ∧ 0 ≤ hm.toInt ∧ hm.toInt ≤ 20) then (if S < 8 then nI (S + 1) else -3) else -1) (fun _ t => X10I dC dI G ax T Y fa W0 W1 W2 N B N1 B1 N2 B2 K (if ((0 ≤ i.toInt ∧ i.toInt < ((N : Nat) : Int)) ∧ (g.toInt = -4 ∨ (0 ≤ g.toInt ∧ g.toInt < ((B : Nat) : Int))) ∧ (0 ≤ k.toInt ∧ k.toInt < ((B : Nat) : Int)) ∧ 0 ≤ hm.toInt ∧ hm.toInt ≤ 20) ∧ S < 8 then S + 1 else S) M E Z O0 O1 O2 CE MR t.heap) (adX 0 112 ax sz)) 0 0 (adX 0 112 ax sz) := by
  refine Met.pick (fun a st hp => ?_)
  obtain ⟨e0, hsz, hI, hK⟩ := hp
  subst hsz
  have hI0 := hI
  unfold X10I at hI
  obtain ⟨p0, p1, p2, p3, p4, p5, p6, p7, p8, p9, p10, p11, p12, p13, p14, p15, p16, hX⟩ := hI
  have hXV := hX
  have hX := hXV.1
  unfold X10Pr at p0
  obtain ⟨zi0_13, q0⟩ := p0
  unfold X10P1 at p4
  obtain ⟨zn11_2, zf12, zf13, zf14, zf15, zf16, zf17, p4j0, p4j1, p4j2, p4j3, p4j4, q11, q12, q13, q14, q15, q16, q17⟩ := p4
  unfold X10P8 at p13
  obtain ⟨zf70, zf71, zf72, zf73, p13j0, q69, q70, q71, q72, q73⟩ := p13
  refine ⟨_, _, _, c_X10_learnE l dC dI G _ (ax 0) (ax 1) (ax 11) (ax 18) (ax 25) (ax 40) (ax 41) (ax 44) (ax 68) (ax 69) (ax 74) (ax 77) (ax 102) (ax 12) (ax 13) (ax 14) (ax 15) (ax 16) (ax 17) N B zn11_2 (ax 70) (ax 71) (ax 72) (ax 73) S fa zi0_13 i g k hm zf70 zf71 zf72 zf73 (by first | with_reducible assumption | assumption) (by first | with_reducible assumption | assumption) (by first | with_reducible assumption | assumption) (by first | with_reducible assumption | assumption), ⟨e0, rfl, (vpc q0 (vpc q11 (vpc q69 (vpc q70 (vpc q71 (vpc q72 (vpc q73 va_nilP))))))), hK, vD_ix hi [0, 11, 69, 70, 71, 72, 73] (by rfl) (by decide) (by decide)⟩, ad_ix [0, 11, 69, 70, 71, 72, 73] (by rfl) (by decide), fun o t hq => ?_⟩
  obtain ⟨⟨r, ⟨u0, u1, u2, u3, u4⟩, ho, ⟨hr, hu⟩, hP1, -⟩, hF⟩ := hq
  have FR : ∀ lo hi' : Nat, hi' ≤ 129 → ([0, 11, 69, 70, 71, 72, 73] : List Nat).all (fun x => decide (x < lo) || decide (hi' ≤ x)) = true → ∀ j : Nat, lo ≤ j → j < hi' → ax j < st.heap.size → t.heap[ax j]? = st.heap[ax j]? := fun lo hi' h1 h2 => fr_ix hi h1 hF.2 [0, 11, 69, 70, 71, 72, 73] (by rfl) (by decide) h2
  have xS : (if ((0 ≤ i.toInt ∧ i.toInt < ((N : Nat) : Int)) ∧ (g.toInt = -4 ∨ (0 ≤ g.toInt ∧ g.toInt < ((B : Nat) : Int))) ∧ (0 ≤ k.toInt ∧ k.toInt < ((B : Nat) : Int)) ∧ 0 ≤ hm.toInt ∧ hm.toInt ≤ 20) ∧ S < 8 then S + 1 else S) = u0 := Eq.symm (by first | exact hu | exact hu.1 | exact hu.2 | exact hu.1.1 | exact hu.1.2 | exact hu.2.1.trans (txt_cf (by first | with_reducible assumption | assumption)) | exact hu.2.1.trans (txt_rf (by first | with_reducible assumption | assumption)) | exact hu.1.1.trans lmap_step | omega)
  subst xS
  have np0 : X10Pr dC dI G ax fa t.heap := ⟨zi0_13, hP1 0 _ rfl⟩
  have np4 : X10P1 dC dI G ax W0 N B O0 t.heap := ⟨zn11_2, zf12, zf13, zf14, zf15, zf16, zf17, p4j0, p4j1, p4j2, p4j3, p4j4, hP1 1 _ rfl, q12.kept (FR 12 13 (by decide) (by decide) 12 (by decide) (by decide) q12.lt), q13.kept (FR 13 14 (by decide) (by decide) 13 (by decide) (by decide) q13.lt), q14.kept (FR 14 15 (by decide) (by decide) 14 (by decide) (by decide) q14.lt), q15.kept (FR 15 16 (by decide) (by decide) 15 (by decide) (by decide) q15.lt), q16.kept (FR 16 17 (by decide) (by decide) 16 (by decide) (by decide) q16.lt), q17.kept (FR 17 18 (by decide) (by decide) 17 (by decide) (by decide) q17.lt)⟩
  have np13 : X10P8 dC dI G ax (if ((0 ≤ i.toInt ∧ i.toInt < ((N : Nat) : Int)) ∧ (g.toInt = -4 ∨ (0 ≤ g.toInt ∧ g.toInt < ((B : Nat) : Int))) ∧ (0 ≤ k.toInt ∧ k.toInt < ((B : Nat) : Int)) ∧ 0 ≤ hm.toInt ∧ hm.toInt ≤ 20) ∧ S < 8 then S + 1 else S) t.heap := ⟨u1, u2, u3, u4, (by first | omega | exact hu | exact hu.1 | exact hu.1.1 | exact hu.1.2 | exact hu.2 | exact hu.1.1.1 | exact hu.1.1.2 | exact fd_nn (by first | with_reducible assumption | assumption) | (split at hu <;> omega) | (split <;> omega) | exact E_inv (by first | with_reducible assumption | assumption)), hP1 2 _ rfl, hP1 3 _ rfl, hP1 4 _ rfl, hP1 5 _ rfl, hP1 6 _ rfl⟩
  exact ⟨⟨r, (), ho, hr, ⟨np0, p1.kept (FR 1 2 (by decide) (by decide)), p2.kept (FR 2 4 (by decide) (by decide)), p3.kept (FR 4 11 (by decide) (by decide)), np4, p5.kept (FR 18 25 (by decide) (by decide)), p6.kept (FR 25 26 (by decide) (by decide)), p7.kept (FR 26 33 (by decide) (by decide)), p8.kept (FR 33 40 (by decide) (by decide)), p9.kept (FR 40 41 (by decide) (by decide)), p10.kept (FR 41 44 (by decide) (by decide)), p11.kept (FR 44 68 (by decide) (by decide)), p12.kept (FR 68 69 (by decide) (by decide)), np13, p14.kept (FR 74 77 (by decide) (by decide)), p15.kept (FR 77 102 (by decide) (by decide)), p16.kept (FR 102 112 (by decide) (by decide)), ⟨hX, hXV.2⟩⟩⟩, hF.wide (ad_ix [0, 11, 69, 70, 71, 72, 73] (by rfl) (by decide))⟩

set_option maxHeartbeats 1000000 in
set_option maxRecDepth 100000 in
theorem k_X10_forgetE (l : Launch) (dC : Nat → ClassId) (dI : Nat → Nat → Nat) (G : Nat → ClassId) (sz : Nat) (ax : Nat → Nat) (hi : adInj 129 ax) (T : Nat) (Y : Nat → Int32) (fa : Int32) (W0 : Nat → Int32) (W1 : Nat → Int32) (W2 : Nat → Int32) (N : Nat) (B : Nat) (N1 : Nat) (B1 : Nat) (N2 : Nat) (B2 : Nat) (K : Nat → Int32) (S : Nat) (M : Nat) (E : Nat → Int32) (Z : Nat → Int32) (O0 : Nat → Int32) (O1 : Nat → Int32) (O2 : Nat → Int32) (CE : Nat → Int32) (MR : Nat → Int32) (n : Int32) : Met l yX10_forget (Cond.code yX10_forget cX10_forget 3 (some .int) :: GT) ({ frames := 0, cells := 0, slots := 0, locals := 0 } : Room) (PcI [.ref (ax 0), .int n] dC dI G (X10I dC dI G ax T Y fa W0 W1 W2 N B N1 B1 N2 B2 K S M E Z O0 O1 O2 CE MR) sz) (va_Qi (fun (r : Int32) (_ : Unit) => r = if 0 ≤ n.toInt ∧ n.toInt ≤ ((S : Nat) : Int) then nI S else -1) (fun _ t => X10I dC dI G ax T Y fa W0 W1 W2 N B N1 B1 N2 B2 K (if 0 ≤ n.toInt ∧ n.toInt ≤ ((S : Nat) : Int) then n.toNatClampNeg else S) M E Z O0 O1 O2 CE MR t.heap) (adX 0 112 ax sz)) 0 0 (adX 0 112 ax sz) := by
  refine Met.pick (fun a st hp => ?_)
  obtain ⟨e0, hsz, hI, hK⟩ := hp
  subst hsz
  have hI0 := hI
  unfold X10I at hI
  obtain ⟨p0, p1, p2, p3, p4, p5, p6, p7, p8, p9, p10, p11, p12, p13, p14, p15, p16, hX⟩ := hI
  have hXV := hX
  have hX := hXV.1
  unfold X10Pr at p0
  obtain ⟨zi0_13, q0⟩ := p0
  unfold X10P8 at p13
  obtain ⟨zf70, zf71, zf72, zf73, p13j0, q69, q70, q71, q72, q73⟩ := p13
  refine ⟨_, _, _, c_X10_forgetE l dC dI G _ (ax 0) (ax 1) (ax 11) (ax 18) (ax 25) (ax 40) (ax 41) (ax 44) (ax 68) (ax 69) (ax 74) (ax 77) (ax 102) (ax 70) (ax 71) (ax 72) (ax 73) S fa zi0_13 n (by first | with_reducible assumption | assumption), ⟨e0, rfl, (vpc q0 (vpc q69 va_nilP)), hK, vD_ix hi [0, 69] (by rfl) (by decide) (by decide)⟩, ad_ix [0, 69] (by rfl) (by decide), fun o t hq => ?_⟩
  obtain ⟨⟨r, u1, ho, ⟨hr, hu⟩, hP1, -⟩, hF⟩ := hq
  have FR : ∀ lo hi' : Nat, hi' ≤ 129 → ([0, 69] : List Nat).all (fun x => decide (x < lo) || decide (hi' ≤ x)) = true → ∀ j : Nat, lo ≤ j → j < hi' → ax j < st.heap.size → t.heap[ax j]? = st.heap[ax j]? := fun lo hi' h1 h2 => fr_ix hi h1 hF.2 [0, 69] (by rfl) (by decide) h2
  have xS : (if 0 ≤ n.toInt ∧ n.toInt ≤ ((S : Nat) : Int) then n.toNatClampNeg else S) = u1 := Eq.symm (by first | exact hu | exact hu.1 | exact hu.2 | exact hu.1.1 | exact hu.1.2 | exact hu.2.1.trans (txt_cf (by first | with_reducible assumption | assumption)) | exact hu.2.1.trans (txt_rf (by first | with_reducible assumption | assumption)) | exact hu.1.1.trans lmap_step | omega)
  subst xS
  have np0 : X10Pr dC dI G ax fa t.heap := ⟨zi0_13, hP1 0 _ rfl⟩
  have np13 : X10P8 dC dI G ax (if 0 ≤ n.toInt ∧ n.toInt ≤ ((S : Nat) : Int) then n.toNatClampNeg else S) t.heap := ⟨zf70, zf71, zf72, zf73, (by first | omega | exact hu | exact hu.1 | exact hu.1.1 | exact hu.1.2 | exact hu.2 | exact hu.1.1.1 | exact hu.1.1.2 | exact fd_nn (by first | with_reducible assumption | assumption) | (split at hu <;> omega) | (split <;> omega) | exact E_inv (by first | with_reducible assumption | assumption)), hP1 1 _ rfl, q70.kept (FR 70 71 (by decide) (by decide) 70 (by decide) (by decide) q70.lt), q71.kept (FR 71 72 (by decide) (by decide) 71 (by decide) (by decide) q71.lt), q72.kept (FR 72 73 (by decide) (by decide) 72 (by decide) (by decide) q72.lt), q73.kept (FR 73 74 (by decide) (by decide) 73 (by decide) (by decide) q73.lt)⟩
  exact ⟨⟨r, (), ho, hr, ⟨np0, p1.kept (FR 1 2 (by decide) (by decide)), p2.kept (FR 2 4 (by decide) (by decide)), p3.kept (FR 4 11 (by decide) (by decide)), p4.kept (FR 11 18 (by decide) (by decide)), p5.kept (FR 18 25 (by decide) (by decide)), p6.kept (FR 25 26 (by decide) (by decide)), p7.kept (FR 26 33 (by decide) (by decide)), p8.kept (FR 33 40 (by decide) (by decide)), p9.kept (FR 40 41 (by decide) (by decide)), p10.kept (FR 41 44 (by decide) (by decide)), p11.kept (FR 44 68 (by decide) (by decide)), p12.kept (FR 68 69 (by decide) (by decide)), np13, p14.kept (FR 74 77 (by decide) (by decide)), p15.kept (FR 77 102 (by decide) (by decide)), p16.kept (FR 102 112 (by decide) (by decide)), ⟨hX, hXV.2⟩⟩⟩, hF.wide (ad_ix [0, 69] (by rfl) (by decide))⟩

set_option maxHeartbeats 1000000 in
set_option maxRecDepth 100000 in
theorem k_X10_steps (l : Launch) (dC : Nat → ClassId) (dI : Nat → Nat → Nat) (G : Nat → ClassId) (sz : Nat) (ax : Nat → Nat) (hi : adInj 129 ax) (T : Nat) (Y : Nat → Int32) (fa : Int32) (W0 : Nat → Int32) (W1 : Nat → Int32) (W2 : Nat → Int32) (N : Nat) (B : Nat) (N1 : Nat) (B1 : Nat) (N2 : Nat) (B2 : Nat) (K : Nat → Int32) (S : Nat) (M : Nat) (E : Nat → Int32) (Z : Nat → Int32) (O0 : Nat → Int32) (O1 : Nat → Int32) (O2 : Nat → Int32) (CE : Nat → Int32) (MR : Nat → Int32) (b : Int32) (what : Int32) : Met l yX10_steps (Cond.code yX10_steps cX10_steps 7 (some .int) :: GT) ({ frames := 4, cells := 0, slots := 0, locals := 121 } : Room) (PcI [.ref (ax 0), .int b, .int what] dC dI G (X10I dC dI G ax T Y fa W0 W1 W2 N B N1 B1 N2 B2 K S M E Z O0 O1 O2 CE MR) sz) (va_Qi (fun (r : Int32) (_ : Unit) => True) (fun _ t => X10I dC dI G ax T Y fa W0 W1 W2 N B N1 B1 N2 B2 K S M E Z O0 O1 O2 CE MR t.heap) (adX 0 112 ax sz)) 0 0 (adX 0 112 ax sz) := by
  refine Met.pick (fun a st hp => ?_)
  obtain ⟨e0, hsz, hI, hK⟩ := hp
  subst hsz
  have hI0 := hI
  unfold X10I at hI
  obtain ⟨p0, p1, p2, p3, p4, p5, p6, p7, p8, p9, p10, p11, p12, p13, p14, p15, p16, hX⟩ := hI
  have hXV := hX
  have hX := hXV.1
  unfold X10Pr at p0
  obtain ⟨zi0_13, q0⟩ := p0
  unfold X10P1 at p4
  obtain ⟨zn11_2, zf12, zf13, zf14, zf15, zf16, zf17, p4j0, p4j1, p4j2, p4j3, p4j4, q11, q12, q13, q14, q15, q16, q17⟩ := p4
  unfold X10P2 at p5
  obtain ⟨zn18_0, zn18_1, zn18_2, zf19, zf20, zf21, zf22, zf23, zf24, p5j0, p5j1, p5j2, q18, q19, q20, q21, q22, q23, q24⟩ := p5
  unfold X10P8 at p13
  obtain ⟨zf70, zf71, zf72, zf73, p13j0, q69, q70, q71, q72, q73⟩ := p13
  refine ⟨_, _, _, c_X10_steps l dC dI G _ (ax 0) (ax 1) (ax 11) (ax 18) (ax 25) (ax 40) (ax 41) (ax 44) (ax 68) (ax 69) (ax 74) (ax 77) (ax 102) (ax 12) (ax 13) (ax 14) (ax 15) (ax 16) (ax 17) N B zn11_2 (ax 19) (ax 20) (ax 21) (ax 22) (ax 23) (ax 24) zn18_0 zn18_1 zn18_2 (ax 70) (ax 71) (ax 72) (ax 73) S fa zi0_13 b what zf12 zf13 zf14 zf15 zf16 zf17 zf19 zf20 zf21 zf22 zf23 zf24 zf70 zf71 zf72 zf73 (by first | with_reducible assumption | assumption) (by first | with_reducible assumption | assumption) (by first | with_reducible assumption | assumption) (by first | with_reducible assumption | assumption) (by first | with_reducible assumption | assumption) (by first | with_reducible assumption | assumption) (by first | with_reducible assumption | assumption), ⟨e0, rfl, (vpc q0 (vpc q18 (vpc q19 (vpc q20 (vpc q21 (vpc q22 (vpc q23 (vpc q24 (vpc q11 (vpc q12 (vpc q13 (vpc q14 (vpc q15 (vpc q16 (vpc q17 (vpc q69 (vpc q70 (vpc q71 (vpc q72 (vpc q73 va_nilP)))))))))))))))))))), hK, vD_ix hi [0, 18, 19, 20, 21, 22, 23, 24, 11, 12, 13, 14, 15, 16, 17, 69, 70, 71, 72, 73] (by rfl) (by decide) (by decide)⟩, ad_ix [0, 18, 19, 20, 21, 22, 23, 24, 11, 12, 13, 14, 15, 16, 17, 69, 70, 71, 72, 73] (by rfl) (by decide), fun o t hq => ?_⟩
  obtain ⟨⟨r, ⟨u0, u1, u2, u3, u4, u5, u6, u7, u8⟩, ho, ⟨hr, hu⟩, hP1, -⟩, hF⟩ := hq
  have FR : ∀ lo hi' : Nat, hi' ≤ 129 → ([0, 18, 19, 20, 21, 22, 23, 24, 11, 12, 13, 14, 15, 16, 17, 69, 70, 71, 72, 73] : List Nat).all (fun x => decide (x < lo) || decide (hi' ≤ x)) = true → ∀ j : Nat, lo ≤ j → j < hi' → ax j < st.heap.size → t.heap[ax j]? = st.heap[ax j]? := fun lo hi' h1 h2 => fr_ix hi h1 hF.2 [0, 18, 19, 20, 21, 22, 23, 24, 11, 12, 13, 14, 15, 16, 17, 69, 70, 71, 72, 73] (by rfl) (by decide) h2
  have np0 : X10Pr dC dI G ax fa t.heap := ⟨zi0_13, hP1 0 _ rfl⟩
  have np4 : X10P1 dC dI G ax W0 N B O0 t.heap := ⟨zn11_2, zf12, zf13, zf14, zf15, zf16, zf17, p4j0, p4j1, p4j2, p4j3, p4j4, hP1 8 _ rfl, hP1 9 _ rfl, hP1 10 _ rfl, hP1 11 _ rfl, hP1 12 _ rfl, hP1 13 _ rfl, hP1 14 _ rfl⟩
  have np5 : X10P2 dC dI G ax t.heap := ⟨u0, u1, u2, u3, u4, u5, u6, u7, u8, (by first | omega | exact hu | exact hu.1 | exact hu.1.1 | exact hu.1.2 | exact hu.2 | exact hu.1.1.1 | exact hu.1.1.2 | exact fd_nn (by first | with_reducible assumption | assumption) | (split at hu <;> omega) | (split <;> omega) | exact E_inv (by first | with_reducible assumption | assumption)), (by first | omega | exact hu | exact hu.1 | exact hu.1.1 | exact hu.1.2 | exact hu.2 | exact hu.1.1.1 | exact hu.1.1.2 | exact fd_nn (by first | with_reducible assumption | assumption) | (split at hu <;> omega) | (split <;> omega) | exact E_inv (by first | with_reducible assumption | assumption)), (by first | omega | exact hu | exact hu.1 | exact hu.1.1 | exact hu.1.2 | exact hu.2 | exact hu.1.1.1 | exact hu.1.1.2 | exact fd_nn (by first | with_reducible assumption | assumption) | (split at hu <;> omega) | (split <;> omega) | exact E_inv (by first | with_reducible assumption | assumption)), hP1 1 _ rfl, hP1 2 _ rfl, hP1 3 _ rfl, hP1 4 _ rfl, hP1 5 _ rfl, hP1 6 _ rfl, hP1 7 _ rfl⟩
  have np13 : X10P8 dC dI G ax S t.heap := ⟨zf70, zf71, zf72, zf73, p13j0, hP1 15 _ rfl, hP1 16 _ rfl, hP1 17 _ rfl, hP1 18 _ rfl, hP1 19 _ rfl⟩
  exact ⟨⟨r, (), ho, trivial, ⟨np0, p1.kept (FR 1 2 (by decide) (by decide)), p2.kept (FR 2 4 (by decide) (by decide)), p3.kept (FR 4 11 (by decide) (by decide)), np4, np5, p6.kept (FR 25 26 (by decide) (by decide)), p7.kept (FR 26 33 (by decide) (by decide)), p8.kept (FR 33 40 (by decide) (by decide)), p9.kept (FR 40 41 (by decide) (by decide)), p10.kept (FR 41 44 (by decide) (by decide)), p11.kept (FR 44 68 (by decide) (by decide)), p12.kept (FR 68 69 (by decide) (by decide)), np13, p14.kept (FR 74 77 (by decide) (by decide)), p15.kept (FR 77 102 (by decide) (by decide)), p16.kept (FR 102 112 (by decide) (by decide)), ⟨hX, hXV.2⟩⟩⟩, hF.wide (ad_ix [0, 18, 19, 20, 21, 22, 23, 24, 11, 12, 13, 14, 15, 16, 17, 69, 70, 71, 72, 73] (by rfl) (by decide))⟩

set_option maxHeartbeats 1000000 in
set_option maxRecDepth 100000 in
theorem k_X10_markR (l : Launch) (dC : Nat → ClassId) (dI : Nat → Nat → Nat) (G : Nat → ClassId) (sz : Nat) (ax : Nat → Nat) (hi : adInj 129 ax) (T : Nat) (Y : Nat → Int32) (fa : Int32) (W0 : Nat → Int32) (W1 : Nat → Int32) (W2 : Nat → Int32) (N : Nat) (B : Nat) (N1 : Nat) (B1 : Nat) (N2 : Nat) (B2 : Nat) (K : Nat → Int32) (S : Nat) (M : Nat) (E : Nat → Int32) (Z : Nat → Int32) (O0 : Nat → Int32) (O1 : Nat → Int32) (O2 : Nat → Int32) (CE : Nat → Int32) (MR : Nat → Int32) (i : Int32) (d : Int32) : Met l yX10_mark (Cond.code yX10_mark cX10_mark 3 (some .int) :: GT) ({ frames := 1, cells := 0, slots := 0, locals := 22 } : Room) (PcI [.ref (ax 0), .int i, .int d] dC dI G (X10I dC dI G ax T Y fa W0 W1 W2 N B N1 B1 N2 B2 K S M E Z O0 O1 O2 CE MR) sz) (va_Qi (fun (r : Int32) (_ : Unit) => r = if ((0 ≤ i.toInt ∧ i.toInt < ((N : Nat) : Int)) ∧ 0 ≤ d.toInt ∧ d.toInt ≤ 9) then (if M < 6 then nI (M + 1) else -3) else -1) (fun _ t => X10I dC dI G ax T Y fa W0 W1 W2 N B N1 B1 N2 B2 K S (if ((0 ≤ i.toInt ∧ i.toInt < ((N : Nat) : Int)) ∧ 0 ≤ d.toInt ∧ d.toInt ≤ 9) ∧ M < 6 then M + 1 else M) E Z O0 O1 O2 CE (if ((0 ≤ i.toInt ∧ i.toInt < ((N : Nat) : Int)) ∧ 0 ≤ d.toInt ∧ d.toInt ≤ 9) ∧ M < 6 then upd (upd MR (2 * M) i) (2 * M + 1) d else MR) t.heap) (adX 0 112 ax sz)) 0 0 (adX 0 112 ax sz) := by
  refine Met.pick (fun a st hp => ?_)
  obtain ⟨e0, hsz, hI, hK⟩ := hp
  subst hsz
  have hI0 := hI
  unfold X10I at hI
  obtain ⟨p0, p1, p2, p3, p4, p5, p6, p7, p8, p9, p10, p11, p12, p13, p14, p15, p16, hX⟩ := hI
  have hXV := hX
  have hX := hXV.1
  unfold X10Pr at p0
  obtain ⟨zi0_13, q0⟩ := p0
  unfold X10P1 at p4
  obtain ⟨zn11_2, zf12, zf13, zf14, zf15, zf16, zf17, p4j0, p4j1, p4j2, p4j3, p4j4, q11, q12, q13, q14, q15, q16, q17⟩ := p4
  unfold X10P9 at p14
  obtain ⟨zf75, zf76, p14j0, p14j1, q74, q75, q76⟩ := p14
  refine ⟨_, _, _, c_X10_markR l dC dI G _ (ax 0) (ax 1) (ax 11) (ax 18) (ax 25) (ax 40) (ax 41) (ax 44) (ax 68) (ax 69) (ax 74) (ax 77) (ax 102) (ax 12) (ax 13) (ax 14) (ax 15) (ax 16) (ax 17) N B zn11_2 (ax 75) (ax 76) M fa zi0_13 i d zf75 zf76 (by first | with_reducible assumption | assumption) (by first | with_reducible assumption | assumption) (by first | with_reducible assumption | assumption) (by first | with_reducible assumption | assumption), ⟨e0, rfl, (vpc q0 (vpc q11 (vpc q74 (vpc q75 (vpc q76 va_nilP))))), hK, vD_ix hi [0, 11, 74, 75, 76] (by rfl) (by decide) (by decide)⟩, ad_ix [0, 11, 74, 75, 76] (by rfl) (by decide), fun o t hq => ?_⟩
  obtain ⟨⟨r, ⟨u0, u1, u2⟩, ho, ⟨hr, hu⟩, hP1, -⟩, hF⟩ := hq
  have FR : ∀ lo hi' : Nat, hi' ≤ 129 → ([0, 11, 74, 75, 76] : List Nat).all (fun x => decide (x < lo) || decide (hi' ≤ x)) = true → ∀ j : Nat, lo ≤ j → j < hi' → ax j < st.heap.size → t.heap[ax j]? = st.heap[ax j]? := fun lo hi' h1 h2 => fr_ix hi h1 hF.2 [0, 11, 74, 75, 76] (by rfl) (by decide) h2
  have xM : (if ((0 ≤ i.toInt ∧ i.toInt < ((N : Nat) : Int)) ∧ 0 ≤ d.toInt ∧ d.toInt ≤ 9) ∧ M < 6 then M + 1 else M) = u0 := Eq.symm (hu.1.1)
  subst xM
  have np0 : X10Pr dC dI G ax fa t.heap := ⟨zi0_13, hP1 0 _ rfl⟩
  have np4 : X10P1 dC dI G ax W0 N B O0 t.heap := ⟨zn11_2, zf12, zf13, zf14, zf15, zf16, zf17, p4j0, p4j1, p4j2, p4j3, p4j4, hP1 1 _ rfl, q12.kept (FR 12 13 (by decide) (by decide) 12 (by decide) (by decide) q12.lt), q13.kept (FR 13 14 (by decide) (by decide) 13 (by decide) (by decide) q13.lt), q14.kept (FR 14 15 (by decide) (by decide) 14 (by decide) (by decide) q14.lt), q15.kept (FR 15 16 (by decide) (by decide) 15 (by decide) (by decide) q15.lt), q16.kept (FR 16 17 (by decide) (by decide) 16 (by decide) (by decide) q16.lt), q17.kept (FR 17 18 (by decide) (by decide) 17 (by decide) (by decide) q17.lt)⟩
  have np14 : X10P9 dC dI G ax (if ((0 ≤ i.toInt ∧ i.toInt < ((N : Nat) : Int)) ∧ 0 ≤ d.toInt ∧ d.toInt ≤ 9) ∧ M < 6 then M + 1 else M) (if ((0 ≤ i.toInt ∧ i.toInt < ((N : Nat) : Int)) ∧ 0 ≤ d.toInt ∧ d.toInt ≤ 9) ∧ M < 6 then upd (upd MR (2 * M) i) (2 * M + 1) d else MR) t.heap := ⟨u1, u2, (by rw [hu.2.1, hu.2.2]; exact CMk.add (by first | with_reducible assumption | assumption)), (by first | omega | exact hu | exact hu.1 | exact hu.1.1 | exact hu.1.2 | exact hu.2 | exact hu.1.1.1 | exact hu.1.1.2 | exact fd_nn (by first | with_reducible assumption | assumption) | (split at hu <;> omega) | (split <;> omega) | exact E_inv (by first | with_reducible assumption | assumption)), hP1 2 _ rfl, hP1 3 _ rfl, hP1 4 _ rfl⟩
  exact ⟨⟨r, (), ho, hr, ⟨np0, p1.kept (FR 1 2 (by decide) (by decide)), p2.kept (FR 2 4 (by decide) (by decide)), p3.kept (FR 4 11 (by decide) (by decide)), np4, p5.kept (FR 18 25 (by decide) (by decide)), p6.kept (FR 25 26 (by decide) (by decide)), p7.kept (FR 26 33 (by decide) (by decide)), p8.kept (FR 33 40 (by decide) (by decide)), p9.kept (FR 40 41 (by decide) (by decide)), p10.kept (FR 41 44 (by decide) (by decide)), p11.kept (FR 44 68 (by decide) (by decide)), p12.kept (FR 68 69 (by decide) (by decide)), p13.kept (FR 69 74 (by decide) (by decide)), np14, p15.kept (FR 77 102 (by decide) (by decide)), p16.kept (FR 102 112 (by decide) (by decide)), ⟨hX, hXV.2⟩⟩⟩, hF.wide (ad_ix [0, 11, 74, 75, 76] (by rfl) (by decide))⟩

set_option maxHeartbeats 1000000 in
set_option maxRecDepth 100000 in
theorem k_X10_wipeE (l : Launch) (dC : Nat → ClassId) (dI : Nat → Nat → Nat) (G : Nat → ClassId) (sz : Nat) (ax : Nat → Nat) (hi : adInj 129 ax) (T : Nat) (Y : Nat → Int32) (fa : Int32) (W0 : Nat → Int32) (W1 : Nat → Int32) (W2 : Nat → Int32) (N : Nat) (B : Nat) (N1 : Nat) (B1 : Nat) (N2 : Nat) (B2 : Nat) (K : Nat → Int32) (S : Nat) (M : Nat) (E : Nat → Int32) (Z : Nat → Int32) (O0 : Nat → Int32) (O1 : Nat → Int32) (O2 : Nat → Int32) (CE : Nat → Int32) (MR : Nat → Int32) (n : Int32) : Met l yX10_wipe (Cond.code yX10_wipe cX10_wipe 3 (some .int) :: GT) ({ frames := 0, cells := 0, slots := 0, locals := 0 } : Room) (PcI [.ref (ax 0), .int n] dC dI G (X10I dC dI G ax T Y fa W0 W1 W2 N B N1 B1 N2 B2 K S M E Z O0 O1 O2 CE MR) sz) (va_Qi (fun (r : Int32) (_ : Unit) => r = if 0 ≤ n.toInt ∧ n.toInt ≤ ((M : Nat) : Int) then nI M else -1) (fun _ t => X10I dC dI G ax T Y fa W0 W1 W2 N B N1 B1 N2 B2 K S (if 0 ≤ n.toInt ∧ n.toInt ≤ ((M : Nat) : Int) then n.toNatClampNeg else M) E Z O0 O1 O2 CE MR t.heap) (adX 0 112 ax sz)) 0 0 (adX 0 112 ax sz) := by
  refine Met.pick (fun a st hp => ?_)
  obtain ⟨e0, hsz, hI, hK⟩ := hp
  subst hsz
  have hI0 := hI
  unfold X10I at hI
  obtain ⟨p0, p1, p2, p3, p4, p5, p6, p7, p8, p9, p10, p11, p12, p13, p14, p15, p16, hX⟩ := hI
  have hXV := hX
  have hX := hXV.1
  unfold X10Pr at p0
  obtain ⟨zi0_13, q0⟩ := p0
  unfold X10P9 at p14
  obtain ⟨zf75, zf76, p14j0, p14j1, q74, q75, q76⟩ := p14
  refine ⟨_, _, _, c_X10_wipeE l dC dI G _ (ax 0) (ax 1) (ax 11) (ax 18) (ax 25) (ax 40) (ax 41) (ax 44) (ax 68) (ax 69) (ax 74) (ax 77) (ax 102) (ax 75) (ax 76) M fa zi0_13 n (by first | with_reducible assumption | assumption), ⟨e0, rfl, (vpc q0 (vpc q74 va_nilP)), hK, vD_ix hi [0, 74] (by rfl) (by decide) (by decide)⟩, ad_ix [0, 74] (by rfl) (by decide), fun o t hq => ?_⟩
  obtain ⟨⟨r, u1, ho, ⟨hr, hu⟩, hP1, -⟩, hF⟩ := hq
  have FR : ∀ lo hi' : Nat, hi' ≤ 129 → ([0, 74] : List Nat).all (fun x => decide (x < lo) || decide (hi' ≤ x)) = true → ∀ j : Nat, lo ≤ j → j < hi' → ax j < st.heap.size → t.heap[ax j]? = st.heap[ax j]? := fun lo hi' h1 h2 => fr_ix hi h1 hF.2 [0, 74] (by rfl) (by decide) h2
  have xM : (if 0 ≤ n.toInt ∧ n.toInt ≤ ((M : Nat) : Int) then n.toNatClampNeg else M) = u1 := Eq.symm (by first | exact hu | exact hu.1 | exact hu.2 | exact hu.1.1 | exact hu.1.2 | exact hu.2.1.trans (txt_cf (by first | with_reducible assumption | assumption)) | exact hu.2.1.trans (txt_rf (by first | with_reducible assumption | assumption)) | exact hu.1.1.trans lmap_step | omega)
  subst xM
  have np0 : X10Pr dC dI G ax fa t.heap := ⟨zi0_13, hP1 0 _ rfl⟩
  have np14 : X10P9 dC dI G ax (if 0 ≤ n.toInt ∧ n.toInt ≤ ((M : Nat) : Int) then n.toNatClampNeg else M) MR t.heap := ⟨zf75, zf76, (CMk.le (by first | with_reducible assumption | assumption) fg_le), (by first | omega | exact hu | exact hu.1 | exact hu.1.1 | exact hu.1.2 | exact hu.2 | exact hu.1.1.1 | exact hu.1.1.2 | exact fd_nn (by first | with_reducible assumption | assumption) | (split at hu <;> omega) | (split <;> omega) | exact E_inv (by first | with_reducible assumption | assumption)), hP1 1 _ rfl, q75.kept (FR 75 76 (by decide) (by decide) 75 (by decide) (by decide) q75.lt), q76.kept (FR 76 77 (by decide) (by decide) 76 (by decide) (by decide) q76.lt)⟩
  exact ⟨⟨r, (), ho, hr, ⟨np0, p1.kept (FR 1 2 (by decide) (by decide)), p2.kept (FR 2 4 (by decide) (by decide)), p3.kept (FR 4 11 (by decide) (by decide)), p4.kept (FR 11 18 (by decide) (by decide)), p5.kept (FR 18 25 (by decide) (by decide)), p6.kept (FR 25 26 (by decide) (by decide)), p7.kept (FR 26 33 (by decide) (by decide)), p8.kept (FR 33 40 (by decide) (by decide)), p9.kept (FR 40 41 (by decide) (by decide)), p10.kept (FR 41 44 (by decide) (by decide)), p11.kept (FR 44 68 (by decide) (by decide)), p12.kept (FR 68 69 (by decide) (by decide)), p13.kept (FR 69 74 (by decide) (by decide)), np14, p15.kept (FR 77 102 (by decide) (by decide)), p16.kept (FR 102 112 (by decide) (by decide)), ⟨hX, hXV.2⟩⟩⟩, hF.wide (ad_ix [0, 74] (by rfl) (by decide))⟩

set_option maxHeartbeats 1000000 in
set_option maxRecDepth 100000 in
theorem k_X10_paths (l : Launch) (dC : Nat → ClassId) (dI : Nat → Nat → Nat) (G : Nat → ClassId) (sz : Nat) (ax : Nat → Nat) (hi : adInj 129 ax) (T : Nat) (Y : Nat → Int32) (fa : Int32) (W0 : Nat → Int32) (W1 : Nat → Int32) (W2 : Nat → Int32) (N : Nat) (B : Nat) (N1 : Nat) (B1 : Nat) (N2 : Nat) (B2 : Nat) (K : Nat → Int32) (S : Nat) (M : Nat) (E : Nat → Int32) (Z : Nat → Int32) (O0 : Nat → Int32) (O1 : Nat → Int32) (O2 : Nat → Int32) (CE : Nat → Int32) (MR : Nat → Int32) : Met l yX10_paths (Cond.code yX10_paths cX10_paths 1 (some .int) :: GT) ({ frames := 5, cells := 0, slots := 0, locals := 111 } : Room) (PcI [.ref (ax 0)] dC dI G (X10I dC dI G ax T Y fa W0 W1 W2 N B N1 B1 N2 B2 K S M E Z O0 O1 O2 CE MR) sz) (va_Qi (fun (r : Int32) (_ : Unit) => True) (fun _ t => X10I dC dI G ax T Y fa W0 W1 W2 N B N1 B1 N2 B2 K S M E Z O0 O1 O2 CE MR t.heap) (adX 0 112 ax sz)) 0 0 (adX 0 112 ax sz) := by
  refine Met.pick (fun a st hp => ?_)
  obtain ⟨e0, hsz, hI, hK⟩ := hp
  subst hsz
  have hI0 := hI
  unfold X10I at hI
  obtain ⟨p0, p1, p2, p3, p4, p5, p6, p7, p8, p9, p10, p11, p12, p13, p14, p15, p16, hX⟩ := hI
  have hXV := hX
  have hX := hXV.1
  unfold X10Pr at p0
  obtain ⟨zi0_13, q0⟩ := p0
  unfold X10P1 at p4
  obtain ⟨zn11_2, zf12, zf13, zf14, zf15, zf16, zf17, p4j0, p4j1, p4j2, p4j3, p4j4, q11, q12, q13, q14, q15, q16, q17⟩ := p4
  unfold X10P9 at p14
  obtain ⟨zf75, zf76, p14j0, p14j1, q74, q75, q76⟩ := p14
  unfold X10P10 at p15
  obtain ⟨zi77_0, zF80, zF91, q77, q78, q79, q80, q91⟩ := p15
  refine ⟨_, _, _, c_X10_paths l dC dI G _ (ax 0) (ax 1) (ax 11) (ax 18) (ax 25) (ax 40) (ax 41) (ax 44) (ax 68) (ax 69) (ax 74) (ax 77) (ax 102) (ax 78) (ax 79) (ax 12) (ax 13) (ax 14) (ax 15) (ax 16) (ax 17) N B zn11_2 (ax 75) (ax 76) M fa zi0_13 zi77_0 zf12 zf13 zf14 zf15 zf16 zf17 zf75 zf76 (fun iq => ax (80 + iq)) (fun iq => ax (91 + iq)) zF80 zF91 (by first | with_reducible assumption | assumption) (by first | with_reducible assumption | assumption) (by first | with_reducible assumption | assumption) (by first | with_reducible assumption | assumption), ⟨e0, rfl, (va_P.app (vpc q0 (vpc q77 (vpc q78 (vpc q79 (vpc q11 (vpc q12 (vpc q13 (vpc q14 (vpc q15 (vpc q16 (vpc q17 (vpc q74 (vpc q75 (vpc q76 va_nilP)))))))))))))) (va_P.app q80 (va_P.app q91 va_nilP))), hK, vD_ix hi [0, 77, 78, 79, 11, 12, 13, 14, 15, 16, 17, 74, 75, 76, 80, 81, 82, 83, 84, 85, 86, 87, 88, 89, 90, 91, 92, 93, 94, 95, 96, 97, 98, 99, 100, 101] (by rfl) (by decide) (by decide)⟩, ad_ix [0, 77, 78, 79, 11, 12, 13, 14, 15, 16, 17, 74, 75, 76, 80, 81, 82, 83, 84, 85, 86, 87, 88, 89, 90, 91, 92, 93, 94, 95, 96, 97, 98, 99, 100, 101] (by rfl) (by decide), fun o t hq => ?_⟩
  obtain ⟨⟨r, ⟨u0, u1, u2⟩, ho, ⟨hr, hu⟩, hP1, -⟩, hF⟩ := hq
  have FR : ∀ lo hi' : Nat, hi' ≤ 129 → ([0, 77, 78, 79, 11, 12, 13, 14, 15, 16, 17, 74, 75, 76, 80, 81, 82, 83, 84, 85, 86, 87, 88, 89, 90, 91, 92, 93, 94, 95, 96, 97, 98, 99, 100, 101] : List Nat).all (fun x => decide (x < lo) || decide (hi' ≤ x)) = true → ∀ j : Nat, lo ≤ j → j < hi' → ax j < st.heap.size → t.heap[ax j]? = st.heap[ax j]? := fun lo hi' h1 h2 => fr_ix hi h1 hF.2 [0, 77, 78, 79, 11, 12, 13, 14, 15, 16, 17, 74, 75, 76, 80, 81, 82, 83, 84, 85, 86, 87, 88, 89, 90, 91, 92, 93, 94, 95, 96, 97, 98, 99, 100, 101] (by rfl) (by decide) h2
  have np0 : X10Pr dC dI G ax fa t.heap := ⟨zi0_13, hP1 0 _ rfl⟩
  have np4 : X10P1 dC dI G ax W0 N B O0 t.heap := ⟨zn11_2, zf12, zf13, zf14, zf15, zf16, zf17, p4j0, p4j1, p4j2, p4j3, p4j4, hP1 4 _ rfl, hP1 5 _ rfl, hP1 6 _ rfl, hP1 7 _ rfl, hP1 8 _ rfl, hP1 9 _ rfl, hP1 10 _ rfl⟩
  have np14 : X10P9 dC dI G ax M MR t.heap := ⟨zf75, zf76, p14j0, p14j1, hP1 11 _ rfl, hP1 12 _ rfl, hP1 13 _ rfl⟩
  have np15 : X10P10 dC dI G ax t.heap := ⟨u0, u1, u2, hP1 1 _ rfl, hP1 2 _ rfl, hP1 3 _ rfl, vp_mid hP1, vp_mid2 hP1⟩
  exact ⟨⟨r, (), ho, trivial, ⟨np0, p1.kept (FR 1 2 (by decide) (by decide)), p2.kept (FR 2 4 (by decide) (by decide)), p3.kept (FR 4 11 (by decide) (by decide)), np4, p5.kept (FR 18 25 (by decide) (by decide)), p6.kept (FR 25 26 (by decide) (by decide)), p7.kept (FR 26 33 (by decide) (by decide)), p8.kept (FR 33 40 (by decide) (by decide)), p9.kept (FR 40 41 (by decide) (by decide)), p10.kept (FR 41 44 (by decide) (by decide)), p11.kept (FR 44 68 (by decide) (by decide)), p12.kept (FR 68 69 (by decide) (by decide)), p13.kept (FR 69 74 (by decide) (by decide)), np14, np15, p16.kept (FR 102 112 (by decide) (by decide)), ⟨hX, hXV.2⟩⟩⟩, hF.wide (ad_ix [0, 77, 78, 79, 11, 12, 13, 14, 15, 16, 17, 74, 75, 76, 80, 81, 82, 83, 84, 85, 86, 87, 88, 89, 90, 91, 92, 93, 94, 95, 96, 97, 98, 99, 100, 101] (by rfl) (by decide))⟩

set_option maxHeartbeats 1000000 in
set_option maxRecDepth 100000 in
theorem k_X10_eye (l : Launch) (dC : Nat → ClassId) (dI : Nat → Nat → Nat) (G : Nat → ClassId) (sz : Nat) (ax : Nat → Nat) (hi : adInj 129 ax) (T : Nat) (Y : Nat → Int32) (fa : Int32) (W0 : Nat → Int32) (W1 : Nat → Int32) (W2 : Nat → Int32) (N : Nat) (B : Nat) (N1 : Nat) (B1 : Nat) (N2 : Nat) (B2 : Nat) (K : Nat → Int32) (S : Nat) (M : Nat) (E : Nat → Int32) (Z : Nat → Int32) (O0 : Nat → Int32) (O1 : Nat → Int32) (O2 : Nat → Int32) (CE : Nat → Int32) (MR : Nat → Int32) (d : Int32) : Met l yX10_eye (Cond.code yX10_eye cX10_eye 4 (some .int) :: GT) ({ frames := 5, cells := 0, slots := 0, locals := 111 } : Room) (PcI [.ref (ax 0), .int d] dC dI G (X10I dC dI G ax T Y fa W0 W1 W2 N B N1 B1 N2 B2 K S M E Z O0 O1 O2 CE MR) sz) (va_Qi (fun (r : Int32) (_ : Unit) => True) (fun _ t => X10I dC dI G ax T Y fa W0 W1 W2 N B N1 B1 N2 B2 K S M E Z O0 O1 O2 CE MR t.heap) (adX 0 112 ax sz)) 0 0 (adX 0 112 ax sz) := by
  refine Met.pick (fun a st hp => ?_)
  obtain ⟨e0, hsz, hI, hK⟩ := hp
  subst hsz
  have hI0 := hI
  unfold X10I at hI
  obtain ⟨p0, p1, p2, p3, p4, p5, p6, p7, p8, p9, p10, p11, p12, p13, p14, p15, p16, hX⟩ := hI
  have hXV := hX
  have hX := hXV.1
  unfold X10Pr at p0
  obtain ⟨zi0_13, q0⟩ := p0
  unfold X10P1 at p4
  obtain ⟨zn11_2, zf12, zf13, zf14, zf15, zf16, zf17, p4j0, p4j1, p4j2, p4j3, p4j4, q11, q12, q13, q14, q15, q16, q17⟩ := p4
  unfold X10P9 at p14
  obtain ⟨zf75, zf76, p14j0, p14j1, q74, q75, q76⟩ := p14
  unfold X10P10 at p15
  obtain ⟨zi77_0, zF80, zF91, q77, q78, q79, q80, q91⟩ := p15
  refine ⟨_, _, _, c_X10_eye l dC dI G _ (ax 0) (ax 1) (ax 11) (ax 18) (ax 25) (ax 40) (ax 41) (ax 44) (ax 68) (ax 69) (ax 74) (ax 77) (ax 102) (ax 78) (ax 79) (ax 12) (ax 13) (ax 14) (ax 15) (ax 16) (ax 17) N B zn11_2 (ax 75) (ax 76) M fa zi0_13 d zi77_0 zf12 zf13 zf14 zf15 zf16 zf17 zf75 zf76 (fun iq => ax (80 + iq)) (fun iq => ax (91 + iq)) zF80 zF91 (by first | with_reducible assumption | assumption) (by first | with_reducible assumption | assumption) (by first | with_reducible assumption | assumption) (by first | with_reducible assumption | assumption), ⟨e0, rfl, (va_P.app (vpc q0 (vpc q77 (vpc q78 (vpc q79 (vpc q11 (vpc q12 (vpc q13 (vpc q14 (vpc q15 (vpc q16 (vpc q17 (vpc q74 (vpc q75 (vpc q76 va_nilP)))))))))))))) (va_P.app q80 (va_P.app q91 va_nilP))), hK, vD_ix hi [0, 77, 78, 79, 11, 12, 13, 14, 15, 16, 17, 74, 75, 76, 80, 81, 82, 83, 84, 85, 86, 87, 88, 89, 90, 91, 92, 93, 94, 95, 96, 97, 98, 99, 100, 101] (by rfl) (by decide) (by decide)⟩, ad_ix [0, 77, 78, 79, 11, 12, 13, 14, 15, 16, 17, 74, 75, 76, 80, 81, 82, 83, 84, 85, 86, 87, 88, 89, 90, 91, 92, 93, 94, 95, 96, 97, 98, 99, 100, 101] (by rfl) (by decide), fun o t hq => ?_⟩
  obtain ⟨⟨r, ⟨u0, u1, u2⟩, ho, ⟨hr, hu⟩, hP1, -⟩, hF⟩ := hq
  have FR : ∀ lo hi' : Nat, hi' ≤ 129 → ([0, 77, 78, 79, 11, 12, 13, 14, 15, 16, 17, 74, 75, 76, 80, 81, 82, 83, 84, 85, 86, 87, 88, 89, 90, 91, 92, 93, 94, 95, 96, 97, 98, 99, 100, 101] : List Nat).all (fun x => decide (x < lo) || decide (hi' ≤ x)) = true → ∀ j : Nat, lo ≤ j → j < hi' → ax j < st.heap.size → t.heap[ax j]? = st.heap[ax j]? := fun lo hi' h1 h2 => fr_ix hi h1 hF.2 [0, 77, 78, 79, 11, 12, 13, 14, 15, 16, 17, 74, 75, 76, 80, 81, 82, 83, 84, 85, 86, 87, 88, 89, 90, 91, 92, 93, 94, 95, 96, 97, 98, 99, 100, 101] (by rfl) (by decide) h2
  have np0 : X10Pr dC dI G ax fa t.heap := ⟨zi0_13, hP1 0 _ rfl⟩
  have np4 : X10P1 dC dI G ax W0 N B O0 t.heap := ⟨zn11_2, zf12, zf13, zf14, zf15, zf16, zf17, p4j0, p4j1, p4j2, p4j3, p4j4, hP1 4 _ rfl, hP1 5 _ rfl, hP1 6 _ rfl, hP1 7 _ rfl, hP1 8 _ rfl, hP1 9 _ rfl, hP1 10 _ rfl⟩
  have np14 : X10P9 dC dI G ax M MR t.heap := ⟨zf75, zf76, p14j0, p14j1, hP1 11 _ rfl, hP1 12 _ rfl, hP1 13 _ rfl⟩
  have np15 : X10P10 dC dI G ax t.heap := ⟨u0, u1, u2, hP1 1 _ rfl, hP1 2 _ rfl, hP1 3 _ rfl, vp_mid hP1, vp_mid2 hP1⟩
  exact ⟨⟨r, (), ho, trivial, ⟨np0, p1.kept (FR 1 2 (by decide) (by decide)), p2.kept (FR 2 4 (by decide) (by decide)), p3.kept (FR 4 11 (by decide) (by decide)), np4, p5.kept (FR 18 25 (by decide) (by decide)), p6.kept (FR 25 26 (by decide) (by decide)), p7.kept (FR 26 33 (by decide) (by decide)), p8.kept (FR 33 40 (by decide) (by decide)), p9.kept (FR 40 41 (by decide) (by decide)), p10.kept (FR 41 44 (by decide) (by decide)), p11.kept (FR 44 68 (by decide) (by decide)), p12.kept (FR 68 69 (by decide) (by decide)), p13.kept (FR 69 74 (by decide) (by decide)), np14, np15, p16.kept (FR 102 112 (by decide) (by decide)), ⟨hX, hXV.2⟩⟩⟩, hF.wide (ad_ix [0, 77, 78, 79, 11, 12, 13, 14, 15, 16, 17, 74, 75, 76, 80, 81, 82, 83, 84, 85, 86, 87, 88, 89, 90, 91, 92, 93, 94, 95, 96, 97, 98, 99, 100, 101] (by rfl) (by decide))⟩

set_option maxHeartbeats 1000000 in
set_option maxRecDepth 100000 in
theorem k_X10_sureE (l : Launch) (dC : Nat → ClassId) (dI : Nat → Nat → Nat) (G : Nat → ClassId) (sz : Nat) (ax : Nat → Nat) (hi : adInj 129 ax) (T : Nat) (Y : Nat → Int32) (fa : Int32) (W0 : Nat → Int32) (W1 : Nat → Int32) (W2 : Nat → Int32) (N : Nat) (B : Nat) (N1 : Nat) (B1 : Nat) (N2 : Nat) (B2 : Nat) (K : Nat → Int32) (S : Nat) (M : Nat) (E : Nat → Int32) (Z : Nat → Int32) (O0 : Nat → Int32) (O1 : Nat → Int32) (O2 : Nat → Int32) (CE : Nat → Int32) (MR : Nat → Int32) (what : Int32) : Met l yX10_sure (Cond.code yX10_sure cX10_sure 5 (some .int) :: GT) ({ frames := 5, cells := 0, slots := 0, locals := 112 } : Room) (PcI [.ref (ax 0), .int what] dC dI G (X10I dC dI G ax T Y fa W0 W1 W2 N B N1 B1 N2 B2 K S M E Z O0 O1 O2 CE MR) sz) (va_Qi (fun (r : Int32) (_ : Unit) => r = if (0 ≤ what.toInt ∧ what.toInt ≤ 1) then (if (onS (haO N B W0 O0) (alT MR M) N N (sdN W0)) = 0 then -4 else eyR (fun ib => decide (suM what (haO N B W0 O0) (alT MR M) (sdN W0) N ib = (onS (haO N B W0 O0) (alT MR M) N N (sdN W0)))) N) else -1) (fun _ t => X10I dC dI G ax T Y fa W0 W1 W2 N B N1 B1 N2 B2 K S M E Z O0 O1 O2 CE MR t.heap) (adX 0 112 ax sz)) 0 0 (adX 0 112 ax sz) := by
  refine Met.pick (fun a st hp => ?_)
  obtain ⟨e0, hsz, hI, hK⟩ := hp
  subst hsz
  have hI0 := hI
  unfold X10I at hI
  obtain ⟨p0, p1, p2, p3, p4, p5, p6, p7, p8, p9, p10, p11, p12, p13, p14, p15, p16, hX⟩ := hI
  have hXV := hX
  have hX := hXV.1
  unfold X10Pr at p0
  obtain ⟨zi0_13, q0⟩ := p0
  unfold X10P1 at p4
  obtain ⟨zn11_2, zf12, zf13, zf14, zf15, zf16, zf17, p4j0, p4j1, p4j2, p4j3, p4j4, q11, q12, q13, q14, q15, q16, q17⟩ := p4
  unfold X10P9 at p14
  obtain ⟨zf75, zf76, p14j0, p14j1, q74, q75, q76⟩ := p14
  unfold X10P10 at p15
  obtain ⟨zi77_0, zF80, zF91, q77, q78, q79, q80, q91⟩ := p15
  refine ⟨_, _, _, c_X10_sureE l dC dI G _ (ax 0) (ax 1) (ax 11) (ax 18) (ax 25) (ax 40) (ax 41) (ax 44) (ax 68) (ax 69) (ax 74) (ax 77) (ax 102) (ax 78) (ax 79) (ax 12) (ax 13) (ax 14) (ax 15) (ax 16) (ax 17) N B zn11_2 (ax 75) (ax 76) M fa zi0_13 what zi77_0 zf12 zf13 zf14 zf15 zf16 zf17 zf75 zf76 (fun iq => ax (80 + iq)) (fun iq => ax (91 + iq)) zF80 zF91 (by first | with_reducible assumption | assumption) (by first | with_reducible assumption | assumption) (by first | with_reducible assumption | assumption) (by first | with_reducible assumption | assumption), ⟨e0, rfl, (va_P.app (vpc q0 (vpc q77 (vpc q78 (vpc q79 (vpc q11 (vpc q12 (vpc q13 (vpc q14 (vpc q15 (vpc q16 (vpc q17 (vpc q74 (vpc q75 (vpc q76 va_nilP)))))))))))))) (va_P.app q80 (va_P.app q91 va_nilP))), hK, vD_ix hi [0, 77, 78, 79, 11, 12, 13, 14, 15, 16, 17, 74, 75, 76, 80, 81, 82, 83, 84, 85, 86, 87, 88, 89, 90, 91, 92, 93, 94, 95, 96, 97, 98, 99, 100, 101] (by rfl) (by decide) (by decide)⟩, ad_ix [0, 77, 78, 79, 11, 12, 13, 14, 15, 16, 17, 74, 75, 76, 80, 81, 82, 83, 84, 85, 86, 87, 88, 89, 90, 91, 92, 93, 94, 95, 96, 97, 98, 99, 100, 101] (by rfl) (by decide), fun o t hq => ?_⟩
  obtain ⟨⟨r, ⟨u0, u1, u2⟩, ho, ⟨hr, hu⟩, hP1, -⟩, hF⟩ := hq
  have FR : ∀ lo hi' : Nat, hi' ≤ 129 → ([0, 77, 78, 79, 11, 12, 13, 14, 15, 16, 17, 74, 75, 76, 80, 81, 82, 83, 84, 85, 86, 87, 88, 89, 90, 91, 92, 93, 94, 95, 96, 97, 98, 99, 100, 101] : List Nat).all (fun x => decide (x < lo) || decide (hi' ≤ x)) = true → ∀ j : Nat, lo ≤ j → j < hi' → ax j < st.heap.size → t.heap[ax j]? = st.heap[ax j]? := fun lo hi' h1 h2 => fr_ix hi h1 hF.2 [0, 77, 78, 79, 11, 12, 13, 14, 15, 16, 17, 74, 75, 76, 80, 81, 82, 83, 84, 85, 86, 87, 88, 89, 90, 91, 92, 93, 94, 95, 96, 97, 98, 99, 100, 101] (by rfl) (by decide) h2
  have np0 : X10Pr dC dI G ax fa t.heap := ⟨zi0_13, hP1 0 _ rfl⟩
  have np4 : X10P1 dC dI G ax W0 N B O0 t.heap := ⟨zn11_2, zf12, zf13, zf14, zf15, zf16, zf17, p4j0, p4j1, p4j2, p4j3, p4j4, hP1 4 _ rfl, hP1 5 _ rfl, hP1 6 _ rfl, hP1 7 _ rfl, hP1 8 _ rfl, hP1 9 _ rfl, hP1 10 _ rfl⟩
  have np14 : X10P9 dC dI G ax M MR t.heap := ⟨zf75, zf76, p14j0, p14j1, hP1 11 _ rfl, hP1 12 _ rfl, hP1 13 _ rfl⟩
  have np15 : X10P10 dC dI G ax t.heap := ⟨u0, u1, u2, hP1 1 _ rfl, hP1 2 _ rfl, hP1 3 _ rfl, vp_mid hP1, vp_mid2 hP1⟩
  exact ⟨⟨r, (), ho, hr.trans (sv_c (by first | with_reducible assumption | assumption) (by first | with_reducible assumption | assumption) (by first | with_reducible assumption | assumption) hXV.2.1 (by first | with_reducible assumption | assumption) (by first | with_reducible assumption | assumption) (by first | with_reducible assumption | assumption)), ⟨np0, p1.kept (FR 1 2 (by decide) (by decide)), p2.kept (FR 2 4 (by decide) (by decide)), p3.kept (FR 4 11 (by decide) (by decide)), np4, p5.kept (FR 18 25 (by decide) (by decide)), p6.kept (FR 25 26 (by decide) (by decide)), p7.kept (FR 26 33 (by decide) (by decide)), p8.kept (FR 33 40 (by decide) (by decide)), p9.kept (FR 40 41 (by decide) (by decide)), p10.kept (FR 41 44 (by decide) (by decide)), p11.kept (FR 44 68 (by decide) (by decide)), p12.kept (FR 68 69 (by decide) (by decide)), p13.kept (FR 69 74 (by decide) (by decide)), np14, np15, p16.kept (FR 102 112 (by decide) (by decide)), ⟨hX, hXV.2⟩⟩⟩, hF.wide (ad_ix [0, 77, 78, 79, 11, 12, 13, 14, 15, 16, 17, 74, 75, 76, 80, 81, 82, 83, 84, 85, 86, 87, 88, 89, 90, 91, 92, 93, 94, 95, 96, 97, 98, 99, 100, 101] (by rfl) (by decide))⟩

set_option maxHeartbeats 1000000 in
set_option maxRecDepth 100000 in
theorem k_X10_keepW (l : Launch) (dC : Nat → ClassId) (dI : Nat → Nat → Nat) (G : Nat → ClassId) (sz : Nat) (ax : Nat → Nat) (hi : adInj 129 ax) (T : Nat) (Y : Nat → Int32) (fa : Int32) (W0 : Nat → Int32) (W1 : Nat → Int32) (W2 : Nat → Int32) (N : Nat) (B : Nat) (N1 : Nat) (B1 : Nat) (N2 : Nat) (B2 : Nat) (K : Nat → Int32) (S : Nat) (M : Nat) (E : Nat → Int32) (Z : Nat → Int32) (O0 : Nat → Int32) (O1 : Nat → Int32) (O2 : Nat → Int32) (CE : Nat → Int32) (MR : Nat → Int32) (k : Int32) : Met l yX10_keep (Cond.code yX10_keep cX10_keep 3 (some .int) :: GT) ({ frames := 2, cells := 0, slots := 0, locals := 121 } : Room) (PcI [.ref (ax 0), .int k] dC dI G (X10I dC dI G ax T Y fa W0 W1 W2 N B N1 B1 N2 B2 K S M E Z O0 O1 O2 CE MR) sz) (va_Qi (fun (r : Int32) (_ : Unit) => r = if (0 ≤ k.toInt ∧ k.toInt < 2) then (if K k.toNatClampNeg = 0 then 0 else 1) else -1) (fun _ t => X10I dC dI G ax T Y fa W0 (if k = 0 then W0 else W1) (if k = 1 then W0 else W2) N B (if k = 0 then N else N1) (if k = 0 then B else B1) (if k = 1 then N else N2) (if k = 1 then B else B2) (if (0 ≤ k.toInt ∧ k.toInt < 2) then upd K k.toNatClampNeg 1 else K) S M E Z O0 (if k = 0 then O0 else O1) (if k = 1 then O0 else O2) CE MR t.heap) (adX 0 112 ax sz)) 0 0 (adX 0 112 ax sz) := by
  refine Met.pick (fun a st hp => ?_)
  obtain ⟨e0, hsz, hI, hK⟩ := hp
  subst hsz
  have hI0 := hI
  unfold X10I at hI
  obtain ⟨p0, p1, p2, p3, p4, p5, p6, p7, p8, p9, p10, p11, p12, p13, p14, p15, p16, hX⟩ := hI
  have hXV := hX
  have hX := hXV.1
  unfold X10Pr at p0
  obtain ⟨zi0_13, q0⟩ := p0
  unfold X10P1 at p4
  obtain ⟨zn11_2, zf12, zf13, zf14, zf15, zf16, zf17, p4j0, p4j1, p4j2, p4j3, p4j4, q11, q12, q13, q14, q15, q16, q17⟩ := p4
  unfold X10P3 at p6
  have q25 := p6
  unfold X10P3_0 at p7
  obtain ⟨zn26_2, zf27, zf28, zf29, zf30, zf31, zf32, p7j0, p7j1, p7j2, p7j3, p7j4, q26, q27, q28, q29, q30, q31, q32⟩ := p7
  unfold X10P3_1 at p8
  obtain ⟨zn33_2, zf34, zf35, zf36, zf37, zf38, zf39, p8j0, p8j1, p8j2, p8j3, p8j4, q33, q34, q35, q36, q37, q38, q39⟩ := p8
  unfold X10P4 at p9
  have q40 := p9
  refine ⟨_, _, _, c_X10_keepW l dC dI G _ (ax 0) (ax 1) (ax 11) (ax 18) (ax 25) (ax 40) (ax 41) (ax 44) (ax 68) (ax 69) (ax 74) (ax 77) (ax 102) (ax 12) (ax 13) (ax 14) (ax 15) (ax 16) (ax 17) N B zn11_2 (ax 26) (ax 33) (ax 27) (ax 28) (ax 29) (ax 30) (ax 31) (ax 32) (ax 34) (ax 35) (ax 36) (ax 37) (ax 38) (ax 39) N1 B1 zn26_2 N2 B2 zn33_2 fa zi0_13 k zf12 zf13 zf14 zf15 zf16 zf17 K zf27 zf28 zf29 zf30 zf31 zf32 zf34 zf35 zf36 zf37 zf38 zf39 (by first | with_reducible assumption | assumption) (by first | with_reducible assumption | assumption) (by first | with_reducible assumption | assumption) (by first | with_reducible assumption | assumption) (by first | with_reducible assumption | assumption) (by first | with_reducible assumption | assumption) (by first | with_reducible assumption | assumption) (by first | with_reducible assumption | assumption) (by first | with_reducible assumption | assumption), ⟨e0, rfl, (vpc q0 (vpc q11 (vpc q12 (vpc q13 (vpc q14 (vpc q15 (vpc q16 (vpc q17 (vpc q25 (vpc q40 (vpc q26 (vpc q27 (vpc q28 (vpc q29 (vpc q30 (vpc q31 (vpc q32 (vpc q33 (vpc q34 (vpc q35 (vpc q36 (vpc q37 (vpc q38 (vpc q39 va_nilP)))))))))))))))))))))))), hK, vD_ix hi [0, 11, 12, 13, 14, 15, 16, 17, 25, 40, 26, 27, 28, 29, 30, 31, 32, 33, 34, 35, 36, 37, 38, 39] (by rfl) (by decide) (by decide)⟩, ad_ix [0, 11, 12, 13, 14, 15, 16, 17, 25, 40, 26, 27, 28, 29, 30, 31, 32, 33, 34, 35, 36, 37, 38, 39] (by rfl) (by decide), fun o t hq => ?_⟩
  obtain ⟨⟨r, ⟨u0, u1, u2, u3, u4, u5, u6, u7, u8, u9, u10, u11, u12, u13, u14, u15, u16, u17, u18⟩, ho, ⟨hr, hu⟩, hP1, -⟩, hF⟩ := hq
  have FR : ∀ lo hi' : Nat, hi' ≤ 129 → ([0, 11, 12, 13, 14, 15, 16, 17, 25, 40, 26, 27, 28, 29, 30, 31, 32, 33, 34, 35, 36, 37, 38, 39] : List Nat).all (fun x => decide (x < lo) || decide (hi' ≤ x)) = true → ∀ j : Nat, lo ≤ j → j < hi' → ax j < st.heap.size → t.heap[ax j]? = st.heap[ax j]? := fun lo hi' h1 h2 => fr_ix hi h1 hF.2 [0, 11, 12, 13, 14, 15, 16, 17, 25, 40, 26, 27, 28, 29, 30, 31, 32, 33, 34, 35, 36, 37, 38, 39] (by rfl) (by decide) h2
  have xN1 : (if k = 0 then N else N1) = u0 := Eq.symm (hu.2.2.1)
  subst xN1
  have xB1 : (if k = 0 then B else B1) = u1 := Eq.symm (hu.2.2.2.1)
  subst xB1
  have xN2 : (if k = 1 then N else N2) = u9 := Eq.symm (hu.2.2.2.2.1)
  subst xN2
  have xB2 : (if k = 1 then B else B2) = u10 := Eq.symm (hu.2.2.2.2.2.1)
  subst xB2
  have y40 : (if (0 ≤ k.toInt ∧ k.toInt < 2) then upd K k.toNatClampNeg 1 else K) = u18 := Eq.symm (hu.2.1)
  subst y40
  have hT := hu.2
  replace hu := hu.1
  have np0 : X10Pr dC dI G ax fa t.heap := ⟨zi0_13, hP1 0 _ rfl⟩
  have np4 : X10P1 dC dI G ax W0 N B O0 t.heap := ⟨zn11_2, zf12, zf13, zf14, zf15, zf16, zf17, p4j0, p4j1, p4j2, p4j3, p4j4, hP1 1 _ rfl, hP1 2 _ rfl, hP1 3 _ rfl, hP1 4 _ rfl, hP1 5 _ rfl, hP1 6 _ rfl, hP1 7 _ rfl⟩
  have np6 : X10P3 dC dI G ax t.heap := hP1 8 _ rfl
  have np7 : X10P3_0 dC dI G ax (if k = 0 then W0 else W1) (if k = 0 then N else N1) (if k = 0 then B else B1) (if k = 0 then O0 else O1) t.heap := ⟨u2, u3, u4, u5, u6, u7, u8, (by rw [hT.2.2.2.2.2.1, hT.2.2.2.2.2.2.1, hT.2.2.2.2.2.2.2.1, hT.2.2.2.2.2.2.2.2.2.1, hT.2.2.2.2.2.2.2.2.2.2.1, hT.2.2.2.2.2.2.2.2.2.2.2.1]; exact CR.kp (by first | with_reducible assumption | assumption) (by first | with_reducible assumption | assumption) (by first | with_reducible assumption | assumption) (by first | with_reducible assumption | assumption)), (by rw [hT.2.2.2.2.2.2.2.2.1]; exact OR.kp (by first | with_reducible assumption | assumption) (by first | with_reducible assumption | assumption)), (by first | omega | exact hu | exact hu.1 | exact hu.1.1 | exact hu.1.2 | exact hu.2 | exact hu.1.1.1 | exact hu.1.1.2 | exact fd_nn (by first | with_reducible assumption | assumption) | (split at hu <;> omega) | (split <;> omega) | exact E_inv (by first | with_reducible assumption | assumption)), (by first | omega | exact hu | exact hu.1 | exact hu.1.1 | exact hu.1.2 | exact hu.2 | exact hu.1.1.1 | exact hu.1.1.2 | exact fd_nn (by first | with_reducible assumption | assumption) | (split at hu <;> omega) | (split <;> omega) | exact E_inv (by first | with_reducible assumption | assumption)), (by first | omega | exact hu | exact hu.1 | exact hu.1.1 | exact hu.1.2 | exact hu.2 | exact hu.1.1.1 | exact hu.1.1.2 | exact fd_nn (by first | with_reducible assumption | assumption) | (split at hu <;> omega) | (split <;> omega) | exact E_inv (by first | with_reducible assumption | assumption)), hP1 10 _ rfl, hP1 11 _ rfl, hP1 12 _ rfl, hP1 13 _ rfl, hP1 14 _ rfl, hP1 15 _ rfl, hP1 16 _ rfl⟩
  have np8 : X10P3_1 dC dI G ax (if k = 1 then W0 else W2) (if k = 1 then N else N2) (if k = 1 then B else B2) (if k = 1 then O0 else O2) t.heap := ⟨u11, u12, u13, u14, u15, u16, u17, (by rw [hT.2.2.2.2.2.2.2.2.2.2.2.2.1, hT.2.2.2.2.2.2.2.2.2.2.2.2.2.1, hT.2.2.2.2.2.2.2.2.2.2.2.2.2.2.1, hT.2.2.2.2.2.2.2.2.2.2.2.2.2.2.2.2.1, hT.2.2.2.2.2.2.2.2.2.2.2.2.2.2.2.2.2.1, hT.2.2.2.2.2.2.2.2.2.2.2.2.2.2.2.2.2.2]; exact CR.kp (by first | with_reducible assumption | assumption) (by first | with_reducible assumption | assumption) (by first | with_reducible assumption | assumption) (by first | with_reducible assumption | assumption)), (by rw [hT.2.2.2.2.2.2.2.2.2.2.2.2.2.2.2.1]; exact OR.kp (by first | with_reducible assumption | assumption) (by first | with_reducible assumption | assumption)), (by first | omega | exact hu | exact hu.1 | exact hu.1.1 | exact hu.1.2 | exact hu.2 | exact hu.1.1.1 | exact hu.1.1.2 | exact fd_nn (by first | with_reducible assumption | assumption) | (split at hu <;> omega) | (split <;> omega) | exact E_inv (by first | with_reducible assumption | assumption)), (by first | omega | exact hu | exact hu.1 | exact hu.1.1 | exact hu.1.2 | exact hu.2 | exact hu.1.1.1 | exact hu.1.1.2 | exact fd_nn (by first | with_reducible assumption | assumption) | (split at hu <;> omega) | (split <;> omega) | exact E_inv (by first | with_reducible assumption | assumption)), (by first | omega | exact hu | exact hu.1 | exact hu.1.1 | exact hu.1.2 | exact hu.2 | exact hu.1.1.1 | exact hu.1.1.2 | exact fd_nn (by first | with_reducible assumption | assumption) | (split at hu <;> omega) | (split <;> omega) | exact E_inv (by first | with_reducible assumption | assumption)), hP1 17 _ rfl, hP1 18 _ rfl, hP1 19 _ rfl, hP1 20 _ rfl, hP1 21 _ rfl, hP1 22 _ rfl, hP1 23 _ rfl⟩
  have np9 : X10P4 dC dI G ax (if (0 ≤ k.toInt ∧ k.toInt < 2) then upd K k.toNatClampNeg 1 else K) t.heap := hP1 9 _ rfl
  exact ⟨⟨r, (), ho, hr, ⟨np0, p1.kept (FR 1 2 (by decide) (by decide)), p2.kept (FR 2 4 (by decide) (by decide)), p3.kept (FR 4 11 (by decide) (by decide)), np4, p5.kept (FR 18 25 (by decide) (by decide)), np6, np7, np8, np9, p10.kept (FR 41 44 (by decide) (by decide)), p11.kept (FR 44 68 (by decide) (by decide)), p12.kept (FR 68 69 (by decide) (by decide)), p13.kept (FR 69 74 (by decide) (by decide)), p14.kept (FR 74 77 (by decide) (by decide)), p15.kept (FR 77 102 (by decide) (by decide)), p16.kept (FR 102 112 (by decide) (by decide)), ⟨kp_X hX, kp_V hXV.2⟩⟩⟩, hF.wide (ad_ix [0, 11, 12, 13, 14, 15, 16, 17, 25, 40, 26, 27, 28, 29, 30, 31, 32, 33, 34, 35, 36, 37, 38, 39] (by rfl) (by decide))⟩

set_option maxHeartbeats 1000000 in
set_option maxRecDepth 100000 in
theorem k_X10_backW (l : Launch) (dC : Nat → ClassId) (dI : Nat → Nat → Nat) (G : Nat → ClassId) (sz : Nat) (ax : Nat → Nat) (hi : adInj 129 ax) (T : Nat) (Y : Nat → Int32) (fa : Int32) (W0 : Nat → Int32) (W1 : Nat → Int32) (W2 : Nat → Int32) (N : Nat) (B : Nat) (N1 : Nat) (B1 : Nat) (N2 : Nat) (B2 : Nat) (K : Nat → Int32) (S : Nat) (M : Nat) (E : Nat → Int32) (Z : Nat → Int32) (O0 : Nat → Int32) (O1 : Nat → Int32) (O2 : Nat → Int32) (CE : Nat → Int32) (MR : Nat → Int32) (k : Int32) : Met l yX10_back (Cond.code yX10_back cX10_back 2 (some .int) :: GT) ({ frames := 2, cells := 0, slots := 0, locals := 121 } : Room) (PcI [.ref (ax 0), .int k] dC dI G (X10I dC dI G ax T Y fa W0 W1 W2 N B N1 B1 N2 B2 K S M E Z O0 O1 O2 CE MR) sz) (va_Qi (fun (r : Int32) (_ : Unit) => r = if (0 ≤ k.toInt ∧ k.toInt < 2) then (if K k.toNatClampNeg = 0 then -2 else nI N) else -1) (fun _ t => X10I dC dI G ax T Y fa (bkW k K W0 W1 W2) W1 W2 N B N1 B1 N2 B2 K S M E Z (bkW k K O0 O1 O2) O1 O2 CE MR t.heap) (adX 0 112 ax sz)) 0 0 (adX 0 112 ax sz) := by
  refine Met.pick (fun a st hp => ?_)
  obtain ⟨e0, hsz, hI, hK⟩ := hp
  subst hsz
  have hI0 := hI
  unfold X10I at hI
  obtain ⟨p0, p1, p2, p3, p4, p5, p6, p7, p8, p9, p10, p11, p12, p13, p14, p15, p16, hX⟩ := hI
  have hXV := hX
  have hX := hXV.1
  unfold X10Pr at p0
  obtain ⟨zi0_13, q0⟩ := p0
  unfold X10P1 at p4
  obtain ⟨zn11_2, zf12, zf13, zf14, zf15, zf16, zf17, p4j0, p4j1, p4j2, p4j3, p4j4, q11, q12, q13, q14, q15, q16, q17⟩ := p4
  unfold X10P3 at p6
  have q25 := p6
  unfold X10P3_0 at p7
  obtain ⟨zn26_2, zf27, zf28, zf29, zf30, zf31, zf32, p7j0, p7j1, p7j2, p7j3, p7j4, q26, q27, q28, q29, q30, q31, q32⟩ := p7
  unfold X10P3_1 at p8
  obtain ⟨zn33_2, zf34, zf35, zf36, zf37, zf38, zf39, p8j0, p8j1, p8j2, p8j3, p8j4, q33, q34, q35, q36, q37, q38, q39⟩ := p8
  unfold X10P4 at p9
  have q40 := p9
  refine ⟨_, _, _, c_X10_backW l dC dI G _ (ax 0) (ax 1) (ax 11) (ax 18) (ax 25) (ax 40) (ax 41) (ax 44) (ax 68) (ax 69) (ax 74) (ax 77) (ax 102) (ax 12) (ax 13) (ax 14) (ax 15) (ax 16) (ax 17) N B zn11_2 (ax 26) (ax 33) (ax 27) (ax 28) (ax 29) (ax 30) (ax 31) (ax 32) (ax 34) (ax 35) (ax 36) (ax 37) (ax 38) (ax 39) N1 B1 zn26_2 N2 B2 zn33_2 fa zi0_13 k zf12 zf13 zf14 zf15 zf16 zf17 K zf27 zf28 zf29 zf30 zf31 zf32 zf34 zf35 zf36 zf37 zf38 zf39 (by first | with_reducible assumption | assumption) (by first | with_reducible assumption | assumption) (by first | with_reducible assumption | assumption) (by first | with_reducible assumption | assumption) (by first | with_reducible assumption | assumption) (by first | with_reducible assumption | assumption) (by first | with_reducible assumption | assumption) (by first | with_reducible assumption | assumption) (by first | with_reducible assumption | assumption), ⟨e0, rfl, (vpc q0 (vpc q11 (vpc q12 (vpc q13 (vpc q14 (vpc q15 (vpc q16 (vpc q17 (vpc q25 (vpc q40 (vpc q26 (vpc q27 (vpc q28 (vpc q29 (vpc q30 (vpc q31 (vpc q32 (vpc q33 (vpc q34 (vpc q35 (vpc q36 (vpc q37 (vpc q38 (vpc q39 va_nilP)))))))))))))))))))))))), hK, vD_ix hi [0, 11, 12, 13, 14, 15, 16, 17, 25, 40, 26, 27, 28, 29, 30, 31, 32, 33, 34, 35, 36, 37, 38, 39] (by rfl) (by decide) (by decide)⟩, ad_ix [0, 11, 12, 13, 14, 15, 16, 17, 25, 40, 26, 27, 28, 29, 30, 31, 32, 33, 34, 35, 36, 37, 38, 39] (by rfl) (by decide), fun o t hq => ?_⟩
  obtain ⟨⟨r, ⟨u0, u1, u2, u3, u4, u5, u6, u7, u8⟩, ho, ⟨hr, hu⟩, hP1, -⟩, hF⟩ := hq
  have FR : ∀ lo hi' : Nat, hi' ≤ 129 → ([0, 11, 12, 13, 14, 15, 16, 17, 25, 40, 26, 27, 28, 29, 30, 31, 32, 33, 34, 35, 36, 37, 38, 39] : List Nat).all (fun x => decide (x < lo) || decide (hi' ≤ x)) = true → ∀ j : Nat, lo ≤ j → j < hi' → ax j < st.heap.size → t.heap[ax j]? = st.heap[ax j]? := fun lo hi' h1 h2 => fr_ix hi h1 hF.2 [0, 11, 12, 13, 14, 15, 16, 17, 25, 40, 26, 27, 28, 29, 30, 31, 32, 33, 34, 35, 36, 37, 38, 39] (by rfl) (by decide) h2
  have xN : N = u0 := Eq.symm (hu.2.1.trans (bk_N hX))
  subst xN
  have xB : B = u1 := Eq.symm (hu.2.2.1.trans (bk_B hX))
  subst xB
  have hT := hu.2
  replace hu := hu.1
  have np0 : X10Pr dC dI G ax fa t.heap := ⟨zi0_13, hP1 0 _ rfl⟩
  have np4 : X10P1 dC dI G ax (bkW k K W0 W1 W2) N B (bkW k K O0 O1 O2) t.heap := ⟨u2, u3, u4, u5, u6, u7, u8, (by rw [hT.2.2.1, hT.2.2.2.1, hT.2.2.2.2.1, hT.2.2.2.2.2.2.1, hT.2.2.2.2.2.2.2.1, hT.2.2.2.2.2.2.2.2]; exact CR.bk (by first | with_reducible assumption | assumption) (by first | with_reducible assumption | assumption) (by first | with_reducible assumption | assumption) hX (by first | with_reducible assumption | assumption) (by first | with_reducible assumption | assumption)), (by rw [hT.2.2.2.2.2.1]; exact OR.bk (by first | with_reducible assumption | assumption) (by first | with_reducible assumption | assumption) (by first | with_reducible assumption | assumption)), p4j2, p4j3, (by first | omega | exact hu | exact hu.1 | exact hu.1.1 | exact hu.1.2 | exact hu.2 | exact hu.1.1.1 | exact hu.1.1.2 | exact fd_nn (by first | with_reducible assumption | assumption) | (split at hu <;> omega) | (split <;> omega) | exact E_inv (by first | with_reducible assumption | assumption)), hP1 1 _ rfl, hP1 2 _ rfl, hP1 3 _ rfl, hP1 4 _ rfl, hP1 5 _ rfl, hP1 6 _ rfl, hP1 7 _ rfl⟩
  have np6 : X10P3 dC dI G ax t.heap := hP1 8 _ rfl
  have np7 : X10P3_0 dC dI G ax W1 N1 B1 O1 t.heap := ⟨zn26_2, zf27, zf28, zf29, zf30, zf31, zf32, p7j0, p7j1, p7j2, p7j3, p7j4, hP1 10 _ rfl, hP1 11 _ rfl, hP1 12 _ rfl, hP1 13 _ rfl, hP1 14 _ rfl, hP1 15 _ rfl, hP1 16 _ rfl⟩
  have np8 : X10P3_1 dC dI G ax W2 N2 B2 O2 t.heap := ⟨zn33_2, zf34, zf35, zf36, zf37, zf38, zf39, p8j0, p8j1, p8j2, p8j3, p8j4, hP1 17 _ rfl, hP1 18 _ rfl, hP1 19 _ rfl, hP1 20 _ rfl, hP1 21 _ rfl, hP1 22 _ rfl, hP1 23 _ rfl⟩
  have np9 : X10P4 dC dI G ax K t.heap := hP1 9 _ rfl
  exact ⟨⟨r, (), ho, hr.trans (bk_eq hX), ⟨np0, p1.kept (FR 1 2 (by decide) (by decide)), p2.kept (FR 2 4 (by decide) (by decide)), p3.kept (FR 4 11 (by decide) (by decide)), np4, p5.kept (FR 18 25 (by decide) (by decide)), np6, np7, np8, np9, p10.kept (FR 41 44 (by decide) (by decide)), p11.kept (FR 44 68 (by decide) (by decide)), p12.kept (FR 68 69 (by decide) (by decide)), p13.kept (FR 69 74 (by decide) (by decide)), p14.kept (FR 74 77 (by decide) (by decide)), p15.kept (FR 77 102 (by decide) (by decide)), p16.kept (FR 102 112 (by decide) (by decide)), ⟨hX, bk_V hXV.2⟩⟩⟩, hF.wide (ad_ix [0, 11, 12, 13, 14, 15, 16, 17, 25, 40, 26, 27, 28, 29, 30, 31, 32, 33, 34, 35, 36, 37, 38, 39] (by rfl) (by decide))⟩

set_option maxHeartbeats 1000000 in
set_option maxRecDepth 100000 in
theorem k_X10_sheetE (l : Launch) (dC : Nat → ClassId) (dI : Nat → Nat → Nat) (G : Nat → ClassId) (sz : Nat) (ax : Nat → Nat) (hi : adInj 129 ax) (T : Nat) (Y : Nat → Int32) (fa : Int32) (W0 : Nat → Int32) (W1 : Nat → Int32) (W2 : Nat → Int32) (N : Nat) (B : Nat) (N1 : Nat) (B1 : Nat) (N2 : Nat) (B2 : Nat) (K : Nat → Int32) (S : Nat) (M : Nat) (E : Nat → Int32) (Z : Nat → Int32) (O0 : Nat → Int32) (O1 : Nat → Int32) (O2 : Nat → Int32) (CE : Nat → Int32) (MR : Nat → Int32) (k : Int32) (lane : Int32) (n : Int32) : Met l yX10_sheet (Cond.code yX10_sheet cX10_sheet 4 (some .int) :: GT) ({ frames := 2, cells := 0, slots := 0, locals := 44 } : Room) (PcI [.ref (ax 0), .int k, .int lane, .int n] dC dI G (X10I dC dI G ax T Y fa W0 W1 W2 N B N1 B1 N2 B2 K S M E Z O0 O1 O2 CE MR) sz) (va_Qi (fun (r : Int32) (_ : Unit) => r = if (0 ≤ k.toInt ∧ k.toInt < 4) ∧ (0 ≤ lane.toInt ∧ lane.toInt ≤ 2) ∧ n.toInt ≤ 40 then (if n.toInt < 0 then -14 else 1) else -1) (fun _ t => X10I dC dI G ax T Y fa W0 W1 W2 N B N1 B1 N2 B2 K S M (if ((0 ≤ k.toInt ∧ k.toInt < 4) ∧ (0 ≤ lane.toInt ∧ lane.toInt ≤ 2) ∧ n.toInt ≤ 40 ∧ 0 ≤ n.toInt) then upd E k.toNatClampNeg lane else E) (if ((0 ≤ k.toInt ∧ k.toInt < 4) ∧ (0 ≤ lane.toInt ∧ lane.toInt ≤ 2) ∧ n.toInt ≤ 40 ∧ 0 ≤ n.toInt) then upd Z k.toNatClampNeg n else Z) O0 O1 O2 (if ((0 ≤ k.toInt ∧ k.toInt < 4) ∧ (0 ≤ lane.toInt ∧ lane.toInt ≤ 2) ∧ n.toInt ≤ 40 ∧ 0 ≤ n.toInt) then zpg k.toNatClampNeg 40 CE else CE) MR t.heap) (adX 0 112 ax sz)) 0 0 (adX 0 112 ax sz) := by
  refine Met.pick (fun a st hp => ?_)
  obtain ⟨e0, hsz, hI, hK⟩ := hp
  subst hsz
  have hI0 := hI
  unfold X10I at hI
  obtain ⟨p0, p1, p2, p3, p4, p5, p6, p7, p8, p9, p10, p11, p12, p13, p14, p15, p16, hX⟩ := hI
  have hXV := hX
  have hX := hXV.1
  unfold X10Pr at p0
  obtain ⟨zi0_13, q0⟩ := p0
  unfold X10P11 at p16
  obtain ⟨zi102_3, zi102_4, zf106, zf107, zF108, p16j0, p16j1, p16j2, q102, q103, q104, q105, q106, q107, q108⟩ := p16
  refine ⟨_, _, _, c_X10_sheetE l dC dI G _ (ax 0) (ax 1) (ax 11) (ax 18) (ax 25) (ax 40) (ax 41) (ax 44) (ax 68) (ax 69) (ax 74) (ax 77) (ax 102) (ax 103) (ax 104) (ax 105) (ax 106) (ax 107) fa zi0_13 k lane n zi102_3 zi102_4 E Z (fun iq => ax (108 + iq)) zF108 (by first | with_reducible assumption | assumption), ⟨e0, rfl, (va_P.app (vpc q0 (vpc q102 (vpc q103 (vpc q104 (vpc q105 va_nilP))))) (va_P.app q108 va_nilP)), hK, vD_ix hi [0, 102, 103, 104, 105, 108, 109, 110, 111] (by rfl) (by decide) (by decide)⟩, ad_ix [0, 102, 103, 104, 105, 108, 109, 110, 111] (by rfl) (by decide), fun o t hq => ?_⟩
  obtain ⟨⟨r, ⟨u0, u1, u2⟩, ho, ⟨hr, hu⟩, hP1, -⟩, hF⟩ := hq
  have FR : ∀ lo hi' : Nat, hi' ≤ 129 → ([0, 102, 103, 104, 105, 108, 109, 110, 111] : List Nat).all (fun x => decide (x < lo) || decide (hi' ≤ x)) = true → ∀ j : Nat, lo ≤ j → j < hi' → ax j < st.heap.size → t.heap[ax j]? = st.heap[ax j]? := fun lo hi' h1 h2 => fr_ix hi h1 hF.2 [0, 102, 103, 104, 105, 108, 109, 110, 111] (by rfl) (by decide) h2
  have y103 : (if ((0 ≤ k.toInt ∧ k.toInt < 4) ∧ (0 ≤ lane.toInt ∧ lane.toInt ≤ 2) ∧ n.toInt ≤ 40 ∧ 0 ≤ n.toInt) then upd E k.toNatClampNeg lane else E) = u0 := Eq.symm (hu.1.1.1)
  subst y103
  have y104 : (if ((0 ≤ k.toInt ∧ k.toInt < 4) ∧ (0 ≤ lane.toInt ∧ lane.toInt ≤ 2) ∧ n.toInt ≤ 40 ∧ 0 ≤ n.toInt) then upd Z k.toNatClampNeg n else Z) = u1 := Eq.symm (hu.1.1.2)
  subst y104
  have np0 : X10Pr dC dI G ax fa t.heap := ⟨zi0_13, hP1 0 _ rfl⟩
  have np16 : X10P11 dC dI G ax (if ((0 ≤ k.toInt ∧ k.toInt < 4) ∧ (0 ≤ lane.toInt ∧ lane.toInt ≤ 2) ∧ n.toInt ≤ 40 ∧ 0 ≤ n.toInt) then upd E k.toNatClampNeg lane else E) (if ((0 ≤ k.toInt ∧ k.toInt < 4) ∧ (0 ≤ lane.toInt ∧ lane.toInt ≤ 2) ∧ n.toInt ≤ 40 ∧ 0 ≤ n.toInt) then upd Z k.toNatClampNeg n else Z) (if ((0 ≤ k.toInt ∧ k.toInt < 4) ∧ (0 ≤ lane.toInt ∧ lane.toInt ≤ 2) ∧ n.toInt ≤ 40 ∧ 0 ≤ n.toInt) then zpg k.toNatClampNeg 40 CE else CE) t.heap := ⟨zi102_3, zi102_4, zf106, zf107, u2, (by rw [hu.2]; exact CEc.sh (by first | with_reducible assumption | assumption) (by first | with_reducible assumption | assumption)), (by first | omega | exact hu | exact hu.1 | exact hu.1.1 | exact hu.1.2 | exact hu.2 | exact hu.1.1.1 | exact hu.1.1.2 | exact fd_nn (by first | with_reducible assumption | assumption) | (split at hu <;> omega) | (split <;> omega) | exact E_inv (by first | with_reducible assumption | assumption)), (by first | omega | exact hu | exact hu.1 | exact hu.1.1 | exact hu.1.2 | exact hu.2 | exact hu.1.1.1 | exact hu.1.1.2 | exact fd_nn (by first | with_reducible assumption | assumption) | (split at hu <;> omega) | (split <;> omega) | exact E_inv (by first | with_reducible assumption | assumption)), hP1 1 _ rfl, hP1 2 _ rfl, hP1 3 _ rfl, hP1 4 _ rfl, q106.kept (FR 106 107 (by decide) (by decide) 106 (by decide) (by decide) q106.lt), q107.kept (FR 107 108 (by decide) (by decide) 107 (by decide) (by decide) q107.lt), vp_mid hP1⟩
  exact ⟨⟨r, (), ho, hr, ⟨np0, p1.kept (FR 1 2 (by decide) (by decide)), p2.kept (FR 2 4 (by decide) (by decide)), p3.kept (FR 4 11 (by decide) (by decide)), p4.kept (FR 11 18 (by decide) (by decide)), p5.kept (FR 18 25 (by decide) (by decide)), p6.kept (FR 25 26 (by decide) (by decide)), p7.kept (FR 26 33 (by decide) (by decide)), p8.kept (FR 33 40 (by decide) (by decide)), p9.kept (FR 40 41 (by decide) (by decide)), p10.kept (FR 41 44 (by decide) (by decide)), p11.kept (FR 44 68 (by decide) (by decide)), p12.kept (FR 68 69 (by decide) (by decide)), p13.kept (FR 69 74 (by decide) (by decide)), p14.kept (FR 74 77 (by decide) (by decide)), p15.kept (FR 77 102 (by decide) (by decide)), np16, ⟨hX, hXV.2⟩⟩⟩, hF.wide (ad_ix [0, 102, 103, 104, 105, 108, 109, 110, 111] (by rfl) (by decide))⟩

set_option maxHeartbeats 1000000 in
set_option maxRecDepth 100000 in
theorem k_X10_layE (l : Launch) (dC : Nat → ClassId) (dI : Nat → Nat → Nat) (G : Nat → ClassId) (sz : Nat) (ax : Nat → Nat) (hi : adInj 129 ax) (T : Nat) (Y : Nat → Int32) (fa : Int32) (W0 : Nat → Int32) (W1 : Nat → Int32) (W2 : Nat → Int32) (N : Nat) (B : Nat) (N1 : Nat) (B1 : Nat) (N2 : Nat) (B2 : Nat) (K : Nat → Int32) (S : Nat) (M : Nat) (E : Nat → Int32) (Z : Nat → Int32) (O0 : Nat → Int32) (O1 : Nat → Int32) (O2 : Nat → Int32) (CE : Nat → Int32) (MR : Nat → Int32) (k : Int32) (i : Int32) (v : Int32) : Met l yX10_lay (Cond.code yX10_lay cX10_lay 5 (some .int) :: GT) ({ frames := 2, cells := 0, slots := 0, locals := 46 } : Room) (PcI [.ref (ax 0), .int k, .int i, .int v] dC dI G (X10I dC dI G ax T Y fa W0 W1 W2 N B N1 B1 N2 B2 K S M E Z O0 O1 O2 CE MR) sz) (va_Qi (fun (r : Int32) (_ : Unit) => r = if 0 ≤ k.toInt ∧ k.toInt < 4 then (if E k.toNatClampNeg = -1 then -11 else if 0 ≤ i.toInt ∧ i.toInt < (Z k.toNatClampNeg).toInt then 1 else -12) else -1) (fun _ t => X10I dC dI G ax T Y fa W0 W1 W2 N B N1 B1 N2 B2 K S M E Z O0 O1 O2 (if ((0 ≤ k.toInt ∧ k.toInt < 4) ∧ ¬ E k.toNatClampNeg = -1 ∧ 0 ≤ i.toInt ∧ i.toInt < (Z k.toNatClampNeg).toInt) then upd CE (40 * k.toNatClampNeg + i.toNatClampNeg) (nrw (E k.toNatClampNeg) v) else CE) MR t.heap) (adX 0 112 ax sz)) 0 0 (adX 0 112 ax sz) := by
  refine Met.pick (fun a st hp => ?_)
  obtain ⟨e0, hsz, hI, hK⟩ := hp
  subst hsz
  have hI0 := hI
  unfold X10I at hI
  obtain ⟨p0, p1, p2, p3, p4, p5, p6, p7, p8, p9, p10, p11, p12, p13, p14, p15, p16, hX⟩ := hI
  have hXV := hX
  have hX := hXV.1
  unfold X10Pr at p0
  obtain ⟨zi0_13, q0⟩ := p0
  unfold X10P11 at p16
  obtain ⟨zi102_3, zi102_4, zf106, zf107, zF108, p16j0, p16j1, p16j2, q102, q103, q104, q105, q106, q107, q108⟩ := p16
  refine ⟨_, _, _, c_X10_layE l dC dI G _ (ax 0) (ax 1) (ax 11) (ax 18) (ax 25) (ax 40) (ax 41) (ax 44) (ax 68) (ax 69) (ax 74) (ax 77) (ax 102) (ax 103) (ax 104) (ax 105) (ax 106) (ax 107) fa zi0_13 k i v zi102_3 zi102_4 E Z (fun iq => ax (108 + iq)) zF108 (by first | with_reducible assumption | assumption), ⟨e0, rfl, (va_P.app (vpc q0 (vpc q102 (vpc q103 (vpc q104 (vpc q105 va_nilP))))) (va_P.app q108 va_nilP)), hK, vD_ix hi [0, 102, 103, 104, 105, 108, 109, 110, 111] (by rfl) (by decide) (by decide)⟩, ad_ix [0, 102, 103, 104, 105, 108, 109, 110, 111] (by rfl) (by decide), fun o t hq => ?_⟩
  obtain ⟨⟨r, u0, ho, ⟨hr, hu⟩, hP1, -⟩, hF⟩ := hq
  have FR : ∀ lo hi' : Nat, hi' ≤ 129 → ([0, 102, 103, 104, 105, 108, 109, 110, 111] : List Nat).all (fun x => decide (x < lo) || decide (hi' ≤ x)) = true → ∀ j : Nat, lo ≤ j → j < hi' → ax j < st.heap.size → t.heap[ax j]? = st.heap[ax j]? := fun lo hi' h1 h2 => fr_ix hi h1 hF.2 [0, 102, 103, 104, 105, 108, 109, 110, 111] (by rfl) (by decide) h2
  have np0 : X10Pr dC dI G ax fa t.heap := ⟨zi0_13, hP1 0 _ rfl⟩
  have np16 : X10P11 dC dI G ax E Z (if ((0 ≤ k.toInt ∧ k.toInt < 4) ∧ ¬ E k.toNatClampNeg = -1 ∧ 0 ≤ i.toInt ∧ i.toInt < (Z k.toNatClampNeg).toInt) then upd CE (40 * k.toNatClampNeg + i.toNatClampNeg) (nrw (E k.toNatClampNeg) v) else CE) t.heap := ⟨zi102_3, zi102_4, zf106, zf107, u0, (by rw [hu]; exact CEc.ly (by first | with_reducible assumption | assumption) (by first | with_reducible assumption | assumption)), p16j1, p16j2, hP1 1 _ rfl, hP1 2 _ rfl, hP1 3 _ rfl, hP1 4 _ rfl, q106.kept (FR 106 107 (by decide) (by decide) 106 (by decide) (by decide) q106.lt), q107.kept (FR 107 108 (by decide) (by decide) 107 (by decide) (by decide) q107.lt), vp_mid hP1⟩
  exact ⟨⟨r, (), ho, hr, ⟨np0, p1.kept (FR 1 2 (by decide) (by decide)), p2.kept (FR 2 4 (by decide) (by decide)), p3.kept (FR 4 11 (by decide) (by decide)), p4.kept (FR 11 18 (by decide) (by decide)), p5.kept (FR 18 25 (by decide) (by decide)), p6.kept (FR 25 26 (by decide) (by decide)), p7.kept (FR 26 33 (by decide) (by decide)), p8.kept (FR 33 40 (by decide) (by decide)), p9.kept (FR 40 41 (by decide) (by decide)), p10.kept (FR 41 44 (by decide) (by decide)), p11.kept (FR 44 68 (by decide) (by decide)), p12.kept (FR 68 69 (by decide) (by decide)), p13.kept (FR 69 74 (by decide) (by decide)), p14.kept (FR 74 77 (by decide) (by decide)), p15.kept (FR 77 102 (by decide) (by decide)), np16, ⟨hX, hXV.2⟩⟩⟩, hF.wide (ad_ix [0, 102, 103, 104, 105, 108, 109, 110, 111] (by rfl) (by decide))⟩

set_option maxHeartbeats 1000000 in
set_option maxRecDepth 100000 in
theorem k_X10_readE (l : Launch) (dC : Nat → ClassId) (dI : Nat → Nat → Nat) (G : Nat → ClassId) (sz : Nat) (ax : Nat → Nat) (hi : adInj 129 ax) (T : Nat) (Y : Nat → Int32) (fa : Int32) (W0 : Nat → Int32) (W1 : Nat → Int32) (W2 : Nat → Int32) (N : Nat) (B : Nat) (N1 : Nat) (B1 : Nat) (N2 : Nat) (B2 : Nat) (K : Nat → Int32) (S : Nat) (M : Nat) (E : Nat → Int32) (Z : Nat → Int32) (O0 : Nat → Int32) (O1 : Nat → Int32) (O2 : Nat → Int32) (CE : Nat → Int32) (MR : Nat → Int32) (k : Int32) (lane : Int32) (x1 : Int32) (n : Int32) : Met l yX10_read (Cond.code yX10_read cX10_read 6 (some .int) :: GT) ({ frames := 2, cells := 0, slots := 0, locals := 50 } : Room) (PcI [.ref (ax 0), .int k, .int lane, .int x1, .int n] dC dI G (X10I dC dI G ax T Y fa W0 W1 W2 N B N1 B1 N2 B2 K S M E Z O0 O1 O2 CE MR) sz) (va_Qi (fun (r : Int32) (_ : Unit) => r = if ((0 ≤ k.toInt ∧ k.toInt < 4) ∧ (0 ≤ lane.toInt ∧ lane.toInt ≤ 2) ∧ 0 ≤ n.toInt ∧ n.toInt ≤ 20) then rdR N B (fun q8 : Nat => CE (40 * k.toNatClampNeg + (x1.toInt + 2 * (q8 : Int) + 0).toNat)) (fun q8 : Nat => CE (40 * k.toNatClampNeg + (x1.toInt + 2 * (q8 : Int) + 1).toNat)) (tpK (E k.toNatClampNeg) lane (Z k.toNatClampNeg).toInt x1.toInt n.toNatClampNeg) else -1) (fun _ t => X10I dC dI G ax T Y fa W0 W1 W2 N B N1 B1 N2 B2 K S M E Z (if ((0 ≤ k.toInt ∧ k.toInt < 4) ∧ (0 ≤ lane.toInt ∧ lane.toInt ≤ 2) ∧ 0 ≤ n.toInt ∧ n.toInt ≤ 20) then rdF N B (fun q8 : Nat => CE (40 * k.toNatClampNeg + (x1.toInt + 2 * (q8 : Int) + 0).toNat)) (fun q8 : Nat => CE (40 * k.toNatClampNeg + (x1.toInt + 2 * (q8 : Int) + 1).toNat)) (tpK (E k.toNatClampNeg) lane (Z k.toNatClampNeg).toInt x1.toInt n.toNatClampNeg) O0 else O0) O1 O2 CE MR t.heap) (adX 0 112 ax sz)) 0 0 (adX 0 112 ax sz) := by
  refine Met.pick (fun a st hp => ?_)
  obtain ⟨e0, hsz, hI, hK⟩ := hp
  subst hsz
  have hI0 := hI
  unfold X10I at hI
  obtain ⟨p0, p1, p2, p3, p4, p5, p6, p7, p8, p9, p10, p11, p12, p13, p14, p15, p16, hX⟩ := hI
  have hXV := hX
  have hX := hXV.1
  unfold X10Pr at p0
  obtain ⟨zi0_13, q0⟩ := p0
  unfold X10P1 at p4
  obtain ⟨zn11_2, zf12, zf13, zf14, zf15, zf16, zf17, p4j0, p4j1, p4j2, p4j3, p4j4, q11, q12, q13, q14, q15, q16, q17⟩ := p4
  unfold X10P11 at p16
  obtain ⟨zi102_3, zi102_4, zf106, zf107, zF108, p16j0, p16j1, p16j2, q102, q103, q104, q105, q106, q107, q108⟩ := p16
  refine ⟨_, _, _, c_X10_readE l dC dI G _ (ax 0) (ax 1) (ax 11) (ax 18) (ax 25) (ax 40) (ax 41) (ax 44) (ax 68) (ax 69) (ax 74) (ax 77) (ax 102) (ax 12) (ax 13) (ax 14) (ax 15) (ax 16) (ax 17) N B zn11_2 (ax 103) (ax 104) (ax 105) (ax 106) (ax 107) fa zi0_13 k lane x1 n zi102_3 zi102_4 zf14 E Z zf106 zf107 (fun iq => ax (108 + iq)) zF108 (by first | with_reducible assumption | assumption) (by first | with_reducible assumption | assumption) (by first | with_reducible assumption | assumption) (by first | with_reducible assumption | assumption), ⟨e0, rfl, (va_P.app (vpc q0 (vpc q11 (vpc q14 (vpc q102 (vpc q103 (vpc q104 (vpc q105 (vpc q106 (vpc q107 va_nilP))))))))) (va_P.app q108 va_nilP)), hK, vD_ix hi [0, 11, 14, 102, 103, 104, 105, 106, 107, 108, 109, 110, 111] (by rfl) (by decide) (by decide)⟩, ad_ix [0, 11, 14, 102, 103, 104, 105, 106, 107, 108, 109, 110, 111] (by rfl) (by decide), fun o t hq => ?_⟩
  obtain ⟨⟨r, ⟨u0, u1, u2, u3, u4, u5⟩, ho, ⟨hr, hu⟩, hP1, -⟩, hF⟩ := hq
  have FR : ∀ lo hi' : Nat, hi' ≤ 129 → ([0, 11, 14, 102, 103, 104, 105, 106, 107, 108, 109, 110, 111] : List Nat).all (fun x => decide (x < lo) || decide (hi' ≤ x)) = true → ∀ j : Nat, lo ≤ j → j < hi' → ax j < st.heap.size → t.heap[ax j]? = st.heap[ax j]? := fun lo hi' h1 h2 => fr_ix hi h1 hF.2 [0, 11, 14, 102, 103, 104, 105, 106, 107, 108, 109, 110, 111] (by rfl) (by decide) h2
  have np0 : X10Pr dC dI G ax fa t.heap := ⟨u5, hP1 0 _ rfl⟩
  have np4 : X10P1 dC dI G ax W0 N B (if ((0 ≤ k.toInt ∧ k.toInt < 4) ∧ (0 ≤ lane.toInt ∧ lane.toInt ≤ 2) ∧ 0 ≤ n.toInt ∧ n.toInt ≤ 20) then rdF N B (fun q8 : Nat => CE (40 * k.toNatClampNeg + (x1.toInt + 2 * (q8 : Int) + 0).toNat)) (fun q8 : Nat => CE (40 * k.toNatClampNeg + (x1.toInt + 2 * (q8 : Int) + 1).toNat)) (tpK (E k.toNatClampNeg) lane (Z k.toNatClampNeg).toInt x1.toInt n.toNatClampNeg) O0 else O0) t.heap := ⟨zn11_2, zf12, zf13, u4, zf15, zf16, zf17, p4j0, (by rw [hu]; exact OR.rd (by first | with_reducible assumption | assumption) (by first | with_reducible assumption | assumption)), p4j2, p4j3, p4j4, hP1 1 _ rfl, q12.kept (FR 12 13 (by decide) (by decide) 12 (by decide) (by decide) q12.lt), q13.kept (FR 13 14 (by decide) (by decide) 13 (by decide) (by decide) q13.lt), hP1 2 _ rfl, q15.kept (FR 15 16 (by decide) (by decide) 15 (by decide) (by decide) q15.lt), q16.kept (FR 16 17 (by decide) (by decide) 16 (by decide) (by decide) q16.lt), q17.kept (FR 17 18 (by decide) (by decide) 17 (by decide) (by decide) q17.lt)⟩
  have np16 : X10P11 dC dI G ax E Z CE t.heap := ⟨u0, u1, u2, u3, zF108, p16j0, p16j1, p16j2, hP1 3 _ rfl, hP1 4 _ rfl, hP1 5 _ rfl, hP1 6 _ rfl, hP1 7 _ rfl, hP1 8 _ rfl, vp_mid hP1⟩
  exact ⟨⟨r, (), ho, hr.trans (rd_c (by first | with_reducible assumption | assumption)), ⟨np0, p1.kept (FR 1 2 (by decide) (by decide)), p2.kept (FR 2 4 (by decide) (by decide)), p3.kept (FR 4 11 (by decide) (by decide)), np4, p5.kept (FR 18 25 (by decide) (by decide)), p6.kept (FR 25 26 (by decide) (by decide)), p7.kept (FR 26 33 (by decide) (by decide)), p8.kept (FR 33 40 (by decide) (by decide)), p9.kept (FR 40 41 (by decide) (by decide)), p10.kept (FR 41 44 (by decide) (by decide)), p11.kept (FR 44 68 (by decide) (by decide)), p12.kept (FR 68 69 (by decide) (by decide)), p13.kept (FR 69 74 (by decide) (by decide)), p14.kept (FR 74 77 (by decide) (by decide)), p15.kept (FR 77 102 (by decide) (by decide)), np16, ⟨hX, rd_V hXV.2⟩⟩⟩, hF.wide (ad_ix [0, 11, 14, 102, 103, 104, 105, 106, 107, 108, 109, 110, 111] (by rfl) (by decide))⟩

set_option maxHeartbeats 1000000 in
set_option maxRecDepth 100000 in
theorem k_X10_torn (l : Launch) (dC : Nat → ClassId) (dI : Nat → Nat → Nat) (G : Nat → ClassId) (sz : Nat) (ax : Nat → Nat) (hi : adInj 129 ax) (T : Nat) (Y : Nat → Int32) (fa : Int32) (W0 : Nat → Int32) (W1 : Nat → Int32) (W2 : Nat → Int32) (N : Nat) (B : Nat) (N1 : Nat) (B1 : Nat) (N2 : Nat) (B2 : Nat) (K : Nat → Int32) (S : Nat) (M : Nat) (E : Nat → Int32) (Z : Nat → Int32) (O0 : Nat → Int32) (O1 : Nat → Int32) (O2 : Nat → Int32) (CE : Nat → Int32) (MR : Nat → Int32) : Met l yX10_torn (Cond.code yX10_torn cX10_torn 1 (some .int) :: GT) ({ frames := 0, cells := 0, slots := 0, locals := 0 } : Room) (PcI [.ref (ax 0)] dC dI G (X10I dC dI G ax T Y fa W0 W1 W2 N B N1 B1 N2 B2 K S M E Z O0 O1 O2 CE MR) sz) (va_Qi (fun (r : Int32) (_ : Unit) => True) (fun _ t => X10I dC dI G ax T Y fa W0 W1 W2 N B N1 B1 N2 B2 K S M E Z O0 O1 O2 CE MR t.heap) (adX 0 112 ax sz)) 0 0 (adX 0 112 ax sz) := by
  refine Met.pick (fun a st hp => ?_)
  obtain ⟨e0, hsz, hI, hK⟩ := hp
  subst hsz
  have hI0 := hI
  unfold X10I at hI
  obtain ⟨p0, p1, p2, p3, p4, p5, p6, p7, p8, p9, p10, p11, p12, p13, p14, p15, p16, hX⟩ := hI
  have hXV := hX
  have hX := hXV.1
  unfold X10Pr at p0
  obtain ⟨zi0_13, q0⟩ := p0
  refine ⟨_, _, _, c_X10_torn l dC dI G _ (ax 0) (ax 1) (ax 11) (ax 18) (ax 25) (ax 40) (ax 41) (ax 44) (ax 68) (ax 69) (ax 74) (ax 77) (ax 102) fa zi0_13 , ⟨e0, rfl, (vpc q0 va_nilP), hK⟩, fun q h => Or.inr h, fun o t hq => ?_⟩
  obtain ⟨⟨r, u, ho, ⟨hr, hu⟩, -⟩, hF⟩ := hq
  exact ⟨⟨r, (), ho, trivial, hI0.kept (fun j _ _ h => hF.2 _ h (Nat.not_le.mpr h))⟩, hF.wide (fun q h => Or.inr h)⟩

set_option maxHeartbeats 1000000 in
set_option maxRecDepth 100000 in
theorem k_X10_count (l : Launch) (dC : Nat → ClassId) (dI : Nat → Nat → Nat) (G : Nat → ClassId) (sz : Nat) (ax : Nat → Nat) (hi : adInj 129 ax) (T : Nat) (Y : Nat → Int32) (fa : Int32) (W0 : Nat → Int32) (W1 : Nat → Int32) (W2 : Nat → Int32) (N : Nat) (B : Nat) (N1 : Nat) (B1 : Nat) (N2 : Nat) (B2 : Nat) (K : Nat → Int32) (S : Nat) (M : Nat) (E : Nat → Int32) (Z : Nat → Int32) (O0 : Nat → Int32) (O1 : Nat → Int32) (O2 : Nat → Int32) (CE : Nat → Int32) (MR : Nat → Int32) (what : Int32) : Met l yX10_count (Cond.code yX10_count cX10_count 2 (some .int) :: GT) ({ frames := 1, cells := 0, slots := 0, locals := 22 } : Room) (PcI [.ref (ax 0), .int what] dC dI G (X10I dC dI G ax T Y fa W0 W1 W2 N B N1 B1 N2 B2 K S M E Z O0 O1 O2 CE MR) sz) (va_Qi (fun (r : Int32) (_ : Unit) => True) (fun _ t => X10I dC dI G ax T Y fa W0 W1 W2 N B N1 B1 N2 B2 K S M E Z O0 O1 O2 CE MR t.heap) (adX 0 112 ax sz)) 0 0 (adX 0 112 ax sz) := by
  refine Met.pick (fun a st hp => ?_)
  obtain ⟨e0, hsz, hI, hK⟩ := hp
  subst hsz
  have hI0 := hI
  unfold X10I at hI
  obtain ⟨p0, p1, p2, p3, p4, p5, p6, p7, p8, p9, p10, p11, p12, p13, p14, p15, p16, hX⟩ := hI
  have hXV := hX
  have hX := hXV.1
  unfold X10Pr at p0
  obtain ⟨zi0_13, q0⟩ := p0
  unfold X10P0 at p1
  obtain ⟨zi1_2, zi1_3, zi1_4, zi1_5, zi1_6, zi1_7, zi1_8, zi1_9, zi1_10, zi1_11, q1⟩ := p1
  unfold X10P0_0 at p2
  obtain ⟨p2j0, q2, q3⟩ := p2
  unfold X10P1 at p4
  obtain ⟨zn11_2, zf12, zf13, zf14, zf15, zf16, zf17, p4j0, p4j1, p4j2, p4j3, p4j4, q11, q12, q13, q14, q15, q16, q17⟩ := p4
  unfold X10P4 at p9
  have q40 := p9
  unfold X10P8 at p13
  obtain ⟨zf70, zf71, zf72, zf73, p13j0, q69, q70, q71, q72, q73⟩ := p13
  unfold X10P9 at p14
  obtain ⟨zf75, zf76, p14j0, p14j1, q74, q75, q76⟩ := p14
  unfold X10P11 at p16
  obtain ⟨zi102_3, zi102_4, zf106, zf107, zF108, p16j0, p16j1, p16j2, q102, q103, q104, q105, q106, q107, q108⟩ := p16
  refine ⟨_, _, _, c_X10_count l dC dI G _ (ax 0) (ax 1) (ax 11) (ax 18) (ax 25) (ax 40) (ax 41) (ax 44) (ax 68) (ax 69) (ax 74) (ax 77) (ax 102) (ax 70) (ax 71) (ax 72) (ax 73) (ax 75) (ax 76) S M (ax 2) (ax 4) (ax 3) T (ax 12) (ax 13) (ax 14) (ax 15) (ax 16) (ax 17) N B zn11_2 (ax 103) (ax 104) (ax 105) (ax 106) (ax 107) fa zi0_13 what zi1_2 zi1_3 zi1_4 zi1_5 zi1_6 zi1_7 zi1_8 zi1_9 zi1_10 zi1_11 zi102_3 zi102_4 K zf14 E Z (by first | with_reducible assumption | assumption) (by first | with_reducible assumption | assumption) (by first | with_reducible assumption | assumption) (by first | with_reducible assumption | assumption) (by first | with_reducible assumption | assumption) (by first | with_reducible assumption | assumption), ⟨e0, rfl, (vpc q0 (vpc q69 (vpc q74 (vpc q40 (vpc q1 (vpc q2 (vpc q11 (vpc q14 (vpc q102 (vpc q103 (vpc q104 va_nilP))))))))))), hK⟩, fun q h => Or.inr h, fun o t hq => ?_⟩
  obtain ⟨⟨r, u, ho, ⟨hr, hu⟩, -⟩, hF⟩ := hq
  exact ⟨⟨r, (), ho, trivial, hI0.kept (fun j _ _ h => hF.2 _ h (Nat.not_le.mpr h))⟩, hF.wide (fun q h => Or.inr h)⟩

set_option maxHeartbeats 1000000 in
set_option maxRecDepth 100000 in
theorem k_X11_feedE (l : Launch) (dC : Nat → ClassId) (dI : Nat → Nat → Nat) (G : Nat → ClassId) (sz : Nat) (ax : Nat → Nat) (hi : adInj 129 ax) (T : Nat) (Y : Nat → Int32) (fa : Int32) (W0 : Nat → Int32) (W1 : Nat → Int32) (W2 : Nat → Int32) (N : Nat) (B : Nat) (N1 : Nat) (B1 : Nat) (N2 : Nat) (B2 : Nat) (K : Nat → Int32) (S : Nat) (M : Nat) (E : Nat → Int32) (Z : Nat → Int32) (O0 : Nat → Int32) (O1 : Nat → Int32) (O2 : Nat → Int32) (CE : Nat → Int32) (MR : Nat → Int32) (v : Int64) : Met l yX11_feed (Cond.code yX11_feed cX11_feed 4 (some .int) :: GT) ({ frames := 0, cells := 0, slots := 0, locals := 0 } : Room) (PcI [.ref (ax 112), .long v] dC dI G (X11I dC dI G ax T Y fa W0 W1 W2 N B N1 B1 N2 B2 K S M E Z O0 O1 O2 CE MR) sz) (va_Qi (fun (r : Int32) (_ : Unit) => r = if T + 8 ≤ 320 then nI (T + 8) else -3) (fun _ t => X11I dC dI G ax (if T + 8 ≤ 320 then T + 8 else T) (if T + 8 ≤ 320 then fdC Y T v else Y) fa W0 W1 W2 N B N1 B1 N2 B2 K S M E Z O0 O1 O2 CE MR t.heap) (adX 112 129 ax sz)) 0 0 (adX 112 129 ax sz) := by
  refine Met.pick (fun a st hp => ?_)
  obtain ⟨e0, hsz, hI, hK⟩ := hp
  subst hsz
  have hI0 := hI
  unfold X11I at hI
  obtain ⟨p0, p1, p2, p3, p4, p5, p6, p7, p8, p9, p10, p11, p12, p13, p14, p15, p16, hX⟩ := hI
  have hXV := hX
  have hX := hXV.1
  unfold X11Pr at p0
  obtain ⟨zi112_4, zi112_5, zi112_6, zi112_7, zi112_8, zi112_9, zi112_13, zi112_14, zi112_15, zn112_16, zi112_17, zi112_18, zi112_34, p0j0, p0j1, p0j2, p0j3, p0j4, p0j5, p0j6, q112⟩ := p0
  unfold X11P10 at p3
  obtain ⟨p3j0, q115⟩ := p3
  refine ⟨_, _, _, c_X11_feedE l dC dI G _ (ax 112) (ax 113) N B (ax 114) (ax 115) T (ax 116) (ax 117) (ax 118) (ax 119) (ax 120) (ax 121) S (ax 122) M (ax 123) (ax 124) (ax 125) (ax 126) (ax 127) (ax 128) zi112_4 zi112_5 zi112_6 zi112_7 zi112_8 zi112_9 fa zi112_13 zi112_14 zi112_15 (nI zn112_16) zi112_17 zi112_18 zi112_34 v Y (by first | with_reducible assumption | assumption) (by first | with_reducible assumption | assumption) (by first | with_reducible assumption | assumption) (by first | with_reducible assumption | assumption) (by first | with_reducible assumption | assumption), ⟨e0, rfl, (vpc q112 (vpc q115 va_nilP)), hK, vD_ix hi [112, 115] (by rfl) (by decide) (by decide)⟩, ad_ix [112, 115] (by rfl) (by decide), fun o t hq => ?_⟩
  obtain ⟨⟨r, ⟨oT, otp⟩, ho, ⟨hr, hu⟩, hP1, -⟩, hF⟩ := hq
  have FR : ∀ lo hi' : Nat, hi' ≤ 129 → ([112, 115] : List Nat).all (fun x => decide (x < lo) || decide (hi' ≤ x)) = true → ∀ j : Nat, lo ≤ j → j < hi' → ax j < st.heap.size → t.heap[ax j]? = st.heap[ax j]? := fun lo hi' h1 h2 => fr_ix hi h1 hF.2 [112, 115] (by rfl) (by decide) h2
  have xT : (if T + 8 ≤ 320 then T + 8 else T) = oT := Eq.symm (by first | exact hu | exact hu.1 | exact hu.2 | exact hu.1.1 | exact hu.1.2 | exact hu.2.1.trans (txt_cf (by first | with_reducible assumption | assumption)) | exact hu.2.1.trans (txt_rf (by first | with_reducible assumption | assumption)) | exact hu.1.1.trans lmap_step | omega)
  subst xT
  have y115 : (if T + 8 ≤ 320 then fdC Y T v else Y) = otp := Eq.symm (by first | exact hu | exact hu.1 | exact hu.2 | exact hu.1.1 | exact hu.1.2 | exact hu.2.1.trans (txt_cf (by first | with_reducible assumption | assumption)) | exact hu.2.1.trans (txt_rf (by first | with_reducible assumption | assumption)) | exact hu.1.1.trans lmap_step | omega)
  subst y115
  have np0 : X11Pr dC dI G ax (if T + 8 ≤ 320 then T + 8 else T) fa N B S M t.heap := ⟨zi112_4, zi112_5, zi112_6, zi112_7, zi112_8, zi112_9, zi112_13, zi112_14, zi112_15, zn112_16, zi112_17, zi112_18, zi112_34, p0j0, p0j1, (by first | omega | exact hu | exact hu.1 | exact hu.1.1 | exact hu.1.2 | exact hu.2 | exact hu.1.1.1 | exact hu.1.1.2 | exact fd_nn (by first | with_reducible assumption | assumption) | (split at hu <;> omega) | (split <;> omega) | exact E_inv (by first | with_reducible assumption | assumption)), p0j3, p0j4, p0j5, p0j6, hP1 0 _ rfl⟩
  have np3 : X11P10 dC dI G ax (if T + 8 ≤ 320 then fdC Y T v else Y) t.heap := ⟨(by first | omega | exact hu | exact hu.1 | exact hu.1.1 | exact hu.1.2 | exact hu.2 | exact hu.1.1.1 | exact hu.1.1.2 | exact fd_nn (by first | with_reducible assumption | assumption) | (split at hu <;> omega) | (split <;> omega) | exact E_inv (by first | with_reducible assumption | assumption)), hP1 1 _ rfl⟩
  exact ⟨⟨r, (), ho, hr, ⟨np0, p1.kept (FR 113 114 (by decide) (by decide)), p2.kept (FR 114 115 (by decide) (by decide)), np3, p4.kept (FR 116 117 (by decide) (by decide)), p5.kept (FR 117 118 (by decide) (by decide)), p6.kept (FR 118 119 (by decide) (by decide)), p7.kept (FR 119 120 (by decide) (by decide)), p8.kept (FR 120 121 (by decide) (by decide)), p9.kept (FR 121 122 (by decide) (by decide)), p10.kept (FR 122 123 (by decide) (by decide)), p11.kept (FR 123 124 (by decide) (by decide)), p12.kept (FR 124 125 (by decide) (by decide)), p13.kept (FR 125 126 (by decide) (by decide)), p14.kept (FR 126 127 (by decide) (by decide)), p15.kept (FR 127 128 (by decide) (by decide)), p16.kept (FR 128 129 (by decide) (by decide)), ⟨hX, hXV.2⟩⟩⟩, hF.wide (ad_ix [112, 115] (by rfl) (by decide))⟩

set_option maxHeartbeats 1000000 in
set_option maxRecDepth 100000 in
theorem k_X11_end (l : Launch) (dC : Nat → ClassId) (dI : Nat → Nat → Nat) (G : Nat → ClassId) (sz : Nat) (ax : Nat → Nat) (hi : adInj 129 ax) (T : Nat) (Y : Nat → Int32) (fa : Int32) (W0 : Nat → Int32) (W1 : Nat → Int32) (W2 : Nat → Int32) (N : Nat) (B : Nat) (N1 : Nat) (B1 : Nat) (N2 : Nat) (B2 : Nat) (K : Nat → Int32) (S : Nat) (M : Nat) (E : Nat → Int32) (Z : Nat → Int32) (O0 : Nat → Int32) (O1 : Nat → Int32) (O2 : Nat → Int32) (CE : Nat → Int32) (MR : Nat → Int32) (n : Int32) : Met l yX11_end (Cond.code yX11_end cX11_end 3 (some .int) :: GT) ({ frames := 1, cells := 0, slots := 0, locals := 25 } : Room) (PcI [.ref (ax 112), .int n] dC dI G (X11I dC dI G ax T Y fa W0 W1 W2 N B N1 B1 N2 B2 K S M E Z O0 O1 O2 CE MR) sz) (va_Qi (fun (r : Int32) (_ : Unit) => r = if 0 ≤ n.toInt ∧ n.toInt ≤ ((T : Nat) : Int) then nI T else -1) (fun _ t => X11I dC dI G ax (if 0 ≤ n.toInt ∧ n.toInt ≤ ((T : Nat) : Int) then n.toNatClampNeg else T) Y fa W0 W1 W2 N B N1 B1 N2 B2 K S M E Z O0 O1 O2 CE MR t.heap) (adX 112 129 ax sz)) 0 0 (adX 112 129 ax sz) := by
  refine Met.pick (fun a st hp => ?_)
  obtain ⟨e0, hsz, hI, hK⟩ := hp
  subst hsz
  have hI0 := hI
  unfold X11I at hI
  obtain ⟨p0, p1, p2, p3, p4, p5, p6, p7, p8, p9, p10, p11, p12, p13, p14, p15, p16, hX⟩ := hI
  have hXV := hX
  have hX := hXV.1
  unfold X11Pr at p0
  obtain ⟨zi112_4, zi112_5, zi112_6, zi112_7, zi112_8, zi112_9, zi112_13, zi112_14, zi112_15, zn112_16, zi112_17, zi112_18, zi112_34, p0j0, p0j1, p0j2, p0j3, p0j4, p0j5, p0j6, q112⟩ := p0
  refine ⟨_, _, _, c_X11_end l dC dI G _ (ax 112) (ax 113) N B (ax 114) (ax 115) T (ax 116) (ax 117) (ax 118) (ax 119) (ax 120) (ax 121) S (ax 122) M (ax 123) (ax 124) (ax 125) (ax 126) (ax 127) (ax 128) n zi112_4 zi112_5 zi112_6 zi112_7 zi112_8 zi112_9 fa zi112_13 zi112_14 zi112_15 (nI zn112_16) zi112_17 zi112_18 zi112_34 (by first | with_reducible assumption | assumption) (by first | with_reducible assumption | assumption) (by first | with_reducible assumption | assumption) (by first | with_reducible assumption | assumption) (by first | with_reducible assumption | assumption), ⟨e0, rfl, (vpc q112 va_nilP), hK, vD_ix hi [112] (by rfl) (by decide) (by decide)⟩, ad_ix [112] (by rfl) (by decide), fun o t hq => ?_⟩
  obtain ⟨⟨r, oT, ho, ⟨hr, hu⟩, hP1, -⟩, hF⟩ := hq
  have FR : ∀ lo hi' : Nat, hi' ≤ 129 → ([112] : List Nat).all (fun x => decide (x < lo) || decide (hi' ≤ x)) = true → ∀ j : Nat, lo ≤ j → j < hi' → ax j < st.heap.size → t.heap[ax j]? = st.heap[ax j]? := fun lo hi' h1 h2 => fr_ix hi h1 hF.2 [112] (by rfl) (by decide) h2
  have xT : (if 0 ≤ n.toInt ∧ n.toInt ≤ ((T : Nat) : Int) then n.toNatClampNeg else T) = oT := Eq.symm (by first | exact hu | exact hu.1 | exact hu.2 | exact hu.1.1 | exact hu.1.2 | exact hu.2.1.trans (txt_cf (by first | with_reducible assumption | assumption)) | exact hu.2.1.trans (txt_rf (by first | with_reducible assumption | assumption)) | exact hu.1.1.trans lmap_step | omega)
  subst xT
  have np0 : X11Pr dC dI G ax (if 0 ≤ n.toInt ∧ n.toInt ≤ ((T : Nat) : Int) then n.toNatClampNeg else T) fa N B S M t.heap := ⟨zi112_4, zi112_5, zi112_6, zi112_7, zi112_8, zi112_9, zi112_13, zi112_14, zi112_15, zn112_16, zi112_17, zi112_18, zi112_34, p0j0, p0j1, (by first | omega | exact hu | exact hu.1 | exact hu.1.1 | exact hu.1.2 | exact hu.2 | exact hu.1.1.1 | exact hu.1.1.2 | exact fd_nn (by first | with_reducible assumption | assumption) | (split at hu <;> omega) | (split <;> omega) | exact E_inv (by first | with_reducible assumption | assumption)), p0j3, p0j4, p0j5, p0j6, hP1 0 _ rfl⟩
  exact ⟨⟨r, (), ho, hr, ⟨np0, p1.kept (FR 113 114 (by decide) (by decide)), p2.kept (FR 114 115 (by decide) (by decide)), p3.kept (FR 115 116 (by decide) (by decide)), p4.kept (FR 116 117 (by decide) (by decide)), p5.kept (FR 117 118 (by decide) (by decide)), p6.kept (FR 118 119 (by decide) (by decide)), p7.kept (FR 119 120 (by decide) (by decide)), p8.kept (FR 120 121 (by decide) (by decide)), p9.kept (FR 121 122 (by decide) (by decide)), p10.kept (FR 122 123 (by decide) (by decide)), p11.kept (FR 123 124 (by decide) (by decide)), p12.kept (FR 124 125 (by decide) (by decide)), p13.kept (FR 125 126 (by decide) (by decide)), p14.kept (FR 126 127 (by decide) (by decide)), p15.kept (FR 127 128 (by decide) (by decide)), p16.kept (FR 128 129 (by decide) (by decide)), ⟨hX, hXV.2⟩⟩⟩, hF.wide (ad_ix [112] (by rfl) (by decide))⟩

set_option maxHeartbeats 1000000 in
set_option maxRecDepth 100000 in
theorem k_X11_textE (l : Launch) (dC : Nat → ClassId) (dI : Nat → Nat → Nat) (G : Nat → ClassId) (sz : Nat) (ax : Nat → Nat) (hi : adInj 129 ax) (T : Nat) (Y : Nat → Int32) (fa : Int32) (W0 : Nat → Int32) (W1 : Nat → Int32) (W2 : Nat → Int32) (N : Nat) (B : Nat) (N1 : Nat) (B1 : Nat) (N2 : Nat) (B2 : Nat) (K : Nat → Int32) (S : Nat) (M : Nat) (E : Nat → Int32) (Z : Nat → Int32) (O0 : Nat → Int32) (O1 : Nat → Int32) (O2 : Nat → Int32) (CE : Nat → Int32) (MR : Nat → Int32) : Met l yX11_text (Cond.code yX11_text cX11_text 3 (some .int) :: GT) ({ frames := 5, cells := 0, slots := 0, locals := 114 } : Room) (PcI [.ref (ax 112)] dC dI G (X11I dC dI G ax T Y fa W0 W1 W2 N B N1 B1 N2 B2 K S M E Z O0 O1 O2 CE MR) sz) (va_Qi (fun (r : Int32) (_ : Unit) => r = txA Y T) (fun _ t => X11I dC dI G ax 0 Y (txF Y T) (txW Y T W0) W1 W2 (txN Y T N) (txB Y T B) N1 B1 N2 B2 (txK Y T K) (txS Y T S) (txS Y T M) E Z (txO Y T O0) O1 O2 CE MR t.heap) (adX 112 129 ax sz)) 0 0 (adX 112 129 ax sz) := by
  refine Met.pick (fun a st hp => ?_)
  obtain ⟨e0, hsz, hI, hK⟩ := hp
  subst hsz
  have hI0 := hI
  unfold X11I at hI
  obtain ⟨p0, p1, p2, p3, p4, p5, p6, p7, p8, p9, p10, p11, p12, p13, p14, p15, p16, hX⟩ := hI
  have hXV := hX
  have hX := hXV.1
  unfold X11Pr at p0
  obtain ⟨zi112_4, zi112_5, zi112_6, zi112_7, zi112_8, zi112_9, zi112_13, zi112_14, zi112_15, zn112_16, zi112_17, zi112_18, zi112_34, p0j0, p0j1, p0j2, p0j3, p0j4, p0j5, p0j6, q112⟩ := p0
  unfold X11P0 at p1
  obtain ⟨zf113, p1j0, p1j1, p1j2, p1j3, p1j4, p1j5, p1j6, p1j7, p1j8, p1j9, p1j10, q113⟩ := p1
  unfold X11P3 at p2
  obtain ⟨zf114, q114⟩ := p2
  unfold X11P10 at p3
  obtain ⟨p3j0, q115⟩ := p3
  unfold X11P19 at p4
  obtain ⟨zf116, p4j0, q116⟩ := p4
  unfold X11P20 at p5
  obtain ⟨zf117, p5j0, q117⟩ := p5
  unfold X11P26 at p10
  obtain ⟨zf122, p10j0, q122⟩ := p10
  unfold X11P30 at p13
  have q125 := p13
  refine ⟨_, _, _, c_X11_textE l dC dI G _ (ax 112) (ax 113) N B (ax 114) (ax 115) T zn112_16 (ax 116) (ax 117) (ax 118) (ax 119) (ax 120) (ax 121) S (ax 122) M (ax 123) (ax 124) (ax 125) (ax 126) (ax 127) (ax 128) zi112_4 zi112_5 zi112_6 zi112_7 zi112_8 zi112_9 fa zi112_13 zi112_14 zi112_15 zi112_17 zi112_18 zi112_34 Y zf116 zf117 zf114 zf113 K (by first | with_reducible assumption | assumption) (by first | with_reducible assumption | assumption) (by first | with_reducible assumption | assumption) (by first | with_reducible assumption | assumption) (by first | with_reducible assumption | assumption) (by first | with_reducible assumption | assumption) (by first | with_reducible assumption | assumption) (by first | with_reducible assumption | assumption) (by first | with_reducible assumption | assumption) (by first | with_reducible assumption | assumption) (by first | with_reducible assumption | assumption), ⟨e0, rfl, (vpc q112 (vpc q115 (vpc q116 (vpc q117 (vpc q114 (vpc q113 (vpc q125 va_nilP))))))), hK, vD_ix hi [112, 115, 116, 117, 114, 113, 125] (by rfl) (by decide) (by decide)⟩, ad_ix [112, 115, 116, 117, 114, 113, 125] (by rfl) (by decide), fun o t hq => ?_⟩
  obtain ⟨⟨r, ⟨obr, oba, osp, ohe, otk, ova, ors, orb, ohs, oca, oxs, oxb, ofa, oT, oN, oB, oS, oM, orp, ost, oik⟩, ho, ⟨hr, hu⟩, hP1, -⟩, hF⟩ := hq
  have FR : ∀ lo hi' : Nat, hi' ≤ 129 → ([112, 115, 116, 117, 114, 113, 125] : List Nat).all (fun x => decide (x < lo) || decide (hi' ≤ x)) = true → ∀ j : Nat, lo ≤ j → j < hi' → ax j < st.heap.size → t.heap[ax j]? = st.heap[ax j]? := fun lo hi' h1 h2 => fr_ix hi h1 hF.2 [112, 115, 116, 117, 114, 113, 125] (by rfl) (by decide) h2
  have xT : 0 = oT := Eq.symm (by first | exact hu | exact hu.1 | exact hu.2 | exact hu.1.1 | exact hu.1.2 | exact hu.2.1.trans (txt_cf (by first | with_reducible assumption | assumption)) | exact hu.2.1.trans (txt_rf (by first | with_reducible assumption | assumption)) | exact hu.1.1.trans lmap_step | omega)
  subst xT
  have xfa : (txF Y T) = ofa := Eq.symm (hu.2.1.trans (txt_rf (by first | with_reducible assumption | assumption)))
  subst xfa
  have xN : (txN Y T N) = oN := Eq.symm (hu.2.2.1.trans (txt_rN (by first | with_reducible assumption | assumption)))
  subst xN
  have xB : (txB Y T B) = oB := Eq.symm (hu.2.2.2.1.trans (txt_rB (by first | with_reducible assumption | assumption)))
  subst xB
  have xS : (txS Y T S) = oS := Eq.symm (hu.2.2.2.2.1.trans (txt_r1 (by first | with_reducible assumption | assumption)))
  subst xS
  have xM : (txS Y T M) = oM := Eq.symm (hu.2.2.2.2.2.1.trans (txt_r1 (by first | with_reducible assumption | assumption)))
  subst xM
  have y125 : (txK Y T K) = oik := Eq.symm (hu.2.2.2.2.2.2.2.trans (txt_r1 (by first | with_reducible assumption | assumption)))
  subst y125
  have hT := hu.2
  replace hu := hu.1
  have np0 : X11Pr dC dI G ax 0 (txF Y T) (txN Y T N) (txB Y T B) (txS Y T S) (txS Y T M) t.heap := ⟨ors, orb, ohs, oca, oxs, oxb, obr, oba, osp, ohe, otk, ova, zi112_34, (by first | omega | exact hu | exact hu.1 | exact hu.1.1 | exact hu.1.2 | exact hu.2 | exact hu.1.1.1 | exact hu.1.1.2 | exact fd_nn (by first | with_reducible assumption | assumption) | (split at hu <;> omega) | (split <;> omega) | exact E_inv (by first | with_reducible assumption | assumption)), (by first | omega | exact hu | exact hu.1 | exact hu.1.1 | exact hu.1.2 | exact hu.2 | exact hu.1.1.1 | exact hu.1.1.2 | exact fd_nn (by first | with_reducible assumption | assumption) | (split at hu <;> omega) | (split <;> omega) | exact E_inv (by first | with_reducible assumption | assumption)), (by first | omega | exact hu | exact hu.1 | exact hu.1.1 | exact hu.1.2 | exact hu.2 | exact hu.1.1.1 | exact hu.1.1.2 | exact fd_nn (by first | with_reducible assumption | assumption) | (split at hu <;> omega) | (split <;> omega) | exact E_inv (by first | with_reducible assumption | assumption)), (by first | omega | exact hu | exact hu.1 | exact hu.1.1 | exact hu.1.2 | exact hu.2 | exact hu.1.1.1 | exact hu.1.1.2 | exact fd_nn (by first | with_reducible assumption | assumption) | (split at hu <;> omega) | (split <;> omega) | exact E_inv (by first | with_reducible assumption | assumption)), (by first | omega | exact hu | exact hu.1 | exact hu.1.1 | exact hu.1.2 | exact hu.2 | exact hu.1.1.1 | exact hu.1.1.2 | exact fd_nn (by first | with_reducible assumption | assumption) | (split at hu <;> omega) | (split <;> omega) | exact E_inv (by first | with_reducible assumption | assumption)), (by first | omega | exact hu | exact hu.1 | exact hu.1.1 | exact hu.1.2 | exact hu.2 | exact hu.1.1.1 | exact hu.1.1.2 | exact fd_nn (by first | with_reducible assumption | assumption) | (split at hu <;> omega) | (split <;> omega) | exact E_inv (by first | with_reducible assumption | assumption)), (by first | omega | exact hu | exact hu.1 | exact hu.1.1 | exact hu.1.2 | exact hu.2 | exact hu.1.1.1 | exact hu.1.1.2 | exact fd_nn (by first | with_reducible assumption | assumption) | (split at hu <;> omega) | (split <;> omega) | exact E_inv (by first | with_reducible assumption | assumption)), hP1 0 _ rfl⟩
  have np1 : X11P0 dC dI G ax (txW Y T W0) W1 W2 (txN Y T N) (txB Y T B) N1 B1 N2 B2 (txO Y T O0) O1 O2 t.heap := ⟨ost, p1j0, p1j1, p1j2, p1j3, (by rw [hT.2.2.2.2.2.1]; exact SR.text (by first | with_reducible assumption | assumption) (by first | with_reducible assumption | assumption)), (by rw [hT.2.2.2.2.2.1]; exact SR.texto (by first | with_reducible assumption | assumption) (by decide)), (by rw [hT.2.2.2.2.2.1]; exact SR.texto (by first | with_reducible assumption | assumption) (by decide)), (by rw [hT.2.2.2.2.2.1]; exact SO.text (by first | with_reducible assumption | assumption) (by first | with_reducible assumption | assumption)), (by rw [hT.2.2.2.2.2.1]; exact SO.texto (by first | with_reducible assumption | assumption) (by decide)), (by rw [hT.2.2.2.2.2.1]; exact SO.texto (by first | with_reducible assumption | assumption) (by decide)), (by first | omega | exact hu | exact hu.1 | exact hu.1.1 | exact hu.1.2 | exact hu.2 | exact hu.1.1.1 | exact hu.1.1.2 | exact fd_nn (by first | with_reducible assumption | assumption) | (split at hu <;> omega) | (split <;> omega) | exact E_inv (by first | with_reducible assumption | assumption)), hP1 5 _ rfl⟩
  have np2 : X11P3 dC dI G ax t.heap := ⟨orp, hP1 4 _ rfl⟩
  have np3 : X11P10 dC dI G ax Y t.heap := ⟨p3j0, hP1 1 _ rfl⟩
  have np4 : X11P19 dC dI G ax t.heap := ⟨zf116, p4j0, hP1 2 _ rfl⟩
  have np5 : X11P20 dC dI G ax t.heap := ⟨zf117, p5j0, hP1 3 _ rfl⟩
  have np10 : X11P26 dC dI G ax (txS Y T M) MR t.heap := ⟨zf122, (RMk.le (by first | with_reducible assumption | assumption) txS_le), q122.kept (FR 122 123 (by decide) (by decide) 122 (by decide) (by decide) q122.lt)⟩
  have np13 : X11P30 dC dI G ax (txK Y T K) t.heap := hP1 6 _ rfl
  exact ⟨⟨r, (), ho, hr.trans (txt_ra (by first | with_reducible assumption | assumption)), ⟨np0, np1, np2, np3, np4, np5, p6.kept (FR 118 119 (by decide) (by decide)), p7.kept (FR 119 120 (by decide) (by decide)), p8.kept (FR 120 121 (by decide) (by decide)), p9.kept (FR 121 122 (by decide) (by decide)), np10, p11.kept (FR 123 124 (by decide) (by decide)), p12.kept (FR 124 125 (by decide) (by decide)), np13, p14.kept (FR 126 127 (by decide) (by decide)), p15.kept (FR 127 128 (by decide) (by decide)), p16.kept (FR 128 129 (by decide) (by decide)), ⟨tx_X hX, tx_V (by first | with_reducible assumption | assumption) hXV.2⟩⟩⟩, hF.wide (ad_ix [112, 115, 116, 117, 114, 113, 125] (by rfl) (by decide))⟩

set_option maxHeartbeats 1000000 in
set_option maxRecDepth 100000 in
theorem k_X11_faultE (l : Launch) (dC : Nat → ClassId) (dI : Nat → Nat → Nat) (G : Nat → ClassId) (sz : Nat) (ax : Nat → Nat) (hi : adInj 129 ax) (T : Nat) (Y : Nat → Int32) (fa : Int32) (W0 : Nat → Int32) (W1 : Nat → Int32) (W2 : Nat → Int32) (N : Nat) (B : Nat) (N1 : Nat) (B1 : Nat) (N2 : Nat) (B2 : Nat) (K : Nat → Int32) (S : Nat) (M : Nat) (E : Nat → Int32) (Z : Nat → Int32) (O0 : Nat → Int32) (O1 : Nat → Int32) (O2 : Nat → Int32) (CE : Nat → Int32) (MR : Nat → Int32) : Met l yX11_fault (Cond.code yX11_fault cX11_fault 1 (some .int) :: GT) ({ frames := 0, cells := 0, slots := 0, locals := 0 } : Room) (PcI [.ref (ax 112)] dC dI G (X11I dC dI G ax T Y fa W0 W1 W2 N B N1 B1 N2 B2 K S M E Z O0 O1 O2 CE MR) sz) (va_Qi (fun (r : Int32) (_ : Unit) => r = fa) (fun _ t => X11I dC dI G ax T Y fa W0 W1 W2 N B N1 B1 N2 B2 K S M E Z O0 O1 O2 CE MR t.heap) (adX 112 129 ax sz)) 0 0 (adX 112 129 ax sz) := by
  refine Met.pick (fun a st hp => ?_)
  obtain ⟨e0, hsz, hI, hK⟩ := hp
  subst hsz
  have hI0 := hI
  unfold X11I at hI
  obtain ⟨p0, p1, p2, p3, p4, p5, p6, p7, p8, p9, p10, p11, p12, p13, p14, p15, p16, hX⟩ := hI
  have hXV := hX
  have hX := hXV.1
  unfold X11Pr at p0
  obtain ⟨zi112_4, zi112_5, zi112_6, zi112_7, zi112_8, zi112_9, zi112_13, zi112_14, zi112_15, zn112_16, zi112_17, zi112_18, zi112_34, p0j0, p0j1, p0j2, p0j3, p0j4, p0j5, p0j6, q112⟩ := p0
  refine ⟨_, _, _, c_X11_faultE l dC dI G _ (ax 112) (ax 113) N B (ax 114) (ax 115) T (ax 116) (ax 117) (ax 118) (ax 119) (ax 120) (ax 121) S (ax 122) M (ax 123) (ax 124) (ax 125) (ax 126) (ax 127) (ax 128) zi112_4 zi112_5 zi112_6 zi112_7 zi112_8 zi112_9 fa zi112_13 zi112_14 zi112_15 (nI zn112_16) zi112_17 zi112_18 zi112_34 (by first | with_reducible assumption | assumption) (by first | with_reducible assumption | assumption) (by first | with_reducible assumption | assumption) (by first | with_reducible assumption | assumption) (by first | with_reducible assumption | assumption), ⟨e0, rfl, (vpc q112 va_nilP), hK⟩, fun q h => Or.inr h, fun o t hq => ?_⟩
  obtain ⟨⟨r, u, ho, ⟨hr, hu⟩, -⟩, hF⟩ := hq
  exact ⟨⟨r, (), ho, hr, hI0.kept (fun j _ _ h => hF.2 _ h (Nat.not_le.mpr h))⟩, hF.wide (fun q h => Or.inr h)⟩

set_option maxHeartbeats 1000000 in
set_option maxRecDepth 100000 in
theorem k_X11_ruleE (l : Launch) (dC : Nat → ClassId) (dI : Nat → Nat → Nat) (G : Nat → ClassId) (sz : Nat) (ax : Nat → Nat) (hi : adInj 129 ax) (T : Nat) (Y : Nat → Int32) (fa : Int32) (W0 : Nat → Int32) (W1 : Nat → Int32) (W2 : Nat → Int32) (N : Nat) (B : Nat) (N1 : Nat) (B1 : Nat) (N2 : Nat) (B2 : Nat) (K : Nat → Int32) (S : Nat) (M : Nat) (E : Nat → Int32) (Z : Nat → Int32) (O0 : Nat → Int32) (O1 : Nat → Int32) (O2 : Nat → Int32) (CE : Nat → Int32) (MR : Nat → Int32) (what : Int32) : Met l yX11_rule (Cond.code yX11_rule cX11_rule 2 (some .int) :: GT) ({ frames := 1, cells := 0, slots := 0, locals := 20 } : Room) (PcI [.ref (ax 112), .int what] dC dI G (X11I dC dI G ax T Y fa W0 W1 W2 N B N1 B1 N2 B2 K S M E Z O0 O1 O2 CE MR) sz) (va_Qi (fun (r : Int32) (_ : Unit) => r = ruF what N B (W0 48 + 5)) (fun _ t => X11I dC dI G ax T Y fa W0 W1 W2 N B N1 B1 N2 B2 K S M E Z O0 O1 O2 CE MR t.heap) (adX 112 129 ax sz)) 0 0 (adX 112 129 ax sz) := by
  refine Met.pick (fun a st hp => ?_)
  obtain ⟨e0, hsz, hI, hK⟩ := hp
  subst hsz
  have hI0 := hI
  unfold X11I at hI
  obtain ⟨p0, p1, p2, p3, p4, p5, p6, p7, p8, p9, p10, p11, p12, p13, p14, p15, p16, hX⟩ := hI
  have hXV := hX
  have hX := hXV.1
  unfold X11Pr at p0
  obtain ⟨zi112_4, zi112_5, zi112_6, zi112_7, zi112_8, zi112_9, zi112_13, zi112_14, zi112_15, zn112_16, zi112_17, zi112_18, zi112_34, p0j0, p0j1, p0j2, p0j3, p0j4, p0j5, p0j6, q112⟩ := p0
  unfold X11P0 at p1
  obtain ⟨zf113, p1j0, p1j1, p1j2, p1j3, p1j4, p1j5, p1j6, p1j7, p1j8, p1j9, p1j10, q113⟩ := p1
  refine ⟨_, _, _, c_X11_ruleE l dC dI G _ (ax 112) (ax 113) N B (ax 114) (ax 115) T (ax 116) (ax 117) (ax 118) (ax 119) (ax 120) (ax 121) S (ax 122) M (ax 123) (ax 124) (ax 125) (ax 126) (ax 127) (ax 128) what zi112_4 zi112_5 zi112_6 zi112_7 zi112_8 zi112_9 fa zi112_13 zi112_14 zi112_15 (nI zn112_16) zi112_17 zi112_18 zi112_34 zf113 (by first | with_reducible assumption | assumption) (by first | with_reducible assumption | assumption) (by first | with_reducible assumption | assumption) (by first | with_reducible assumption | assumption) (by first | with_reducible assumption | assumption) (by first | with_reducible assumption | assumption), ⟨e0, rfl, (vpc q112 (vpc q113 va_nilP)), hK⟩, fun q h => Or.inr h, fun o t hq => ?_⟩
  obtain ⟨⟨r, u, ho, ⟨hr, hu⟩, -⟩, hF⟩ := hq
  exact ⟨⟨r, (), ho, hr.trans (ru_r (by first | with_reducible assumption | assumption)), hI0.kept (fun j _ _ h => hF.2 _ h (Nat.not_le.mpr h))⟩, hF.wide (fun q h => Or.inr h)⟩

set_option maxHeartbeats 1000000 in
set_option maxRecDepth 100000 in
theorem k_X11_stretch (l : Launch) (dC : Nat → ClassId) (dI : Nat → Nat → Nat) (G : Nat → ClassId) (sz : Nat) (ax : Nat → Nat) (hi : adInj 129 ax) (T : Nat) (Y : Nat → Int32) (fa : Int32) (W0 : Nat → Int32) (W1 : Nat → Int32) (W2 : Nat → Int32) (N : Nat) (B : Nat) (N1 : Nat) (B1 : Nat) (N2 : Nat) (B2 : Nat) (K : Nat → Int32) (S : Nat) (M : Nat) (E : Nat → Int32) (Z : Nat → Int32) (O0 : Nat → Int32) (O1 : Nat → Int32) (O2 : Nat → Int32) (CE : Nat → Int32) (MR : Nat → Int32) (i : Int32) (what : Int32) : Met l yX11_stretch (Cond.code yX11_stretch cX11_stretch 3 (some .int) :: GT) ({ frames := 2, cells := 0, slots := 0, locals := 46 } : Room) (PcI [.ref (ax 112), .int i, .int what] dC dI G (X11I dC dI G ax T Y fa W0 W1 W2 N B N1 B1 N2 B2 K S M E Z O0 O1 O2 CE MR) sz) (va_Qi (fun (r : Int32) (_ : Unit) => True) (fun _ t => X11I dC dI G ax T Y fa W0 W1 W2 N B N1 B1 N2 B2 K S M E Z O0 O1 O2 CE MR t.heap) (adX 112 129 ax sz)) 0 0 (adX 112 129 ax sz) := by
  refine Met.pick (fun a st hp => ?_)
  obtain ⟨e0, hsz, hI, hK⟩ := hp
  subst hsz
  have hI0 := hI
  unfold X11I at hI
  obtain ⟨p0, p1, p2, p3, p4, p5, p6, p7, p8, p9, p10, p11, p12, p13, p14, p15, p16, hX⟩ := hI
  have hXV := hX
  have hX := hXV.1
  unfold X11Pr at p0
  obtain ⟨zi112_4, zi112_5, zi112_6, zi112_7, zi112_8, zi112_9, zi112_13, zi112_14, zi112_15, zn112_16, zi112_17, zi112_18, zi112_34, p0j0, p0j1, p0j2, p0j3, p0j4, p0j5, p0j6, q112⟩ := p0
  unfold X11P0 at p1
  obtain ⟨zf113, p1j0, p1j1, p1j2, p1j3, p1j4, p1j5, p1j6, p1j7, p1j8, p1j9, p1j10, q113⟩ := p1
  refine ⟨_, _, _, c_X11_stretch l dC dI G _ (ax 112) (ax 113) N B (ax 114) (ax 115) T (ax 116) (ax 117) (ax 118) (ax 119) (ax 120) (ax 121) S (ax 122) M (ax 123) (ax 124) (ax 125) (ax 126) (ax 127) (ax 128) i what zi112_4 zi112_5 zi112_6 zi112_7 zi112_8 zi112_9 fa zi112_13 zi112_14 zi112_15 (nI zn112_16) zi112_17 zi112_18 zi112_34 zf113 (by first | with_reducible assumption | assumption) (by first | with_reducible assumption | assumption) (by first | with_reducible assumption | assumption) (by first | with_reducible assumption | assumption) (by first | with_reducible assumption | assumption), ⟨e0, rfl, (vpc q112 (vpc q113 va_nilP)), hK⟩, fun q h => Or.inr h, fun o t hq => ?_⟩
  obtain ⟨⟨r, u, ho, ⟨hr, hu⟩, -⟩, hF⟩ := hq
  exact ⟨⟨r, (), ho, trivial, hI0.kept (fun j _ _ h => hF.2 _ h (Nat.not_le.mpr h))⟩, hF.wide (fun q h => Or.inr h)⟩

set_option maxHeartbeats 1000000 in
set_option maxRecDepth 100000 in
theorem k_X11_bearerE (l : Launch) (dC : Nat → ClassId) (dI : Nat → Nat → Nat) (G : Nat → ClassId) (sz : Nat) (ax : Nat → Nat) (hi : adInj 129 ax) (T : Nat) (Y : Nat → Int32) (fa : Int32) (W0 : Nat → Int32) (W1 : Nat → Int32) (W2 : Nat → Int32) (N : Nat) (B : Nat) (N1 : Nat) (B1 : Nat) (N2 : Nat) (B2 : Nat) (K : Nat → Int32) (S : Nat) (M : Nat) (E : Nat → Int32) (Z : Nat → Int32) (O0 : Nat → Int32) (O1 : Nat → Int32) (O2 : Nat → Int32) (CE : Nat → Int32) (MR : Nat → Int32) (i : Int32) (what : Int32) : Met l yX11_bearer (Cond.code yX11_bearer cX11_bearer 3 (some .int) :: GT) ({ frames := 2, cells := 0, slots := 0, locals := 46 } : Room) (PcI [.ref (ax 112), .int i, .int what] dC dI G (X11I dC dI G ax T Y fa W0 W1 W2 N B N1 B1 N2 B2 K S M E Z O0 O1 O2 CE MR) sz) (va_Qi (fun (r : Int32) (_ : Unit) => r = if (0 ≤ i.toInt ∧ i.toInt < ((B : Nat) : Int)) then beF what (W0 (20 + 3 * i.toNatClampNeg)) (W0 (20 + 3 * i.toNatClampNeg + 1)) (W0 (20 + 3 * i.toNatClampNeg + 2)) else -1) (fun _ t => X11I dC dI G ax T Y fa W0 W1 W2 N B N1 B1 N2 B2 K S M E Z O0 O1 O2 CE MR t.heap) (adX 112 129 ax sz)) 0 0 (adX 112 129 ax sz) := by
  refine Met.pick (fun a st hp => ?_)
  obtain ⟨e0, hsz, hI, hK⟩ := hp
  subst hsz
  have hI0 := hI
  unfold X11I at hI
  obtain ⟨p0, p1, p2, p3, p4, p5, p6, p7, p8, p9, p10, p11, p12, p13, p14, p15, p16, hX⟩ := hI
  have hXV := hX
  have hX := hXV.1
  unfold X11Pr at p0
  obtain ⟨zi112_4, zi112_5, zi112_6, zi112_7, zi112_8, zi112_9, zi112_13, zi112_14, zi112_15, zn112_16, zi112_17, zi112_18, zi112_34, p0j0, p0j1, p0j2, p0j3, p0j4, p0j5, p0j6, q112⟩ := p0
  unfold X11P0 at p1
  obtain ⟨zf113, p1j0, p1j1, p1j2, p1j3, p1j4, p1j5, p1j6, p1j7, p1j8, p1j9, p1j10, q113⟩ := p1
  refine ⟨_, _, _, c_X11_bearerE l dC dI G _ (ax 112) (ax 113) N B (ax 114) (ax 115) T (ax 116) (ax 117) (ax 118) (ax 119) (ax 120) (ax 121) S (ax 122) M (ax 123) (ax 124) (ax 125) (ax 126) (ax 127) (ax 128) i what zi112_4 zi112_5 zi112_6 zi112_7 zi112_8 zi112_9 fa zi112_13 zi112_14 zi112_15 (nI zn112_16) zi112_17 zi112_18 zi112_34 zf113 (by first | with_reducible assumption | assumption) (by first | with_reducible assumption | assumption) (by first | with_reducible assumption | assumption) (by first | with_reducible assumption | assumption) (by first | with_reducible assumption | assumption), ⟨e0, rfl, (vpc q112 (vpc q113 va_nilP)), hK⟩, fun q h => Or.inr h, fun o t hq => ?_⟩
  obtain ⟨⟨r, u, ho, ⟨hr, hu⟩, -⟩, hF⟩ := hq
  exact ⟨⟨r, (), ho, hr.trans (be_r (by first | with_reducible assumption | assumption)), hI0.kept (fun j _ _ h => hF.2 _ h (Nat.not_le.mpr h))⟩, hF.wide (fun q h => Or.inr h)⟩

set_option maxHeartbeats 1000000 in
set_option maxRecDepth 100000 in
theorem k_X11_startE (l : Launch) (dC : Nat → ClassId) (dI : Nat → Nat → Nat) (G : Nat → ClassId) (sz : Nat) (ax : Nat → Nat) (hi : adInj 129 ax) (T : Nat) (Y : Nat → Int32) (fa : Int32) (W0 : Nat → Int32) (W1 : Nat → Int32) (W2 : Nat → Int32) (N : Nat) (B : Nat) (N1 : Nat) (B1 : Nat) (N2 : Nat) (B2 : Nat) (K : Nat → Int32) (S : Nat) (M : Nat) (E : Nat → Int32) (Z : Nat → Int32) (O0 : Nat → Int32) (O1 : Nat → Int32) (O2 : Nat → Int32) (CE : Nat → Int32) (MR : Nat → Int32) (v : Int32) : Met l yX11_start (Cond.code yX11_start cX11_start 2 (some .int) :: GT) ({ frames := 1, cells := 0, slots := 0, locals := 25 } : Room) (PcI [.ref (ax 112), .int v] dC dI G (X11I dC dI G ax T Y fa W0 W1 W2 N B N1 B1 N2 B2 K S M E Z O0 O1 O2 CE MR) sz) (va_Qi (fun (r : Int32) (_ : Unit) => r = if (1 ≤ v.toInt ∧ v.toInt ≤ 9) then W0 48 + 5 else -1) (fun _ t => X11I dC dI G ax T Y fa (if (1 ≤ v.toInt ∧ v.toInt ≤ 9) then upd W0 48 (v - 5) else W0) W1 W2 N B N1 B1 N2 B2 K S M E Z O0 O1 O2 CE MR t.heap) (adX 112 129 ax sz)) 0 0 (adX 112 129 ax sz) := by
  refine Met.pick (fun a st hp => ?_)
  obtain ⟨e0, hsz, hI, hK⟩ := hp
  subst hsz
  have hI0 := hI
  unfold X11I at hI
  obtain ⟨p0, p1, p2, p3, p4, p5, p6, p7, p8, p9, p10, p11, p12, p13, p14, p15, p16, hX⟩ := hI
  have hXV := hX
  have hX := hXV.1
  unfold X11Pr at p0
  obtain ⟨zi112_4, zi112_5, zi112_6, zi112_7, zi112_8, zi112_9, zi112_13, zi112_14, zi112_15, zn112_16, zi112_17, zi112_18, zi112_34, p0j0, p0j1, p0j2, p0j3, p0j4, p0j5, p0j6, q112⟩ := p0
  unfold X11P0 at p1
  obtain ⟨zf113, p1j0, p1j1, p1j2, p1j3, p1j4, p1j5, p1j6, p1j7, p1j8, p1j9, p1j10, q113⟩ := p1
  refine ⟨_, _, _, c_X11_startE l dC dI G _ (ax 112) (ax 113) N B (ax 114) (ax 115) T (ax 116) (ax 117) (ax 118) (ax 119) (ax 120) (ax 121) S (ax 122) M (ax 123) (ax 124) (ax 125) (ax 126) (ax 127) (ax 128) v zi112_4 zi112_5 zi112_6 zi112_7 zi112_8 zi112_9 fa zi112_13 zi112_14 zi112_15 (nI zn112_16) zi112_17 zi112_18 zi112_34 zf113 (by first | with_reducible assumption | assumption) (by first | with_reducible assumption | assumption) (by first | with_reducible assumption | assumption) (by first | with_reducible assumption | assumption) (by first | with_reducible assumption | assumption) (by first | with_reducible assumption | assumption), ⟨e0, rfl, (vpc q112 (vpc q113 va_nilP)), hK, vD_ix hi [112, 113] (by rfl) (by decide) (by decide)⟩, ad_ix [112, 113] (by rfl) (by decide), fun o t hq => ?_⟩
  obtain ⟨⟨r, ost, ho, ⟨hr, hu⟩, hP1, -⟩, hF⟩ := hq
  have FR : ∀ lo hi' : Nat, hi' ≤ 129 → ([112, 113] : List Nat).all (fun x => decide (x < lo) || decide (hi' ≤ x)) = true → ∀ j : Nat, lo ≤ j → j < hi' → ax j < st.heap.size → t.heap[ax j]? = st.heap[ax j]? := fun lo hi' h1 h2 => fr_ix hi h1 hF.2 [112, 113] (by rfl) (by decide) h2
  have np0 : X11Pr dC dI G ax T fa N B S M t.heap := ⟨zi112_4, zi112_5, zi112_6, zi112_7, zi112_8, zi112_9, zi112_13, zi112_14, zi112_15, zn112_16, zi112_17, zi112_18, zi112_34, p0j0, p0j1, p0j2, p0j3, p0j4, p0j5, p0j6, hP1 0 _ rfl⟩
  have np1 : X11P0 dC dI G ax (if (1 ≤ v.toInt ∧ v.toInt ≤ 9) then upd W0 48 (v - 5) else W0) W1 W2 N B N1 B1 N2 B2 O0 O1 O2 t.heap := ⟨ost, p1j0, p1j1, p1j2, p1j3, (by rw [hu.2]; exact SR.set (by first | with_reducible assumption | assumption)), (by rw [hu.2]; exact SR.oth (by first | with_reducible assumption | assumption) (by decide) (fun _ => by decide)), (by rw [hu.2]; exact SR.oth (by first | with_reducible assumption | assumption) (by decide) (fun _ => by decide)), (by rw [hu.2]; exact SO.oth (by first | with_reducible assumption | assumption) (fun c9 => by omega)), (by rw [hu.2]; exact SO.oth (by first | with_reducible assumption | assumption) (fun c9 => by omega)), (by rw [hu.2]; exact SO.oth (by first | with_reducible assumption | assumption) (fun c9 => by omega)), (by first | omega | exact hu | exact hu.1 | exact hu.1.1 | exact hu.1.2 | exact hu.2 | exact hu.1.1.1 | exact hu.1.1.2 | exact fd_nn (by first | with_reducible assumption | assumption) | (split at hu <;> omega) | (split <;> omega) | exact E_inv (by first | with_reducible assumption | assumption)), hP1 1 _ rfl⟩
  exact ⟨⟨r, (), ho, hr.trans (sd_r (by first | with_reducible assumption | assumption)), ⟨np0, np1, p2.kept (FR 114 115 (by decide) (by decide)), p3.kept (FR 115 116 (by decide) (by decide)), p4.kept (FR 116 117 (by decide) (by decide)), p5.kept (FR 117 118 (by decide) (by decide)), p6.kept (FR 118 119 (by decide) (by decide)), p7.kept (FR 119 120 (by decide) (by decide)), p8.kept (FR 120 121 (by decide) (by decide)), p9.kept (FR 121 122 (by decide) (by decide)), p10.kept (FR 122 123 (by decide) (by decide)), p11.kept (FR 123 124 (by decide) (by decide)), p12.kept (FR 124 125 (by decide) (by decide)), p13.kept (FR 125 126 (by decide) (by decide)), p14.kept (FR 126 127 (by decide) (by decide)), p15.kept (FR 127 128 (by decide) (by decide)), p16.kept (FR 128 129 (by decide) (by decide)), ⟨hX, hXV.2⟩⟩⟩, hF.wide (ad_ix [112, 113] (by rfl) (by decide))⟩

set_option maxHeartbeats 1000000 in
set_option maxRecDepth 100000 in
theorem k_X11_noiseE (l : Launch) (dC : Nat → ClassId) (dI : Nat → Nat → Nat) (G : Nat → ClassId) (sz : Nat) (ax : Nat → Nat) (hi : adInj 129 ax) (T : Nat) (Y : Nat → Int32) (fa : Int32) (W0 : Nat → Int32) (W1 : Nat → Int32) (W2 : Nat → Int32) (N : Nat) (B : Nat) (N1 : Nat) (B1 : Nat) (N2 : Nat) (B2 : Nat) (K : Nat → Int32) (S : Nat) (M : Nat) (E : Nat → Int32) (Z : Nat → Int32) (O0 : Nat → Int32) (O1 : Nat → Int32) (O2 : Nat → Int32) (CE : Nat → Int32) (MR : Nat → Int32) (i : Int32) (v : Int32) : Met l yX11_noise (Cond.code yX11_noise cX11_noise 3 (some .int) :: GT) ({ frames := 2, cells := 0, slots := 0, locals := 46 } : Room) (PcI [.ref (ax 112), .int i, .int v] dC dI G (X11I dC dI G ax T Y fa W0 W1 W2 N B N1 B1 N2 B2 K S M E Z O0 O1 O2 CE MR) sz) (va_Qi (fun (r : Int32) (_ : Unit) => r = if ((0 ≤ i.toInt ∧ i.toInt < ((N : Nat) : Int)) ∧ 0 ≤ v.toInt ∧ v.toInt ≤ 9) then W0 (2 * i.toNatClampNeg) else -1) (fun _ t => X11I dC dI G ax T Y fa (if ((0 ≤ i.toInt ∧ i.toInt < ((N : Nat) : Int)) ∧ 0 ≤ v.toInt ∧ v.toInt ≤ 9) then upd W0 (2 * i.toNatClampNeg) v else W0) W1 W2 N B N1 B1 N2 B2 K S M E Z O0 O1 O2 CE MR t.heap) (adX 112 129 ax sz)) 0 0 (adX 112 129 ax sz) := by
  refine Met.pick (fun a st hp => ?_)
  obtain ⟨e0, hsz, hI, hK⟩ := hp
  subst hsz
  have hI0 := hI
  unfold X11I at hI
  obtain ⟨p0, p1, p2, p3, p4, p5, p6, p7, p8, p9, p10, p11, p12, p13, p14, p15, p16, hX⟩ := hI
  have hXV := hX
  have hX := hXV.1
  unfold X11Pr at p0
  obtain ⟨zi112_4, zi112_5, zi112_6, zi112_7, zi112_8, zi112_9, zi112_13, zi112_14, zi112_15, zn112_16, zi112_17, zi112_18, zi112_34, p0j0, p0j1, p0j2, p0j3, p0j4, p0j5, p0j6, q112⟩ := p0
  unfold X11P0 at p1
  obtain ⟨zf113, p1j0, p1j1, p1j2, p1j3, p1j4, p1j5, p1j6, p1j7, p1j8, p1j9, p1j10, q113⟩ := p1
  refine ⟨_, _, _, c_X11_noiseE l dC dI G _ (ax 112) (ax 113) N B (ax 114) (ax 115) T (ax 116) (ax 117) (ax 118) (ax 119) (ax 120) (ax 121) S (ax 122) M (ax 123) (ax 124) (ax 125) (ax 126) (ax 127) (ax 128) i v zi112_4 zi112_5 zi112_6 zi112_7 zi112_8 zi112_9 fa zi112_13 zi112_14 zi112_15 (nI zn112_16) zi112_17 zi112_18 zi112_34 zf113 (by first | with_reducible assumption | assumption) (by first | with_reducible assumption | assumption) (by first | with_reducible assumption | assumption) (by first | with_reducible assumption | assumption) (by first | with_reducible assumption | assumption) (by first | with_reducible assumption | assumption), ⟨e0, rfl, (vpc q112 (vpc q113 va_nilP)), hK, vD_ix hi [112, 113] (by rfl) (by decide) (by decide)⟩, ad_ix [112, 113] (by rfl) (by decide), fun o t hq => ?_⟩
  obtain ⟨⟨r, ost, ho, ⟨hr, hu⟩, hP1, -⟩, hF⟩ := hq
  have FR : ∀ lo hi' : Nat, hi' ≤ 129 → ([112, 113] : List Nat).all (fun x => decide (x < lo) || decide (hi' ≤ x)) = true → ∀ j : Nat, lo ≤ j → j < hi' → ax j < st.heap.size → t.heap[ax j]? = st.heap[ax j]? := fun lo hi' h1 h2 => fr_ix hi h1 hF.2 [112, 113] (by rfl) (by decide) h2
  have np0 : X11Pr dC dI G ax T fa N B S M t.heap := ⟨zi112_4, zi112_5, zi112_6, zi112_7, zi112_8, zi112_9, zi112_13, zi112_14, zi112_15, zn112_16, zi112_17, zi112_18, zi112_34, p0j0, p0j1, p0j2, p0j3, p0j4, p0j5, p0j6, hP1 0 _ rfl⟩
  have np1 : X11P0 dC dI G ax (if ((0 ≤ i.toInt ∧ i.toInt < ((N : Nat) : Int)) ∧ 0 ≤ v.toInt ∧ v.toInt ≤ 9) then upd W0 (2 * i.toNatClampNeg) v else W0) W1 W2 N B N1 B1 N2 B2 O0 O1 O2 t.heap := ⟨ost, p1j0, p1j1, p1j2, p1j3, (by rw [hu.2]; exact SR.set (by first | with_reducible assumption | assumption)), (by rw [hu.2]; exact SR.oth (by first | with_reducible assumption | assumption) (by decide) (fun c9 => by have b9 := ck_lt c9.1; omega)), (by rw [hu.2]; exact SR.oth (by first | with_reducible assumption | assumption) (by decide) (fun c9 => by have b9 := ck_lt c9.1; omega)), (by rw [hu.2]; exact SO.oth (by first | with_reducible assumption | assumption) (fun c9 => by have b9 := ck_lt c9.1; omega)), (by rw [hu.2]; exact SO.oth (by first | with_reducible assumption | assumption) (fun c9 => by have b9 := ck_lt c9.1; omega)), (by rw [hu.2]; exact SO.oth (by first | with_reducible assumption | assumption) (fun c9 => by have b9 := ck_lt c9.1; omega)), (by first | omega | exact hu | exact hu.1 | exact hu.1.1 | exact hu.1.2 | exact hu.2 | exact hu.1.1.1 | exact hu.1.1.2 | exact fd_nn (by first | with_reducible assumption | assumption) | (split at hu <;> omega) | (split <;> omega) | exact E_inv (by first | with_reducible assumption | assumption)), hP1 1 _ rfl⟩
  exact ⟨⟨r, (), ho, hr.trans (nN_r (by first | with_reducible assumption | assumption) (fun b9 => Or.inr (Or.inl (by omega)))), ⟨np0, np1, p2.kept (FR 114 115 (by decide) (by decide)), p3.kept (FR 115 116 (by decide) (by decide)), p4.kept (FR 116 117 (by decide) (by decide)), p5.kept (FR 117 118 (by decide) (by decide)), p6.kept (FR 118 119 (by decide) (by decide)), p7.kept (FR 119 120 (by decide) (by decide)), p8.kept (FR 120 121 (by decide) (by decide)), p9.kept (FR 121 122 (by decide) (by decide)), p10.kept (FR 122 123 (by decide) (by decide)), p11.kept (FR 123 124 (by decide) (by decide)), p12.kept (FR 124 125 (by decide) (by decide)), p13.kept (FR 125 126 (by decide) (by decide)), p14.kept (FR 126 127 (by decide) (by decide)), p15.kept (FR 127 128 (by decide) (by decide)), p16.kept (FR 128 129 (by decide) (by decide)), ⟨hX, hXV.2⟩⟩⟩, hF.wide (ad_ix [112, 113] (by rfl) (by decide))⟩

set_option maxHeartbeats 1000000 in
set_option maxRecDepth 100000 in
theorem k_X11_coldE (l : Launch) (dC : Nat → ClassId) (dI : Nat → Nat → Nat) (G : Nat → ClassId) (sz : Nat) (ax : Nat → Nat) (hi : adInj 129 ax) (T : Nat) (Y : Nat → Int32) (fa : Int32) (W0 : Nat → Int32) (W1 : Nat → Int32) (W2 : Nat → Int32) (N : Nat) (B : Nat) (N1 : Nat) (B1 : Nat) (N2 : Nat) (B2 : Nat) (K : Nat → Int32) (S : Nat) (M : Nat) (E : Nat → Int32) (Z : Nat → Int32) (O0 : Nat → Int32) (O1 : Nat → Int32) (O2 : Nat → Int32) (CE : Nat → Int32) (MR : Nat → Int32) (i : Int32) (v : Int32) : Met l yX11_cold (Cond.code yX11_cold cX11_cold 3 (some .int) :: GT) ({ frames := 2, cells := 0, slots := 0, locals := 46 } : Room) (PcI [.ref (ax 112), .int i, .int v] dC dI G (X11I dC dI G ax T Y fa W0 W1 W2 N B N1 B1 N2 B2 K S M E Z O0 O1 O2 CE MR) sz) (va_Qi (fun (r : Int32) (_ : Unit) => r = if ((0 ≤ i.toInt ∧ i.toInt < ((N : Nat) : Int)) ∧ 0 ≤ v.toInt ∧ v.toInt ≤ 9) then W0 (2 * i.toNatClampNeg + 1) else -1) (fun _ t => X11I dC dI G ax T Y fa (if ((0 ≤ i.toInt ∧ i.toInt < ((N : Nat) : Int)) ∧ 0 ≤ v.toInt ∧ v.toInt ≤ 9) then upd W0 (2 * i.toNatClampNeg + 1) v else W0) W1 W2 N B N1 B1 N2 B2 K S M E Z O0 O1 O2 CE MR t.heap) (adX 112 129 ax sz)) 0 0 (adX 112 129 ax sz) := by
  refine Met.pick (fun a st hp => ?_)
  obtain ⟨e0, hsz, hI, hK⟩ := hp
  subst hsz
  have hI0 := hI
  unfold X11I at hI
  obtain ⟨p0, p1, p2, p3, p4, p5, p6, p7, p8, p9, p10, p11, p12, p13, p14, p15, p16, hX⟩ := hI
  have hXV := hX
  have hX := hXV.1
  unfold X11Pr at p0
  obtain ⟨zi112_4, zi112_5, zi112_6, zi112_7, zi112_8, zi112_9, zi112_13, zi112_14, zi112_15, zn112_16, zi112_17, zi112_18, zi112_34, p0j0, p0j1, p0j2, p0j3, p0j4, p0j5, p0j6, q112⟩ := p0
  unfold X11P0 at p1
  obtain ⟨zf113, p1j0, p1j1, p1j2, p1j3, p1j4, p1j5, p1j6, p1j7, p1j8, p1j9, p1j10, q113⟩ := p1
  refine ⟨_, _, _, c_X11_coldE l dC dI G _ (ax 112) (ax 113) N B (ax 114) (ax 115) T (ax 116) (ax 117) (ax 118) (ax 119) (ax 120) (ax 121) S (ax 122) M (ax 123) (ax 124) (ax 125) (ax 126) (ax 127) (ax 128) i v zi112_4 zi112_5 zi112_6 zi112_7 zi112_8 zi112_9 fa zi112_13 zi112_14 zi112_15 (nI zn112_16) zi112_17 zi112_18 zi112_34 zf113 (by first | with_reducible assumption | assumption) (by first | with_reducible assumption | assumption) (by first | with_reducible assumption | assumption) (by first | with_reducible assumption | assumption) (by first | with_reducible assumption | assumption) (by first | with_reducible assumption | assumption), ⟨e0, rfl, (vpc q112 (vpc q113 va_nilP)), hK, vD_ix hi [112, 113] (by rfl) (by decide) (by decide)⟩, ad_ix [112, 113] (by rfl) (by decide), fun o t hq => ?_⟩
  obtain ⟨⟨r, ost, ho, ⟨hr, hu⟩, hP1, -⟩, hF⟩ := hq
  have FR : ∀ lo hi' : Nat, hi' ≤ 129 → ([112, 113] : List Nat).all (fun x => decide (x < lo) || decide (hi' ≤ x)) = true → ∀ j : Nat, lo ≤ j → j < hi' → ax j < st.heap.size → t.heap[ax j]? = st.heap[ax j]? := fun lo hi' h1 h2 => fr_ix hi h1 hF.2 [112, 113] (by rfl) (by decide) h2
  have np0 : X11Pr dC dI G ax T fa N B S M t.heap := ⟨zi112_4, zi112_5, zi112_6, zi112_7, zi112_8, zi112_9, zi112_13, zi112_14, zi112_15, zn112_16, zi112_17, zi112_18, zi112_34, p0j0, p0j1, p0j2, p0j3, p0j4, p0j5, p0j6, hP1 0 _ rfl⟩
  have np1 : X11P0 dC dI G ax (if ((0 ≤ i.toInt ∧ i.toInt < ((N : Nat) : Int)) ∧ 0 ≤ v.toInt ∧ v.toInt ≤ 9) then upd W0 (2 * i.toNatClampNeg + 1) v else W0) W1 W2 N B N1 B1 N2 B2 O0 O1 O2 t.heap := ⟨ost, p1j0, p1j1, p1j2, p1j3, (by rw [hu.2]; exact SR.set (by first | with_reducible assumption | assumption)), (by rw [hu.2]; exact SR.oth (by first | with_reducible assumption | assumption) (by decide) (fun c9 => by have b9 := ck_lt c9.1; omega)), (by rw [hu.2]; exact SR.oth (by first | with_reducible assumption | assumption) (by decide) (fun c9 => by have b9 := ck_lt c9.1; omega)), (by rw [hu.2]; exact SO.oth (by first | with_reducible assumption | assumption) (fun c9 => by have b9 := ck_lt c9.1; omega)), (by rw [hu.2]; exact SO.oth (by first | with_reducible assumption | assumption) (fun c9 => by have b9 := ck_lt c9.1; omega)), (by rw [hu.2]; exact SO.oth (by first | with_reducible assumption | assumption) (fun c9 => by have b9 := ck_lt c9.1; omega)), (by first | omega | exact hu | exact hu.1 | exact hu.1.1 | exact hu.1.2 | exact hu.2 | exact hu.1.1.1 | exact hu.1.1.2 | exact fd_nn (by first | with_reducible assumption | assumption) | (split at hu <;> omega) | (split <;> omega) | exact E_inv (by first | with_reducible assumption | assumption)), hP1 1 _ rfl⟩
  exact ⟨⟨r, (), ho, hr.trans (nN_r (by first | with_reducible assumption | assumption) (fun b9 => Or.inr (Or.inl (by omega)))), ⟨np0, np1, p2.kept (FR 114 115 (by decide) (by decide)), p3.kept (FR 115 116 (by decide) (by decide)), p4.kept (FR 116 117 (by decide) (by decide)), p5.kept (FR 117 118 (by decide) (by decide)), p6.kept (FR 118 119 (by decide) (by decide)), p7.kept (FR 119 120 (by decide) (by decide)), p8.kept (FR 120 121 (by decide) (by decide)), p9.kept (FR 121 122 (by decide) (by decide)), p10.kept (FR 122 123 (by decide) (by decide)), p11.kept (FR 123 124 (by decide) (by decide)), p12.kept (FR 124 125 (by decide) (by decide)), p13.kept (FR 125 126 (by decide) (by decide)), p14.kept (FR 126 127 (by decide) (by decide)), p15.kept (FR 127 128 (by decide) (by decide)), p16.kept (FR 128 129 (by decide) (by decide)), ⟨hX, hXV.2⟩⟩⟩, hF.wide (ad_ix [112, 113] (by rfl) (by decide))⟩

set_option maxHeartbeats 1000000 in
set_option maxRecDepth 100000 in
theorem k_X11_stepE (l : Launch) (dC : Nat → ClassId) (dI : Nat → Nat → Nat) (G : Nat → ClassId) (sz : Nat) (ax : Nat → Nat) (hi : adInj 129 ax) (T : Nat) (Y : Nat → Int32) (fa : Int32) (W0 : Nat → Int32) (W1 : Nat → Int32) (W2 : Nat → Int32) (N : Nat) (B : Nat) (N1 : Nat) (B1 : Nat) (N2 : Nat) (B2 : Nat) (K : Nat → Int32) (S : Nat) (M : Nat) (E : Nat → Int32) (Z : Nat → Int32) (O0 : Nat → Int32) (O1 : Nat → Int32) (O2 : Nat → Int32) (CE : Nat → Int32) (MR : Nat → Int32) (i : Int32) (v : Int32) : Met l yX11_step (Cond.code yX11_step cX11_step 3 (some .int) :: GT) ({ frames := 2, cells := 0, slots := 0, locals := 46 } : Room) (PcI [.ref (ax 112), .int i, .int v] dC dI G (X11I dC dI G ax T Y fa W0 W1 W2 N B N1 B1 N2 B2 K S M E Z O0 O1 O2 CE MR) sz) (va_Qi (fun (r : Int32) (_ : Unit) => r = if ((0 ≤ i.toInt ∧ i.toInt < ((B : Nat) : Int)) ∧ 0 ≤ v.toInt ∧ v.toInt ≤ 9) then W0 (20 + 3 * i.toNatClampNeg + 1) else -1) (fun _ t => X11I dC dI G ax T Y fa (if ((0 ≤ i.toInt ∧ i.toInt < ((B : Nat) : Int)) ∧ 0 ≤ v.toInt ∧ v.toInt ≤ 9) then upd W0 (20 + 3 * i.toNatClampNeg + 1) v else W0) W1 W2 N B N1 B1 N2 B2 K S M E Z O0 O1 O2 CE MR t.heap) (adX 112 129 ax sz)) 0 0 (adX 112 129 ax sz) := by
  refine Met.pick (fun a st hp => ?_)
  obtain ⟨e0, hsz, hI, hK⟩ := hp
  subst hsz
  have hI0 := hI
  unfold X11I at hI
  obtain ⟨p0, p1, p2, p3, p4, p5, p6, p7, p8, p9, p10, p11, p12, p13, p14, p15, p16, hX⟩ := hI
  have hXV := hX
  have hX := hXV.1
  unfold X11Pr at p0
  obtain ⟨zi112_4, zi112_5, zi112_6, zi112_7, zi112_8, zi112_9, zi112_13, zi112_14, zi112_15, zn112_16, zi112_17, zi112_18, zi112_34, p0j0, p0j1, p0j2, p0j3, p0j4, p0j5, p0j6, q112⟩ := p0
  unfold X11P0 at p1
  obtain ⟨zf113, p1j0, p1j1, p1j2, p1j3, p1j4, p1j5, p1j6, p1j7, p1j8, p1j9, p1j10, q113⟩ := p1
  refine ⟨_, _, _, c_X11_stepE l dC dI G _ (ax 112) (ax 113) N B (ax 114) (ax 115) T (ax 116) (ax 117) (ax 118) (ax 119) (ax 120) (ax 121) S (ax 122) M (ax 123) (ax 124) (ax 125) (ax 126) (ax 127) (ax 128) i v zi112_4 zi112_5 zi112_6 zi112_7 zi112_8 zi112_9 fa zi112_13 zi112_14 zi112_15 (nI zn112_16) zi112_17 zi112_18 zi112_34 zf113 (by first | with_reducible assumption | assumption) (by first | with_reducible assumption | assumption) (by first | with_reducible assumption | assumption) (by first | with_reducible assumption | assumption) (by first | with_reducible assumption | assumption) (by first | with_reducible assumption | assumption), ⟨e0, rfl, (vpc q112 (vpc q113 va_nilP)), hK, vD_ix hi [112, 113] (by rfl) (by decide) (by decide)⟩, ad_ix [112, 113] (by rfl) (by decide), fun o t hq => ?_⟩
  obtain ⟨⟨r, ost, ho, ⟨hr, hu⟩, hP1, -⟩, hF⟩ := hq
  have FR : ∀ lo hi' : Nat, hi' ≤ 129 → ([112, 113] : List Nat).all (fun x => decide (x < lo) || decide (hi' ≤ x)) = true → ∀ j : Nat, lo ≤ j → j < hi' → ax j < st.heap.size → t.heap[ax j]? = st.heap[ax j]? := fun lo hi' h1 h2 => fr_ix hi h1 hF.2 [112, 113] (by rfl) (by decide) h2
  have np0 : X11Pr dC dI G ax T fa N B S M t.heap := ⟨zi112_4, zi112_5, zi112_6, zi112_7, zi112_8, zi112_9, zi112_13, zi112_14, zi112_15, zn112_16, zi112_17, zi112_18, zi112_34, p0j0, p0j1, p0j2, p0j3, p0j4, p0j5, p0j6, hP1 0 _ rfl⟩
  have np1 : X11P0 dC dI G ax (if ((0 ≤ i.toInt ∧ i.toInt < ((B : Nat) : Int)) ∧ 0 ≤ v.toInt ∧ v.toInt ≤ 9) then upd W0 (20 + 3 * i.toNatClampNeg + 1) v else W0) W1 W2 N B N1 B1 N2 B2 O0 O1 O2 t.heap := ⟨ost, p1j0, p1j1, p1j2, p1j3, (by rw [hu.2]; exact SR.set (by first | with_reducible assumption | assumption)), (by rw [hu.2]; exact SR.oth (by first | with_reducible assumption | assumption) (by decide) (fun c9 => by have b9 := ck_lt c9.1; omega)), (by rw [hu.2]; exact SR.oth (by first | with_reducible assumption | assumption) (by decide) (fun c9 => by have b9 := ck_lt c9.1; omega)), (by rw [hu.2]; exact SO.oth (by first | with_reducible assumption | assumption) (fun c9 => by have b9 := ck_lt c9.1; omega)), (by rw [hu.2]; exact SO.oth (by first | with_reducible assumption | assumption) (fun c9 => by have b9 := ck_lt c9.1; omega)), (by rw [hu.2]; exact SO.oth (by first | with_reducible assumption | assumption) (fun c9 => by have b9 := ck_lt c9.1; omega)), (by first | omega | exact hu | exact hu.1 | exact hu.1.1 | exact hu.1.2 | exact hu.2 | exact hu.1.1.1 | exact hu.1.1.2 | exact fd_nn (by first | with_reducible assumption | assumption) | (split at hu <;> omega) | (split <;> omega) | exact E_inv (by first | with_reducible assumption | assumption)), hP1 1 _ rfl⟩
  exact ⟨⟨r, (), ho, hr.trans (nB_r (by first | with_reducible assumption | assumption) (fun b9 => Or.inr (Or.inr (by omega)))), ⟨np0, np1, p2.kept (FR 114 115 (by decide) (by decide)), p3.kept (FR 115 116 (by decide) (by decide)), p4.kept (FR 116 117 (by decide) (by decide)), p5.kept (FR 117 118 (by decide) (by decide)), p6.kept (FR 118 119 (by decide) (by decide)), p7.kept (FR 119 120 (by decide) (by decide)), p8.kept (FR 120 121 (by decide) (by decide)), p9.kept (FR 121 122 (by decide) (by decide)), p10.kept (FR 122 123 (by decide) (by decide)), p11.kept (FR 123 124 (by decide) (by decide)), p12.kept (FR 124 125 (by decide) (by decide)), p13.kept (FR 125 126 (by decide) (by decide)), p14.kept (FR 126 127 (by decide) (by decide)), p15.kept (FR 127 128 (by decide) (by decide)), p16.kept (FR 128 129 (by decide) (by decide)), ⟨hX, hXV.2⟩⟩⟩, hF.wide (ad_ix [112, 113] (by rfl) (by decide))⟩

set_option maxHeartbeats 1000000 in
set_option maxRecDepth 100000 in
theorem k_X11_warmE (l : Launch) (dC : Nat → ClassId) (dI : Nat → Nat → Nat) (G : Nat → ClassId) (sz : Nat) (ax : Nat → Nat) (hi : adInj 129 ax) (T : Nat) (Y : Nat → Int32) (fa : Int32) (W0 : Nat → Int32) (W1 : Nat → Int32) (W2 : Nat → Int32) (N : Nat) (B : Nat) (N1 : Nat) (B1 : Nat) (N2 : Nat) (B2 : Nat) (K : Nat → Int32) (S : Nat) (M : Nat) (E : Nat → Int32) (Z : Nat → Int32) (O0 : Nat → Int32) (O1 : Nat → Int32) (O2 : Nat → Int32) (CE : Nat → Int32) (MR : Nat → Int32) (i : Int32) (v : Int32) : Met l yX11_warm (Cond.code yX11_warm cX11_warm 3 (some .int) :: GT) ({ frames := 2, cells := 0, slots := 0, locals := 46 } : Room) (PcI [.ref (ax 112), .int i, .int v] dC dI G (X11I dC dI G ax T Y fa W0 W1 W2 N B N1 B1 N2 B2 K S M E Z O0 O1 O2 CE MR) sz) (va_Qi (fun (r : Int32) (_ : Unit) => r = if ((0 ≤ i.toInt ∧ i.toInt < ((B : Nat) : Int)) ∧ 0 ≤ v.toInt ∧ v.toInt ≤ 9) then W0 (20 + 3 * i.toNatClampNeg + 2) else -1) (fun _ t => X11I dC dI G ax T Y fa (if ((0 ≤ i.toInt ∧ i.toInt < ((B : Nat) : Int)) ∧ 0 ≤ v.toInt ∧ v.toInt ≤ 9) then upd W0 (20 + 3 * i.toNatClampNeg + 2) v else W0) W1 W2 N B N1 B1 N2 B2 K S M E Z O0 O1 O2 CE MR t.heap) (adX 112 129 ax sz)) 0 0 (adX 112 129 ax sz) := by
  refine Met.pick (fun a st hp => ?_)
  obtain ⟨e0, hsz, hI, hK⟩ := hp
  subst hsz
  have hI0 := hI
  unfold X11I at hI
  obtain ⟨p0, p1, p2, p3, p4, p5, p6, p7, p8, p9, p10, p11, p12, p13, p14, p15, p16, hX⟩ := hI
  have hXV := hX
  have hX := hXV.1
  unfold X11Pr at p0
  obtain ⟨zi112_4, zi112_5, zi112_6, zi112_7, zi112_8, zi112_9, zi112_13, zi112_14, zi112_15, zn112_16, zi112_17, zi112_18, zi112_34, p0j0, p0j1, p0j2, p0j3, p0j4, p0j5, p0j6, q112⟩ := p0
  unfold X11P0 at p1
  obtain ⟨zf113, p1j0, p1j1, p1j2, p1j3, p1j4, p1j5, p1j6, p1j7, p1j8, p1j9, p1j10, q113⟩ := p1
  refine ⟨_, _, _, c_X11_warmE l dC dI G _ (ax 112) (ax 113) N B (ax 114) (ax 115) T (ax 116) (ax 117) (ax 118) (ax 119) (ax 120) (ax 121) S (ax 122) M (ax 123) (ax 124) (ax 125) (ax 126) (ax 127) (ax 128) i v zi112_4 zi112_5 zi112_6 zi112_7 zi112_8 zi112_9 fa zi112_13 zi112_14 zi112_15 (nI zn112_16) zi112_17 zi112_18 zi112_34 zf113 (by first | with_reducible assumption | assumption) (by first | with_reducible assumption | assumption) (by first | with_reducible assumption | assumption) (by first | with_reducible assumption | assumption) (by first | with_reducible assumption | assumption) (by first | with_reducible assumption | assumption), ⟨e0, rfl, (vpc q112 (vpc q113 va_nilP)), hK, vD_ix hi [112, 113] (by rfl) (by decide) (by decide)⟩, ad_ix [112, 113] (by rfl) (by decide), fun o t hq => ?_⟩
  obtain ⟨⟨r, ost, ho, ⟨hr, hu⟩, hP1, -⟩, hF⟩ := hq
  have FR : ∀ lo hi' : Nat, hi' ≤ 129 → ([112, 113] : List Nat).all (fun x => decide (x < lo) || decide (hi' ≤ x)) = true → ∀ j : Nat, lo ≤ j → j < hi' → ax j < st.heap.size → t.heap[ax j]? = st.heap[ax j]? := fun lo hi' h1 h2 => fr_ix hi h1 hF.2 [112, 113] (by rfl) (by decide) h2
  have np0 : X11Pr dC dI G ax T fa N B S M t.heap := ⟨zi112_4, zi112_5, zi112_6, zi112_7, zi112_8, zi112_9, zi112_13, zi112_14, zi112_15, zn112_16, zi112_17, zi112_18, zi112_34, p0j0, p0j1, p0j2, p0j3, p0j4, p0j5, p0j6, hP1 0 _ rfl⟩
  have np1 : X11P0 dC dI G ax (if ((0 ≤ i.toInt ∧ i.toInt < ((B : Nat) : Int)) ∧ 0 ≤ v.toInt ∧ v.toInt ≤ 9) then upd W0 (20 + 3 * i.toNatClampNeg + 2) v else W0) W1 W2 N B N1 B1 N2 B2 O0 O1 O2 t.heap := ⟨ost, p1j0, p1j1, p1j2, p1j3, (by rw [hu.2]; exact SR.set (by first | with_reducible assumption | assumption)), (by rw [hu.2]; exact SR.oth (by first | with_reducible assumption | assumption) (by decide) (fun c9 => by have b9 := ck_lt c9.1; omega)), (by rw [hu.2]; exact SR.oth (by first | with_reducible assumption | assumption) (by decide) (fun c9 => by have b9 := ck_lt c9.1; omega)), (by rw [hu.2]; exact SO.oth (by first | with_reducible assumption | assumption) (fun c9 => by have b9 := ck_lt c9.1; omega)), (by rw [hu.2]; exact SO.oth (by first | with_reducible assumption | assumption) (fun c9 => by have b9 := ck_lt c9.1; omega)), (by rw [hu.2]; exact SO.oth (by first | with_reducible assumption | assumption) (fun c9 => by have b9 := ck_lt c9.1; omega)), (by first | omega | exact hu | exact hu.1 | exact hu.1.1 | exact hu.1.2 | exact hu.2 | exact hu.1.1.1 | exact hu.1.1.2 | exact fd_nn (by first | with_reducible assumption | assumption) | (split at hu <;> omega) | (split <;> omega) | exact E_inv (by first | with_reducible assumption | assumption)), hP1 1 _ rfl⟩
  exact ⟨⟨r, (), ho, hr.trans (nB_r (by first | with_reducible assumption | assumption) (fun b9 => Or.inr (Or.inr (by omega)))), ⟨np0, np1, p2.kept (FR 114 115 (by decide) (by decide)), p3.kept (FR 115 116 (by decide) (by decide)), p4.kept (FR 116 117 (by decide) (by decide)), p5.kept (FR 117 118 (by decide) (by decide)), p6.kept (FR 118 119 (by decide) (by decide)), p7.kept (FR 119 120 (by decide) (by decide)), p8.kept (FR 120 121 (by decide) (by decide)), p9.kept (FR 121 122 (by decide) (by decide)), p10.kept (FR 122 123 (by decide) (by decide)), p11.kept (FR 123 124 (by decide) (by decide)), p12.kept (FR 124 125 (by decide) (by decide)), p13.kept (FR 125 126 (by decide) (by decide)), p14.kept (FR 126 127 (by decide) (by decide)), p15.kept (FR 127 128 (by decide) (by decide)), p16.kept (FR 128 129 (by decide) (by decide)), ⟨hX, hXV.2⟩⟩⟩, hF.wide (ad_ix [112, 113] (by rfl) (by decide))⟩

set_option maxHeartbeats 1000000 in
set_option maxRecDepth 100000 in
theorem k_X11_putO (l : Launch) (dC : Nat → ClassId) (dI : Nat → Nat → Nat) (G : Nat → ClassId) (sz : Nat) (ax : Nat → Nat) (hi : adInj 129 ax) (T : Nat) (Y : Nat → Int32) (fa : Int32) (W0 : Nat → Int32) (W1 : Nat → Int32) (W2 : Nat → Int32) (N : Nat) (B : Nat) (N1 : Nat) (B1 : Nat) (N2 : Nat) (B2 : Nat) (K : Nat → Int32) (S : Nat) (M : Nat) (E : Nat → Int32) (Z : Nat → Int32) (O0 : Nat → Int32) (O1 : Nat → Int32) (O2 : Nat → Int32) (CE : Nat → Int32) (MR : Nat → Int32) (i : Int32) (k : Int32) : Met l yX11_put (Cond.code yX11_put cX11_put 3 (some .int) :: GT) ({ frames := 3, cells := 0, slots := 0, locals := 68 } : Room) (PcI [.ref (ax 112), .int i, .int k] dC dI G (X11I dC dI G ax T Y fa W0 W1 W2 N B N1 B1 N2 B2 K S M E Z O0 O1 O2 CE MR) sz) (va_Qi (fun (r : Int32) (_ : Unit) => r = if ((0 ≤ i.toInt ∧ i.toInt < ((N : Nat) : Int)) ∧ (0 ≤ k.toInt ∧ k.toInt < ((B : Nat) : Int))) then O0 i.toNatClampNeg else -1) (fun _ t => X11I dC dI G ax T Y fa W0 W1 W2 N B N1 B1 N2 B2 K S M E Z (if ((0 ≤ i.toInt ∧ i.toInt < ((N : Nat) : Int)) ∧ (0 ≤ k.toInt ∧ k.toInt < ((B : Nat) : Int))) then upd O0 i.toNatClampNeg k else O0) O1 O2 CE MR t.heap) (adX 112 129 ax sz)) 0 0 (adX 112 129 ax sz) := by
  refine Met.pick (fun a st hp => ?_)
  obtain ⟨e0, hsz, hI, hK⟩ := hp
  subst hsz
  have hI0 := hI
  unfold X11I at hI
  obtain ⟨p0, p1, p2, p3, p4, p5, p6, p7, p8, p9, p10, p11, p12, p13, p14, p15, p16, hX⟩ := hI
  have hXV := hX
  have hX := hXV.1
  unfold X11Pr at p0
  obtain ⟨zi112_4, zi112_5, zi112_6, zi112_7, zi112_8, zi112_9, zi112_13, zi112_14, zi112_15, zn112_16, zi112_17, zi112_18, zi112_34, p0j0, p0j1, p0j2, p0j3, p0j4, p0j5, p0j6, q112⟩ := p0
  unfold X11P0 at p1
  obtain ⟨zf113, p1j0, p1j1, p1j2, p1j3, p1j4, p1j5, p1j6, p1j7, p1j8, p1j9, p1j10, q113⟩ := p1
  refine ⟨_, _, _, c_X11_putO l dC dI G _ (ax 112) (ax 113) N B (ax 114) (ax 115) T (ax 116) (ax 117) (ax 118) (ax 119) (ax 120) (ax 121) S (ax 122) M (ax 123) (ax 124) (ax 125) (ax 126) (ax 127) (ax 128) i k zi112_4 zi112_5 zi112_6 zi112_7 zi112_8 zi112_9 fa zi112_13 zi112_14 zi112_15 (nI zn112_16) zi112_17 zi112_18 zi112_34 zf113 (by first | with_reducible assumption | assumption) (by first | with_reducible assumption | assumption) (by first | with_reducible assumption | assumption) (by first | with_reducible assumption | assumption) (by first | with_reducible assumption | assumption) (by first | with_reducible assumption | assumption), ⟨e0, rfl, (vpc q112 (vpc q113 va_nilP)), hK, vD_ix hi [112, 113] (by rfl) (by decide) (by decide)⟩, ad_ix [112, 113] (by rfl) (by decide), fun o t hq => ?_⟩
  obtain ⟨⟨r, ost, ho, ⟨hr, hu⟩, hP1, -⟩, hF⟩ := hq
  have FR : ∀ lo hi' : Nat, hi' ≤ 129 → ([112, 113] : List Nat).all (fun x => decide (x < lo) || decide (hi' ≤ x)) = true → ∀ j : Nat, lo ≤ j → j < hi' → ax j < st.heap.size → t.heap[ax j]? = st.heap[ax j]? := fun lo hi' h1 h2 => fr_ix hi h1 hF.2 [112, 113] (by rfl) (by decide) h2
  have np0 : X11Pr dC dI G ax T fa N B S M t.heap := ⟨zi112_4, zi112_5, zi112_6, zi112_7, zi112_8, zi112_9, zi112_13, zi112_14, zi112_15, zn112_16, zi112_17, zi112_18, zi112_34, p0j0, p0j1, p0j2, p0j3, p0j4, p0j5, p0j6, hP1 0 _ rfl⟩
  have np1 : X11P0 dC dI G ax W0 W1 W2 N B N1 B1 N2 B2 (if ((0 ≤ i.toInt ∧ i.toInt < ((N : Nat) : Int)) ∧ (0 ≤ k.toInt ∧ k.toInt < ((B : Nat) : Int))) then upd O0 i.toNatClampNeg k else O0) O1 O2 t.heap := ⟨ost, p1j0, p1j1, p1j2, p1j3, (by rw [hu.2]; exact SR.puto (by first | with_reducible assumption | assumption) (by first | with_reducible assumption | assumption) (by first | with_reducible assumption | assumption) (by first | with_reducible assumption | assumption) (by omega)), (by rw [hu.2]; exact SR.puto (by first | with_reducible assumption | assumption) (by first | with_reducible assumption | assumption) (by first | with_reducible assumption | assumption) (by first | with_reducible assumption | assumption) (by omega)), (by rw [hu.2]; exact SR.puto (by first | with_reducible assumption | assumption) (by first | with_reducible assumption | assumption) (by first | with_reducible assumption | assumption) (by first | with_reducible assumption | assumption) (by omega)), (by rw [hu.2]; exact SO.set (by first | with_reducible assumption | assumption)), (by rw [hu.2]; exact SO.oth (by first | with_reducible assumption | assumption) (fun c9 => by have b9 := ck_lt c9.1; omega)), (by rw [hu.2]; exact SO.oth (by first | with_reducible assumption | assumption) (fun c9 => by have b9 := ck_lt c9.1; omega)), (by first | omega | exact hu | exact hu.1 | exact hu.1.1 | exact hu.1.2 | exact hu.2 | exact hu.1.1.1 | exact hu.1.1.2 | exact fd_nn (by first | with_reducible assumption | assumption) | (split at hu <;> omega) | (split <;> omega) | exact E_inv (by first | with_reducible assumption | assumption)), hP1 1 _ rfl⟩
  exact ⟨⟨r, (), ho, hr.trans (pu_r (by first | with_reducible assumption | assumption) (by first | with_reducible assumption | assumption)), ⟨np0, np1, p2.kept (FR 114 115 (by decide) (by decide)), p3.kept (FR 115 116 (by decide) (by decide)), p4.kept (FR 116 117 (by decide) (by decide)), p5.kept (FR 117 118 (by decide) (by decide)), p6.kept (FR 118 119 (by decide) (by decide)), p7.kept (FR 119 120 (by decide) (by decide)), p8.kept (FR 120 121 (by decide) (by decide)), p9.kept (FR 121 122 (by decide) (by decide)), p10.kept (FR 122 123 (by decide) (by decide)), p11.kept (FR 123 124 (by decide) (by decide)), p12.kept (FR 124 125 (by decide) (by decide)), p13.kept (FR 125 126 (by decide) (by decide)), p14.kept (FR 126 127 (by decide) (by decide)), p15.kept (FR 127 128 (by decide) (by decide)), p16.kept (FR 128 129 (by decide) (by decide)), ⟨hX, pt_V hXV.2⟩⟩⟩, hF.wide (ad_ix [112, 113] (by rfl) (by decide))⟩

set_option maxHeartbeats 1000000 in
set_option maxRecDepth 100000 in
theorem k_X11_harmE (l : Launch) (dC : Nat → ClassId) (dI : Nat → Nat → Nat) (G : Nat → ClassId) (sz : Nat) (ax : Nat → Nat) (hi : adInj 129 ax) (T : Nat) (Y : Nat → Int32) (fa : Int32) (W0 : Nat → Int32) (W1 : Nat → Int32) (W2 : Nat → Int32) (N : Nat) (B : Nat) (N1 : Nat) (B1 : Nat) (N2 : Nat) (B2 : Nat) (K : Nat → Int32) (S : Nat) (M : Nat) (E : Nat → Int32) (Z : Nat → Int32) (O0 : Nat → Int32) (O1 : Nat → Int32) (O2 : Nat → Int32) (CE : Nat → Int32) (MR : Nat → Int32) (i : Int32) (g : Int32) (k : Int32) : Met l yX11_harm (Cond.code yX11_harm cX11_harm 4 (some .int) :: GT) ({ frames := 3, cells := 0, slots := 0, locals := 69 } : Room) (PcI [.ref (ax 112), .int i, .int g, .int k] dC dI G (X11I dC dI G ax T Y fa W0 W1 W2 N B N1 B1 N2 B2 K S M E Z O0 O1 O2 CE MR) sz) (va_Qi (fun (r : Int32) (_ : Unit) => r = haW N B W0 i g k) (fun _ t => X11I dC dI G ax T Y fa W0 W1 W2 N B N1 B1 N2 B2 K S M E Z O0 O1 O2 CE MR t.heap) (adX 112 129 ax sz)) 0 0 (adX 112 129 ax sz) := by
  refine Met.pick (fun a st hp => ?_)
  obtain ⟨e0, hsz, hI, hK⟩ := hp
  subst hsz
  have hI0 := hI
  unfold X11I at hI
  obtain ⟨p0, p1, p2, p3, p4, p5, p6, p7, p8, p9, p10, p11, p12, p13, p14, p15, p16, hX⟩ := hI
  have hXV := hX
  have hX := hXV.1
  unfold X11Pr at p0
  obtain ⟨zi112_4, zi112_5, zi112_6, zi112_7, zi112_8, zi112_9, zi112_13, zi112_14, zi112_15, zn112_16, zi112_17, zi112_18, zi112_34, p0j0, p0j1, p0j2, p0j3, p0j4, p0j5, p0j6, q112⟩ := p0
  unfold X11P0 at p1
  obtain ⟨zf113, p1j0, p1j1, p1j2, p1j3, p1j4, p1j5, p1j6, p1j7, p1j8, p1j9, p1j10, q113⟩ := p1
  refine ⟨_, _, _, c_X11_harmE l dC dI G _ (ax 112) (ax 113) N B (ax 114) (ax 115) T (ax 116) (ax 117) (ax 118) (ax 119) (ax 120) (ax 121) S (ax 122) M (ax 123) (ax 124) (ax 125) (ax 126) (ax 127) (ax 128) i g k zi112_4 zi112_5 zi112_6 zi112_7 zi112_8 zi112_9 fa zi112_13 zi112_14 zi112_15 (nI zn112_16) zi112_17 zi112_18 zi112_34 zf113 (by first | with_reducible assumption | assumption) (by first | with_reducible assumption | assumption) (by first | with_reducible assumption | assumption) (by first | with_reducible assumption | assumption) (by first | with_reducible assumption | assumption), ⟨e0, rfl, (vpc q112 (vpc q113 va_nilP)), hK⟩, fun q h => Or.inr h, fun o t hq => ?_⟩
  obtain ⟨⟨r, u, ho, ⟨hr, hu⟩, -⟩, hF⟩ := hq
  exact ⟨⟨r, (), ho, hr.trans (ha_r (by first | with_reducible assumption | assumption)), hI0.kept (fun j _ _ h => hF.2 _ h (Nat.not_le.mpr h))⟩, hF.wide (fun q h => Or.inr h)⟩

set_option maxHeartbeats 1000000 in
set_option maxRecDepth 100000 in
theorem k_X11_wakes (l : Launch) (dC : Nat → ClassId) (dI : Nat → Nat → Nat) (G : Nat → ClassId) (sz : Nat) (ax : Nat → Nat) (hi : adInj 129 ax) (T : Nat) (Y : Nat → Int32) (fa : Int32) (W0 : Nat → Int32) (W1 : Nat → Int32) (W2 : Nat → Int32) (N : Nat) (B : Nat) (N1 : Nat) (B1 : Nat) (N2 : Nat) (B2 : Nat) (K : Nat → Int32) (S : Nat) (M : Nat) (E : Nat → Int32) (Z : Nat → Int32) (O0 : Nat → Int32) (O1 : Nat → Int32) (O2 : Nat → Int32) (CE : Nat → Int32) (MR : Nat → Int32) (what : Int32) : Met l yX11_wakes (Cond.code yX11_wakes cX11_wakes 2 (some .long) :: GT) ({ frames := 4, cells := 0, slots := 0, locals := 99 } : Room) (PcI [.ref (ax 112), .int what] dC dI G (X11I dC dI G ax T Y fa W0 W1 W2 N B N1 B1 N2 B2 K S M E Z O0 O1 O2 CE MR) sz) (va_Ql (fun (r : Int64) (_ : Unit) => True) (fun _ t => X11I dC dI G ax T Y fa W0 W1 W2 N B N1 B1 N2 B2 K S M E Z O0 O1 O2 CE MR t.heap) (adX 112 129 ax sz)) 0 0 (adX 112 129 ax sz) := by
  refine Met.pick (fun a st hp => ?_)
  obtain ⟨e0, hsz, hI, hK⟩ := hp
  subst hsz
  have hI0 := hI
  unfold X11I at hI
  obtain ⟨p0, p1, p2, p3, p4, p5, p6, p7, p8, p9, p10, p11, p12, p13, p14, p15, p16, hX⟩ := hI
  have hXV := hX
  have hX := hXV.1
  unfold X11Pr at p0
  obtain ⟨zi112_4, zi112_5, zi112_6, zi112_7, zi112_8, zi112_9, zi112_13, zi112_14, zi112_15, zn112_16, zi112_17, zi112_18, zi112_34, p0j0, p0j1, p0j2, p0j3, p0j4, p0j5, p0j6, q112⟩ := p0
  unfold X11P0 at p1
  obtain ⟨zf113, p1j0, p1j1, p1j2, p1j3, p1j4, p1j5, p1j6, p1j7, p1j8, p1j9, p1j10, q113⟩ := p1
  unfold X11P21 at p6
  obtain ⟨zf118, q118⟩ := p6
  unfold X11P22 at p7
  obtain ⟨zf119, q119⟩ := p7
  refine ⟨_, _, _, c_X11_wakes l dC dI G _ (ax 112) (ax 113) N B (ax 114) (ax 115) T (ax 116) (ax 117) (ax 118) (ax 119) (ax 120) (ax 121) S (ax 122) M (ax 123) (ax 124) (ax 125) (ax 126) (ax 127) (ax 128) what zi112_4 zi112_5 zi112_6 zi112_7 zi112_8 zi112_9 fa zi112_13 zi112_14 zi112_15 (nI zn112_16) zi112_17 zi112_18 zi112_34 zf113 zf118 zf119 (by first | with_reducible assumption | assumption) (by first | with_reducible assumption | assumption) (by first | with_reducible assumption | assumption) (by first | with_reducible assumption | assumption) (by first | with_reducible assumption | assumption) (by first | with_reducible assumption | assumption), ⟨e0, rfl, (vpc q112 (vpc q113 (vpc q118 (vpc q119 va_nilP)))), hK, vD_ix hi [112, 113, 118, 119] (by rfl) (by decide) (by decide)⟩, ad_ix [112, 113, 118, 119] (by rfl) (by decide), fun o t hq => ?_⟩
  obtain ⟨⟨r, ⟨ood, oth⟩, ho, ⟨hr, hu⟩, hP1, -⟩, hF⟩ := hq
  have FR : ∀ lo hi' : Nat, hi' ≤ 129 → ([112, 113, 118, 119] : List Nat).all (fun x => decide (x < lo) || decide (hi' ≤ x)) = true → ∀ j : Nat, lo ≤ j → j < hi' → ax j < st.heap.size → t.heap[ax j]? = st.heap[ax j]? := fun lo hi' h1 h2 => fr_ix hi h1 hF.2 [112, 113, 118, 119] (by rfl) (by decide) h2
  have np0 : X11Pr dC dI G ax T fa N B S M t.heap := ⟨zi112_4, zi112_5, zi112_6, zi112_7, zi112_8, zi112_9, zi112_13, zi112_14, zi112_15, zn112_16, zi112_17, zi112_18, zi112_34, p0j0, p0j1, p0j2, p0j3, p0j4, p0j5, p0j6, hP1 0 _ rfl⟩
  have np1 : X11P0 dC dI G ax W0 W1 W2 N B N1 B1 N2 B2 O0 O1 O2 t.heap := ⟨zf113, p1j0, p1j1, p1j2, p1j3, p1j4, p1j5, p1j6, p1j7, p1j8, p1j9, p1j10, hP1 1 _ rfl⟩
  have np6 : X11P21 dC dI G ax t.heap := ⟨ood, hP1 2 _ rfl⟩
  have np7 : X11P22 dC dI G ax t.heap := ⟨oth, hP1 3 _ rfl⟩
  exact ⟨⟨r, (), ho, trivial, ⟨np0, np1, p2.kept (FR 114 115 (by decide) (by decide)), p3.kept (FR 115 116 (by decide) (by decide)), p4.kept (FR 116 117 (by decide) (by decide)), p5.kept (FR 117 118 (by decide) (by decide)), np6, np7, p8.kept (FR 120 121 (by decide) (by decide)), p9.kept (FR 121 122 (by decide) (by decide)), p10.kept (FR 122 123 (by decide) (by decide)), p11.kept (FR 123 124 (by decide) (by decide)), p12.kept (FR 124 125 (by decide) (by decide)), p13.kept (FR 125 126 (by decide) (by decide)), p14.kept (FR 126 127 (by decide) (by decide)), p15.kept (FR 127 128 (by decide) (by decide)), p16.kept (FR 128 129 (by decide) (by decide)), ⟨hX, hXV.2⟩⟩⟩, hF.wide (ad_ix [112, 113, 118, 119] (by rfl) (by decide))⟩

set_option maxHeartbeats 1000000 in
set_option maxRecDepth 100000 in
theorem k_X11_awake (l : Launch) (dC : Nat → ClassId) (dI : Nat → Nat → Nat) (G : Nat → ClassId) (sz : Nat) (ax : Nat → Nat) (hi : adInj 129 ax) (T : Nat) (Y : Nat → Int32) (fa : Int32) (W0 : Nat → Int32) (W1 : Nat → Int32) (W2 : Nat → Int32) (N : Nat) (B : Nat) (N1 : Nat) (B1 : Nat) (N2 : Nat) (B2 : Nat) (K : Nat → Int32) (S : Nat) (M : Nat) (E : Nat → Int32) (Z : Nat → Int32) (O0 : Nat → Int32) (O1 : Nat → Int32) (O2 : Nat → Int32) (CE : Nat → Int32) (MR : Nat → Int32) (i : Int32) (what : Int32) : Met l yX11_awake (Cond.code yX11_awake cX11_awake 3 (some .long) :: GT) ({ frames := 5, cells := 0, slots := 0, locals := 122 } : Room) (PcI [.ref (ax 112), .int i, .int what] dC dI G (X11I dC dI G ax T Y fa W0 W1 W2 N B N1 B1 N2 B2 K S M E Z O0 O1 O2 CE MR) sz) (va_Ql (fun (r : Int64) (_ : Unit) => True) (fun _ t => X11I dC dI G ax T Y fa W0 W1 W2 N B N1 B1 N2 B2 K S M E Z O0 O1 O2 CE MR t.heap) (adX 112 129 ax sz)) 0 0 (adX 112 129 ax sz) := by
  refine Met.pick (fun a st hp => ?_)
  obtain ⟨e0, hsz, hI, hK⟩ := hp
  subst hsz
  have hI0 := hI
  unfold X11I at hI
  obtain ⟨p0, p1, p2, p3, p4, p5, p6, p7, p8, p9, p10, p11, p12, p13, p14, p15, p16, hX⟩ := hI
  have hXV := hX
  have hX := hXV.1
  unfold X11Pr at p0
  obtain ⟨zi112_4, zi112_5, zi112_6, zi112_7, zi112_8, zi112_9, zi112_13, zi112_14, zi112_15, zn112_16, zi112_17, zi112_18, zi112_34, p0j0, p0j1, p0j2, p0j3, p0j4, p0j5, p0j6, q112⟩ := p0
  unfold X11P0 at p1
  obtain ⟨zf113, p1j0, p1j1, p1j2, p1j3, p1j4, p1j5, p1j6, p1j7, p1j8, p1j9, p1j10, q113⟩ := p1
  unfold X11P21 at p6
  obtain ⟨zf118, q118⟩ := p6
  unfold X11P22 at p7
  obtain ⟨zf119, q119⟩ := p7
  refine ⟨_, _, _, c_X11_awake l dC dI G _ (ax 112) (ax 113) N B (ax 114) (ax 115) T (ax 116) (ax 117) (ax 118) (ax 119) (ax 120) (ax 121) S (ax 122) M (ax 123) (ax 124) (ax 125) (ax 126) (ax 127) (ax 128) i what zi112_4 zi112_5 zi112_6 zi112_7 zi112_8 zi112_9 fa zi112_13 zi112_14 zi112_15 (nI zn112_16) zi112_17 zi112_18 zi112_34 zf113 zf118 zf119 (by first | with_reducible assumption | assumption) (by first | with_reducible assumption | assumption) (by first | with_reducible assumption | assumption) (by first | with_reducible assumption | assumption) (by first | with_reducible assumption | assumption) (by first | with_reducible assumption | assumption), ⟨e0, rfl, (vpc q112 (vpc q113 (vpc q118 (vpc q119 va_nilP)))), hK, vD_ix hi [112, 113, 118, 119] (by rfl) (by decide) (by decide)⟩, ad_ix [112, 113, 118, 119] (by rfl) (by decide), fun o t hq => ?_⟩
  obtain ⟨⟨r, ⟨ood, oth⟩, ho, ⟨hr, hu⟩, hP1, -⟩, hF⟩ := hq
  have FR : ∀ lo hi' : Nat, hi' ≤ 129 → ([112, 113, 118, 119] : List Nat).all (fun x => decide (x < lo) || decide (hi' ≤ x)) = true → ∀ j : Nat, lo ≤ j → j < hi' → ax j < st.heap.size → t.heap[ax j]? = st.heap[ax j]? := fun lo hi' h1 h2 => fr_ix hi h1 hF.2 [112, 113, 118, 119] (by rfl) (by decide) h2
  have np0 : X11Pr dC dI G ax T fa N B S M t.heap := ⟨zi112_4, zi112_5, zi112_6, zi112_7, zi112_8, zi112_9, zi112_13, zi112_14, zi112_15, zn112_16, zi112_17, zi112_18, zi112_34, p0j0, p0j1, p0j2, p0j3, p0j4, p0j5, p0j6, hP1 0 _ rfl⟩
  have np1 : X11P0 dC dI G ax W0 W1 W2 N B N1 B1 N2 B2 O0 O1 O2 t.heap := ⟨zf113, p1j0, p1j1, p1j2, p1j3, p1j4, p1j5, p1j6, p1j7, p1j8, p1j9, p1j10, hP1 1 _ rfl⟩
  have np6 : X11P21 dC dI G ax t.heap := ⟨ood, hP1 2 _ rfl⟩
  have np7 : X11P22 dC dI G ax t.heap := ⟨oth, hP1 3 _ rfl⟩
  exact ⟨⟨r, (), ho, trivial, ⟨np0, np1, p2.kept (FR 114 115 (by decide) (by decide)), p3.kept (FR 115 116 (by decide) (by decide)), p4.kept (FR 116 117 (by decide) (by decide)), p5.kept (FR 117 118 (by decide) (by decide)), np6, np7, p8.kept (FR 120 121 (by decide) (by decide)), p9.kept (FR 121 122 (by decide) (by decide)), p10.kept (FR 122 123 (by decide) (by decide)), p11.kept (FR 123 124 (by decide) (by decide)), p12.kept (FR 124 125 (by decide) (by decide)), p13.kept (FR 125 126 (by decide) (by decide)), p14.kept (FR 126 127 (by decide) (by decide)), p15.kept (FR 127 128 (by decide) (by decide)), p16.kept (FR 128 129 (by decide) (by decide)), ⟨hX, hXV.2⟩⟩⟩, hF.wide (ad_ix [112, 113, 118, 119] (by rfl) (by decide))⟩

set_option maxHeartbeats 1000000 in
set_option maxRecDepth 100000 in
theorem k_X11_depth (l : Launch) (dC : Nat → ClassId) (dI : Nat → Nat → Nat) (G : Nat → ClassId) (sz : Nat) (ax : Nat → Nat) (hi : adInj 129 ax) (T : Nat) (Y : Nat → Int32) (fa : Int32) (W0 : Nat → Int32) (W1 : Nat → Int32) (W2 : Nat → Int32) (N : Nat) (B : Nat) (N1 : Nat) (B1 : Nat) (N2 : Nat) (B2 : Nat) (K : Nat → Int32) (S : Nat) (M : Nat) (E : Nat → Int32) (Z : Nat → Int32) (O0 : Nat → Int32) (O1 : Nat → Int32) (O2 : Nat → Int32) (CE : Nat → Int32) (MR : Nat → Int32) (i : Int32) (d : Int32) (what : Int32) : Met l yX11_depth (Cond.code yX11_depth cX11_depth 4 (some .long) :: GT) ({ frames := 4, cells := 0, slots := 0, locals := 99 } : Room) (PcI [.ref (ax 112), .int i, .int d, .int what] dC dI G (X11I dC dI G ax T Y fa W0 W1 W2 N B N1 B1 N2 B2 K S M E Z O0 O1 O2 CE MR) sz) (va_Ql (fun (r : Int64) (_ : Unit) => True) (fun _ t => X11I dC dI G ax T Y fa W0 W1 W2 N B N1 B1 N2 B2 K S M E Z O0 O1 O2 CE MR t.heap) (adX 112 129 ax sz)) 0 0 (adX 112 129 ax sz) := by
  refine Met.pick (fun a st hp => ?_)
  obtain ⟨e0, hsz, hI, hK⟩ := hp
  subst hsz
  have hI0 := hI
  unfold X11I at hI
  obtain ⟨p0, p1, p2, p3, p4, p5, p6, p7, p8, p9, p10, p11, p12, p13, p14, p15, p16, hX⟩ := hI
  have hXV := hX
  have hX := hXV.1
  unfold X11Pr at p0
  obtain ⟨zi112_4, zi112_5, zi112_6, zi112_7, zi112_8, zi112_9, zi112_13, zi112_14, zi112_15, zn112_16, zi112_17, zi112_18, zi112_34, p0j0, p0j1, p0j2, p0j3, p0j4, p0j5, p0j6, q112⟩ := p0
  unfold X11P0 at p1
  obtain ⟨zf113, p1j0, p1j1, p1j2, p1j3, p1j4, p1j5, p1j6, p1j7, p1j8, p1j9, p1j10, q113⟩ := p1
  unfold X11P21 at p6
  obtain ⟨zf118, q118⟩ := p6
  unfold X11P22 at p7
  obtain ⟨zf119, q119⟩ := p7
  refine ⟨_, _, _, c_X11_depth l dC dI G _ (ax 112) (ax 113) N B (ax 114) (ax 115) T (ax 116) (ax 117) (ax 118) (ax 119) (ax 120) (ax 121) S (ax 122) M (ax 123) (ax 124) (ax 125) (ax 126) (ax 127) (ax 128) i d what zi112_4 zi112_5 zi112_6 zi112_7 zi112_8 zi112_9 fa zi112_13 zi112_14 zi112_15 (nI zn112_16) zi112_17 zi112_18 zi112_34 zf113 zf118 zf119 (by first | with_reducible assumption | assumption) (by first | with_reducible assumption | assumption) (by first | with_reducible assumption | assumption) (by first | with_reducible assumption | assumption) (by first | with_reducible assumption | assumption) (by first | with_reducible assumption | assumption), ⟨e0, rfl, (vpc q112 (vpc q113 (vpc q118 (vpc q119 va_nilP)))), hK, vD_ix hi [112, 113, 118, 119] (by rfl) (by decide) (by decide)⟩, ad_ix [112, 113, 118, 119] (by rfl) (by decide), fun o t hq => ?_⟩
  obtain ⟨⟨r, ⟨ood, oth⟩, ho, ⟨hr, hu⟩, hP1, -⟩, hF⟩ := hq
  have FR : ∀ lo hi' : Nat, hi' ≤ 129 → ([112, 113, 118, 119] : List Nat).all (fun x => decide (x < lo) || decide (hi' ≤ x)) = true → ∀ j : Nat, lo ≤ j → j < hi' → ax j < st.heap.size → t.heap[ax j]? = st.heap[ax j]? := fun lo hi' h1 h2 => fr_ix hi h1 hF.2 [112, 113, 118, 119] (by rfl) (by decide) h2
  have np0 : X11Pr dC dI G ax T fa N B S M t.heap := ⟨zi112_4, zi112_5, zi112_6, zi112_7, zi112_8, zi112_9, zi112_13, zi112_14, zi112_15, zn112_16, zi112_17, zi112_18, zi112_34, p0j0, p0j1, p0j2, p0j3, p0j4, p0j5, p0j6, hP1 0 _ rfl⟩
  have np1 : X11P0 dC dI G ax W0 W1 W2 N B N1 B1 N2 B2 O0 O1 O2 t.heap := ⟨zf113, p1j0, p1j1, p1j2, p1j3, p1j4, p1j5, p1j6, p1j7, p1j8, p1j9, p1j10, hP1 1 _ rfl⟩
  have np6 : X11P21 dC dI G ax t.heap := ⟨ood, hP1 2 _ rfl⟩
  have np7 : X11P22 dC dI G ax t.heap := ⟨oth, hP1 3 _ rfl⟩
  exact ⟨⟨r, (), ho, trivial, ⟨np0, np1, p2.kept (FR 114 115 (by decide) (by decide)), p3.kept (FR 115 116 (by decide) (by decide)), p4.kept (FR 116 117 (by decide) (by decide)), p5.kept (FR 117 118 (by decide) (by decide)), np6, np7, p8.kept (FR 120 121 (by decide) (by decide)), p9.kept (FR 121 122 (by decide) (by decide)), p10.kept (FR 122 123 (by decide) (by decide)), p11.kept (FR 123 124 (by decide) (by decide)), p12.kept (FR 124 125 (by decide) (by decide)), p13.kept (FR 125 126 (by decide) (by decide)), p14.kept (FR 126 127 (by decide) (by decide)), p15.kept (FR 127 128 (by decide) (by decide)), p16.kept (FR 128 129 (by decide) (by decide)), ⟨hX, hXV.2⟩⟩⟩, hF.wide (ad_ix [112, 113, 118, 119] (by rfl) (by decide))⟩

set_option maxHeartbeats 1000000 in
set_option maxRecDepth 100000 in
theorem k_X11_best (l : Launch) (dC : Nat → ClassId) (dI : Nat → Nat → Nat) (G : Nat → ClassId) (sz : Nat) (ax : Nat → Nat) (hi : adInj 129 ax) (T : Nat) (Y : Nat → Int32) (fa : Int32) (W0 : Nat → Int32) (W1 : Nat → Int32) (W2 : Nat → Int32) (N : Nat) (B : Nat) (N1 : Nat) (B1 : Nat) (N2 : Nat) (B2 : Nat) (K : Nat → Int32) (S : Nat) (M : Nat) (E : Nat → Int32) (Z : Nat → Int32) (O0 : Nat → Int32) (O1 : Nat → Int32) (O2 : Nat → Int32) (CE : Nat → Int32) (MR : Nat → Int32) (what : Int32) : Met l yX11_best (Cond.code yX11_best cX11_best 2 (some .long) :: GT) ({ frames := 4, cells := 0, slots := 0, locals := 102 } : Room) (PcI [.ref (ax 112), .int what] dC dI G (X11I dC dI G ax T Y fa W0 W1 W2 N B N1 B1 N2 B2 K S M E Z O0 O1 O2 CE MR) sz) (va_Ql (fun (r : Int64) (_ : Unit) => True) (fun _ t => X11I dC dI G ax T Y fa W0 W1 W2 N B N1 B1 N2 B2 K S M E Z O0 O1 O2 CE MR t.heap) (adX 112 129 ax sz)) 0 0 (adX 112 129 ax sz) := by
  refine Met.pick (fun a st hp => ?_)
  obtain ⟨e0, hsz, hI, hK⟩ := hp
  subst hsz
  have hI0 := hI
  unfold X11I at hI
  obtain ⟨p0, p1, p2, p3, p4, p5, p6, p7, p8, p9, p10, p11, p12, p13, p14, p15, p16, hX⟩ := hI
  have hXV := hX
  have hX := hXV.1
  unfold X11Pr at p0
  obtain ⟨zi112_4, zi112_5, zi112_6, zi112_7, zi112_8, zi112_9, zi112_13, zi112_14, zi112_15, zn112_16, zi112_17, zi112_18, zi112_34, p0j0, p0j1, p0j2, p0j3, p0j4, p0j5, p0j6, q112⟩ := p0
  unfold X11P0 at p1
  obtain ⟨zf113, p1j0, p1j1, p1j2, p1j3, p1j4, p1j5, p1j6, p1j7, p1j8, p1j9, p1j10, q113⟩ := p1
  unfold X11P23 at p8
  obtain ⟨zf120, q120⟩ := p8
  refine ⟨_, _, _, c_X11_best l dC dI G _ (ax 112) (ax 113) N B (ax 114) (ax 115) T (ax 116) (ax 117) (ax 118) (ax 119) (ax 120) (ax 121) S (ax 122) M (ax 123) (ax 124) (ax 125) (ax 126) (ax 127) (ax 128) what zi112_4 zi112_5 zi112_6 zi112_7 zi112_8 zi112_9 fa zi112_13 zi112_14 zi112_15 (nI zn112_16) zi112_17 zi112_18 zi112_34 zf113 zf120 (by first | with_reducible assumption | assumption) (by first | with_reducible assumption | assumption) (by first | with_reducible assumption | assumption) (by first | with_reducible assumption | assumption) (by first | with_reducible assumption | assumption) (by first | with_reducible assumption | assumption) (by first | with_reducible assumption | assumption), ⟨e0, rfl, (vpc q112 (vpc q113 (vpc q120 va_nilP))), hK, vD_ix hi [112, 113, 120] (by rfl) (by decide) (by decide)⟩, ad_ix [112, 113, 120] (by rfl) (by decide), fun o t hq => ?_⟩
  obtain ⟨⟨r, obe, ho, ⟨hr, hu⟩, hP1, -⟩, hF⟩ := hq
  have FR : ∀ lo hi' : Nat, hi' ≤ 129 → ([112, 113, 120] : List Nat).all (fun x => decide (x < lo) || decide (hi' ≤ x)) = true → ∀ j : Nat, lo ≤ j → j < hi' → ax j < st.heap.size → t.heap[ax j]? = st.heap[ax j]? := fun lo hi' h1 h2 => fr_ix hi h1 hF.2 [112, 113, 120] (by rfl) (by decide) h2
  have np0 : X11Pr dC dI G ax T fa N B S M t.heap := ⟨zi112_4, zi112_5, zi112_6, zi112_7, zi112_8, zi112_9, zi112_13, zi112_14, zi112_15, zn112_16, zi112_17, zi112_18, zi112_34, p0j0, p0j1, p0j2, p0j3, p0j4, p0j5, p0j6, hP1 0 _ rfl⟩
  have np1 : X11P0 dC dI G ax W0 W1 W2 N B N1 B1 N2 B2 O0 O1 O2 t.heap := ⟨zf113, p1j0, p1j1, p1j2, p1j3, p1j4, p1j5, p1j6, p1j7, p1j8, p1j9, p1j10, hP1 1 _ rfl⟩
  have np8 : X11P23 dC dI G ax t.heap := ⟨obe, hP1 2 _ rfl⟩
  exact ⟨⟨r, (), ho, trivial, ⟨np0, np1, p2.kept (FR 114 115 (by decide) (by decide)), p3.kept (FR 115 116 (by decide) (by decide)), p4.kept (FR 116 117 (by decide) (by decide)), p5.kept (FR 117 118 (by decide) (by decide)), p6.kept (FR 118 119 (by decide) (by decide)), p7.kept (FR 119 120 (by decide) (by decide)), np8, p9.kept (FR 121 122 (by decide) (by decide)), p10.kept (FR 122 123 (by decide) (by decide)), p11.kept (FR 123 124 (by decide) (by decide)), p12.kept (FR 124 125 (by decide) (by decide)), p13.kept (FR 125 126 (by decide) (by decide)), p14.kept (FR 126 127 (by decide) (by decide)), p15.kept (FR 127 128 (by decide) (by decide)), p16.kept (FR 128 129 (by decide) (by decide)), ⟨hX, hXV.2⟩⟩⟩, hF.wide (ad_ix [112, 113, 120] (by rfl) (by decide))⟩

set_option maxHeartbeats 1000000 in
set_option maxRecDepth 100000 in
theorem k_X11_next (l : Launch) (dC : Nat → ClassId) (dI : Nat → Nat → Nat) (G : Nat → ClassId) (sz : Nat) (ax : Nat → Nat) (hi : adInj 129 ax) (T : Nat) (Y : Nat → Int32) (fa : Int32) (W0 : Nat → Int32) (W1 : Nat → Int32) (W2 : Nat → Int32) (N : Nat) (B : Nat) (N1 : Nat) (B1 : Nat) (N2 : Nat) (B2 : Nat) (K : Nat → Int32) (S : Nat) (M : Nat) (E : Nat → Int32) (Z : Nat → Int32) (O0 : Nat → Int32) (O1 : Nat → Int32) (O2 : Nat → Int32) (CE : Nat → Int32) (MR : Nat → Int32) (i : Int32) (g : Int32) (d : Int32) : Met l yX11_next (Cond.code yX11_next cX11_next 5 (some .int) :: GT) ({ frames := 4, cells := 0, slots := 0, locals := 102 } : Room) (PcI [.ref (ax 112), .int i, .int g, .int d] dC dI G (X11I dC dI G ax T Y fa W0 W1 W2 N B N1 B1 N2 B2 K S M E Z O0 O1 O2 CE MR) sz) (va_Qi (fun (r : Int32) (_ : Unit) => True) (fun _ t => X11I dC dI G ax T Y fa W0 W1 W2 N B N1 B1 N2 B2 K S M E Z O0 O1 O2 CE MR t.heap) (adX 112 129 ax sz)) 0 0 (adX 112 129 ax sz) := by
  refine Met.pick (fun a st hp => ?_)
  obtain ⟨e0, hsz, hI, hK⟩ := hp
  subst hsz
  have hI0 := hI
  unfold X11I at hI
  obtain ⟨p0, p1, p2, p3, p4, p5, p6, p7, p8, p9, p10, p11, p12, p13, p14, p15, p16, hX⟩ := hI
  have hXV := hX
  have hX := hXV.1
  unfold X11Pr at p0
  obtain ⟨zi112_4, zi112_5, zi112_6, zi112_7, zi112_8, zi112_9, zi112_13, zi112_14, zi112_15, zn112_16, zi112_17, zi112_18, zi112_34, p0j0, p0j1, p0j2, p0j3, p0j4, p0j5, p0j6, q112⟩ := p0
  unfold X11P0 at p1
  obtain ⟨zf113, p1j0, p1j1, p1j2, p1j3, p1j4, p1j5, p1j6, p1j7, p1j8, p1j9, p1j10, q113⟩ := p1
  unfold X11P23 at p8
  obtain ⟨zf120, q120⟩ := p8
  refine ⟨_, _, _, c_X11_next l dC dI G _ (ax 112) (ax 113) N B (ax 114) (ax 115) T (ax 116) (ax 117) (ax 118) (ax 119) (ax 120) (ax 121) S (ax 122) M (ax 123) (ax 124) (ax 125) (ax 126) (ax 127) (ax 128) i g d zi112_4 zi112_5 zi112_6 zi112_7 zi112_8 zi112_9 fa zi112_13 zi112_14 zi112_15 (nI zn112_16) zi112_17 zi112_18 zi112_34 zf113 zf120 (by first | with_reducible assumption | assumption) (by first | with_reducible assumption | assumption) (by first | with_reducible assumption | assumption) (by first | with_reducible assumption | assumption) (by first | with_reducible assumption | assumption) (by first | with_reducible assumption | assumption) (by first | with_reducible assumption | assumption), ⟨e0, rfl, (vpc q112 (vpc q113 (vpc q120 va_nilP))), hK, vD_ix hi [112, 113, 120] (by rfl) (by decide) (by decide)⟩, ad_ix [112, 113, 120] (by rfl) (by decide), fun o t hq => ?_⟩
  obtain ⟨⟨r, obe, ho, ⟨hr, hu⟩, hP1, -⟩, hF⟩ := hq
  have FR : ∀ lo hi' : Nat, hi' ≤ 129 → ([112, 113, 120] : List Nat).all (fun x => decide (x < lo) || decide (hi' ≤ x)) = true → ∀ j : Nat, lo ≤ j → j < hi' → ax j < st.heap.size → t.heap[ax j]? = st.heap[ax j]? := fun lo hi' h1 h2 => fr_ix hi h1 hF.2 [112, 113, 120] (by rfl) (by decide) h2
  have np0 : X11Pr dC dI G ax T fa N B S M t.heap := ⟨zi112_4, zi112_5, zi112_6, zi112_7, zi112_8, zi112_9, zi112_13, zi112_14, zi112_15, zn112_16, zi112_17, zi112_18, zi112_34, p0j0, p0j1, p0j2, p0j3, p0j4, p0j5, p0j6, hP1 0 _ rfl⟩
  have np1 : X11P0 dC dI G ax W0 W1 W2 N B N1 B1 N2 B2 O0 O1 O2 t.heap := ⟨zf113, p1j0, p1j1, p1j2, p1j3, p1j4, p1j5, p1j6, p1j7, p1j8, p1j9, p1j10, hP1 1 _ rfl⟩
  have np8 : X11P23 dC dI G ax t.heap := ⟨obe, hP1 2 _ rfl⟩
  exact ⟨⟨r, (), ho, trivial, ⟨np0, np1, p2.kept (FR 114 115 (by decide) (by decide)), p3.kept (FR 115 116 (by decide) (by decide)), p4.kept (FR 116 117 (by decide) (by decide)), p5.kept (FR 117 118 (by decide) (by decide)), p6.kept (FR 118 119 (by decide) (by decide)), p7.kept (FR 119 120 (by decide) (by decide)), np8, p9.kept (FR 121 122 (by decide) (by decide)), p10.kept (FR 122 123 (by decide) (by decide)), p11.kept (FR 123 124 (by decide) (by decide)), p12.kept (FR 124 125 (by decide) (by decide)), p13.kept (FR 125 126 (by decide) (by decide)), p14.kept (FR 126 127 (by decide) (by decide)), p15.kept (FR 127 128 (by decide) (by decide)), p16.kept (FR 128 129 (by decide) (by decide)), ⟨hX, hXV.2⟩⟩⟩, hF.wide (ad_ix [112, 113, 120] (by rfl) (by decide))⟩

set_option maxHeartbeats 1000000 in
set_option maxRecDepth 100000 in
theorem k_X11_without (l : Launch) (dC : Nat → ClassId) (dI : Nat → Nat → Nat) (G : Nat → ClassId) (sz : Nat) (ax : Nat → Nat) (hi : adInj 129 ax) (T : Nat) (Y : Nat → Int32) (fa : Int32) (W0 : Nat → Int32) (W1 : Nat → Int32) (W2 : Nat → Int32) (N : Nat) (B : Nat) (N1 : Nat) (B1 : Nat) (N2 : Nat) (B2 : Nat) (K : Nat → Int32) (S : Nat) (M : Nat) (E : Nat → Int32) (Z : Nat → Int32) (O0 : Nat → Int32) (O1 : Nat → Int32) (O2 : Nat → Int32) (CE : Nat → Int32) (MR : Nat → Int32) (i : Int32) (what : Int32) : Met l yX11_without (Cond.code yX11_without cX11_without 3 (some .long) :: GT) ({ frames := 4, cells := 0, slots := 0, locals := 102 } : Room) (PcI [.ref (ax 112), .int i, .int what] dC dI G (X11I dC dI G ax T Y fa W0 W1 W2 N B N1 B1 N2 B2 K S M E Z O0 O1 O2 CE MR) sz) (va_Ql (fun (r : Int64) (_ : Unit) => True) (fun _ t => X11I dC dI G ax T Y fa W0 W1 W2 N B N1 B1 N2 B2 K S M E Z O0 O1 O2 CE MR t.heap) (adX 112 129 ax sz)) 0 0 (adX 112 129 ax sz) := by
  refine Met.pick (fun a st hp => ?_)
  obtain ⟨e0, hsz, hI, hK⟩ := hp
  subst hsz
  have hI0 := hI
  unfold X11I at hI
  obtain ⟨p0, p1, p2, p3, p4, p5, p6, p7, p8, p9, p10, p11, p12, p13, p14, p15, p16, hX⟩ := hI
  have hXV := hX
  have hX := hXV.1
  unfold X11Pr at p0
  obtain ⟨zi112_4, zi112_5, zi112_6, zi112_7, zi112_8, zi112_9, zi112_13, zi112_14, zi112_15, zn112_16, zi112_17, zi112_18, zi112_34, p0j0, p0j1, p0j2, p0j3, p0j4, p0j5, p0j6, q112⟩ := p0
  unfold X11P0 at p1
  obtain ⟨zf113, p1j0, p1j1, p1j2, p1j3, p1j4, p1j5, p1j6, p1j7, p1j8, p1j9, p1j10, q113⟩ := p1
  unfold X11P23 at p8
  obtain ⟨zf120, q120⟩ := p8
  refine ⟨_, _, _, c_X11_without l dC dI G _ (ax 112) (ax 113) N B (ax 114) (ax 115) T (ax 116) (ax 117) (ax 118) (ax 119) (ax 120) (ax 121) S (ax 122) M (ax 123) (ax 124) (ax 125) (ax 126) (ax 127) (ax 128) i what zi112_4 zi112_5 zi112_6 zi112_7 zi112_8 zi112_9 fa zi112_13 zi112_14 zi112_15 (nI zn112_16) zi112_17 zi112_18 zi112_34 zf113 zf120 (by first | with_reducible assumption | assumption) (by first | with_reducible assumption | assumption) (by first | with_reducible assumption | assumption) (by first | with_reducible assumption | assumption) (by first | with_reducible assumption | assumption) (by first | with_reducible assumption | assumption) (by first | with_reducible assumption | assumption), ⟨e0, rfl, (vpc q112 (vpc q113 (vpc q120 va_nilP))), hK, vD_ix hi [112, 113, 120] (by rfl) (by decide) (by decide)⟩, ad_ix [112, 113, 120] (by rfl) (by decide), fun o t hq => ?_⟩
  obtain ⟨⟨r, obe, ho, ⟨hr, hu⟩, hP1, -⟩, hF⟩ := hq
  have FR : ∀ lo hi' : Nat, hi' ≤ 129 → ([112, 113, 120] : List Nat).all (fun x => decide (x < lo) || decide (hi' ≤ x)) = true → ∀ j : Nat, lo ≤ j → j < hi' → ax j < st.heap.size → t.heap[ax j]? = st.heap[ax j]? := fun lo hi' h1 h2 => fr_ix hi h1 hF.2 [112, 113, 120] (by rfl) (by decide) h2
  have np0 : X11Pr dC dI G ax T fa N B S M t.heap := ⟨zi112_4, zi112_5, zi112_6, zi112_7, zi112_8, zi112_9, zi112_13, zi112_14, zi112_15, zn112_16, zi112_17, zi112_18, zi112_34, p0j0, p0j1, p0j2, p0j3, p0j4, p0j5, p0j6, hP1 0 _ rfl⟩
  have np1 : X11P0 dC dI G ax W0 W1 W2 N B N1 B1 N2 B2 O0 O1 O2 t.heap := ⟨zf113, p1j0, p1j1, p1j2, p1j3, p1j4, p1j5, p1j6, p1j7, p1j8, p1j9, p1j10, hP1 1 _ rfl⟩
  have np8 : X11P23 dC dI G ax t.heap := ⟨obe, hP1 2 _ rfl⟩
  exact ⟨⟨r, (), ho, trivial, ⟨np0, np1, p2.kept (FR 114 115 (by decide) (by decide)), p3.kept (FR 115 116 (by decide) (by decide)), p4.kept (FR 116 117 (by decide) (by decide)), p5.kept (FR 117 118 (by decide) (by decide)), p6.kept (FR 118 119 (by decide) (by decide)), p7.kept (FR 119 120 (by decide) (by decide)), np8, p9.kept (FR 121 122 (by decide) (by decide)), p10.kept (FR 122 123 (by decide) (by decide)), p11.kept (FR 123 124 (by decide) (by decide)), p12.kept (FR 124 125 (by decide) (by decide)), p13.kept (FR 125 126 (by decide) (by decide)), p14.kept (FR 126 127 (by decide) (by decide)), p15.kept (FR 127 128 (by decide) (by decide)), p16.kept (FR 128 129 (by decide) (by decide)), ⟨hX, hXV.2⟩⟩⟩, hF.wide (ad_ix [112, 113, 120] (by rfl) (by decide))⟩

set_option maxHeartbeats 1000000 in
set_option maxRecDepth 100000 in
theorem k_X11_quiet (l : Launch) (dC : Nat → ClassId) (dI : Nat → Nat → Nat) (G : Nat → ClassId) (sz : Nat) (ax : Nat → Nat) (hi : adInj 129 ax) (T : Nat) (Y : Nat → Int32) (fa : Int32) (W0 : Nat → Int32) (W1 : Nat → Int32) (W2 : Nat → Int32) (N : Nat) (B : Nat) (N1 : Nat) (B1 : Nat) (N2 : Nat) (B2 : Nat) (K : Nat → Int32) (S : Nat) (M : Nat) (E : Nat → Int32) (Z : Nat → Int32) (O0 : Nat → Int32) (O1 : Nat → Int32) (O2 : Nat → Int32) (CE : Nat → Int32) (MR : Nat → Int32) (mm : Int32) (what : Int32) : Met l yX11_quiet (Cond.code yX11_quiet cX11_quiet 7 (some .long) :: GT) ({ frames := 4, cells := 0, slots := 0, locals := 99 } : Room) (PcI [.ref (ax 112), .int mm, .int what] dC dI G (X11I dC dI G ax T Y fa W0 W1 W2 N B N1 B1 N2 B2 K S M E Z O0 O1 O2 CE MR) sz) (va_Ql (fun (r : Int64) (_ : Unit) => True) (fun _ t => X11I dC dI G ax T Y fa W0 W1 W2 N B N1 B1 N2 B2 K S M E Z O0 O1 O2 CE MR t.heap) (adX 112 129 ax sz)) 0 0 (adX 112 129 ax sz) := by
  refine Met.pick (fun a st hp => ?_)
  obtain ⟨e0, hsz, hI, hK⟩ := hp
  subst hsz
  have hI0 := hI
  unfold X11I at hI
  obtain ⟨p0, p1, p2, p3, p4, p5, p6, p7, p8, p9, p10, p11, p12, p13, p14, p15, p16, hX⟩ := hI
  have hXV := hX
  have hX := hXV.1
  unfold X11Pr at p0
  obtain ⟨zi112_4, zi112_5, zi112_6, zi112_7, zi112_8, zi112_9, zi112_13, zi112_14, zi112_15, zn112_16, zi112_17, zi112_18, zi112_34, p0j0, p0j1, p0j2, p0j3, p0j4, p0j5, p0j6, q112⟩ := p0
  unfold X11P0 at p1
  obtain ⟨zf113, p1j0, p1j1, p1j2, p1j3, p1j4, p1j5, p1j6, p1j7, p1j8, p1j9, p1j10, q113⟩ := p1
  unfold X11P21 at p6
  obtain ⟨zf118, q118⟩ := p6
  unfold X11P22 at p7
  obtain ⟨zf119, q119⟩ := p7
  refine ⟨_, _, _, c_X11_quiet l dC dI G _ (ax 112) (ax 113) N B (ax 114) (ax 115) T (ax 116) (ax 117) (ax 118) (ax 119) (ax 120) (ax 121) S (ax 122) M (ax 123) (ax 124) (ax 125) (ax 126) (ax 127) (ax 128) mm what zi112_4 zi112_5 zi112_6 zi112_7 zi112_8 zi112_9 fa zi112_13 zi112_14 zi112_15 (nI zn112_16) zi112_17 zi112_18 zi112_34 zf113 zf118 zf119 (by first | with_reducible assumption | assumption) (by first | with_reducible assumption | assumption) (by first | with_reducible assumption | assumption) (by first | with_reducible assumption | assumption) (by first | with_reducible assumption | assumption) (by first | with_reducible assumption | assumption), ⟨e0, rfl, (vpc q112 (vpc q113 (vpc q118 (vpc q119 va_nilP)))), hK, vD_ix hi [112, 113, 118, 119] (by rfl) (by decide) (by decide)⟩, ad_ix [112, 113, 118, 119] (by rfl) (by decide), fun o t hq => ?_⟩
  obtain ⟨⟨r, ⟨ood, oth⟩, ho, ⟨hr, hu⟩, hP1, -⟩, hF⟩ := hq
  have FR : ∀ lo hi' : Nat, hi' ≤ 129 → ([112, 113, 118, 119] : List Nat).all (fun x => decide (x < lo) || decide (hi' ≤ x)) = true → ∀ j : Nat, lo ≤ j → j < hi' → ax j < st.heap.size → t.heap[ax j]? = st.heap[ax j]? := fun lo hi' h1 h2 => fr_ix hi h1 hF.2 [112, 113, 118, 119] (by rfl) (by decide) h2
  have np0 : X11Pr dC dI G ax T fa N B S M t.heap := ⟨zi112_4, zi112_5, zi112_6, zi112_7, zi112_8, zi112_9, zi112_13, zi112_14, zi112_15, zn112_16, zi112_17, zi112_18, zi112_34, p0j0, p0j1, p0j2, p0j3, p0j4, p0j5, p0j6, hP1 0 _ rfl⟩
  have np1 : X11P0 dC dI G ax W0 W1 W2 N B N1 B1 N2 B2 O0 O1 O2 t.heap := ⟨zf113, p1j0, p1j1, p1j2, p1j3, p1j4, p1j5, p1j6, p1j7, p1j8, p1j9, p1j10, hP1 1 _ rfl⟩
  have np6 : X11P21 dC dI G ax t.heap := ⟨ood, hP1 2 _ rfl⟩
  have np7 : X11P22 dC dI G ax t.heap := ⟨oth, hP1 3 _ rfl⟩
  exact ⟨⟨r, (), ho, trivial, ⟨np0, np1, p2.kept (FR 114 115 (by decide) (by decide)), p3.kept (FR 115 116 (by decide) (by decide)), p4.kept (FR 116 117 (by decide) (by decide)), p5.kept (FR 117 118 (by decide) (by decide)), np6, np7, p8.kept (FR 120 121 (by decide) (by decide)), p9.kept (FR 121 122 (by decide) (by decide)), p10.kept (FR 122 123 (by decide) (by decide)), p11.kept (FR 123 124 (by decide) (by decide)), p12.kept (FR 124 125 (by decide) (by decide)), p13.kept (FR 125 126 (by decide) (by decide)), p14.kept (FR 126 127 (by decide) (by decide)), p15.kept (FR 127 128 (by decide) (by decide)), p16.kept (FR 128 129 (by decide) (by decide)), ⟨hX, hXV.2⟩⟩⟩, hF.wide (ad_ix [112, 113, 118, 119] (by rfl) (by decide))⟩

set_option maxHeartbeats 1000000 in
set_option maxRecDepth 100000 in
theorem k_X11_drop (l : Launch) (dC : Nat → ClassId) (dI : Nat → Nat → Nat) (G : Nat → ClassId) (sz : Nat) (ax : Nat → Nat) (hi : adInj 129 ax) (T : Nat) (Y : Nat → Int32) (fa : Int32) (W0 : Nat → Int32) (W1 : Nat → Int32) (W2 : Nat → Int32) (N : Nat) (B : Nat) (N1 : Nat) (B1 : Nat) (N2 : Nat) (B2 : Nat) (K : Nat → Int32) (S : Nat) (M : Nat) (E : Nat → Int32) (Z : Nat → Int32) (O0 : Nat → Int32) (O1 : Nat → Int32) (O2 : Nat → Int32) (CE : Nat → Int32) (MR : Nat → Int32) (what : Int32) : Met l yX11_drop (Cond.code yX11_drop cX11_drop 6 (some .long) :: GT) ({ frames := 4, cells := 0, slots := 0, locals := 99 } : Room) (PcI [.ref (ax 112), .int what] dC dI G (X11I dC dI G ax T Y fa W0 W1 W2 N B N1 B1 N2 B2 K S M E Z O0 O1 O2 CE MR) sz) (va_Ql (fun (r : Int64) (_ : Unit) => True) (fun _ t => X11I dC dI G ax T Y fa W0 W1 W2 N B N1 B1 N2 B2 K S M E Z O0 O1 O2 CE MR t.heap) (adX 112 129 ax sz)) 0 0 (adX 112 129 ax sz) := by
  refine Met.pick (fun a st hp => ?_)
  obtain ⟨e0, hsz, hI, hK⟩ := hp
  subst hsz
  have hI0 := hI
  unfold X11I at hI
  obtain ⟨p0, p1, p2, p3, p4, p5, p6, p7, p8, p9, p10, p11, p12, p13, p14, p15, p16, hX⟩ := hI
  have hXV := hX
  have hX := hXV.1
  unfold X11Pr at p0
  obtain ⟨zi112_4, zi112_5, zi112_6, zi112_7, zi112_8, zi112_9, zi112_13, zi112_14, zi112_15, zn112_16, zi112_17, zi112_18, zi112_34, p0j0, p0j1, p0j2, p0j3, p0j4, p0j5, p0j6, q112⟩ := p0
  unfold X11P0 at p1
  obtain ⟨zf113, p1j0, p1j1, p1j2, p1j3, p1j4, p1j5, p1j6, p1j7, p1j8, p1j9, p1j10, q113⟩ := p1
  unfold X11P21 at p6
  obtain ⟨zf118, q118⟩ := p6
  unfold X11P22 at p7
  obtain ⟨zf119, q119⟩ := p7
  refine ⟨_, _, _, c_X11_drop l dC dI G _ (ax 112) (ax 113) N B (ax 114) (ax 115) T (ax 116) (ax 117) (ax 118) (ax 119) (ax 120) (ax 121) S (ax 122) M (ax 123) (ax 124) (ax 125) (ax 126) (ax 127) (ax 128) what zi112_4 zi112_5 zi112_6 zi112_7 zi112_8 zi112_9 fa zi112_13 zi112_14 zi112_15 (nI zn112_16) zi112_17 zi112_18 zi112_34 zf113 zf118 zf119 (by first | with_reducible assumption | assumption) (by first | with_reducible assumption | assumption) (by first | with_reducible assumption | assumption) (by first | with_reducible assumption | assumption) (by first | with_reducible assumption | assumption) (by first | with_reducible assumption | assumption), ⟨e0, rfl, (vpc q112 (vpc q113 (vpc q118 (vpc q119 va_nilP)))), hK, vD_ix hi [112, 113, 118, 119] (by rfl) (by decide) (by decide)⟩, ad_ix [112, 113, 118, 119] (by rfl) (by decide), fun o t hq => ?_⟩
  obtain ⟨⟨r, ⟨ood, oth⟩, ho, ⟨hr, hu⟩, hP1, -⟩, hF⟩ := hq
  have FR : ∀ lo hi' : Nat, hi' ≤ 129 → ([112, 113, 118, 119] : List Nat).all (fun x => decide (x < lo) || decide (hi' ≤ x)) = true → ∀ j : Nat, lo ≤ j → j < hi' → ax j < st.heap.size → t.heap[ax j]? = st.heap[ax j]? := fun lo hi' h1 h2 => fr_ix hi h1 hF.2 [112, 113, 118, 119] (by rfl) (by decide) h2
  have np0 : X11Pr dC dI G ax T fa N B S M t.heap := ⟨zi112_4, zi112_5, zi112_6, zi112_7, zi112_8, zi112_9, zi112_13, zi112_14, zi112_15, zn112_16, zi112_17, zi112_18, zi112_34, p0j0, p0j1, p0j2, p0j3, p0j4, p0j5, p0j6, hP1 0 _ rfl⟩
  have np1 : X11P0 dC dI G ax W0 W1 W2 N B N1 B1 N2 B2 O0 O1 O2 t.heap := ⟨zf113, p1j0, p1j1, p1j2, p1j3, p1j4, p1j5, p1j6, p1j7, p1j8, p1j9, p1j10, hP1 1 _ rfl⟩
  have np6 : X11P21 dC dI G ax t.heap := ⟨ood, hP1 2 _ rfl⟩
  have np7 : X11P22 dC dI G ax t.heap := ⟨oth, hP1 3 _ rfl⟩
  exact ⟨⟨r, (), ho, trivial, ⟨np0, np1, p2.kept (FR 114 115 (by decide) (by decide)), p3.kept (FR 115 116 (by decide) (by decide)), p4.kept (FR 116 117 (by decide) (by decide)), p5.kept (FR 117 118 (by decide) (by decide)), np6, np7, p8.kept (FR 120 121 (by decide) (by decide)), p9.kept (FR 121 122 (by decide) (by decide)), p10.kept (FR 122 123 (by decide) (by decide)), p11.kept (FR 123 124 (by decide) (by decide)), p12.kept (FR 124 125 (by decide) (by decide)), p13.kept (FR 125 126 (by decide) (by decide)), p14.kept (FR 126 127 (by decide) (by decide)), p15.kept (FR 127 128 (by decide) (by decide)), p16.kept (FR 128 129 (by decide) (by decide)), ⟨hX, hXV.2⟩⟩⟩, hF.wide (ad_ix [112, 113, 118, 119] (by rfl) (by decide))⟩

set_option maxHeartbeats 1000000 in
set_option maxRecDepth 100000 in
theorem k_X11_swapO (l : Launch) (dC : Nat → ClassId) (dI : Nat → Nat → Nat) (G : Nat → ClassId) (sz : Nat) (ax : Nat → Nat) (hi : adInj 129 ax) (T : Nat) (Y : Nat → Int32) (fa : Int32) (W0 : Nat → Int32) (W1 : Nat → Int32) (W2 : Nat → Int32) (N : Nat) (B : Nat) (N1 : Nat) (B1 : Nat) (N2 : Nat) (B2 : Nat) (K : Nat → Int32) (S : Nat) (M : Nat) (E : Nat → Int32) (Z : Nat → Int32) (O0 : Nat → Int32) (O1 : Nat → Int32) (O2 : Nat → Int32) (CE : Nat → Int32) (MR : Nat → Int32) (what : Int32) : Met l yX11_swap (Cond.code yX11_swap cX11_swap 7 (some .long) :: GT) ({ frames := 4, cells := 0, slots := 0, locals := 99 } : Room) (PcI [.ref (ax 112), .int what] dC dI G (X11I dC dI G ax T Y fa W0 W1 W2 N B N1 B1 N2 B2 K S M E Z O0 O1 O2 CE MR) sz) (va_Ql (fun (r : Int64) (_ : Unit) => True) (fun _ t => X11I dC dI G ax T Y fa W0 W1 W2 N B N1 B1 N2 B2 K S M E Z O0 O1 O2 CE MR t.heap) (adX 112 129 ax sz)) 0 0 (adX 112 129 ax sz) := by
  refine Met.pick (fun a st hp => ?_)
  obtain ⟨e0, hsz, hI, hK⟩ := hp
  subst hsz
  have hI0 := hI
  unfold X11I at hI
  obtain ⟨p0, p1, p2, p3, p4, p5, p6, p7, p8, p9, p10, p11, p12, p13, p14, p15, p16, hX⟩ := hI
  have hXV := hX
  have hX := hXV.1
  unfold X11Pr at p0
  obtain ⟨zi112_4, zi112_5, zi112_6, zi112_7, zi112_8, zi112_9, zi112_13, zi112_14, zi112_15, zn112_16, zi112_17, zi112_18, zi112_34, p0j0, p0j1, p0j2, p0j3, p0j4, p0j5, p0j6, q112⟩ := p0
  unfold X11P0 at p1
  obtain ⟨zf113, p1j0, p1j1, p1j2, p1j3, p1j4, p1j5, p1j6, p1j7, p1j8, p1j9, p1j10, q113⟩ := p1
  unfold X11P21 at p6
  obtain ⟨zf118, q118⟩ := p6
  unfold X11P22 at p7
  obtain ⟨zf119, q119⟩ := p7
  refine ⟨_, _, _, c_X11_swapO l dC dI G _ (ax 112) (ax 113) N B (ax 114) (ax 115) T (ax 116) (ax 117) (ax 118) (ax 119) (ax 120) (ax 121) S (ax 122) M (ax 123) (ax 124) (ax 125) (ax 126) (ax 127) (ax 128) what zi112_4 zi112_5 zi112_6 zi112_7 zi112_8 zi112_9 fa zi112_13 zi112_14 zi112_15 (nI zn112_16) zi112_17 zi112_18 zi112_34 zf113 zf118 zf119 (by first | with_reducible assumption | assumption) (by first | with_reducible assumption | assumption) (by first | with_reducible assumption | assumption) (by first | with_reducible assumption | assumption) (by first | with_reducible assumption | assumption) (by first | with_reducible assumption | assumption), ⟨e0, rfl, (vpc q112 (vpc q113 (vpc q118 (vpc q119 va_nilP)))), hK, vD_ix hi [112, 113, 118, 119] (by rfl) (by decide) (by decide)⟩, ad_ix [112, 113, 118, 119] (by rfl) (by decide), fun o t hq => ?_⟩
  obtain ⟨⟨r, ⟨ost, ood, oth⟩, ho, ⟨hr, hu⟩, hP1, -⟩, hF⟩ := hq
  have FR : ∀ lo hi' : Nat, hi' ≤ 129 → ([112, 113, 118, 119] : List Nat).all (fun x => decide (x < lo) || decide (hi' ≤ x)) = true → ∀ j : Nat, lo ≤ j → j < hi' → ax j < st.heap.size → t.heap[ax j]? = st.heap[ax j]? := fun lo hi' h1 h2 => fr_ix hi h1 hF.2 [112, 113, 118, 119] (by rfl) (by decide) h2
  have np0 : X11Pr dC dI G ax T fa N B S M t.heap := ⟨zi112_4, zi112_5, zi112_6, zi112_7, zi112_8, zi112_9, zi112_13, zi112_14, zi112_15, zn112_16, zi112_17, zi112_18, zi112_34, p0j0, p0j1, p0j2, p0j3, p0j4, p0j5, p0j6, hP1 0 _ rfl⟩
  have np1 : X11P0 dC dI G ax W0 W1 W2 N B N1 B1 N2 B2 O0 O1 O2 t.heap := ⟨ost, p1j0, p1j1, p1j2, p1j3, (by rw [hu.2]; assumption), (by rw [hu.2]; assumption), (by rw [hu.2]; assumption), (by rw [hu.2]; assumption), (by rw [hu.2]; assumption), (by rw [hu.2]; assumption), (by first | omega | exact hu | exact hu.1 | exact hu.1.1 | exact hu.1.2 | exact hu.2 | exact hu.1.1.1 | exact hu.1.1.2 | exact fd_nn (by first | with_reducible assumption | assumption) | (split at hu <;> omega) | (split <;> omega) | exact E_inv (by first | with_reducible assumption | assumption)), hP1 1 _ rfl⟩
  have np6 : X11P21 dC dI G ax t.heap := ⟨ood, hP1 2 _ rfl⟩
  have np7 : X11P22 dC dI G ax t.heap := ⟨oth, hP1 3 _ rfl⟩
  exact ⟨⟨r, (), ho, trivial, ⟨np0, np1, p2.kept (FR 114 115 (by decide) (by decide)), p3.kept (FR 115 116 (by decide) (by decide)), p4.kept (FR 116 117 (by decide) (by decide)), p5.kept (FR 117 118 (by decide) (by decide)), np6, np7, p8.kept (FR 120 121 (by decide) (by decide)), p9.kept (FR 121 122 (by decide) (by decide)), p10.kept (FR 122 123 (by decide) (by decide)), p11.kept (FR 123 124 (by decide) (by decide)), p12.kept (FR 124 125 (by decide) (by decide)), p13.kept (FR 125 126 (by decide) (by decide)), p14.kept (FR 126 127 (by decide) (by decide)), p15.kept (FR 127 128 (by decide) (by decide)), p16.kept (FR 128 129 (by decide) (by decide)), ⟨hX, hXV.2⟩⟩⟩, hF.wide (ad_ix [112, 113, 118, 119] (by rfl) (by decide))⟩

set_option maxHeartbeats 1000000 in
set_option maxRecDepth 100000 in
theorem k_X11_carry (l : Launch) (dC : Nat → ClassId) (dI : Nat → Nat → Nat) (G : Nat → ClassId) (sz : Nat) (ax : Nat → Nat) (hi : adInj 129 ax) (T : Nat) (Y : Nat → Int32) (fa : Int32) (W0 : Nat → Int32) (W1 : Nat → Int32) (W2 : Nat → Int32) (N : Nat) (B : Nat) (N1 : Nat) (B1 : Nat) (N2 : Nat) (B2 : Nat) (K : Nat → Int32) (S : Nat) (M : Nat) (E : Nat → Int32) (Z : Nat → Int32) (O0 : Nat → Int32) (O1 : Nat → Int32) (O2 : Nat → Int32) (CE : Nat → Int32) (MR : Nat → Int32) (sd : Int32) (what : Int32) : Met l yX11_carry (Cond.code yX11_carry cX11_carry 9 (some .int) :: GT) ({ frames := 3, cells := 0, slots := 0, locals := 72 } : Room) (PcI [.ref (ax 112), .int sd, .int what] dC dI G (X11I dC dI G ax T Y fa W0 W1 W2 N B N1 B1 N2 B2 K S M E Z O0 O1 O2 CE MR) sz) (va_Qi (fun (r : Int32) (_ : Unit) => True) (fun _ t => X11I dC dI G ax T Y fa W0 W1 W2 N B N1 B1 N2 B2 K S M E Z O0 O1 O2 CE MR t.heap) (adX 112 129 ax sz)) 0 0 (adX 112 129 ax sz) := by
  refine Met.pick (fun a st hp => ?_)
  obtain ⟨e0, hsz, hI, hK⟩ := hp
  subst hsz
  have hI0 := hI
  unfold X11I at hI
  obtain ⟨p0, p1, p2, p3, p4, p5, p6, p7, p8, p9, p10, p11, p12, p13, p14, p15, p16, hX⟩ := hI
  have hXV := hX
  have hX := hXV.1
  unfold X11Pr at p0
  obtain ⟨zi112_4, zi112_5, zi112_6, zi112_7, zi112_8, zi112_9, zi112_13, zi112_14, zi112_15, zn112_16, zi112_17, zi112_18, zi112_34, p0j0, p0j1, p0j2, p0j3, p0j4, p0j5, p0j6, q112⟩ := p0
  unfold X11P0 at p1
  obtain ⟨zf113, p1j0, p1j1, p1j2, p1j3, p1j4, p1j5, p1j6, p1j7, p1j8, p1j9, p1j10, q113⟩ := p1
  refine ⟨_, _, _, c_X11_carry l dC dI G _ (ax 112) (ax 113) N B (ax 114) (ax 115) T (ax 116) (ax 117) (ax 118) (ax 119) (ax 120) (ax 121) S (ax 122) M (ax 123) (ax 124) (ax 125) (ax 126) (ax 127) (ax 128) sd what zi112_4 zi112_5 zi112_6 zi112_7 zi112_8 zi112_9 fa zi112_13 zi112_14 zi112_15 (nI zn112_16) zi112_17 zi112_18 zi112_34 zf113 (by first | with_reducible assumption | assumption) (by first | with_reducible assumption | assumption) (by first | with_reducible assumption | assumption) (by first | with_reducible assumption | assumption) (by first | with_reducible assumption | assumption) (by first | with_reducible assumption | assumption), ⟨e0, rfl, (vpc q112 (vpc q113 va_nilP)), hK⟩, fun q h => Or.inr h, fun o t hq => ?_⟩
  obtain ⟨⟨r, u, ho, ⟨hr, hu⟩, -⟩, hF⟩ := hq
  exact ⟨⟨r, (), ho, trivial, hI0.kept (fun j _ _ h => hF.2 _ h (Nat.not_le.mpr h))⟩, hF.wide (fun q h => Or.inr h)⟩

set_option maxHeartbeats 1000000 in
set_option maxRecDepth 100000 in
theorem k_X11_learnE (l : Launch) (dC : Nat → ClassId) (dI : Nat → Nat → Nat) (G : Nat → ClassId) (sz : Nat) (ax : Nat → Nat) (hi : adInj 129 ax) (T : Nat) (Y : Nat → Int32) (fa : Int32) (W0 : Nat → Int32) (W1 : Nat → Int32) (W2 : Nat → Int32) (N : Nat) (B : Nat) (N1 : Nat) (B1 : Nat) (N2 : Nat) (B2 : Nat) (K : Nat → Int32) (S : Nat) (M : Nat) (E : Nat → Int32) (Z : Nat → Int32) (O0 : Nat → Int32) (O1 : Nat → Int32) (O2 : Nat → Int32) (CE : Nat → Int32) (MR : Nat → Int32) (i : Int32) (g : Int32) (k : Int32) (hm : Int32) : Met l yX11_learn (Cond.code yX11_learn cX11_learn 6 (some .int) :: GT) ({ frames := 3, cells := 0, slots := 0, locals := 69 } : Room) (PcI [.ref (ax 112), .int i, .int g, .int k, .int hm] dC dI G (X11I dC dI G ax T Y fa W0 W1 W2 N B N1 B1 N2 B2 K S M E Z O0 O1 O2 CE MR) sz) (va_Qi (fun (r : Int32) (_ : Unit) => r = if ((0 ≤ i.toInt ∧ i.toInt < ((N : Nat) : Int)) ∧ (g.toInt = -4 ∨ (0 ≤ g.toInt ∧ g.toInt < ((B : Nat) : Int))) ∧ (0 ≤ k.toInt ∧ k.toInt < ((B : Nat) : Int)) ∧ 0 ≤ hm.toInt ∧ hm.toInt ≤ 20) then (if S < 8 then nI (S + 1) else -3) else -1) (fun _ t => X11I dC dI G ax T Y fa W0 W1 W2 N B N1 B1 N2 B2 K (if ((0 ≤ i.toInt ∧ i.toInt < ((N : Nat) : Int)) ∧ (g.toInt = -4 ∨ (0 ≤ g.toInt ∧ g.toInt < ((B : Nat) : Int))) ∧ (0 ≤ k.toInt ∧ k.toInt < ((B : Nat) : Int)) ∧ 0 ≤ hm.toInt ∧ hm.toInt ≤ 20) ∧ S < 8 then S + 1 else S) M E Z O0 O1 O2 CE MR t.heap) (adX 112 129 ax sz)) 0 0 (adX 112 129 ax sz) := by
  refine Met.pick (fun a st hp => ?_)
  obtain ⟨e0, hsz, hI, hK⟩ := hp
  subst hsz
  have hI0 := hI
  unfold X11I at hI
  obtain ⟨p0, p1, p2, p3, p4, p5, p6, p7, p8, p9, p10, p11, p12, p13, p14, p15, p16, hX⟩ := hI
  have hXV := hX
  have hX := hXV.1
  unfold X11Pr at p0
  obtain ⟨zi112_4, zi112_5, zi112_6, zi112_7, zi112_8, zi112_9, zi112_13, zi112_14, zi112_15, zn112_16, zi112_17, zi112_18, zi112_34, p0j0, p0j1, p0j2, p0j3, p0j4, p0j5, p0j6, q112⟩ := p0
  unfold X11P24 at p9
  obtain ⟨zf121, p9j0, q121⟩ := p9
  refine ⟨_, _, _, c_X11_learnE l dC dI G _ (ax 112) (ax 113) N B (ax 114) (ax 115) T (ax 116) (ax 117) (ax 118) (ax 119) (ax 120) (ax 121) S (ax 122) M (ax 123) (ax 124) (ax 125) (ax 126) (ax 127) (ax 128) i g k hm zi112_4 zi112_5 zi112_6 zi112_7 zi112_8 zi112_9 fa zi112_13 zi112_14 zi112_15 (nI zn112_16) zi112_17 zi112_18 zi112_34 zf121 (by first | with_reducible assumption | assumption) (by first | with_reducible assumption | assumption) (by first | with_reducible assumption | assumption) (by first | with_reducible assumption | assumption) (by first | with_reducible assumption | assumption) (by first | with_reducible assumption | assumption), ⟨e0, rfl, (vpc q112 (vpc q121 va_nilP)), hK, vD_ix hi [112, 121] (by rfl) (by decide) (by decide)⟩, ad_ix [112, 121] (by rfl) (by decide), fun o t hq => ?_⟩
  obtain ⟨⟨r, ⟨oS, oln⟩, ho, ⟨hr, hu⟩, hP1, -⟩, hF⟩ := hq
  have FR : ∀ lo hi' : Nat, hi' ≤ 129 → ([112, 121] : List Nat).all (fun x => decide (x < lo) || decide (hi' ≤ x)) = true → ∀ j : Nat, lo ≤ j → j < hi' → ax j < st.heap.size → t.heap[ax j]? = st.heap[ax j]? := fun lo hi' h1 h2 => fr_ix hi h1 hF.2 [112, 121] (by rfl) (by decide) h2
  have xS : (if ((0 ≤ i.toInt ∧ i.toInt < ((N : Nat) : Int)) ∧ (g.toInt = -4 ∨ (0 ≤ g.toInt ∧ g.toInt < ((B : Nat) : Int))) ∧ (0 ≤ k.toInt ∧ k.toInt < ((B : Nat) : Int)) ∧ 0 ≤ hm.toInt ∧ hm.toInt ≤ 20) ∧ S < 8 then S + 1 else S) = oS := Eq.symm (by first | exact hu | exact hu.1 | exact hu.2 | exact hu.1.1 | exact hu.1.2 | exact hu.2.1.trans (txt_cf (by first | with_reducible assumption | assumption)) | exact hu.2.1.trans (txt_rf (by first | with_reducible assumption | assumption)) | exact hu.1.1.trans lmap_step | omega)
  subst xS
  have np0 : X11Pr dC dI G ax T fa N B (if ((0 ≤ i.toInt ∧ i.toInt < ((N : Nat) : Int)) ∧ (g.toInt = -4 ∨ (0 ≤ g.toInt ∧ g.toInt < ((B : Nat) : Int))) ∧ (0 ≤ k.toInt ∧ k.toInt < ((B : Nat) : Int)) ∧ 0 ≤ hm.toInt ∧ hm.toInt ≤ 20) ∧ S < 8 then S + 1 else S) M t.heap := ⟨zi112_4, zi112_5, zi112_6, zi112_7, zi112_8, zi112_9, zi112_13, zi112_14, zi112_15, zn112_16, zi112_17, zi112_18, zi112_34, p0j0, p0j1, p0j2, (by first | omega | exact hu | exact hu.1 | exact hu.1.1 | exact hu.1.2 | exact hu.2 | exact hu.1.1.1 | exact hu.1.1.2 | exact fd_nn (by first | with_reducible assumption | assumption) | (split at hu <;> omega) | (split <;> omega) | exact E_inv (by first | with_reducible assumption | assumption)), p0j4, p0j5, p0j6, hP1 0 _ rfl⟩
  have np9 : X11P24 dC dI G ax t.heap := ⟨oln, (by first | omega | exact hu | exact hu.1 | exact hu.1.1 | exact hu.1.2 | exact hu.2 | exact hu.1.1.1 | exact hu.1.1.2 | exact fd_nn (by first | with_reducible assumption | assumption) | (split at hu <;> omega) | (split <;> omega) | exact E_inv (by first | with_reducible assumption | assumption)), hP1 1 _ rfl⟩
  exact ⟨⟨r, (), ho, hr, ⟨np0, p1.kept (FR 113 114 (by decide) (by decide)), p2.kept (FR 114 115 (by decide) (by decide)), p3.kept (FR 115 116 (by decide) (by decide)), p4.kept (FR 116 117 (by decide) (by decide)), p5.kept (FR 117 118 (by decide) (by decide)), p6.kept (FR 118 119 (by decide) (by decide)), p7.kept (FR 119 120 (by decide) (by decide)), p8.kept (FR 120 121 (by decide) (by decide)), np9, p10.kept (FR 122 123 (by decide) (by decide)), p11.kept (FR 123 124 (by decide) (by decide)), p12.kept (FR 124 125 (by decide) (by decide)), p13.kept (FR 125 126 (by decide) (by decide)), p14.kept (FR 126 127 (by decide) (by decide)), p15.kept (FR 127 128 (by decide) (by decide)), p16.kept (FR 128 129 (by decide) (by decide)), ⟨hX, hXV.2⟩⟩⟩, hF.wide (ad_ix [112, 121] (by rfl) (by decide))⟩

set_option maxHeartbeats 1000000 in
set_option maxRecDepth 100000 in
theorem k_X11_forgetE (l : Launch) (dC : Nat → ClassId) (dI : Nat → Nat → Nat) (G : Nat → ClassId) (sz : Nat) (ax : Nat → Nat) (hi : adInj 129 ax) (T : Nat) (Y : Nat → Int32) (fa : Int32) (W0 : Nat → Int32) (W1 : Nat → Int32) (W2 : Nat → Int32) (N : Nat) (B : Nat) (N1 : Nat) (B1 : Nat) (N2 : Nat) (B2 : Nat) (K : Nat → Int32) (S : Nat) (M : Nat) (E : Nat → Int32) (Z : Nat → Int32) (O0 : Nat → Int32) (O1 : Nat → Int32) (O2 : Nat → Int32) (CE : Nat → Int32) (MR : Nat → Int32) (n : Int32) : Met l yX11_forget (Cond.code yX11_forget cX11_forget 3 (some .int) :: GT) ({ frames := 1, cells := 0, slots := 0, locals := 25 } : Room) (PcI [.ref (ax 112), .int n] dC dI G (X11I dC dI G ax T Y fa W0 W1 W2 N B N1 B1 N2 B2 K S M E Z O0 O1 O2 CE MR) sz) (va_Qi (fun (r : Int32) (_ : Unit) => r = if 0 ≤ n.toInt ∧ n.toInt ≤ ((S : Nat) : Int) then nI S else -1) (fun _ t => X11I dC dI G ax T Y fa W0 W1 W2 N B N1 B1 N2 B2 K (if 0 ≤ n.toInt ∧ n.toInt ≤ ((S : Nat) : Int) then n.toNatClampNeg else S) M E Z O0 O1 O2 CE MR t.heap) (adX 112 129 ax sz)) 0 0 (adX 112 129 ax sz) := by
  refine Met.pick (fun a st hp => ?_)
  obtain ⟨e0, hsz, hI, hK⟩ := hp
  subst hsz
  have hI0 := hI
  unfold X11I at hI
  obtain ⟨p0, p1, p2, p3, p4, p5, p6, p7, p8, p9, p10, p11, p12, p13, p14, p15, p16, hX⟩ := hI
  have hXV := hX
  have hX := hXV.1
  unfold X11Pr at p0
  obtain ⟨zi112_4, zi112_5, zi112_6, zi112_7, zi112_8, zi112_9, zi112_13, zi112_14, zi112_15, zn112_16, zi112_17, zi112_18, zi112_34, p0j0, p0j1, p0j2, p0j3, p0j4, p0j5, p0j6, q112⟩ := p0
  refine ⟨_, _, _, c_X11_forgetE l dC dI G _ (ax 112) (ax 113) N B (ax 114) (ax 115) T (ax 116) (ax 117) (ax 118) (ax 119) (ax 120) (ax 121) S (ax 122) M (ax 123) (ax 124) (ax 125) (ax 126) (ax 127) (ax 128) n zi112_4 zi112_5 zi112_6 zi112_7 zi112_8 zi112_9 fa zi112_13 zi112_14 zi112_15 (nI zn112_16) zi112_17 zi112_18 zi112_34 (by first | with_reducible assumption | assumption) (by first | with_reducible assumption | assumption) (by first | with_reducible assumption | assumption) (by first | with_reducible assumption | assumption) (by first | with_reducible assumption | assumption), ⟨e0, rfl, (vpc q112 va_nilP), hK, vD_ix hi [112] (by rfl) (by decide) (by decide)⟩, ad_ix [112] (by rfl) (by decide), fun o t hq => ?_⟩
  obtain ⟨⟨r, oS, ho, ⟨hr, hu⟩, hP1, -⟩, hF⟩ := hq
  have FR : ∀ lo hi' : Nat, hi' ≤ 129 → ([112] : List Nat).all (fun x => decide (x < lo) || decide (hi' ≤ x)) = true → ∀ j : Nat, lo ≤ j → j < hi' → ax j < st.heap.size → t.heap[ax j]? = st.heap[ax j]? := fun lo hi' h1 h2 => fr_ix hi h1 hF.2 [112] (by rfl) (by decide) h2
  have xS : (if 0 ≤ n.toInt ∧ n.toInt ≤ ((S : Nat) : Int) then n.toNatClampNeg else S) = oS := Eq.symm (by first | exact hu | exact hu.1 | exact hu.2 | exact hu.1.1 | exact hu.1.2 | exact hu.2.1.trans (txt_cf (by first | with_reducible assumption | assumption)) | exact hu.2.1.trans (txt_rf (by first | with_reducible assumption | assumption)) | exact hu.1.1.trans lmap_step | omega)
  subst xS
  have np0 : X11Pr dC dI G ax T fa N B (if 0 ≤ n.toInt ∧ n.toInt ≤ ((S : Nat) : Int) then n.toNatClampNeg else S) M t.heap := ⟨zi112_4, zi112_5, zi112_6, zi112_7, zi112_8, zi112_9, zi112_13, zi112_14, zi112_15, zn112_16, zi112_17, zi112_18, zi112_34, p0j0, p0j1, p0j2, (by first | omega | exact hu | exact hu.1 | exact hu.1.1 | exact hu.1.2 | exact hu.2 | exact hu.1.1.1 | exact hu.1.1.2 | exact fd_nn (by first | with_reducible assumption | assumption) | (split at hu <;> omega) | (split <;> omega) | exact E_inv (by first | with_reducible assumption | assumption)), p0j4, p0j5, p0j6, hP1 0 _ rfl⟩
  exact ⟨⟨r, (), ho, hr, ⟨np0, p1.kept (FR 113 114 (by decide) (by decide)), p2.kept (FR 114 115 (by decide) (by decide)), p3.kept (FR 115 116 (by decide) (by decide)), p4.kept (FR 116 117 (by decide) (by decide)), p5.kept (FR 117 118 (by decide) (by decide)), p6.kept (FR 118 119 (by decide) (by decide)), p7.kept (FR 119 120 (by decide) (by decide)), p8.kept (FR 120 121 (by decide) (by decide)), p9.kept (FR 121 122 (by decide) (by decide)), p10.kept (FR 122 123 (by decide) (by decide)), p11.kept (FR 123 124 (by decide) (by decide)), p12.kept (FR 124 125 (by decide) (by decide)), p13.kept (FR 125 126 (by decide) (by decide)), p14.kept (FR 126 127 (by decide) (by decide)), p15.kept (FR 127 128 (by decide) (by decide)), p16.kept (FR 128 129 (by decide) (by decide)), ⟨hX, hXV.2⟩⟩⟩, hF.wide (ad_ix [112] (by rfl) (by decide))⟩

set_option maxHeartbeats 1000000 in
set_option maxRecDepth 100000 in
theorem k_X11_stepsW (l : Launch) (dC : Nat → ClassId) (dI : Nat → Nat → Nat) (G : Nat → ClassId) (sz : Nat) (ax : Nat → Nat) (hi : adInj 129 ax) (T : Nat) (Y : Nat → Int32) (fa : Int32) (W0 : Nat → Int32) (W1 : Nat → Int32) (W2 : Nat → Int32) (N : Nat) (B : Nat) (N1 : Nat) (B1 : Nat) (N2 : Nat) (B2 : Nat) (K : Nat → Int32) (S : Nat) (M : Nat) (E : Nat → Int32) (Z : Nat → Int32) (O0 : Nat → Int32) (O1 : Nat → Int32) (O2 : Nat → Int32) (CE : Nat → Int32) (MR : Nat → Int32) (b : Int32) (what : Int32) : Met l yX11_steps (Cond.code yX11_steps cX11_steps 11 (some .int) :: GT) ({ frames := 2, cells := 0, slots := 0, locals := 50 } : Room) (PcI [.ref (ax 112), .int b, .int what] dC dI G (X11I dC dI G ax T Y fa W0 W1 W2 N B N1 B1 N2 B2 K S M E Z O0 O1 O2 CE MR) sz) (va_Qi (fun (r : Int32) (_ : Unit) => True) (fun _ t => X11I dC dI G ax T Y fa W0 W1 W2 N B N1 B1 N2 B2 K S M E Z O0 O1 O2 CE MR t.heap) (adX 112 129 ax sz)) 0 0 (adX 112 129 ax sz) := by
  refine Met.pick (fun a st hp => ?_)
  obtain ⟨e0, hsz, hI, hK⟩ := hp
  subst hsz
  have hI0 := hI
  unfold X11I at hI
  obtain ⟨p0, p1, p2, p3, p4, p5, p6, p7, p8, p9, p10, p11, p12, p13, p14, p15, p16, hX⟩ := hI
  have hXV := hX
  have hX := hXV.1
  unfold X11Pr at p0
  obtain ⟨zi112_4, zi112_5, zi112_6, zi112_7, zi112_8, zi112_9, zi112_13, zi112_14, zi112_15, zn112_16, zi112_17, zi112_18, zi112_34, p0j0, p0j1, p0j2, p0j3, p0j4, p0j5, p0j6, q112⟩ := p0
  unfold X11P0 at p1
  obtain ⟨zf113, p1j0, p1j1, p1j2, p1j3, p1j4, p1j5, p1j6, p1j7, p1j8, p1j9, p1j10, q113⟩ := p1
  unfold X11P24 at p9
  obtain ⟨zf121, p9j0, q121⟩ := p9
  refine ⟨_, _, _, c_X11_stepsW l dC dI G _ (ax 112) (ax 113) N B (ax 114) (ax 115) T (ax 116) (ax 117) (ax 118) (ax 119) (ax 120) (ax 121) S (ax 122) M (ax 123) (ax 124) (ax 125) (ax 126) (ax 127) (ax 128) b what zi112_4 zi112_5 zi112_6 zi112_7 zi112_8 zi112_9 fa zi112_13 zi112_14 zi112_15 (nI zn112_16) zi112_17 zi112_18 zi112_34 zf113 zf121 (by first | with_reducible assumption | assumption) (by first | with_reducible assumption | assumption) (by first | with_reducible assumption | assumption) (by first | with_reducible assumption | assumption) (by first | with_reducible assumption | assumption) (by first | with_reducible assumption | assumption) (by first | with_reducible assumption | assumption), ⟨e0, rfl, (vpc q112 (vpc q113 (vpc q121 va_nilP))), hK, vD_ix hi [112, 113, 121] (by rfl) (by decide) (by decide)⟩, ad_ix [112, 113, 121] (by rfl) (by decide), fun o t hq => ?_⟩
  obtain ⟨⟨r, ost, ho, ⟨hr, hu⟩, hP1, -⟩, hF⟩ := hq
  have FR : ∀ lo hi' : Nat, hi' ≤ 129 → ([112, 113, 121] : List Nat).all (fun x => decide (x < lo) || decide (hi' ≤ x)) = true → ∀ j : Nat, lo ≤ j → j < hi' → ax j < st.heap.size → t.heap[ax j]? = st.heap[ax j]? := fun lo hi' h1 h2 => fr_ix hi h1 hF.2 [112, 113, 121] (by rfl) (by decide) h2
  have np0 : X11Pr dC dI G ax T fa N B S M t.heap := ⟨zi112_4, zi112_5, zi112_6, zi112_7, zi112_8, zi112_9, zi112_13, zi112_14, zi112_15, zn112_16, zi112_17, zi112_18, zi112_34, p0j0, p0j1, p0j2, p0j3, p0j4, p0j5, p0j6, hP1 0 _ rfl⟩
  have np1 : X11P0 dC dI G ax W0 W1 W2 N B N1 B1 N2 B2 O0 O1 O2 t.heap := ⟨ost, p1j0, p1j1, p1j2, p1j3, (SR.no3 (by first | with_reducible assumption | assumption) (fun q9 _ _ => hu.2 q9) (by first | with_reducible assumption | assumption) (by first | with_reducible assumption | assumption) (by omega)), (SR.no3 (by first | with_reducible assumption | assumption) (fun q9 _ _ => hu.2 q9) (by first | with_reducible assumption | assumption) (by first | with_reducible assumption | assumption) (by omega)), (SR.no3 (by first | with_reducible assumption | assumption) (fun q9 _ _ => hu.2 q9) (by first | with_reducible assumption | assumption) (by first | with_reducible assumption | assumption) (by omega)), (SO.eqq (by first | with_reducible assumption | assumption) hu.2), (SO.eqq (by first | with_reducible assumption | assumption) hu.2), (SO.eqq (by first | with_reducible assumption | assumption) hu.2), (by first | omega | exact hu | exact hu.1 | exact hu.1.1 | exact hu.1.2 | exact hu.2 | exact hu.1.1.1 | exact hu.1.1.2 | exact fd_nn (by first | with_reducible assumption | assumption) | (split at hu <;> omega) | (split <;> omega) | exact E_inv (by first | with_reducible assumption | assumption)), hP1 1 _ rfl⟩
  have np9 : X11P24 dC dI G ax t.heap := ⟨zf121, p9j0, hP1 2 _ rfl⟩
  exact ⟨⟨r, (), ho, trivial, ⟨np0, np1, p2.kept (FR 114 115 (by decide) (by decide)), p3.kept (FR 115 116 (by decide) (by decide)), p4.kept (FR 116 117 (by decide) (by decide)), p5.kept (FR 117 118 (by decide) (by decide)), p6.kept (FR 118 119 (by decide) (by decide)), p7.kept (FR 119 120 (by decide) (by decide)), p8.kept (FR 120 121 (by decide) (by decide)), np9, p10.kept (FR 122 123 (by decide) (by decide)), p11.kept (FR 123 124 (by decide) (by decide)), p12.kept (FR 124 125 (by decide) (by decide)), p13.kept (FR 125 126 (by decide) (by decide)), p14.kept (FR 126 127 (by decide) (by decide)), p15.kept (FR 127 128 (by decide) (by decide)), p16.kept (FR 128 129 (by decide) (by decide)), ⟨hX, hXV.2⟩⟩⟩, hF.wide (ad_ix [112, 113, 121] (by rfl) (by decide))⟩

set_option maxHeartbeats 1000000 in
set_option maxRecDepth 100000 in
theorem k_X11_markR (l : Launch) (dC : Nat → ClassId) (dI : Nat → Nat → Nat) (G : Nat → ClassId) (sz : Nat) (ax : Nat → Nat) (hi : adInj 129 ax) (T : Nat) (Y : Nat → Int32) (fa : Int32) (W0 : Nat → Int32) (W1 : Nat → Int32) (W2 : Nat → Int32) (N : Nat) (B : Nat) (N1 : Nat) (B1 : Nat) (N2 : Nat) (B2 : Nat) (K : Nat → Int32) (S : Nat) (M : Nat) (E : Nat → Int32) (Z : Nat → Int32) (O0 : Nat → Int32) (O1 : Nat → Int32) (O2 : Nat → Int32) (CE : Nat → Int32) (MR : Nat → Int32) (i : Int32) (d : Int32) : Met l yX11_mark (Cond.code yX11_mark cX11_mark 3 (some .int) :: GT) ({ frames := 2, cells := 0, slots := 0, locals := 46 } : Room) (PcI [.ref (ax 112), .int i, .int d] dC dI G (X11I dC dI G ax T Y fa W0 W1 W2 N B N1 B1 N2 B2 K S M E Z O0 O1 O2 CE MR) sz) (va_Qi (fun (r : Int32) (_ : Unit) => r = if ((0 ≤ i.toInt ∧ i.toInt < ((N : Nat) : Int)) ∧ 0 ≤ d.toInt ∧ d.toInt ≤ 9) then (if M < 6 then nI (M + 1) else -3) else -1) (fun _ t => X11I dC dI G ax T Y fa W0 W1 W2 N B N1 B1 N2 B2 K S (if ((0 ≤ i.toInt ∧ i.toInt < ((N : Nat) : Int)) ∧ 0 ≤ d.toInt ∧ d.toInt ≤ 9) ∧ M < 6 then M + 1 else M) E Z O0 O1 O2 CE (if ((0 ≤ i.toInt ∧ i.toInt < ((N : Nat) : Int)) ∧ 0 ≤ d.toInt ∧ d.toInt ≤ 9) ∧ M < 6 then upd (upd MR (2 * M) i) (2 * M + 1) d else MR) t.heap) (adX 112 129 ax sz)) 0 0 (adX 112 129 ax sz) := by
  refine Met.pick (fun a st hp => ?_)
  obtain ⟨e0, hsz, hI, hK⟩ := hp
  subst hsz
  have hI0 := hI
  unfold X11I at hI
  obtain ⟨p0, p1, p2, p3, p4, p5, p6, p7, p8, p9, p10, p11, p12, p13, p14, p15, p16, hX⟩ := hI
  have hXV := hX
  have hX := hXV.1
  unfold X11Pr at p0
  obtain ⟨zi112_4, zi112_5, zi112_6, zi112_7, zi112_8, zi112_9, zi112_13, zi112_14, zi112_15, zn112_16, zi112_17, zi112_18, zi112_34, p0j0, p0j1, p0j2, p0j3, p0j4, p0j5, p0j6, q112⟩ := p0
  unfold X11P26 at p10
  obtain ⟨zf122, p10j0, q122⟩ := p10
  refine ⟨_, _, _, c_X11_markR l dC dI G _ (ax 112) (ax 113) N B (ax 114) (ax 115) T (ax 116) (ax 117) (ax 118) (ax 119) (ax 120) (ax 121) S (ax 122) M (ax 123) (ax 124) (ax 125) (ax 126) (ax 127) (ax 128) i d zi112_4 zi112_5 zi112_6 zi112_7 zi112_8 zi112_9 fa zi112_13 zi112_14 zi112_15 (nI zn112_16) zi112_17 zi112_18 zi112_34 zf122 (by first | with_reducible assumption | assumption) (by first | with_reducible assumption | assumption) (by first | with_reducible assumption | assumption) (by first | with_reducible assumption | assumption) (by first | with_reducible assumption | assumption), ⟨e0, rfl, (vpc q112 (vpc q122 va_nilP)), hK, vD_ix hi [112, 122] (by rfl) (by decide) (by decide)⟩, ad_ix [112, 122] (by rfl) (by decide), fun o t hq => ?_⟩
  obtain ⟨⟨r, ⟨oM, oma⟩, ho, ⟨hr, hu⟩, hP1, -⟩, hF⟩ := hq
  have FR : ∀ lo hi' : Nat, hi' ≤ 129 → ([112, 122] : List Nat).all (fun x => decide (x < lo) || decide (hi' ≤ x)) = true → ∀ j : Nat, lo ≤ j → j < hi' → ax j < st.heap.size → t.heap[ax j]? = st.heap[ax j]? := fun lo hi' h1 h2 => fr_ix hi h1 hF.2 [112, 122] (by rfl) (by decide) h2
  have xM : (if ((0 ≤ i.toInt ∧ i.toInt < ((N : Nat) : Int)) ∧ 0 ≤ d.toInt ∧ d.toInt ≤ 9) ∧ M < 6 then M + 1 else M) = oM := Eq.symm (hu.1.1)
  subst xM
  have np0 : X11Pr dC dI G ax T fa N B S (if ((0 ≤ i.toInt ∧ i.toInt < ((N : Nat) : Int)) ∧ 0 ≤ d.toInt ∧ d.toInt ≤ 9) ∧ M < 6 then M + 1 else M) t.heap := ⟨zi112_4, zi112_5, zi112_6, zi112_7, zi112_8, zi112_9, zi112_13, zi112_14, zi112_15, zn112_16, zi112_17, zi112_18, zi112_34, p0j0, p0j1, p0j2, p0j3, (by first | omega | exact hu | exact hu.1 | exact hu.1.1 | exact hu.1.2 | exact hu.2 | exact hu.1.1.1 | exact hu.1.1.2 | exact fd_nn (by first | with_reducible assumption | assumption) | (split at hu <;> omega) | (split <;> omega) | exact E_inv (by first | with_reducible assumption | assumption)), p0j5, p0j6, hP1 0 _ rfl⟩
  have np10 : X11P26 dC dI G ax (if ((0 ≤ i.toInt ∧ i.toInt < ((N : Nat) : Int)) ∧ 0 ≤ d.toInt ∧ d.toInt ≤ 9) ∧ M < 6 then M + 1 else M) (if ((0 ≤ i.toInt ∧ i.toInt < ((N : Nat) : Int)) ∧ 0 ≤ d.toInt ∧ d.toInt ≤ 9) ∧ M < 6 then upd (upd MR (2 * M) i) (2 * M + 1) d else MR) t.heap := ⟨oma, (by rw [hu.2]; exact RMk.add (by first | with_reducible assumption | assumption)), hP1 1 _ rfl⟩
  exact ⟨⟨r, (), ho, hr, ⟨np0, p1.kept (FR 113 114 (by decide) (by decide)), p2.kept (FR 114 115 (by decide) (by decide)), p3.kept (FR 115 116 (by decide) (by decide)), p4.kept (FR 116 117 (by decide) (by decide)), p5.kept (FR 117 118 (by decide) (by decide)), p6.kept (FR 118 119 (by decide) (by decide)), p7.kept (FR 119 120 (by decide) (by decide)), p8.kept (FR 120 121 (by decide) (by decide)), p9.kept (FR 121 122 (by decide) (by decide)), np10, p11.kept (FR 123 124 (by decide) (by decide)), p12.kept (FR 124 125 (by decide) (by decide)), p13.kept (FR 125 126 (by decide) (by decide)), p14.kept (FR 126 127 (by decide) (by decide)), p15.kept (FR 127 128 (by decide) (by decide)), p16.kept (FR 128 129 (by decide) (by decide)), ⟨hX, hXV.2⟩⟩⟩, hF.wide (ad_ix [112, 122] (by rfl) (by decide))⟩

set_option maxHeartbeats 1000000 in
set_option maxRecDepth 100000 in
theorem k_X11_wipeE (l : Launch) (dC : Nat → ClassId) (dI : Nat → Nat → Nat) (G : Nat → ClassId) (sz : Nat) (ax : Nat → Nat) (hi : adInj 129 ax) (T : Nat) (Y : Nat → Int32) (fa : Int32) (W0 : Nat → Int32) (W1 : Nat → Int32) (W2 : Nat → Int32) (N : Nat) (B : Nat) (N1 : Nat) (B1 : Nat) (N2 : Nat) (B2 : Nat) (K : Nat → Int32) (S : Nat) (M : Nat) (E : Nat → Int32) (Z : Nat → Int32) (O0 : Nat → Int32) (O1 : Nat → Int32) (O2 : Nat → Int32) (CE : Nat → Int32) (MR : Nat → Int32) (n : Int32) : Met l yX11_wipe (Cond.code yX11_wipe cX11_wipe 3 (some .int) :: GT) ({ frames := 1, cells := 0, slots := 0, locals := 25 } : Room) (PcI [.ref (ax 112), .int n] dC dI G (X11I dC dI G ax T Y fa W0 W1 W2 N B N1 B1 N2 B2 K S M E Z O0 O1 O2 CE MR) sz) (va_Qi (fun (r : Int32) (_ : Unit) => r = if 0 ≤ n.toInt ∧ n.toInt ≤ ((M : Nat) : Int) then nI M else -1) (fun _ t => X11I dC dI G ax T Y fa W0 W1 W2 N B N1 B1 N2 B2 K S (if 0 ≤ n.toInt ∧ n.toInt ≤ ((M : Nat) : Int) then n.toNatClampNeg else M) E Z O0 O1 O2 CE MR t.heap) (adX 112 129 ax sz)) 0 0 (adX 112 129 ax sz) := by
  refine Met.pick (fun a st hp => ?_)
  obtain ⟨e0, hsz, hI, hK⟩ := hp
  subst hsz
  have hI0 := hI
  unfold X11I at hI
  obtain ⟨p0, p1, p2, p3, p4, p5, p6, p7, p8, p9, p10, p11, p12, p13, p14, p15, p16, hX⟩ := hI
  have hXV := hX
  have hX := hXV.1
  unfold X11Pr at p0
  obtain ⟨zi112_4, zi112_5, zi112_6, zi112_7, zi112_8, zi112_9, zi112_13, zi112_14, zi112_15, zn112_16, zi112_17, zi112_18, zi112_34, p0j0, p0j1, p0j2, p0j3, p0j4, p0j5, p0j6, q112⟩ := p0
  unfold X11P26 at p10
  obtain ⟨zf122, p10j0, q122⟩ := p10
  refine ⟨_, _, _, c_X11_wipeE l dC dI G _ (ax 112) (ax 113) N B (ax 114) (ax 115) T (ax 116) (ax 117) (ax 118) (ax 119) (ax 120) (ax 121) S (ax 122) M (ax 123) (ax 124) (ax 125) (ax 126) (ax 127) (ax 128) n zi112_4 zi112_5 zi112_6 zi112_7 zi112_8 zi112_9 fa zi112_13 zi112_14 zi112_15 (nI zn112_16) zi112_17 zi112_18 zi112_34 (by first | with_reducible assumption | assumption) (by first | with_reducible assumption | assumption) (by first | with_reducible assumption | assumption) (by first | with_reducible assumption | assumption) (by first | with_reducible assumption | assumption), ⟨e0, rfl, (vpc q112 va_nilP), hK, vD_ix hi [112] (by rfl) (by decide) (by decide)⟩, ad_ix [112] (by rfl) (by decide), fun o t hq => ?_⟩
  obtain ⟨⟨r, oM, ho, ⟨hr, hu⟩, hP1, -⟩, hF⟩ := hq
  have FR : ∀ lo hi' : Nat, hi' ≤ 129 → ([112] : List Nat).all (fun x => decide (x < lo) || decide (hi' ≤ x)) = true → ∀ j : Nat, lo ≤ j → j < hi' → ax j < st.heap.size → t.heap[ax j]? = st.heap[ax j]? := fun lo hi' h1 h2 => fr_ix hi h1 hF.2 [112] (by rfl) (by decide) h2
  have xM : (if 0 ≤ n.toInt ∧ n.toInt ≤ ((M : Nat) : Int) then n.toNatClampNeg else M) = oM := Eq.symm (by first | exact hu | exact hu.1 | exact hu.2 | exact hu.1.1 | exact hu.1.2 | exact hu.2.1.trans (txt_cf (by first | with_reducible assumption | assumption)) | exact hu.2.1.trans (txt_rf (by first | with_reducible assumption | assumption)) | exact hu.1.1.trans lmap_step | omega)
  subst xM
  have np0 : X11Pr dC dI G ax T fa N B S (if 0 ≤ n.toInt ∧ n.toInt ≤ ((M : Nat) : Int) then n.toNatClampNeg else M) t.heap := ⟨zi112_4, zi112_5, zi112_6, zi112_7, zi112_8, zi112_9, zi112_13, zi112_14, zi112_15, zn112_16, zi112_17, zi112_18, zi112_34, p0j0, p0j1, p0j2, p0j3, (by first | omega | exact hu | exact hu.1 | exact hu.1.1 | exact hu.1.2 | exact hu.2 | exact hu.1.1.1 | exact hu.1.1.2 | exact fd_nn (by first | with_reducible assumption | assumption) | (split at hu <;> omega) | (split <;> omega) | exact E_inv (by first | with_reducible assumption | assumption)), p0j5, p0j6, hP1 0 _ rfl⟩
  have np10 : X11P26 dC dI G ax (if 0 ≤ n.toInt ∧ n.toInt ≤ ((M : Nat) : Int) then n.toNatClampNeg else M) MR t.heap := ⟨zf122, (RMk.le (by first | with_reducible assumption | assumption) fg_le), q122.kept (FR 122 123 (by decide) (by decide) 122 (by decide) (by decide) q122.lt)⟩
  exact ⟨⟨r, (), ho, hr, ⟨np0, p1.kept (FR 113 114 (by decide) (by decide)), p2.kept (FR 114 115 (by decide) (by decide)), p3.kept (FR 115 116 (by decide) (by decide)), p4.kept (FR 116 117 (by decide) (by decide)), p5.kept (FR 117 118 (by decide) (by decide)), p6.kept (FR 118 119 (by decide) (by decide)), p7.kept (FR 119 120 (by decide) (by decide)), p8.kept (FR 120 121 (by decide) (by decide)), p9.kept (FR 121 122 (by decide) (by decide)), np10, p11.kept (FR 123 124 (by decide) (by decide)), p12.kept (FR 124 125 (by decide) (by decide)), p13.kept (FR 125 126 (by decide) (by decide)), p14.kept (FR 126 127 (by decide) (by decide)), p15.kept (FR 127 128 (by decide) (by decide)), p16.kept (FR 128 129 (by decide) (by decide)), ⟨hX, hXV.2⟩⟩⟩, hF.wide (ad_ix [112] (by rfl) (by decide))⟩

set_option maxHeartbeats 1000000 in
set_option maxRecDepth 100000 in
theorem k_X11_paths (l : Launch) (dC : Nat → ClassId) (dI : Nat → Nat → Nat) (G : Nat → ClassId) (sz : Nat) (ax : Nat → Nat) (hi : adInj 129 ax) (T : Nat) (Y : Nat → Int32) (fa : Int32) (W0 : Nat → Int32) (W1 : Nat → Int32) (W2 : Nat → Int32) (N : Nat) (B : Nat) (N1 : Nat) (B1 : Nat) (N2 : Nat) (B2 : Nat) (K : Nat → Int32) (S : Nat) (M : Nat) (E : Nat → Int32) (Z : Nat → Int32) (O0 : Nat → Int32) (O1 : Nat → Int32) (O2 : Nat → Int32) (CE : Nat → Int32) (MR : Nat → Int32) : Met l yX11_paths (Cond.code yX11_paths cX11_paths 1 (some .int) :: GT) ({ frames := 6, cells := 0, slots := 0, locals := 146 } : Room) (PcI [.ref (ax 112)] dC dI G (X11I dC dI G ax T Y fa W0 W1 W2 N B N1 B1 N2 B2 K S M E Z O0 O1 O2 CE MR) sz) (va_Qi (fun (r : Int32) (_ : Unit) => True) (fun _ t => X11I dC dI G ax T Y fa W0 W1 W2 N B N1 B1 N2 B2 K S M E Z O0 O1 O2 CE MR t.heap) (adX 112 129 ax sz)) 0 0 (adX 112 129 ax sz) := by
  refine Met.pick (fun a st hp => ?_)
  obtain ⟨e0, hsz, hI, hK⟩ := hp
  subst hsz
  have hI0 := hI
  unfold X11I at hI
  obtain ⟨p0, p1, p2, p3, p4, p5, p6, p7, p8, p9, p10, p11, p12, p13, p14, p15, p16, hX⟩ := hI
  have hXV := hX
  have hX := hXV.1
  unfold X11Pr at p0
  obtain ⟨zi112_4, zi112_5, zi112_6, zi112_7, zi112_8, zi112_9, zi112_13, zi112_14, zi112_15, zn112_16, zi112_17, zi112_18, zi112_34, p0j0, p0j1, p0j2, p0j3, p0j4, p0j5, p0j6, q112⟩ := p0
  unfold X11P0 at p1
  obtain ⟨zf113, p1j0, p1j1, p1j2, p1j3, p1j4, p1j5, p1j6, p1j7, p1j8, p1j9, p1j10, q113⟩ := p1
  unfold X11P26 at p10
  obtain ⟨zf122, p10j0, q122⟩ := p10
  unfold X11P28 at p11
  obtain ⟨zf123, q123⟩ := p11
  unfold X11P29 at p12
  obtain ⟨zf124, q124⟩ := p12
  refine ⟨_, _, _, c_X11_paths l dC dI G _ (ax 112) (ax 113) N B (ax 114) (ax 115) T (ax 116) (ax 117) (ax 118) (ax 119) (ax 120) (ax 121) S (ax 122) M (ax 123) (ax 124) (ax 125) (ax 126) (ax 127) (ax 128) zi112_4 zi112_5 zi112_6 zi112_7 zi112_8 zi112_9 fa zi112_13 zi112_14 zi112_15 (nI zn112_16) zi112_17 zi112_18 zi112_34 zf113 zf122 zf123 zf124 (by first | with_reducible assumption | assumption) (by first | with_reducible assumption | assumption) (by first | with_reducible assumption | assumption) (by first | with_reducible assumption | assumption) (by first | with_reducible assumption | assumption) (by first | with_reducible assumption | assumption), ⟨e0, rfl, (vpc q112 (vpc q113 (vpc q122 (vpc q123 (vpc q124 va_nilP))))), hK, vD_ix hi [112, 113, 122, 123, 124] (by rfl) (by decide) (by decide)⟩, ad_ix [112, 113, 122, 123, 124] (by rfl) (by decide), fun o t hq => ?_⟩
  obtain ⟨⟨r, ⟨oah, obh⟩, ho, ⟨hr, hu⟩, hP1, -⟩, hF⟩ := hq
  have FR : ∀ lo hi' : Nat, hi' ≤ 129 → ([112, 113, 122, 123, 124] : List Nat).all (fun x => decide (x < lo) || decide (hi' ≤ x)) = true → ∀ j : Nat, lo ≤ j → j < hi' → ax j < st.heap.size → t.heap[ax j]? = st.heap[ax j]? := fun lo hi' h1 h2 => fr_ix hi h1 hF.2 [112, 113, 122, 123, 124] (by rfl) (by decide) h2
  have np0 : X11Pr dC dI G ax T fa N B S M t.heap := ⟨zi112_4, zi112_5, zi112_6, zi112_7, zi112_8, zi112_9, zi112_13, zi112_14, zi112_15, zn112_16, zi112_17, zi112_18, zi112_34, p0j0, p0j1, p0j2, p0j3, p0j4, p0j5, p0j6, hP1 0 _ rfl⟩
  have np1 : X11P0 dC dI G ax W0 W1 W2 N B N1 B1 N2 B2 O0 O1 O2 t.heap := ⟨zf113, p1j0, p1j1, p1j2, p1j3, p1j4, p1j5, p1j6, p1j7, p1j8, p1j9, p1j10, hP1 1 _ rfl⟩
  have np10 : X11P26 dC dI G ax M MR t.heap := ⟨zf122, p10j0, hP1 2 _ rfl⟩
  have np11 : X11P28 dC dI G ax t.heap := ⟨oah, hP1 3 _ rfl⟩
  have np12 : X11P29 dC dI G ax t.heap := ⟨obh, hP1 4 _ rfl⟩
  exact ⟨⟨r, (), ho, trivial, ⟨np0, np1, p2.kept (FR 114 115 (by decide) (by decide)), p3.kept (FR 115 116 (by decide) (by decide)), p4.kept (FR 116 117 (by decide) (by decide)), p5.kept (FR 117 118 (by decide) (by decide)), p6.kept (FR 118 119 (by decide) (by decide)), p7.kept (FR 119 120 (by decide) (by decide)), p8.kept (FR 120 121 (by decide) (by decide)), p9.kept (FR 121 122 (by decide) (by decide)), np10, np11, np12, p13.kept (FR 125 126 (by decide) (by decide)), p14.kept (FR 126 127 (by decide) (by decide)), p15.kept (FR 127 128 (by decide) (by decide)), p16.kept (FR 128 129 (by decide) (by decide)), ⟨hX, hXV.2⟩⟩⟩, hF.wide (ad_ix [112, 113, 122, 123, 124] (by rfl) (by decide))⟩

set_option maxHeartbeats 1000000 in
set_option maxRecDepth 100000 in
theorem k_X11_eye (l : Launch) (dC : Nat → ClassId) (dI : Nat → Nat → Nat) (G : Nat → ClassId) (sz : Nat) (ax : Nat → Nat) (hi : adInj 129 ax) (T : Nat) (Y : Nat → Int32) (fa : Int32) (W0 : Nat → Int32) (W1 : Nat → Int32) (W2 : Nat → Int32) (N : Nat) (B : Nat) (N1 : Nat) (B1 : Nat) (N2 : Nat) (B2 : Nat) (K : Nat → Int32) (S : Nat) (M : Nat) (E : Nat → Int32) (Z : Nat → Int32) (O0 : Nat → Int32) (O1 : Nat → Int32) (O2 : Nat → Int32) (CE : Nat → Int32) (MR : Nat → Int32) (d : Int32) : Met l yX11_eye (Cond.code yX11_eye cX11_eye 4 (some .int) :: GT) ({ frames := 6, cells := 0, slots := 0, locals := 146 } : Room) (PcI [.ref (ax 112), .int d] dC dI G (X11I dC dI G ax T Y fa W0 W1 W2 N B N1 B1 N2 B2 K S M E Z O0 O1 O2 CE MR) sz) (va_Qi (fun (r : Int32) (_ : Unit) => True) (fun _ t => X11I dC dI G ax T Y fa W0 W1 W2 N B N1 B1 N2 B2 K S M E Z O0 O1 O2 CE MR t.heap) (adX 112 129 ax sz)) 0 0 (adX 112 129 ax sz) := by
  refine Met.pick (fun a st hp => ?_)
  obtain ⟨e0, hsz, hI, hK⟩ := hp
  subst hsz
  have hI0 := hI
  unfold X11I at hI
  obtain ⟨p0, p1, p2, p3, p4, p5, p6, p7, p8, p9, p10, p11, p12, p13, p14, p15, p16, hX⟩ := hI
  have hXV := hX
  have hX := hXV.1
  unfold X11Pr at p0
  obtain ⟨zi112_4, zi112_5, zi112_6, zi112_7, zi112_8, zi112_9, zi112_13, zi112_14, zi112_15, zn112_16, zi112_17, zi112_18, zi112_34, p0j0, p0j1, p0j2, p0j3, p0j4, p0j5, p0j6, q112⟩ := p0
  unfold X11P0 at p1
  obtain ⟨zf113, p1j0, p1j1, p1j2, p1j3, p1j4, p1j5, p1j6, p1j7, p1j8, p1j9, p1j10, q113⟩ := p1
  unfold X11P26 at p10
  obtain ⟨zf122, p10j0, q122⟩ := p10
  unfold X11P28 at p11
  obtain ⟨zf123, q123⟩ := p11
  unfold X11P29 at p12
  obtain ⟨zf124, q124⟩ := p12
  refine ⟨_, _, _, c_X11_eye l dC dI G _ (ax 112) (ax 113) N B (ax 114) (ax 115) T (ax 116) (ax 117) (ax 118) (ax 119) (ax 120) (ax 121) S (ax 122) M (ax 123) (ax 124) (ax 125) (ax 126) (ax 127) (ax 128) d zi112_4 zi112_5 zi112_6 zi112_7 zi112_8 zi112_9 fa zi112_13 zi112_14 zi112_15 (nI zn112_16) zi112_17 zi112_18 zi112_34 zf113 zf122 zf123 zf124 (by first | with_reducible assumption | assumption) (by first | with_reducible assumption | assumption) (by first | with_reducible assumption | assumption) (by first | with_reducible assumption | assumption) (by first | with_reducible assumption | assumption) (by first | with_reducible assumption | assumption), ⟨e0, rfl, (vpc q112 (vpc q113 (vpc q122 (vpc q123 (vpc q124 va_nilP))))), hK, vD_ix hi [112, 113, 122, 123, 124] (by rfl) (by decide) (by decide)⟩, ad_ix [112, 113, 122, 123, 124] (by rfl) (by decide), fun o t hq => ?_⟩
  obtain ⟨⟨r, ⟨oah, obh⟩, ho, ⟨hr, hu⟩, hP1, -⟩, hF⟩ := hq
  have FR : ∀ lo hi' : Nat, hi' ≤ 129 → ([112, 113, 122, 123, 124] : List Nat).all (fun x => decide (x < lo) || decide (hi' ≤ x)) = true → ∀ j : Nat, lo ≤ j → j < hi' → ax j < st.heap.size → t.heap[ax j]? = st.heap[ax j]? := fun lo hi' h1 h2 => fr_ix hi h1 hF.2 [112, 113, 122, 123, 124] (by rfl) (by decide) h2
  have np0 : X11Pr dC dI G ax T fa N B S M t.heap := ⟨zi112_4, zi112_5, zi112_6, zi112_7, zi112_8, zi112_9, zi112_13, zi112_14, zi112_15, zn112_16, zi112_17, zi112_18, zi112_34, p0j0, p0j1, p0j2, p0j3, p0j4, p0j5, p0j6, hP1 0 _ rfl⟩
  have np1 : X11P0 dC dI G ax W0 W1 W2 N B N1 B1 N2 B2 O0 O1 O2 t.heap := ⟨zf113, p1j0, p1j1, p1j2, p1j3, p1j4, p1j5, p1j6, p1j7, p1j8, p1j9, p1j10, hP1 1 _ rfl⟩
  have np10 : X11P26 dC dI G ax M MR t.heap := ⟨zf122, p10j0, hP1 2 _ rfl⟩
  have np11 : X11P28 dC dI G ax t.heap := ⟨oah, hP1 3 _ rfl⟩
  have np12 : X11P29 dC dI G ax t.heap := ⟨obh, hP1 4 _ rfl⟩
  exact ⟨⟨r, (), ho, trivial, ⟨np0, np1, p2.kept (FR 114 115 (by decide) (by decide)), p3.kept (FR 115 116 (by decide) (by decide)), p4.kept (FR 116 117 (by decide) (by decide)), p5.kept (FR 117 118 (by decide) (by decide)), p6.kept (FR 118 119 (by decide) (by decide)), p7.kept (FR 119 120 (by decide) (by decide)), p8.kept (FR 120 121 (by decide) (by decide)), p9.kept (FR 121 122 (by decide) (by decide)), np10, np11, np12, p13.kept (FR 125 126 (by decide) (by decide)), p14.kept (FR 126 127 (by decide) (by decide)), p15.kept (FR 127 128 (by decide) (by decide)), p16.kept (FR 128 129 (by decide) (by decide)), ⟨hX, hXV.2⟩⟩⟩, hF.wide (ad_ix [112, 113, 122, 123, 124] (by rfl) (by decide))⟩

set_option maxHeartbeats 1000000 in
set_option maxRecDepth 100000 in
theorem k_X11_sureE (l : Launch) (dC : Nat → ClassId) (dI : Nat → Nat → Nat) (G : Nat → ClassId) (sz : Nat) (ax : Nat → Nat) (hi : adInj 129 ax) (T : Nat) (Y : Nat → Int32) (fa : Int32) (W0 : Nat → Int32) (W1 : Nat → Int32) (W2 : Nat → Int32) (N : Nat) (B : Nat) (N1 : Nat) (B1 : Nat) (N2 : Nat) (B2 : Nat) (K : Nat → Int32) (S : Nat) (M : Nat) (E : Nat → Int32) (Z : Nat → Int32) (O0 : Nat → Int32) (O1 : Nat → Int32) (O2 : Nat → Int32) (CE : Nat → Int32) (MR : Nat → Int32) (what : Int32) : Met l yX11_sure (Cond.code yX11_sure cX11_sure 7 (some .int) :: GT) ({ frames := 6, cells := 0, slots := 0, locals := 146 } : Room) (PcI [.ref (ax 112), .int what] dC dI G (X11I dC dI G ax T Y fa W0 W1 W2 N B N1 B1 N2 B2 K S M E Z O0 O1 O2 CE MR) sz) (va_Qi (fun (r : Int32) (_ : Unit) => r = if (0 ≤ what.toInt ∧ what.toInt ≤ 1) then (if (onS (haO N B W0 O0) (alT MR M) N N (sdN W0)) = 0 then -4 else eyR (fun ib => decide (suM what (haO N B W0 O0) (alT MR M) (sdN W0) N ib = (onS (haO N B W0 O0) (alT MR M) N N (sdN W0)))) N) else -1) (fun _ t => X11I dC dI G ax T Y fa W0 W1 W2 N B N1 B1 N2 B2 K S M E Z O0 O1 O2 CE MR t.heap) (adX 112 129 ax sz)) 0 0 (adX 112 129 ax sz) := by
  refine Met.pick (fun a st hp => ?_)
  obtain ⟨e0, hsz, hI, hK⟩ := hp
  subst hsz
  have hI0 := hI
  unfold X11I at hI
  obtain ⟨p0, p1, p2, p3, p4, p5, p6, p7, p8, p9, p10, p11, p12, p13, p14, p15, p16, hX⟩ := hI
  have hXV := hX
  have hX := hXV.1
  unfold X11Pr at p0
  obtain ⟨zi112_4, zi112_5, zi112_6, zi112_7, zi112_8, zi112_9, zi112_13, zi112_14, zi112_15, zn112_16, zi112_17, zi112_18, zi112_34, p0j0, p0j1, p0j2, p0j3, p0j4, p0j5, p0j6, q112⟩ := p0
  unfold X11P0 at p1
  obtain ⟨zf113, p1j0, p1j1, p1j2, p1j3, p1j4, p1j5, p1j6, p1j7, p1j8, p1j9, p1j10, q113⟩ := p1
  unfold X11P26 at p10
  obtain ⟨zf122, p10j0, q122⟩ := p10
  unfold X11P28 at p11
  obtain ⟨zf123, q123⟩ := p11
  unfold X11P29 at p12
  obtain ⟨zf124, q124⟩ := p12
  refine ⟨_, _, _, c_X11_sureE l dC dI G _ (ax 112) (ax 113) N B (ax 114) (ax 115) T (ax 116) (ax 117) (ax 118) (ax 119) (ax 120) (ax 121) S (ax 122) M (ax 123) (ax 124) (ax 125) (ax 126) (ax 127) (ax 128) what zi112_4 zi112_5 zi112_6 zi112_7 zi112_8 zi112_9 fa zi112_13 zi112_14 zi112_15 (nI zn112_16) zi112_17 zi112_18 zi112_34 zf113 zf122 zf123 zf124 (by first | with_reducible assumption | assumption) (by first | with_reducible assumption | assumption) (by first | with_reducible assumption | assumption) (by first | with_reducible assumption | assumption) (by first | with_reducible assumption | assumption) (by first | with_reducible assumption | assumption), ⟨e0, rfl, (vpc q112 (vpc q113 (vpc q122 (vpc q123 (vpc q124 va_nilP))))), hK, vD_ix hi [112, 113, 122, 123, 124] (by rfl) (by decide) (by decide)⟩, ad_ix [112, 113, 122, 123, 124] (by rfl) (by decide), fun o t hq => ?_⟩
  obtain ⟨⟨r, ⟨oah, obh⟩, ho, ⟨hr, hu⟩, hP1, -⟩, hF⟩ := hq
  have FR : ∀ lo hi' : Nat, hi' ≤ 129 → ([112, 113, 122, 123, 124] : List Nat).all (fun x => decide (x < lo) || decide (hi' ≤ x)) = true → ∀ j : Nat, lo ≤ j → j < hi' → ax j < st.heap.size → t.heap[ax j]? = st.heap[ax j]? := fun lo hi' h1 h2 => fr_ix hi h1 hF.2 [112, 113, 122, 123, 124] (by rfl) (by decide) h2
  have np0 : X11Pr dC dI G ax T fa N B S M t.heap := ⟨zi112_4, zi112_5, zi112_6, zi112_7, zi112_8, zi112_9, zi112_13, zi112_14, zi112_15, zn112_16, zi112_17, zi112_18, zi112_34, p0j0, p0j1, p0j2, p0j3, p0j4, p0j5, p0j6, hP1 0 _ rfl⟩
  have np1 : X11P0 dC dI G ax W0 W1 W2 N B N1 B1 N2 B2 O0 O1 O2 t.heap := ⟨zf113, p1j0, p1j1, p1j2, p1j3, p1j4, p1j5, p1j6, p1j7, p1j8, p1j9, p1j10, hP1 1 _ rfl⟩
  have np10 : X11P26 dC dI G ax M MR t.heap := ⟨zf122, p10j0, hP1 2 _ rfl⟩
  have np11 : X11P28 dC dI G ax t.heap := ⟨oah, hP1 3 _ rfl⟩
  have np12 : X11P29 dC dI G ax t.heap := ⟨obh, hP1 4 _ rfl⟩
  exact ⟨⟨r, (), ho, hr.trans (sv_r (by first | with_reducible assumption | assumption) (by first | with_reducible assumption | assumption) (by first | with_reducible assumption | assumption) (by first | with_reducible assumption | assumption) hXV.2.1 (by first | with_reducible assumption | assumption) (by first | with_reducible assumption | assumption)), ⟨np0, np1, p2.kept (FR 114 115 (by decide) (by decide)), p3.kept (FR 115 116 (by decide) (by decide)), p4.kept (FR 116 117 (by decide) (by decide)), p5.kept (FR 117 118 (by decide) (by decide)), p6.kept (FR 118 119 (by decide) (by decide)), p7.kept (FR 119 120 (by decide) (by decide)), p8.kept (FR 120 121 (by decide) (by decide)), p9.kept (FR 121 122 (by decide) (by decide)), np10, np11, np12, p13.kept (FR 125 126 (by decide) (by decide)), p14.kept (FR 126 127 (by decide) (by decide)), p15.kept (FR 127 128 (by decide) (by decide)), p16.kept (FR 128 129 (by decide) (by decide)), ⟨hX, hXV.2⟩⟩⟩, hF.wide (ad_ix [112, 113, 122, 123, 124] (by rfl) (by decide))⟩

set_option maxHeartbeats 1000000 in
set_option maxRecDepth 100000 in
theorem k_X11_keepW (l : Launch) (dC : Nat → ClassId) (dI : Nat → Nat → Nat) (G : Nat → ClassId) (sz : Nat) (ax : Nat → Nat) (hi : adInj 129 ax) (T : Nat) (Y : Nat → Int32) (fa : Int32) (W0 : Nat → Int32) (W1 : Nat → Int32) (W2 : Nat → Int32) (N : Nat) (B : Nat) (N1 : Nat) (B1 : Nat) (N2 : Nat) (B2 : Nat) (K : Nat → Int32) (S : Nat) (M : Nat) (E : Nat → Int32) (Z : Nat → Int32) (O0 : Nat → Int32) (O1 : Nat → Int32) (O2 : Nat → Int32) (CE : Nat → Int32) (MR : Nat → Int32) (k : Int32) : Met l yX11_keep (Cond.code yX11_keep cX11_keep 3 (some .int) :: GT) ({ frames := 1, cells := 0, slots := 0, locals := 25 } : Room) (PcI [.ref (ax 112), .int k] dC dI G (X11I dC dI G ax T Y fa W0 W1 W2 N B N1 B1 N2 B2 K S M E Z O0 O1 O2 CE MR) sz) (va_Qi (fun (r : Int32) (_ : Unit) => r = if (0 ≤ k.toInt ∧ k.toInt < 2) then (if K k.toNatClampNeg = 0 then 0 else 1) else -1) (fun _ t => X11I dC dI G ax T Y fa W0 (if k = 0 then W0 else W1) (if k = 1 then W0 else W2) N B (if k = 0 then N else N1) (if k = 0 then B else B1) (if k = 1 then N else N2) (if k = 1 then B else B2) (if (0 ≤ k.toInt ∧ k.toInt < 2) then upd K k.toNatClampNeg 1 else K) S M E Z O0 (if k = 0 then O0 else O1) (if k = 1 then O0 else O2) CE MR t.heap) (adX 112 129 ax sz)) 0 0 (adX 112 129 ax sz) := by
  refine Met.pick (fun a st hp => ?_)
  obtain ⟨e0, hsz, hI, hK⟩ := hp
  subst hsz
  have hI0 := hI
  unfold X11I at hI
  obtain ⟨p0, p1, p2, p3, p4, p5, p6, p7, p8, p9, p10, p11, p12, p13, p14, p15, p16, hX⟩ := hI
  have hXV := hX
  have hX := hXV.1
  unfold X11Pr at p0
  obtain ⟨zi112_4, zi112_5, zi112_6, zi112_7, zi112_8, zi112_9, zi112_13, zi112_14, zi112_15, zn112_16, zi112_17, zi112_18, zi112_34, p0j0, p0j1, p0j2, p0j3, p0j4, p0j5, p0j6, q112⟩ := p0
  unfold X11P0 at p1
  obtain ⟨zf113, p1j0, p1j1, p1j2, p1j3, p1j4, p1j5, p1j6, p1j7, p1j8, p1j9, p1j10, q113⟩ := p1
  unfold X11P30 at p13
  have q125 := p13
  refine ⟨_, _, _, c_X11_keepW l dC dI G _ (ax 112) (ax 113) N B (ax 114) (ax 115) T (ax 116) (ax 117) (ax 118) (ax 119) (ax 120) (ax 121) S (ax 122) M (ax 123) (ax 124) (ax 125) (ax 126) (ax 127) (ax 128) k zi112_4 zi112_5 zi112_6 zi112_7 zi112_8 zi112_9 fa zi112_13 zi112_14 zi112_15 (nI zn112_16) zi112_17 zi112_18 zi112_34 zf113 K (by first | with_reducible assumption | assumption) (by first | with_reducible assumption | assumption) (by first | with_reducible assumption | assumption) (by first | with_reducible assumption | assumption) (by first | with_reducible assumption | assumption) (by first | with_reducible assumption | assumption), ⟨e0, rfl, (vpc q112 (vpc q113 (vpc q125 va_nilP))), hK, vD_ix hi [112, 113, 125] (by rfl) (by decide) (by decide)⟩, ad_ix [112, 113, 125] (by rfl) (by decide), fun o t hq => ?_⟩
  obtain ⟨⟨r, ⟨ost, oik⟩, ho, ⟨hr, hu⟩, hP1, -⟩, hF⟩ := hq
  have FR : ∀ lo hi' : Nat, hi' ≤ 129 → ([112, 113, 125] : List Nat).all (fun x => decide (x < lo) || decide (hi' ≤ x)) = true → ∀ j : Nat, lo ≤ j → j < hi' → ax j < st.heap.size → t.heap[ax j]? = st.heap[ax j]? := fun lo hi' h1 h2 => fr_ix hi h1 hF.2 [112, 113, 125] (by rfl) (by decide) h2
  have y125 : (if (0 ≤ k.toInt ∧ k.toInt < 2) then upd K k.toNatClampNeg 1 else K) = oik := Eq.symm (hu.2.1)
  subst y125
  have hT := hu.2
  replace hu := hu.1
  have np0 : X11Pr dC dI G ax T fa N B S M t.heap := ⟨zi112_4, zi112_5, zi112_6, zi112_7, zi112_8, zi112_9, zi112_13, zi112_14, zi112_15, zn112_16, zi112_17, zi112_18, zi112_34, p0j0, p0j1, p0j2, p0j3, p0j4, p0j5, p0j6, hP1 0 _ rfl⟩
  have np1 : X11P0 dC dI G ax W0 (if k = 0 then W0 else W1) (if k = 1 then W0 else W2) N B (if k = 0 then N else N1) (if k = 0 then B else B1) (if k = 1 then N else N2) (if k = 1 then B else B2) O0 (if k = 0 then O0 else O1) (if k = 1 then O0 else O2) t.heap := ⟨ost, (by first | omega | exact hu | exact hu.1 | exact hu.1.1 | exact hu.1.2 | exact hu.2 | exact hu.1.1.1 | exact hu.1.1.2 | exact fd_nn (by first | with_reducible assumption | assumption) | (split at hu <;> omega) | (split <;> omega) | exact E_inv (by first | with_reducible assumption | assumption)), (by first | omega | exact hu | exact hu.1 | exact hu.1.1 | exact hu.1.2 | exact hu.2 | exact hu.1.1.1 | exact hu.1.1.2 | exact fd_nn (by first | with_reducible assumption | assumption) | (split at hu <;> omega) | (split <;> omega) | exact E_inv (by first | with_reducible assumption | assumption)), (by first | omega | exact hu | exact hu.1 | exact hu.1.1 | exact hu.1.2 | exact hu.2 | exact hu.1.1.1 | exact hu.1.1.2 | exact fd_nn (by first | with_reducible assumption | assumption) | (split at hu <;> omega) | (split <;> omega) | exact E_inv (by first | with_reducible assumption | assumption)), (by first | omega | exact hu | exact hu.1 | exact hu.1.1 | exact hu.1.2 | exact hu.2 | exact hu.1.1.1 | exact hu.1.1.2 | exact fd_nn (by first | with_reducible assumption | assumption) | (split at hu <;> omega) | (split <;> omega) | exact E_inv (by first | with_reducible assumption | assumption)), (by rw [hT.2]; exact SR.kp0 (by first | with_reducible assumption | assumption) (by first | with_reducible assumption | assumption) (by first | with_reducible assumption | assumption)), (by rw [hT.2]; exact SR.kp1 (by first | with_reducible assumption | assumption) (by first | with_reducible assumption | assumption) (by first | with_reducible assumption | assumption) (by first | with_reducible assumption | assumption) (by first | with_reducible assumption | assumption) (by first | with_reducible assumption | assumption)), (by rw [hT.2]; exact SR.kp2 (by first | with_reducible assumption | assumption) (by first | with_reducible assumption | assumption) (by first | with_reducible assumption | assumption) (by first | with_reducible assumption | assumption) (by first | with_reducible assumption | assumption) (by first | with_reducible assumption | assumption)), (by rw [hT.2]; exact SO.kp0 (by first | with_reducible assumption | assumption)), (by rw [hT.2]; exact SO.kp1 (by first | with_reducible assumption | assumption) (by first | with_reducible assumption | assumption)), (by rw [hT.2]; exact SO.kp2 (by first | with_reducible assumption | assumption) (by first | with_reducible assumption | assumption)), (by first | omega | exact hu | exact hu.1 | exact hu.1.1 | exact hu.1.2 | exact hu.2 | exact hu.1.1.1 | exact hu.1.1.2 | exact fd_nn (by first | with_reducible assumption | assumption) | (split at hu <;> omega) | (split <;> omega) | exact E_inv (by first | with_reducible assumption | assumption)), hP1 1 _ rfl⟩
  have np13 : X11P30 dC dI G ax (if (0 ≤ k.toInt ∧ k.toInt < 2) then upd K k.toNatClampNeg 1 else K) t.heap := hP1 2 _ rfl
  exact ⟨⟨r, (), ho, hr, ⟨np0, np1, p2.kept (FR 114 115 (by decide) (by decide)), p3.kept (FR 115 116 (by decide) (by decide)), p4.kept (FR 116 117 (by decide) (by decide)), p5.kept (FR 117 118 (by decide) (by decide)), p6.kept (FR 118 119 (by decide) (by decide)), p7.kept (FR 119 120 (by decide) (by decide)), p8.kept (FR 120 121 (by decide) (by decide)), p9.kept (FR 121 122 (by decide) (by decide)), p10.kept (FR 122 123 (by decide) (by decide)), p11.kept (FR 123 124 (by decide) (by decide)), p12.kept (FR 124 125 (by decide) (by decide)), np13, p14.kept (FR 126 127 (by decide) (by decide)), p15.kept (FR 127 128 (by decide) (by decide)), p16.kept (FR 128 129 (by decide) (by decide)), ⟨kp_X hX, kp_V hXV.2⟩⟩⟩, hF.wide (ad_ix [112, 113, 125] (by rfl) (by decide))⟩

set_option maxHeartbeats 1000000 in
set_option maxRecDepth 100000 in
theorem k_X11_backW (l : Launch) (dC : Nat → ClassId) (dI : Nat → Nat → Nat) (G : Nat → ClassId) (sz : Nat) (ax : Nat → Nat) (hi : adInj 129 ax) (T : Nat) (Y : Nat → Int32) (fa : Int32) (W0 : Nat → Int32) (W1 : Nat → Int32) (W2 : Nat → Int32) (N : Nat) (B : Nat) (N1 : Nat) (B1 : Nat) (N2 : Nat) (B2 : Nat) (K : Nat → Int32) (S : Nat) (M : Nat) (E : Nat → Int32) (Z : Nat → Int32) (O0 : Nat → Int32) (O1 : Nat → Int32) (O2 : Nat → Int32) (CE : Nat → Int32) (MR : Nat → Int32) (k : Int32) : Met l yX11_back (Cond.code yX11_back cX11_back 2 (some .int) :: GT) ({ frames := 1, cells := 0, slots := 0, locals := 25 } : Room) (PcI [.ref (ax 112), .int k] dC dI G (X11I dC dI G ax T Y fa W0 W1 W2 N B N1 B1 N2 B2 K S M E Z O0 O1 O2 CE MR) sz) (va_Qi (fun (r : Int32) (_ : Unit) => r = if (0 ≤ k.toInt ∧ k.toInt < 2) then (if K k.toNatClampNeg = 0 then -2 else nI N) else -1) (fun _ t => X11I dC dI G ax T Y fa (bkW k K W0 W1 W2) W1 W2 N B N1 B1 N2 B2 K S M E Z (bkW k K O0 O1 O2) O1 O2 CE MR t.heap) (adX 112 129 ax sz)) 0 0 (adX 112 129 ax sz) := by
  refine Met.pick (fun a st hp => ?_)
  obtain ⟨e0, hsz, hI, hK⟩ := hp
  subst hsz
  have hI0 := hI
  unfold X11I at hI
  obtain ⟨p0, p1, p2, p3, p4, p5, p6, p7, p8, p9, p10, p11, p12, p13, p14, p15, p16, hX⟩ := hI
  have hXV := hX
  have hX := hXV.1
  unfold X11Pr at p0
  obtain ⟨zi112_4, zi112_5, zi112_6, zi112_7, zi112_8, zi112_9, zi112_13, zi112_14, zi112_15, zn112_16, zi112_17, zi112_18, zi112_34, p0j0, p0j1, p0j2, p0j3, p0j4, p0j5, p0j6, q112⟩ := p0
  unfold X11P0 at p1
  obtain ⟨zf113, p1j0, p1j1, p1j2, p1j3, p1j4, p1j5, p1j6, p1j7, p1j8, p1j9, p1j10, q113⟩ := p1
  unfold X11P30 at p13
  have q125 := p13
  refine ⟨_, _, _, c_X11_backW l dC dI G _ (ax 112) (ax 113) N B (ax 114) (ax 115) T (ax 116) (ax 117) (ax 118) (ax 119) (ax 120) (ax 121) S (ax 122) M (ax 123) (ax 124) (ax 125) (ax 126) (ax 127) (ax 128) k zi112_4 zi112_5 zi112_6 zi112_7 zi112_8 zi112_9 fa zi112_13 zi112_14 zi112_15 (nI zn112_16) zi112_17 zi112_18 zi112_34 zf113 K (by first | with_reducible assumption | assumption) (by first | with_reducible assumption | assumption) (by first | with_reducible assumption | assumption) (by first | with_reducible assumption | assumption) (by first | with_reducible assumption | assumption) (by first | with_reducible assumption | assumption), ⟨e0, rfl, (vpc q112 (vpc q113 (vpc q125 va_nilP))), hK, vD_ix hi [112, 113, 125] (by rfl) (by decide) (by decide)⟩, ad_ix [112, 113, 125] (by rfl) (by decide), fun o t hq => ?_⟩
  obtain ⟨⟨r, ost, ho, ⟨hr, hu⟩, hP1, -⟩, hF⟩ := hq
  have FR : ∀ lo hi' : Nat, hi' ≤ 129 → ([112, 113, 125] : List Nat).all (fun x => decide (x < lo) || decide (hi' ≤ x)) = true → ∀ j : Nat, lo ≤ j → j < hi' → ax j < st.heap.size → t.heap[ax j]? = st.heap[ax j]? := fun lo hi' h1 h2 => fr_ix hi h1 hF.2 [112, 113, 125] (by rfl) (by decide) h2
  have hT := hu.2
  replace hu := hu.1
  have np0 : X11Pr dC dI G ax T fa N B S M t.heap := ⟨zi112_4, zi112_5, zi112_6, zi112_7, zi112_8, zi112_9, zi112_13, zi112_14, zi112_15, zn112_16, zi112_17, zi112_18, zi112_34, p0j0, p0j1, p0j2, p0j3, p0j4, p0j5, p0j6, hP1 0 _ rfl⟩
  have np1 : X11P0 dC dI G ax (bkW k K W0 W1 W2) W1 W2 N B N1 B1 N2 B2 (bkW k K O0 O1 O2) O1 O2 t.heap := ⟨ost, p1j0, p1j1, p1j2, p1j3, (by rw [hT]; exact SR.bk0 (by first | with_reducible assumption | assumption) (by first | with_reducible assumption | assumption) (by first | with_reducible assumption | assumption) hX (by first | with_reducible assumption | assumption) (by first | with_reducible assumption | assumption)), (by rw [hT]; exact SR.bko (by first | with_reducible assumption | assumption) (by decide)), (by rw [hT]; exact SR.bko (by first | with_reducible assumption | assumption) (by decide)), (by rw [hT]; exact SO.bk0 (by first | with_reducible assumption | assumption) (by first | with_reducible assumption | assumption) (by first | with_reducible assumption | assumption)), (by rw [hT]; exact SO.bko (by first | with_reducible assumption | assumption) (by decide)), (by rw [hT]; exact SO.bko (by first | with_reducible assumption | assumption) (by decide)), (by first | omega | exact hu | exact hu.1 | exact hu.1.1 | exact hu.1.2 | exact hu.2 | exact hu.1.1.1 | exact hu.1.1.2 | exact fd_nn (by first | with_reducible assumption | assumption) | (split at hu <;> omega) | (split <;> omega) | exact E_inv (by first | with_reducible assumption | assumption)), hP1 1 _ rfl⟩
  have np13 : X11P30 dC dI G ax K t.heap := hP1 2 _ rfl
  exact ⟨⟨r, (), ho, hr, ⟨np0, np1, p2.kept (FR 114 115 (by decide) (by decide)), p3.kept (FR 115 116 (by decide) (by decide)), p4.kept (FR 116 117 (by decide) (by decide)), p5.kept (FR 117 118 (by decide) (by decide)), p6.kept (FR 118 119 (by decide) (by decide)), p7.kept (FR 119 120 (by decide) (by decide)), p8.kept (FR 120 121 (by decide) (by decide)), p9.kept (FR 121 122 (by decide) (by decide)), p10.kept (FR 122 123 (by decide) (by decide)), p11.kept (FR 123 124 (by decide) (by decide)), p12.kept (FR 124 125 (by decide) (by decide)), np13, p14.kept (FR 126 127 (by decide) (by decide)), p15.kept (FR 127 128 (by decide) (by decide)), p16.kept (FR 128 129 (by decide) (by decide)), ⟨hX, bk_V hXV.2⟩⟩⟩, hF.wide (ad_ix [112, 113, 125] (by rfl) (by decide))⟩

set_option maxHeartbeats 1000000 in
set_option maxRecDepth 100000 in
theorem k_X11_sheetO (l : Launch) (dC : Nat → ClassId) (dI : Nat → Nat → Nat) (G : Nat → ClassId) (sz : Nat) (ax : Nat → Nat) (hi : adInj 129 ax) (T : Nat) (Y : Nat → Int32) (fa : Int32) (W0 : Nat → Int32) (W1 : Nat → Int32) (W2 : Nat → Int32) (N : Nat) (B : Nat) (N1 : Nat) (B1 : Nat) (N2 : Nat) (B2 : Nat) (K : Nat → Int32) (S : Nat) (M : Nat) (E : Nat → Int32) (Z : Nat → Int32) (O0 : Nat → Int32) (O1 : Nat → Int32) (O2 : Nat → Int32) (CE : Nat → Int32) (MR : Nat → Int32) (k : Int32) (lane : Int32) (n : Int32) : Met l yX11_sheet (Cond.code yX11_sheet cX11_sheet 5 (some .int) :: GT) ({ frames := 1, cells := 0, slots := 0, locals := 25 } : Room) (PcI [.ref (ax 112), .int k, .int lane, .int n] dC dI G (X11I dC dI G ax T Y fa W0 W1 W2 N B N1 B1 N2 B2 K S M E Z O0 O1 O2 CE MR) sz) (va_Qi (fun (r : Int32) (_ : Unit) => r = if (0 ≤ k.toInt ∧ k.toInt < 4) ∧ (0 ≤ lane.toInt ∧ lane.toInt ≤ 2) ∧ n.toInt ≤ 40 then (if n.toInt < 0 then -14 else 1) else -1) (fun _ t => X11I dC dI G ax T Y fa W0 W1 W2 N B N1 B1 N2 B2 K S M (if ((0 ≤ k.toInt ∧ k.toInt < 4) ∧ (0 ≤ lane.toInt ∧ lane.toInt ≤ 2) ∧ n.toInt ≤ 40 ∧ 0 ≤ n.toInt) then upd E k.toNatClampNeg lane else E) (if ((0 ≤ k.toInt ∧ k.toInt < 4) ∧ (0 ≤ lane.toInt ∧ lane.toInt ≤ 2) ∧ n.toInt ≤ 40 ∧ 0 ≤ n.toInt) then upd Z k.toNatClampNeg n else Z) O0 O1 O2 (if ((0 ≤ k.toInt ∧ k.toInt < 4) ∧ (0 ≤ lane.toInt ∧ lane.toInt ≤ 2) ∧ n.toInt ≤ 40 ∧ 0 ≤ n.toInt) then zpg k.toNatClampNeg 40 CE else CE) MR t.heap) (adX 112 129 ax sz)) 0 0 (adX 112 129 ax sz) := by
  refine Met.pick (fun a st hp => ?_)
  obtain ⟨e0, hsz, hI, hK⟩ := hp
  subst hsz
  have hI0 := hI
  unfold X11I at hI
  obtain ⟨p0, p1, p2, p3, p4, p5, p6, p7, p8, p9, p10, p11, p12, p13, p14, p15, p16, hX⟩ := hI
  have hXV := hX
  have hX := hXV.1
  unfold X11Pr at p0
  obtain ⟨zi112_4, zi112_5, zi112_6, zi112_7, zi112_8, zi112_9, zi112_13, zi112_14, zi112_15, zn112_16, zi112_17, zi112_18, zi112_34, p0j0, p0j1, p0j2, p0j3, p0j4, p0j5, p0j6, q112⟩ := p0
  unfold X11P31 at p14
  obtain ⟨p14j0, q126⟩ := p14
  unfold X11P32 at p15
  obtain ⟨p15j0, q127⟩ := p15
  unfold X11P33 at p16
  obtain ⟨zf128, p16j0, q128⟩ := p16
  refine ⟨_, _, _, c_X11_sheetO l dC dI G _ (ax 112) (ax 113) N B (ax 114) (ax 115) T (ax 116) (ax 117) (ax 118) (ax 119) (ax 120) (ax 121) S (ax 122) M (ax 123) (ax 124) (ax 125) (ax 126) (ax 127) (ax 128) k lane n zi112_4 zi112_5 zi112_6 zi112_7 zi112_8 zi112_9 fa zi112_13 zi112_14 zi112_15 (nI zn112_16) zi112_17 zi112_18 zi112_34 (lmap E) Z zf128 (by first | with_reducible assumption | assumption) (by first | with_reducible assumption | assumption) (by first | with_reducible assumption | assumption) (by first | with_reducible assumption | assumption) (by first | with_reducible assumption | assumption) (by first | with_reducible assumption | assumption), ⟨e0, rfl, (vpc q112 (vpc q126 (vpc q127 (vpc q128 va_nilP)))), hK, vD_ix hi [112, 126, 127, 128] (by rfl) (by decide) (by decide)⟩, ad_ix [112, 126, 127, 128] (by rfl) (by decide), fun o t hq => ?_⟩
  obtain ⟨⟨r, ⟨ola, olg, oce⟩, ho, ⟨hr, hu⟩, hP1, -⟩, hF⟩ := hq
  have FR : ∀ lo hi' : Nat, hi' ≤ 129 → ([112, 126, 127, 128] : List Nat).all (fun x => decide (x < lo) || decide (hi' ≤ x)) = true → ∀ j : Nat, lo ≤ j → j < hi' → ax j < st.heap.size → t.heap[ax j]? = st.heap[ax j]? := fun lo hi' h1 h2 => fr_ix hi h1 hF.2 [112, 126, 127, 128] (by rfl) (by decide) h2
  have y126 : lmap (if ((0 ≤ k.toInt ∧ k.toInt < 4) ∧ (0 ≤ lane.toInt ∧ lane.toInt ≤ 2) ∧ n.toInt ≤ 40 ∧ 0 ≤ n.toInt) then upd E k.toNatClampNeg lane else E) = ola := Eq.symm (hu.1.1.1.trans lmap_step)
  subst y126
  have y127 : (if ((0 ≤ k.toInt ∧ k.toInt < 4) ∧ (0 ≤ lane.toInt ∧ lane.toInt ≤ 2) ∧ n.toInt ≤ 40 ∧ 0 ≤ n.toInt) then upd Z k.toNatClampNeg n else Z) = olg := Eq.symm (hu.1.1.2)
  subst y127
  have np0 : X11Pr dC dI G ax T fa N B S M t.heap := ⟨zi112_4, zi112_5, zi112_6, zi112_7, zi112_8, zi112_9, zi112_13, zi112_14, zi112_15, zn112_16, zi112_17, zi112_18, zi112_34, p0j0, p0j1, p0j2, p0j3, p0j4, p0j5, p0j6, hP1 0 _ rfl⟩
  have np14 : X11P31 dC dI G ax (if ((0 ≤ k.toInt ∧ k.toInt < 4) ∧ (0 ≤ lane.toInt ∧ lane.toInt ≤ 2) ∧ n.toInt ≤ 40 ∧ 0 ≤ n.toInt) then upd E k.toNatClampNeg lane else E) t.heap := ⟨(by first | omega | exact hu | exact hu.1 | exact hu.1.1 | exact hu.1.2 | exact hu.2 | exact hu.1.1.1 | exact hu.1.1.2 | exact fd_nn (by first | with_reducible assumption | assumption) | (split at hu <;> omega) | (split <;> omega) | exact E_inv (by first | with_reducible assumption | assumption)), hP1 1 _ rfl⟩
  have np15 : X11P32 dC dI G ax (if ((0 ≤ k.toInt ∧ k.toInt < 4) ∧ (0 ≤ lane.toInt ∧ lane.toInt ≤ 2) ∧ n.toInt ≤ 40 ∧ 0 ≤ n.toInt) then upd Z k.toNatClampNeg n else Z) t.heap := ⟨(by first | omega | exact hu | exact hu.1 | exact hu.1.1 | exact hu.1.2 | exact hu.2 | exact hu.1.1.1 | exact hu.1.1.2 | exact fd_nn (by first | with_reducible assumption | assumption) | (split at hu <;> omega) | (split <;> omega) | exact E_inv (by first | with_reducible assumption | assumption)), hP1 2 _ rfl⟩
  have np16 : X11P33 dC dI G ax (if ((0 ≤ k.toInt ∧ k.toInt < 4) ∧ (0 ≤ lane.toInt ∧ lane.toInt ≤ 2) ∧ n.toInt ≤ 40 ∧ 0 ≤ n.toInt) then upd Z k.toNatClampNeg n else Z) (if ((0 ≤ k.toInt ∧ k.toInt < 4) ∧ (0 ≤ lane.toInt ∧ lane.toInt ≤ 2) ∧ n.toInt ≤ 40 ∧ 0 ≤ n.toInt) then zpg k.toNatClampNeg 40 CE else CE) t.heap := ⟨oce, (by rw [hu.2]; exact CEr.sh (by first | with_reducible assumption | assumption) (by first | with_reducible assumption | assumption)), hP1 3 _ rfl⟩
  exact ⟨⟨r, (), ho, hr, ⟨np0, p1.kept (FR 113 114 (by decide) (by decide)), p2.kept (FR 114 115 (by decide) (by decide)), p3.kept (FR 115 116 (by decide) (by decide)), p4.kept (FR 116 117 (by decide) (by decide)), p5.kept (FR 117 118 (by decide) (by decide)), p6.kept (FR 118 119 (by decide) (by decide)), p7.kept (FR 119 120 (by decide) (by decide)), p8.kept (FR 120 121 (by decide) (by decide)), p9.kept (FR 121 122 (by decide) (by decide)), p10.kept (FR 122 123 (by decide) (by decide)), p11.kept (FR 123 124 (by decide) (by decide)), p12.kept (FR 124 125 (by decide) (by decide)), p13.kept (FR 125 126 (by decide) (by decide)), np14, np15, np16, ⟨hX, hXV.2⟩⟩⟩, hF.wide (ad_ix [112, 126, 127, 128] (by rfl) (by decide))⟩

set_option maxHeartbeats 1000000 in
set_option maxRecDepth 100000 in
theorem k_X11_layO (l : Launch) (dC : Nat → ClassId) (dI : Nat → Nat → Nat) (G : Nat → ClassId) (sz : Nat) (ax : Nat → Nat) (hi : adInj 129 ax) (T : Nat) (Y : Nat → Int32) (fa : Int32) (W0 : Nat → Int32) (W1 : Nat → Int32) (W2 : Nat → Int32) (N : Nat) (B : Nat) (N1 : Nat) (B1 : Nat) (N2 : Nat) (B2 : Nat) (K : Nat → Int32) (S : Nat) (M : Nat) (E : Nat → Int32) (Z : Nat → Int32) (O0 : Nat → Int32) (O1 : Nat → Int32) (O2 : Nat → Int32) (CE : Nat → Int32) (MR : Nat → Int32) (k : Int32) (i : Int32) (v : Int32) : Met l yX11_lay (Cond.code yX11_lay cX11_lay 4 (some .int) :: GT) ({ frames := 1, cells := 0, slots := 0, locals := 25 } : Room) (PcI [.ref (ax 112), .int k, .int i, .int v] dC dI G (X11I dC dI G ax T Y fa W0 W1 W2 N B N1 B1 N2 B2 K S M E Z O0 O1 O2 CE MR) sz) (va_Qi (fun (r : Int32) (_ : Unit) => r = if 0 ≤ k.toInt ∧ k.toInt < 4 then (if E k.toNatClampNeg = -1 then -11 else if 0 ≤ i.toInt ∧ i.toInt < (Z k.toNatClampNeg).toInt then 1 else -12) else -1) (fun _ t => X11I dC dI G ax T Y fa W0 W1 W2 N B N1 B1 N2 B2 K S M E Z O0 O1 O2 (if ((0 ≤ k.toInt ∧ k.toInt < 4) ∧ ¬ E k.toNatClampNeg = -1 ∧ 0 ≤ i.toInt ∧ i.toInt < (Z k.toNatClampNeg).toInt) then upd CE (40 * k.toNatClampNeg + i.toNatClampNeg) (nrw (E k.toNatClampNeg) v) else CE) MR t.heap) (adX 112 129 ax sz)) 0 0 (adX 112 129 ax sz) := by
  refine Met.pick (fun a st hp => ?_)
  obtain ⟨e0, hsz, hI, hK⟩ := hp
  subst hsz
  have hI0 := hI
  unfold X11I at hI
  obtain ⟨p0, p1, p2, p3, p4, p5, p6, p7, p8, p9, p10, p11, p12, p13, p14, p15, p16, hX⟩ := hI
  have hXV := hX
  have hX := hXV.1
  unfold X11Pr at p0
  obtain ⟨zi112_4, zi112_5, zi112_6, zi112_7, zi112_8, zi112_9, zi112_13, zi112_14, zi112_15, zn112_16, zi112_17, zi112_18, zi112_34, p0j0, p0j1, p0j2, p0j3, p0j4, p0j5, p0j6, q112⟩ := p0
  unfold X11P31 at p14
  obtain ⟨p14j0, q126⟩ := p14
  unfold X11P32 at p15
  obtain ⟨p15j0, q127⟩ := p15
  unfold X11P33 at p16
  obtain ⟨zf128, p16j0, q128⟩ := p16
  refine ⟨_, _, _, c_X11_layO l dC dI G _ (ax 112) (ax 113) N B (ax 114) (ax 115) T (ax 116) (ax 117) (ax 118) (ax 119) (ax 120) (ax 121) S (ax 122) M (ax 123) (ax 124) (ax 125) (ax 126) (ax 127) (ax 128) k i v zi112_4 zi112_5 zi112_6 zi112_7 zi112_8 zi112_9 fa zi112_13 zi112_14 zi112_15 (nI zn112_16) zi112_17 zi112_18 zi112_34 (lmap E) Z zf128 (by first | with_reducible assumption | assumption) (by first | with_reducible assumption | assumption) (by first | with_reducible assumption | assumption) (by first | with_reducible assumption | assumption) (by first | with_reducible assumption | assumption) (by first | with_reducible assumption | assumption), ⟨e0, rfl, (vpc q112 (vpc q126 (vpc q127 (vpc q128 va_nilP)))), hK, vD_ix hi [112, 126, 127, 128] (by rfl) (by decide) (by decide)⟩, ad_ix [112, 126, 127, 128] (by rfl) (by decide), fun o t hq => ?_⟩
  obtain ⟨⟨r, oce, ho, ⟨hr, hu⟩, hP1, -⟩, hF⟩ := hq
  have FR : ∀ lo hi' : Nat, hi' ≤ 129 → ([112, 126, 127, 128] : List Nat).all (fun x => decide (x < lo) || decide (hi' ≤ x)) = true → ∀ j : Nat, lo ≤ j → j < hi' → ax j < st.heap.size → t.heap[ax j]? = st.heap[ax j]? := fun lo hi' h1 h2 => fr_ix hi h1 hF.2 [112, 126, 127, 128] (by rfl) (by decide) h2
  have np0 : X11Pr dC dI G ax T fa N B S M t.heap := ⟨zi112_4, zi112_5, zi112_6, zi112_7, zi112_8, zi112_9, zi112_13, zi112_14, zi112_15, zn112_16, zi112_17, zi112_18, zi112_34, p0j0, p0j1, p0j2, p0j3, p0j4, p0j5, p0j6, hP1 0 _ rfl⟩
  have np14 : X11P31 dC dI G ax E t.heap := ⟨p14j0, hP1 1 _ rfl⟩
  have np15 : X11P32 dC dI G ax Z t.heap := ⟨p15j0, hP1 2 _ rfl⟩
  have np16 : X11P33 dC dI G ax Z (if ((0 ≤ k.toInt ∧ k.toInt < 4) ∧ ¬ E k.toNatClampNeg = -1 ∧ 0 ≤ i.toInt ∧ i.toInt < (Z k.toNatClampNeg).toInt) then upd CE (40 * k.toNatClampNeg + i.toNatClampNeg) (nrw (E k.toNatClampNeg) v) else CE) t.heap := ⟨oce, (by rw [hu]; exact CEr.ly (by first | with_reducible assumption | assumption) (by first | with_reducible assumption | assumption) (by first | with_reducible assumption | assumption)), hP1 3 _ rfl⟩
  exact ⟨⟨r, (), ho, hr.trans (lay_eq (by first | with_reducible assumption | assumption)), ⟨np0, p1.kept (FR 113 114 (by decide) (by decide)), p2.kept (FR 114 115 (by decide) (by decide)), p3.kept (FR 115 116 (by decide) (by decide)), p4.kept (FR 116 117 (by decide) (by decide)), p5.kept (FR 117 118 (by decide) (by decide)), p6.kept (FR 118 119 (by decide) (by decide)), p7.kept (FR 119 120 (by decide) (by decide)), p8.kept (FR 120 121 (by decide) (by decide)), p9.kept (FR 121 122 (by decide) (by decide)), p10.kept (FR 122 123 (by decide) (by decide)), p11.kept (FR 123 124 (by decide) (by decide)), p12.kept (FR 124 125 (by decide) (by decide)), p13.kept (FR 125 126 (by decide) (by decide)), np14, np15, np16, ⟨hX, hXV.2⟩⟩⟩, hF.wide (ad_ix [112, 126, 127, 128] (by rfl) (by decide))⟩

set_option maxHeartbeats 1000000 in
set_option maxRecDepth 100000 in
theorem k_X11_readO (l : Launch) (dC : Nat → ClassId) (dI : Nat → Nat → Nat) (G : Nat → ClassId) (sz : Nat) (ax : Nat → Nat) (hi : adInj 129 ax) (T : Nat) (Y : Nat → Int32) (fa : Int32) (W0 : Nat → Int32) (W1 : Nat → Int32) (W2 : Nat → Int32) (N : Nat) (B : Nat) (N1 : Nat) (B1 : Nat) (N2 : Nat) (B2 : Nat) (K : Nat → Int32) (S : Nat) (M : Nat) (E : Nat → Int32) (Z : Nat → Int32) (O0 : Nat → Int32) (O1 : Nat → Int32) (O2 : Nat → Int32) (CE : Nat → Int32) (MR : Nat → Int32) (k : Int32) (lane : Int32) (x1 : Int32) (n : Int32) : Met l yX11_read (Cond.code yX11_read cX11_read 9 (some .int) :: GT) ({ frames := 3, cells := 0, slots := 0, locals := 68 } : Room) (PcI [.ref (ax 112), .int k, .int lane, .int x1, .int n] dC dI G (X11I dC dI G ax T Y fa W0 W1 W2 N B N1 B1 N2 B2 K S M E Z O0 O1 O2 CE MR) sz) (va_Qi (fun (r : Int32) (_ : Unit) => r = if ((0 ≤ k.toInt ∧ k.toInt < 4) ∧ (0 ≤ lane.toInt ∧ lane.toInt ≤ 2) ∧ 0 ≤ n.toInt ∧ n.toInt ≤ 20) then rdR N B (fun q8 : Nat => CE (40 * k.toNatClampNeg + (x1.toInt + 2 * (q8 : Int) + 0).toNat)) (fun q8 : Nat => CE (40 * k.toNatClampNeg + (x1.toInt + 2 * (q8 : Int) + 1).toNat)) (tpK (E k.toNatClampNeg) lane (Z k.toNatClampNeg).toInt x1.toInt n.toNatClampNeg) else -1) (fun _ t => X11I dC dI G ax T Y fa W0 W1 W2 N B N1 B1 N2 B2 K S M E Z (if ((0 ≤ k.toInt ∧ k.toInt < 4) ∧ (0 ≤ lane.toInt ∧ lane.toInt ≤ 2) ∧ 0 ≤ n.toInt ∧ n.toInt ≤ 20) then rdF N B (fun q8 : Nat => CE (40 * k.toNatClampNeg + (x1.toInt + 2 * (q8 : Int) + 0).toNat)) (fun q8 : Nat => CE (40 * k.toNatClampNeg + (x1.toInt + 2 * (q8 : Int) + 1).toNat)) (tpK (E k.toNatClampNeg) lane (Z k.toNatClampNeg).toInt x1.toInt n.toNatClampNeg) O0 else O0) O1 O2 CE MR t.heap) (adX 112 129 ax sz)) 0 0 (adX 112 129 ax sz) := by
  refine Met.pick (fun a st hp => ?_)
  obtain ⟨e0, hsz, hI, hK⟩ := hp
  subst hsz
  have hI0 := hI
  unfold X11I at hI
  obtain ⟨p0, p1, p2, p3, p4, p5, p6, p7, p8, p9, p10, p11, p12, p13, p14, p15, p16, hX⟩ := hI
  have hXV := hX
  have hX := hXV.1
  unfold X11Pr at p0
  obtain ⟨zi112_4, zi112_5, zi112_6, zi112_7, zi112_8, zi112_9, zi112_13, zi112_14, zi112_15, zn112_16, zi112_17, zi112_18, zi112_34, p0j0, p0j1, p0j2, p0j3, p0j4, p0j5, p0j6, q112⟩ := p0
  unfold X11P0 at p1
  obtain ⟨zf113, p1j0, p1j1, p1j2, p1j3, p1j4, p1j5, p1j6, p1j7, p1j8, p1j9, p1j10, q113⟩ := p1
  unfold X11P31 at p14
  obtain ⟨p14j0, q126⟩ := p14
  unfold X11P32 at p15
  obtain ⟨p15j0, q127⟩ := p15
  unfold X11P33 at p16
  obtain ⟨zf128, p16j0, q128⟩ := p16
  refine ⟨_, _, _, c_X11_readO l dC dI G _ (ax 112) (ax 113) N B (ax 114) (ax 115) T (ax 116) (ax 117) (ax 118) (ax 119) (ax 120) (ax 121) S (ax 122) M (ax 123) (ax 124) (ax 125) (ax 126) (ax 127) (ax 128) k lane x1 n zi112_4 zi112_5 zi112_6 zi112_7 zi112_8 zi112_9 fa zi112_13 zi112_14 zi112_15 (nI zn112_16) zi112_17 zi112_18 zi112_34 zf113 (lmap E) Z zf128 (by first | with_reducible assumption | assumption) (by first | with_reducible assumption | assumption) (by first | with_reducible assumption | assumption) (by first | with_reducible assumption | assumption) (by first | with_reducible assumption | assumption) (by first | with_reducible assumption | assumption) (by first | with_reducible assumption | assumption), ⟨e0, rfl, (vpc q112 (vpc q113 (vpc q126 (vpc q127 (vpc q128 va_nilP))))), hK, vD_ix hi [112, 113, 126, 127, 128] (by rfl) (by decide) (by decide)⟩, ad_ix [112, 113, 126, 127, 128] (by rfl) (by decide), fun o t hq => ?_⟩
  obtain ⟨⟨r, ⟨ost, oto⟩, ho, ⟨hr, hu⟩, hP1, -⟩, hF⟩ := hq
  have FR : ∀ lo hi' : Nat, hi' ≤ 129 → ([112, 113, 126, 127, 128] : List Nat).all (fun x => decide (x < lo) || decide (hi' ≤ x)) = true → ∀ j : Nat, lo ≤ j → j < hi' → ax j < st.heap.size → t.heap[ax j]? = st.heap[ax j]? := fun lo hi' h1 h2 => fr_ix hi h1 hF.2 [112, 113, 126, 127, 128] (by rfl) (by decide) h2
  have np0 : X11Pr dC dI G ax T fa N B S M t.heap := ⟨zi112_4, zi112_5, zi112_6, zi112_7, zi112_8, zi112_9, zi112_13, zi112_14, zi112_15, zn112_16, zi112_17, zi112_18, oto, p0j0, p0j1, p0j2, p0j3, p0j4, p0j5, p0j6, hP1 0 _ rfl⟩
  have np1 : X11P0 dC dI G ax W0 W1 W2 N B N1 B1 N2 B2 (if ((0 ≤ k.toInt ∧ k.toInt < 4) ∧ (0 ≤ lane.toInt ∧ lane.toInt ≤ 2) ∧ 0 ≤ n.toInt ∧ n.toInt ≤ 20) then rdF N B (fun q8 : Nat => CE (40 * k.toNatClampNeg + (x1.toInt + 2 * (q8 : Int) + 0).toNat)) (fun q8 : Nat => CE (40 * k.toNatClampNeg + (x1.toInt + 2 * (q8 : Int) + 1).toNat)) (tpK (E k.toNatClampNeg) lane (Z k.toNatClampNeg).toInt x1.toInt n.toNatClampNeg) O0 else O0) O1 O2 t.heap := ⟨ost, p1j0, p1j1, p1j2, p1j3, (SR.no3 (by first | with_reducible assumption | assumption) hu.2.1 (by first | with_reducible assumption | assumption) (by first | with_reducible assumption | assumption) (by omega)), (SR.no3 (by first | with_reducible assumption | assumption) hu.2.1 (by first | with_reducible assumption | assumption) (by first | with_reducible assumption | assumption) (by omega)), (SR.no3 (by first | with_reducible assumption | assumption) hu.2.1 (by first | with_reducible assumption | assumption) (by first | with_reducible assumption | assumption) (by omega)), (SO.rd (by first | with_reducible assumption | assumption) (by first | with_reducible assumption | assumption) hu.2.2), (SO.no3 (by first | with_reducible assumption | assumption) hu.2.1 (by omega)), (SO.no3 (by first | with_reducible assumption | assumption) hu.2.1 (by omega)), (by first | omega | exact hu | exact hu.1 | exact hu.1.1 | exact hu.1.2 | exact hu.2 | exact hu.1.1.1 | exact hu.1.1.2 | exact fd_nn (by first | with_reducible assumption | assumption) | (split at hu <;> omega) | (split <;> omega) | exact E_inv (by first | with_reducible assumption | assumption)), hP1 1 _ rfl⟩
  have np14 : X11P31 dC dI G ax E t.heap := ⟨p14j0, hP1 2 _ rfl⟩
  have np15 : X11P32 dC dI G ax Z t.heap := ⟨p15j0, hP1 3 _ rfl⟩
  have np16 : X11P33 dC dI G ax Z CE t.heap := ⟨zf128, p16j0, hP1 4 _ rfl⟩
  exact ⟨⟨r, (), ho, hr.trans (rd_r (by first | with_reducible assumption | assumption)), ⟨np0, np1, p2.kept (FR 114 115 (by decide) (by decide)), p3.kept (FR 115 116 (by decide) (by decide)), p4.kept (FR 116 117 (by decide) (by decide)), p5.kept (FR 117 118 (by decide) (by decide)), p6.kept (FR 118 119 (by decide) (by decide)), p7.kept (FR 119 120 (by decide) (by decide)), p8.kept (FR 120 121 (by decide) (by decide)), p9.kept (FR 121 122 (by decide) (by decide)), p10.kept (FR 122 123 (by decide) (by decide)), p11.kept (FR 123 124 (by decide) (by decide)), p12.kept (FR 124 125 (by decide) (by decide)), p13.kept (FR 125 126 (by decide) (by decide)), np14, np15, np16, ⟨hX, rd_V hXV.2⟩⟩⟩, hF.wide (ad_ix [112, 113, 126, 127, 128] (by rfl) (by decide))⟩

set_option maxHeartbeats 1000000 in
set_option maxRecDepth 100000 in
theorem k_X11_torn (l : Launch) (dC : Nat → ClassId) (dI : Nat → Nat → Nat) (G : Nat → ClassId) (sz : Nat) (ax : Nat → Nat) (hi : adInj 129 ax) (T : Nat) (Y : Nat → Int32) (fa : Int32) (W0 : Nat → Int32) (W1 : Nat → Int32) (W2 : Nat → Int32) (N : Nat) (B : Nat) (N1 : Nat) (B1 : Nat) (N2 : Nat) (B2 : Nat) (K : Nat → Int32) (S : Nat) (M : Nat) (E : Nat → Int32) (Z : Nat → Int32) (O0 : Nat → Int32) (O1 : Nat → Int32) (O2 : Nat → Int32) (CE : Nat → Int32) (MR : Nat → Int32) : Met l yX11_torn (Cond.code yX11_torn cX11_torn 1 (some .int) :: GT) ({ frames := 0, cells := 0, slots := 0, locals := 0 } : Room) (PcI [.ref (ax 112)] dC dI G (X11I dC dI G ax T Y fa W0 W1 W2 N B N1 B1 N2 B2 K S M E Z O0 O1 O2 CE MR) sz) (va_Qi (fun (r : Int32) (_ : Unit) => True) (fun _ t => X11I dC dI G ax T Y fa W0 W1 W2 N B N1 B1 N2 B2 K S M E Z O0 O1 O2 CE MR t.heap) (adX 112 129 ax sz)) 0 0 (adX 112 129 ax sz) := by
  refine Met.pick (fun a st hp => ?_)
  obtain ⟨e0, hsz, hI, hK⟩ := hp
  subst hsz
  have hI0 := hI
  unfold X11I at hI
  obtain ⟨p0, p1, p2, p3, p4, p5, p6, p7, p8, p9, p10, p11, p12, p13, p14, p15, p16, hX⟩ := hI
  have hXV := hX
  have hX := hXV.1
  unfold X11Pr at p0
  obtain ⟨zi112_4, zi112_5, zi112_6, zi112_7, zi112_8, zi112_9, zi112_13, zi112_14, zi112_15, zn112_16, zi112_17, zi112_18, zi112_34, p0j0, p0j1, p0j2, p0j3, p0j4, p0j5, p0j6, q112⟩ := p0
  refine ⟨_, _, _, c_X11_torn l dC dI G _ (ax 112) (ax 113) N B (ax 114) (ax 115) T (ax 116) (ax 117) (ax 118) (ax 119) (ax 120) (ax 121) S (ax 122) M (ax 123) (ax 124) (ax 125) (ax 126) (ax 127) (ax 128) zi112_4 zi112_5 zi112_6 zi112_7 zi112_8 zi112_9 fa zi112_13 zi112_14 zi112_15 (nI zn112_16) zi112_17 zi112_18 zi112_34 (by first | with_reducible assumption | assumption) (by first | with_reducible assumption | assumption) (by first | with_reducible assumption | assumption) (by first | with_reducible assumption | assumption) (by first | with_reducible assumption | assumption), ⟨e0, rfl, (vpc q112 va_nilP), hK⟩, fun q h => Or.inr h, fun o t hq => ?_⟩
  obtain ⟨⟨r, u, ho, ⟨hr, hu⟩, -⟩, hF⟩ := hq
  exact ⟨⟨r, (), ho, trivial, hI0.kept (fun j _ _ h => hF.2 _ h (Nat.not_le.mpr h))⟩, hF.wide (fun q h => Or.inr h)⟩

set_option maxHeartbeats 1000000 in
set_option maxRecDepth 100000 in
theorem k_X11_count (l : Launch) (dC : Nat → ClassId) (dI : Nat → Nat → Nat) (G : Nat → ClassId) (sz : Nat) (ax : Nat → Nat) (hi : adInj 129 ax) (T : Nat) (Y : Nat → Int32) (fa : Int32) (W0 : Nat → Int32) (W1 : Nat → Int32) (W2 : Nat → Int32) (N : Nat) (B : Nat) (N1 : Nat) (B1 : Nat) (N2 : Nat) (B2 : Nat) (K : Nat → Int32) (S : Nat) (M : Nat) (E : Nat → Int32) (Z : Nat → Int32) (O0 : Nat → Int32) (O1 : Nat → Int32) (O2 : Nat → Int32) (CE : Nat → Int32) (MR : Nat → Int32) (what : Int32) : Met l yX11_count (Cond.code yX11_count cX11_count 4 (some .int) :: GT) ({ frames := 0, cells := 0, slots := 0, locals := 0 } : Room) (PcI [.ref (ax 112), .int what] dC dI G (X11I dC dI G ax T Y fa W0 W1 W2 N B N1 B1 N2 B2 K S M E Z O0 O1 O2 CE MR) sz) (va_Qi (fun (r : Int32) (_ : Unit) => True) (fun _ t => X11I dC dI G ax T Y fa W0 W1 W2 N B N1 B1 N2 B2 K S M E Z O0 O1 O2 CE MR t.heap) (adX 112 129 ax sz)) 0 0 (adX 112 129 ax sz) := by
  refine Met.pick (fun a st hp => ?_)
  obtain ⟨e0, hsz, hI, hK⟩ := hp
  subst hsz
  have hI0 := hI
  unfold X11I at hI
  obtain ⟨p0, p1, p2, p3, p4, p5, p6, p7, p8, p9, p10, p11, p12, p13, p14, p15, p16, hX⟩ := hI
  have hXV := hX
  have hX := hXV.1
  unfold X11Pr at p0
  obtain ⟨zi112_4, zi112_5, zi112_6, zi112_7, zi112_8, zi112_9, zi112_13, zi112_14, zi112_15, zn112_16, zi112_17, zi112_18, zi112_34, p0j0, p0j1, p0j2, p0j3, p0j4, p0j5, p0j6, q112⟩ := p0
  unfold X11P0 at p1
  obtain ⟨zf113, p1j0, p1j1, p1j2, p1j3, p1j4, p1j5, p1j6, p1j7, p1j8, p1j9, p1j10, q113⟩ := p1
  unfold X11P30 at p13
  have q125 := p13
  unfold X11P31 at p14
  obtain ⟨p14j0, q126⟩ := p14
  unfold X11P32 at p15
  obtain ⟨p15j0, q127⟩ := p15
  refine ⟨_, _, _, c_X11_count l dC dI G _ (ax 112) (ax 113) N B (ax 114) (ax 115) T (ax 116) (ax 117) (ax 118) (ax 119) (ax 120) (ax 121) S (ax 122) M (ax 123) (ax 124) (ax 125) (ax 126) (ax 127) (ax 128) what zi112_4 zi112_5 zi112_6 zi112_7 zi112_8 zi112_9 fa zi112_13 zi112_14 zi112_15 (nI zn112_16) zi112_17 zi112_18 zi112_34 zf113 K (lmap E) Z (by first | with_reducible assumption | assumption) (by first | with_reducible assumption | assumption) (by first | with_reducible assumption | assumption) (by first | with_reducible assumption | assumption) (by first | with_reducible assumption | assumption), ⟨e0, rfl, (vpc q112 (vpc q113 (vpc q125 (vpc q126 (vpc q127 va_nilP))))), hK⟩, fun q h => Or.inr h, fun o t hq => ?_⟩
  obtain ⟨⟨r, u, ho, ⟨hr, hu⟩, -⟩, hF⟩ := hq
  exact ⟨⟨r, (), ho, trivial, hI0.kept (fun j _ _ h => hF.2 _ h (Nat.not_le.mpr h))⟩, hF.wide (fun q h => Or.inr h)⟩
