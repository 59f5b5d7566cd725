set_option maxHeartbeats 4000000 in
set_option maxRecDepth 100000 in
theorem c_X10_feed (l : Launch) (dC : Nat → ClassId) (dI : Nat → Nat → Nat) (G : Nat → ClassId) (sz : Nat) (h0 rd wy tr im kp od ch cr le mk tl sh tp td ta : Nat) (v : Int64)   : Met l yX10_feed (Cond.code yX10_feed cX10_feed 3 (some .int) :: GT) ({ frames := 1, cells := 0, slots := 0, locals := 23 } : Room) (PcW [.ref h0, .long v] dC dI G [(h0, .inr (10, [.ref rd, .ref wy, .ref tr, .ref im, .ref kp, .ref od, .ref ch, .ref cr, .ref le, .ref mk, .ref tl, .ref sh, .int 0, .int 0])), (rd, .inr (5, [.ref tp, .ref td, .int 0, .int 0, .int 0, .int 0, .int 0, .int 0, .int 0, .int 0, .int 0, .int 0])), (tp, .inr (7, [.int 0, .ref ta])), (ta, .inl (G 0, 320, .inl (fun _ => 0)))] sz) (va_Qi (fun (r : Int32) (u : Unit) => match u with | _ => (r = 8) ∧ True) (fun _ _ => True) (va_A [(h0, .inr (10, [.ref rd, .ref wy, .ref tr, .ref im, .ref kp, .ref od, .ref ch, .ref cr, .ref le, .ref mk, .ref tl, .ref sh, .int 0, .int 0])), (rd, .inr (5, [.ref tp, .ref td, .int 0, .int 0, .int 0, .int 0, .int 0, .int 0, .int 0, .int 0, .int 0, .int 0])), (tp, .inr (7, [.int 0, .ref ta])), (ta, .inl (G 0, 320, .inl (fun _ => 0)))] sz)) 0 0 (va_A [(h0, .inr (10, [.ref rd, .ref wy, .ref tr, .ref im, .ref kp, .ref od, .ref ch, .ref cr, .ref le, .ref mk, .ref tl, .ref sh, .int 0, .int 0])), (rd, .inr (5, [.ref tp, .ref td, .int 0, .int 0, .int 0, .int 0, .int 0, .int 0, .int 0, .int 0, .int 0, .int 0])), (tp, .inr (7, [.int 0, .ref ta])), (ta, .inl (G 0, 320, .inl (fun _ => 0)))] sz) := by
  refine Met.ofW (cc := cX10_feed) (maxL := 3) (ret := (some .int)) (by decide) rfl ?_
  intro p e s m args below meth c s₁ B hml hv
  obtain ⟨rfl, hsz, hP, hK, hD0⟩ := hv
  have hx := B.exec
  have hb := B.bytes
  have hr := B.returns
  have hg : ∀ w ∈ GT, w.before ([.ref h0, .long v] : List Value).toArray s = true := fun w h => atoms_spec (ws := Cond.code yX10_feed cX10_feed 3 (some .int) :: GT) B.pre w (List.mem_cons_of_mem _ h)
  have hown : s.vm.findClass RX10 = some m.cls := findClass_of_methodNamed B.named
  have hlocks := B.notSynchronized
  subst hsz
  have hD := hD0.self (sz := s.heap.size)
  generalize hAe : va_A [(h0, .inr (10, [.ref rd, .ref wy, .ref tr, .ref im, .ref kp, .ref od, .ref ch, .ref cr, .ref le, .ref mk, .ref tl, .ref sh, .int 0, .int 0])), (rd, .inr (5, [.ref tp, .ref td, .int 0, .int 0, .int 0, .int 0, .int 0, .int 0, .int 0, .int 0, .int 0, .int 0])), (tp, .inr (7, [.int 0, .ref ta])), (ta, .inl (G 0, 320, .inl (fun _ => 0)))] s.heap.size = A at hD ⊢
  have hA : ∀ q : Nat, s.heap.size ≤ q → A q := fun q h => by rw [← hAe]; exact Or.inr h
  have hS : va_S A s.heap s.heap [] := va_S.rf
  have hl := lv_entry ([.ref h0, .long v]) (n := 3) (Nat.le_of_ble_eq_true rfl)
  rw [lg_entry_eq]
  generalize (lg_sl ([.ref h0, .long v]) ++ List.replicate (3 - (lg_sl ([.ref h0, .long v])).length) Slot.unset).toArray = ls at hl ⊢
  have hl : lv_has ls 3 [(0, .ref h0), (1, .long v)] := hl
  refine lv_aload_n hx hb dX10_feed_0 rfl (lv_at hl 0 rfl) ?_
  refine va_get (D := (dC, dI)) (ci := 10) (v := .ref rd) (C := RX10) (T := TX10) (N := 14) hx hb hg inG10 hown hK.1 hP 0 rfl rfl 0 (by decide) (hg _ wt_302) (fun _ h9 => h9) rfl dX10_feed_1 ?_
  refine va_getN (D := (dC, dI)) (ci := 5) (v := .ref tp) (C := RX5) (T := TX5) (N := 12) hx hb hg inG5 hown hK.1 hP 1 rfl rfl 0 (by decide) (hK.nest wn_106) (fun _ h9 => h9) rfl dX10_feed_4 ?_
  refine lv_lload_n hx hb dX10_feed_7 rfl (lv_at hl 1 rfl) ?_
  have hPc := hP.sub (ws' := [(tp, .inr (7, [.int 0, .ref ta])), (ta, .inl (G 0, 320, .inl (fun _ => 0)))]) [2, 3] rfl
  have hDc := hD.sub (ws' := [(tp, .inr (7, [.int 0, .ref ta])), (ta, .inl (G 0, 320, .inl (fun _ => 0)))]) [2, 3] (by decide) rfl
  have hFc := va_free (wc := [(tp, .inr (7, [.int 0, .ref ta])), (ta, .inl (G 0, 320, .inl (fun _ => 0)))]) hD hS hA [2, 3] rfl
  refine va_calli (va_runVN (As := [.long v]) (rest := []) ⟨hx, hb, hml, hown, hg⟩ (c_X7_addBytes l dC dI G _ tp ta v (fun _ => 0) ) (kwVN hg hK mfX7_addBytes wn_349 ⟨Nat.le_of_ble_eq_true rfl, Nat.le_of_ble_eq_true rfl⟩) (preVW hK hPc hDc (ci := 7) rfl rfl) rfl rfl hl.1 rfl (lv_room (Nat.le_of_ble_eq_true rfl)) dX10_feed_8 ⟨Nat.le_of_ble_eq_true rfl, Nat.le_of_ble_eq_true rfl⟩) hS (fun q _ h => hFc q h) hFc (fun r1 ur1 t H1 locs ht hvm w2 hB hz1 hk1 hS => ?_)
  obtain ⟨hP1, hD1⟩ := hB
  rw [ht] at hP1
  obtain ⟨hP, hD⟩ := va_join (wr := [(h0, .inr (10, [.ref rd, .ref wy, .ref tr, .ref im, .ref kp, .ref od, .ref ch, .ref cr, .ref le, .ref mk, .ref tl, .ref sh, .int 0, .int 0])), (rd, .inr (5, [.ref tp, .ref td, .int 0, .int 0, .int 0, .int 0, .int 0, .int 0, .int 0, .int 0, .int 0, .int 0]))]) (w1 := [(tp, .inr (7, [.int 8, .ref ta]))]) hP hD [2, 3] [0, 1] rfl rfl (by decide) (by decide) hk1 hFc hP1 hD1
  generalize H1 = H at hP hS ⊢
  have hP : va_P (dC, dI) vwCl [(h0, .inr (10, [.ref rd, .ref wy, .ref tr, .ref im, .ref kp, .ref od, .ref ch, .ref cr, .ref le, .ref mk, .ref tl, .ref sh, .int 0, .int 0])), (rd, .inr (5, [.ref tp, .ref td, .int 0, .int 0, .int 0, .int 0, .int 0, .int 0, .int 0, .int 0, .int 0, .int 0])), (tp, .inr (7, [.int 8, .ref ta]))] H := hP
  have hD : va_D A [(h0, .inr (10, [.ref rd, .ref wy, .ref tr, .ref im, .ref kp, .ref od, .ref ch, .ref cr, .ref le, .ref mk, .ref tl, .ref sh, .int 0, .int 0])), (rd, .inr (5, [.ref tp, .ref td, .int 0, .int 0, .int 0, .int 0, .int 0, .int 0, .int 0, .int 0, .int 0, .int 0])), (tp, .inr (7, [.int 8, .ref ta]))] := hD
  obtain ⟨w2, w2x⟩ := w2
  subst w2
  refine lv_if_eq (tgt := 27) hx hb dX10_feed_11 (by decide) (fun c3 => ?_) (fun c3 => ?_)
  · skip
    exact absurd c3 (by decide)
  · skip
    refine lv_aload_n hx hb dX10_feed_14 rfl (lv_at hl 0 rfl) ?_
    refine va_get (D := (dC, dI)) (ci := 10) (v := .ref rd) (C := RX10) (T := TX10) (N := 14) hx hb hg inG10 hown hK.1 hP 0 rfl rfl 0 (by decide) (hg _ wt_302) (fun _ h9 => h9) rfl dX10_feed_15 ?_
    refine va_getN (D := (dC, dI)) (ci := 5) (v := .ref tp) (C := RX5) (T := TX5) (N := 12) hx hb hg inG5 hown hK.1 hP 1 rfl rfl 0 (by decide) (hK.nest wn_106) (fun _ h9 => h9) rfl dX10_feed_18 ?_
    refine va_getN (D := (dC, dI)) (ci := 7) (v := .int 8) (C := RX7) (T := TX7) (N := 2) hx hb hg inG7 hown hK.1 hP 2 rfl rfl 0 (by decide) (hK.nest wn_42) (fun _ h9 => h9) rfl dX10_feed_21 ?_
    refine lv_goto (tgt := 29) hx hb dX10_feed_24 (by decide) ?_
    have hpost : (8 : Int32) = 8 := by
      have t_c3 := neI c3
      have : (0 : Int32).toInt = 0 := (by decide)
      have : (1 : Int32).toInt = 1 := (by decide)
      first | rfl | ((repeat' split) <;> first | rfl | omega)
    refine W.widen (k := 0) (n := 0) (by omega) (by omega) ?_
    exact W.iret (v := 8) hx hb hr (fun t ht hW => ⟨⟨8, (), rfl, ⟨hpost, trivial⟩, trivial⟩, hS.F ht⟩) hS.2.2 dX10_feed_29

set_option maxHeartbeats 4000000 in
set_option maxRecDepth 100000 in
theorem c_X10_end (l : Launch) (dC : Nat → ClassId) (dI : Nat → Nat → Nat) (G : Nat → ClassId) (sz : Nat) (h0 rd wy tr im kp od ch cr le mk tl sh tp td ta : Nat) (n : Int32)   : Met l yX10_end (Cond.code yX10_end cX10_end 3 (some .int) :: GT) ({ frames := 0, cells := 0, slots := 0, locals := 0 } : Room) (PcW [.ref h0, .int n] dC dI G [(h0, .inr (10, [.ref rd, .ref wy, .ref tr, .ref im, .ref kp, .ref od, .ref ch, .ref cr, .ref le, .ref mk, .ref tl, .ref sh, .int 0, .int 0])), (rd, .inr (5, [.ref tp, .ref td, .int 0, .int 0, .int 0, .int 0, .int 0, .int 0, .int 0, .int 0, .int 0, .int 0])), (tp, .inr (7, [.int 0, .ref ta]))] sz) (va_Qi (fun (r : Int32) (u : Unit) => match u with | _ => (r = if n.toInt = 0 then 0 else -1) ∧ True) (fun _ _ => True) (va_A [(h0, .inr (10, [.ref rd, .ref wy, .ref tr, .ref im, .ref kp, .ref od, .ref ch, .ref cr, .ref le, .ref mk, .ref tl, .ref sh, .int 0, .int 0])), (rd, .inr (5, [.ref tp, .ref td, .int 0, .int 0, .int 0, .int 0, .int 0, .int 0, .int 0, .int 0, .int 0, .int 0])), (tp, .inr (7, [.int 0, .ref ta]))] sz)) 0 0 (va_A [(h0, .inr (10, [.ref rd, .ref wy, .ref tr, .ref im, .ref kp, .ref od, .ref ch, .ref cr, .ref le, .ref mk, .ref tl, .ref sh, .int 0, .int 0])), (rd, .inr (5, [.ref tp, .ref td, .int 0, .int 0, .int 0, .int 0, .int 0, .int 0, .int 0, .int 0, .int 0, .int 0])), (tp, .inr (7, [.int 0, .ref ta]))] sz) := by
  refine Met.ofW (cc := cX10_end) (maxL := 3) (ret := (some .int)) (by decide) rfl ?_
  intro p e s m args below meth c s₁ B hml hv
  obtain ⟨rfl, hsz, hP, hK, hD0⟩ := hv
  have hx := B.exec
  have hb := B.bytes
  have hr := B.returns
  have hg : ∀ w ∈ GT, w.before ([.ref h0, .int n] : List Value).toArray s = true := fun w h => atoms_spec (ws := Cond.code yX10_end cX10_end 3 (some .int) :: GT) B.pre w (List.mem_cons_of_mem _ h)
  have hown : s.vm.findClass RX10 = some m.cls := findClass_of_methodNamed B.named
  have hlocks := B.notSynchronized
  subst hsz
  have hD := hD0.self (sz := s.heap.size)
  generalize hAe : va_A [(h0, .inr (10, [.ref rd, .ref wy, .ref tr, .ref im, .ref kp, .ref od, .ref ch, .ref cr, .ref le, .ref mk, .ref tl, .ref sh, .int 0, .int 0])), (rd, .inr (5, [.ref tp, .ref td, .int 0, .int 0, .int 0, .int 0, .int 0, .int 0, .int 0, .int 0, .int 0, .int 0])), (tp, .inr (7, [.int 0, .ref ta]))] s.heap.size = A at hD ⊢
  have hA : ∀ q : Nat, s.heap.size ≤ q → A q := fun q h => by rw [← hAe]; exact Or.inr h
  have hS : va_S A s.heap s.heap [] := va_S.rf
  have hl := lv_entry ([.ref h0, .int n]) (n := 3) (Nat.le_of_ble_eq_true rfl)
  rw [lg_entry_eq]
  generalize (lg_sl ([.ref h0, .int n]) ++ List.replicate (3 - (lg_sl ([.ref h0, .int n])).length) Slot.unset).toArray = ls at hl ⊢
  have hl : lv_has ls 3 [(0, .ref h0), (1, .int n)] := hl
  refine lv_iload_n hx hb dX10_end_0 rfl (lv_at hl 1 rfl) ?_
  refine lv_if_lt (tgt := 18) hx hb dX10_end_1 (by decide) (fun c1 => ?_) (fun c1 => ?_)
  · skip
    refine lv_iconst (v := (-1)) hx hb dX10_end_18 (by decide) ?_
    have hpost : ((-1) : Int32) = if n.toInt = 0 then 0 else -1 := by
      have t_c1 := ltI c1
      have : (0 : Int32).toInt = 0 := (by decide)
      first | rfl | ((repeat' split) <;> first | rfl | omega)
    refine W.widen (k := 0) (n := 0) (by omega) (by omega) ?_
    exact W.iret (v := (-1)) hx hb hr (fun t ht hW => ⟨⟨(-1), (), rfl, ⟨hpost, trivial⟩, trivial⟩, hS.F ht⟩) hS.2.2 dX10_end_19
  · skip
    refine lv_iload_n hx hb dX10_end_4 rfl (lv_at hl 1 rfl) ?_
    refine lv_aload_n hx hb dX10_end_5 rfl (lv_at hl 0 rfl) ?_
    refine va_get (D := (dC, dI)) (ci := 10) (v := .ref rd) (C := RX10) (T := TX10) (N := 14) hx hb hg inG10 hown hK.1 hP 0 rfl rfl 0 (by decide) (hg _ wt_302) (fun _ h9 => h9) rfl dX10_end_6 ?_
    refine va_getN (D := (dC, dI)) (ci := 5) (v := .ref tp) (C := RX5) (T := TX5) (N := 12) hx hb hg inG5 hown hK.1 hP 1 rfl rfl 0 (by decide) (hK.nest wn_106) (fun _ h9 => h9) rfl dX10_end_9 ?_
    refine va_getN (D := (dC, dI)) (ci := 7) (v := .int 0) (C := RX7) (T := TX7) (N := 2) hx hb hg inG7 hown hK.1 hP 2 rfl rfl 0 (by decide) (hK.nest wn_42) (fun _ h9 => h9) rfl dX10_end_12 ?_
    refine lv_icmp_le (tgt := 20) hx hb dX10_end_15 (by decide) (fun c2 => ?_) (fun c2 => ?_)
    · skip
      refine lv_aload_n hx hb dX10_end_20 rfl (lv_at hl 0 rfl) ?_
      refine va_get (D := (dC, dI)) (ci := 10) (v := .ref rd) (C := RX10) (T := TX10) (N := 14) hx hb hg inG10 hown hK.1 hP 0 rfl rfl 0 (by decide) (hg _ wt_302) (fun _ h9 => h9) rfl dX10_end_21 ?_
      refine va_getN (D := (dC, dI)) (ci := 5) (v := .ref tp) (C := RX5) (T := TX5) (N := 12) hx hb hg inG5 hown hK.1 hP 1 rfl rfl 0 (by decide) (hK.nest wn_106) (fun _ h9 => h9) rfl dX10_end_24 ?_
      refine va_getN (D := (dC, dI)) (ci := 7) (v := .int 0) (C := RX7) (T := TX7) (N := 2) hx hb hg inG7 hown hK.1 hP 2 rfl rfl 0 (by decide) (hK.nest wn_42) (fun _ h9 => h9) rfl dX10_end_27 ?_
      refine lv_istore_n (lv' := [(2, .int 0), (0, .ref h0), (1, .int n)]) hx hb dX10_end_30 rfl hl (by decide) rfl (fun ls hl => ?_)
      refine lv_aload_n hx hb dX10_end_31 rfl (lv_at hl 1 rfl) ?_
      refine va_get (D := (dC, dI)) (ci := 10) (v := .ref rd) (C := RX10) (T := TX10) (N := 14) hx hb hg inG10 hown hK.1 hP 0 rfl rfl 0 (by decide) (hg _ wt_302) (fun _ h9 => h9) rfl dX10_end_32 ?_
      refine va_getN (D := (dC, dI)) (ci := 5) (v := .ref tp) (C := RX5) (T := TX5) (N := 12) hx hb hg inG5 hown hK.1 hP 1 rfl rfl 0 (by decide) (hK.nest wn_106) (fun _ h9 => h9) rfl dX10_end_35 ?_
      refine lv_iload_n hx hb dX10_end_38 rfl (lv_at hl 2 rfl) ?_
      refine va_putN (D := (dC, dI)) (ci := 7) (v := .int n) (ty := .int) (C := RX7) (T := TX7) (N := 2) hx hb hg inG7 tyX7 tyX7_ok nmX7 hown hK.1 hP hD hS 2 rfl rfl 0 (by decide) (hK.nest wn_42) (fun _ h9 => h9) rfl (by decide +kernel) rfl rfl (Nat.le_of_ble_eq_true rfl) dX10_end_39 (fun H locs hP hD hS => ?_)
      have hP : va_P (dC, dI) vwCl [(h0, .inr (10, [.ref rd, .ref wy, .ref tr, .ref im, .ref kp, .ref od, .ref ch, .ref cr, .ref le, .ref mk, .ref tl, .ref sh, .int 0, .int 0])), (rd, .inr (5, [.ref tp, .ref td, .int 0, .int 0, .int 0, .int 0, .int 0, .int 0, .int 0, .int 0, .int 0, .int 0])), (tp, .inr (7, [.int n, .ref ta]))] H := hP
      have hD : va_D A [(h0, .inr (10, [.ref rd, .ref wy, .ref tr, .ref im, .ref kp, .ref od, .ref ch, .ref cr, .ref le, .ref mk, .ref tl, .ref sh, .int 0, .int 0])), (rd, .inr (5, [.ref tp, .ref td, .int 0, .int 0, .int 0, .int 0, .int 0, .int 0, .int 0, .int 0, .int 0, .int 0])), (tp, .inr (7, [.int n, .ref ta]))] := hD
      refine lv_iload_n hx hb dX10_end_42 rfl (lv_at hl 0 rfl) ?_
      have hpost : (0 : Int32) = if n.toInt = 0 then 0 else -1 := by
        have t_c1 := nltI c1
        have t_c2 := leI c2
        have : (0 : Int32).toInt = 0 := (by decide)
        first | rfl | ((repeat' split) <;> first | rfl | omega)
      refine W.widen (k := 0) (n := 0) (by omega) (by omega) ?_
      exact W.iret (v := 0) hx hb hr (fun t ht hW => ⟨⟨0, (), rfl, ⟨hpost, trivial⟩, trivial⟩, hS.F ht⟩) hS.2.2 dX10_end_43
    · skip
      refine lv_iconst (v := (-1)) hx hb dX10_end_18 (by decide) ?_
      have hpost : ((-1) : Int32) = if n.toInt = 0 then 0 else -1 := by
        have t_c1 := nltI c1
        have t_c2 := nleI c2
        have : (0 : Int32).toInt = 0 := (by decide)
        first | rfl | ((repeat' split) <;> first | rfl | omega)
      refine W.widen (k := 0) (n := 0) (by omega) (by omega) ?_
      exact W.iret (v := (-1)) hx hb hr (fun t ht hW => ⟨⟨(-1), (), rfl, ⟨hpost, trivial⟩, trivial⟩, hS.F ht⟩) hS.2.2 dX10_end_19

set_option maxHeartbeats 4000000 in
set_option maxRecDepth 100000 in
theorem c_X10_text (l : Launch) (dC : Nat → ClassId) (dI : Nat → Nat → Nat) (G : Nat → ClassId) (sz : Nat) (h0 rd wy tr im kp od ch cr le mk tl sh tp td ta b1 b2 b3 b4 b5 b6 a1 a2 a3 a4 a5 a6 l1 l2 l3 l4 m1 m2 : Nat)   : Met l yX10_text (Cond.code yX10_text cX10_text 2 (some .int) :: GT) ({ frames := 3, cells := 0, slots := 0, locals := 121 } : Room) (PcW [.ref h0] dC dI G [(h0, .inr (10, [.ref rd, .ref wy, .ref tr, .ref im, .ref kp, .ref od, .ref ch, .ref cr, .ref le, .ref mk, .ref tl, .ref sh, .int 0, .int 0])), (rd, .inr (5, [.ref tp, .ref td, .int 0, .int 0, .int 0, .int 0, .int 0, .int 0, .int 0, .int 0, .int 0, .int 0])), (tp, .inr (7, [.int 0, .ref ta])), (td, .inr (9, [.int 0, .int 0, .int 5, .ref b1, .ref b2, .ref b3, .ref b4, .ref b5, .ref b6])), (b1, .inl (G 0, 10, .inl (fun _ => 0))), (b2, .inl (G 0, 10, .inl (fun _ => 0))), (b3, .inl (G 0, 10, .inl (fun _ => 0))), (b4, .inl (G 0, 6, .inl (fun _ => 0))), (b5, .inl (G 0, 6, .inl (fun _ => 0))), (b6, .inl (G 0, 6, .inl (fun _ => 0))), (wy, .inr (9, [.int 0, .int 0, .int 5, .ref a1, .ref a2, .ref a3, .ref a4, .ref a5, .ref a6])), (a1, .inl (G 0, 10, .inl (fun _ => 0))), (a2, .inl (G 0, 10, .inl (fun _ => 0))), (a3, .inl (G 0, 10, .inl (fun _ => 0))), (a4, .inl (G 0, 6, .inl (fun _ => 0))), (a5, .inl (G 0, 6, .inl (fun _ => 0))), (a6, .inl (G 0, 6, .inl (fun _ => 0))), (le, .inr (2, [.int 0, .ref l1, .ref l2, .ref l3, .ref l4])), (mk, .inr (3, [.int 0, .ref m1, .ref m2])), (kp, .inl (G 2, 2, .inl (fun _ => 0)))] sz) (va_Qi (fun (r : Int32) (u : Unit) => match u with | _ => (r = 0) ∧ True) (fun _ _ => True) (va_A [(h0, .inr (10, [.ref rd, .ref wy, .ref tr, .ref im, .ref kp, .ref od, .ref ch, .ref cr, .ref le, .ref mk, .ref tl, .ref sh, .int 0, .int 0])), (rd, .inr (5, [.ref tp, .ref td, .int 0, .int 0, .int 0, .int 0, .int 0, .int 0, .int 0, .int 0, .int 0, .int 0])), (tp, .inr (7, [.int 0, .ref ta])), (td, .inr (9, [.int 0, .int 0, .int 5, .ref b1, .ref b2, .ref b3, .ref b4, .ref b5, .ref b6])), (b1, .inl (G 0, 10, .inl (fun _ => 0))), (b2, .inl (G 0, 10, .inl (fun _ => 0))), (b3, .inl (G 0, 10, .inl (fun _ => 0))), (b4, .inl (G 0, 6, .inl (fun _ => 0))), (b5, .inl (G 0, 6, .inl (fun _ => 0))), (b6, .inl (G 0, 6, .inl (fun _ => 0))), (wy, .inr (9, [.int 0, .int 0, .int 5, .ref a1, .ref a2, .ref a3, .ref a4, .ref a5, .ref a6])), (a1, .inl (G 0, 10, .inl (fun _ => 0))), (a2, .inl (G 0, 10, .inl (fun _ => 0))), (a3, .inl (G 0, 10, .inl (fun _ => 0))), (a4, .inl (G 0, 6, .inl (fun _ => 0))), (a5, .inl (G 0, 6, .inl (fun _ => 0))), (a6, .inl (G 0, 6, .inl (fun _ => 0))), (le, .inr (2, [.int 0, .ref l1, .ref l2, .ref l3, .ref l4])), (mk, .inr (3, [.int 0, .ref m1, .ref m2])), (kp, .inl (G 2, 2, .inl (fun _ => 0)))] sz)) 0 0 (va_A [(h0, .inr (10, [.ref rd, .ref wy, .ref tr, .ref im, .ref kp, .ref od, .ref ch, .ref cr, .ref le, .ref mk, .ref tl, .ref sh, .int 0, .int 0])), (rd, .inr (5, [.ref tp, .ref td, .int 0, .int 0, .int 0, .int 0, .int 0, .int 0, .int 0, .int 0, .int 0, .int 0])), (tp, .inr (7, [.int 0, .ref ta])), (td, .inr (9, [.int 0, .int 0, .int 5, .ref b1, .ref b2, .ref b3, .ref b4, .ref b5, .ref b6])), (b1, .inl (G 0, 10, .inl (fun _ => 0))), (b2, .inl (G 0, 10, .inl (fun _ => 0))), (b3, .inl (G 0, 10, .inl (fun _ => 0))), (b4, .inl (G 0, 6, .inl (fun _ => 0))), (b5, .inl (G 0, 6, .inl (fun _ => 0))), (b6, .inl (G 0, 6, .inl (fun _ => 0))), (wy, .inr (9, [.int 0, .int 0, .int 5, .ref a1, .ref a2, .ref a3, .ref a4, .ref a5, .ref a6])), (a1, .inl (G 0, 10, .inl (fun _ => 0))), (a2, .inl (G 0, 10, .inl (fun _ => 0))), (a3, .inl (G 0, 10, .inl (fun _ => 0))), (a4, .inl (G 0, 6, .inl (fun _ => 0))), (a5, .inl (G 0, 6, .inl (fun _ => 0))), (a6, .inl (G 0, 6, .inl (fun _ => 0))), (le, .inr (2, [.int 0, .ref l1, .ref l2, .ref l3, .ref l4])), (mk, .inr (3, [.int 0, .ref m1, .ref m2])), (kp, .inl (G 2, 2, .inl (fun _ => 0)))] sz) := by
  refine Met.ofW (cc := cX10_text) (maxL := 2) (ret := (some .int)) (by decide) rfl ?_
  intro p e s m args below meth c s₁ B hml hv
  obtain ⟨rfl, hsz, hP, hK, hD0⟩ := hv
  have hx := B.exec
  have hb := B.bytes
  have hr := B.returns
  have hg : ∀ w ∈ GT, w.before ([.ref h0] : List Value).toArray s = true := fun w h => atoms_spec (ws := Cond.code yX10_text cX10_text 2 (some .int) :: GT) B.pre w (List.mem_cons_of_mem _ h)
  have hown : s.vm.findClass RX10 = some m.cls := findClass_of_methodNamed B.named
  have hlocks := B.notSynchronized
  subst hsz
  have hD := hD0.self (sz := s.heap.size)
  generalize hAe : va_A [(h0, .inr (10, [.ref rd, .ref wy, .ref tr, .ref im, .ref kp, .ref od, .ref ch, .ref cr, .ref le, .ref mk, .ref tl, .ref sh, .int 0, .int 0])), (rd, .inr (5, [.ref tp, .ref td, .int 0, .int 0, .int 0, .int 0, .int 0, .int 0, .int 0, .int 0, .int 0, .int 0])), (tp, .inr (7, [.int 0, .ref ta])), (td, .inr (9, [.int 0, .int 0, .int 5, .ref b1, .ref b2, .ref b3, .ref b4, .ref b5, .ref b6])), (b1, .inl (G 0, 10, .inl (fun _ => 0))), (b2, .inl (G 0, 10, .inl (fun _ => 0))), (b3, .inl (G 0, 10, .inl (fun _ => 0))), (b4, .inl (G 0, 6, .inl (fun _ => 0))), (b5, .inl (G 0, 6, .inl (fun _ => 0))), (b6, .inl (G 0, 6, .inl (fun _ => 0))), (wy, .inr (9, [.int 0, .int 0, .int 5, .ref a1, .ref a2, .ref a3, .ref a4, .ref a5, .ref a6])), (a1, .inl (G 0, 10, .inl (fun _ => 0))), (a2, .inl (G 0, 10, .inl (fun _ => 0))), (a3, .inl (G 0, 10, .inl (fun _ => 0))), (a4, .inl (G 0, 6, .inl (fun _ => 0))), (a5, .inl (G 0, 6, .inl (fun _ => 0))), (a6, .inl (G 0, 6, .inl (fun _ => 0))), (le, .inr (2, [.int 0, .ref l1, .ref l2, .ref l3, .ref l4])), (mk, .inr (3, [.int 0, .ref m1, .ref m2])), (kp, .inl (G 2, 2, .inl (fun _ => 0)))] s.heap.size = A at hD ⊢
  have hA : ∀ q : Nat, s.heap.size ≤ q → A q := fun q h => by rw [← hAe]; exact Or.inr h
  have hS : va_S A s.heap s.heap [] := va_S.rf
  have hl := lv_entry ([.ref h0]) (n := 2) (Nat.le_of_ble_eq_true rfl)
  rw [lg_entry_eq]
  generalize (lg_sl ([.ref h0]) ++ List.replicate (2 - (lg_sl ([.ref h0])).length) Slot.unset).toArray = ls at hl ⊢
  have hl : lv_has ls 2 [(0, .ref h0)] := hl
  refine lv_aload_n hx hb dX10_text_0 rfl (lv_at hl 0 rfl) ?_
  refine va_get (D := (dC, dI)) (ci := 10) (v := .ref rd) (C := RX10) (T := TX10) (N := 14) hx hb hg inG10 hown hK.1 hP 0 rfl rfl 0 (by decide) (hg _ wt_302) (fun _ h9 => h9) rfl dX10_text_1 ?_
  have hPc := hP.sub (ws' := [(rd, .inr (5, [.ref tp, .ref td, .int 0, .int 0, .int 0, .int 0, .int 0, .int 0, .int 0, .int 0, .int 0, .int 0])), (tp, .inr (7, [.int 0, .ref ta])), (td, .inr (9, [.int 0, .int 0, .int 5, .ref b1, .ref b2, .ref b3, .ref b4, .ref b5, .ref b6])), (b3, .inl (G 0, 10, .inl (fun _ => 0)))]) [1, 2, 3, 6] rfl
  have hDc := hD.sub (ws' := [(rd, .inr (5, [.ref tp, .ref td, .int 0, .int 0, .int 0, .int 0, .int 0, .int 0, .int 0, .int 0, .int 0, .int 0])), (tp, .inr (7, [.int 0, .ref ta])), (td, .inr (9, [.int 0, .int 0, .int 5, .ref b1, .ref b2, .ref b3, .ref b4, .ref b5, .ref b6])), (b3, .inl (G 0, 10, .inl (fun _ => 0)))]) [1, 2, 3, 6] (by decide) rfl
  have hFc := va_free (wc := [(rd, .inr (5, [.ref tp, .ref td, .int 0, .int 0, .int 0, .int 0, .int 0, .int 0, .int 0, .int 0, .int 0, .int 0])), (tp, .inr (7, [.int 0, .ref ta])), (td, .inr (9, [.int 0, .int 0, .int 5, .ref b1, .ref b2, .ref b3, .ref b4, .ref b5, .ref b6])), (b3, .inl (G 0, 10, .inl (fun _ => 0)))]) hD hS hA [1, 2, 3, 6] rfl
  refine va_callv (va_runVN (As := []) (rest := []) ⟨hx, hb, hml, hown, hg⟩ (c_X5_readAll l dC dI G _ rd tp td ta b1 b2 b3 b4 b5 b6 (fun _ => 0) ) (kwVN hg hK mfX5_readAll wn_362 ⟨Nat.le_of_ble_eq_true rfl, Nat.le_of_ble_eq_true rfl⟩) (preVW hK hPc hDc (ci := 5) rfl rfl) rfl rfl hl.1 rfl (lv_room (Nat.le_of_ble_eq_true rfl)) dX10_text_4 ⟨Nat.le_of_ble_eq_true rfl, Nat.le_of_ble_eq_true rfl⟩) hS (fun q _ h => hFc q h) hFc (fun ur1 t H1 locs ht hvm w2 hB hz1 hk1 hS => ?_)
  obtain ⟨u3, rfl⟩ : ∃ z, z = ur1 := ⟨_, rfl⟩
  obtain ⟨hP1, hD1⟩ := hB
  rw [ht] at hP1
  obtain ⟨hP, hD⟩ := va_join (wr := [(h0, .inr (10, [.ref rd, .ref wy, .ref tr, .ref im, .ref kp, .ref od, .ref ch, .ref cr, .ref le, .ref mk, .ref tl, .ref sh, .int 0, .int 0])), (b1, .inl (G 0, 10, .inl (fun _ => 0))), (b2, .inl (G 0, 10, .inl (fun _ => 0))), (b4, .inl (G 0, 6, .inl (fun _ => 0))), (b5, .inl (G 0, 6, .inl (fun _ => 0))), (b6, .inl (G 0, 6, .inl (fun _ => 0))), (wy, .inr (9, [.int 0, .int 0, .int 5, .ref a1, .ref a2, .ref a3, .ref a4, .ref a5, .ref a6])), (a1, .inl (G 0, 10, .inl (fun _ => 0))), (a2, .inl (G 0, 10, .inl (fun _ => 0))), (a3, .inl (G 0, 10, .inl (fun _ => 0))), (a4, .inl (G 0, 6, .inl (fun _ => 0))), (a5, .inl (G 0, 6, .inl (fun _ => 0))), (a6, .inl (G 0, 6, .inl (fun _ => 0))), (le, .inr (2, [.int 0, .ref l1, .ref l2, .ref l3, .ref l4])), (mk, .inr (3, [.int 0, .ref m1, .ref m2])), (kp, .inl (G 2, 2, .inl (fun _ => 0)))]) (w1 := [(rd, .inr (5, [.ref tp, .ref td, .int 0, .int 0, .int 0, .int 0, .int 0, .int 0, .int 0, .int 0, .int (-4), .int (-4)])), (tp, .inr (7, [.int 0, .ref ta])), (td, .inr (9, [.int 0, .int 0, .int 5, .ref b1, .ref b2, .ref b3, .ref b4, .ref b5, .ref b6])), (b3, .inl (G 0, 10, .inl u3))]) hP hD [1, 2, 3, 6] [0, 4, 5, 7, 8, 9, 10, 11, 12, 13, 14, 15, 16, 17, 18, 19] rfl rfl (by decide) (by decide) hk1 hFc hP1 hD1
  generalize H1 = H at hP hS ⊢
  have hP : va_P (dC, dI) vwCl [(h0, .inr (10, [.ref rd, .ref wy, .ref tr, .ref im, .ref kp, .ref od, .ref ch, .ref cr, .ref le, .ref mk, .ref tl, .ref sh, .int 0, .int 0])), (b1, .inl (G 0, 10, .inl (fun _ => 0))), (b2, .inl (G 0, 10, .inl (fun _ => 0))), (b4, .inl (G 0, 6, .inl (fun _ => 0))), (b5, .inl (G 0, 6, .inl (fun _ => 0))), (b6, .inl (G 0, 6, .inl (fun _ => 0))), (wy, .inr (9, [.int 0, .int 0, .int 5, .ref a1, .ref a2, .ref a3, .ref a4, .ref a5, .ref a6])), (a1, .inl (G 0, 10, .inl (fun _ => 0))), (a2, .inl (G 0, 10, .inl (fun _ => 0))), (a3, .inl (G 0, 10, .inl (fun _ => 0))), (a4, .inl (G 0, 6, .inl (fun _ => 0))), (a5, .inl (G 0, 6, .inl (fun _ => 0))), (a6, .inl (G 0, 6, .inl (fun _ => 0))), (le, .inr (2, [.int 0, .ref l1, .ref l2, .ref l3, .ref l4])), (mk, .inr (3, [.int 0, .ref m1, .ref m2])), (kp, .inl (G 2, 2, .inl (fun _ => 0))), (rd, .inr (5, [.ref tp, .ref td, .int 0, .int 0, .int 0, .int 0, .int 0, .int 0, .int 0, .int 0, .int (-4), .int (-4)])), (tp, .inr (7, [.int 0, .ref ta])), (td, .inr (9, [.int 0, .int 0, .int 5, .ref b1, .ref b2, .ref b3, .ref b4, .ref b5, .ref b6])), (b3, .inl (G 0, 10, .inl u3))] H := hP
  have hD : va_D A [(h0, .inr (10, [.ref rd, .ref wy, .ref tr, .ref im, .ref kp, .ref od, .ref ch, .ref cr, .ref le, .ref mk, .ref tl, .ref sh, .int 0, .int 0])), (b1, .inl (G 0, 10, .inl (fun _ => 0))), (b2, .inl (G 0, 10, .inl (fun _ => 0))), (b4, .inl (G 0, 6, .inl (fun _ => 0))), (b5, .inl (G 0, 6, .inl (fun _ => 0))), (b6, .inl (G 0, 6, .inl (fun _ => 0))), (wy, .inr (9, [.int 0, .int 0, .int 5, .ref a1, .ref a2, .ref a3, .ref a4, .ref a5, .ref a6])), (a1, .inl (G 0, 10, .inl (fun _ => 0))), (a2, .inl (G 0, 10, .inl (fun _ => 0))), (a3, .inl (G 0, 10, .inl (fun _ => 0))), (a4, .inl (G 0, 6, .inl (fun _ => 0))), (a5, .inl (G 0, 6, .inl (fun _ => 0))), (a6, .inl (G 0, 6, .inl (fun _ => 0))), (le, .inr (2, [.int 0, .ref l1, .ref l2, .ref l3, .ref l4])), (mk, .inr (3, [.int 0, .ref m1, .ref m2])), (kp, .inl (G 2, 2, .inl (fun _ => 0))), (rd, .inr (5, [.ref tp, .ref td, .int 0, .int 0, .int 0, .int 0, .int 0, .int 0, .int 0, .int 0, .int (-4), .int (-4)])), (tp, .inr (7, [.int 0, .ref ta])), (td, .inr (9, [.int 0, .int 0, .int 5, .ref b1, .ref b2, .ref b3, .ref b4, .ref b5, .ref b6])), (b3, .inl (G 0, 10, .inl u3))] := hD
  refine lv_aload_n hx hb dX10_text_7 rfl (lv_at hl 0 rfl) ?_
  refine va_get (D := (dC, dI)) (ci := 10) (v := .ref rd) (C := RX10) (T := TX10) (N := 14) hx hb hg inG10 hown hK.1 hP 0 rfl rfl 0 (by decide) (hg _ wt_302) (fun _ h9 => h9) rfl dX10_text_8 ?_
  refine va_getN (D := (dC, dI)) (ci := 5) (v := .ref tp) (C := RX5) (T := TX5) (N := 12) hx hb hg inG5 hown hK.1 hP 16 rfl rfl 0 (by decide) (hK.nest wn_106) (fun _ h9 => h9) rfl dX10_text_11 ?_
  refine lv_iconst (v := 0) hx hb dX10_text_14 (by decide) ?_
  refine va_putN (D := (dC, dI)) (ci := 7) (v := .int 0) (ty := .int) (C := RX7) (T := TX7) (N := 2) hx hb hg inG7 tyX7 tyX7_ok nmX7 hown hK.1 hP hD hS 17 rfl rfl 0 (by decide) (hK.nest wn_42) (fun _ h9 => h9) rfl (by decide +kernel) rfl rfl (Nat.le_of_ble_eq_true rfl) dX10_text_15 (fun H locs hP hD hS => ?_)
  have hP : va_P (dC, dI) vwCl [(h0, .inr (10, [.ref rd, .ref wy, .ref tr, .ref im, .ref kp, .ref od, .ref ch, .ref cr, .ref le, .ref mk, .ref tl, .ref sh, .int 0, .int 0])), (b1, .inl (G 0, 10, .inl (fun _ => 0))), (b2, .inl (G 0, 10, .inl (fun _ => 0))), (b4, .inl (G 0, 6, .inl (fun _ => 0))), (b5, .inl (G 0, 6, .inl (fun _ => 0))), (b6, .inl (G 0, 6, .inl (fun _ => 0))), (wy, .inr (9, [.int 0, .int 0, .int 5, .ref a1, .ref a2, .ref a3, .ref a4, .ref a5, .ref a6])), (a1, .inl (G 0, 10, .inl (fun _ => 0))), (a2, .inl (G 0, 10, .inl (fun _ => 0))), (a3, .inl (G 0, 10, .inl (fun _ => 0))), (a4, .inl (G 0, 6, .inl (fun _ => 0))), (a5, .inl (G 0, 6, .inl (fun _ => 0))), (a6, .inl (G 0, 6, .inl (fun _ => 0))), (le, .inr (2, [.int 0, .ref l1, .ref l2, .ref l3, .ref l4])), (mk, .inr (3, [.int 0, .ref m1, .ref m2])), (kp, .inl (G 2, 2, .inl (fun _ => 0))), (rd, .inr (5, [.ref tp, .ref td, .int 0, .int 0, .int 0, .int 0, .int 0, .int 0, .int 0, .int 0, .int (-4), .int (-4)])), (tp, .inr (7, [.int 0, .ref ta])), (td, .inr (9, [.int 0, .int 0, .int 5, .ref b1, .ref b2, .ref b3, .ref b4, .ref b5, .ref b6])), (b3, .inl (G 0, 10, .inl u3))] H := hP
  have hD : va_D A [(h0, .inr (10, [.ref rd, .ref wy, .ref tr, .ref im, .ref kp, .ref od, .ref ch, .ref cr, .ref le, .ref mk, .ref tl, .ref sh, .int 0, .int 0])), (b1, .inl (G 0, 10, .inl (fun _ => 0))), (b2, .inl (G 0, 10, .inl (fun _ => 0))), (b4, .inl (G 0, 6, .inl (fun _ => 0))), (b5, .inl (G 0, 6, .inl (fun _ => 0))), (b6, .inl (G 0, 6, .inl (fun _ => 0))), (wy, .inr (9, [.int 0, .int 0, .int 5, .ref a1, .ref a2, .ref a3, .ref a4, .ref a5, .ref a6])), (a1, .inl (G 0, 10, .inl (fun _ => 0))), (a2, .inl (G 0, 10, .inl (fun _ => 0))), (a3, .inl (G 0, 10, .inl (fun _ => 0))), (a4, .inl (G 0, 6, .inl (fun _ => 0))), (a5, .inl (G 0, 6, .inl (fun _ => 0))), (a6, .inl (G 0, 6, .inl (fun _ => 0))), (le, .inr (2, [.int 0, .ref l1, .ref l2, .ref l3, .ref l4])), (mk, .inr (3, [.int 0, .ref m1, .ref m2])), (kp, .inl (G 2, 2, .inl (fun _ => 0))), (rd, .inr (5, [.ref tp, .ref td, .int 0, .int 0, .int 0, .int 0, .int 0, .int 0, .int 0, .int 0, .int (-4), .int (-4)])), (tp, .inr (7, [.int 0, .ref ta])), (td, .inr (9, [.int 0, .int 0, .int 5, .ref b1, .ref b2, .ref b3, .ref b4, .ref b5, .ref b6])), (b3, .inl (G 0, 10, .inl u3))] := hD
  refine lv_aload_n hx hb dX10_text_18 rfl (lv_at hl 0 rfl) ?_
  refine lv_aload_n hx hb dX10_text_19 rfl (lv_at hl 0 rfl) ?_
  refine va_get (D := (dC, dI)) (ci := 10) (v := .ref rd) (C := RX10) (T := TX10) (N := 14) hx hb hg inG10 hown hK.1 hP 0 rfl rfl 0 (by decide) (hg _ wt_302) (fun _ h9 => h9) rfl dX10_text_20 ?_
  refine va_getN (D := (dC, dI)) (ci := 5) (v := .int 0) (C := RX5) (T := TX5) (N := 12) hx hb hg inG5 hown hK.1 hP 16 rfl rfl 2 (by decide) (hK.nest wn_110) (fun _ h9 => h9) rfl dX10_text_23 ?_
  refine va_put (D := (dC, dI)) (ci := 10) (v := .int 0) (ty := .int) (C := RX10) (T := TX10) (N := 14) hx hb hg inG10 tyX10 tyX10_ok nmX10 hown hK.1 hP hD hS 0 rfl rfl 12 (by decide) (hg _ wt_314) (fun _ h9 => h9) rfl (by decide +kernel) rfl rfl (Nat.le_of_ble_eq_true rfl) dX10_text_26 (fun H locs hP hD hS => ?_)
  have hP : va_P (dC, dI) vwCl [(h0, .inr (10, [.ref rd, .ref wy, .ref tr, .ref im, .ref kp, .ref od, .ref ch, .ref cr, .ref le, .ref mk, .ref tl, .ref sh, .int 0, .int 0])), (b1, .inl (G 0, 10, .inl (fun _ => 0))), (b2, .inl (G 0, 10, .inl (fun _ => 0))), (b4, .inl (G 0, 6, .inl (fun _ => 0))), (b5, .inl (G 0, 6, .inl (fun _ => 0))), (b6, .inl (G 0, 6, .inl (fun _ => 0))), (wy, .inr (9, [.int 0, .int 0, .int 5, .ref a1, .ref a2, .ref a3, .ref a4, .ref a5, .ref a6])), (a1, .inl (G 0, 10, .inl (fun _ => 0))), (a2, .inl (G 0, 10, .inl (fun _ => 0))), (a3, .inl (G 0, 10, .inl (fun _ => 0))), (a4, .inl (G 0, 6, .inl (fun _ => 0))), (a5, .inl (G 0, 6, .inl (fun _ => 0))), (a6, .inl (G 0, 6, .inl (fun _ => 0))), (le, .inr (2, [.int 0, .ref l1, .ref l2, .ref l3, .ref l4])), (mk, .inr (3, [.int 0, .ref m1, .ref m2])), (kp, .inl (G 2, 2, .inl (fun _ => 0))), (rd, .inr (5, [.ref tp, .ref td, .int 0, .int 0, .int 0, .int 0, .int 0, .int 0, .int 0, .int 0, .int (-4), .int (-4)])), (tp, .inr (7, [.int 0, .ref ta])), (td, .inr (9, [.int 0, .int 0, .int 5, .ref b1, .ref b2, .ref b3, .ref b4, .ref b5, .ref b6])), (b3, .inl (G 0, 10, .inl u3))] H := hP
  have hD : va_D A [(h0, .inr (10, [.ref rd, .ref wy, .ref tr, .ref im, .ref kp, .ref od, .ref ch, .ref cr, .ref le, .ref mk, .ref tl, .ref sh, .int 0, .int 0])), (b1, .inl (G 0, 10, .inl (fun _ => 0))), (b2, .inl (G 0, 10, .inl (fun _ => 0))), (b4, .inl (G 0, 6, .inl (fun _ => 0))), (b5, .inl (G 0, 6, .inl (fun _ => 0))), (b6, .inl (G 0, 6, .inl (fun _ => 0))), (wy, .inr (9, [.int 0, .int 0, .int 5, .ref a1, .ref a2, .ref a3, .ref a4, .ref a5, .ref a6])), (a1, .inl (G 0, 10, .inl (fun _ => 0))), (a2, .inl (G 0, 10, .inl (fun _ => 0))), (a3, .inl (G 0, 10, .inl (fun _ => 0))), (a4, .inl (G 0, 6, .inl (fun _ => 0))), (a5, .inl (G 0, 6, .inl (fun _ => 0))), (a6, .inl (G 0, 6, .inl (fun _ => 0))), (le, .inr (2, [.int 0, .ref l1, .ref l2, .ref l3, .ref l4])), (mk, .inr (3, [.int 0, .ref m1, .ref m2])), (kp, .inl (G 2, 2, .inl (fun _ => 0))), (rd, .inr (5, [.ref tp, .ref td, .int 0, .int 0, .int 0, .int 0, .int 0, .int 0, .int 0, .int 0, .int (-4), .int (-4)])), (tp, .inr (7, [.int 0, .ref ta])), (td, .inr (9, [.int 0, .int 0, .int 5, .ref b1, .ref b2, .ref b3, .ref b4, .ref b5, .ref b6])), (b3, .inl (G 0, 10, .inl u3))] := hD
  refine lv_aload_n hx hb dX10_text_29 rfl (lv_at hl 0 rfl) ?_
  refine va_get (D := (dC, dI)) (ci := 10) (v := .int 0) (C := RX10) (T := TX10) (N := 14) hx hb hg inG10 hown hK.1 hP 0 rfl rfl 12 (by decide) (hg _ wt_314) (fun _ h9 => h9) rfl dX10_text_30 ?_
  refine lv_if_eq (tgt := 47) hx hb dX10_text_33 (by decide) (fun c4 => ?_) (fun c4 => ?_)
  · skip
    refine lv_aload_n hx hb dX10_text_47 rfl (lv_at hl 0 rfl) ?_
    refine va_get (D := (dC, dI)) (ci := 10) (v := .ref wy) (C := RX10) (T := TX10) (N := 14) hx hb hg inG10 hown hK.1 hP 0 rfl rfl 1 (by decide) (hg _ wt_303) (fun _ h9 => h9) rfl dX10_text_48 ?_
    refine lv_aload_n hx hb dX10_text_51 rfl (lv_at hl 0 rfl) ?_
    refine va_get (D := (dC, dI)) (ci := 10) (v := .ref rd) (C := RX10) (T := TX10) (N := 14) hx hb hg inG10 hown hK.1 hP 0 rfl rfl 0 (by decide) (hg _ wt_302) (fun _ h9 => h9) rfl dX10_text_52 ?_
    refine va_getN (D := (dC, dI)) (ci := 5) (v := .ref td) (C := RX5) (T := TX5) (N := 12) hx hb hg inG5 hown hK.1 hP 16 rfl rfl 1 (by decide) (hK.nest wn_108) (fun _ h9 => h9) rfl dX10_text_55 ?_
    have hPc := hP.sub (ws' := [(wy, .inr (9, [.int 0, .int 0, .int 5, .ref a1, .ref a2, .ref a3, .ref a4, .ref a5, .ref a6])), (a1, .inl (G 0, 10, .inl (fun _ => 0))), (a2, .inl (G 0, 10, .inl (fun _ => 0))), (a3, .inl (G 0, 10, .inl (fun _ => 0))), (a4, .inl (G 0, 6, .inl (fun _ => 0))), (a5, .inl (G 0, 6, .inl (fun _ => 0))), (a6, .inl (G 0, 6, .inl (fun _ => 0))), (td, .inr (9, [.int 0, .int 0, .int 5, .ref b1, .ref b2, .ref b3, .ref b4, .ref b5, .ref b6])), (b1, .inl (G 0, 10, .inl (fun _ => 0))), (b2, .inl (G 0, 10, .inl (fun _ => 0))), (b3, .inl (G 0, 10, .inl u3)), (b4, .inl (G 0, 6, .inl (fun _ => 0))), (b5, .inl (G 0, 6, .inl (fun _ => 0))), (b6, .inl (G 0, 6, .inl (fun _ => 0)))]) [6, 7, 8, 9, 10, 11, 12, 18, 1, 2, 19, 3, 4, 5] rfl
    have hDc := hD.sub (ws' := [(wy, .inr (9, [.int 0, .int 0, .int 5, .ref a1, .ref a2, .ref a3, .ref a4, .ref a5, .ref a6])), (a1, .inl (G 0, 10, .inl (fun _ => 0))), (a2, .inl (G 0, 10, .inl (fun _ => 0))), (a3, .inl (G 0, 10, .inl (fun _ => 0))), (a4, .inl (G 0, 6, .inl (fun _ => 0))), (a5, .inl (G 0, 6, .inl (fun _ => 0))), (a6, .inl (G 0, 6, .inl (fun _ => 0))), (td, .inr (9, [.int 0, .int 0, .int 5, .ref b1, .ref b2, .ref b3, .ref b4, .ref b5, .ref b6])), (b1, .inl (G 0, 10, .inl (fun _ => 0))), (b2, .inl (G 0, 10, .inl (fun _ => 0))), (b3, .inl (G 0, 10, .inl u3)), (b4, .inl (G 0, 6, .inl (fun _ => 0))), (b5, .inl (G 0, 6, .inl (fun _ => 0))), (b6, .inl (G 0, 6, .inl (fun _ => 0)))]) [6, 7, 8, 9, 10, 11, 12, 18, 1, 2, 19, 3, 4, 5] (by decide) rfl
    have hFc := va_free (wc := [(wy, .inr (9, [.int 0, .int 0, .int 5, .ref a1, .ref a2, .ref a3, .ref a4, .ref a5, .ref a6])), (a1, .inl (G 0, 10, .inl (fun _ => 0))), (a2, .inl (G 0, 10, .inl (fun _ => 0))), (a3, .inl (G 0, 10, .inl (fun _ => 0))), (a4, .inl (G 0, 6, .inl (fun _ => 0))), (a5, .inl (G 0, 6, .inl (fun _ => 0))), (a6, .inl (G 0, 6, .inl (fun _ => 0))), (td, .inr (9, [.int 0, .int 0, .int 5, .ref b1, .ref b2, .ref b3, .ref b4, .ref b5, .ref b6])), (b1, .inl (G 0, 10, .inl (fun _ => 0))), (b2, .inl (G 0, 10, .inl (fun _ => 0))), (b3, .inl (G 0, 10, .inl u3)), (b4, .inl (G 0, 6, .inl (fun _ => 0))), (b5, .inl (G 0, 6, .inl (fun _ => 0))), (b6, .inl (G 0, 6, .inl (fun _ => 0)))]) hD hS hA [6, 7, 8, 9, 10, 11, 12, 18, 1, 2, 19, 3, 4, 5] rfl
    refine va_callv (va_runVN (As := [.ref td]) (rest := []) ⟨hx, hb, hml, hown, hg⟩ (c_X9_copyOf l dC dI G _ wy td a1 a2 a3 a4 a5 a6 b1 b2 b3 b4 b5 b6 0 0 5 0 0 5 (fun _ => 0) (fun _ => 0) (fun _ => 0) (fun _ => 0) (fun _ => 0) (fun _ => 0) (fun _ => 0) (fun _ => 0) u3 (fun _ => 0) (fun _ => 0) (fun _ => 0) ) (kwVN hg hK mfX9_copyOf wn_507 ⟨Nat.le_of_ble_eq_true rfl, Nat.le_of_ble_eq_true rfl⟩) (preVW hK hPc hDc (ci := 9) rfl rfl) rfl rfl hl.1 rfl (lv_room (Nat.le_of_ble_eq_true rfl)) dX10_text_58 ⟨Nat.le_of_ble_eq_true rfl, Nat.le_of_ble_eq_true rfl⟩) hS (fun q _ h => hFc q h) hFc (fun ur5 t H1 locs ht hvm w6 hB hz1 hk1 hS => ?_)
    obtain ⟨hP1, hD1⟩ := hB
    rw [ht] at hP1
    obtain ⟨hP, hD⟩ := va_join (wr := [(h0, .inr (10, [.ref rd, .ref wy, .ref tr, .ref im, .ref kp, .ref od, .ref ch, .ref cr, .ref le, .ref mk, .ref tl, .ref sh, .int 0, .int 0])), (le, .inr (2, [.int 0, .ref l1, .ref l2, .ref l3, .ref l4])), (mk, .inr (3, [.int 0, .ref m1, .ref m2])), (kp, .inl (G 2, 2, .inl (fun _ => 0))), (rd, .inr (5, [.ref tp, .ref td, .int 0, .int 0, .int 0, .int 0, .int 0, .int 0, .int 0, .int 0, .int (-4), .int (-4)])), (tp, .inr (7, [.int 0, .ref ta]))]) (w1 := [(td, .inr (9, [.int 0, .int 0, .int 5, .ref b1, .ref b2, .ref b3, .ref b4, .ref b5, .ref b6]))]) hP hD [6, 7, 8, 9, 10, 11, 12, 18, 1, 2, 19, 3, 4, 5] [0, 13, 14, 15, 16, 17] rfl rfl (by decide) (by decide) hk1 hFc hP1 hD1
    generalize H1 = H at hP hS ⊢
    have hP : va_P (dC, dI) vwCl [(h0, .inr (10, [.ref rd, .ref wy, .ref tr, .ref im, .ref kp, .ref od, .ref ch, .ref cr, .ref le, .ref mk, .ref tl, .ref sh, .int 0, .int 0])), (le, .inr (2, [.int 0, .ref l1, .ref l2, .ref l3, .ref l4])), (mk, .inr (3, [.int 0, .ref m1, .ref m2])), (kp, .inl (G 2, 2, .inl (fun _ => 0))), (rd, .inr (5, [.ref tp, .ref td, .int 0, .int 0, .int 0, .int 0, .int 0, .int 0, .int 0, .int 0, .int (-4), .int (-4)])), (tp, .inr (7, [.int 0, .ref ta])), (td, .inr (9, [.int 0, .int 0, .int 5, .ref b1, .ref b2, .ref b3, .ref b4, .ref b5, .ref b6]))] H := hP
    have hD : va_D A [(h0, .inr (10, [.ref rd, .ref wy, .ref tr, .ref im, .ref kp, .ref od, .ref ch, .ref cr, .ref le, .ref mk, .ref tl, .ref sh, .int 0, .int 0])), (le, .inr (2, [.int 0, .ref l1, .ref l2, .ref l3, .ref l4])), (mk, .inr (3, [.int 0, .ref m1, .ref m2])), (kp, .inl (G 2, 2, .inl (fun _ => 0))), (rd, .inr (5, [.ref tp, .ref td, .int 0, .int 0, .int 0, .int 0, .int 0, .int 0, .int 0, .int 0, .int (-4), .int (-4)])), (tp, .inr (7, [.int 0, .ref ta])), (td, .inr (9, [.int 0, .int 0, .int 5, .ref b1, .ref b2, .ref b3, .ref b4, .ref b5, .ref b6]))] := hD
    refine lv_aload_n hx hb dX10_text_61 rfl (lv_at hl 0 rfl) ?_
    refine va_get (D := (dC, dI)) (ci := 10) (v := .ref le) (C := RX10) (T := TX10) (N := 14) hx hb hg inG10 hown hK.1 hP 0 rfl rfl 8 (by decide) (hg _ wt_310) (fun _ h9 => h9) rfl dX10_text_62 ?_
    refine lv_iconst (v := 0) hx hb dX10_text_65 (by decide) ?_
    refine va_putN (D := (dC, dI)) (ci := 2) (v := .int 0) (ty := .int) (C := RX2) (T := TX2) (N := 5) hx hb hg inG2 tyX2 tyX2_ok nmX2 hown hK.1 hP hD hS 1 rfl rfl 0 (by decide) (hK.nest wn_218) (fun _ h9 => h9) rfl (by decide +kernel) rfl rfl (Nat.le_of_ble_eq_true rfl) dX10_text_66 (fun H locs hP hD hS => ?_)
    have hP : va_P (dC, dI) vwCl [(h0, .inr (10, [.ref rd, .ref wy, .ref tr, .ref im, .ref kp, .ref od, .ref ch, .ref cr, .ref le, .ref mk, .ref tl, .ref sh, .int 0, .int 0])), (le, .inr (2, [.int 0, .ref l1, .ref l2, .ref l3, .ref l4])), (mk, .inr (3, [.int 0, .ref m1, .ref m2])), (kp, .inl (G 2, 2, .inl (fun _ => 0))), (rd, .inr (5, [.ref tp, .ref td, .int 0, .int 0, .int 0, .int 0, .int 0, .int 0, .int 0, .int 0, .int (-4), .int (-4)])), (tp, .inr (7, [.int 0, .ref ta])), (td, .inr (9, [.int 0, .int 0, .int 5, .ref b1, .ref b2, .ref b3, .ref b4, .ref b5, .ref b6]))] H := hP
    have hD : va_D A [(h0, .inr (10, [.ref rd, .ref wy, .ref tr, .ref im, .ref kp, .ref od, .ref ch, .ref cr, .ref le, .ref mk, .ref tl, .ref sh, .int 0, .int 0])), (le, .inr (2, [.int 0, .ref l1, .ref l2, .ref l3, .ref l4])), (mk, .inr (3, [.int 0, .ref m1, .ref m2])), (kp, .inl (G 2, 2, .inl (fun _ => 0))), (rd, .inr (5, [.ref tp, .ref td, .int 0, .int 0, .int 0, .int 0, .int 0, .int 0, .int 0, .int 0, .int (-4), .int (-4)])), (tp, .inr (7, [.int 0, .ref ta])), (td, .inr (9, [.int 0, .int 0, .int 5, .ref b1, .ref b2, .ref b3, .ref b4, .ref b5, .ref b6]))] := hD
    refine lv_aload_n hx hb dX10_text_69 rfl (lv_at hl 0 rfl) ?_
    refine va_get (D := (dC, dI)) (ci := 10) (v := .ref mk) (C := RX10) (T := TX10) (N := 14) hx hb hg inG10 hown hK.1 hP 0 rfl rfl 9 (by decide) (hg _ wt_311) (fun _ h9 => h9) rfl dX10_text_70 ?_
    refine lv_iconst (v := 0) hx hb dX10_text_73 (by decide) ?_
    refine va_putN (D := (dC, dI)) (ci := 3) (v := .int 0) (ty := .int) (C := RX3) (T := TX3) (N := 3) hx hb hg inG3 tyX3 tyX3_ok nmX3 hown hK.1 hP hD hS 2 rfl rfl 0 (by decide) (hK.nest wn_241) (fun _ h9 => h9) rfl (by decide +kernel) rfl rfl (Nat.le_of_ble_eq_true rfl) dX10_text_74 (fun H locs hP hD hS => ?_)
    have hP : va_P (dC, dI) vwCl [(h0, .inr (10, [.ref rd, .ref wy, .ref tr, .ref im, .ref kp, .ref od, .ref ch, .ref cr, .ref le, .ref mk, .ref tl, .ref sh, .int 0, .int 0])), (le, .inr (2, [.int 0, .ref l1, .ref l2, .ref l3, .ref l4])), (mk, .inr (3, [.int 0, .ref m1, .ref m2])), (kp, .inl (G 2, 2, .inl (fun _ => 0))), (rd, .inr (5, [.ref tp, .ref td, .int 0, .int 0, .int 0, .int 0, .int 0, .int 0, .int 0, .int 0, .int (-4), .int (-4)])), (tp, .inr (7, [.int 0, .ref ta])), (td, .inr (9, [.int 0, .int 0, .int 5, .ref b1, .ref b2, .ref b3, .ref b4, .ref b5, .ref b6]))] H := hP
    have hD : va_D A [(h0, .inr (10, [.ref rd, .ref wy, .ref tr, .ref im, .ref kp, .ref od, .ref ch, .ref cr, .ref le, .ref mk, .ref tl, .ref sh, .int 0, .int 0])), (le, .inr (2, [.int 0, .ref l1, .ref l2, .ref l3, .ref l4])), (mk, .inr (3, [.int 0, .ref m1, .ref m2])), (kp, .inl (G 2, 2, .inl (fun _ => 0))), (rd, .inr (5, [.ref tp, .ref td, .int 0, .int 0, .int 0, .int 0, .int 0, .int 0, .int 0, .int 0, .int (-4), .int (-4)])), (tp, .inr (7, [.int 0, .ref ta])), (td, .inr (9, [.int 0, .int 0, .int 5, .ref b1, .ref b2, .ref b3, .ref b4, .ref b5, .ref b6]))] := hD
    refine lv_iconst (v := 0) hx hb dX10_text_77 (by decide) ?_
    refine lv_istore_n (lv' := [(1, .int 0), (0, .ref h0)]) hx hb dX10_text_78 rfl hl (by decide) rfl (fun ls hl => ?_)
    refine lv_iload_n hx hb dX10_text_79 rfl (lv_at hl 0 rfl) ?_
    refine lv_iconst (v := 2) hx hb dX10_text_80 (by decide) ?_
    refine lv_icmp_ge (tgt := 97) hx hb dX10_text_81 (by decide) (fun c7 => ?_) (fun c7 => ?_)
    · skip
      exact absurd c7 (by decide)
    · skip
      refine lv_aload_n hx hb dX10_text_84 rfl (lv_at hl 1 rfl) ?_
      refine va_get (D := (dC, dI)) (ci := 10) (v := .ref kp) (C := RX10) (T := TX10) (N := 14) hx hb hg inG10 hown hK.1 hP 0 rfl rfl 4 (by decide) (hg _ wt_306) (fun _ h9 => h9) rfl dX10_text_85 ?_
      refine lv_iload_n hx hb dX10_text_88 rfl (lv_at hl 0 rfl) ?_
      refine lv_iconst (v := 0) hx hb dX10_text_89 (by decide) ?_
      refine va_zast hx hb hK.1 hP hD hS 3 2 rfl rfl (vp_in_iff.mpr ⟨by decide, by decide⟩) dX10_text_90 (fun H locs hP hD hS => ?_)
      have hP : va_P (dC, dI) vwCl [(h0, .inr (10, [.ref rd, .ref wy, .ref tr, .ref im, .ref kp, .ref od, .ref ch, .ref cr, .ref le, .ref mk, .ref tl, .ref sh, .int 0, .int 0])), (le, .inr (2, [.int 0, .ref l1, .ref l2, .ref l3, .ref l4])), (mk, .inr (3, [.int 0, .ref m1, .ref m2])), (kp, .inl (G 2, 2, .inl (upd (fun _ => 0) 0 0))), (rd, .inr (5, [.ref tp, .ref td, .int 0, .int 0, .int 0, .int 0, .int 0, .int 0, .int 0, .int 0, .int (-4), .int (-4)])), (tp, .inr (7, [.int 0, .ref ta])), (td, .inr (9, [.int 0, .int 0, .int 5, .ref b1, .ref b2, .ref b3, .ref b4, .ref b5, .ref b6]))] H := hP
      have hD : va_D A [(h0, .inr (10, [.ref rd, .ref wy, .ref tr, .ref im, .ref kp, .ref od, .ref ch, .ref cr, .ref le, .ref mk, .ref tl, .ref sh, .int 0, .int 0])), (le, .inr (2, [.int 0, .ref l1, .ref l2, .ref l3, .ref l4])), (mk, .inr (3, [.int 0, .ref m1, .ref m2])), (kp, .inl (G 2, 2, .inl (upd (fun _ => 0) 0 0))), (rd, .inr (5, [.ref tp, .ref td, .int 0, .int 0, .int 0, .int 0, .int 0, .int 0, .int 0, .int 0, .int (-4), .int (-4)])), (tp, .inr (7, [.int 0, .ref ta])), (td, .inr (9, [.int 0, .int 0, .int 5, .ref b1, .ref b2, .ref b3, .ref b4, .ref b5, .ref b6]))] := hD
      refine lv_iinc (v := 1) (lv' := [(1, .int 1), (0, .ref h0)]) hx hb dX10_text_91 hl (k := 0) rfl (by decide) (by decide) rfl (fun ls hl => ?_)
      refine lv_goto (tgt := 79) hx hb dX10_text_94 (by decide) ?_
      refine lv_iload_n hx hb dX10_text_79 rfl (lv_at hl 0 rfl) ?_
      refine lv_iconst (v := 2) hx hb dX10_text_80 (by decide) ?_
      refine lv_icmp_ge (tgt := 97) hx hb dX10_text_81 (by decide) (fun c8 => ?_) (fun c8 => ?_)
      · skip
        exact absurd c8 (by decide)
      · skip
        refine lv_aload_n hx hb dX10_text_84 rfl (lv_at hl 1 rfl) ?_
        refine va_get (D := (dC, dI)) (ci := 10) (v := .ref kp) (C := RX10) (T := TX10) (N := 14) hx hb hg inG10 hown hK.1 hP 0 rfl rfl 4 (by decide) (hg _ wt_306) (fun _ h9 => h9) rfl dX10_text_85 ?_
        refine lv_iload_n hx hb dX10_text_88 rfl (lv_at hl 0 rfl) ?_
        refine lv_iconst (v := 0) hx hb dX10_text_89 (by decide) ?_
        refine va_zast hx hb hK.1 hP hD hS 3 2 rfl rfl (vp_in_iff.mpr ⟨by decide, by decide⟩) dX10_text_90 (fun H locs hP hD hS => ?_)
        have hP : va_P (dC, dI) vwCl [(h0, .inr (10, [.ref rd, .ref wy, .ref tr, .ref im, .ref kp, .ref od, .ref ch, .ref cr, .ref le, .ref mk, .ref tl, .ref sh, .int 0, .int 0])), (le, .inr (2, [.int 0, .ref l1, .ref l2, .ref l3, .ref l4])), (mk, .inr (3, [.int 0, .ref m1, .ref m2])), (kp, .inl (G 2, 2, .inl (upd (upd (fun _ => 0) 0 0) 1 0))), (rd, .inr (5, [.ref tp, .ref td, .int 0, .int 0, .int 0, .int 0, .int 0, .int 0, .int 0, .int 0, .int (-4), .int (-4)])), (tp, .inr (7, [.int 0, .ref ta])), (td, .inr (9, [.int 0, .int 0, .int 5, .ref b1, .ref b2, .ref b3, .ref b4, .ref b5, .ref b6]))] H := hP
        have hD : va_D A [(h0, .inr (10, [.ref rd, .ref wy, .ref tr, .ref im, .ref kp, .ref od, .ref ch, .ref cr, .ref le, .ref mk, .ref tl, .ref sh, .int 0, .int 0])), (le, .inr (2, [.int 0, .ref l1, .ref l2, .ref l3, .ref l4])), (mk, .inr (3, [.int 0, .ref m1, .ref m2])), (kp, .inl (G 2, 2, .inl (upd (upd (fun _ => 0) 0 0) 1 0))), (rd, .inr (5, [.ref tp, .ref td, .int 0, .int 0, .int 0, .int 0, .int 0, .int 0, .int 0, .int 0, .int (-4), .int (-4)])), (tp, .inr (7, [.int 0, .ref ta])), (td, .inr (9, [.int 0, .int 0, .int 5, .ref b1, .ref b2, .ref b3, .ref b4, .ref b5, .ref b6]))] := hD
        refine lv_iinc (v := 2) (lv' := [(1, .int 2), (0, .ref h0)]) hx hb dX10_text_91 hl (k := 0) rfl (by decide) (by decide) rfl (fun ls hl => ?_)
        refine lv_goto (tgt := 79) hx hb dX10_text_94 (by decide) ?_
        refine lv_iload_n hx hb dX10_text_79 rfl (lv_at hl 0 rfl) ?_
        refine lv_iconst (v := 2) hx hb dX10_text_80 (by decide) ?_
        refine lv_icmp_ge (tgt := 97) hx hb dX10_text_81 (by decide) (fun c9 => ?_) (fun c9 => ?_)
        · skip
          refine lv_aload_n hx hb dX10_text_97 rfl (lv_at hl 1 rfl) ?_
          refine va_get (D := (dC, dI)) (ci := 10) (v := .ref rd) (C := RX10) (T := TX10) (N := 14) hx hb hg inG10 hown hK.1 hP 0 rfl rfl 0 (by decide) (hg _ wt_302) (fun _ h9 => h9) rfl dX10_text_98 ?_
          refine va_getN (D := (dC, dI)) (ci := 5) (v := .int 0) (C := RX5) (T := TX5) (N := 12) hx hb hg inG5 hown hK.1 hP 4 rfl rfl 4 (by decide) (hK.nest wn_114) (fun _ h9 => h9) rfl dX10_text_101 ?_
          have hpost : (0 : Int32) = 0 := by
            have t_c4 := eqI c4
            have t_c7 := nleI c7
            have t_c8 := nleI c8
            have t_c9 := leI c9
            have : (0 : Int32).toInt = 0 := (by decide)
            have : (1 : Int32).toInt = 1 := (by decide)
            have : (2 : Int32).toInt = 2 := (by decide)
            first | rfl | ((repeat' split) <;> first | rfl | omega)
          refine W.widen (k := 0) (n := 0) (by omega) (by omega) ?_
          exact W.iret (v := 0) hx hb hr (fun t ht hW => ⟨⟨0, (), rfl, ⟨hpost, trivial⟩, trivial⟩, hS.F ht⟩) hS.2.2 dX10_text_104
        · skip
          exact absurd c9 (by decide)
  · skip
    exact absurd c4 (by decide)

set_option maxHeartbeats 4000000 in
set_option maxRecDepth 100000 in
theorem c_X10_fault (l : Launch) (dC : Nat → ClassId) (dI : Nat → Nat → Nat) (G : Nat → ClassId) (sz : Nat) (h0 rd wy tr im kp od ch cr le mk tl sh : Nat)   : Met l yX10_fault (Cond.code yX10_fault cX10_fault 1 (some .int) :: GT) ({ frames := 0, cells := 0, slots := 0, locals := 0 } : Room) (PcW [.ref h0] dC dI G [(h0, .inr (10, [.ref rd, .ref wy, .ref tr, .ref im, .ref kp, .ref od, .ref ch, .ref cr, .ref le, .ref mk, .ref tl, .ref sh, .int 0, .int 0]))] sz) (va_Qi (fun (r : Int32) (u : Unit) => match u with | _ => (r = 0) ∧ True) (fun _ _ => True) (va_A [(h0, .inr (10, [.ref rd, .ref wy, .ref tr, .ref im, .ref kp, .ref od, .ref ch, .ref cr, .ref le, .ref mk, .ref tl, .ref sh, .int 0, .int 0]))] sz)) 0 0 (va_A [(h0, .inr (10, [.ref rd, .ref wy, .ref tr, .ref im, .ref kp, .ref od, .ref ch, .ref cr, .ref le, .ref mk, .ref tl, .ref sh, .int 0, .int 0]))] sz) := by
  refine Met.ofW (cc := cX10_fault) (maxL := 1) (ret := (some .int)) (by decide) rfl ?_
  intro p e s m args below meth c s₁ B hml hv
  obtain ⟨rfl, hsz, hP, hK, hD0⟩ := hv
  have hx := B.exec
  have hb := B.bytes
  have hr := B.returns
  have hg : ∀ w ∈ GT, w.before ([.ref h0] : List Value).toArray s = true := fun w h => atoms_spec (ws := Cond.code yX10_fault cX10_fault 1 (some .int) :: GT) B.pre w (List.mem_cons_of_mem _ h)
  have hown : s.vm.findClass RX10 = some m.cls := findClass_of_methodNamed B.named
  have hlocks := B.notSynchronized
  subst hsz
  have hD := hD0.self (sz := s.heap.size)
  generalize hAe : va_A [(h0, .inr (10, [.ref rd, .ref wy, .ref tr, .ref im, .ref kp, .ref od, .ref ch, .ref cr, .ref le, .ref mk, .ref tl, .ref sh, .int 0, .int 0]))] s.heap.size = A at hD ⊢
  have hA : ∀ q : Nat, s.heap.size ≤ q → A q := fun q h => by rw [← hAe]; exact Or.inr h
  have hS : va_S A s.heap s.heap [] := va_S.rf
  have hl := lv_entry ([.ref h0]) (n := 1) (Nat.le_of_ble_eq_true rfl)
  rw [lg_entry_eq]
  generalize (lg_sl ([.ref h0]) ++ List.replicate (1 - (lg_sl ([.ref h0])).length) Slot.unset).toArray = ls at hl ⊢
  have hl : lv_has ls 1 [(0, .ref h0)] := hl
  refine lv_aload_n hx hb dX10_fault_0 rfl (lv_at hl 0 rfl) ?_
  refine va_get (D := (dC, dI)) (ci := 10) (v := .int 0) (C := RX10) (T := TX10) (N := 14) hx hb hg inG10 hown hK.1 hP 0 rfl rfl 12 (by decide) (hg _ wt_314) (fun _ h9 => h9) rfl dX10_fault_1 ?_
  have hpost : (0 : Int32) = 0 := by
    first | rfl | ((repeat' split) <;> first | rfl | omega)
  refine W.widen (k := 0) (n := 0) (by omega) (by omega) ?_
  exact W.iret (v := 0) hx hb hr (fun t ht hW => ⟨⟨0, (), rfl, ⟨hpost, trivial⟩, trivial⟩, hS.F ht⟩) hS.2.2 dX10_fault_4

set_option maxHeartbeats 4000000 in
set_option maxRecDepth 100000 in
theorem c_X10_rule (l : Launch) (dC : Nat → ClassId) (dI : Nat → Nat → Nat) (G : Nat → ClassId) (sz : Nat) (h0 rd wy tr im kp od ch cr le mk tl sh a1 a2 a3 a4 a5 a6 : Nat) (what : Int32)   : Met l yX10_rule (Cond.code yX10_rule cX10_rule 2 (some .int) :: GT) ({ frames := 0, cells := 0, slots := 0, locals := 0 } : Room) (PcW [.ref h0, .int what] dC dI G [(h0, .inr (10, [.ref rd, .ref wy, .ref tr, .ref im, .ref kp, .ref od, .ref ch, .ref cr, .ref le, .ref mk, .ref tl, .ref sh, .int 0, .int 0])), (wy, .inr (9, [.int 0, .int 0, .int 5, .ref a1, .ref a2, .ref a3, .ref a4, .ref a5, .ref a6]))] sz) (va_Qi (fun (r : Int32) (u : Unit) => match u with | _ => (r = if what.toInt = 0 then 0 else if what.toInt = 1 then 0 else if what.toInt = 2 then 5 else -1) ∧ True) (fun _ _ => True) (va_A [(h0, .inr (10, [.ref rd, .ref wy, .ref tr, .ref im, .ref kp, .ref od, .ref ch, .ref cr, .ref le, .ref mk, .ref tl, .ref sh, .int 0, .int 0])), (wy, .inr (9, [.int 0, .int 0, .int 5, .ref a1, .ref a2, .ref a3, .ref a4, .ref a5, .ref a6]))] sz)) 0 0 (va_A [(h0, .inr (10, [.ref rd, .ref wy, .ref tr, .ref im, .ref kp, .ref od, .ref ch, .ref cr, .ref le, .ref mk, .ref tl, .ref sh, .int 0, .int 0])), (wy, .inr (9, [.int 0, .int 0, .int 5, .ref a1, .ref a2, .ref a3, .ref a4, .ref a5, .ref a6]))] sz) := by
  refine Met.ofW (cc := cX10_rule) (maxL := 2) (ret := (some .int)) (by decide) rfl ?_
  intro p e s m args below meth c s₁ B hml hv
  obtain ⟨rfl, hsz, hP, hK, hD0⟩ := hv
  have hx := B.exec
  have hb := B.bytes
  have hr := B.returns
  have hg : ∀ w ∈ GT, w.before ([.ref h0, .int what] : List Value).toArray s = true := fun w h => atoms_spec (ws := Cond.code yX10_rule cX10_rule 2 (some .int) :: GT) B.pre w (List.mem_cons_of_mem _ h)
  have hown : s.vm.findClass RX10 = some m.cls := findClass_of_methodNamed B.named
  have hlocks := B.notSynchronized
  subst hsz
  have hD := hD0.self (sz := s.heap.size)
  generalize hAe : va_A [(h0, .inr (10, [.ref rd, .ref wy, .ref tr, .ref im, .ref kp, .ref od, .ref ch, .ref cr, .ref le, .ref mk, .ref tl, .ref sh, .int 0, .int 0])), (wy, .inr (9, [.int 0, .int 0, .int 5, .ref a1, .ref a2, .ref a3, .ref a4, .ref a5, .ref a6]))] s.heap.size = A at hD ⊢
  have hA : ∀ q : Nat, s.heap.size ≤ q → A q := fun q h => by rw [← hAe]; exact Or.inr h
  have hS : va_S A s.heap s.heap [] := va_S.rf
  have hl := lv_entry ([.ref h0, .int what]) (n := 2) (Nat.le_of_ble_eq_true rfl)
  rw [lg_entry_eq]
  generalize (lg_sl ([.ref h0, .int what]) ++ List.replicate (2 - (lg_sl ([.ref h0, .int what])).length) Slot.unset).toArray = ls at hl ⊢
  have hl : lv_has ls 2 [(0, .ref h0), (1, .int what)] := hl
  refine lv_iload_n hx hb dX10_rule_0 rfl (lv_at hl 1 rfl) ?_
  by_cases c1 : what = 0
  · skip
    refine lv_cg c1 ?_
    refine lv_tableIn (tgt := 28) hx hb dX10_rule_1 (by decide) (by decide) rfl (by decide) ?_
    refine lv_aload_n hx hb dX10_rule_28 rfl (lv_at hl 0 rfl) ?_
    refine va_get (D := (dC, dI)) (ci := 10) (v := .ref wy) (C := RX10) (T := TX10) (N := 14) hx hb hg inG10 hown hK.1 hP 0 rfl rfl 1 (by decide) (hg _ wt_303) (fun _ h9 => h9) rfl dX10_rule_29 ?_
    refine va_getN (D := (dC, dI)) (ci := 9) (v := .int 0) (C := RX9) (T := TX9) (N := 9) hx hb hg inG9 hown hK.1 hP 1 rfl rfl 0 (by decide) (hK.nest wn_60) (fun _ h9 => h9) rfl dX10_rule_32 ?_
    have hpost : (0 : Int32) = if what.toInt = 0 then 0 else if what.toInt = 1 then 0 else if what.toInt = 2 then 5 else -1 := by
      have t_c1 := eqI c1
      have : (0 : Int32).toInt = 0 := (by decide)
      first | rfl | ((repeat' split) <;> first | rfl | omega)
    refine W.widen (k := 0) (n := 0) (by omega) (by omega) ?_
    exact W.iret (v := 0) hx hb hr (fun t ht hW => ⟨⟨0, (), rfl, ⟨hpost, trivial⟩, trivial⟩, hS.F ht⟩) hS.2.2 dX10_rule_35
  · skip
    by_cases c2 : what = 1
    · skip
      refine lv_cg c2 ?_
      refine lv_tableIn (tgt := 36) hx hb dX10_rule_1 (by decide) (by decide) rfl (by decide) ?_
      refine lv_aload_n hx hb dX10_rule_36 rfl (lv_at hl 0 rfl) ?_
      refine va_get (D := (dC, dI)) (ci := 10) (v := .ref wy) (C := RX10) (T := TX10) (N := 14) hx hb hg inG10 hown hK.1 hP 0 rfl rfl 1 (by decide) (hg _ wt_303) (fun _ h9 => h9) rfl dX10_rule_37 ?_
      refine va_getN (D := (dC, dI)) (ci := 9) (v := .int 0) (C := RX9) (T := TX9) (N := 9) hx hb hg inG9 hown hK.1 hP 1 rfl rfl 1 (by decide) (hK.nest wn_64) (fun _ h9 => h9) rfl dX10_rule_40 ?_
      have hpost : (0 : Int32) = if what.toInt = 0 then 0 else if what.toInt = 1 then 0 else if what.toInt = 2 then 5 else -1 := by
        have t_c1 := neI c1
        have t_c2 := eqI c2
        have : (0 : Int32).toInt = 0 := (by decide)
        have : (1 : Int32).toInt = 1 := (by decide)
        first | rfl | ((repeat' split) <;> first | rfl | omega)
      refine W.widen (k := 0) (n := 0) (by omega) (by omega) ?_
      exact W.iret (v := 0) hx hb hr (fun t ht hW => ⟨⟨0, (), rfl, ⟨hpost, trivial⟩, trivial⟩, hS.F ht⟩) hS.2.2 dX10_rule_43
    · skip
      by_cases c3 : what = 2
      · skip
        refine lv_cg c3 ?_
        refine lv_tableIn (tgt := 44) hx hb dX10_rule_1 (by decide) (by decide) rfl (by decide) ?_
        refine lv_aload_n hx hb dX10_rule_44 rfl (lv_at hl 0 rfl) ?_
        refine va_get (D := (dC, dI)) (ci := 10) (v := .ref wy) (C := RX10) (T := TX10) (N := 14) hx hb hg inG10 hown hK.1 hP 0 rfl rfl 1 (by decide) (hg _ wt_303) (fun _ h9 => h9) rfl dX10_rule_45 ?_
        refine va_getN (D := (dC, dI)) (ci := 9) (v := .int 5) (C := RX9) (T := TX9) (N := 9) hx hb hg inG9 hown hK.1 hP 1 rfl rfl 2 (by decide) (hK.nest wn_71) (fun _ h9 => h9) rfl dX10_rule_48 ?_
        have hpost : (5 : Int32) = if what.toInt = 0 then 0 else if what.toInt = 1 then 0 else if what.toInt = 2 then 5 else -1 := by
          have t_c1 := neI c1
          have t_c2 := neI c2
          have t_c3 := eqI c3
          have : (0 : Int32).toInt = 0 := (by decide)
          have : (1 : Int32).toInt = 1 := (by decide)
          have : (2 : Int32).toInt = 2 := (by decide)
          first | rfl | ((repeat' split) <;> first | rfl | omega)
        refine W.widen (k := 0) (n := 0) (by omega) (by omega) ?_
        exact W.iret (v := 5) hx hb hr (fun t ht hW => ⟨⟨5, (), rfl, ⟨hpost, trivial⟩, trivial⟩, hS.F ht⟩) hS.2.2 dX10_rule_51
      · skip
        refine lv_tableOut (tgt := 52) hx hb dX10_rule_1 (by have t_c1 := neI c1; have t_c2 := neI c2; have t_c3 := neI c3; have : (0 : Int32).toInt = 0 := (by decide); have : (1 : Int32).toInt = 1 := (by decide); have : (2 : Int32).toInt = 2 := (by decide); omega) (by decide) ?_
        refine lv_iconst (v := (-1)) hx hb dX10_rule_52 (by decide) ?_
        have hpost : ((-1) : Int32) = if what.toInt = 0 then 0 else if what.toInt = 1 then 0 else if what.toInt = 2 then 5 else -1 := by
          have t_c1 := neI c1
          have t_c2 := neI c2
          have t_c3 := neI c3
          have : (0 : Int32).toInt = 0 := (by decide)
          have : (1 : Int32).toInt = 1 := (by decide)
          have : (2 : Int32).toInt = 2 := (by decide)
          first | rfl | ((repeat' split) <;> first | rfl | omega)
        refine W.widen (k := 0) (n := 0) (by omega) (by omega) ?_
        exact W.iret (v := (-1)) hx hb hr (fun t ht hW => ⟨⟨(-1), (), rfl, ⟨hpost, trivial⟩, trivial⟩, hS.F ht⟩) hS.2.2 dX10_rule_53

set_option maxHeartbeats 4000000 in
set_option maxRecDepth 100000 in
theorem c_X10_stretch (l : Launch) (dC : Nat → ClassId) (dI : Nat → Nat → Nat) (G : Nat → ClassId) (sz : Nat) (h0 rd wy tr im kp od ch cr le mk tl sh a1 a2 a3 a4 a5 a6 : Nat) (i what : Int32)   : Met l yX10_stretch (Cond.code yX10_stretch cX10_stretch 3 (some .int) :: GT) ({ frames := 1, cells := 0, slots := 0, locals := 21 } : Room) (PcW [.ref h0, .int i, .int what] dC dI G [(h0, .inr (10, [.ref rd, .ref wy, .ref tr, .ref im, .ref kp, .ref od, .ref ch, .ref cr, .ref le, .ref mk, .ref tl, .ref sh, .int 0, .int 0])), (wy, .inr (9, [.int 0, .int 0, .int 5, .ref a1, .ref a2, .ref a3, .ref a4, .ref a5, .ref a6]))] sz) (va_Qi (fun (r : Int32) (u : Unit) => match u with | _ => (r = -1) ∧ True) (fun _ _ => True) (va_A [(h0, .inr (10, [.ref rd, .ref wy, .ref tr, .ref im, .ref kp, .ref od, .ref ch, .ref cr, .ref le, .ref mk, .ref tl, .ref sh, .int 0, .int 0])), (wy, .inr (9, [.int 0, .int 0, .int 5, .ref a1, .ref a2, .ref a3, .ref a4, .ref a5, .ref a6]))] sz)) 0 0 (va_A [(h0, .inr (10, [.ref rd, .ref wy, .ref tr, .ref im, .ref kp, .ref od, .ref ch, .ref cr, .ref le, .ref mk, .ref tl, .ref sh, .int 0, .int 0])), (wy, .inr (9, [.int 0, .int 0, .int 5, .ref a1, .ref a2, .ref a3, .ref a4, .ref a5, .ref a6]))] sz) := by
  refine Met.ofW (cc := cX10_stretch) (maxL := 3) (ret := (some .int)) (by decide) rfl ?_
  intro p e s m args below meth c s₁ B hml hv
  obtain ⟨rfl, hsz, hP, hK, hD0⟩ := hv
  have hx := B.exec
  have hb := B.bytes
  have hr := B.returns
  have hg : ∀ w ∈ GT, w.before ([.ref h0, .int i, .int what] : List Value).toArray s = true := fun w h => atoms_spec (ws := Cond.code yX10_stretch cX10_stretch 3 (some .int) :: GT) B.pre w (List.mem_cons_of_mem _ h)
  have hown : s.vm.findClass RX10 = some m.cls := findClass_of_methodNamed B.named
  have hlocks := B.notSynchronized
  subst hsz
  have hD := hD0.self (sz := s.heap.size)
  generalize hAe : va_A [(h0, .inr (10, [.ref rd, .ref wy, .ref tr, .ref im, .ref kp, .ref od, .ref ch, .ref cr, .ref le, .ref mk, .ref tl, .ref sh, .int 0, .int 0])), (wy, .inr (9, [.int 0, .int 0, .int 5, .ref a1, .ref a2, .ref a3, .ref a4, .ref a5, .ref a6]))] s.heap.size = A at hD ⊢
  have hA : ∀ q : Nat, s.heap.size ≤ q → A q := fun q h => by rw [← hAe]; exact Or.inr h
  have hS : va_S A s.heap s.heap [] := va_S.rf
  have hl := lv_entry ([.ref h0, .int i, .int what]) (n := 3) (Nat.le_of_ble_eq_true rfl)
  rw [lg_entry_eq]
  generalize (lg_sl ([.ref h0, .int i, .int what]) ++ List.replicate (3 - (lg_sl ([.ref h0, .int i, .int what])).length) Slot.unset).toArray = ls at hl ⊢
  have hl : lv_has ls 3 [(0, .ref h0), (1, .int i), (2, .int what)] := hl
  refine lv_aload_n hx hb dX10_stretch_0 rfl (lv_at hl 0 rfl) ?_
  refine va_get (D := (dC, dI)) (ci := 10) (v := .ref wy) (C := RX10) (T := TX10) (N := 14) hx hb hg inG10 hown hK.1 hP 0 rfl rfl 1 (by decide) (hg _ wt_303) (fun _ h9 => h9) rfl dX10_stretch_1 ?_
  refine lv_iload_n hx hb dX10_stretch_4 rfl (lv_at hl 1 rfl) ?_
  have hPc := hP.sub (ws' := [(wy, .inr (9, [.int 0, .int 0, .int 5, .ref a1, .ref a2, .ref a3, .ref a4, .ref a5, .ref a6]))]) [1] rfl
  refine va_calli (va_runVN (As := [.int i]) (rest := []) ⟨hx, hb, hml, hown, hg⟩ (c_X9_hasStretch l dC dI G _ wy a1 a2 a3 a4 a5 a6 0 0 5 i ) (kwVN hg hK mfX9_hasStretch wn_527 ⟨Nat.le_of_ble_eq_true rfl, Nat.le_of_ble_eq_true rfl⟩) (preVR hK hPc (ci := 9) rfl rfl) rfl rfl hl.1 rfl (lv_room (Nat.le_of_ble_eq_true rfl)) dX10_stretch_5 ⟨Nat.le_of_ble_eq_true rfl, Nat.le_of_ble_eq_true rfl⟩) hS (fun q h1 h2 => absurd h2 (Nat.not_le.mpr h1)) (fun q h => hA q (Nat.le_trans hS.1 h)) (fun r1 ur1 t H1 locs ht hvm w2 hB hz1 hk1 hS => ?_)
  have hP := keepR hP hk1
  obtain ⟨w2, w2x⟩ := w2
  try simp only [l_ii, show (0 : Int32).toInt = 0 from by decide, show (0 : Int32).toInt = 0 from by decide] at w2
  have w2 : r1 = 0 := w2.trans (if_neg (by omega))
  subst w2
  refine lv_if_ne (tgt := 13) hx hb dX10_stretch_8 (by decide) (fun c3 => ?_) (fun c3 => ?_)
  · skip
    exact absurd c3 (by decide)
  · skip
    refine lv_iconst (v := (-1)) hx hb dX10_stretch_11 (by decide) ?_
    have hpost : ((-1) : Int32) = -1 := by
      have t_c3 := eqI c3
      have : (0 : Int32).toInt = 0 := (by decide)
      first | rfl | ((repeat' split) <;> first | rfl | omega)
    refine W.widen (k := 0) (n := 0) (by omega) (by omega) ?_
    exact W.iret (v := (-1)) hx hb hr (fun t ht hW => ⟨⟨(-1), (), rfl, ⟨hpost, trivial⟩, trivial⟩, hS.F ht⟩) hS.2.2 dX10_stretch_12

set_option maxHeartbeats 4000000 in
set_option maxRecDepth 100000 in
theorem c_X10_bearer (l : Launch) (dC : Nat → ClassId) (dI : Nat → Nat → Nat) (G : Nat → ClassId) (sz : Nat) (h0 rd wy tr im kp od ch cr le mk tl sh a1 a2 a3 a4 a5 a6 : Nat) (i what : Int32)   : Met l yX10_bearer (Cond.code yX10_bearer cX10_bearer 3 (some .int) :: GT) ({ frames := 1, cells := 0, slots := 0, locals := 21 } : Room) (PcW [.ref h0, .int i, .int what] dC dI G [(h0, .inr (10, [.ref rd, .ref wy, .ref tr, .ref im, .ref kp, .ref od, .ref ch, .ref cr, .ref le, .ref mk, .ref tl, .ref sh, .int 0, .int 0])), (wy, .inr (9, [.int 0, .int 0, .int 5, .ref a1, .ref a2, .ref a3, .ref a4, .ref a5, .ref a6]))] sz) (va_Qi (fun (r : Int32) (u : Unit) => match u with | _ => (r = -1) ∧ True) (fun _ _ => True) (va_A [(h0, .inr (10, [.ref rd, .ref wy, .ref tr, .ref im, .ref kp, .ref od, .ref ch, .ref cr, .ref le, .ref mk, .ref tl, .ref sh, .int 0, .int 0])), (wy, .inr (9, [.int 0, .int 0, .int 5, .ref a1, .ref a2, .ref a3, .ref a4, .ref a5, .ref a6]))] sz)) 0 0 (va_A [(h0, .inr (10, [.ref rd, .ref wy, .ref tr, .ref im, .ref kp, .ref od, .ref ch, .ref cr, .ref le, .ref mk, .ref tl, .ref sh, .int 0, .int 0])), (wy, .inr (9, [.int 0, .int 0, .int 5, .ref a1, .ref a2, .ref a3, .ref a4, .ref a5, .ref a6]))] sz) := by
  refine Met.ofW (cc := cX10_bearer) (maxL := 3) (ret := (some .int)) (by decide) rfl ?_
  intro p e s m args below meth c s₁ B hml hv
  obtain ⟨rfl, hsz, hP, hK, hD0⟩ := hv
  have hx := B.exec
  have hb := B.bytes
  have hr := B.returns
  have hg : ∀ w ∈ GT, w.before ([.ref h0, .int i, .int what] : List Value).toArray s = true := fun w h => atoms_spec (ws := Cond.code yX10_bearer cX10_bearer 3 (some .int) :: GT) B.pre w (List.mem_cons_of_mem _ h)
  have hown : s.vm.findClass RX10 = some m.cls := findClass_of_methodNamed B.named
  have hlocks := B.notSynchronized
  subst hsz
  have hD := hD0.self (sz := s.heap.size)
  generalize hAe : va_A [(h0, .inr (10, [.ref rd, .ref wy, .ref tr, .ref im, .ref kp, .ref od, .ref ch, .ref cr, .ref le, .ref mk, .ref tl, .ref sh, .int 0, .int 0])), (wy, .inr (9, [.int 0, .int 0, .int 5, .ref a1, .ref a2, .ref a3, .ref a4, .ref a5, .ref a6]))] s.heap.size = A at hD ⊢
  have hA : ∀ q : Nat, s.heap.size ≤ q → A q := fun q h => by rw [← hAe]; exact Or.inr h
  have hS : va_S A s.heap s.heap [] := va_S.rf
  have hl := lv_entry ([.ref h0, .int i, .int what]) (n := 3) (Nat.le_of_ble_eq_true rfl)
  rw [lg_entry_eq]
  generalize (lg_sl ([.ref h0, .int i, .int what]) ++ List.replicate (3 - (lg_sl ([.ref h0, .int i, .int what])).length) Slot.unset).toArray = ls at hl ⊢
  have hl : lv_has ls 3 [(0, .ref h0), (1, .int i), (2, .int what)] := hl
  refine lv_aload_n hx hb dX10_bearer_0 rfl (lv_at hl 0 rfl) ?_
  refine va_get (D := (dC, dI)) (ci := 10) (v := .ref wy) (C := RX10) (T := TX10) (N := 14) hx hb hg inG10 hown hK.1 hP 0 rfl rfl 1 (by decide) (hg _ wt_303) (fun _ h9 => h9) rfl dX10_bearer_1 ?_
  refine lv_iload_n hx hb dX10_bearer_4 rfl (lv_at hl 1 rfl) ?_
  have hPc := hP.sub (ws' := [(wy, .inr (9, [.int 0, .int 0, .int 5, .ref a1, .ref a2, .ref a3, .ref a4, .ref a5, .ref a6]))]) [1] rfl
  refine va_calli (va_runVN (As := [.int i]) (rest := []) ⟨hx, hb, hml, hown, hg⟩ (c_X9_hasBearer l dC dI G _ wy a1 a2 a3 a4 a5 a6 0 0 5 i ) (kwVN hg hK mfX9_hasBearer wn_535 ⟨Nat.le_of_ble_eq_true rfl, Nat.le_of_ble_eq_true rfl⟩) (preVR hK hPc (ci := 9) rfl rfl) rfl rfl hl.1 rfl (lv_room (Nat.le_of_ble_eq_true rfl)) dX10_bearer_5 ⟨Nat.le_of_ble_eq_true rfl, Nat.le_of_ble_eq_true rfl⟩) hS (fun q h1 h2 => absurd h2 (Nat.not_le.mpr h1)) (fun q h => hA q (Nat.le_trans hS.1 h)) (fun r1 ur1 t H1 locs ht hvm w2 hB hz1 hk1 hS => ?_)
  have hP := keepR hP hk1
  obtain ⟨w2, w2x⟩ := w2
  try simp only [l_ii, show (0 : Int32).toInt = 0 from by decide, show (0 : Int32).toInt = 0 from by decide] at w2
  have w2 : r1 = 0 := w2.trans (if_neg (by omega))
  subst w2
  refine lv_if_ne (tgt := 13) hx hb dX10_bearer_8 (by decide) (fun c3 => ?_) (fun c3 => ?_)
  · skip
    exact absurd c3 (by decide)
  · skip
    refine lv_iconst (v := (-1)) hx hb dX10_bearer_11 (by decide) ?_
    have hpost : ((-1) : Int32) = -1 := by
      have t_c3 := eqI c3
      have : (0 : Int32).toInt = 0 := (by decide)
      first | rfl | ((repeat' split) <;> first | rfl | omega)
    refine W.widen (k := 0) (n := 0) (by omega) (by omega) ?_
    exact W.iret (v := (-1)) hx hb hr (fun t ht hW => ⟨⟨(-1), (), rfl, ⟨hpost, trivial⟩, trivial⟩, hS.F ht⟩) hS.2.2 dX10_bearer_12

set_option maxHeartbeats 4000000 in
set_option maxRecDepth 100000 in
theorem c_X10_start (l : Launch) (dC : Nat → ClassId) (dI : Nat → Nat → Nat) (G : Nat → ClassId) (sz : Nat) (h0 rd wy tr im kp od ch cr le mk tl sh a1 a2 a3 a4 a5 a6 : Nat) (v : Int32)   : Met l yX10_start (Cond.code yX10_start cX10_start 3 (some .int) :: GT) ({ frames := 0, cells := 0, slots := 0, locals := 0 } : Room) (PcW [.ref h0, .int v] dC dI G [(h0, .inr (10, [.ref rd, .ref wy, .ref tr, .ref im, .ref kp, .ref od, .ref ch, .ref cr, .ref le, .ref mk, .ref tl, .ref sh, .int 0, .int 0])), (wy, .inr (9, [.int 0, .int 0, .int 5, .ref a1, .ref a2, .ref a3, .ref a4, .ref a5, .ref a6]))] sz) (va_Qi (fun (r : Int32) (u : Unit) => match u with | _ => (r = if 1 ≤ v.toInt ∧ v.toInt ≤ 9 then 5 else -1) ∧ True) (fun _ _ => True) (va_A [(h0, .inr (10, [.ref rd, .ref wy, .ref tr, .ref im, .ref kp, .ref od, .ref ch, .ref cr, .ref le, .ref mk, .ref tl, .ref sh, .int 0, .int 0])), (wy, .inr (9, [.int 0, .int 0, .int 5, .ref a1, .ref a2, .ref a3, .ref a4, .ref a5, .ref a6]))] sz)) 0 0 (va_A [(h0, .inr (10, [.ref rd, .ref wy, .ref tr, .ref im, .ref kp, .ref od, .ref ch, .ref cr, .ref le, .ref mk, .ref tl, .ref sh, .int 0, .int 0])), (wy, .inr (9, [.int 0, .int 0, .int 5, .ref a1, .ref a2, .ref a3, .ref a4, .ref a5, .ref a6]))] sz) := by
  refine Met.ofW (cc := cX10_start) (maxL := 3) (ret := (some .int)) (by decide) rfl ?_
  intro p e s m args below meth c s₁ B hml hv
  obtain ⟨rfl, hsz, hP, hK, hD0⟩ := hv
  have hx := B.exec
  have hb := B.bytes
  have hr := B.returns
  have hg : ∀ w ∈ GT, w.before ([.ref h0, .int v] : List Value).toArray s = true := fun w h => atoms_spec (ws := Cond.code yX10_start cX10_start 3 (some .int) :: GT) B.pre w (List.mem_cons_of_mem _ h)
  have hown : s.vm.findClass RX10 = some m.cls := findClass_of_methodNamed B.named
  have hlocks := B.notSynchronized
  subst hsz
  have hD := hD0.self (sz := s.heap.size)
  generalize hAe : va_A [(h0, .inr (10, [.ref rd, .ref wy, .ref tr, .ref im, .ref kp, .ref od, .ref ch, .ref cr, .ref le, .ref mk, .ref tl, .ref sh, .int 0, .int 0])), (wy, .inr (9, [.int 0, .int 0, .int 5, .ref a1, .ref a2, .ref a3, .ref a4, .ref a5, .ref a6]))] s.heap.size = A at hD ⊢
  have hA : ∀ q : Nat, s.heap.size ≤ q → A q := fun q h => by rw [← hAe]; exact Or.inr h
  have hS : va_S A s.heap s.heap [] := va_S.rf
  have hl := lv_entry ([.ref h0, .int v]) (n := 3) (Nat.le_of_ble_eq_true rfl)
  rw [lg_entry_eq]
  generalize (lg_sl ([.ref h0, .int v]) ++ List.replicate (3 - (lg_sl ([.ref h0, .int v])).length) Slot.unset).toArray = ls at hl ⊢
  have hl : lv_has ls 3 [(0, .ref h0), (1, .int v)] := hl
  refine lv_iload_n hx hb dX10_start_0 rfl (lv_at hl 1 rfl) ?_
  refine lv_iconst (v := 1) hx hb dX10_start_1 (by decide) ?_
  refine lv_icmp_lt (tgt := 11) hx hb dX10_start_2 (by decide) (fun c1 => ?_) (fun c1 => ?_)
  · skip
    refine lv_iconst (v := (-1)) hx hb dX10_start_11 (by decide) ?_
    have hpost : ((-1) : Int32) = if 1 ≤ v.toInt ∧ v.toInt ≤ 9 then 5 else -1 := by
      have t_c1 := ltI c1
      have : (1 : Int32).toInt = 1 := (by decide)
      first | rfl | ((repeat' split) <;> first | rfl | omega)
    refine W.widen (k := 0) (n := 0) (by omega) (by omega) ?_
    exact W.iret (v := (-1)) hx hb hr (fun t ht hW => ⟨⟨(-1), (), rfl, ⟨hpost, trivial⟩, trivial⟩, hS.F ht⟩) hS.2.2 dX10_start_12
  · skip
    refine lv_iload_n hx hb dX10_start_5 rfl (lv_at hl 1 rfl) ?_
    refine lv_bipush (v := 9) hx hb dX10_start_6 (by decide) ?_
    refine lv_icmp_le (tgt := 13) hx hb dX10_start_8 (by decide) (fun c2 => ?_) (fun c2 => ?_)
    · skip
      refine lv_aload_n hx hb dX10_start_13 rfl (lv_at hl 0 rfl) ?_
      refine va_get (D := (dC, dI)) (ci := 10) (v := .ref wy) (C := RX10) (T := TX10) (N := 14) hx hb hg inG10 hown hK.1 hP 0 rfl rfl 1 (by decide) (hg _ wt_303) (fun _ h9 => h9) rfl dX10_start_14 ?_
      refine va_getN (D := (dC, dI)) (ci := 9) (v := .int 5) (C := RX9) (T := TX9) (N := 9) hx hb hg inG9 hown hK.1 hP 1 rfl rfl 2 (by decide) (hK.nest wn_71) (fun _ h9 => h9) rfl dX10_start_17 ?_
      refine lv_istore_n (lv' := [(2, .int 5), (0, .ref h0), (1, .int v)]) hx hb dX10_start_20 rfl hl (by decide) rfl (fun ls hl => ?_)
      refine lv_aload_n hx hb dX10_start_21 rfl (lv_at hl 1 rfl) ?_
      refine va_get (D := (dC, dI)) (ci := 10) (v := .ref wy) (C := RX10) (T := TX10) (N := 14) hx hb hg inG10 hown hK.1 hP 0 rfl rfl 1 (by decide) (hg _ wt_303) (fun _ h9 => h9) rfl dX10_start_22 ?_
      refine lv_iload_n hx hb dX10_start_25 rfl (lv_at hl 2 rfl) ?_
      refine va_putN (D := (dC, dI)) (ci := 9) (v := .int v) (ty := .int) (C := RX9) (T := TX9) (N := 9) hx hb hg inG9 tyX9 tyX9_ok nmX9 hown hK.1 hP hD hS 1 rfl rfl 2 (by decide) (hK.nest wn_71) (fun _ h9 => h9) rfl (by decide +kernel) rfl rfl (Nat.le_of_ble_eq_true rfl) dX10_start_26 (fun H locs hP hD hS => ?_)
      have hP : va_P (dC, dI) vwCl [(h0, .inr (10, [.ref rd, .ref wy, .ref tr, .ref im, .ref kp, .ref od, .ref ch, .ref cr, .ref le, .ref mk, .ref tl, .ref sh, .int 0, .int 0])), (wy, .inr (9, [.int 0, .int 0, .int v, .ref a1, .ref a2, .ref a3, .ref a4, .ref a5, .ref a6]))] H := hP
      have hD : va_D A [(h0, .inr (10, [.ref rd, .ref wy, .ref tr, .ref im, .ref kp, .ref od, .ref ch, .ref cr, .ref le, .ref mk, .ref tl, .ref sh, .int 0, .int 0])), (wy, .inr (9, [.int 0, .int 0, .int v, .ref a1, .ref a2, .ref a3, .ref a4, .ref a5, .ref a6]))] := hD
      refine lv_iload_n hx hb dX10_start_29 rfl (lv_at hl 0 rfl) ?_
      have hpost : (5 : Int32) = if 1 ≤ v.toInt ∧ v.toInt ≤ 9 then 5 else -1 := by
        have t_c1 := nltI c1
        have t_c2 := leI c2
        have : (1 : Int32).toInt = 1 := (by decide)
        have : (9 : Int32).toInt = 9 := (by decide)
        first | rfl | ((repeat' split) <;> first | rfl | omega)
      refine W.widen (k := 0) (n := 0) (by omega) (by omega) ?_
      exact W.iret (v := 5) hx hb hr (fun t ht hW => ⟨⟨5, (), rfl, ⟨hpost, trivial⟩, trivial⟩, hS.F ht⟩) hS.2.2 dX10_start_30
    · skip
      refine lv_iconst (v := (-1)) hx hb dX10_start_11 (by decide) ?_
      have hpost : ((-1) : Int32) = if 1 ≤ v.toInt ∧ v.toInt ≤ 9 then 5 else -1 := by
        have t_c1 := nltI c1
        have t_c2 := nleI c2
        have : (1 : Int32).toInt = 1 := (by decide)
        have : (9 : Int32).toInt = 9 := (by decide)
        first | rfl | ((repeat' split) <;> first | rfl | omega)
      refine W.widen (k := 0) (n := 0) (by omega) (by omega) ?_
      exact W.iret (v := (-1)) hx hb hr (fun t ht hW => ⟨⟨(-1), (), rfl, ⟨hpost, trivial⟩, trivial⟩, hS.F ht⟩) hS.2.2 dX10_start_12

set_option maxHeartbeats 4000000 in
set_option maxRecDepth 100000 in
theorem c_X10_noise (l : Launch) (dC : Nat → ClassId) (dI : Nat → Nat → Nat) (G : Nat → ClassId) (sz : Nat) (h0 rd wy tr im kp od ch cr le mk tl sh a1 a2 a3 a4 a5 a6 : Nat) (i v : Int32)   : Met l yX10_noise (Cond.code yX10_noise cX10_noise 3 (some .int) :: GT) ({ frames := 1, cells := 0, slots := 0, locals := 21 } : Room) (PcW [.ref h0, .int i, .int v] dC dI G [(h0, .inr (10, [.ref rd, .ref wy, .ref tr, .ref im, .ref kp, .ref od, .ref ch, .ref cr, .ref le, .ref mk, .ref tl, .ref sh, .int 0, .int 0])), (wy, .inr (9, [.int 0, .int 0, .int 5, .ref a1, .ref a2, .ref a3, .ref a4, .ref a5, .ref a6]))] sz) (va_Qi (fun (r : Int32) (u : Unit) => match u with | _ => (r = -1) ∧ True) (fun _ _ => True) (va_A [(h0, .inr (10, [.ref rd, .ref wy, .ref tr, .ref im, .ref kp, .ref od, .ref ch, .ref cr, .ref le, .ref mk, .ref tl, .ref sh, .int 0, .int 0])), (wy, .inr (9, [.int 0, .int 0, .int 5, .ref a1, .ref a2, .ref a3, .ref a4, .ref a5, .ref a6]))] sz)) 0 0 (va_A [(h0, .inr (10, [.ref rd, .ref wy, .ref tr, .ref im, .ref kp, .ref od, .ref ch, .ref cr, .ref le, .ref mk, .ref tl, .ref sh, .int 0, .int 0])), (wy, .inr (9, [.int 0, .int 0, .int 5, .ref a1, .ref a2, .ref a3, .ref a4, .ref a5, .ref a6]))] sz) := by
  refine Met.ofW (cc := cX10_noise) (maxL := 3) (ret := (some .int)) (by decide) rfl ?_
  intro p e s m args below meth c s₁ B hml hv
  obtain ⟨rfl, hsz, hP, hK, hD0⟩ := hv
  have hx := B.exec
  have hb := B.bytes
  have hr := B.returns
  have hg : ∀ w ∈ GT, w.before ([.ref h0, .int i, .int v] : List Value).toArray s = true := fun w h => atoms_spec (ws := Cond.code yX10_noise cX10_noise 3 (some .int) :: GT) B.pre w (List.mem_cons_of_mem _ h)
  have hown : s.vm.findClass RX10 = some m.cls := findClass_of_methodNamed B.named
  have hlocks := B.notSynchronized
  subst hsz
  have hD := hD0.self (sz := s.heap.size)
  generalize hAe : va_A [(h0, .inr (10, [.ref rd, .ref wy, .ref tr, .ref im, .ref kp, .ref od, .ref ch, .ref cr, .ref le, .ref mk, .ref tl, .ref sh, .int 0, .int 0])), (wy, .inr (9, [.int 0, .int 0, .int 5, .ref a1, .ref a2, .ref a3, .ref a4, .ref a5, .ref a6]))] s.heap.size = A at hD ⊢
  have hA : ∀ q : Nat, s.heap.size ≤ q → A q := fun q h => by rw [← hAe]; exact Or.inr h
  have hS : va_S A s.heap s.heap [] := va_S.rf
  have hl := lv_entry ([.ref h0, .int i, .int v]) (n := 3) (Nat.le_of_ble_eq_true rfl)
  rw [lg_entry_eq]
  generalize (lg_sl ([.ref h0, .int i, .int v]) ++ List.replicate (3 - (lg_sl ([.ref h0, .int i, .int v])).length) Slot.unset).toArray = ls at hl ⊢
  have hl : lv_has ls 3 [(0, .ref h0), (1, .int i), (2, .int v)] := hl
  refine lv_aload_n hx hb dX10_noise_0 rfl (lv_at hl 0 rfl) ?_
  refine va_get (D := (dC, dI)) (ci := 10) (v := .ref wy) (C := RX10) (T := TX10) (N := 14) hx hb hg inG10 hown hK.1 hP 0 rfl rfl 1 (by decide) (hg _ wt_303) (fun _ h9 => h9) rfl dX10_noise_1 ?_
  refine lv_iload_n hx hb dX10_noise_4 rfl (lv_at hl 1 rfl) ?_
  have hPc := hP.sub (ws' := [(wy, .inr (9, [.int 0, .int 0, .int 5, .ref a1, .ref a2, .ref a3, .ref a4, .ref a5, .ref a6]))]) [1] rfl
  refine va_calli (va_runVN (As := [.int i]) (rest := []) ⟨hx, hb, hml, hown, hg⟩ (c_X9_hasStretch l dC dI G _ wy a1 a2 a3 a4 a5 a6 0 0 5 i ) (kwVN hg hK mfX9_hasStretch wn_527 ⟨Nat.le_of_ble_eq_true rfl, Nat.le_of_ble_eq_true rfl⟩) (preVR hK hPc (ci := 9) rfl rfl) rfl rfl hl.1 rfl (lv_room (Nat.le_of_ble_eq_true rfl)) dX10_noise_5 ⟨Nat.le_of_ble_eq_true rfl, Nat.le_of_ble_eq_true rfl⟩) hS (fun q h1 h2 => absurd h2 (Nat.not_le.mpr h1)) (fun q h => hA q (Nat.le_trans hS.1 h)) (fun r1 ur1 t H1 locs ht hvm w2 hB hz1 hk1 hS => ?_)
  have hP := keepR hP hk1
  obtain ⟨w2, w2x⟩ := w2
  try simp only [l_ii, show (0 : Int32).toInt = 0 from by decide, show (0 : Int32).toInt = 0 from by decide] at w2
  have w2 : r1 = 0 := w2.trans (if_neg (by omega))
  subst w2
  refine lv_if_eq (tgt := 26) hx hb dX10_noise_8 (by decide) (fun c3 => ?_) (fun c3 => ?_)
  · skip
    refine lv_iconst (v := (-1)) hx hb dX10_noise_26 (by decide) ?_
    have hpost : ((-1) : Int32) = -1 := by
      have t_c3 := eqI c3
      have : (0 : Int32).toInt = 0 := (by decide)
      first | rfl | ((repeat' split) <;> first | rfl | omega)
    refine W.widen (k := 0) (n := 0) (by omega) (by omega) ?_
    exact W.iret (v := (-1)) hx hb hr (fun t ht hW => ⟨⟨(-1), (), rfl, ⟨hpost, trivial⟩, trivial⟩, hS.F ht⟩) hS.2.2 dX10_noise_27
  · skip
    exact absurd c3 (by decide)

set_option maxHeartbeats 4000000 in
set_option maxRecDepth 100000 in
theorem c_X10_cold (l : Launch) (dC : Nat → ClassId) (dI : Nat → Nat → Nat) (G : Nat → ClassId) (sz : Nat) (h0 rd wy tr im kp od ch cr le mk tl sh a1 a2 a3 a4 a5 a6 : Nat) (i v : Int32)   : Met l yX10_cold (Cond.code yX10_cold cX10_cold 3 (some .int) :: GT) ({ frames := 1, cells := 0, slots := 0, locals := 21 } : Room) (PcW [.ref h0, .int i, .int v] dC dI G [(h0, .inr (10, [.ref rd, .ref wy, .ref tr, .ref im, .ref kp, .ref od, .ref ch, .ref cr, .ref le, .ref mk, .ref tl, .ref sh, .int 0, .int 0])), (wy, .inr (9, [.int 0, .int 0, .int 5, .ref a1, .ref a2, .ref a3, .ref a4, .ref a5, .ref a6]))] sz) (va_Qi (fun (r : Int32) (u : Unit) => match u with | _ => (r = -1) ∧ True) (fun _ _ => True) (va_A [(h0, .inr (10, [.ref rd, .ref wy, .ref tr, .ref im, .ref kp, .ref od, .ref ch, .ref cr, .ref le, .ref mk, .ref tl, .ref sh, .int 0, .int 0])), (wy, .inr (9, [.int 0, .int 0, .int 5, .ref a1, .ref a2, .ref a3, .ref a4, .ref a5, .ref a6]))] sz)) 0 0 (va_A [(h0, .inr (10, [.ref rd, .ref wy, .ref tr, .ref im, .ref kp, .ref od, .ref ch, .ref cr, .ref le, .ref mk, .ref tl, .ref sh, .int 0, .int 0])), (wy, .inr (9, [.int 0, .int 0, .int 5, .ref a1, .ref a2, .ref a3, .ref a4, .ref a5, .ref a6]))] sz) := by
  refine Met.ofW (cc := cX10_cold) (maxL := 3) (ret := (some .int)) (by decide) rfl ?_
  intro p e s m args below meth c s₁ B hml hv
  obtain ⟨rfl, hsz, hP, hK, hD0⟩ := hv
  have hx := B.exec
  have hb := B.bytes
  have hr := B.returns
  have hg : ∀ w ∈ GT, w.before ([.ref h0, .int i, .int v] : List Value).toArray s = true := fun w h => atoms_spec (ws := Cond.code yX10_cold cX10_cold 3 (some .int) :: GT) B.pre w (List.mem_cons_of_mem _ h)
  have hown : s.vm.findClass RX10 = some m.cls := findClass_of_methodNamed B.named
  have hlocks := B.notSynchronized
  subst hsz
  have hD := hD0.self (sz := s.heap.size)
  generalize hAe : va_A [(h0, .inr (10, [.ref rd, .ref wy, .ref tr, .ref im, .ref kp, .ref od, .ref ch, .ref cr, .ref le, .ref mk, .ref tl, .ref sh, .int 0, .int 0])), (wy, .inr (9, [.int 0, .int 0, .int 5, .ref a1, .ref a2, .ref a3, .ref a4, .ref a5, .ref a6]))] s.heap.size = A at hD ⊢
  have hA : ∀ q : Nat, s.heap.size ≤ q → A q := fun q h => by rw [← hAe]; exact Or.inr h
  have hS : va_S A s.heap s.heap [] := va_S.rf
  have hl := lv_entry ([.ref h0, .int i, .int v]) (n := 3) (Nat.le_of_ble_eq_true rfl)
  rw [lg_entry_eq]
  generalize (lg_sl ([.ref h0, .int i, .int v]) ++ List.replicate (3 - (lg_sl ([.ref h0, .int i, .int v])).length) Slot.unset).toArray = ls at hl ⊢
  have hl : lv_has ls 3 [(0, .ref h0), (1, .int i), (2, .int v)] := hl
  refine lv_aload_n hx hb dX10_cold_0 rfl (lv_at hl 0 rfl) ?_
  refine va_get (D := (dC, dI)) (ci := 10) (v := .ref wy) (C := RX10) (T := TX10) (N := 14) hx hb hg inG10 hown hK.1 hP 0 rfl rfl 1 (by decide) (hg _ wt_303) (fun _ h9 => h9) rfl dX10_cold_1 ?_
  refine lv_iload_n hx hb dX10_cold_4 rfl (lv_at hl 1 rfl) ?_
  have hPc := hP.sub (ws' := [(wy, .inr (9, [.int 0, .int 0, .int 5, .ref a1, .ref a2, .ref a3, .ref a4, .ref a5, .ref a6]))]) [1] rfl
  refine va_calli (va_runVN (As := [.int i]) (rest := []) ⟨hx, hb, hml, hown, hg⟩ (c_X9_hasStretch l dC dI G _ wy a1 a2 a3 a4 a5 a6 0 0 5 i ) (kwVN hg hK mfX9_hasStretch wn_527 ⟨Nat.le_of_ble_eq_true rfl, Nat.le_of_ble_eq_true rfl⟩) (preVR hK hPc (ci := 9) rfl rfl) rfl rfl hl.1 rfl (lv_room (Nat.le_of_ble_eq_true rfl)) dX10_cold_5 ⟨Nat.le_of_ble_eq_true rfl, Nat.le_of_ble_eq_true rfl⟩) hS (fun q h1 h2 => absurd h2 (Nat.not_le.mpr h1)) (fun q h => hA q (Nat.le_trans hS.1 h)) (fun r1 ur1 t H1 locs ht hvm w2 hB hz1 hk1 hS => ?_)
  have hP := keepR hP hk1
  obtain ⟨w2, w2x⟩ := w2
  try simp only [l_ii, show (0 : Int32).toInt = 0 from by decide, show (0 : Int32).toInt = 0 from by decide] at w2
  have w2 : r1 = 0 := w2.trans (if_neg (by omega))
  subst w2
  refine lv_if_eq (tgt := 26) hx hb dX10_cold_8 (by decide) (fun c3 => ?_) (fun c3 => ?_)
  · skip
    refine lv_iconst (v := (-1)) hx hb dX10_cold_26 (by decide) ?_
    have hpost : ((-1) : Int32) = -1 := by
      have t_c3 := eqI c3
      have : (0 : Int32).toInt = 0 := (by decide)
      first | rfl | ((repeat' split) <;> first | rfl | omega)
    refine W.widen (k := 0) (n := 0) (by omega) (by omega) ?_
    exact W.iret (v := (-1)) hx hb hr (fun t ht hW => ⟨⟨(-1), (), rfl, ⟨hpost, trivial⟩, trivial⟩, hS.F ht⟩) hS.2.2 dX10_cold_27
  · skip
    exact absurd c3 (by decide)

set_option maxHeartbeats 4000000 in
set_option maxRecDepth 100000 in
theorem c_X10_step (l : Launch) (dC : Nat → ClassId) (dI : Nat → Nat → Nat) (G : Nat → ClassId) (sz : Nat) (h0 rd wy tr im kp od ch cr le mk tl sh a1 a2 a3 a4 a5 a6 : Nat) (i v : Int32)   : Met l yX10_step (Cond.code yX10_step cX10_step 3 (some .int) :: GT) ({ frames := 1, cells := 0, slots := 0, locals := 21 } : Room) (PcW [.ref h0, .int i, .int v] dC dI G [(h0, .inr (10, [.ref rd, .ref wy, .ref tr, .ref im, .ref kp, .ref od, .ref ch, .ref cr, .ref le, .ref mk, .ref tl, .ref sh, .int 0, .int 0])), (wy, .inr (9, [.int 0, .int 0, .int 5, .ref a1, .ref a2, .ref a3, .ref a4, .ref a5, .ref a6]))] sz) (va_Qi (fun (r : Int32) (u : Unit) => match u with | _ => (r = -1) ∧ True) (fun _ _ => True) (va_A [(h0, .inr (10, [.ref rd, .ref wy, .ref tr, .ref im, .ref kp, .ref od, .ref ch, .ref cr, .ref le, .ref mk, .ref tl, .ref sh, .int 0, .int 0])), (wy, .inr (9, [.int 0, .int 0, .int 5, .ref a1, .ref a2, .ref a3, .ref a4, .ref a5, .ref a6]))] sz)) 0 0 (va_A [(h0, .inr (10, [.ref rd, .ref wy, .ref tr, .ref im, .ref kp, .ref od, .ref ch, .ref cr, .ref le, .ref mk, .ref tl, .ref sh, .int 0, .int 0])), (wy, .inr (9, [.int 0, .int 0, .int 5, .ref a1, .ref a2, .ref a3, .ref a4, .ref a5, .ref a6]))] sz) := by
  refine Met.ofW (cc := cX10_step) (maxL := 3) (ret := (some .int)) (by decide) rfl ?_
  intro p e s m args below meth c s₁ B hml hv
  obtain ⟨rfl, hsz, hP, hK, hD0⟩ := hv
  have hx := B.exec
  have hb := B.bytes
  have hr := B.returns
  have hg : ∀ w ∈ GT, w.before ([.ref h0, .int i, .int v] : List Value).toArray s = true := fun w h => atoms_spec (ws := Cond.code yX10_step cX10_step 3 (some .int) :: GT) B.pre w (List.mem_cons_of_mem _ h)
  have hown : s.vm.findClass RX10 = some m.cls := findClass_of_methodNamed B.named
  have hlocks := B.notSynchronized
  subst hsz
  have hD := hD0.self (sz := s.heap.size)
  generalize hAe : va_A [(h0, .inr (10, [.ref rd, .ref wy, .ref tr, .ref im, .ref kp, .ref od, .ref ch, .ref cr, .ref le, .ref mk, .ref tl, .ref sh, .int 0, .int 0])), (wy, .inr (9, [.int 0, .int 0, .int 5, .ref a1, .ref a2, .ref a3, .ref a4, .ref a5, .ref a6]))] s.heap.size = A at hD ⊢
  have hA : ∀ q : Nat, s.heap.size ≤ q → A q := fun q h => by rw [← hAe]; exact Or.inr h
  have hS : va_S A s.heap s.heap [] := va_S.rf
  have hl := lv_entry ([.ref h0, .int i, .int v]) (n := 3) (Nat.le_of_ble_eq_true rfl)
  rw [lg_entry_eq]
  generalize (lg_sl ([.ref h0, .int i, .int v]) ++ List.replicate (3 - (lg_sl ([.ref h0, .int i, .int v])).length) Slot.unset).toArray = ls at hl ⊢
  have hl : lv_has ls 3 [(0, .ref h0), (1, .int i), (2, .int v)] := hl
  refine lv_aload_n hx hb dX10_step_0 rfl (lv_at hl 0 rfl) ?_
  refine va_get (D := (dC, dI)) (ci := 10) (v := .ref wy) (C := RX10) (T := TX10) (N := 14) hx hb hg inG10 hown hK.1 hP 0 rfl rfl 1 (by decide) (hg _ wt_303) (fun _ h9 => h9) rfl dX10_step_1 ?_
  refine lv_iload_n hx hb dX10_step_4 rfl (lv_at hl 1 rfl) ?_
  have hPc := hP.sub (ws' := [(wy, .inr (9, [.int 0, .int 0, .int 5, .ref a1, .ref a2, .ref a3, .ref a4, .ref a5, .ref a6]))]) [1] rfl
  refine va_calli (va_runVN (As := [.int i]) (rest := []) ⟨hx, hb, hml, hown, hg⟩ (c_X9_hasBearer l dC dI G _ wy a1 a2 a3 a4 a5 a6 0 0 5 i ) (kwVN hg hK mfX9_hasBearer wn_535 ⟨Nat.le_of_ble_eq_true rfl, Nat.le_of_ble_eq_true rfl⟩) (preVR hK hPc (ci := 9) rfl rfl) rfl rfl hl.1 rfl (lv_room (Nat.le_of_ble_eq_true rfl)) dX10_step_5 ⟨Nat.le_of_ble_eq_true rfl, Nat.le_of_ble_eq_true rfl⟩) hS (fun q h1 h2 => absurd h2 (Nat.not_le.mpr h1)) (fun q h => hA q (Nat.le_trans hS.1 h)) (fun r1 ur1 t H1 locs ht hvm w2 hB hz1 hk1 hS => ?_)
  have hP := keepR hP hk1
  obtain ⟨w2, w2x⟩ := w2
  try simp only [l_ii, show (0 : Int32).toInt = 0 from by decide, show (0 : Int32).toInt = 0 from by decide] at w2
  have w2 : r1 = 0 := w2.trans (if_neg (by omega))
  subst w2
  refine lv_if_eq (tgt := 26) hx hb dX10_step_8 (by decide) (fun c3 => ?_) (fun c3 => ?_)
  · skip
    refine lv_iconst (v := (-1)) hx hb dX10_step_26 (by decide) ?_
    have hpost : ((-1) : Int32) = -1 := by
      have t_c3 := eqI c3
      have : (0 : Int32).toInt = 0 := (by decide)
      first | rfl | ((repeat' split) <;> first | rfl | omega)
    refine W.widen (k := 0) (n := 0) (by omega) (by omega) ?_
    exact W.iret (v := (-1)) hx hb hr (fun t ht hW => ⟨⟨(-1), (), rfl, ⟨hpost, trivial⟩, trivial⟩, hS.F ht⟩) hS.2.2 dX10_step_27
  · skip
    exact absurd c3 (by decide)

set_option maxHeartbeats 4000000 in
set_option maxRecDepth 100000 in
theorem c_X10_warm (l : Launch) (dC : Nat → ClassId) (dI : Nat → Nat → Nat) (G : Nat → ClassId) (sz : Nat) (h0 rd wy tr im kp od ch cr le mk tl sh a1 a2 a3 a4 a5 a6 : Nat) (i v : Int32)   : Met l yX10_warm (Cond.code yX10_warm cX10_warm 3 (some .int) :: GT) ({ frames := 1, cells := 0, slots := 0, locals := 21 } : Room) (PcW [.ref h0, .int i, .int v] dC dI G [(h0, .inr (10, [.ref rd, .ref wy, .ref tr, .ref im, .ref kp, .ref od, .ref ch, .ref cr, .ref le, .ref mk, .ref tl, .ref sh, .int 0, .int 0])), (wy, .inr (9, [.int 0, .int 0, .int 5, .ref a1, .ref a2, .ref a3, .ref a4, .ref a5, .ref a6]))] sz) (va_Qi (fun (r : Int32) (u : Unit) => match u with | _ => (r = -1) ∧ True) (fun _ _ => True) (va_A [(h0, .inr (10, [.ref rd, .ref wy, .ref tr, .ref im, .ref kp, .ref od, .ref ch, .ref cr, .ref le, .ref mk, .ref tl, .ref sh, .int 0, .int 0])), (wy, .inr (9, [.int 0, .int 0, .int 5, .ref a1, .ref a2, .ref a3, .ref a4, .ref a5, .ref a6]))] sz)) 0 0 (va_A [(h0, .inr (10, [.ref rd, .ref wy, .ref tr, .ref im, .ref kp, .ref od, .ref ch, .ref cr, .ref le, .ref mk, .ref tl, .ref sh, .int 0, .int 0])), (wy, .inr (9, [.int 0, .int 0, .int 5, .ref a1, .ref a2, .ref a3, .ref a4, .ref a5, .ref a6]))] sz) := by
  refine Met.ofW (cc := cX10_warm) (maxL := 3) (ret := (some .int)) (by decide) rfl ?_
  intro p e s m args below meth c s₁ B hml hv
  obtain ⟨rfl, hsz, hP, hK, hD0⟩ := hv
  have hx := B.exec
  have hb := B.bytes
  have hr := B.returns
  have hg : ∀ w ∈ GT, w.before ([.ref h0, .int i, .int v] : List Value).toArray s = true := fun w h => atoms_spec (ws := Cond.code yX10_warm cX10_warm 3 (some .int) :: GT) B.pre w (List.mem_cons_of_mem _ h)
  have hown : s.vm.findClass RX10 = some m.cls := findClass_of_methodNamed B.named
  have hlocks := B.notSynchronized
  subst hsz
  have hD := hD0.self (sz := s.heap.size)
  generalize hAe : va_A [(h0, .inr (10, [.ref rd, .ref wy, .ref tr, .ref im, .ref kp, .ref od, .ref ch, .ref cr, .ref le, .ref mk, .ref tl, .ref sh, .int 0, .int 0])), (wy, .inr (9, [.int 0, .int 0, .int 5, .ref a1, .ref a2, .ref a3, .ref a4, .ref a5, .ref a6]))] s.heap.size = A at hD ⊢
  have hA : ∀ q : Nat, s.heap.size ≤ q → A q := fun q h => by rw [← hAe]; exact Or.inr h
  have hS : va_S A s.heap s.heap [] := va_S.rf
  have hl := lv_entry ([.ref h0, .int i, .int v]) (n := 3) (Nat.le_of_ble_eq_true rfl)
  rw [lg_entry_eq]
  generalize (lg_sl ([.ref h0, .int i, .int v]) ++ List.replicate (3 - (lg_sl ([.ref h0, .int i, .int v])).length) Slot.unset).toArray = ls at hl ⊢
  have hl : lv_has ls 3 [(0, .ref h0), (1, .int i), (2, .int v)] := hl
  refine lv_aload_n hx hb dX10_warm_0 rfl (lv_at hl 0 rfl) ?_
  refine va_get (D := (dC, dI)) (ci := 10) (v := .ref wy) (C := RX10) (T := TX10) (N := 14) hx hb hg inG10 hown hK.1 hP 0 rfl rfl 1 (by decide) (hg _ wt_303) (fun _ h9 => h9) rfl dX10_warm_1 ?_
  refine lv_iload_n hx hb dX10_warm_4 rfl (lv_at hl 1 rfl) ?_
  have hPc := hP.sub (ws' := [(wy, .inr (9, [.int 0, .int 0, .int 5, .ref a1, .ref a2, .ref a3, .ref a4, .ref a5, .ref a6]))]) [1] rfl
  refine va_calli (va_runVN (As := [.int i]) (rest := []) ⟨hx, hb, hml, hown, hg⟩ (c_X9_hasBearer l dC dI G _ wy a1 a2 a3 a4 a5 a6 0 0 5 i ) (kwVN hg hK mfX9_hasBearer wn_535 ⟨Nat.le_of_ble_eq_true rfl, Nat.le_of_ble_eq_true rfl⟩) (preVR hK hPc (ci := 9) rfl rfl) rfl rfl hl.1 rfl (lv_room (Nat.le_of_ble_eq_true rfl)) dX10_warm_5 ⟨Nat.le_of_ble_eq_true rfl, Nat.le_of_ble_eq_true rfl⟩) hS (fun q h1 h2 => absurd h2 (Nat.not_le.mpr h1)) (fun q h => hA q (Nat.le_trans hS.1 h)) (fun r1 ur1 t H1 locs ht hvm w2 hB hz1 hk1 hS => ?_)
  have hP := keepR hP hk1
  obtain ⟨w2, w2x⟩ := w2
  try simp only [l_ii, show (0 : Int32).toInt = 0 from by decide, show (0 : Int32).toInt = 0 from by decide] at w2
  have w2 : r1 = 0 := w2.trans (if_neg (by omega))
  subst w2
  refine lv_if_eq (tgt := 26) hx hb dX10_warm_8 (by decide) (fun c3 => ?_) (fun c3 => ?_)
  · skip
    refine lv_iconst (v := (-1)) hx hb dX10_warm_26 (by decide) ?_
    have hpost : ((-1) : Int32) = -1 := by
      have t_c3 := eqI c3
      have : (0 : Int32).toInt = 0 := (by decide)
      first | rfl | ((repeat' split) <;> first | rfl | omega)
    refine W.widen (k := 0) (n := 0) (by omega) (by omega) ?_
    exact W.iret (v := (-1)) hx hb hr (fun t ht hW => ⟨⟨(-1), (), rfl, ⟨hpost, trivial⟩, trivial⟩, hS.F ht⟩) hS.2.2 dX10_warm_27
  · skip
    exact absurd c3 (by decide)

set_option maxHeartbeats 4000000 in
set_option maxRecDepth 100000 in
theorem c_X10_put (l : Launch) (dC : Nat → ClassId) (dI : Nat → Nat → Nat) (G : Nat → ClassId) (sz : Nat) (h0 rd wy tr im kp od ch cr le mk tl sh a1 a2 a3 a4 a5 a6 : Nat) (i v : Int32)   : Met l yX10_put (Cond.code yX10_put cX10_put 4 (some .int) :: GT) ({ frames := 1, cells := 0, slots := 0, locals := 21 } : Room) (PcW [.ref h0, .int i, .int v] dC dI G [(h0, .inr (10, [.ref rd, .ref wy, .ref tr, .ref im, .ref kp, .ref od, .ref ch, .ref cr, .ref le, .ref mk, .ref tl, .ref sh, .int 0, .int 0])), (wy, .inr (9, [.int 0, .int 0, .int 5, .ref a1, .ref a2, .ref a3, .ref a4, .ref a5, .ref a6]))] sz) (va_Qi (fun (r : Int32) (u : Unit) => match u with | _ => (r = -1) ∧ True) (fun _ _ => True) (va_A [(h0, .inr (10, [.ref rd, .ref wy, .ref tr, .ref im, .ref kp, .ref od, .ref ch, .ref cr, .ref le, .ref mk, .ref tl, .ref sh, .int 0, .int 0])), (wy, .inr (9, [.int 0, .int 0, .int 5, .ref a1, .ref a2, .ref a3, .ref a4, .ref a5, .ref a6]))] sz)) 0 0 (va_A [(h0, .inr (10, [.ref rd, .ref wy, .ref tr, .ref im, .ref kp, .ref od, .ref ch, .ref cr, .ref le, .ref mk, .ref tl, .ref sh, .int 0, .int 0])), (wy, .inr (9, [.int 0, .int 0, .int 5, .ref a1, .ref a2, .ref a3, .ref a4, .ref a5, .ref a6]))] sz) := by
  refine Met.ofW (cc := cX10_put) (maxL := 4) (ret := (some .int)) (by decide) rfl ?_
  intro p e s m args below meth c s₁ B hml hv
  obtain ⟨rfl, hsz, hP, hK, hD0⟩ := hv
  have hx := B.exec
  have hb := B.bytes
  have hr := B.returns
  have hg : ∀ w ∈ GT, w.before ([.ref h0, .int i, .int v] : List Value).toArray s = true := fun w h => atoms_spec (ws := Cond.code yX10_put cX10_put 4 (some .int) :: GT) B.pre w (List.mem_cons_of_mem _ h)
  have hown : s.vm.findClass RX10 = some m.cls := findClass_of_methodNamed B.named
  have hlocks := B.notSynchronized
  subst hsz
  have hD := hD0.self (sz := s.heap.size)
  generalize hAe : va_A [(h0, .inr (10, [.ref rd, .ref wy, .ref tr, .ref im, .ref kp, .ref od, .ref ch, .ref cr, .ref le, .ref mk, .ref tl, .ref sh, .int 0, .int 0])), (wy, .inr (9, [.int 0, .int 0, .int 5, .ref a1, .ref a2, .ref a3, .ref a4, .ref a5, .ref a6]))] s.heap.size = A at hD ⊢
  have hA : ∀ q : Nat, s.heap.size ≤ q → A q := fun q h => by rw [← hAe]; exact Or.inr h
  have hS : va_S A s.heap s.heap [] := va_S.rf
  have hl := lv_entry ([.ref h0, .int i, .int v]) (n := 4) (Nat.le_of_ble_eq_true rfl)
  rw [lg_entry_eq]
  generalize (lg_sl ([.ref h0, .int i, .int v]) ++ List.replicate (4 - (lg_sl ([.ref h0, .int i, .int v])).length) Slot.unset).toArray = ls at hl ⊢
  have hl : lv_has ls 4 [(0, .ref h0), (1, .int i), (2, .int v)] := hl
  refine lv_aload_n hx hb dX10_put_0 rfl (lv_at hl 0 rfl) ?_
  refine va_get (D := (dC, dI)) (ci := 10) (v := .ref wy) (C := RX10) (T := TX10) (N := 14) hx hb hg inG10 hown hK.1 hP 0 rfl rfl 1 (by decide) (hg _ wt_303) (fun _ h9 => h9) rfl dX10_put_1 ?_
  refine lv_iload_n hx hb dX10_put_4 rfl (lv_at hl 1 rfl) ?_
  have hPc := hP.sub (ws' := [(wy, .inr (9, [.int 0, .int 0, .int 5, .ref a1, .ref a2, .ref a3, .ref a4, .ref a5, .ref a6]))]) [1] rfl
  refine va_calli (va_runVN (As := [.int i]) (rest := []) ⟨hx, hb, hml, hown, hg⟩ (c_X9_hasStretch l dC dI G _ wy a1 a2 a3 a4 a5 a6 0 0 5 i ) (kwVN hg hK mfX9_hasStretch wn_527 ⟨Nat.le_of_ble_eq_true rfl, Nat.le_of_ble_eq_true rfl⟩) (preVR hK hPc (ci := 9) rfl rfl) rfl rfl hl.1 rfl (lv_room (Nat.le_of_ble_eq_true rfl)) dX10_put_5 ⟨Nat.le_of_ble_eq_true rfl, Nat.le_of_ble_eq_true rfl⟩) hS (fun q h1 h2 => absurd h2 (Nat.not_le.mpr h1)) (fun q h => hA q (Nat.le_trans hS.1 h)) (fun r1 ur1 t H1 locs ht hvm w2 hB hz1 hk1 hS => ?_)
  have hP := keepR hP hk1
  obtain ⟨w2, w2x⟩ := w2
  try simp only [l_ii, show (0 : Int32).toInt = 0 from by decide, show (0 : Int32).toInt = 0 from by decide] at w2
  have w2 : r1 = 0 := w2.trans (if_neg (by omega))
  subst w2
  refine lv_if_eq (tgt := 22) hx hb dX10_put_8 (by decide) (fun c3 => ?_) (fun c3 => ?_)
  · skip
    refine lv_iconst (v := (-1)) hx hb dX10_put_22 (by decide) ?_
    have hpost : ((-1) : Int32) = -1 := by
      have t_c3 := eqI c3
      have : (0 : Int32).toInt = 0 := (by decide)
      first | rfl | ((repeat' split) <;> first | rfl | omega)
    refine W.widen (k := 0) (n := 0) (by omega) (by omega) ?_
    exact W.iret (v := (-1)) hx hb hr (fun t ht hW => ⟨⟨(-1), (), rfl, ⟨hpost, trivial⟩, trivial⟩, hS.F ht⟩) hS.2.2 dX10_put_23
  · skip
    exact absurd c3 (by decide)

set_option maxHeartbeats 4000000 in
set_option maxRecDepth 100000 in
theorem c_X10_harm (l : Launch) (dC : Nat → ClassId) (dI : Nat → Nat → Nat) (G : Nat → ClassId) (sz : Nat) (h0 rd wy tr im kp od ch cr le mk tl sh a1 a2 a3 a4 a5 a6 : Nat) (i g tb : Int32)   : Met l yX10_harm (Cond.code yX10_harm cX10_harm 4 (some .int) :: GT) ({ frames := 2, cells := 0, slots := 0, locals := 44 } : Room) (PcW [.ref h0, .int i, .int g, .int tb] dC dI G [(h0, .inr (10, [.ref rd, .ref wy, .ref tr, .ref im, .ref kp, .ref od, .ref ch, .ref cr, .ref le, .ref mk, .ref tl, .ref sh, .int 0, .int 0])), (wy, .inr (9, [.int 0, .int 0, .int 5, .ref a1, .ref a2, .ref a3, .ref a4, .ref a5, .ref a6]))] sz) (va_Qi (fun (r : Int32) (u : Unit) => match u with | _ => (r = -1) ∧ True) (fun _ _ => True) (va_A [(h0, .inr (10, [.ref rd, .ref wy, .ref tr, .ref im, .ref kp, .ref od, .ref ch, .ref cr, .ref le, .ref mk, .ref tl, .ref sh, .int 0, .int 0])), (wy, .inr (9, [.int 0, .int 0, .int 5, .ref a1, .ref a2, .ref a3, .ref a4, .ref a5, .ref a6]))] sz)) 0 0 (va_A [(h0, .inr (10, [.ref rd, .ref wy, .ref tr, .ref im, .ref kp, .ref od, .ref ch, .ref cr, .ref le, .ref mk, .ref tl, .ref sh, .int 0, .int 0])), (wy, .inr (9, [.int 0, .int 0, .int 5, .ref a1, .ref a2, .ref a3, .ref a4, .ref a5, .ref a6]))] sz) := by
  refine Met.ofW (cc := cX10_harm) (maxL := 4) (ret := (some .int)) (by decide) rfl ?_
  intro p e s m args below meth c s₁ B hml hv
  obtain ⟨rfl, hsz, hP, hK, hD0⟩ := hv
  have hx := B.exec
  have hb := B.bytes
  have hr := B.returns
  have hg : ∀ w ∈ GT, w.before ([.ref h0, .int i, .int g, .int tb] : List Value).toArray s = true := fun w h => atoms_spec (ws := Cond.code yX10_harm cX10_harm 4 (some .int) :: GT) B.pre w (List.mem_cons_of_mem _ h)
  have hown : s.vm.findClass RX10 = some m.cls := findClass_of_methodNamed B.named
  have hlocks := B.notSynchronized
  subst hsz
  have hD := hD0.self (sz := s.heap.size)
  generalize hAe : va_A [(h0, .inr (10, [.ref rd, .ref wy, .ref tr, .ref im, .ref kp, .ref od, .ref ch, .ref cr, .ref le, .ref mk, .ref tl, .ref sh, .int 0, .int 0])), (wy, .inr (9, [.int 0, .int 0, .int 5, .ref a1, .ref a2, .ref a3, .ref a4, .ref a5, .ref a6]))] s.heap.size = A at hD ⊢
  have hA : ∀ q : Nat, s.heap.size ≤ q → A q := fun q h => by rw [← hAe]; exact Or.inr h
  have hS : va_S A s.heap s.heap [] := va_S.rf
  have hl := lv_entry ([.ref h0, .int i, .int g, .int tb]) (n := 4) (Nat.le_of_ble_eq_true rfl)
  rw [lg_entry_eq]
  generalize (lg_sl ([.ref h0, .int i, .int g, .int tb]) ++ List.replicate (4 - (lg_sl ([.ref h0, .int i, .int g, .int tb])).length) Slot.unset).toArray = ls at hl ⊢
  have hl : lv_has ls 4 [(0, .ref h0), (1, .int i), (2, .int g), (3, .int tb)] := hl
  refine lv_aload_n hx hb dX10_harm_0 rfl (lv_at hl 0 rfl) ?_
  refine va_get (D := (dC, dI)) (ci := 10) (v := .ref wy) (C := RX10) (T := TX10) (N := 14) hx hb hg inG10 hown hK.1 hP 0 rfl rfl 1 (by decide) (hg _ wt_303) (fun _ h9 => h9) rfl dX10_harm_1 ?_
  refine lv_iload_n hx hb dX10_harm_4 rfl (lv_at hl 1 rfl) ?_
  refine lv_iload_n hx hb dX10_harm_5 rfl (lv_at hl 2 rfl) ?_
  refine lv_iload_n hx hb dX10_harm_6 rfl (lv_at hl 3 rfl) ?_
  have hPc := hP.sub (ws' := [(wy, .inr (9, [.int 0, .int 0, .int 5, .ref a1, .ref a2, .ref a3, .ref a4, .ref a5, .ref a6]))]) [1] rfl
  refine va_calli (va_runVN (As := [.int i, .int g, .int tb]) (rest := []) ⟨hx, hb, hml, hown, hg⟩ (c_X9_canHand l dC dI G _ wy a1 a2 a3 a4 a5 a6 i g tb ) (kwVN hg hK mfX9_canHand wn_570 ⟨Nat.le_of_ble_eq_true rfl, Nat.le_of_ble_eq_true rfl⟩) (preVR hK hPc (ci := 9) rfl rfl) rfl rfl hl.1 rfl (lv_room (Nat.le_of_ble_eq_true rfl)) dX10_harm_7 ⟨Nat.le_of_ble_eq_true rfl, Nat.le_of_ble_eq_true rfl⟩) hS (fun q h1 h2 => absurd h2 (Nat.not_le.mpr h1)) (fun q h => hA q (Nat.le_trans hS.1 h)) (fun r1 ur1 t H1 locs ht hvm w2 hB hz1 hk1 hS => ?_)
  have hP := keepR hP hk1
  obtain ⟨w2, w2x⟩ := w2
  subst w2
  refine lv_if_eq (tgt := 26) hx hb dX10_harm_10 (by decide) (fun c3 => ?_) (fun c3 => ?_)
  · skip
    refine lv_iconst (v := (-1)) hx hb dX10_harm_26 (by decide) ?_
    have hpost : ((-1) : Int32) = -1 := by
      have t_c3 := eqI c3
      have : (0 : Int32).toInt = 0 := (by decide)
      first | rfl | ((repeat' split) <;> first | rfl | omega)
    refine W.widen (k := 0) (n := 0) (by omega) (by omega) ?_
    exact W.iret (v := (-1)) hx hb hr (fun t ht hW => ⟨⟨(-1), (), rfl, ⟨hpost, trivial⟩, trivial⟩, hS.F ht⟩) hS.2.2 dX10_harm_27
  · skip
    exact absurd c3 (by decide)

set_option maxHeartbeats 4000000 in
set_option maxRecDepth 100000 in
theorem c_X10_wakes (l : Launch) (dC : Nat → ClassId) (dI : Nat → Nat → Nat) (G : Nat → ClassId) (sz : Nat) (h0 rd wy tr im kp od ch cr le mk tl sh sa aa a1 a2 a3 a4 a5 a6 : Nat) (what : Int32)   : Met l yX10_wakes (Cond.code yX10_wakes cX10_wakes 2 (some .long) :: GT) ({ frames := 2, cells := 0, slots := 0, locals := 56 } : Room) (PcW [.ref h0, .int what] dC dI G [(h0, .inr (10, [.ref rd, .ref wy, .ref tr, .ref im, .ref kp, .ref od, .ref ch, .ref cr, .ref le, .ref mk, .ref tl, .ref sh, .int 0, .int 0])), (od, .inr (4, [.long 1, .ref sa, .ref aa])), (sa, .inl (G 1, 10, .inr (.inl (fun _ => 0)))), (wy, .inr (9, [.int 0, .int 0, .int 5, .ref a1, .ref a2, .ref a3, .ref a4, .ref a5, .ref a6]))] sz) (va_Ql (fun (r : Int64) (u : Unit) => match u with | _ => (r = if what.toInt = 0 then 0 else if what.toInt = 1 then 1 else -1) ∧ True) (fun _ _ => True) (va_A [(h0, .inr (10, [.ref rd, .ref wy, .ref tr, .ref im, .ref kp, .ref od, .ref ch, .ref cr, .ref le, .ref mk, .ref tl, .ref sh, .int 0, .int 0])), (od, .inr (4, [.long 1, .ref sa, .ref aa])), (sa, .inl (G 1, 10, .inr (.inl (fun _ => 0)))), (wy, .inr (9, [.int 0, .int 0, .int 5, .ref a1, .ref a2, .ref a3, .ref a4, .ref a5, .ref a6]))] sz)) 0 0 (va_A [(h0, .inr (10, [.ref rd, .ref wy, .ref tr, .ref im, .ref kp, .ref od, .ref ch, .ref cr, .ref le, .ref mk, .ref tl, .ref sh, .int 0, .int 0])), (od, .inr (4, [.long 1, .ref sa, .ref aa])), (sa, .inl (G 1, 10, .inr (.inl (fun _ => 0)))), (wy, .inr (9, [.int 0, .int 0, .int 5, .ref a1, .ref a2, .ref a3, .ref a4, .ref a5, .ref a6]))] sz) := by
  refine Met.ofW (cc := cX10_wakes) (maxL := 2) (ret := (some .long)) (by decide) rfl ?_
  intro p e s m args below meth c s₁ B hml hv
  obtain ⟨rfl, hsz, hP, hK, hD0⟩ := hv
  have hx := B.exec
  have hb := B.bytes
  have hr := B.returns
  have hg : ∀ w ∈ GT, w.before ([.ref h0, .int what] : List Value).toArray s = true := fun w h => atoms_spec (ws := Cond.code yX10_wakes cX10_wakes 2 (some .long) :: GT) B.pre w (List.mem_cons_of_mem _ h)
  have hown : s.vm.findClass RX10 = some m.cls := findClass_of_methodNamed B.named
  have hlocks := B.notSynchronized
  subst hsz
  have hD := hD0.self (sz := s.heap.size)
  generalize hAe : va_A [(h0, .inr (10, [.ref rd, .ref wy, .ref tr, .ref im, .ref kp, .ref od, .ref ch, .ref cr, .ref le, .ref mk, .ref tl, .ref sh, .int 0, .int 0])), (od, .inr (4, [.long 1, .ref sa, .ref aa])), (sa, .inl (G 1, 10, .inr (.inl (fun _ => 0)))), (wy, .inr (9, [.int 0, .int 0, .int 5, .ref a1, .ref a2, .ref a3, .ref a4, .ref a5, .ref a6]))] s.heap.size = A at hD ⊢
  have hA : ∀ q : Nat, s.heap.size ≤ q → A q := fun q h => by rw [← hAe]; exact Or.inr h
  have hS : va_S A s.heap s.heap [] := va_S.rf
  have hl := lv_entry ([.ref h0, .int what]) (n := 2) (Nat.le_of_ble_eq_true rfl)
  rw [lg_entry_eq]
  generalize (lg_sl ([.ref h0, .int what]) ++ List.replicate (2 - (lg_sl ([.ref h0, .int what])).length) Slot.unset).toArray = ls at hl ⊢
  have hl : lv_has ls 2 [(0, .ref h0), (1, .int what)] := hl
  refine lv_iload_n hx hb dX10_wakes_0 rfl (lv_at hl 1 rfl) ?_
  have hPc := hP.sub (ws' := []) [] rfl
  refine va_calli (va_runS (As := [.int what]) (rest := []) ⟨hx, hb, hml, hown, hg⟩ (c_X10_isFractionPart l dC dI G _ what ) (kwS hg mfX10_isFractionPart wt_604 ⟨Nat.le_of_ble_eq_true rfl, Nat.le_of_ble_eq_true rfl⟩) (preSR hK hPc) rfl rfl hl.1 rfl (lv_room (Nat.le_of_ble_eq_true rfl)) dX10_wakes_1 ⟨Nat.le_of_ble_eq_true rfl, Nat.le_of_ble_eq_true rfl⟩) hS (fun q h1 h2 => absurd h2 (Nat.not_le.mpr h1)) (fun q h => hA q (Nat.le_trans hS.1 h)) (fun r1 ur1 t H1 locs ht hvm w2 hB hz1 hk1 hS => ?_)
  have hP := keepR hP hk1
  obtain ⟨w2, w2x⟩ := w2
  try simp only [l_ii, show (0 : Int32).toInt = 0 from by decide, show (1 : Int32).toInt = 1 from by decide] at w2
  subst w2
  refine lv_if_ne (tgt := 11) hx hb dX10_wakes_4 (by decide) (fun c3 => ?_) (fun c3 => ?_)
  · skip
    have b4 := if10_p c3
    refine lv_aload_n hx hb dX10_wakes_11 rfl (lv_at hl 0 rfl) ?_
    refine va_get (D := (dC, dI)) (ci := 10) (v := .ref od) (C := RX10) (T := TX10) (N := 14) hx hb hg inG10 hown hK.1 hP 0 rfl rfl 5 (by decide) (hg _ wt_307) (fun _ h9 => h9) rfl dX10_wakes_12 ?_
    refine lv_aload_n hx hb dX10_wakes_15 rfl (lv_at hl 0 rfl) ?_
    refine va_get (D := (dC, dI)) (ci := 10) (v := .ref wy) (C := RX10) (T := TX10) (N := 14) hx hb hg inG10 hown hK.1 hP 0 rfl rfl 1 (by decide) (hg _ wt_303) (fun _ h9 => h9) rfl dX10_wakes_16 ?_
    refine lv_aload_n hx hb dX10_wakes_19 rfl (lv_at hl 0 rfl) ?_
    refine va_get (D := (dC, dI)) (ci := 10) (v := .ref wy) (C := RX10) (T := TX10) (N := 14) hx hb hg inG10 hown hK.1 hP 0 rfl rfl 1 (by decide) (hg _ wt_303) (fun _ h9 => h9) rfl dX10_wakes_20 ?_
    refine va_getN (D := (dC, dI)) (ci := 9) (v := .int 0) (C := RX9) (T := TX9) (N := 9) hx hb hg inG9 hown hK.1 hP 3 rfl rfl 0 (by decide) (hK.nest wn_60) (fun _ h9 => h9) rfl dX10_wakes_23 ?_
    refine lv_bipush (v := (-4)) hx hb dX10_wakes_26 (by decide) ?_
    have hPc := hP.sub (ws' := [(od, .inr (4, [.long 1, .ref sa, .ref aa])), (sa, .inl (G 1, 10, .inr (.inl (fun _ => 0)))), (wy, .inr (9, [.int 0, .int 0, .int 5, .ref a1, .ref a2, .ref a3, .ref a4, .ref a5, .ref a6]))]) [1, 2, 3] rfl
    have hDc := hD.sub (ws' := [(od, .inr (4, [.long 1, .ref sa, .ref aa])), (sa, .inl (G 1, 10, .inr (.inl (fun _ => 0)))), (wy, .inr (9, [.int 0, .int 0, .int 5, .ref a1, .ref a2, .ref a3, .ref a4, .ref a5, .ref a6]))]) [1, 2, 3] (by decide) rfl
    have hFc := va_free (wc := [(od, .inr (4, [.long 1, .ref sa, .ref aa])), (sa, .inl (G 1, 10, .inr (.inl (fun _ => 0)))), (wy, .inr (9, [.int 0, .int 0, .int 5, .ref a1, .ref a2, .ref a3, .ref a4, .ref a5, .ref a6]))]) hD hS hA [1, 2, 3] rfl
    refine va_calll (va_runVN (As := [.ref wy, .int 0, .int (-4)]) (rest := []) ⟨hx, hb, hml, hown, hg⟩ (c_X4_waking l dC dI G _ od sa aa wy a1 a2 a3 a4 a5 a6 1 (fun _ => 0) (-4) ) (kwVN hg hK mfX4_waking wn_608 ⟨Nat.le_of_ble_eq_true rfl, Nat.le_of_ble_eq_true rfl⟩) (preVW hK hPc hDc (ci := 4) rfl rfl) rfl rfl hl.1 rfl (lv_room (Nat.le_of_ble_eq_true rfl)) dX10_wakes_28 ⟨Nat.le_of_ble_eq_true rfl, Nat.le_of_ble_eq_true rfl⟩) hS (fun q _ h => hFc q h) hFc (fun r5 ur5 t H1 locs ht hvm w6 hB hz1 hk1 hS => ?_)
    obtain ⟨hP1, hD1⟩ := hB
    rw [ht] at hP1
    obtain ⟨hP, hD⟩ := va_join (wr := [(h0, .inr (10, [.ref rd, .ref wy, .ref tr, .ref im, .ref kp, .ref od, .ref ch, .ref cr, .ref le, .ref mk, .ref tl, .ref sh, .int 0, .int 0]))]) (w1 := [(od, .inr (4, [.long 1, .ref sa, .ref aa])), (wy, .inr (9, [.int 0, .int 0, .int 5, .ref a1, .ref a2, .ref a3, .ref a4, .ref a5, .ref a6]))]) hP hD [1, 2, 3] [0] rfl rfl (by decide) (by decide) hk1 hFc hP1 hD1
    generalize H1 = H at hP hS ⊢
    have hP : va_P (dC, dI) vwCl [(h0, .inr (10, [.ref rd, .ref wy, .ref tr, .ref im, .ref kp, .ref od, .ref ch, .ref cr, .ref le, .ref mk, .ref tl, .ref sh, .int 0, .int 0])), (od, .inr (4, [.long 1, .ref sa, .ref aa])), (wy, .inr (9, [.int 0, .int 0, .int 5, .ref a1, .ref a2, .ref a3, .ref a4, .ref a5, .ref a6]))] H := hP
    have hD : va_D A [(h0, .inr (10, [.ref rd, .ref wy, .ref tr, .ref im, .ref kp, .ref od, .ref ch, .ref cr, .ref le, .ref mk, .ref tl, .ref sh, .int 0, .int 0])), (od, .inr (4, [.long 1, .ref sa, .ref aa])), (wy, .inr (9, [.int 0, .int 0, .int 5, .ref a1, .ref a2, .ref a3, .ref a4, .ref a5, .ref a6]))] := hD
    obtain ⟨w6, w6x⟩ := w6
    subst w6
    refine lv_aload_n hx hb dX10_wakes_31 rfl (lv_at hl 0 rfl) ?_
    refine va_get (D := (dC, dI)) (ci := 10) (v := .ref od) (C := RX10) (T := TX10) (N := 14) hx hb hg inG10 hown hK.1 hP 0 rfl rfl 5 (by decide) (hg _ wt_307) (fun _ h9 => h9) rfl dX10_wakes_32 ?_
    refine va_getN (D := (dC, dI)) (ci := 4) (v := .long 1) (C := RX4) (T := TX4) (N := 3) hx hb hg inG4 hown hK.1 hP 1 rfl rfl 0 (by decide) (hK.nest wn_157) (fun _ h9 => h9) rfl dX10_wakes_35 ?_
    refine lv_iload_n hx hb dX10_wakes_38 rfl (lv_at hl 1 rfl) ?_
    have hPc := hP.sub (ws' := []) [] rfl
    refine va_calll (va_runS (As := [.long 0, .long 1, .int what]) (rest := []) ⟨hx, hb, hml, hown, hg⟩ (c_X10_fraction l dC dI G _ what ) (kwS hg mfX10_fraction wt_635 ⟨Nat.le_of_ble_eq_true rfl, Nat.le_of_ble_eq_true rfl⟩) (preSR hK hPc) rfl rfl hl.1 rfl (lv_room (Nat.le_of_ble_eq_true rfl)) dX10_wakes_39 ⟨Nat.le_of_ble_eq_true rfl, Nat.le_of_ble_eq_true rfl⟩) hS (fun q h1 h2 => absurd h2 (Nat.not_le.mpr h1)) (fun q h => hA q (Nat.le_trans hS.1 h)) (fun r7 ur7 t H1 locs ht hvm w8 hB hz1 hk1 hS => ?_)
    have hP := keepR hP hk1
    obtain ⟨w8, w8x⟩ := w8
    subst w8
    have hpost : (if what.toInt = 0 then 0 else 1 : Int64) = if what.toInt = 0 then 0 else if what.toInt = 1 then 1 else -1 := by
      have t_b4 := b4
      first | rfl | ((repeat' split) <;> first | rfl | omega)
    refine W.widen (k := 0) (n := 0) (by omega) (by omega) ?_
    exact W.lret (v := if what.toInt = 0 then 0 else 1) hx hb hr (fun t ht hW => ⟨⟨if what.toInt = 0 then 0 else 1, (), rfl, ⟨hpost, trivial⟩, trivial⟩, hS.F ht⟩) hS.2.2 dX10_wakes_42
  · skip
    have b9 := if10_n c3
    refine lv_ldc2 (v := (-1)) hx hb hown (hg _ wt_607) dX10_wakes_7 ?_
    have hpost : ((-1) : Int64) = if what.toInt = 0 then 0 else if what.toInt = 1 then 1 else -1 := by
      have t_b9 := b9
      first | rfl | ((repeat' split) <;> first | rfl | omega)
    refine W.widen (k := 0) (n := 0) (by omega) (by omega) ?_
    exact W.lret (v := (-1)) hx hb hr (fun t ht hW => ⟨⟨(-1), (), rfl, ⟨hpost, trivial⟩, trivial⟩, hS.F ht⟩) hS.2.2 dX10_wakes_10

set_option maxHeartbeats 4000000 in
set_option maxRecDepth 100000 in
theorem c_X10_depth (l : Launch) (dC : Nat → ClassId) (dI : Nat → Nat → Nat) (G : Nat → ClassId) (sz : Nat) (h0 rd wy tr im kp od ch cr le mk tl sh a1 a2 a3 a4 a5 a6 : Nat) (i q what : Int32)   : Met l yX10_depth (Cond.code yX10_depth cX10_depth 4 (some .long) :: GT) ({ frames := 1, cells := 0, slots := 0, locals := 21 } : Room) (PcW [.ref h0, .int i, .int q, .int what] dC dI G [(h0, .inr (10, [.ref rd, .ref wy, .ref tr, .ref im, .ref kp, .ref od, .ref ch, .ref cr, .ref le, .ref mk, .ref tl, .ref sh, .int 0, .int 0])), (wy, .inr (9, [.int 0, .int 0, .int 5, .ref a1, .ref a2, .ref a3, .ref a4, .ref a5, .ref a6]))] sz) (va_Ql (fun (r : Int64) (u : Unit) => match u with | _ => (r = -1) ∧ True) (fun _ _ => True) (va_A [(h0, .inr (10, [.ref rd, .ref wy, .ref tr, .ref im, .ref kp, .ref od, .ref ch, .ref cr, .ref le, .ref mk, .ref tl, .ref sh, .int 0, .int 0])), (wy, .inr (9, [.int 0, .int 0, .int 5, .ref a1, .ref a2, .ref a3, .ref a4, .ref a5, .ref a6]))] sz)) 0 0 (va_A [(h0, .inr (10, [.ref rd, .ref wy, .ref tr, .ref im, .ref kp, .ref od, .ref ch, .ref cr, .ref le, .ref mk, .ref tl, .ref sh, .int 0, .int 0])), (wy, .inr (9, [.int 0, .int 0, .int 5, .ref a1, .ref a2, .ref a3, .ref a4, .ref a5, .ref a6]))] sz) := by
  refine Met.ofW (cc := cX10_depth) (maxL := 4) (ret := (some .long)) (by decide) rfl ?_
  intro p e s m args below meth c s₁ B hml hv
  obtain ⟨rfl, hsz, hP, hK, hD0⟩ := hv
  have hx := B.exec
  have hb := B.bytes
  have hr := B.returns
  have hg : ∀ w ∈ GT, w.before ([.ref h0, .int i, .int q, .int what] : List Value).toArray s = true := fun w h => atoms_spec (ws := Cond.code yX10_depth cX10_depth 4 (some .long) :: GT) B.pre w (List.mem_cons_of_mem _ h)
  have hown : s.vm.findClass RX10 = some m.cls := findClass_of_methodNamed B.named
  have hlocks := B.notSynchronized
  subst hsz
  have hD := hD0.self (sz := s.heap.size)
  generalize hAe : va_A [(h0, .inr (10, [.ref rd, .ref wy, .ref tr, .ref im, .ref kp, .ref od, .ref ch, .ref cr, .ref le, .ref mk, .ref tl, .ref sh, .int 0, .int 0])), (wy, .inr (9, [.int 0, .int 0, .int 5, .ref a1, .ref a2, .ref a3, .ref a4, .ref a5, .ref a6]))] s.heap.size = A at hD ⊢
  have hA : ∀ q : Nat, s.heap.size ≤ q → A q := fun q h => by rw [← hAe]; exact Or.inr h
  have hS : va_S A s.heap s.heap [] := va_S.rf
  have hl := lv_entry ([.ref h0, .int i, .int q, .int what]) (n := 4) (Nat.le_of_ble_eq_true rfl)
  rw [lg_entry_eq]
  generalize (lg_sl ([.ref h0, .int i, .int q, .int what]) ++ List.replicate (4 - (lg_sl ([.ref h0, .int i, .int q, .int what])).length) Slot.unset).toArray = ls at hl ⊢
  have hl : lv_has ls 4 [(0, .ref h0), (1, .int i), (2, .int q), (3, .int what)] := hl
  refine lv_aload_n hx hb dX10_depth_0 rfl (lv_at hl 0 rfl) ?_
  refine va_get (D := (dC, dI)) (ci := 10) (v := .ref wy) (C := RX10) (T := TX10) (N := 14) hx hb hg inG10 hown hK.1 hP 0 rfl rfl 1 (by decide) (hg _ wt_303) (fun _ h9 => h9) rfl dX10_depth_1 ?_
  refine lv_iload_n hx hb dX10_depth_4 rfl (lv_at hl 1 rfl) ?_
  have hPc := hP.sub (ws' := [(wy, .inr (9, [.int 0, .int 0, .int 5, .ref a1, .ref a2, .ref a3, .ref a4, .ref a5, .ref a6]))]) [1] rfl
  refine va_calli (va_runVN (As := [.int i]) (rest := []) ⟨hx, hb, hml, hown, hg⟩ (c_X9_hasStretch l dC dI G _ wy a1 a2 a3 a4 a5 a6 0 0 5 i ) (kwVN hg hK mfX9_hasStretch wn_527 ⟨Nat.le_of_ble_eq_true rfl, Nat.le_of_ble_eq_true rfl⟩) (preVR hK hPc (ci := 9) rfl rfl) rfl rfl hl.1 rfl (lv_room (Nat.le_of_ble_eq_true rfl)) dX10_depth_5 ⟨Nat.le_of_ble_eq_true rfl, Nat.le_of_ble_eq_true rfl⟩) hS (fun q h1 h2 => absurd h2 (Nat.not_le.mpr h1)) (fun q h => hA q (Nat.le_trans hS.1 h)) (fun r1 ur1 t H1 locs ht hvm w2 hB hz1 hk1 hS => ?_)
  have hP := keepR hP hk1
  obtain ⟨w2, w2x⟩ := w2
  try simp only [l_ii, show (0 : Int32).toInt = 0 from by decide, show (0 : Int32).toInt = 0 from by decide] at w2
  have w2 : r1 = 0 := w2.trans (if_neg (by omega))
  subst w2
  refine lv_if_eq (tgt := 25) hx hb dX10_depth_8 (by decide) (fun c3 => ?_) (fun c3 => ?_)
  · skip
    refine lv_ldc2 (v := (-1)) hx hb hown (hg _ wt_607) dX10_depth_25 ?_
    have hpost : ((-1) : Int64) = -1 := by
      have t_c3 := eqI c3
      have : (0 : Int32).toInt = 0 := (by decide)
      first | rfl | ((repeat' split) <;> first | rfl | omega)
    refine W.widen (k := 0) (n := 0) (by omega) (by omega) ?_
    exact W.lret (v := (-1)) hx hb hr (fun t ht hW => ⟨⟨(-1), (), rfl, ⟨hpost, trivial⟩, trivial⟩, hS.F ht⟩) hS.2.2 dX10_depth_28
  · skip
    exact absurd c3 (by decide)

set_option maxHeartbeats 4000000 in
set_option maxRecDepth 100000 in
theorem c_X10_awake (l : Launch) (dC : Nat → ClassId) (dI : Nat → Nat → Nat) (G : Nat → ClassId) (sz : Nat) (h0 rd wy tr im kp od ch cr le mk tl sh a1 a2 a3 a4 a5 a6 : Nat) (i what : Int32)   : Met l yX10_awake (Cond.code yX10_awake cX10_awake 3 (some .long) :: GT) ({ frames := 2, cells := 0, slots := 0, locals := 44 } : Room) (PcW [.ref h0, .int i, .int what] dC dI G [(h0, .inr (10, [.ref rd, .ref wy, .ref tr, .ref im, .ref kp, .ref od, .ref ch, .ref cr, .ref le, .ref mk, .ref tl, .ref sh, .int 0, .int 0])), (wy, .inr (9, [.int 0, .int 0, .int 5, .ref a1, .ref a2, .ref a3, .ref a4, .ref a5, .ref a6]))] sz) (va_Ql (fun (r : Int64) (u : Unit) => match u with | _ => (r = -1) ∧ True) (fun _ _ => True) (va_A [(h0, .inr (10, [.ref rd, .ref wy, .ref tr, .ref im, .ref kp, .ref od, .ref ch, .ref cr, .ref le, .ref mk, .ref tl, .ref sh, .int 0, .int 0])), (wy, .inr (9, [.int 0, .int 0, .int 5, .ref a1, .ref a2, .ref a3, .ref a4, .ref a5, .ref a6]))] sz)) 0 0 (va_A [(h0, .inr (10, [.ref rd, .ref wy, .ref tr, .ref im, .ref kp, .ref od, .ref ch, .ref cr, .ref le, .ref mk, .ref tl, .ref sh, .int 0, .int 0])), (wy, .inr (9, [.int 0, .int 0, .int 5, .ref a1, .ref a2, .ref a3, .ref a4, .ref a5, .ref a6]))] sz) := by
  refine Met.ofW (cc := cX10_awake) (maxL := 3) (ret := (some .long)) (by decide) rfl ?_
  intro p e s m args below meth c s₁ B hml hv
  obtain ⟨rfl, hsz, hP, hK, hD0⟩ := hv
  have hx := B.exec
  have hb := B.bytes
  have hr := B.returns
  have hg : ∀ w ∈ GT, w.before ([.ref h0, .int i, .int what] : List Value).toArray s = true := fun w h => atoms_spec (ws := Cond.code yX10_awake cX10_awake 3 (some .long) :: GT) B.pre w (List.mem_cons_of_mem _ h)
  have hown : s.vm.findClass RX10 = some m.cls := findClass_of_methodNamed B.named
  have hlocks := B.notSynchronized
  subst hsz
  have hD := hD0.self (sz := s.heap.size)
  generalize hAe : va_A [(h0, .inr (10, [.ref rd, .ref wy, .ref tr, .ref im, .ref kp, .ref od, .ref ch, .ref cr, .ref le, .ref mk, .ref tl, .ref sh, .int 0, .int 0])), (wy, .inr (9, [.int 0, .int 0, .int 5, .ref a1, .ref a2, .ref a3, .ref a4, .ref a5, .ref a6]))] s.heap.size = A at hD ⊢
  have hA : ∀ q : Nat, s.heap.size ≤ q → A q := fun q h => by rw [← hAe]; exact Or.inr h
  have hS : va_S A s.heap s.heap [] := va_S.rf
  have hl := lv_entry ([.ref h0, .int i, .int what]) (n := 3) (Nat.le_of_ble_eq_true rfl)
  rw [lg_entry_eq]
  generalize (lg_sl ([.ref h0, .int i, .int what]) ++ List.replicate (3 - (lg_sl ([.ref h0, .int i, .int what])).length) Slot.unset).toArray = ls at hl ⊢
  have hl : lv_has ls 3 [(0, .ref h0), (1, .int i), (2, .int what)] := hl
  refine lv_aload_n hx hb dX10_awake_0 rfl (lv_at hl 0 rfl) ?_
  refine lv_iload_n hx hb dX10_awake_1 rfl (lv_at hl 1 rfl) ?_
  refine lv_iconst (v := 0) hx hb dX10_awake_2 (by decide) ?_
  refine lv_iload_n hx hb dX10_awake_3 rfl (lv_at hl 2 rfl) ?_
  have hPc := hP.sub (ws' := [(h0, .inr (10, [.ref rd, .ref wy, .ref tr, .ref im, .ref kp, .ref od, .ref ch, .ref cr, .ref le, .ref mk, .ref tl, .ref sh, .int 0, .int 0])), (wy, .inr (9, [.int 0, .int 0, .int 5, .ref a1, .ref a2, .ref a3, .ref a4, .ref a5, .ref a6]))]) [0, 1] rfl
  have hDc := hD.sub (ws' := [(h0, .inr (10, [.ref rd, .ref wy, .ref tr, .ref im, .ref kp, .ref od, .ref ch, .ref cr, .ref le, .ref mk, .ref tl, .ref sh, .int 0, .int 0])), (wy, .inr (9, [.int 0, .int 0, .int 5, .ref a1, .ref a2, .ref a3, .ref a4, .ref a5, .ref a6]))]) [0, 1] (by decide) rfl
  have hFc := va_free (wc := [(h0, .inr (10, [.ref rd, .ref wy, .ref tr, .ref im, .ref kp, .ref od, .ref ch, .ref cr, .ref le, .ref mk, .ref tl, .ref sh, .int 0, .int 0])), (wy, .inr (9, [.int 0, .int 0, .int 5, .ref a1, .ref a2, .ref a3, .ref a4, .ref a5, .ref a6]))]) hD hS hA [0, 1] rfl
  refine va_calll (va_runV (As := [.int i, .int 0, .int what]) (rest := []) ⟨hx, hb, hml, hown, hg⟩ (c_X10_depth l dC dI G _ h0 rd wy tr im kp od ch cr le mk tl sh a1 a2 a3 a4 a5 a6 i 0 what ) (kwV hg mfX10_depth wt_645 ⟨Nat.le_of_ble_eq_true rfl, Nat.le_of_ble_eq_true rfl⟩) (preVW hK hPc hDc (ci := 10) rfl rfl) rfl rfl hl.1 rfl (lv_room (Nat.le_of_ble_eq_true rfl)) dX10_awake_4 ⟨Nat.le_of_ble_eq_true rfl, Nat.le_of_ble_eq_true rfl⟩) hS (fun q _ h => hFc q h) hFc (fun r1 ur1 t H1 locs ht hvm w2 hB hz1 hk1 hS => ?_)
  have hP1 := va_nilP (D := (dC, dI)) (cl := vwCl) (H := H1)
  obtain ⟨hP, hD⟩ := va_join (wr := []) (w1 := []) hP hD [0, 1] [] rfl rfl (by decide) (by decide) hk1 hFc hP1 va_nilD
  generalize H1 = H at hP hS ⊢
  have hP : va_P (dC, dI) vwCl [] H := hP
  have hD : va_D A [] := hD
  obtain ⟨w2, w2x⟩ := w2
  have hpost : (r1 : Int64) = -1 := by
    first | rfl | ((repeat' split) <;> first | rfl | omega)
  refine W.widen (k := 0) (n := 0) (by omega) (by omega) ?_
  exact W.lret (v := r1) hx hb hr (fun t ht hW => ⟨⟨r1, (), rfl, ⟨hpost, trivial⟩, trivial⟩, hS.F ht⟩) hS.2.2 dX10_awake_7

set_option maxHeartbeats 4000000 in
set_option maxRecDepth 100000 in
theorem c_X10_best (l : Launch) (dC : Nat → ClassId) (dI : Nat → Nat → Nat) (G : Nat → ClassId) (sz : Nat) (h0 rd wy tr im kp od ch cr le mk tl sh wk cs a1 a2 a3 a4 a5 a6 : Nat) (what : Int32) (rw : Nat → Nat)  : Met l yX10_best (Cond.code yX10_best cX10_best 2 (some .long) :: GT) ({ frames := 2, cells := 0, slots := 0, locals := 56 } : Room) (PcW [.ref h0, .int what] dC dI G [(h0, .inr (10, [.ref rd, .ref wy, .ref tr, .ref im, .ref kp, .ref od, .ref ch, .ref cr, .ref le, .ref mk, .ref tl, .ref sh, .int 0, .int 0])), (ch, .inr (0, [.long 1, .ref wk, .ref cs])), (wk, .inl (G 5, 11, .inr (.inr (.inr (.inr (fun i => if i < 11 then some (rw i) else none)))))), ((rw 0), .inl (G 1, 70, .inr (.inl (fun _ => 0)))), (wy, .inr (9, [.int 0, .int 0, .int 5, .ref a1, .ref a2, .ref a3, .ref a4, .ref a5, .ref a6]))] sz) (va_Ql (fun (r : Int64) (u : Unit) => match u with | _ => (r = if what.toInt = 0 then 0 else if what.toInt = 1 then 1 else -1) ∧ True) (fun _ _ => True) (va_A [(h0, .inr (10, [.ref rd, .ref wy, .ref tr, .ref im, .ref kp, .ref od, .ref ch, .ref cr, .ref le, .ref mk, .ref tl, .ref sh, .int 0, .int 0])), (ch, .inr (0, [.long 1, .ref wk, .ref cs])), (wk, .inl (G 5, 11, .inr (.inr (.inr (.inr (fun i => if i < 11 then some (rw i) else none)))))), ((rw 0), .inl (G 1, 70, .inr (.inl (fun _ => 0)))), (wy, .inr (9, [.int 0, .int 0, .int 5, .ref a1, .ref a2, .ref a3, .ref a4, .ref a5, .ref a6]))] sz)) 0 0 (va_A [(h0, .inr (10, [.ref rd, .ref wy, .ref tr, .ref im, .ref kp, .ref od, .ref ch, .ref cr, .ref le, .ref mk, .ref tl, .ref sh, .int 0, .int 0])), (ch, .inr (0, [.long 1, .ref wk, .ref cs])), (wk, .inl (G 5, 11, .inr (.inr (.inr (.inr (fun i => if i < 11 then some (rw i) else none)))))), ((rw 0), .inl (G 1, 70, .inr (.inl (fun _ => 0)))), (wy, .inr (9, [.int 0, .int 0, .int 5, .ref a1, .ref a2, .ref a3, .ref a4, .ref a5, .ref a6]))] sz) := by
  refine Met.ofW (cc := cX10_best) (maxL := 2) (ret := (some .long)) (by decide) rfl ?_
  intro p e s m args below meth c s₁ B hml hv
  obtain ⟨rfl, hsz, hP, hK, hD0⟩ := hv
  have hx := B.exec
  have hb := B.bytes
  have hr := B.returns
  have hg : ∀ w ∈ GT, w.before ([.ref h0, .int what] : List Value).toArray s = true := fun w h => atoms_spec (ws := Cond.code yX10_best cX10_best 2 (some .long) :: GT) B.pre w (List.mem_cons_of_mem _ h)
  have hown : s.vm.findClass RX10 = some m.cls := findClass_of_methodNamed B.named
  have hlocks := B.notSynchronized
  subst hsz
  have hD := hD0.self (sz := s.heap.size)
  generalize hAe : va_A [(h0, .inr (10, [.ref rd, .ref wy, .ref tr, .ref im, .ref kp, .ref od, .ref ch, .ref cr, .ref le, .ref mk, .ref tl, .ref sh, .int 0, .int 0])), (ch, .inr (0, [.long 1, .ref wk, .ref cs])), (wk, .inl (G 5, 11, .inr (.inr (.inr (.inr (fun i => if i < 11 then some (rw i) else none)))))), ((rw 0), .inl (G 1, 70, .inr (.inl (fun _ => 0)))), (wy, .inr (9, [.int 0, .int 0, .int 5, .ref a1, .ref a2, .ref a3, .ref a4, .ref a5, .ref a6]))] s.heap.size = A at hD ⊢
  have hA : ∀ q : Nat, s.heap.size ≤ q → A q := fun q h => by rw [← hAe]; exact Or.inr h
  have hS : va_S A s.heap s.heap [] := va_S.rf
  have hl := lv_entry ([.ref h0, .int what]) (n := 2) (Nat.le_of_ble_eq_true rfl)
  rw [lg_entry_eq]
  generalize (lg_sl ([.ref h0, .int what]) ++ List.replicate (2 - (lg_sl ([.ref h0, .int what])).length) Slot.unset).toArray = ls at hl ⊢
  have hl : lv_has ls 2 [(0, .ref h0), (1, .int what)] := hl
  refine lv_iload_n hx hb dX10_best_0 rfl (lv_at hl 1 rfl) ?_
  have hPc := hP.sub (ws' := []) [] rfl
  refine va_calli (va_runS (As := [.int what]) (rest := []) ⟨hx, hb, hml, hown, hg⟩ (c_X10_isFractionPart l dC dI G _ what ) (kwS hg mfX10_isFractionPart wt_604 ⟨Nat.le_of_ble_eq_true rfl, Nat.le_of_ble_eq_true rfl⟩) (preSR hK hPc) rfl rfl hl.1 rfl (lv_room (Nat.le_of_ble_eq_true rfl)) dX10_best_1 ⟨Nat.le_of_ble_eq_true rfl, Nat.le_of_ble_eq_true rfl⟩) hS (fun q h1 h2 => absurd h2 (Nat.not_le.mpr h1)) (fun q h => hA q (Nat.le_trans hS.1 h)) (fun r1 ur1 t H1 locs ht hvm w2 hB hz1 hk1 hS => ?_)
  have hP := keepR hP hk1
  obtain ⟨w2, w2x⟩ := w2
  try simp only [l_ii, show (0 : Int32).toInt = 0 from by decide, show (1 : Int32).toInt = 1 from by decide] at w2
  subst w2
  refine lv_if_ne (tgt := 11) hx hb dX10_best_4 (by decide) (fun c3 => ?_) (fun c3 => ?_)
  · skip
    have b4 := if10_p c3
    refine lv_aload_n hx hb dX10_best_11 rfl (lv_at hl 0 rfl) ?_
    refine va_get (D := (dC, dI)) (ci := 10) (v := .ref ch) (C := RX10) (T := TX10) (N := 14) hx hb hg inG10 hown hK.1 hP 0 rfl rfl 6 (by decide) (hg _ wt_308) (fun _ h9 => h9) rfl dX10_best_12 ?_
    refine lv_aload_n hx hb dX10_best_15 rfl (lv_at hl 0 rfl) ?_
    refine va_get (D := (dC, dI)) (ci := 10) (v := .ref wy) (C := RX10) (T := TX10) (N := 14) hx hb hg inG10 hown hK.1 hP 0 rfl rfl 1 (by decide) (hg _ wt_303) (fun _ h9 => h9) rfl dX10_best_16 ?_
    refine lv_bipush (v := (-4)) hx hb dX10_best_19 (by decide) ?_
    have hPc := hP.sub (ws' := [(ch, .inr (0, [.long 1, .ref wk, .ref cs])), (wk, .inl (G 5, 11, .inr (.inr (.inr (.inr (fun i => if i < 11 then some (rw i) else none)))))), ((rw 0), .inl (G 1, 70, .inr (.inl (fun _ => 0)))), (wy, .inr (9, [.int 0, .int 0, .int 5, .ref a1, .ref a2, .ref a3, .ref a4, .ref a5, .ref a6]))]) [1, 2, 3, 4] rfl
    have hDc := hD.sub (ws' := [(ch, .inr (0, [.long 1, .ref wk, .ref cs])), (wk, .inl (G 5, 11, .inr (.inr (.inr (.inr (fun i => if i < 11 then some (rw i) else none)))))), ((rw 0), .inl (G 1, 70, .inr (.inl (fun _ => 0)))), (wy, .inr (9, [.int 0, .int 0, .int 5, .ref a1, .ref a2, .ref a3, .ref a4, .ref a5, .ref a6]))]) [1, 2, 3, 4] (by decide) rfl
    have hFc := va_free (wc := [(ch, .inr (0, [.long 1, .ref wk, .ref cs])), (wk, .inl (G 5, 11, .inr (.inr (.inr (.inr (fun i => if i < 11 then some (rw i) else none)))))), ((rw 0), .inl (G 1, 70, .inr (.inl (fun _ => 0)))), (wy, .inr (9, [.int 0, .int 0, .int 5, .ref a1, .ref a2, .ref a3, .ref a4, .ref a5, .ref a6]))]) hD hS hA [1, 2, 3, 4] rfl
    refine va_callv (va_runVN (As := [.ref wy, .int (-4)]) (rest := []) ⟨hx, hb, hml, hown, hg⟩ (c_X0_plan l dC dI G _ ch wk cs wy a1 a2 a3 a4 a5 a6 rw 1 (fun _ => 0) ) (kwVN hg hK mfX0_plan wn_657 ⟨Nat.le_of_ble_eq_true rfl, Nat.le_of_ble_eq_true rfl⟩) (preVW hK hPc hDc (ci := 0) rfl rfl) rfl rfl hl.1 rfl (lv_room (Nat.le_of_ble_eq_true rfl)) dX10_best_21 ⟨Nat.le_of_ble_eq_true rfl, Nat.le_of_ble_eq_true rfl⟩) hS (fun q _ h => hFc q h) hFc (fun ur5 t H1 locs ht hvm w6 hB hz1 hk1 hS => ?_)
    obtain ⟨u7, rfl⟩ : ∃ z, z = ur5 := ⟨_, rfl⟩
    obtain ⟨hP1, hD1⟩ := hB
    rw [ht] at hP1
    obtain ⟨hP, hD⟩ := va_join (wr := [(h0, .inr (10, [.ref rd, .ref wy, .ref tr, .ref im, .ref kp, .ref od, .ref ch, .ref cr, .ref le, .ref mk, .ref tl, .ref sh, .int 0, .int 0]))]) (w1 := [(ch, .inr (0, [.long 1, .ref wk, .ref cs])), (wk, .inl (G 5, 11, .inr (.inr (.inr (.inr (fun i => if i < 11 then some (rw i) else none)))))), ((rw 0), .inl (G 1, 70, .inr (.inl u7))), (wy, .inr (9, [.int 0, .int 0, .int 5, .ref a1, .ref a2, .ref a3, .ref a4, .ref a5, .ref a6]))]) hP hD [1, 2, 3, 4] [0] rfl rfl (by decide) (by decide) hk1 hFc hP1 hD1
    generalize H1 = H at hP hS ⊢
    have hP : va_P (dC, dI) vwCl [(h0, .inr (10, [.ref rd, .ref wy, .ref tr, .ref im, .ref kp, .ref od, .ref ch, .ref cr, .ref le, .ref mk, .ref tl, .ref sh, .int 0, .int 0])), (ch, .inr (0, [.long 1, .ref wk, .ref cs])), (wk, .inl (G 5, 11, .inr (.inr (.inr (.inr (fun i => if i < 11 then some (rw i) else none)))))), ((rw 0), .inl (G 1, 70, .inr (.inl u7))), (wy, .inr (9, [.int 0, .int 0, .int 5, .ref a1, .ref a2, .ref a3, .ref a4, .ref a5, .ref a6]))] H := hP
    have hD : va_D A [(h0, .inr (10, [.ref rd, .ref wy, .ref tr, .ref im, .ref kp, .ref od, .ref ch, .ref cr, .ref le, .ref mk, .ref tl, .ref sh, .int 0, .int 0])), (ch, .inr (0, [.long 1, .ref wk, .ref cs])), (wk, .inl (G 5, 11, .inr (.inr (.inr (.inr (fun i => if i < 11 then some (rw i) else none)))))), ((rw 0), .inl (G 1, 70, .inr (.inl u7))), (wy, .inr (9, [.int 0, .int 0, .int 5, .ref a1, .ref a2, .ref a3, .ref a4, .ref a5, .ref a6]))] := hD
    refine lv_aload_n hx hb dX10_best_24 rfl (lv_at hl 0 rfl) ?_
    refine va_get (D := (dC, dI)) (ci := 10) (v := .ref ch) (C := RX10) (T := TX10) (N := 14) hx hb hg inG10 hown hK.1 hP 0 rfl rfl 6 (by decide) (hg _ wt_308) (fun _ h9 => h9) rfl dX10_best_25 ?_
    refine lv_aload_n hx hb dX10_best_28 rfl (lv_at hl 0 rfl) ?_
    refine va_get (D := (dC, dI)) (ci := 10) (v := .ref wy) (C := RX10) (T := TX10) (N := 14) hx hb hg inG10 hown hK.1 hP 0 rfl rfl 1 (by decide) (hg _ wt_303) (fun _ h9 => h9) rfl dX10_best_29 ?_
    have hPc := hP.sub (ws' := [(ch, .inr (0, [.long 1, .ref wk, .ref cs])), (wk, .inl (G 5, 11, .inr (.inr (.inr (.inr (fun i => if i < 11 then some (rw i) else none)))))), ((rw 0), .inl (G 1, 70, .inr (.inl u7))), (wy, .inr (9, [.int 0, .int 0, .int 5, .ref a1, .ref a2, .ref a3, .ref a4, .ref a5, .ref a6]))]) [1, 2, 3, 4] rfl
    refine va_calll (va_runVN (As := [.ref wy]) (rest := []) ⟨hx, hb, hml, hown, hg⟩ (c_X0_wakingAtFirst l dC dI G _ ch wk cs wy a1 a2 a3 a4 a5 a6 rw u7 ) (kwVN hg hK mfX0_wakingAtFirst wn_676 ⟨Nat.le_of_ble_eq_true rfl, Nat.le_of_ble_eq_true rfl⟩) (preVR hK hPc (ci := 0) rfl rfl) rfl rfl hl.1 rfl (lv_room (Nat.le_of_ble_eq_true rfl)) dX10_best_32 ⟨Nat.le_of_ble_eq_true rfl, Nat.le_of_ble_eq_true rfl⟩) hS (fun q h1 h2 => absurd h2 (Nat.not_le.mpr h1)) (fun q h => hA q (Nat.le_trans hS.1 h)) (fun r8 ur8 t H1 locs ht hvm w9 hB hz1 hk1 hS => ?_)
    have hP := keepR hP hk1
    obtain ⟨w9, w9x⟩ := w9
    have w9 : r8 = 0 := w9.trans w6
    subst w9
    refine lv_aload_n hx hb dX10_best_35 rfl (lv_at hl 0 rfl) ?_
    refine va_get (D := (dC, dI)) (ci := 10) (v := .ref ch) (C := RX10) (T := TX10) (N := 14) hx hb hg inG10 hown hK.1 hP 0 rfl rfl 6 (by decide) (hg _ wt_308) (fun _ h9 => h9) rfl dX10_best_36 ?_
    refine va_getN (D := (dC, dI)) (ci := 0) (v := .long 1) (C := RX0) (T := TX0) (N := 3) hx hb hg inG0 hown hK.1 hP 1 rfl rfl 0 (by decide) (hK.nest wn_181) (fun _ h9 => h9) rfl dX10_best_39 ?_
    refine lv_iload_n hx hb dX10_best_42 rfl (lv_at hl 1 rfl) ?_
    have hPc := hP.sub (ws' := []) [] rfl
    refine va_calll (va_runS (As := [.long 0, .long 1, .int what]) (rest := []) ⟨hx, hb, hml, hown, hg⟩ (c_X10_fraction l dC dI G _ what ) (kwS hg mfX10_fraction wt_635 ⟨Nat.le_of_ble_eq_true rfl, Nat.le_of_ble_eq_true rfl⟩) (preSR hK hPc) rfl rfl hl.1 rfl (lv_room (Nat.le_of_ble_eq_true rfl)) dX10_best_43 ⟨Nat.le_of_ble_eq_true rfl, Nat.le_of_ble_eq_true rfl⟩) hS (fun q h1 h2 => absurd h2 (Nat.not_le.mpr h1)) (fun q h => hA q (Nat.le_trans hS.1 h)) (fun r10 ur10 t H1 locs ht hvm w11 hB hz1 hk1 hS => ?_)
    have hP := keepR hP hk1
    obtain ⟨w11, w11x⟩ := w11
    subst w11
    have hpost : (if what.toInt = 0 then 0 else 1 : Int64) = if what.toInt = 0 then 0 else if what.toInt = 1 then 1 else -1 := by
      have t_b4 := b4
      first | rfl | ((repeat' split) <;> first | rfl | omega)
    refine W.widen (k := 0) (n := 0) (by omega) (by omega) ?_
    exact W.lret (v := if what.toInt = 0 then 0 else 1) hx hb hr (fun t ht hW => ⟨⟨if what.toInt = 0 then 0 else 1, (), rfl, ⟨hpost, trivial⟩, trivial⟩, hS.F ht⟩) hS.2.2 dX10_best_46
  · skip
    have b12 := if10_n c3
    refine lv_ldc2 (v := (-1)) hx hb hown (hg _ wt_607) dX10_best_7 ?_
    have hpost : ((-1) : Int64) = if what.toInt = 0 then 0 else if what.toInt = 1 then 1 else -1 := by
      have t_b12 := b12
      first | rfl | ((repeat' split) <;> first | rfl | omega)
    refine W.widen (k := 0) (n := 0) (by omega) (by omega) ?_
    exact W.lret (v := (-1)) hx hb hr (fun t ht hW => ⟨⟨(-1), (), rfl, ⟨hpost, trivial⟩, trivial⟩, hS.F ht⟩) hS.2.2 dX10_best_10

set_option maxHeartbeats 4000000 in
set_option maxRecDepth 100000 in
theorem c_X10_next (l : Launch) (dC : Nat → ClassId) (dI : Nat → Nat → Nat) (G : Nat → ClassId) (sz : Nat) (h0 rd wy tr im kp od ch cr le mk tl sh a1 a2 a3 a4 a5 a6 : Nat) (i g q : Int32)   : Met l yX10_next (Cond.code yX10_next cX10_next 5 (some .int) :: GT) ({ frames := 1, cells := 0, slots := 0, locals := 21 } : Room) (PcW [.ref h0, .int i, .int g, .int q] dC dI G [(h0, .inr (10, [.ref rd, .ref wy, .ref tr, .ref im, .ref kp, .ref od, .ref ch, .ref cr, .ref le, .ref mk, .ref tl, .ref sh, .int 0, .int 0])), (wy, .inr (9, [.int 0, .int 0, .int 5, .ref a1, .ref a2, .ref a3, .ref a4, .ref a5, .ref a6]))] sz) (va_Qi (fun (r : Int32) (u : Unit) => match u with | _ => (r = -1) ∧ True) (fun _ _ => True) (va_A [(h0, .inr (10, [.ref rd, .ref wy, .ref tr, .ref im, .ref kp, .ref od, .ref ch, .ref cr, .ref le, .ref mk, .ref tl, .ref sh, .int 0, .int 0])), (wy, .inr (9, [.int 0, .int 0, .int 5, .ref a1, .ref a2, .ref a3, .ref a4, .ref a5, .ref a6]))] sz)) 0 0 (va_A [(h0, .inr (10, [.ref rd, .ref wy, .ref tr, .ref im, .ref kp, .ref od, .ref ch, .ref cr, .ref le, .ref mk, .ref tl, .ref sh, .int 0, .int 0])), (wy, .inr (9, [.int 0, .int 0, .int 5, .ref a1, .ref a2, .ref a3, .ref a4, .ref a5, .ref a6]))] sz) := by
  refine Met.ofW (cc := cX10_next) (maxL := 5) (ret := (some .int)) (by decide) rfl ?_
  intro p e s m args below meth c s₁ B hml hv
  obtain ⟨rfl, hsz, hP, hK, hD0⟩ := hv
  have hx := B.exec
  have hb := B.bytes
  have hr := B.returns
  have hg : ∀ w ∈ GT, w.before ([.ref h0, .int i, .int g, .int q] : List Value).toArray s = true := fun w h => atoms_spec (ws := Cond.code yX10_next cX10_next 5 (some .int) :: GT) B.pre w (List.mem_cons_of_mem _ h)
  have hown : s.vm.findClass RX10 = some m.cls := findClass_of_methodNamed B.named
  have hlocks := B.notSynchronized
  subst hsz
  have hD := hD0.self (sz := s.heap.size)
  generalize hAe : va_A [(h0, .inr (10, [.ref rd, .ref wy, .ref tr, .ref im, .ref kp, .ref od, .ref ch, .ref cr, .ref le, .ref mk, .ref tl, .ref sh, .int 0, .int 0])), (wy, .inr (9, [.int 0, .int 0, .int 5, .ref a1, .ref a2, .ref a3, .ref a4, .ref a5, .ref a6]))] s.heap.size = A at hD ⊢
  have hA : ∀ q : Nat, s.heap.size ≤ q → A q := fun q h => by rw [← hAe]; exact Or.inr h
  have hS : va_S A s.heap s.heap [] := va_S.rf
  have hl := lv_entry ([.ref h0, .int i, .int g, .int q]) (n := 5) (Nat.le_of_ble_eq_true rfl)
  rw [lg_entry_eq]
  generalize (lg_sl ([.ref h0, .int i, .int g, .int q]) ++ List.replicate (5 - (lg_sl ([.ref h0, .int i, .int g, .int q])).length) Slot.unset).toArray = ls at hl ⊢
  have hl : lv_has ls 5 [(0, .ref h0), (1, .int i), (2, .int g), (3, .int q)] := hl
  refine lv_iload_n hx hb dX10_next_0 rfl (lv_at hl 2 rfl) ?_
  refine lv_bipush (v := (-4)) hx hb dX10_next_1 (by decide) ?_
  refine lv_icmp_ne (tgt := 14) hx hb dX10_next_3 (by decide) (fun c1 => ?_) (fun c1 => ?_)
  · skip
    refine lv_iconst (v := 0) hx hb dX10_next_14 (by decide) ?_
    refine lv_istore (lv' := [(4, .int 0), (0, .ref h0), (1, .int i), (2, .int g), (3, .int q)]) hx hb dX10_next_15 hl (by decide) rfl (fun ls hl => ?_)
    refine lv_aload_n hx hb dX10_next_17 rfl (lv_at hl 1 rfl) ?_
    refine va_get (D := (dC, dI)) (ci := 10) (v := .ref wy) (C := RX10) (T := TX10) (N := 14) hx hb hg inG10 hown hK.1 hP 0 rfl rfl 1 (by decide) (hg _ wt_303) (fun _ h9 => h9) rfl dX10_next_18 ?_
    refine lv_iload_n hx hb dX10_next_21 rfl (lv_at hl 2 rfl) ?_
    have hPc := hP.sub (ws' := [(wy, .inr (9, [.int 0, .int 0, .int 5, .ref a1, .ref a2, .ref a3, .ref a4, .ref a5, .ref a6]))]) [1] rfl
    refine va_calli (va_runVN (As := [.int i]) (rest := []) ⟨hx, hb, hml, hown, hg⟩ (c_X9_hasStretch l dC dI G _ wy a1 a2 a3 a4 a5 a6 0 0 5 i ) (kwVN hg hK mfX9_hasStretch wn_527 ⟨Nat.le_of_ble_eq_true rfl, Nat.le_of_ble_eq_true rfl⟩) (preVR hK hPc (ci := 9) rfl rfl) rfl rfl hl.1 rfl (lv_room (Nat.le_of_ble_eq_true rfl)) dX10_next_22 ⟨Nat.le_of_ble_eq_true rfl, Nat.le_of_ble_eq_true rfl⟩) hS (fun q h1 h2 => absurd h2 (Nat.not_le.mpr h1)) (fun q h => hA q (Nat.le_trans hS.1 h)) (fun r2 ur2 t H1 locs ht hvm w3 hB hz1 hk1 hS => ?_)
    have hP := keepR hP hk1
    obtain ⟨w3, w3x⟩ := w3
    try simp only [l_ii, show (0 : Int32).toInt = 0 from by decide, show (0 : Int32).toInt = 0 from by decide] at w3
    have w3 : r2 = 0 := w3.trans (if_neg (by have t_c1 := neI c1; have : ((-4) : Int32).toInt = -4 := (by decide); omega))
    subst w3
    refine lv_if_eq (tgt := 55) hx hb dX10_next_25 (by decide) (fun c4 => ?_) (fun c4 => ?_)
    · skip
      refine lv_iconst (v := (-1)) hx hb dX10_next_55 (by decide) ?_
      have hpost : ((-1) : Int32) = -1 := by
        have t_c1 := neI c1
        have t_c4 := eqI c4
        have : ((-4) : Int32).toInt = -4 := (by decide)
        have : (0 : Int32).toInt = 0 := (by decide)
        first | rfl | ((repeat' split) <;> first | rfl | omega)
      refine W.widen (k := 0) (n := 0) (by omega) (by omega) ?_
      exact W.iret (v := (-1)) hx hb hr (fun t ht hW => ⟨⟨(-1), (), rfl, ⟨hpost, trivial⟩, trivial⟩, hS.F ht⟩) hS.2.2 dX10_next_56
    · skip
      exact absurd c4 (by decide)
  · skip
    refine lv_iload_n hx hb dX10_next_6 rfl (lv_at hl 1 rfl) ?_
    refine lv_if_ne (tgt := 14) hx hb dX10_next_7 (by decide) (fun c5 => ?_) (fun c5 => ?_)
    · skip
      refine lv_iconst (v := 0) hx hb dX10_next_14 (by decide) ?_
      refine lv_istore (lv' := [(4, .int 0), (0, .ref h0), (1, .int i), (2, .int g), (3, .int q)]) hx hb dX10_next_15 hl (by decide) rfl (fun ls hl => ?_)
      refine lv_aload_n hx hb dX10_next_17 rfl (lv_at hl 1 rfl) ?_
      refine va_get (D := (dC, dI)) (ci := 10) (v := .ref wy) (C := RX10) (T := TX10) (N := 14) hx hb hg inG10 hown hK.1 hP 0 rfl rfl 1 (by decide) (hg _ wt_303) (fun _ h9 => h9) rfl dX10_next_18 ?_
      refine lv_iload_n hx hb dX10_next_21 rfl (lv_at hl 2 rfl) ?_
      have hPc := hP.sub (ws' := [(wy, .inr (9, [.int 0, .int 0, .int 5, .ref a1, .ref a2, .ref a3, .ref a4, .ref a5, .ref a6]))]) [1] rfl
      refine va_calli (va_runVN (As := [.int i]) (rest := []) ⟨hx, hb, hml, hown, hg⟩ (c_X9_hasStretch l dC dI G _ wy a1 a2 a3 a4 a5 a6 0 0 5 i ) (kwVN hg hK mfX9_hasStretch wn_527 ⟨Nat.le_of_ble_eq_true rfl, Nat.le_of_ble_eq_true rfl⟩) (preVR hK hPc (ci := 9) rfl rfl) rfl rfl hl.1 rfl (lv_room (Nat.le_of_ble_eq_true rfl)) dX10_next_22 ⟨Nat.le_of_ble_eq_true rfl, Nat.le_of_ble_eq_true rfl⟩) hS (fun q h1 h2 => absurd h2 (Nat.not_le.mpr h1)) (fun q h => hA q (Nat.le_trans hS.1 h)) (fun r6 ur6 t H1 locs ht hvm w7 hB hz1 hk1 hS => ?_)
      have hP := keepR hP hk1
      obtain ⟨w7, w7x⟩ := w7
      try simp only [l_ii, show (0 : Int32).toInt = 0 from by decide, show (0 : Int32).toInt = 0 from by decide] at w7
      have w7 : r6 = 0 := w7.trans (if_neg (by have t_c1 := eqI c1; have t_c5 := neI c5; have : ((-4) : Int32).toInt = -4 := (by decide); have : (0 : Int32).toInt = 0 := (by decide); omega))
      subst w7
      refine lv_if_eq (tgt := 55) hx hb dX10_next_25 (by decide) (fun c8 => ?_) (fun c8 => ?_)
      · skip
        refine lv_iconst (v := (-1)) hx hb dX10_next_55 (by decide) ?_
        have hpost : ((-1) : Int32) = -1 := by
          have t_c1 := eqI c1
          have t_c5 := neI c5
          have t_c8 := eqI c8
          have : ((-4) : Int32).toInt = -4 := (by decide)
          have : (0 : Int32).toInt = 0 := (by decide)
          first | rfl | ((repeat' split) <;> first | rfl | omega)
        refine W.widen (k := 0) (n := 0) (by omega) (by omega) ?_
        exact W.iret (v := (-1)) hx hb hr (fun t ht hW => ⟨⟨(-1), (), rfl, ⟨hpost, trivial⟩, trivial⟩, hS.F ht⟩) hS.2.2 dX10_next_56
      · skip
        exact absurd c8 (by decide)
    · skip
      refine lv_iconst (v := 1) hx hb dX10_next_10 (by decide) ?_
      refine lv_goto (tgt := 15) hx hb dX10_next_11 (by decide) ?_
      refine lv_istore (lv' := [(4, .int 1), (0, .ref h0), (1, .int i), (2, .int g), (3, .int q)]) hx hb dX10_next_15 hl (by decide) rfl (fun ls hl => ?_)
      refine lv_aload_n hx hb dX10_next_17 rfl (lv_at hl 1 rfl) ?_
      refine va_get (D := (dC, dI)) (ci := 10) (v := .ref wy) (C := RX10) (T := TX10) (N := 14) hx hb hg inG10 hown hK.1 hP 0 rfl rfl 1 (by decide) (hg _ wt_303) (fun _ h9 => h9) rfl dX10_next_18 ?_
      refine lv_iload_n hx hb dX10_next_21 rfl (lv_at hl 2 rfl) ?_
      have hPc := hP.sub (ws' := [(wy, .inr (9, [.int 0, .int 0, .int 5, .ref a1, .ref a2, .ref a3, .ref a4, .ref a5, .ref a6]))]) [1] rfl
      refine va_calli (va_runVN (As := [.int i]) (rest := []) ⟨hx, hb, hml, hown, hg⟩ (c_X9_hasStretch l dC dI G _ wy a1 a2 a3 a4 a5 a6 0 0 5 i ) (kwVN hg hK mfX9_hasStretch wn_527 ⟨Nat.le_of_ble_eq_true rfl, Nat.le_of_ble_eq_true rfl⟩) (preVR hK hPc (ci := 9) rfl rfl) rfl rfl hl.1 rfl (lv_room (Nat.le_of_ble_eq_true rfl)) dX10_next_22 ⟨Nat.le_of_ble_eq_true rfl, Nat.le_of_ble_eq_true rfl⟩) hS (fun q h1 h2 => absurd h2 (Nat.not_le.mpr h1)) (fun q h => hA q (Nat.le_trans hS.1 h)) (fun r9 ur9 t H1 locs ht hvm w10 hB hz1 hk1 hS => ?_)
      have hP := keepR hP hk1
      obtain ⟨w10, w10x⟩ := w10
      try simp only [l_ii, show (0 : Int32).toInt = 0 from by decide, show (0 : Int32).toInt = 0 from by decide] at w10
      have w10 : r9 = 0 := w10.trans (if_neg (by have t_c1 := eqI c1; have t_c5 := eqI c5; have : ((-4) : Int32).toInt = -4 := (by decide); have : (0 : Int32).toInt = 0 := (by decide); omega))
      subst w10
      refine lv_if_eq (tgt := 55) hx hb dX10_next_25 (by decide) (fun c11 => ?_) (fun c11 => ?_)
      · skip
        refine lv_iconst (v := (-1)) hx hb dX10_next_55 (by decide) ?_
        have hpost : ((-1) : Int32) = -1 := by
          have t_c1 := eqI c1
          have t_c5 := eqI c5
          have t_c11 := eqI c11
          have : ((-4) : Int32).toInt = -4 := (by decide)
          have : (0 : Int32).toInt = 0 := (by decide)
          first | rfl | ((repeat' split) <;> first | rfl | omega)
        refine W.widen (k := 0) (n := 0) (by omega) (by omega) ?_
        exact W.iret (v := (-1)) hx hb hr (fun t ht hW => ⟨⟨(-1), (), rfl, ⟨hpost, trivial⟩, trivial⟩, hS.F ht⟩) hS.2.2 dX10_next_56
      · skip
        exact absurd c11 (by decide)

set_option maxHeartbeats 4000000 in
set_option maxRecDepth 100000 in
theorem c_X10_without (l : Launch) (dC : Nat → ClassId) (dI : Nat → Nat → Nat) (G : Nat → ClassId) (sz : Nat) (h0 rd wy tr im kp od ch cr le mk tl sh a1 a2 a3 a4 a5 a6 : Nat) (i what : Int32)   : Met l yX10_without (Cond.code yX10_without cX10_without 3 (some .long) :: GT) ({ frames := 1, cells := 0, slots := 0, locals := 21 } : Room) (PcW [.ref h0, .int i, .int what] dC dI G [(h0, .inr (10, [.ref rd, .ref wy, .ref tr, .ref im, .ref kp, .ref od, .ref ch, .ref cr, .ref le, .ref mk, .ref tl, .ref sh, .int 0, .int 0])), (wy, .inr (9, [.int 0, .int 0, .int 5, .ref a1, .ref a2, .ref a3, .ref a4, .ref a5, .ref a6]))] sz) (va_Ql (fun (r : Int64) (u : Unit) => match u with | _ => (r = -1) ∧ True) (fun _ _ => True) (va_A [(h0, .inr (10, [.ref rd, .ref wy, .ref tr, .ref im, .ref kp, .ref od, .ref ch, .ref cr, .ref le, .ref mk, .ref tl, .ref sh, .int 0, .int 0])), (wy, .inr (9, [.int 0, .int 0, .int 5, .ref a1, .ref a2, .ref a3, .ref a4, .ref a5, .ref a6]))] sz)) 0 0 (va_A [(h0, .inr (10, [.ref rd, .ref wy, .ref tr, .ref im, .ref kp, .ref od, .ref ch, .ref cr, .ref le, .ref mk, .ref tl, .ref sh, .int 0, .int 0])), (wy, .inr (9, [.int 0, .int 0, .int 5, .ref a1, .ref a2, .ref a3, .ref a4, .ref a5, .ref a6]))] sz) := by
  refine Met.ofW (cc := cX10_without) (maxL := 3) (ret := (some .long)) (by decide) rfl ?_
  intro p e s m args below meth c s₁ B hml hv
  obtain ⟨rfl, hsz, hP, hK, hD0⟩ := hv
  have hx := B.exec
  have hb := B.bytes
  have hr := B.returns
  have hg : ∀ w ∈ GT, w.before ([.ref h0, .int i, .int what] : List Value).toArray s = true := fun w h => atoms_spec (ws := Cond.code yX10_without cX10_without 3 (some .long) :: GT) B.pre w (List.mem_cons_of_mem _ h)
  have hown : s.vm.findClass RX10 = some m.cls := findClass_of_methodNamed B.named
  have hlocks := B.notSynchronized
  subst hsz
  have hD := hD0.self (sz := s.heap.size)
  generalize hAe : va_A [(h0, .inr (10, [.ref rd, .ref wy, .ref tr, .ref im, .ref kp, .ref od, .ref ch, .ref cr, .ref le, .ref mk, .ref tl, .ref sh, .int 0, .int 0])), (wy, .inr (9, [.int 0, .int 0, .int 5, .ref a1, .ref a2, .ref a3, .ref a4, .ref a5, .ref a6]))] s.heap.size = A at hD ⊢
  have hA : ∀ q : Nat, s.heap.size ≤ q → A q := fun q h => by rw [← hAe]; exact Or.inr h
  have hS : va_S A s.heap s.heap [] := va_S.rf
  have hl := lv_entry ([.ref h0, .int i, .int what]) (n := 3) (Nat.le_of_ble_eq_true rfl)
  rw [lg_entry_eq]
  generalize (lg_sl ([.ref h0, .int i, .int what]) ++ List.replicate (3 - (lg_sl ([.ref h0, .int i, .int what])).length) Slot.unset).toArray = ls at hl ⊢
  have hl : lv_has ls 3 [(0, .ref h0), (1, .int i), (2, .int what)] := hl
  refine lv_aload_n hx hb dX10_without_0 rfl (lv_at hl 0 rfl) ?_
  refine va_get (D := (dC, dI)) (ci := 10) (v := .ref wy) (C := RX10) (T := TX10) (N := 14) hx hb hg inG10 hown hK.1 hP 0 rfl rfl 1 (by decide) (hg _ wt_303) (fun _ h9 => h9) rfl dX10_without_1 ?_
  refine lv_iload_n hx hb dX10_without_4 rfl (lv_at hl 1 rfl) ?_
  have hPc := hP.sub (ws' := [(wy, .inr (9, [.int 0, .int 0, .int 5, .ref a1, .ref a2, .ref a3, .ref a4, .ref a5, .ref a6]))]) [1] rfl
  refine va_calli (va_runVN (As := [.int i]) (rest := []) ⟨hx, hb, hml, hown, hg⟩ (c_X9_hasBearer l dC dI G _ wy a1 a2 a3 a4 a5 a6 0 0 5 i ) (kwVN hg hK mfX9_hasBearer wn_535 ⟨Nat.le_of_ble_eq_true rfl, Nat.le_of_ble_eq_true rfl⟩) (preVR hK hPc (ci := 9) rfl rfl) rfl rfl hl.1 rfl (lv_room (Nat.le_of_ble_eq_true rfl)) dX10_without_5 ⟨Nat.le_of_ble_eq_true rfl, Nat.le_of_ble_eq_true rfl⟩) hS (fun q h1 h2 => absurd h2 (Nat.not_le.mpr h1)) (fun q h => hA q (Nat.le_trans hS.1 h)) (fun r1 ur1 t H1 locs ht hvm w2 hB hz1 hk1 hS => ?_)
  have hP := keepR hP hk1
  obtain ⟨w2, w2x⟩ := w2
  try simp only [l_ii, show (0 : Int32).toInt = 0 from by decide, show (0 : Int32).toInt = 0 from by decide] at w2
  have w2 : r1 = 0 := w2.trans (if_neg (by omega))
  subst w2
  refine lv_if_eq (tgt := 18) hx hb dX10_without_8 (by decide) (fun c3 => ?_) (fun c3 => ?_)
  · skip
    refine lv_ldc2 (v := (-1)) hx hb hown (hg _ wt_607) dX10_without_18 ?_
    have hpost : ((-1) : Int64) = -1 := by
      have t_c3 := eqI c3
      have : (0 : Int32).toInt = 0 := (by decide)
      first | rfl | ((repeat' split) <;> first | rfl | omega)
    refine W.widen (k := 0) (n := 0) (by omega) (by omega) ?_
    exact W.lret (v := (-1)) hx hb hr (fun t ht hW => ⟨⟨(-1), (), rfl, ⟨hpost, trivial⟩, trivial⟩, hS.F ht⟩) hS.2.2 dX10_without_21
  · skip
    exact absurd c3 (by decide)

set_option maxHeartbeats 4000000 in
set_option maxRecDepth 100000 in
theorem c_X10_quiet (l : Launch) (dC : Nat → ClassId) (dI : Nat → Nat → Nat) (G : Nat → ClassId) (sz : Nat) (h0 rd wy tr im kp od ch cr le mk tl sh e1 e2 e3 e4 e5 e6 a1 a2 a3 a4 a5 a6 sa aa : Nat) (mm what : Int32)   : Met l yX10_quiet (Cond.code yX10_quiet cX10_quiet 10 (some .long) :: GT) ({ frames := 2, cells := 0, slots := 0, locals := 121 } : Room) (PcW [.ref h0, .int mm, .int what] dC dI G [(h0, .inr (10, [.ref rd, .ref wy, .ref tr, .ref im, .ref kp, .ref od, .ref ch, .ref cr, .ref le, .ref mk, .ref tl, .ref sh, .int 0, .int 0])), (tr, .inr (9, [.int 0, .int 0, .int 5, .ref e1, .ref e2, .ref e3, .ref e4, .ref e5, .ref e6])), (e1, .inl (G 0, 10, .inl (fun _ => 0))), (e2, .inl (G 0, 10, .inl (fun _ => 0))), (e3, .inl (G 0, 10, .inl (fun _ => 0))), (e4, .inl (G 0, 6, .inl (fun _ => 0))), (e5, .inl (G 0, 6, .inl (fun _ => 0))), (e6, .inl (G 0, 6, .inl (fun _ => 0))), (wy, .inr (9, [.int 0, .int 0, .int 5, .ref a1, .ref a2, .ref a3, .ref a4, .ref a5, .ref a6])), (a1, .inl (G 0, 10, .inl (fun _ => 0))), (a2, .inl (G 0, 10, .inl (fun _ => 0))), (a3, .inl (G 0, 10, .inl (fun _ => 0))), (a4, .inl (G 0, 6, .inl (fun _ => 0))), (a5, .inl (G 0, 6, .inl (fun _ => 0))), (a6, .inl (G 0, 6, .inl (fun _ => 0))), (od, .inr (4, [.long 1, .ref sa, .ref aa])), (sa, .inl (G 1, 10, .inr (.inl (fun _ => 0))))] sz) (va_Ql (fun (r : Int64) (u : Unit) => match u with | _ => (r = if 0 ≤ mm.toInt ∧ mm.toInt ≤ 4 then (if what.toInt = 0 then 0 else if what.toInt = 1 then 1 else if what.toInt = 2 then 0 else -1) else -1) ∧ True) (fun _ _ => True) (va_A [(h0, .inr (10, [.ref rd, .ref wy, .ref tr, .ref im, .ref kp, .ref od, .ref ch, .ref cr, .ref le, .ref mk, .ref tl, .ref sh, .int 0, .int 0])), (tr, .inr (9, [.int 0, .int 0, .int 5, .ref e1, .ref e2, .ref e3, .ref e4, .ref e5, .ref e6])), (e1, .inl (G 0, 10, .inl (fun _ => 0))), (e2, .inl (G 0, 10, .inl (fun _ => 0))), (e3, .inl (G 0, 10, .inl (fun _ => 0))), (e4, .inl (G 0, 6, .inl (fun _ => 0))), (e5, .inl (G 0, 6, .inl (fun _ => 0))), (e6, .inl (G 0, 6, .inl (fun _ => 0))), (wy, .inr (9, [.int 0, .int 0, .int 5, .ref a1, .ref a2, .ref a3, .ref a4, .ref a5, .ref a6])), (a1, .inl (G 0, 10, .inl (fun _ => 0))), (a2, .inl (G 0, 10, .inl (fun _ => 0))), (a3, .inl (G 0, 10, .inl (fun _ => 0))), (a4, .inl (G 0, 6, .inl (fun _ => 0))), (a5, .inl (G 0, 6, .inl (fun _ => 0))), (a6, .inl (G 0, 6, .inl (fun _ => 0))), (od, .inr (4, [.long 1, .ref sa, .ref aa])), (sa, .inl (G 1, 10, .inr (.inl (fun _ => 0))))] sz)) 0 0 (va_A [(h0, .inr (10, [.ref rd, .ref wy, .ref tr, .ref im, .ref kp, .ref od, .ref ch, .ref cr, .ref le, .ref mk, .ref tl, .ref sh, .int 0, .int 0])), (tr, .inr (9, [.int 0, .int 0, .int 5, .ref e1, .ref e2, .ref e3, .ref e4, .ref e5, .ref e6])), (e1, .inl (G 0, 10, .inl (fun _ => 0))), (e2, .inl (G 0, 10, .inl (fun _ => 0))), (e3, .inl (G 0, 10, .inl (fun _ => 0))), (e4, .inl (G 0, 6, .inl (fun _ => 0))), (e5, .inl (G 0, 6, .inl (fun _ => 0))), (e6, .inl (G 0, 6, .inl (fun _ => 0))), (wy, .inr (9, [.int 0, .int 0, .int 5, .ref a1, .ref a2, .ref a3, .ref a4, .ref a5, .ref a6])), (a1, .inl (G 0, 10, .inl (fun _ => 0))), (a2, .inl (G 0, 10, .inl (fun _ => 0))), (a3, .inl (G 0, 10, .inl (fun _ => 0))), (a4, .inl (G 0, 6, .inl (fun _ => 0))), (a5, .inl (G 0, 6, .inl (fun _ => 0))), (a6, .inl (G 0, 6, .inl (fun _ => 0))), (od, .inr (4, [.long 1, .ref sa, .ref aa])), (sa, .inl (G 1, 10, .inr (.inl (fun _ => 0))))] sz) := by
  refine Met.ofW (cc := cX10_quiet) (maxL := 10) (ret := (some .long)) (by decide) rfl ?_
  intro p e s m args below meth c s₁ B hml hv
  obtain ⟨rfl, hsz, hP, hK, hD0⟩ := hv
  have hx := B.exec
  have hb := B.bytes
  have hr := B.returns
  have hg : ∀ w ∈ GT, w.before ([.ref h0, .int mm, .int what] : List Value).toArray s = true := fun w h => atoms_spec (ws := Cond.code yX10_quiet cX10_quiet 10 (some .long) :: GT) B.pre w (List.mem_cons_of_mem _ h)
  have hown : s.vm.findClass RX10 = some m.cls := findClass_of_methodNamed B.named
  have hlocks := B.notSynchronized
  subst hsz
  have hD := hD0.self (sz := s.heap.size)
  generalize hAe : va_A [(h0, .inr (10, [.ref rd, .ref wy, .ref tr, .ref im, .ref kp, .ref od, .ref ch, .ref cr, .ref le, .ref mk, .ref tl, .ref sh, .int 0, .int 0])), (tr, .inr (9, [.int 0, .int 0, .int 5, .ref e1, .ref e2, .ref e3, .ref e4, .ref e5, .ref e6])), (e1, .inl (G 0, 10, .inl (fun _ => 0))), (e2, .inl (G 0, 10, .inl (fun _ => 0))), (e3, .inl (G 0, 10, .inl (fun _ => 0))), (e4, .inl (G 0, 6, .inl (fun _ => 0))), (e5, .inl (G 0, 6, .inl (fun _ => 0))), (e6, .inl (G 0, 6, .inl (fun _ => 0))), (wy, .inr (9, [.int 0, .int 0, .int 5, .ref a1, .ref a2, .ref a3, .ref a4, .ref a5, .ref a6])), (a1, .inl (G 0, 10, .inl (fun _ => 0))), (a2, .inl (G 0, 10, .inl (fun _ => 0))), (a3, .inl (G 0, 10, .inl (fun _ => 0))), (a4, .inl (G 0, 6, .inl (fun _ => 0))), (a5, .inl (G 0, 6, .inl (fun _ => 0))), (a6, .inl (G 0, 6, .inl (fun _ => 0))), (od, .inr (4, [.long 1, .ref sa, .ref aa])), (sa, .inl (G 1, 10, .inr (.inl (fun _ => 0))))] s.heap.size = A at hD ⊢
  have hA : ∀ q : Nat, s.heap.size ≤ q → A q := fun q h => by rw [← hAe]; exact Or.inr h
  have hS : va_S A s.heap s.heap [] := va_S.rf
  have hl := lv_entry ([.ref h0, .int mm, .int what]) (n := 10) (Nat.le_of_ble_eq_true rfl)
  rw [lg_entry_eq]
  generalize (lg_sl ([.ref h0, .int mm, .int what]) ++ List.replicate (10 - (lg_sl ([.ref h0, .int mm, .int what])).length) Slot.unset).toArray = ls at hl ⊢
  have hl : lv_has ls 10 [(0, .ref h0), (1, .int mm), (2, .int what)] := hl
  refine lv_iload_n hx hb dX10_quiet_0 rfl (lv_at hl 1 rfl) ?_
  refine lv_if_lt (tgt := 16) hx hb dX10_quiet_1 (by decide) (fun c1 => ?_) (fun c1 => ?_)
  · skip
    refine lv_ldc2 (v := (-1)) hx hb hown (hg _ wt_607) dX10_quiet_16 ?_
    have hpost : ((-1) : Int64) = if 0 ≤ mm.toInt ∧ mm.toInt ≤ 4 then (if what.toInt = 0 then 0 else if what.toInt = 1 then 1 else if what.toInt = 2 then 0 else -1) else -1 := by
      have t_c1 := ltI c1
      have : (0 : Int32).toInt = 0 := (by decide)
      first | rfl | ((repeat' split) <;> first | rfl | omega)
    refine W.widen (k := 0) (n := 0) (by omega) (by omega) ?_
    exact W.lret (v := (-1)) hx hb hr (fun t ht hW => ⟨⟨(-1), (), rfl, ⟨hpost, trivial⟩, trivial⟩, hS.F ht⟩) hS.2.2 dX10_quiet_19
  · skip
    refine lv_iload_n hx hb dX10_quiet_4 rfl (lv_at hl 1 rfl) ?_
    refine lv_iconst (v := 4) hx hb dX10_quiet_5 (by decide) ?_
    refine lv_icmp_gt (tgt := 16) hx hb dX10_quiet_6 (by decide) (fun c2 => ?_) (fun c2 => ?_)
    · skip
      refine lv_ldc2 (v := (-1)) hx hb hown (hg _ wt_607) dX10_quiet_16 ?_
      have hpost : ((-1) : Int64) = if 0 ≤ mm.toInt ∧ mm.toInt ≤ 4 then (if what.toInt = 0 then 0 else if what.toInt = 1 then 1 else if what.toInt = 2 then 0 else -1) else -1 := by
        have t_c1 := nltI c1
        have t_c2 := ltI c2
        have : (0 : Int32).toInt = 0 := (by decide)
        have : (4 : Int32).toInt = 4 := (by decide)
        first | rfl | ((repeat' split) <;> first | rfl | omega)
      refine W.widen (k := 0) (n := 0) (by omega) (by omega) ?_
      exact W.lret (v := (-1)) hx hb hr (fun t ht hW => ⟨⟨(-1), (), rfl, ⟨hpost, trivial⟩, trivial⟩, hS.F ht⟩) hS.2.2 dX10_quiet_19
    · skip
      refine lv_iload_n hx hb dX10_quiet_9 rfl (lv_at hl 2 rfl) ?_
      have hPc := hP.sub (ws' := []) [] rfl
      refine va_calli (va_runS (As := [.int what]) (rest := []) ⟨hx, hb, hml, hown, hg⟩ (c_X10_isAnswerPart l dC dI G _ what ) (kwS hg mfX10_isAnswerPart wt_694 ⟨Nat.le_of_ble_eq_true rfl, Nat.le_of_ble_eq_true rfl⟩) (preSR hK hPc) rfl rfl hl.1 rfl (lv_room (Nat.le_of_ble_eq_true rfl)) dX10_quiet_10 ⟨Nat.le_of_ble_eq_true rfl, Nat.le_of_ble_eq_true rfl⟩) hS (fun q h1 h2 => absurd h2 (Nat.not_le.mpr h1)) (fun q h => hA q (Nat.le_trans hS.1 h)) (fun r3 ur3 t H1 locs ht hvm w4 hB hz1 hk1 hS => ?_)
      have hP := keepR hP hk1
      obtain ⟨w4, w4x⟩ := w4
      try simp only [l_ii, show (0 : Int32).toInt = 0 from by decide, show (2 : Int32).toInt = 2 from by decide] at w4
      subst w4
      refine lv_if_ne (tgt := 20) hx hb dX10_quiet_13 (by decide) (fun c5 => ?_) (fun c5 => ?_)
      · skip
        have b6 := if10_p c5
        refine lv_aload_n hx hb dX10_quiet_20 rfl (lv_at hl 0 rfl) ?_
        refine va_get (D := (dC, dI)) (ci := 10) (v := .ref tr) (C := RX10) (T := TX10) (N := 14) hx hb hg inG10 hown hK.1 hP 0 rfl rfl 2 (by decide) (hg _ wt_304) (fun _ h9 => h9) rfl dX10_quiet_21 ?_
        refine lv_aload_n hx hb dX10_quiet_24 rfl (lv_at hl 0 rfl) ?_
        refine va_get (D := (dC, dI)) (ci := 10) (v := .ref wy) (C := RX10) (T := TX10) (N := 14) hx hb hg inG10 hown hK.1 hP 0 rfl rfl 1 (by decide) (hg _ wt_303) (fun _ h9 => h9) rfl dX10_quiet_25 ?_
        have hPc := hP.sub (ws' := [(tr, .inr (9, [.int 0, .int 0, .int 5, .ref e1, .ref e2, .ref e3, .ref e4, .ref e5, .ref e6])), (e1, .inl (G 0, 10, .inl (fun _ => 0))), (e2, .inl (G 0, 10, .inl (fun _ => 0))), (e3, .inl (G 0, 10, .inl (fun _ => 0))), (e4, .inl (G 0, 6, .inl (fun _ => 0))), (e5, .inl (G 0, 6, .inl (fun _ => 0))), (e6, .inl (G 0, 6, .inl (fun _ => 0))), (wy, .inr (9, [.int 0, .int 0, .int 5, .ref a1, .ref a2, .ref a3, .ref a4, .ref a5, .ref a6])), (a1, .inl (G 0, 10, .inl (fun _ => 0))), (a2, .inl (G 0, 10, .inl (fun _ => 0))), (a3, .inl (G 0, 10, .inl (fun _ => 0))), (a4, .inl (G 0, 6, .inl (fun _ => 0))), (a5, .inl (G 0, 6, .inl (fun _ => 0))), (a6, .inl (G 0, 6, .inl (fun _ => 0)))]) [1, 2, 3, 4, 5, 6, 7, 8, 9, 10, 11, 12, 13, 14] rfl
        have hDc := hD.sub (ws' := [(tr, .inr (9, [.int 0, .int 0, .int 5, .ref e1, .ref e2, .ref e3, .ref e4, .ref e5, .ref e6])), (e1, .inl (G 0, 10, .inl (fun _ => 0))), (e2, .inl (G 0, 10, .inl (fun _ => 0))), (e3, .inl (G 0, 10, .inl (fun _ => 0))), (e4, .inl (G 0, 6, .inl (fun _ => 0))), (e5, .inl (G 0, 6, .inl (fun _ => 0))), (e6, .inl (G 0, 6, .inl (fun _ => 0))), (wy, .inr (9, [.int 0, .int 0, .int 5, .ref a1, .ref a2, .ref a3, .ref a4, .ref a5, .ref a6])), (a1, .inl (G 0, 10, .inl (fun _ => 0))), (a2, .inl (G 0, 10, .inl (fun _ => 0))), (a3, .inl (G 0, 10, .inl (fun _ => 0))), (a4, .inl (G 0, 6, .inl (fun _ => 0))), (a5, .inl (G 0, 6, .inl (fun _ => 0))), (a6, .inl (G 0, 6, .inl (fun _ => 0)))]) [1, 2, 3, 4, 5, 6, 7, 8, 9, 10, 11, 12, 13, 14] (by decide) rfl
        have hFc := va_free (wc := [(tr, .inr (9, [.int 0, .int 0, .int 5, .ref e1, .ref e2, .ref e3, .ref e4, .ref e5, .ref e6])), (e1, .inl (G 0, 10, .inl (fun _ => 0))), (e2, .inl (G 0, 10, .inl (fun _ => 0))), (e3, .inl (G 0, 10, .inl (fun _ => 0))), (e4, .inl (G 0, 6, .inl (fun _ => 0))), (e5, .inl (G 0, 6, .inl (fun _ => 0))), (e6, .inl (G 0, 6, .inl (fun _ => 0))), (wy, .inr (9, [.int 0, .int 0, .int 5, .ref a1, .ref a2, .ref a3, .ref a4, .ref a5, .ref a6])), (a1, .inl (G 0, 10, .inl (fun _ => 0))), (a2, .inl (G 0, 10, .inl (fun _ => 0))), (a3, .inl (G 0, 10, .inl (fun _ => 0))), (a4, .inl (G 0, 6, .inl (fun _ => 0))), (a5, .inl (G 0, 6, .inl (fun _ => 0))), (a6, .inl (G 0, 6, .inl (fun _ => 0)))]) hD hS hA [1, 2, 3, 4, 5, 6, 7, 8, 9, 10, 11, 12, 13, 14] rfl
        refine va_callv (va_runVN (As := [.ref wy]) (rest := []) ⟨hx, hb, hml, hown, hg⟩ (c_X9_copyOf l dC dI G _ tr wy e1 e2 e3 e4 e5 e6 a1 a2 a3 a4 a5 a6 0 0 5 0 0 5 (fun _ => 0) (fun _ => 0) (fun _ => 0) (fun _ => 0) (fun _ => 0) (fun _ => 0) (fun _ => 0) (fun _ => 0) (fun _ => 0) (fun _ => 0) (fun _ => 0) (fun _ => 0) ) (kwVN hg hK mfX9_copyOf wn_507 ⟨Nat.le_of_ble_eq_true rfl, Nat.le_of_ble_eq_true rfl⟩) (preVW hK hPc hDc (ci := 9) rfl rfl) rfl rfl hl.1 rfl (lv_room (Nat.le_of_ble_eq_true rfl)) dX10_quiet_28 ⟨Nat.le_of_ble_eq_true rfl, Nat.le_of_ble_eq_true rfl⟩) hS (fun q _ h => hFc q h) hFc (fun ur7 t H1 locs ht hvm w8 hB hz1 hk1 hS => ?_)
        obtain ⟨hP1, hD1⟩ := hB
        rw [ht] at hP1
        obtain ⟨hP, hD⟩ := va_join (wr := [(h0, .inr (10, [.ref rd, .ref wy, .ref tr, .ref im, .ref kp, .ref od, .ref ch, .ref cr, .ref le, .ref mk, .ref tl, .ref sh, .int 0, .int 0])), (od, .inr (4, [.long 1, .ref sa, .ref aa])), (sa, .inl (G 1, 10, .inr (.inl (fun _ => 0))))]) (w1 := [(wy, .inr (9, [.int 0, .int 0, .int 5, .ref a1, .ref a2, .ref a3, .ref a4, .ref a5, .ref a6]))]) hP hD [1, 2, 3, 4, 5, 6, 7, 8, 9, 10, 11, 12, 13, 14] [0, 15, 16] rfl rfl (by decide) (by decide) hk1 hFc hP1 hD1
        generalize H1 = H at hP hS ⊢
        have hP : va_P (dC, dI) vwCl [(h0, .inr (10, [.ref rd, .ref wy, .ref tr, .ref im, .ref kp, .ref od, .ref ch, .ref cr, .ref le, .ref mk, .ref tl, .ref sh, .int 0, .int 0])), (od, .inr (4, [.long 1, .ref sa, .ref aa])), (sa, .inl (G 1, 10, .inr (.inl (fun _ => 0)))), (wy, .inr (9, [.int 0, .int 0, .int 5, .ref a1, .ref a2, .ref a3, .ref a4, .ref a5, .ref a6]))] H := hP
        have hD : va_D A [(h0, .inr (10, [.ref rd, .ref wy, .ref tr, .ref im, .ref kp, .ref od, .ref ch, .ref cr, .ref le, .ref mk, .ref tl, .ref sh, .int 0, .int 0])), (od, .inr (4, [.long 1, .ref sa, .ref aa])), (sa, .inl (G 1, 10, .inr (.inl (fun _ => 0)))), (wy, .inr (9, [.int 0, .int 0, .int 5, .ref a1, .ref a2, .ref a3, .ref a4, .ref a5, .ref a6]))] := hD
        refine lv_aload_n hx hb dX10_quiet_31 rfl (lv_at hl 0 rfl) ?_
        refine va_get (D := (dC, dI)) (ci := 10) (v := .ref od) (C := RX10) (T := TX10) (N := 14) hx hb hg inG10 hown hK.1 hP 0 rfl rfl 5 (by decide) (hg _ wt_307) (fun _ h9 => h9) rfl dX10_quiet_32 ?_
        refine lv_aload_n hx hb dX10_quiet_35 rfl (lv_at hl 0 rfl) ?_
        refine va_get (D := (dC, dI)) (ci := 10) (v := .ref wy) (C := RX10) (T := TX10) (N := 14) hx hb hg inG10 hown hK.1 hP 0 rfl rfl 1 (by decide) (hg _ wt_303) (fun _ h9 => h9) rfl dX10_quiet_36 ?_
        refine lv_aload_n hx hb dX10_quiet_39 rfl (lv_at hl 0 rfl) ?_
        refine va_get (D := (dC, dI)) (ci := 10) (v := .ref wy) (C := RX10) (T := TX10) (N := 14) hx hb hg inG10 hown hK.1 hP 0 rfl rfl 1 (by decide) (hg _ wt_303) (fun _ h9 => h9) rfl dX10_quiet_40 ?_
        refine va_getN (D := (dC, dI)) (ci := 9) (v := .int 0) (C := RX9) (T := TX9) (N := 9) hx hb hg inG9 hown hK.1 hP 3 rfl rfl 0 (by decide) (hK.nest wn_60) (fun _ h9 => h9) rfl dX10_quiet_43 ?_
        refine lv_bipush (v := (-4)) hx hb dX10_quiet_46 (by decide) ?_
        have hPc := hP.sub (ws' := [(od, .inr (4, [.long 1, .ref sa, .ref aa])), (sa, .inl (G 1, 10, .inr (.inl (fun _ => 0)))), (wy, .inr (9, [.int 0, .int 0, .int 5, .ref a1, .ref a2, .ref a3, .ref a4, .ref a5, .ref a6]))]) [1, 2, 3] rfl
        have hDc := hD.sub (ws' := [(od, .inr (4, [.long 1, .ref sa, .ref aa])), (sa, .inl (G 1, 10, .inr (.inl (fun _ => 0)))), (wy, .inr (9, [.int 0, .int 0, .int 5, .ref a1, .ref a2, .ref a3, .ref a4, .ref a5, .ref a6]))]) [1, 2, 3] (by decide) rfl
        have hFc := va_free (wc := [(od, .inr (4, [.long 1, .ref sa, .ref aa])), (sa, .inl (G 1, 10, .inr (.inl (fun _ => 0)))), (wy, .inr (9, [.int 0, .int 0, .int 5, .ref a1, .ref a2, .ref a3, .ref a4, .ref a5, .ref a6]))]) hD hS hA [1, 2, 3] rfl
        refine va_calll (va_runVN (As := [.ref wy, .int 0, .int (-4)]) (rest := []) ⟨hx, hb, hml, hown, hg⟩ (c_X4_waking l dC dI G _ od sa aa wy a1 a2 a3 a4 a5 a6 1 (fun _ => 0) (-4) ) (kwVN hg hK mfX4_waking wn_608 ⟨Nat.le_of_ble_eq_true rfl, Nat.le_of_ble_eq_true rfl⟩) (preVW hK hPc hDc (ci := 4) rfl rfl) rfl rfl hl.1 rfl (lv_room (Nat.le_of_ble_eq_true rfl)) dX10_quiet_48 ⟨Nat.le_of_ble_eq_true rfl, Nat.le_of_ble_eq_true rfl⟩) hS (fun q _ h => hFc q h) hFc (fun r9 ur9 t H1 locs ht hvm w10 hB hz1 hk1 hS => ?_)
        obtain ⟨hP1, hD1⟩ := hB
        rw [ht] at hP1
        obtain ⟨hP, hD⟩ := va_join (wr := [(h0, .inr (10, [.ref rd, .ref wy, .ref tr, .ref im, .ref kp, .ref od, .ref ch, .ref cr, .ref le, .ref mk, .ref tl, .ref sh, .int 0, .int 0]))]) (w1 := [(od, .inr (4, [.long 1, .ref sa, .ref aa])), (wy, .inr (9, [.int 0, .int 0, .int 5, .ref a1, .ref a2, .ref a3, .ref a4, .ref a5, .ref a6]))]) hP hD [1, 2, 3] [0] rfl rfl (by decide) (by decide) hk1 hFc hP1 hD1
        generalize H1 = H at hP hS ⊢
        have hP : va_P (dC, dI) vwCl [(h0, .inr (10, [.ref rd, .ref wy, .ref tr, .ref im, .ref kp, .ref od, .ref ch, .ref cr, .ref le, .ref mk, .ref tl, .ref sh, .int 0, .int 0])), (od, .inr (4, [.long 1, .ref sa, .ref aa])), (wy, .inr (9, [.int 0, .int 0, .int 5, .ref a1, .ref a2, .ref a3, .ref a4, .ref a5, .ref a6]))] H := hP
        have hD : va_D A [(h0, .inr (10, [.ref rd, .ref wy, .ref tr, .ref im, .ref kp, .ref od, .ref ch, .ref cr, .ref le, .ref mk, .ref tl, .ref sh, .int 0, .int 0])), (od, .inr (4, [.long 1, .ref sa, .ref aa])), (wy, .inr (9, [.int 0, .int 0, .int 5, .ref a1, .ref a2, .ref a3, .ref a4, .ref a5, .ref a6]))] := hD
        obtain ⟨w10, w10x⟩ := w10
        subst w10
        refine lv_lstore_n (lv' := [(3, .long 0), (0, .ref h0), (1, .int mm), (2, .int what)]) hx hb dX10_quiet_51 rfl hl (by decide) rfl (fun ls hl => ?_)
        refine lv_iconst (v := 0) hx hb dX10_quiet_52 (by decide) ?_
        refine lv_istore (lv' := [(5, .int 0), (3, .long 0), (0, .ref h0), (1, .int mm), (2, .int what)]) hx hb dX10_quiet_53 hl (by decide) rfl (fun ls hl => ?_)
        refine lv_iconst (v := 1) hx hb dX10_quiet_55 (by decide) ?_
        refine lv_istore (lv' := [(6, .int 1), (5, .int 0), (3, .long 0), (0, .ref h0), (1, .int mm), (2, .int what)]) hx hb dX10_quiet_56 hl (by decide) rfl (fun ls hl => ?_)
        refine lv_iload hx hb dX10_quiet_58 (lv_at hl 0 rfl) ?_
        refine lv_iconst (v := 1) hx hb dX10_quiet_60 (by decide) ?_
        refine lv_aload_n hx hb dX10_quiet_61 rfl (lv_at hl 3 rfl) ?_
        refine va_get (D := (dC, dI)) (ci := 10) (v := .ref wy) (C := RX10) (T := TX10) (N := 14) hx hb hg inG10 hown hK.1 hP 0 rfl rfl 1 (by decide) (hg _ wt_303) (fun _ h9 => h9) rfl dX10_quiet_62 ?_
        refine va_getN (D := (dC, dI)) (ci := 9) (v := .int 0) (C := RX9) (T := TX9) (N := 9) hx hb hg inG9 hown hK.1 hP 2 rfl rfl 0 (by decide) (hK.nest wn_60) (fun _ h9 => h9) rfl dX10_quiet_65 ?_
        refine lv_ishl hx hb dX10_quiet_68 ?_
        refine lv_cg (y := 1) (by decide) ?_
        refine lv_icmp_ge (tgt := 153) hx hb dX10_quiet_69 (by decide) (fun c11 => ?_) (fun c11 => ?_)
        · skip
          refine lv_iload_n hx hb dX10_quiet_153 rfl (lv_at hl 5 rfl) ?_
          refine lv_iconst (v := 2) hx hb dX10_quiet_154 (by decide) ?_
          refine lv_icmp_ne (tgt := 164) hx hb dX10_quiet_155 (by decide) (fun c12 => ?_) (fun c12 => ?_)
          · skip
            refine lv_lload_n hx hb dX10_quiet_164 rfl (lv_at hl 2 rfl) ?_
            refine lv_aload_n hx hb dX10_quiet_165 rfl (lv_at hl 3 rfl) ?_
            refine va_get (D := (dC, dI)) (ci := 10) (v := .ref od) (C := RX10) (T := TX10) (N := 14) hx hb hg inG10 hown hK.1 hP 0 rfl rfl 5 (by decide) (hg _ wt_307) (fun _ h9 => h9) rfl dX10_quiet_166 ?_
            refine va_getN (D := (dC, dI)) (ci := 4) (v := .long 1) (C := RX4) (T := TX4) (N := 3) hx hb hg inG4 hown hK.1 hP 1 rfl rfl 0 (by decide) (hK.nest wn_157) (fun _ h9 => h9) rfl dX10_quiet_169 ?_
            refine lv_iload_n hx hb dX10_quiet_172 rfl (lv_at hl 5 rfl) ?_
            have hPc := hP.sub (ws' := []) [] rfl
            refine va_calll (va_runS (As := [.long 0, .long 1, .int what]) (rest := []) ⟨hx, hb, hml, hown, hg⟩ (c_X10_fraction l dC dI G _ what ) (kwS hg mfX10_fraction wt_635 ⟨Nat.le_of_ble_eq_true rfl, Nat.le_of_ble_eq_true rfl⟩) (preSR hK hPc) rfl rfl hl.1 rfl (lv_room (Nat.le_of_ble_eq_true rfl)) dX10_quiet_173 ⟨Nat.le_of_ble_eq_true rfl, Nat.le_of_ble_eq_true rfl⟩) hS (fun q h1 h2 => absurd h2 (Nat.not_le.mpr h1)) (fun q h => hA q (Nat.le_trans hS.1 h)) (fun r13 ur13 t H1 locs ht hvm w14 hB hz1 hk1 hS => ?_)
            have hP := keepR hP hk1
            obtain ⟨w14, w14x⟩ := w14
            subst w14
            have hpost : (if what.toInt = 0 then 0 else 1 : Int64) = if 0 ≤ mm.toInt ∧ mm.toInt ≤ 4 then (if what.toInt = 0 then 0 else if what.toInt = 1 then 1 else if what.toInt = 2 then 0 else -1) else -1 := by
              have t_c1 := nltI c1
              have t_c2 := nltI c2
              have t_b6 := b6
              have t_c11 := leI c11
              have t_c12 := neI c12
              have : (0 : Int32).toInt = 0 := (by decide)
              have : (1 : Int32).toInt = 1 := (by decide)
              have : (2 : Int32).toInt = 2 := (by decide)
              have : (4 : Int32).toInt = 4 := (by decide)
              first | rfl | ((repeat' split) <;> first | rfl | omega)
            refine W.widen (k := 0) (n := 0) (by omega) (by omega) ?_
            exact W.lret (v := if what.toInt = 0 then 0 else 1) hx hb hr (fun t ht hW => ⟨⟨if what.toInt = 0 then 0 else 1, (), rfl, ⟨hpost, trivial⟩, trivial⟩, hS.F ht⟩) hS.2.2 dX10_quiet_176
          · skip
            refine lv_iload hx hb dX10_quiet_158 (lv_at hl 1 rfl) ?_
            refine lv_i2l (v := 0) hx hb dX10_quiet_160 (by decide) ?_
            refine lv_goto (tgt := 176) hx hb dX10_quiet_161 (by decide) ?_
            have hpost : (0 : Int64) = if 0 ≤ mm.toInt ∧ mm.toInt ≤ 4 then (if what.toInt = 0 then 0 else if what.toInt = 1 then 1 else if what.toInt = 2 then 0 else -1) else -1 := by
              have t_c1 := nltI c1
              have t_c2 := nltI c2
              have t_b6 := b6
              have t_c11 := leI c11
              have t_c12 := eqI c12
              have : (0 : Int32).toInt = 0 := (by decide)
              have : (1 : Int32).toInt = 1 := (by decide)
              have : (2 : Int32).toInt = 2 := (by decide)
              have : (4 : Int32).toInt = 4 := (by decide)
              first | rfl | ((repeat' split) <;> first | rfl | omega)
            refine W.widen (k := 0) (n := 0) (by omega) (by omega) ?_
            exact W.lret (v := 0) hx hb hr (fun t ht hW => ⟨⟨0, (), rfl, ⟨hpost, trivial⟩, trivial⟩, hS.F ht⟩) hS.2.2 dX10_quiet_176
        · skip
          exact absurd c11 (by decide)
      · skip
        have b15 := if10_n c5
        refine lv_ldc2 (v := (-1)) hx hb hown (hg _ wt_607) dX10_quiet_16 ?_
        have hpost : ((-1) : Int64) = if 0 ≤ mm.toInt ∧ mm.toInt ≤ 4 then (if what.toInt = 0 then 0 else if what.toInt = 1 then 1 else if what.toInt = 2 then 0 else -1) else -1 := by
          have t_c1 := nltI c1
          have t_c2 := nltI c2
          have t_b15 := b15
          have : (0 : Int32).toInt = 0 := (by decide)
          have : (4 : Int32).toInt = 4 := (by decide)
          first | rfl | ((repeat' split) <;> first | rfl | omega)
        refine W.widen (k := 0) (n := 0) (by omega) (by omega) ?_
        exact W.lret (v := (-1)) hx hb hr (fun t ht hW => ⟨⟨(-1), (), rfl, ⟨hpost, trivial⟩, trivial⟩, hS.F ht⟩) hS.2.2 dX10_quiet_19

set_option maxHeartbeats 4000000 in
set_option maxRecDepth 100000 in
theorem c_X10_drop (l : Launch) (dC : Nat → ClassId) (dI : Nat → Nat → Nat) (G : Nat → ClassId) (sz : Nat) (h0 rd wy tr im kp od ch cr le mk tl sh a1 a2 a3 a4 a5 a6 : Nat) (what : Int32)   : Met l yX10_drop (Cond.code yX10_drop cX10_drop 8 (some .long) :: GT) ({ frames := 1, cells := 0, slots := 0, locals := 20 } : Room) (PcW [.ref h0, .int what] dC dI G [(h0, .inr (10, [.ref rd, .ref wy, .ref tr, .ref im, .ref kp, .ref od, .ref ch, .ref cr, .ref le, .ref mk, .ref tl, .ref sh, .int 0, .int 0])), (wy, .inr (9, [.int 0, .int 0, .int 5, .ref a1, .ref a2, .ref a3, .ref a4, .ref a5, .ref a6]))] sz) (va_Ql (fun (r : Int64) (u : Unit) => match u with | _ => (r = if 0 ≤ what.toInt ∧ what.toInt ≤ 2 then -2 else -1) ∧ True) (fun _ _ => True) (va_A [(h0, .inr (10, [.ref rd, .ref wy, .ref tr, .ref im, .ref kp, .ref od, .ref ch, .ref cr, .ref le, .ref mk, .ref tl, .ref sh, .int 0, .int 0])), (wy, .inr (9, [.int 0, .int 0, .int 5, .ref a1, .ref a2, .ref a3, .ref a4, .ref a5, .ref a6]))] sz)) 0 0 (va_A [(h0, .inr (10, [.ref rd, .ref wy, .ref tr, .ref im, .ref kp, .ref od, .ref ch, .ref cr, .ref le, .ref mk, .ref tl, .ref sh, .int 0, .int 0])), (wy, .inr (9, [.int 0, .int 0, .int 5, .ref a1, .ref a2, .ref a3, .ref a4, .ref a5, .ref a6]))] sz) := by
  refine Met.ofW (cc := cX10_drop) (maxL := 8) (ret := (some .long)) (by decide) rfl ?_
  intro p e s m args below meth c s₁ B hml hv
  obtain ⟨rfl, hsz, hP, hK, hD0⟩ := hv
  have hx := B.exec
  have hb := B.bytes
  have hr := B.returns
  have hg : ∀ w ∈ GT, w.before ([.ref h0, .int what] : List Value).toArray s = true := fun w h => atoms_spec (ws := Cond.code yX10_drop cX10_drop 8 (some .long) :: GT) B.pre w (List.mem_cons_of_mem _ h)
  have hown : s.vm.findClass RX10 = some m.cls := findClass_of_methodNamed B.named
  have hlocks := B.notSynchronized
  subst hsz
  have hD := hD0.self (sz := s.heap.size)
  generalize hAe : va_A [(h0, .inr (10, [.ref rd, .ref wy, .ref tr, .ref im, .ref kp, .ref od, .ref ch, .ref cr, .ref le, .ref mk, .ref tl, .ref sh, .int 0, .int 0])), (wy, .inr (9, [.int 0, .int 0, .int 5, .ref a1, .ref a2, .ref a3, .ref a4, .ref a5, .ref a6]))] s.heap.size = A at hD ⊢
  have hA : ∀ q : Nat, s.heap.size ≤ q → A q := fun q h => by rw [← hAe]; exact Or.inr h
  have hS : va_S A s.heap s.heap [] := va_S.rf
  have hl := lv_entry ([.ref h0, .int what]) (n := 8) (Nat.le_of_ble_eq_true rfl)
  rw [lg_entry_eq]
  generalize (lg_sl ([.ref h0, .int what]) ++ List.replicate (8 - (lg_sl ([.ref h0, .int what])).length) Slot.unset).toArray = ls at hl ⊢
  have hl : lv_has ls 8 [(0, .ref h0), (1, .int what)] := hl
  refine lv_iload_n hx hb dX10_drop_0 rfl (lv_at hl 1 rfl) ?_
  have hPc := hP.sub (ws' := []) [] rfl
  refine va_calli (va_runS (As := [.int what]) (rest := []) ⟨hx, hb, hml, hown, hg⟩ (c_X10_isAnswerPart l dC dI G _ what ) (kwS hg mfX10_isAnswerPart wt_694 ⟨Nat.le_of_ble_eq_true rfl, Nat.le_of_ble_eq_true rfl⟩) (preSR hK hPc) rfl rfl hl.1 rfl (lv_room (Nat.le_of_ble_eq_true rfl)) dX10_drop_1 ⟨Nat.le_of_ble_eq_true rfl, Nat.le_of_ble_eq_true rfl⟩) hS (fun q h1 h2 => absurd h2 (Nat.not_le.mpr h1)) (fun q h => hA q (Nat.le_trans hS.1 h)) (fun r1 ur1 t H1 locs ht hvm w2 hB hz1 hk1 hS => ?_)
  have hP := keepR hP hk1
  obtain ⟨w2, w2x⟩ := w2
  try simp only [l_ii, show (0 : Int32).toInt = 0 from by decide, show (2 : Int32).toInt = 2 from by decide] at w2
  subst w2
  refine lv_if_ne (tgt := 11) hx hb dX10_drop_4 (by decide) (fun c3 => ?_) (fun c3 => ?_)
  · skip
    have b4 := if10_p c3
    refine lv_aload_n hx hb dX10_drop_11 rfl (lv_at hl 0 rfl) ?_
    refine va_get (D := (dC, dI)) (ci := 10) (v := .ref wy) (C := RX10) (T := TX10) (N := 14) hx hb hg inG10 hown hK.1 hP 0 rfl rfl 1 (by decide) (hg _ wt_303) (fun _ h9 => h9) rfl dX10_drop_12 ?_
    refine va_getN (D := (dC, dI)) (ci := 9) (v := .int 0) (C := RX9) (T := TX9) (N := 9) hx hb hg inG9 hown hK.1 hP 1 rfl rfl 0 (by decide) (hK.nest wn_60) (fun _ h9 => h9) rfl dX10_drop_15 ?_
    refine lv_if_ne (tgt := 25) hx hb dX10_drop_18 (by decide) (fun c5 => ?_) (fun c5 => ?_)
    · skip
      exact absurd c5 (by decide)
    · skip
      refine lv_ldc2 (v := (-2)) hx hb hown (hg _ wt_689) dX10_drop_21 ?_
      have hpost : ((-2) : Int64) = if 0 ≤ what.toInt ∧ what.toInt ≤ 2 then -2 else -1 := by
        have t_b4 := b4
        have t_c5 := eqI c5
        have : (0 : Int32).toInt = 0 := (by decide)
        first | rfl | ((repeat' split) <;> first | rfl | omega)
      refine W.widen (k := 0) (n := 0) (by omega) (by omega) ?_
      exact W.lret (v := (-2)) hx hb hr (fun t ht hW => ⟨⟨(-2), (), rfl, ⟨hpost, trivial⟩, trivial⟩, hS.F ht⟩) hS.2.2 dX10_drop_24
  · skip
    have b6 := if10_n c3
    refine lv_ldc2 (v := (-1)) hx hb hown (hg _ wt_607) dX10_drop_7 ?_
    have hpost : ((-1) : Int64) = if 0 ≤ what.toInt ∧ what.toInt ≤ 2 then -2 else -1 := by
      have t_b6 := b6
      first | rfl | ((repeat' split) <;> first | rfl | omega)
    refine W.widen (k := 0) (n := 0) (by omega) (by omega) ?_
    exact W.lret (v := (-1)) hx hb hr (fun t ht hW => ⟨⟨(-1), (), rfl, ⟨hpost, trivial⟩, trivial⟩, hS.F ht⟩) hS.2.2 dX10_drop_10

set_option maxHeartbeats 4000000 in
set_option maxRecDepth 100000 in
theorem c_X10_swap (l : Launch) (dC : Nat → ClassId) (dI : Nat → Nat → Nat) (G : Nat → ClassId) (sz : Nat) (h0 rd wy tr im kp od ch cr le mk tl sh e1 e2 e3 e4 e5 e6 a1 a2 a3 a4 a5 a6 sa aa : Nat) (what : Int32)   : Met l yX10_swap (Cond.code yX10_swap cX10_swap 9 (some .long) :: GT) ({ frames := 2, cells := 0, slots := 0, locals := 121 } : Room) (PcW [.ref h0, .int what] dC dI G [(h0, .inr (10, [.ref rd, .ref wy, .ref tr, .ref im, .ref kp, .ref od, .ref ch, .ref cr, .ref le, .ref mk, .ref tl, .ref sh, .int 0, .int 0])), (tr, .inr (9, [.int 0, .int 0, .int 5, .ref e1, .ref e2, .ref e3, .ref e4, .ref e5, .ref e6])), (e1, .inl (G 0, 10, .inl (fun _ => 0))), (e2, .inl (G 0, 10, .inl (fun _ => 0))), (e3, .inl (G 0, 10, .inl (fun _ => 0))), (e4, .inl (G 0, 6, .inl (fun _ => 0))), (e5, .inl (G 0, 6, .inl (fun _ => 0))), (e6, .inl (G 0, 6, .inl (fun _ => 0))), (wy, .inr (9, [.int 0, .int 0, .int 5, .ref a1, .ref a2, .ref a3, .ref a4, .ref a5, .ref a6])), (a1, .inl (G 0, 10, .inl (fun _ => 0))), (a2, .inl (G 0, 10, .inl (fun _ => 0))), (a3, .inl (G 0, 10, .inl (fun _ => 0))), (a4, .inl (G 0, 6, .inl (fun _ => 0))), (a5, .inl (G 0, 6, .inl (fun _ => 0))), (a6, .inl (G 0, 6, .inl (fun _ => 0))), (od, .inr (4, [.long 1, .ref sa, .ref aa])), (sa, .inl (G 1, 10, .inr (.inl (fun _ => 0))))] sz) (va_Ql (fun (r : Int64) (u : Unit) => match u with | _ => (r = if 0 ≤ what.toInt ∧ what.toInt ≤ 2 then -4 else -1) ∧ True) (fun _ _ => True) (va_A [(h0, .inr (10, [.ref rd, .ref wy, .ref tr, .ref im, .ref kp, .ref od, .ref ch, .ref cr, .ref le, .ref mk, .ref tl, .ref sh, .int 0, .int 0])), (tr, .inr (9, [.int 0, .int 0, .int 5, .ref e1, .ref e2, .ref e3, .ref e4, .ref e5, .ref e6])), (e1, .inl (G 0, 10, .inl (fun _ => 0))), (e2, .inl (G 0, 10, .inl (fun _ => 0))), (e3, .inl (G 0, 10, .inl (fun _ => 0))), (e4, .inl (G 0, 6, .inl (fun _ => 0))), (e5, .inl (G 0, 6, .inl (fun _ => 0))), (e6, .inl (G 0, 6, .inl (fun _ => 0))), (wy, .inr (9, [.int 0, .int 0, .int 5, .ref a1, .ref a2, .ref a3, .ref a4, .ref a5, .ref a6])), (a1, .inl (G 0, 10, .inl (fun _ => 0))), (a2, .inl (G 0, 10, .inl (fun _ => 0))), (a3, .inl (G 0, 10, .inl (fun _ => 0))), (a4, .inl (G 0, 6, .inl (fun _ => 0))), (a5, .inl (G 0, 6, .inl (fun _ => 0))), (a6, .inl (G 0, 6, .inl (fun _ => 0))), (od, .inr (4, [.long 1, .ref sa, .ref aa])), (sa, .inl (G 1, 10, .inr (.inl (fun _ => 0))))] sz)) 0 0 (va_A [(h0, .inr (10, [.ref rd, .ref wy, .ref tr, .ref im, .ref kp, .ref od, .ref ch, .ref cr, .ref le, .ref mk, .ref tl, .ref sh, .int 0, .int 0])), (tr, .inr (9, [.int 0, .int 0, .int 5, .ref e1, .ref e2, .ref e3, .ref e4, .ref e5, .ref e6])), (e1, .inl (G 0, 10, .inl (fun _ => 0))), (e2, .inl (G 0, 10, .inl (fun _ => 0))), (e3, .inl (G 0, 10, .inl (fun _ => 0))), (e4, .inl (G 0, 6, .inl (fun _ => 0))), (e5, .inl (G 0, 6, .inl (fun _ => 0))), (e6, .inl (G 0, 6, .inl (fun _ => 0))), (wy, .inr (9, [.int 0, .int 0, .int 5, .ref a1, .ref a2, .ref a3, .ref a4, .ref a5, .ref a6])), (a1, .inl (G 0, 10, .inl (fun _ => 0))), (a2, .inl (G 0, 10, .inl (fun _ => 0))), (a3, .inl (G 0, 10, .inl (fun _ => 0))), (a4, .inl (G 0, 6, .inl (fun _ => 0))), (a5, .inl (G 0, 6, .inl (fun _ => 0))), (a6, .inl (G 0, 6, .inl (fun _ => 0))), (od, .inr (4, [.long 1, .ref sa, .ref aa])), (sa, .inl (G 1, 10, .inr (.inl (fun _ => 0))))] sz) := by
  refine Met.ofW (cc := cX10_swap) (maxL := 9) (ret := (some .long)) (by decide) rfl ?_
  intro p e s m args below meth c s₁ B hml hv
  obtain ⟨rfl, hsz, hP, hK, hD0⟩ := hv
  have hx := B.exec
  have hb := B.bytes
  have hr := B.returns
  have hg : ∀ w ∈ GT, w.before ([.ref h0, .int what] : List Value).toArray s = true := fun w h => atoms_spec (ws := Cond.code yX10_swap cX10_swap 9 (some .long) :: GT) B.pre w (List.mem_cons_of_mem _ h)
  have hown : s.vm.findClass RX10 = some m.cls := findClass_of_methodNamed B.named
  have hlocks := B.notSynchronized
  subst hsz
  have hD := hD0.self (sz := s.heap.size)
  generalize hAe : va_A [(h0, .inr (10, [.ref rd, .ref wy, .ref tr, .ref im, .ref kp, .ref od, .ref ch, .ref cr, .ref le, .ref mk, .ref tl, .ref sh, .int 0, .int 0])), (tr, .inr (9, [.int 0, .int 0, .int 5, .ref e1, .ref e2, .ref e3, .ref e4, .ref e5, .ref e6])), (e1, .inl (G 0, 10, .inl (fun _ => 0))), (e2, .inl (G 0, 10, .inl (fun _ => 0))), (e3, .inl (G 0, 10, .inl (fun _ => 0))), (e4, .inl (G 0, 6, .inl (fun _ => 0))), (e5, .inl (G 0, 6, .inl (fun _ => 0))), (e6, .inl (G 0, 6, .inl (fun _ => 0))), (wy, .inr (9, [.int 0, .int 0, .int 5, .ref a1, .ref a2, .ref a3, .ref a4, .ref a5, .ref a6])), (a1, .inl (G 0, 10, .inl (fun _ => 0))), (a2, .inl (G 0, 10, .inl (fun _ => 0))), (a3, .inl (G 0, 10, .inl (fun _ => 0))), (a4, .inl (G 0, 6, .inl (fun _ => 0))), (a5, .inl (G 0, 6, .inl (fun _ => 0))), (a6, .inl (G 0, 6, .inl (fun _ => 0))), (od, .inr (4, [.long 1, .ref sa, .ref aa])), (sa, .inl (G 1, 10, .inr (.inl (fun _ => 0))))] s.heap.size = A at hD ⊢
  have hA : ∀ q : Nat, s.heap.size ≤ q → A q := fun q h => by rw [← hAe]; exact Or.inr h
  have hS : va_S A s.heap s.heap [] := va_S.rf
  have hl := lv_entry ([.ref h0, .int what]) (n := 9) (Nat.le_of_ble_eq_true rfl)
  rw [lg_entry_eq]
  generalize (lg_sl ([.ref h0, .int what]) ++ List.replicate (9 - (lg_sl ([.ref h0, .int what])).length) Slot.unset).toArray = ls at hl ⊢
  have hl : lv_has ls 9 [(0, .ref h0), (1, .int what)] := hl
  refine lv_iload_n hx hb dX10_swap_0 rfl (lv_at hl 1 rfl) ?_
  have hPc := hP.sub (ws' := []) [] rfl
  refine va_calli (va_runS (As := [.int what]) (rest := []) ⟨hx, hb, hml, hown, hg⟩ (c_X10_isAnswerPart l dC dI G _ what ) (kwS hg mfX10_isAnswerPart wt_694 ⟨Nat.le_of_ble_eq_true rfl, Nat.le_of_ble_eq_true rfl⟩) (preSR hK hPc) rfl rfl hl.1 rfl (lv_room (Nat.le_of_ble_eq_true rfl)) dX10_swap_1 ⟨Nat.le_of_ble_eq_true rfl, Nat.le_of_ble_eq_true rfl⟩) hS (fun q h1 h2 => absurd h2 (Nat.not_le.mpr h1)) (fun q h => hA q (Nat.le_trans hS.1 h)) (fun r1 ur1 t H1 locs ht hvm w2 hB hz1 hk1 hS => ?_)
  have hP := keepR hP hk1
  obtain ⟨w2, w2x⟩ := w2
  try simp only [l_ii, show (0 : Int32).toInt = 0 from by decide, show (2 : Int32).toInt = 2 from by decide] at w2
  subst w2
  refine lv_if_ne (tgt := 11) hx hb dX10_swap_4 (by decide) (fun c3 => ?_) (fun c3 => ?_)
  · skip
    have b4 := if10_p c3
    refine lv_aload_n hx hb dX10_swap_11 rfl (lv_at hl 0 rfl) ?_
    refine va_get (D := (dC, dI)) (ci := 10) (v := .ref tr) (C := RX10) (T := TX10) (N := 14) hx hb hg inG10 hown hK.1 hP 0 rfl rfl 2 (by decide) (hg _ wt_304) (fun _ h9 => h9) rfl dX10_swap_12 ?_
    refine lv_aload_n hx hb dX10_swap_15 rfl (lv_at hl 0 rfl) ?_
    refine va_get (D := (dC, dI)) (ci := 10) (v := .ref wy) (C := RX10) (T := TX10) (N := 14) hx hb hg inG10 hown hK.1 hP 0 rfl rfl 1 (by decide) (hg _ wt_303) (fun _ h9 => h9) rfl dX10_swap_16 ?_
    have hPc := hP.sub (ws' := [(tr, .inr (9, [.int 0, .int 0, .int 5, .ref e1, .ref e2, .ref e3, .ref e4, .ref e5, .ref e6])), (e1, .inl (G 0, 10, .inl (fun _ => 0))), (e2, .inl (G 0, 10, .inl (fun _ => 0))), (e3, .inl (G 0, 10, .inl (fun _ => 0))), (e4, .inl (G 0, 6, .inl (fun _ => 0))), (e5, .inl (G 0, 6, .inl (fun _ => 0))), (e6, .inl (G 0, 6, .inl (fun _ => 0))), (wy, .inr (9, [.int 0, .int 0, .int 5, .ref a1, .ref a2, .ref a3, .ref a4, .ref a5, .ref a6])), (a1, .inl (G 0, 10, .inl (fun _ => 0))), (a2, .inl (G 0, 10, .inl (fun _ => 0))), (a3, .inl (G 0, 10, .inl (fun _ => 0))), (a4, .inl (G 0, 6, .inl (fun _ => 0))), (a5, .inl (G 0, 6, .inl (fun _ => 0))), (a6, .inl (G 0, 6, .inl (fun _ => 0)))]) [1, 2, 3, 4, 5, 6, 7, 8, 9, 10, 11, 12, 13, 14] rfl
    have hDc := hD.sub (ws' := [(tr, .inr (9, [.int 0, .int 0, .int 5, .ref e1, .ref e2, .ref e3, .ref e4, .ref e5, .ref e6])), (e1, .inl (G 0, 10, .inl (fun _ => 0))), (e2, .inl (G 0, 10, .inl (fun _ => 0))), (e3, .inl (G 0, 10, .inl (fun _ => 0))), (e4, .inl (G 0, 6, .inl (fun _ => 0))), (e5, .inl (G 0, 6, .inl (fun _ => 0))), (e6, .inl (G 0, 6, .inl (fun _ => 0))), (wy, .inr (9, [.int 0, .int 0, .int 5, .ref a1, .ref a2, .ref a3, .ref a4, .ref a5, .ref a6])), (a1, .inl (G 0, 10, .inl (fun _ => 0))), (a2, .inl (G 0, 10, .inl (fun _ => 0))), (a3, .inl (G 0, 10, .inl (fun _ => 0))), (a4, .inl (G 0, 6, .inl (fun _ => 0))), (a5, .inl (G 0, 6, .inl (fun _ => 0))), (a6, .inl (G 0, 6, .inl (fun _ => 0)))]) [1, 2, 3, 4, 5, 6, 7, 8, 9, 10, 11, 12, 13, 14] (by decide) rfl
    have hFc := va_free (wc := [(tr, .inr (9, [.int 0, .int 0, .int 5, .ref e1, .ref e2, .ref e3, .ref e4, .ref e5, .ref e6])), (e1, .inl (G 0, 10, .inl (fun _ => 0))), (e2, .inl (G 0, 10, .inl (fun _ => 0))), (e3, .inl (G 0, 10, .inl (fun _ => 0))), (e4, .inl (G 0, 6, .inl (fun _ => 0))), (e5, .inl (G 0, 6, .inl (fun _ => 0))), (e6, .inl (G 0, 6, .inl (fun _ => 0))), (wy, .inr (9, [.int 0, .int 0, .int 5, .ref a1, .ref a2, .ref a3, .ref a4, .ref a5, .ref a6])), (a1, .inl (G 0, 10, .inl (fun _ => 0))), (a2, .inl (G 0, 10, .inl (fun _ => 0))), (a3, .inl (G 0, 10, .inl (fun _ => 0))), (a4, .inl (G 0, 6, .inl (fun _ => 0))), (a5, .inl (G 0, 6, .inl (fun _ => 0))), (a6, .inl (G 0, 6, .inl (fun _ => 0)))]) hD hS hA [1, 2, 3, 4, 5, 6, 7, 8, 9, 10, 11, 12, 13, 14] rfl
    refine va_callv (va_runVN (As := [.ref wy]) (rest := []) ⟨hx, hb, hml, hown, hg⟩ (c_X9_copyOf l dC dI G _ tr wy e1 e2 e3 e4 e5 e6 a1 a2 a3 a4 a5 a6 0 0 5 0 0 5 (fun _ => 0) (fun _ => 0) (fun _ => 0) (fun _ => 0) (fun _ => 0) (fun _ => 0) (fun _ => 0) (fun _ => 0) (fun _ => 0) (fun _ => 0) (fun _ => 0) (fun _ => 0) ) (kwVN hg hK mfX9_copyOf wn_507 ⟨Nat.le_of_ble_eq_true rfl, Nat.le_of_ble_eq_true rfl⟩) (preVW hK hPc hDc (ci := 9) rfl rfl) rfl rfl hl.1 rfl (lv_room (Nat.le_of_ble_eq_true rfl)) dX10_swap_19 ⟨Nat.le_of_ble_eq_true rfl, Nat.le_of_ble_eq_true rfl⟩) hS (fun q _ h => hFc q h) hFc (fun ur5 t H1 locs ht hvm w6 hB hz1 hk1 hS => ?_)
    obtain ⟨hP1, hD1⟩ := hB
    rw [ht] at hP1
    obtain ⟨hP, hD⟩ := va_join (wr := [(h0, .inr (10, [.ref rd, .ref wy, .ref tr, .ref im, .ref kp, .ref od, .ref ch, .ref cr, .ref le, .ref mk, .ref tl, .ref sh, .int 0, .int 0])), (od, .inr (4, [.long 1, .ref sa, .ref aa])), (sa, .inl (G 1, 10, .inr (.inl (fun _ => 0))))]) (w1 := [(wy, .inr (9, [.int 0, .int 0, .int 5, .ref a1, .ref a2, .ref a3, .ref a4, .ref a5, .ref a6]))]) hP hD [1, 2, 3, 4, 5, 6, 7, 8, 9, 10, 11, 12, 13, 14] [0, 15, 16] rfl rfl (by decide) (by decide) hk1 hFc hP1 hD1
    generalize H1 = H at hP hS ⊢
    have hP : va_P (dC, dI) vwCl [(h0, .inr (10, [.ref rd, .ref wy, .ref tr, .ref im, .ref kp, .ref od, .ref ch, .ref cr, .ref le, .ref mk, .ref tl, .ref sh, .int 0, .int 0])), (od, .inr (4, [.long 1, .ref sa, .ref aa])), (sa, .inl (G 1, 10, .inr (.inl (fun _ => 0)))), (wy, .inr (9, [.int 0, .int 0, .int 5, .ref a1, .ref a2, .ref a3, .ref a4, .ref a5, .ref a6]))] H := hP
    have hD : va_D A [(h0, .inr (10, [.ref rd, .ref wy, .ref tr, .ref im, .ref kp, .ref od, .ref ch, .ref cr, .ref le, .ref mk, .ref tl, .ref sh, .int 0, .int 0])), (od, .inr (4, [.long 1, .ref sa, .ref aa])), (sa, .inl (G 1, 10, .inr (.inl (fun _ => 0)))), (wy, .inr (9, [.int 0, .int 0, .int 5, .ref a1, .ref a2, .ref a3, .ref a4, .ref a5, .ref a6]))] := hD
    refine lv_aload_n hx hb dX10_swap_22 rfl (lv_at hl 0 rfl) ?_
    refine va_get (D := (dC, dI)) (ci := 10) (v := .ref od) (C := RX10) (T := TX10) (N := 14) hx hb hg inG10 hown hK.1 hP 0 rfl rfl 5 (by decide) (hg _ wt_307) (fun _ h9 => h9) rfl dX10_swap_23 ?_
    refine lv_aload_n hx hb dX10_swap_26 rfl (lv_at hl 0 rfl) ?_
    refine va_get (D := (dC, dI)) (ci := 10) (v := .ref wy) (C := RX10) (T := TX10) (N := 14) hx hb hg inG10 hown hK.1 hP 0 rfl rfl 1 (by decide) (hg _ wt_303) (fun _ h9 => h9) rfl dX10_swap_27 ?_
    refine lv_aload_n hx hb dX10_swap_30 rfl (lv_at hl 0 rfl) ?_
    refine va_get (D := (dC, dI)) (ci := 10) (v := .ref wy) (C := RX10) (T := TX10) (N := 14) hx hb hg inG10 hown hK.1 hP 0 rfl rfl 1 (by decide) (hg _ wt_303) (fun _ h9 => h9) rfl dX10_swap_31 ?_
    refine va_getN (D := (dC, dI)) (ci := 9) (v := .int 0) (C := RX9) (T := TX9) (N := 9) hx hb hg inG9 hown hK.1 hP 3 rfl rfl 0 (by decide) (hK.nest wn_60) (fun _ h9 => h9) rfl dX10_swap_34 ?_
    refine lv_bipush (v := (-4)) hx hb dX10_swap_37 (by decide) ?_
    have hPc := hP.sub (ws' := [(od, .inr (4, [.long 1, .ref sa, .ref aa])), (sa, .inl (G 1, 10, .inr (.inl (fun _ => 0)))), (wy, .inr (9, [.int 0, .int 0, .int 5, .ref a1, .ref a2, .ref a3, .ref a4, .ref a5, .ref a6]))]) [1, 2, 3] rfl
    have hDc := hD.sub (ws' := [(od, .inr (4, [.long 1, .ref sa, .ref aa])), (sa, .inl (G 1, 10, .inr (.inl (fun _ => 0)))), (wy, .inr (9, [.int 0, .int 0, .int 5, .ref a1, .ref a2, .ref a3, .ref a4, .ref a5, .ref a6]))]) [1, 2, 3] (by decide) rfl
    have hFc := va_free (wc := [(od, .inr (4, [.long 1, .ref sa, .ref aa])), (sa, .inl (G 1, 10, .inr (.inl (fun _ => 0)))), (wy, .inr (9, [.int 0, .int 0, .int 5, .ref a1, .ref a2, .ref a3, .ref a4, .ref a5, .ref a6]))]) hD hS hA [1, 2, 3] rfl
    refine va_calll (va_runVN (As := [.ref wy, .int 0, .int (-4)]) (rest := []) ⟨hx, hb, hml, hown, hg⟩ (c_X4_waking l dC dI G _ od sa aa wy a1 a2 a3 a4 a5 a6 1 (fun _ => 0) (-4) ) (kwVN hg hK mfX4_waking wn_608 ⟨Nat.le_of_ble_eq_true rfl, Nat.le_of_ble_eq_true rfl⟩) (preVW hK hPc hDc (ci := 4) rfl rfl) rfl rfl hl.1 rfl (lv_room (Nat.le_of_ble_eq_true rfl)) dX10_swap_39 ⟨Nat.le_of_ble_eq_true rfl, Nat.le_of_ble_eq_true rfl⟩) hS (fun q _ h => hFc q h) hFc (fun r7 ur7 t H1 locs ht hvm w8 hB hz1 hk1 hS => ?_)
    obtain ⟨hP1, hD1⟩ := hB
    rw [ht] at hP1
    obtain ⟨hP, hD⟩ := va_join (wr := [(h0, .inr (10, [.ref rd, .ref wy, .ref tr, .ref im, .ref kp, .ref od, .ref ch, .ref cr, .ref le, .ref mk, .ref tl, .ref sh, .int 0, .int 0]))]) (w1 := [(od, .inr (4, [.long 1, .ref sa, .ref aa])), (wy, .inr (9, [.int 0, .int 0, .int 5, .ref a1, .ref a2, .ref a3, .ref a4, .ref a5, .ref a6]))]) hP hD [1, 2, 3] [0] rfl rfl (by decide) (by decide) hk1 hFc hP1 hD1
    generalize H1 = H at hP hS ⊢
    have hP : va_P (dC, dI) vwCl [(h0, .inr (10, [.ref rd, .ref wy, .ref tr, .ref im, .ref kp, .ref od, .ref ch, .ref cr, .ref le, .ref mk, .ref tl, .ref sh, .int 0, .int 0])), (od, .inr (4, [.long 1, .ref sa, .ref aa])), (wy, .inr (9, [.int 0, .int 0, .int 5, .ref a1, .ref a2, .ref a3, .ref a4, .ref a5, .ref a6]))] H := hP
    have hD : va_D A [(h0, .inr (10, [.ref rd, .ref wy, .ref tr, .ref im, .ref kp, .ref od, .ref ch, .ref cr, .ref le, .ref mk, .ref tl, .ref sh, .int 0, .int 0])), (od, .inr (4, [.long 1, .ref sa, .ref aa])), (wy, .inr (9, [.int 0, .int 0, .int 5, .ref a1, .ref a2, .ref a3, .ref a4, .ref a5, .ref a6]))] := hD
    obtain ⟨w8, w8x⟩ := w8
    subst w8
    refine lv_lstore_n (lv' := [(2, .long 0), (0, .ref h0), (1, .int what)]) hx hb dX10_swap_42 rfl hl (by decide) rfl (fun ls hl => ?_)
    refine lv_bipush (v := (-4)) hx hb dX10_swap_43 (by decide) ?_
    refine lv_istore (lv' := [(4, .int (-4)), (2, .long 0), (0, .ref h0), (1, .int what)]) hx hb dX10_swap_45 hl (by decide) rfl (fun ls hl => ?_)
    refine lv_iconst (v := 0) hx hb dX10_swap_47 (by decide) ?_
    refine lv_istore (lv' := [(5, .int 0), (4, .int (-4)), (2, .long 0), (0, .ref h0), (1, .int what)]) hx hb dX10_swap_48 hl (by decide) rfl (fun ls hl => ?_)
    refine lv_iload hx hb dX10_swap_50 (lv_at hl 0 rfl) ?_
    refine lv_aload_n hx hb dX10_swap_52 rfl (lv_at hl 3 rfl) ?_
    refine va_get (D := (dC, dI)) (ci := 10) (v := .ref wy) (C := RX10) (T := TX10) (N := 14) hx hb hg inG10 hown hK.1 hP 0 rfl rfl 1 (by decide) (hg _ wt_303) (fun _ h9 => h9) rfl dX10_swap_53 ?_
    refine va_getN (D := (dC, dI)) (ci := 9) (v := .int 0) (C := RX9) (T := TX9) (N := 9) hx hb hg inG9 hown hK.1 hP 2 rfl rfl 0 (by decide) (hK.nest wn_60) (fun _ h9 => h9) rfl dX10_swap_56 ?_
    refine lv_icmp_ge (tgt := 156) hx hb dX10_swap_59 (by decide) (fun c9 => ?_) (fun c9 => ?_)
    · skip
      refine lv_iload hx hb dX10_swap_156 (lv_at hl 1 rfl) ?_
      refine lv_bipush (v := (-4)) hx hb dX10_swap_158 (by decide) ?_
      refine lv_icmp_eq (tgt := 168) hx hb dX10_swap_160 (by decide) (fun c10 => ?_) (fun c10 => ?_)
      · skip
        refine lv_iload hx hb dX10_swap_168 (lv_at hl 1 rfl) ?_
        refine lv_i2l (v := (-4)) hx hb dX10_swap_170 (by decide) ?_
        have hpost : ((-4) : Int64) = if 0 ≤ what.toInt ∧ what.toInt ≤ 2 then -4 else -1 := by
          have t_b4 := b4
          have t_c9 := leI c9
          have t_c10 := eqI c10
          have : ((-4) : Int32).toInt = -4 := (by decide)
          have : (0 : Int32).toInt = 0 := (by decide)
          first | rfl | ((repeat' split) <;> first | rfl | omega)
        refine W.widen (k := 0) (n := 0) (by omega) (by omega) ?_
        exact W.lret (v := (-4)) hx hb hr (fun t ht hW => ⟨⟨(-4), (), rfl, ⟨hpost, trivial⟩, trivial⟩, hS.F ht⟩) hS.2.2 dX10_swap_171
      · skip
        exact absurd c10 (by decide)
    · skip
      exact absurd c9 (by decide)
  · skip
    have b11 := if10_n c3
    refine lv_ldc2 (v := (-1)) hx hb hown (hg _ wt_607) dX10_swap_7 ?_
    have hpost : ((-1) : Int64) = if 0 ≤ what.toInt ∧ what.toInt ≤ 2 then -4 else -1 := by
      have t_b11 := b11
      first | rfl | ((repeat' split) <;> first | rfl | omega)
    refine W.widen (k := 0) (n := 0) (by omega) (by omega) ?_
    exact W.lret (v := (-1)) hx hb hr (fun t ht hW => ⟨⟨(-1), (), rfl, ⟨hpost, trivial⟩, trivial⟩, hS.F ht⟩) hS.2.2 dX10_swap_10

set_option maxHeartbeats 4000000 in
set_option maxRecDepth 100000 in
theorem c_X10_carry (l : Launch) (dC : Nat → ClassId) (dI : Nat → Nat → Nat) (G : Nat → ClassId) (sz : Nat) (h0 rd wy tr im kp od ch cr le mk tl sh a1 a2 a3 a4 a5 a6 : Nat) (seed what : Int32)   : Met l yX10_carry (Cond.code yX10_carry cX10_carry 3 (some .int) :: GT) ({ frames := 1, cells := 0, slots := 0, locals := 24 } : Room) (PcW [.ref h0, .int seed, .int what] dC dI G [(h0, .inr (10, [.ref rd, .ref wy, .ref tr, .ref im, .ref kp, .ref od, .ref ch, .ref cr, .ref le, .ref mk, .ref tl, .ref sh, .int 0, .int 0])), (cr, .inr (1, [.int 0, .int 0, .int 0])), (wy, .inr (9, [.int 0, .int 0, .int 5, .ref a1, .ref a2, .ref a3, .ref a4, .ref a5, .ref a6]))] sz) (va_Qi (fun (r : Int32) (u : Unit) => match u with | _ => (r = if what.toInt = 0 then 5 else if what.toInt = 1 then 0 else if what.toInt = 2 then -4 else -1) ∧ True) (fun _ _ => True) (va_A [(h0, .inr (10, [.ref rd, .ref wy, .ref tr, .ref im, .ref kp, .ref od, .ref ch, .ref cr, .ref le, .ref mk, .ref tl, .ref sh, .int 0, .int 0])), (cr, .inr (1, [.int 0, .int 0, .int 0])), (wy, .inr (9, [.int 0, .int 0, .int 5, .ref a1, .ref a2, .ref a3, .ref a4, .ref a5, .ref a6]))] sz)) 0 0 (va_A [(h0, .inr (10, [.ref rd, .ref wy, .ref tr, .ref im, .ref kp, .ref od, .ref ch, .ref cr, .ref le, .ref mk, .ref tl, .ref sh, .int 0, .int 0])), (cr, .inr (1, [.int 0, .int 0, .int 0])), (wy, .inr (9, [.int 0, .int 0, .int 5, .ref a1, .ref a2, .ref a3, .ref a4, .ref a5, .ref a6]))] sz) := by
  refine Met.ofW (cc := cX10_carry) (maxL := 3) (ret := (some .int)) (by decide) rfl ?_
  intro p e s m args below meth c s₁ B hml hv
  obtain ⟨rfl, hsz, hP, hK, hD0⟩ := hv
  have hx := B.exec
  have hb := B.bytes
  have hr := B.returns
  have hg : ∀ w ∈ GT, w.before ([.ref h0, .int seed, .int what] : List Value).toArray s = true := fun w h => atoms_spec (ws := Cond.code yX10_carry cX10_carry 3 (some .int) :: GT) B.pre w (List.mem_cons_of_mem _ h)
  have hown : s.vm.findClass RX10 = some m.cls := findClass_of_methodNamed B.named
  have hlocks := B.notSynchronized
  subst hsz
  have hD := hD0.self (sz := s.heap.size)
  generalize hAe : va_A [(h0, .inr (10, [.ref rd, .ref wy, .ref tr, .ref im, .ref kp, .ref od, .ref ch, .ref cr, .ref le, .ref mk, .ref tl, .ref sh, .int 0, .int 0])), (cr, .inr (1, [.int 0, .int 0, .int 0])), (wy, .inr (9, [.int 0, .int 0, .int 5, .ref a1, .ref a2, .ref a3, .ref a4, .ref a5, .ref a6]))] s.heap.size = A at hD ⊢
  have hA : ∀ q : Nat, s.heap.size ≤ q → A q := fun q h => by rw [← hAe]; exact Or.inr h
  have hS : va_S A s.heap s.heap [] := va_S.rf
  have hl := lv_entry ([.ref h0, .int seed, .int what]) (n := 3) (Nat.le_of_ble_eq_true rfl)
  rw [lg_entry_eq]
  generalize (lg_sl ([.ref h0, .int seed, .int what]) ++ List.replicate (3 - (lg_sl ([.ref h0, .int seed, .int what])).length) Slot.unset).toArray = ls at hl ⊢
  have hl : lv_has ls 3 [(0, .ref h0), (1, .int seed), (2, .int what)] := hl
  refine lv_iload_n hx hb dX10_carry_0 rfl (lv_at hl 2 rfl) ?_
  have hPc := hP.sub (ws' := []) [] rfl
  refine va_calli (va_runS (As := [.int what]) (rest := []) ⟨hx, hb, hml, hown, hg⟩ (c_X10_isAnswerPart l dC dI G _ what ) (kwS hg mfX10_isAnswerPart wt_694 ⟨Nat.le_of_ble_eq_true rfl, Nat.le_of_ble_eq_true rfl⟩) (preSR hK hPc) rfl rfl hl.1 rfl (lv_room (Nat.le_of_ble_eq_true rfl)) dX10_carry_1 ⟨Nat.le_of_ble_eq_true rfl, Nat.le_of_ble_eq_true rfl⟩) hS (fun q h1 h2 => absurd h2 (Nat.not_le.mpr h1)) (fun q h => hA q (Nat.le_trans hS.1 h)) (fun r1 ur1 t H1 locs ht hvm w2 hB hz1 hk1 hS => ?_)
  have hP := keepR hP hk1
  obtain ⟨w2, w2x⟩ := w2
  try simp only [l_ii, show (0 : Int32).toInt = 0 from by decide, show (2 : Int32).toInt = 2 from by decide] at w2
  subst w2
  refine lv_if_ne (tgt := 9) hx hb dX10_carry_4 (by decide) (fun c3 => ?_) (fun c3 => ?_)
  · skip
    have b4 := if10_p c3
    refine lv_aload_n hx hb dX10_carry_9 rfl (lv_at hl 0 rfl) ?_
    refine va_get (D := (dC, dI)) (ci := 10) (v := .ref cr) (C := RX10) (T := TX10) (N := 14) hx hb hg inG10 hown hK.1 hP 0 rfl rfl 7 (by decide) (hg _ wt_309) (fun _ h9 => h9) rfl dX10_carry_10 ?_
    refine lv_aload_n hx hb dX10_carry_13 rfl (lv_at hl 0 rfl) ?_
    refine va_get (D := (dC, dI)) (ci := 10) (v := .ref wy) (C := RX10) (T := TX10) (N := 14) hx hb hg inG10 hown hK.1 hP 0 rfl rfl 1 (by decide) (hg _ wt_303) (fun _ h9 => h9) rfl dX10_carry_14 ?_
    refine lv_iload_n hx hb dX10_carry_17 rfl (lv_at hl 1 rfl) ?_
    have hPc := hP.sub (ws' := [(cr, .inr (1, [.int 0, .int 0, .int 0])), (wy, .inr (9, [.int 0, .int 0, .int 5, .ref a1, .ref a2, .ref a3, .ref a4, .ref a5, .ref a6]))]) [1, 2] rfl
    have hDc := hD.sub (ws' := [(cr, .inr (1, [.int 0, .int 0, .int 0])), (wy, .inr (9, [.int 0, .int 0, .int 5, .ref a1, .ref a2, .ref a3, .ref a4, .ref a5, .ref a6]))]) [1, 2] (by decide) rfl
    have hFc := va_free (wc := [(cr, .inr (1, [.int 0, .int 0, .int 0])), (wy, .inr (9, [.int 0, .int 0, .int 5, .ref a1, .ref a2, .ref a3, .ref a4, .ref a5, .ref a6]))]) hD hS hA [1, 2] rfl
    refine va_callv (va_runVN (As := [.ref wy, .int seed]) (rest := []) ⟨hx, hb, hml, hown, hg⟩ (c_X1_cross l dC dI G _ cr wy a1 a2 a3 a4 a5 a6 0 0 0 seed ) (kwVN hg hK mfX1_cross wn_723 ⟨Nat.le_of_ble_eq_true rfl, Nat.le_of_ble_eq_true rfl⟩) (preVW hK hPc hDc (ci := 1) rfl rfl) rfl rfl hl.1 rfl (lv_room (Nat.le_of_ble_eq_true rfl)) dX10_carry_18 ⟨Nat.le_of_ble_eq_true rfl, Nat.le_of_ble_eq_true rfl⟩) hS (fun q _ h => hFc q h) hFc (fun ur5 t H1 locs ht hvm w6 hB hz1 hk1 hS => ?_)
    obtain ⟨hP1, hD1⟩ := hB
    rw [ht] at hP1
    obtain ⟨hP, hD⟩ := va_join (wr := [(h0, .inr (10, [.ref rd, .ref wy, .ref tr, .ref im, .ref kp, .ref od, .ref ch, .ref cr, .ref le, .ref mk, .ref tl, .ref sh, .int 0, .int 0]))]) (w1 := [(cr, .inr (1, [.int 5, .int 0, .int (-4)])), (wy, .inr (9, [.int 0, .int 0, .int 5, .ref a1, .ref a2, .ref a3, .ref a4, .ref a5, .ref a6]))]) hP hD [1, 2] [0] rfl rfl (by decide) (by decide) hk1 hFc hP1 hD1
    generalize H1 = H at hP hS ⊢
    have hP : va_P (dC, dI) vwCl [(h0, .inr (10, [.ref rd, .ref wy, .ref tr, .ref im, .ref kp, .ref od, .ref ch, .ref cr, .ref le, .ref mk, .ref tl, .ref sh, .int 0, .int 0])), (cr, .inr (1, [.int 5, .int 0, .int (-4)])), (wy, .inr (9, [.int 0, .int 0, .int 5, .ref a1, .ref a2, .ref a3, .ref a4, .ref a5, .ref a6]))] H := hP
    have hD : va_D A [(h0, .inr (10, [.ref rd, .ref wy, .ref tr, .ref im, .ref kp, .ref od, .ref ch, .ref cr, .ref le, .ref mk, .ref tl, .ref sh, .int 0, .int 0])), (cr, .inr (1, [.int 5, .int 0, .int (-4)])), (wy, .inr (9, [.int 0, .int 0, .int 5, .ref a1, .ref a2, .ref a3, .ref a4, .ref a5, .ref a6]))] := hD
    refine lv_iload_n hx hb dX10_carry_21 rfl (lv_at hl 2 rfl) ?_
    by_cases c7 : what = 0
    · skip
      refine lv_cg c7 ?_
      refine lv_lookup (tgt := 48) (off := 26) hx hb dX10_carry_22 (by decide) rfl (by decide) ?_
      refine lv_aload_n hx hb dX10_carry_48 rfl (lv_at hl 0 rfl) ?_
      refine va_get (D := (dC, dI)) (ci := 10) (v := .ref cr) (C := RX10) (T := TX10) (N := 14) hx hb hg inG10 hown hK.1 hP 0 rfl rfl 7 (by decide) (hg _ wt_309) (fun _ h9 => h9) rfl dX10_carry_49 ?_
      refine va_getN (D := (dC, dI)) (ci := 1) (v := .int 5) (C := RX1) (T := TX1) (N := 3) hx hb hg inG1 hown hK.1 hP 1 rfl rfl 0 (by decide) (hK.nest wn_199) (fun _ h9 => h9) rfl dX10_carry_52 ?_
      have hpost : (5 : Int32) = if what.toInt = 0 then 5 else if what.toInt = 1 then 0 else if what.toInt = 2 then -4 else -1 := by
        have t_b4 := b4
        have t_c7 := eqI c7
        have : (0 : Int32).toInt = 0 := (by decide)
        first | rfl | ((repeat' split) <;> first | rfl | omega)
      refine W.widen (k := 0) (n := 0) (by omega) (by omega) ?_
      exact W.iret (v := 5) hx hb hr (fun t ht hW => ⟨⟨5, (), rfl, ⟨hpost, trivial⟩, trivial⟩, hS.F ht⟩) hS.2.2 dX10_carry_55
    · skip
      by_cases c8 : what = 1
      · skip
        refine lv_cg c8 ?_
        refine lv_lookup (tgt := 56) (off := 34) hx hb dX10_carry_22 (by decide) rfl (by decide) ?_
        refine lv_aload_n hx hb dX10_carry_56 rfl (lv_at hl 0 rfl) ?_
        refine va_get (D := (dC, dI)) (ci := 10) (v := .ref cr) (C := RX10) (T := TX10) (N := 14) hx hb hg inG10 hown hK.1 hP 0 rfl rfl 7 (by decide) (hg _ wt_309) (fun _ h9 => h9) rfl dX10_carry_57 ?_
        refine va_getN (D := (dC, dI)) (ci := 1) (v := .int 0) (C := RX1) (T := TX1) (N := 3) hx hb hg inG1 hown hK.1 hP 1 rfl rfl 1 (by decide) (hK.nest wn_201) (fun _ h9 => h9) rfl dX10_carry_60 ?_
        have hpost : (0 : Int32) = if what.toInt = 0 then 5 else if what.toInt = 1 then 0 else if what.toInt = 2 then -4 else -1 := by
          have t_b4 := b4
          have t_c7 := neI c7
          have t_c8 := eqI c8
          have : (0 : Int32).toInt = 0 := (by decide)
          have : (1 : Int32).toInt = 1 := (by decide)
          first | rfl | ((repeat' split) <;> first | rfl | omega)
        refine W.widen (k := 0) (n := 0) (by omega) (by omega) ?_
        exact W.iret (v := 0) hx hb hr (fun t ht hW => ⟨⟨0, (), rfl, ⟨hpost, trivial⟩, trivial⟩, hS.F ht⟩) hS.2.2 dX10_carry_63
      · skip
        refine lv_lookup (tgt := 64) (off := 42) hx hb dX10_carry_22 (by decide) ((lv_osw c7 rfl).trans <| (lv_osw c8 rfl).trans <| rfl) (by decide) ?_
        refine lv_aload_n hx hb dX10_carry_64 rfl (lv_at hl 0 rfl) ?_
        refine va_get (D := (dC, dI)) (ci := 10) (v := .ref cr) (C := RX10) (T := TX10) (N := 14) hx hb hg inG10 hown hK.1 hP 0 rfl rfl 7 (by decide) (hg _ wt_309) (fun _ h9 => h9) rfl dX10_carry_65 ?_
        refine va_getN (D := (dC, dI)) (ci := 1) (v := .int (-4)) (C := RX1) (T := TX1) (N := 3) hx hb hg inG1 hown hK.1 hP 1 rfl rfl 2 (by decide) (hK.nest wn_203) (fun _ h9 => h9) rfl dX10_carry_68 ?_
        have hpost : ((-4) : Int32) = if what.toInt = 0 then 5 else if what.toInt = 1 then 0 else if what.toInt = 2 then -4 else -1 := by
          have t_b4 := b4
          have t_c7 := neI c7
          have t_c8 := neI c8
          have : (0 : Int32).toInt = 0 := (by decide)
          have : (1 : Int32).toInt = 1 := (by decide)
          first | rfl | ((repeat' split) <;> first | rfl | omega)
        refine W.widen (k := 0) (n := 0) (by omega) (by omega) ?_
        exact W.iret (v := (-4)) hx hb hr (fun t ht hW => ⟨⟨(-4), (), rfl, ⟨hpost, trivial⟩, trivial⟩, hS.F ht⟩) hS.2.2 dX10_carry_71
  · skip
    have b9 := if10_n c3
    refine lv_iconst (v := (-1)) hx hb dX10_carry_7 (by decide) ?_
    have hpost : ((-1) : Int32) = if what.toInt = 0 then 5 else if what.toInt = 1 then 0 else if what.toInt = 2 then -4 else -1 := by
      have t_b9 := b9
      first | rfl | ((repeat' split) <;> first | rfl | omega)
    refine W.widen (k := 0) (n := 0) (by omega) (by omega) ?_
    exact W.iret (v := (-1)) hx hb hr (fun t ht hW => ⟨⟨(-1), (), rfl, ⟨hpost, trivial⟩, trivial⟩, hS.F ht⟩) hS.2.2 dX10_carry_8

set_option maxHeartbeats 4000000 in
set_option maxRecDepth 100000 in
theorem c_X10_learn (l : Launch) (dC : Nat → ClassId) (dI : Nat → Nat → Nat) (G : Nat → ClassId) (sz : Nat) (h0 rd wy tr im kp od ch cr le mk tl sh a1 a2 a3 a4 a5 a6 : Nat) (i g tb hm : Int32)   : Met l yX10_learn (Cond.code yX10_learn cX10_learn 5 (some .int) :: GT) ({ frames := 2, cells := 0, slots := 0, locals := 44 } : Room) (PcW [.ref h0, .int i, .int g, .int tb, .int hm] dC dI G [(h0, .inr (10, [.ref rd, .ref wy, .ref tr, .ref im, .ref kp, .ref od, .ref ch, .ref cr, .ref le, .ref mk, .ref tl, .ref sh, .int 0, .int 0])), (wy, .inr (9, [.int 0, .int 0, .int 5, .ref a1, .ref a2, .ref a3, .ref a4, .ref a5, .ref a6]))] sz) (va_Qi (fun (r : Int32) (u : Unit) => match u with | _ => (r = -1) ∧ True) (fun _ _ => True) (va_A [(h0, .inr (10, [.ref rd, .ref wy, .ref tr, .ref im, .ref kp, .ref od, .ref ch, .ref cr, .ref le, .ref mk, .ref tl, .ref sh, .int 0, .int 0])), (wy, .inr (9, [.int 0, .int 0, .int 5, .ref a1, .ref a2, .ref a3, .ref a4, .ref a5, .ref a6]))] sz)) 0 0 (va_A [(h0, .inr (10, [.ref rd, .ref wy, .ref tr, .ref im, .ref kp, .ref od, .ref ch, .ref cr, .ref le, .ref mk, .ref tl, .ref sh, .int 0, .int 0])), (wy, .inr (9, [.int 0, .int 0, .int 5, .ref a1, .ref a2, .ref a3, .ref a4, .ref a5, .ref a6]))] sz) := by
  refine Met.ofW (cc := cX10_learn) (maxL := 5) (ret := (some .int)) (by decide) rfl ?_
  intro p e s m args below meth c s₁ B hml hv
  obtain ⟨rfl, hsz, hP, hK, hD0⟩ := hv
  have hx := B.exec
  have hb := B.bytes
  have hr := B.returns
  have hg : ∀ w ∈ GT, w.before ([.ref h0, .int i, .int g, .int tb, .int hm] : List Value).toArray s = true := fun w h => atoms_spec (ws := Cond.code yX10_learn cX10_learn 5 (some .int) :: GT) B.pre w (List.mem_cons_of_mem _ h)
  have hown : s.vm.findClass RX10 = some m.cls := findClass_of_methodNamed B.named
  have hlocks := B.notSynchronized
  subst hsz
  have hD := hD0.self (sz := s.heap.size)
  generalize hAe : va_A [(h0, .inr (10, [.ref rd, .ref wy, .ref tr, .ref im, .ref kp, .ref od, .ref ch, .ref cr, .ref le, .ref mk, .ref tl, .ref sh, .int 0, .int 0])), (wy, .inr (9, [.int 0, .int 0, .int 5, .ref a1, .ref a2, .ref a3, .ref a4, .ref a5, .ref a6]))] s.heap.size = A at hD ⊢
  have hA : ∀ q : Nat, s.heap.size ≤ q → A q := fun q h => by rw [← hAe]; exact Or.inr h
  have hS : va_S A s.heap s.heap [] := va_S.rf
  have hl := lv_entry ([.ref h0, .int i, .int g, .int tb, .int hm]) (n := 5) (Nat.le_of_ble_eq_true rfl)
  rw [lg_entry_eq]
  generalize (lg_sl ([.ref h0, .int i, .int g, .int tb, .int hm]) ++ List.replicate (5 - (lg_sl ([.ref h0, .int i, .int g, .int tb, .int hm])).length) Slot.unset).toArray = ls at hl ⊢
  have hl : lv_has ls 5 [(0, .ref h0), (1, .int i), (2, .int g), (3, .int tb), (4, .int hm)] := hl
  refine lv_aload_n hx hb dX10_learn_0 rfl (lv_at hl 0 rfl) ?_
  refine va_get (D := (dC, dI)) (ci := 10) (v := .ref wy) (C := RX10) (T := TX10) (N := 14) hx hb hg inG10 hown hK.1 hP 0 rfl rfl 1 (by decide) (hg _ wt_303) (fun _ h9 => h9) rfl dX10_learn_1 ?_
  refine lv_iload_n hx hb dX10_learn_4 rfl (lv_at hl 1 rfl) ?_
  refine lv_iload_n hx hb dX10_learn_5 rfl (lv_at hl 2 rfl) ?_
  refine lv_iload_n hx hb dX10_learn_6 rfl (lv_at hl 3 rfl) ?_
  have hPc := hP.sub (ws' := [(wy, .inr (9, [.int 0, .int 0, .int 5, .ref a1, .ref a2, .ref a3, .ref a4, .ref a5, .ref a6]))]) [1] rfl
  refine va_calli (va_runVN (As := [.int i, .int g, .int tb]) (rest := []) ⟨hx, hb, hml, hown, hg⟩ (c_X9_canHand l dC dI G _ wy a1 a2 a3 a4 a5 a6 i g tb ) (kwVN hg hK mfX9_canHand wn_570 ⟨Nat.le_of_ble_eq_true rfl, Nat.le_of_ble_eq_true rfl⟩) (preVR hK hPc (ci := 9) rfl rfl) rfl rfl hl.1 rfl (lv_room (Nat.le_of_ble_eq_true rfl)) dX10_learn_7 ⟨Nat.le_of_ble_eq_true rfl, Nat.le_of_ble_eq_true rfl⟩) hS (fun q h1 h2 => absurd h2 (Nat.not_le.mpr h1)) (fun q h => hA q (Nat.le_trans hS.1 h)) (fun r1 ur1 t H1 locs ht hvm w2 hB hz1 hk1 hS => ?_)
  have hP := keepR hP hk1
  obtain ⟨w2, w2x⟩ := w2
  subst w2
  refine lv_if_eq (tgt := 25) hx hb dX10_learn_10 (by decide) (fun c3 => ?_) (fun c3 => ?_)
  · skip
    refine lv_iconst (v := (-1)) hx hb dX10_learn_25 (by decide) ?_
    have hpost : ((-1) : Int32) = -1 := by
      have t_c3 := eqI c3
      have : (0 : Int32).toInt = 0 := (by decide)
      first | rfl | ((repeat' split) <;> first | rfl | omega)
    refine W.widen (k := 0) (n := 0) (by omega) (by omega) ?_
    exact W.iret (v := (-1)) hx hb hr (fun t ht hW => ⟨⟨(-1), (), rfl, ⟨hpost, trivial⟩, trivial⟩, hS.F ht⟩) hS.2.2 dX10_learn_26
  · skip
    exact absurd c3 (by decide)

set_option maxHeartbeats 4000000 in
set_option maxRecDepth 100000 in
theorem c_X10_forget (l : Launch) (dC : Nat → ClassId) (dI : Nat → Nat → Nat) (G : Nat → ClassId) (sz : Nat) (h0 rd wy tr im kp od ch cr le mk tl sh l1 l2 l3 l4 : Nat) (n : Int32)   : Met l yX10_forget (Cond.code yX10_forget cX10_forget 3 (some .int) :: GT) ({ frames := 0, cells := 0, slots := 0, locals := 0 } : Room) (PcW [.ref h0, .int n] dC dI G [(h0, .inr (10, [.ref rd, .ref wy, .ref tr, .ref im, .ref kp, .ref od, .ref ch, .ref cr, .ref le, .ref mk, .ref tl, .ref sh, .int 0, .int 0])), (le, .inr (2, [.int 0, .ref l1, .ref l2, .ref l3, .ref l4]))] sz) (va_Qi (fun (r : Int32) (u : Unit) => match u with | _ => (r = if n.toInt = 0 then 0 else -1) ∧ True) (fun _ _ => True) (va_A [(h0, .inr (10, [.ref rd, .ref wy, .ref tr, .ref im, .ref kp, .ref od, .ref ch, .ref cr, .ref le, .ref mk, .ref tl, .ref sh, .int 0, .int 0])), (le, .inr (2, [.int 0, .ref l1, .ref l2, .ref l3, .ref l4]))] sz)) 0 0 (va_A [(h0, .inr (10, [.ref rd, .ref wy, .ref tr, .ref im, .ref kp, .ref od, .ref ch, .ref cr, .ref le, .ref mk, .ref tl, .ref sh, .int 0, .int 0])), (le, .inr (2, [.int 0, .ref l1, .ref l2, .ref l3, .ref l4]))] sz) := by
  refine Met.ofW (cc := cX10_forget) (maxL := 3) (ret := (some .int)) (by decide) rfl ?_
  intro p e s m args below meth c s₁ B hml hv
  obtain ⟨rfl, hsz, hP, hK, hD0⟩ := hv
  have hx := B.exec
  have hb := B.bytes
  have hr := B.returns
  have hg : ∀ w ∈ GT, w.before ([.ref h0, .int n] : List Value).toArray s = true := fun w h => atoms_spec (ws := Cond.code yX10_forget cX10_forget 3 (some .int) :: GT) B.pre w (List.mem_cons_of_mem _ h)
  have hown : s.vm.findClass RX10 = some m.cls := findClass_of_methodNamed B.named
  have hlocks := B.notSynchronized
  subst hsz
  have hD := hD0.self (sz := s.heap.size)
  generalize hAe : va_A [(h0, .inr (10, [.ref rd, .ref wy, .ref tr, .ref im, .ref kp, .ref od, .ref ch, .ref cr, .ref le, .ref mk, .ref tl, .ref sh, .int 0, .int 0])), (le, .inr (2, [.int 0, .ref l1, .ref l2, .ref l3, .ref l4]))] s.heap.size = A at hD ⊢
  have hA : ∀ q : Nat, s.heap.size ≤ q → A q := fun q h => by rw [← hAe]; exact Or.inr h
  have hS : va_S A s.heap s.heap [] := va_S.rf
  have hl := lv_entry ([.ref h0, .int n]) (n := 3) (Nat.le_of_ble_eq_true rfl)
  rw [lg_entry_eq]
  generalize (lg_sl ([.ref h0, .int n]) ++ List.replicate (3 - (lg_sl ([.ref h0, .int n])).length) Slot.unset).toArray = ls at hl ⊢
  have hl : lv_has ls 3 [(0, .ref h0), (1, .int n)] := hl
  refine lv_iload_n hx hb dX10_forget_0 rfl (lv_at hl 1 rfl) ?_
  refine lv_if_lt (tgt := 15) hx hb dX10_forget_1 (by decide) (fun c1 => ?_) (fun c1 => ?_)
  · skip
    refine lv_iconst (v := (-1)) hx hb dX10_forget_15 (by decide) ?_
    have hpost : ((-1) : Int32) = if n.toInt = 0 then 0 else -1 := by
      have t_c1 := ltI c1
      have : (0 : Int32).toInt = 0 := (by decide)
      first | rfl | ((repeat' split) <;> first | rfl | omega)
    refine W.widen (k := 0) (n := 0) (by omega) (by omega) ?_
    exact W.iret (v := (-1)) hx hb hr (fun t ht hW => ⟨⟨(-1), (), rfl, ⟨hpost, trivial⟩, trivial⟩, hS.F ht⟩) hS.2.2 dX10_forget_16
  · skip
    refine lv_iload_n hx hb dX10_forget_4 rfl (lv_at hl 1 rfl) ?_
    refine lv_aload_n hx hb dX10_forget_5 rfl (lv_at hl 0 rfl) ?_
    refine va_get (D := (dC, dI)) (ci := 10) (v := .ref le) (C := RX10) (T := TX10) (N := 14) hx hb hg inG10 hown hK.1 hP 0 rfl rfl 8 (by decide) (hg _ wt_310) (fun _ h9 => h9) rfl dX10_forget_6 ?_
    refine va_getN (D := (dC, dI)) (ci := 2) (v := .int 0) (C := RX2) (T := TX2) (N := 5) hx hb hg inG2 hown hK.1 hP 1 rfl rfl 0 (by decide) (hK.nest wn_218) (fun _ h9 => h9) rfl dX10_forget_9 ?_
    refine lv_icmp_le (tgt := 17) hx hb dX10_forget_12 (by decide) (fun c2 => ?_) (fun c2 => ?_)
    · skip
      refine lv_aload_n hx hb dX10_forget_17 rfl (lv_at hl 0 rfl) ?_
      refine va_get (D := (dC, dI)) (ci := 10) (v := .ref le) (C := RX10) (T := TX10) (N := 14) hx hb hg inG10 hown hK.1 hP 0 rfl rfl 8 (by decide) (hg _ wt_310) (fun _ h9 => h9) rfl dX10_forget_18 ?_
      refine va_getN (D := (dC, dI)) (ci := 2) (v := .int 0) (C := RX2) (T := TX2) (N := 5) hx hb hg inG2 hown hK.1 hP 1 rfl rfl 0 (by decide) (hK.nest wn_218) (fun _ h9 => h9) rfl dX10_forget_21 ?_
      refine lv_istore_n (lv' := [(2, .int 0), (0, .ref h0), (1, .int n)]) hx hb dX10_forget_24 rfl hl (by decide) rfl (fun ls hl => ?_)
      refine lv_aload_n hx hb dX10_forget_25 rfl (lv_at hl 1 rfl) ?_
      refine va_get (D := (dC, dI)) (ci := 10) (v := .ref le) (C := RX10) (T := TX10) (N := 14) hx hb hg inG10 hown hK.1 hP 0 rfl rfl 8 (by decide) (hg _ wt_310) (fun _ h9 => h9) rfl dX10_forget_26 ?_
      refine lv_iload_n hx hb dX10_forget_29 rfl (lv_at hl 2 rfl) ?_
      refine va_putN (D := (dC, dI)) (ci := 2) (v := .int n) (ty := .int) (C := RX2) (T := TX2) (N := 5) hx hb hg inG2 tyX2 tyX2_ok nmX2 hown hK.1 hP hD hS 1 rfl rfl 0 (by decide) (hK.nest wn_218) (fun _ h9 => h9) rfl (by decide +kernel) rfl rfl (Nat.le_of_ble_eq_true rfl) dX10_forget_30 (fun H locs hP hD hS => ?_)
      have hP : va_P (dC, dI) vwCl [(h0, .inr (10, [.ref rd, .ref wy, .ref tr, .ref im, .ref kp, .ref od, .ref ch, .ref cr, .ref le, .ref mk, .ref tl, .ref sh, .int 0, .int 0])), (le, .inr (2, [.int n, .ref l1, .ref l2, .ref l3, .ref l4]))] H := hP
      have hD : va_D A [(h0, .inr (10, [.ref rd, .ref wy, .ref tr, .ref im, .ref kp, .ref od, .ref ch, .ref cr, .ref le, .ref mk, .ref tl, .ref sh, .int 0, .int 0])), (le, .inr (2, [.int n, .ref l1, .ref l2, .ref l3, .ref l4]))] := hD
      refine lv_iload_n hx hb dX10_forget_33 rfl (lv_at hl 0 rfl) ?_
      have hpost : (0 : Int32) = if n.toInt = 0 then 0 else -1 := by
        have t_c1 := nltI c1
        have t_c2 := leI c2
        have : (0 : Int32).toInt = 0 := (by decide)
        first | rfl | ((repeat' split) <;> first | rfl | omega)
      refine W.widen (k := 0) (n := 0) (by omega) (by omega) ?_
      exact W.iret (v := 0) hx hb hr (fun t ht hW => ⟨⟨0, (), rfl, ⟨hpost, trivial⟩, trivial⟩, hS.F ht⟩) hS.2.2 dX10_forget_34
    · skip
      refine lv_iconst (v := (-1)) hx hb dX10_forget_15 (by decide) ?_
      have hpost : ((-1) : Int32) = if n.toInt = 0 then 0 else -1 := by
        have t_c1 := nltI c1
        have t_c2 := nleI c2
        have : (0 : Int32).toInt = 0 := (by decide)
        first | rfl | ((repeat' split) <;> first | rfl | omega)
      refine W.widen (k := 0) (n := 0) (by omega) (by omega) ?_
      exact W.iret (v := (-1)) hx hb hr (fun t ht hW => ⟨⟨(-1), (), rfl, ⟨hpost, trivial⟩, trivial⟩, hS.F ht⟩) hS.2.2 dX10_forget_16

set_option maxHeartbeats 4000000 in
set_option maxRecDepth 100000 in
theorem c_X10_steps (l : Launch) (dC : Nat → ClassId) (dI : Nat → Nat → Nat) (G : Nat → ClassId) (sz : Nat) (h0 rd wy tr im kp od ch cr le mk tl sh a1 a2 a3 a4 a5 a6 : Nat) (i what : Int32)   : Met l yX10_steps (Cond.code yX10_steps cX10_steps 7 (some .int) :: GT) ({ frames := 1, cells := 0, slots := 0, locals := 21 } : Room) (PcW [.ref h0, .int i, .int what] dC dI G [(h0, .inr (10, [.ref rd, .ref wy, .ref tr, .ref im, .ref kp, .ref od, .ref ch, .ref cr, .ref le, .ref mk, .ref tl, .ref sh, .int 0, .int 0])), (wy, .inr (9, [.int 0, .int 0, .int 5, .ref a1, .ref a2, .ref a3, .ref a4, .ref a5, .ref a6]))] sz) (va_Qi (fun (r : Int32) (u : Unit) => match u with | _ => (r = -1) ∧ True) (fun _ _ => True) (va_A [(h0, .inr (10, [.ref rd, .ref wy, .ref tr, .ref im, .ref kp, .ref od, .ref ch, .ref cr, .ref le, .ref mk, .ref tl, .ref sh, .int 0, .int 0])), (wy, .inr (9, [.int 0, .int 0, .int 5, .ref a1, .ref a2, .ref a3, .ref a4, .ref a5, .ref a6]))] sz)) 0 0 (va_A [(h0, .inr (10, [.ref rd, .ref wy, .ref tr, .ref im, .ref kp, .ref od, .ref ch, .ref cr, .ref le, .ref mk, .ref tl, .ref sh, .int 0, .int 0])), (wy, .inr (9, [.int 0, .int 0, .int 5, .ref a1, .ref a2, .ref a3, .ref a4, .ref a5, .ref a6]))] sz) := by
  refine Met.ofW (cc := cX10_steps) (maxL := 7) (ret := (some .int)) (by decide) rfl ?_
  intro p e s m args below meth c s₁ B hml hv
  obtain ⟨rfl, hsz, hP, hK, hD0⟩ := hv
  have hx := B.exec
  have hb := B.bytes
  have hr := B.returns
  have hg : ∀ w ∈ GT, w.before ([.ref h0, .int i, .int what] : List Value).toArray s = true := fun w h => atoms_spec (ws := Cond.code yX10_steps cX10_steps 7 (some .int) :: GT) B.pre w (List.mem_cons_of_mem _ h)
  have hown : s.vm.findClass RX10 = some m.cls := findClass_of_methodNamed B.named
  have hlocks := B.notSynchronized
  subst hsz
  have hD := hD0.self (sz := s.heap.size)
  generalize hAe : va_A [(h0, .inr (10, [.ref rd, .ref wy, .ref tr, .ref im, .ref kp, .ref od, .ref ch, .ref cr, .ref le, .ref mk, .ref tl, .ref sh, .int 0, .int 0])), (wy, .inr (9, [.int 0, .int 0, .int 5, .ref a1, .ref a2, .ref a3, .ref a4, .ref a5, .ref a6]))] s.heap.size = A at hD ⊢
  have hA : ∀ q : Nat, s.heap.size ≤ q → A q := fun q h => by rw [← hAe]; exact Or.inr h
  have hS : va_S A s.heap s.heap [] := va_S.rf
  have hl := lv_entry ([.ref h0, .int i, .int what]) (n := 7) (Nat.le_of_ble_eq_true rfl)
  rw [lg_entry_eq]
  generalize (lg_sl ([.ref h0, .int i, .int what]) ++ List.replicate (7 - (lg_sl ([.ref h0, .int i, .int what])).length) Slot.unset).toArray = ls at hl ⊢
  have hl : lv_has ls 7 [(0, .ref h0), (1, .int i), (2, .int what)] := hl
  refine lv_aload_n hx hb dX10_steps_0 rfl (lv_at hl 0 rfl) ?_
  refine va_get (D := (dC, dI)) (ci := 10) (v := .ref wy) (C := RX10) (T := TX10) (N := 14) hx hb hg inG10 hown hK.1 hP 0 rfl rfl 1 (by decide) (hg _ wt_303) (fun _ h9 => h9) rfl dX10_steps_1 ?_
  refine lv_iload_n hx hb dX10_steps_4 rfl (lv_at hl 1 rfl) ?_
  have hPc := hP.sub (ws' := [(wy, .inr (9, [.int 0, .int 0, .int 5, .ref a1, .ref a2, .ref a3, .ref a4, .ref a5, .ref a6]))]) [1] rfl
  refine va_calli (va_runVN (As := [.int i]) (rest := []) ⟨hx, hb, hml, hown, hg⟩ (c_X9_hasBearer l dC dI G _ wy a1 a2 a3 a4 a5 a6 0 0 5 i ) (kwVN hg hK mfX9_hasBearer wn_535 ⟨Nat.le_of_ble_eq_true rfl, Nat.le_of_ble_eq_true rfl⟩) (preVR hK hPc (ci := 9) rfl rfl) rfl rfl hl.1 rfl (lv_room (Nat.le_of_ble_eq_true rfl)) dX10_steps_5 ⟨Nat.le_of_ble_eq_true rfl, Nat.le_of_ble_eq_true rfl⟩) hS (fun q h1 h2 => absurd h2 (Nat.not_le.mpr h1)) (fun q h => hA q (Nat.le_trans hS.1 h)) (fun r1 ur1 t H1 locs ht hvm w2 hB hz1 hk1 hS => ?_)
  have hP := keepR hP hk1
  obtain ⟨w2, w2x⟩ := w2
  try simp only [l_ii, show (0 : Int32).toInt = 0 from by decide, show (0 : Int32).toInt = 0 from by decide] at w2
  have w2 : r1 = 0 := w2.trans (if_neg (by omega))
  subst w2
  refine lv_if_eq (tgt := 18) hx hb dX10_steps_8 (by decide) (fun c3 => ?_) (fun c3 => ?_)
  · skip
    refine lv_iconst (v := (-1)) hx hb dX10_steps_18 (by decide) ?_
    have hpost : ((-1) : Int32) = -1 := by
      have t_c3 := eqI c3
      have : (0 : Int32).toInt = 0 := (by decide)
      first | rfl | ((repeat' split) <;> first | rfl | omega)
    refine W.widen (k := 0) (n := 0) (by omega) (by omega) ?_
    exact W.iret (v := (-1)) hx hb hr (fun t ht hW => ⟨⟨(-1), (), rfl, ⟨hpost, trivial⟩, trivial⟩, hS.F ht⟩) hS.2.2 dX10_steps_19
  · skip
    exact absurd c3 (by decide)

set_option maxHeartbeats 4000000 in
set_option maxRecDepth 100000 in
theorem c_X10_mark (l : Launch) (dC : Nat → ClassId) (dI : Nat → Nat → Nat) (G : Nat → ClassId) (sz : Nat) (h0 rd wy tr im kp od ch cr le mk tl sh a1 a2 a3 a4 a5 a6 : Nat) (i q : Int32)   : Met l yX10_mark (Cond.code yX10_mark cX10_mark 3 (some .int) :: GT) ({ frames := 1, cells := 0, slots := 0, locals := 21 } : Room) (PcW [.ref h0, .int i, .int q] dC dI G [(h0, .inr (10, [.ref rd, .ref wy, .ref tr, .ref im, .ref kp, .ref od, .ref ch, .ref cr, .ref le, .ref mk, .ref tl, .ref sh, .int 0, .int 0])), (wy, .inr (9, [.int 0, .int 0, .int 5, .ref a1, .ref a2, .ref a3, .ref a4, .ref a5, .ref a6]))] sz) (va_Qi (fun (r : Int32) (u : Unit) => match u with | _ => (r = -1) ∧ True) (fun _ _ => True) (va_A [(h0, .inr (10, [.ref rd, .ref wy, .ref tr, .ref im, .ref kp, .ref od, .ref ch, .ref cr, .ref le, .ref mk, .ref tl, .ref sh, .int 0, .int 0])), (wy, .inr (9, [.int 0, .int 0, .int 5, .ref a1, .ref a2, .ref a3, .ref a4, .ref a5, .ref a6]))] sz)) 0 0 (va_A [(h0, .inr (10, [.ref rd, .ref wy, .ref tr, .ref im, .ref kp, .ref od, .ref ch, .ref cr, .ref le, .ref mk, .ref tl, .ref sh, .int 0, .int 0])), (wy, .inr (9, [.int 0, .int 0, .int 5, .ref a1, .ref a2, .ref a3, .ref a4, .ref a5, .ref a6]))] sz) := by
  refine Met.ofW (cc := cX10_mark) (maxL := 3) (ret := (some .int)) (by decide) rfl ?_
  intro p e s m args below meth c s₁ B hml hv
  obtain ⟨rfl, hsz, hP, hK, hD0⟩ := hv
  have hx := B.exec
  have hb := B.bytes
  have hr := B.returns
  have hg : ∀ w ∈ GT, w.before ([.ref h0, .int i, .int q] : List Value).toArray s = true := fun w h => atoms_spec (ws := Cond.code yX10_mark cX10_mark 3 (some .int) :: GT) B.pre w (List.mem_cons_of_mem _ h)
  have hown : s.vm.findClass RX10 = some m.cls := findClass_of_methodNamed B.named
  have hlocks := B.notSynchronized
  subst hsz
  have hD := hD0.self (sz := s.heap.size)
  generalize hAe : va_A [(h0, .inr (10, [.ref rd, .ref wy, .ref tr, .ref im, .ref kp, .ref od, .ref ch, .ref cr, .ref le, .ref mk, .ref tl, .ref sh, .int 0, .int 0])), (wy, .inr (9, [.int 0, .int 0, .int 5, .ref a1, .ref a2, .ref a3, .ref a4, .ref a5, .ref a6]))] s.heap.size = A at hD ⊢
  have hA : ∀ q : Nat, s.heap.size ≤ q → A q := fun q h => by rw [← hAe]; exact Or.inr h
  have hS : va_S A s.heap s.heap [] := va_S.rf
  have hl := lv_entry ([.ref h0, .int i, .int q]) (n := 3) (Nat.le_of_ble_eq_true rfl)
  rw [lg_entry_eq]
  generalize (lg_sl ([.ref h0, .int i, .int q]) ++ List.replicate (3 - (lg_sl ([.ref h0, .int i, .int q])).length) Slot.unset).toArray = ls at hl ⊢
  have hl : lv_has ls 3 [(0, .ref h0), (1, .int i), (2, .int q)] := hl
  refine lv_aload_n hx hb dX10_mark_0 rfl (lv_at hl 0 rfl) ?_
  refine va_get (D := (dC, dI)) (ci := 10) (v := .ref wy) (C := RX10) (T := TX10) (N := 14) hx hb hg inG10 hown hK.1 hP 0 rfl rfl 1 (by decide) (hg _ wt_303) (fun _ h9 => h9) rfl dX10_mark_1 ?_
  refine lv_iload_n hx hb dX10_mark_4 rfl (lv_at hl 1 rfl) ?_
  have hPc := hP.sub (ws' := [(wy, .inr (9, [.int 0, .int 0, .int 5, .ref a1, .ref a2, .ref a3, .ref a4, .ref a5, .ref a6]))]) [1] rfl
  refine va_calli (va_runVN (As := [.int i]) (rest := []) ⟨hx, hb, hml, hown, hg⟩ (c_X9_hasStretch l dC dI G _ wy a1 a2 a3 a4 a5 a6 0 0 5 i ) (kwVN hg hK mfX9_hasStretch wn_527 ⟨Nat.le_of_ble_eq_true rfl, Nat.le_of_ble_eq_true rfl⟩) (preVR hK hPc (ci := 9) rfl rfl) rfl rfl hl.1 rfl (lv_room (Nat.le_of_ble_eq_true rfl)) dX10_mark_5 ⟨Nat.le_of_ble_eq_true rfl, Nat.le_of_ble_eq_true rfl⟩) hS (fun q h1 h2 => absurd h2 (Nat.not_le.mpr h1)) (fun q h => hA q (Nat.le_trans hS.1 h)) (fun r1 ur1 t H1 locs ht hvm w2 hB hz1 hk1 hS => ?_)
  have hP := keepR hP hk1
  obtain ⟨w2, w2x⟩ := w2
  try simp only [l_ii, show (0 : Int32).toInt = 0 from by decide, show (0 : Int32).toInt = 0 from by decide] at w2
  have w2 : r1 = 0 := w2.trans (if_neg (by omega))
  subst w2
  refine lv_if_eq (tgt := 18) hx hb dX10_mark_8 (by decide) (fun c3 => ?_) (fun c3 => ?_)
  · skip
    refine lv_iconst (v := (-1)) hx hb dX10_mark_18 (by decide) ?_
    have hpost : ((-1) : Int32) = -1 := by
      have t_c3 := eqI c3
      have : (0 : Int32).toInt = 0 := (by decide)
      first | rfl | ((repeat' split) <;> first | rfl | omega)
    refine W.widen (k := 0) (n := 0) (by omega) (by omega) ?_
    exact W.iret (v := (-1)) hx hb hr (fun t ht hW => ⟨⟨(-1), (), rfl, ⟨hpost, trivial⟩, trivial⟩, hS.F ht⟩) hS.2.2 dX10_mark_19
  · skip
    exact absurd c3 (by decide)

set_option maxHeartbeats 4000000 in
set_option maxRecDepth 100000 in
theorem c_X10_wipe (l : Launch) (dC : Nat → ClassId) (dI : Nat → Nat → Nat) (G : Nat → ClassId) (sz : Nat) (h0 rd wy tr im kp od ch cr le mk tl sh m1 m2 : Nat) (n : Int32)   : Met l yX10_wipe (Cond.code yX10_wipe cX10_wipe 3 (some .int) :: GT) ({ frames := 0, cells := 0, slots := 0, locals := 0 } : Room) (PcW [.ref h0, .int n] dC dI G [(h0, .inr (10, [.ref rd, .ref wy, .ref tr, .ref im, .ref kp, .ref od, .ref ch, .ref cr, .ref le, .ref mk, .ref tl, .ref sh, .int 0, .int 0])), (mk, .inr (3, [.int 0, .ref m1, .ref m2]))] sz) (va_Qi (fun (r : Int32) (u : Unit) => match u with | _ => (r = if n.toInt = 0 then 0 else -1) ∧ True) (fun _ _ => True) (va_A [(h0, .inr (10, [.ref rd, .ref wy, .ref tr, .ref im, .ref kp, .ref od, .ref ch, .ref cr, .ref le, .ref mk, .ref tl, .ref sh, .int 0, .int 0])), (mk, .inr (3, [.int 0, .ref m1, .ref m2]))] sz)) 0 0 (va_A [(h0, .inr (10, [.ref rd, .ref wy, .ref tr, .ref im, .ref kp, .ref od, .ref ch, .ref cr, .ref le, .ref mk, .ref tl, .ref sh, .int 0, .int 0])), (mk, .inr (3, [.int 0, .ref m1, .ref m2]))] sz) := by
  refine Met.ofW (cc := cX10_wipe) (maxL := 3) (ret := (some .int)) (by decide) rfl ?_
  intro p e s m args below meth c s₁ B hml hv
  obtain ⟨rfl, hsz, hP, hK, hD0⟩ := hv
  have hx := B.exec
  have hb := B.bytes
  have hr := B.returns
  have hg : ∀ w ∈ GT, w.before ([.ref h0, .int n] : List Value).toArray s = true := fun w h => atoms_spec (ws := Cond.code yX10_wipe cX10_wipe 3 (some .int) :: GT) B.pre w (List.mem_cons_of_mem _ h)
  have hown : s.vm.findClass RX10 = some m.cls := findClass_of_methodNamed B.named
  have hlocks := B.notSynchronized
  subst hsz
  have hD := hD0.self (sz := s.heap.size)
  generalize hAe : va_A [(h0, .inr (10, [.ref rd, .ref wy, .ref tr, .ref im, .ref kp, .ref od, .ref ch, .ref cr, .ref le, .ref mk, .ref tl, .ref sh, .int 0, .int 0])), (mk, .inr (3, [.int 0, .ref m1, .ref m2]))] s.heap.size = A at hD ⊢
  have hA : ∀ q : Nat, s.heap.size ≤ q → A q := fun q h => by rw [← hAe]; exact Or.inr h
  have hS : va_S A s.heap s.heap [] := va_S.rf
  have hl := lv_entry ([.ref h0, .int n]) (n := 3) (Nat.le_of_ble_eq_true rfl)
  rw [lg_entry_eq]
  generalize (lg_sl ([.ref h0, .int n]) ++ List.replicate (3 - (lg_sl ([.ref h0, .int n])).length) Slot.unset).toArray = ls at hl ⊢
  have hl : lv_has ls 3 [(0, .ref h0), (1, .int n)] := hl
  refine lv_iload_n hx hb dX10_wipe_0 rfl (lv_at hl 1 rfl) ?_
  refine lv_if_lt (tgt := 15) hx hb dX10_wipe_1 (by decide) (fun c1 => ?_) (fun c1 => ?_)
  · skip
    refine lv_iconst (v := (-1)) hx hb dX10_wipe_15 (by decide) ?_
    have hpost : ((-1) : Int32) = if n.toInt = 0 then 0 else -1 := by
      have t_c1 := ltI c1
      have : (0 : Int32).toInt = 0 := (by decide)
      first | rfl | ((repeat' split) <;> first | rfl | omega)
    refine W.widen (k := 0) (n := 0) (by omega) (by omega) ?_
    exact W.iret (v := (-1)) hx hb hr (fun t ht hW => ⟨⟨(-1), (), rfl, ⟨hpost, trivial⟩, trivial⟩, hS.F ht⟩) hS.2.2 dX10_wipe_16
  · skip
    refine lv_iload_n hx hb dX10_wipe_4 rfl (lv_at hl 1 rfl) ?_
    refine lv_aload_n hx hb dX10_wipe_5 rfl (lv_at hl 0 rfl) ?_
    refine va_get (D := (dC, dI)) (ci := 10) (v := .ref mk) (C := RX10) (T := TX10) (N := 14) hx hb hg inG10 hown hK.1 hP 0 rfl rfl 9 (by decide) (hg _ wt_311) (fun _ h9 => h9) rfl dX10_wipe_6 ?_
    refine va_getN (D := (dC, dI)) (ci := 3) (v := .int 0) (C := RX3) (T := TX3) (N := 3) hx hb hg inG3 hown hK.1 hP 1 rfl rfl 0 (by decide) (hK.nest wn_241) (fun _ h9 => h9) rfl dX10_wipe_9 ?_
    refine lv_icmp_le (tgt := 17) hx hb dX10_wipe_12 (by decide) (fun c2 => ?_) (fun c2 => ?_)
    · skip
      refine lv_aload_n hx hb dX10_wipe_17 rfl (lv_at hl 0 rfl) ?_
      refine va_get (D := (dC, dI)) (ci := 10) (v := .ref mk) (C := RX10) (T := TX10) (N := 14) hx hb hg inG10 hown hK.1 hP 0 rfl rfl 9 (by decide) (hg _ wt_311) (fun _ h9 => h9) rfl dX10_wipe_18 ?_
      refine va_getN (D := (dC, dI)) (ci := 3) (v := .int 0) (C := RX3) (T := TX3) (N := 3) hx hb hg inG3 hown hK.1 hP 1 rfl rfl 0 (by decide) (hK.nest wn_241) (fun _ h9 => h9) rfl dX10_wipe_21 ?_
      refine lv_istore_n (lv' := [(2, .int 0), (0, .ref h0), (1, .int n)]) hx hb dX10_wipe_24 rfl hl (by decide) rfl (fun ls hl => ?_)
      refine lv_aload_n hx hb dX10_wipe_25 rfl (lv_at hl 1 rfl) ?_
      refine va_get (D := (dC, dI)) (ci := 10) (v := .ref mk) (C := RX10) (T := TX10) (N := 14) hx hb hg inG10 hown hK.1 hP 0 rfl rfl 9 (by decide) (hg _ wt_311) (fun _ h9 => h9) rfl dX10_wipe_26 ?_
      refine lv_iload_n hx hb dX10_wipe_29 rfl (lv_at hl 2 rfl) ?_
      refine va_putN (D := (dC, dI)) (ci := 3) (v := .int n) (ty := .int) (C := RX3) (T := TX3) (N := 3) hx hb hg inG3 tyX3 tyX3_ok nmX3 hown hK.1 hP hD hS 1 rfl rfl 0 (by decide) (hK.nest wn_241) (fun _ h9 => h9) rfl (by decide +kernel) rfl rfl (Nat.le_of_ble_eq_true rfl) dX10_wipe_30 (fun H locs hP hD hS => ?_)
      have hP : va_P (dC, dI) vwCl [(h0, .inr (10, [.ref rd, .ref wy, .ref tr, .ref im, .ref kp, .ref od, .ref ch, .ref cr, .ref le, .ref mk, .ref tl, .ref sh, .int 0, .int 0])), (mk, .inr (3, [.int n, .ref m1, .ref m2]))] H := hP
      have hD : va_D A [(h0, .inr (10, [.ref rd, .ref wy, .ref tr, .ref im, .ref kp, .ref od, .ref ch, .ref cr, .ref le, .ref mk, .ref tl, .ref sh, .int 0, .int 0])), (mk, .inr (3, [.int n, .ref m1, .ref m2]))] := hD
      refine lv_iload_n hx hb dX10_wipe_33 rfl (lv_at hl 0 rfl) ?_
      have hpost : (0 : Int32) = if n.toInt = 0 then 0 else -1 := by
        have t_c1 := nltI c1
        have t_c2 := leI c2
        have : (0 : Int32).toInt = 0 := (by decide)
        first | rfl | ((repeat' split) <;> first | rfl | omega)
      refine W.widen (k := 0) (n := 0) (by omega) (by omega) ?_
      exact W.iret (v := 0) hx hb hr (fun t ht hW => ⟨⟨0, (), rfl, ⟨hpost, trivial⟩, trivial⟩, hS.F ht⟩) hS.2.2 dX10_wipe_34
    · skip
      refine lv_iconst (v := (-1)) hx hb dX10_wipe_15 (by decide) ?_
      have hpost : ((-1) : Int32) = if n.toInt = 0 then 0 else -1 := by
        have t_c1 := nltI c1
        have t_c2 := nleI c2
        have : (0 : Int32).toInt = 0 := (by decide)
        first | rfl | ((repeat' split) <;> first | rfl | omega)
      refine W.widen (k := 0) (n := 0) (by omega) (by omega) ?_
      exact W.iret (v := (-1)) hx hb hr (fun t ht hW => ⟨⟨(-1), (), rfl, ⟨hpost, trivial⟩, trivial⟩, hS.F ht⟩) hS.2.2 dX10_wipe_16

set_option maxHeartbeats 4000000 in
set_option maxRecDepth 100000 in
theorem c_X10_paths (l : Launch) (dC : Nat → ClassId) (dI : Nat → Nat → Nat) (G : Nat → ClassId) (sz : Nat) (h0 rd wy tr im kp od ch cr le mk tl sh ti to a1 a2 a3 a4 a5 a6 : Nat) (ri ro : Nat → Nat)  : Met l yX10_paths (Cond.code yX10_paths cX10_paths 1 (some .int) :: GT) ({ frames := 1, cells := 0, slots := 0, locals := 23 } : Room) (PcW [.ref h0] dC dI G [(h0, .inr (10, [.ref rd, .ref wy, .ref tr, .ref im, .ref kp, .ref od, .ref ch, .ref cr, .ref le, .ref mk, .ref tl, .ref sh, .int 0, .int 0])), (tl, .inr (8, [.int 0, .ref ti, .ref to])), (ti, .inl (G 4, 11, .inr (.inr (.inr (.inr (fun i => if i < 11 then some (ri i) else none)))))), ((ri 0), .inl (G 0, 10, .inl (fun _ => 0))), (to, .inl (G 4, 11, .inr (.inr (.inr (.inr (fun i => if i < 11 then some (ro i) else none)))))), ((ro 0), .inl (G 0, 10, .inl (fun _ => 0))), (wy, .inr (9, [.int 0, .int 0, .int 5, .ref a1, .ref a2, .ref a3, .ref a4, .ref a5, .ref a6]))] sz) (va_Qi (fun (r : Int32) (u : Unit) => match u with | _ => (r = 1) ∧ True) (fun _ _ => True) (va_A [(h0, .inr (10, [.ref rd, .ref wy, .ref tr, .ref im, .ref kp, .ref od, .ref ch, .ref cr, .ref le, .ref mk, .ref tl, .ref sh, .int 0, .int 0])), (tl, .inr (8, [.int 0, .ref ti, .ref to])), (ti, .inl (G 4, 11, .inr (.inr (.inr (.inr (fun i => if i < 11 then some (ri i) else none)))))), ((ri 0), .inl (G 0, 10, .inl (fun _ => 0))), (to, .inl (G 4, 11, .inr (.inr (.inr (.inr (fun i => if i < 11 then some (ro i) else none)))))), ((ro 0), .inl (G 0, 10, .inl (fun _ => 0))), (wy, .inr (9, [.int 0, .int 0, .int 5, .ref a1, .ref a2, .ref a3, .ref a4, .ref a5, .ref a6]))] sz)) 0 0 (va_A [(h0, .inr (10, [.ref rd, .ref wy, .ref tr, .ref im, .ref kp, .ref od, .ref ch, .ref cr, .ref le, .ref mk, .ref tl, .ref sh, .int 0, .int 0])), (tl, .inr (8, [.int 0, .ref ti, .ref to])), (ti, .inl (G 4, 11, .inr (.inr (.inr (.inr (fun i => if i < 11 then some (ri i) else none)))))), ((ri 0), .inl (G 0, 10, .inl (fun _ => 0))), (to, .inl (G 4, 11, .inr (.inr (.inr (.inr (fun i => if i < 11 then some (ro i) else none)))))), ((ro 0), .inl (G 0, 10, .inl (fun _ => 0))), (wy, .inr (9, [.int 0, .int 0, .int 5, .ref a1, .ref a2, .ref a3, .ref a4, .ref a5, .ref a6]))] sz) := by
  refine Met.ofW (cc := cX10_paths) (maxL := 1) (ret := (some .int)) (by decide) rfl ?_
  intro p e s m args below meth c s₁ B hml hv
  obtain ⟨rfl, hsz, hP, hK, hD0⟩ := hv
  have hx := B.exec
  have hb := B.bytes
  have hr := B.returns
  have hg : ∀ w ∈ GT, w.before ([.ref h0] : List Value).toArray s = true := fun w h => atoms_spec (ws := Cond.code yX10_paths cX10_paths 1 (some .int) :: GT) B.pre w (List.mem_cons_of_mem _ h)
  have hown : s.vm.findClass RX10 = some m.cls := findClass_of_methodNamed B.named
  have hlocks := B.notSynchronized
  subst hsz
  have hD := hD0.self (sz := s.heap.size)
  generalize hAe : va_A [(h0, .inr (10, [.ref rd, .ref wy, .ref tr, .ref im, .ref kp, .ref od, .ref ch, .ref cr, .ref le, .ref mk, .ref tl, .ref sh, .int 0, .int 0])), (tl, .inr (8, [.int 0, .ref ti, .ref to])), (ti, .inl (G 4, 11, .inr (.inr (.inr (.inr (fun i => if i < 11 then some (ri i) else none)))))), ((ri 0), .inl (G 0, 10, .inl (fun _ => 0))), (to, .inl (G 4, 11, .inr (.inr (.inr (.inr (fun i => if i < 11 then some (ro i) else none)))))), ((ro 0), .inl (G 0, 10, .inl (fun _ => 0))), (wy, .inr (9, [.int 0, .int 0, .int 5, .ref a1, .ref a2, .ref a3, .ref a4, .ref a5, .ref a6]))] s.heap.size = A at hD ⊢
  have hA : ∀ q : Nat, s.heap.size ≤ q → A q := fun q h => by rw [← hAe]; exact Or.inr h
  have hS : va_S A s.heap s.heap [] := va_S.rf
  have hl := lv_entry ([.ref h0]) (n := 1) (Nat.le_of_ble_eq_true rfl)
  rw [lg_entry_eq]
  generalize (lg_sl ([.ref h0]) ++ List.replicate (1 - (lg_sl ([.ref h0])).length) Slot.unset).toArray = ls at hl ⊢
  have hl : lv_has ls 1 [(0, .ref h0)] := hl
  refine lv_aload_n hx hb dX10_paths_0 rfl (lv_at hl 0 rfl) ?_
  refine va_get (D := (dC, dI)) (ci := 10) (v := .ref tl) (C := RX10) (T := TX10) (N := 14) hx hb hg inG10 hown hK.1 hP 0 rfl rfl 10 (by decide) (hg _ wt_312) (fun _ h9 => h9) rfl dX10_paths_1 ?_
  refine lv_aload_n hx hb dX10_paths_4 rfl (lv_at hl 0 rfl) ?_
  refine va_get (D := (dC, dI)) (ci := 10) (v := .ref wy) (C := RX10) (T := TX10) (N := 14) hx hb hg inG10 hown hK.1 hP 0 rfl rfl 1 (by decide) (hg _ wt_303) (fun _ h9 => h9) rfl dX10_paths_5 ?_
  refine lv_aload_n hx hb dX10_paths_8 rfl (lv_at hl 0 rfl) ?_
  refine va_get (D := (dC, dI)) (ci := 10) (v := .ref mk) (C := RX10) (T := TX10) (N := 14) hx hb hg inG10 hown hK.1 hP 0 rfl rfl 9 (by decide) (hg _ wt_311) (fun _ h9 => h9) rfl dX10_paths_9 ?_
  have hPc := hP.sub (ws' := [(tl, .inr (8, [.int 0, .ref ti, .ref to])), (ti, .inl (G 4, 11, .inr (.inr (.inr (.inr (fun i => if i < 11 then some (ri i) else none)))))), ((ri 0), .inl (G 0, 10, .inl (fun _ => 0))), (to, .inl (G 4, 11, .inr (.inr (.inr (.inr (fun i => if i < 11 then some (ro i) else none)))))), ((ro 0), .inl (G 0, 10, .inl (fun _ => 0))), (wy, .inr (9, [.int 0, .int 0, .int 5, .ref a1, .ref a2, .ref a3, .ref a4, .ref a5, .ref a6]))]) [1, 2, 3, 4, 5, 6] rfl
  have hDc := hD.sub (ws' := [(tl, .inr (8, [.int 0, .ref ti, .ref to])), (ti, .inl (G 4, 11, .inr (.inr (.inr (.inr (fun i => if i < 11 then some (ri i) else none)))))), ((ri 0), .inl (G 0, 10, .inl (fun _ => 0))), (to, .inl (G 4, 11, .inr (.inr (.inr (.inr (fun i => if i < 11 then some (ro i) else none)))))), ((ro 0), .inl (G 0, 10, .inl (fun _ => 0))), (wy, .inr (9, [.int 0, .int 0, .int 5, .ref a1, .ref a2, .ref a3, .ref a4, .ref a5, .ref a6]))]) [1, 2, 3, 4, 5, 6] (by decide) rfl
  have hFc := va_free (wc := [(tl, .inr (8, [.int 0, .ref ti, .ref to])), (ti, .inl (G 4, 11, .inr (.inr (.inr (.inr (fun i => if i < 11 then some (ri i) else none)))))), ((ri 0), .inl (G 0, 10, .inl (fun _ => 0))), (to, .inl (G 4, 11, .inr (.inr (.inr (.inr (fun i => if i < 11 then some (ro i) else none)))))), ((ro 0), .inl (G 0, 10, .inl (fun _ => 0))), (wy, .inr (9, [.int 0, .int 0, .int 5, .ref a1, .ref a2, .ref a3, .ref a4, .ref a5, .ref a6]))]) hD hS hA [1, 2, 3, 4, 5, 6] rfl
  refine va_callv (va_runVN (As := [.ref wy, .ref mk]) (rest := []) ⟨hx, hb, hml, hown, hg⟩ (c_X8_explore l dC dI G _ tl ti to wy mk a1 a2 a3 a4 a5 a6 ri ro 0 (fun _ => 0) (fun _ => 0) ) (kwVN hg hK mfX8_explore wn_767 ⟨Nat.le_of_ble_eq_true rfl, Nat.le_of_ble_eq_true rfl⟩) (preVW hK hPc hDc (ci := 8) rfl rfl) rfl rfl hl.1 rfl (lv_room (Nat.le_of_ble_eq_true rfl)) dX10_paths_12 ⟨Nat.le_of_ble_eq_true rfl, Nat.le_of_ble_eq_true rfl⟩) hS (fun q _ h => hFc q h) hFc (fun ur1 t H1 locs ht hvm w2 hB hz1 hk1 hS => ?_)
  obtain ⟨hP1, hD1⟩ := hB
  rw [ht] at hP1
  obtain ⟨hP, hD⟩ := va_join (wr := [(h0, .inr (10, [.ref rd, .ref wy, .ref tr, .ref im, .ref kp, .ref od, .ref ch, .ref cr, .ref le, .ref mk, .ref tl, .ref sh, .int 0, .int 0]))]) (w1 := [(tl, .inr (8, [.int 1, .ref ti, .ref to])), (wy, .inr (9, [.int 0, .int 0, .int 5, .ref a1, .ref a2, .ref a3, .ref a4, .ref a5, .ref a6]))]) hP hD [1, 2, 3, 4, 5, 6] [0] rfl rfl (by decide) (by decide) hk1 hFc hP1 hD1
  generalize H1 = H at hP hS ⊢
  have hP : va_P (dC, dI) vwCl [(h0, .inr (10, [.ref rd, .ref wy, .ref tr, .ref im, .ref kp, .ref od, .ref ch, .ref cr, .ref le, .ref mk, .ref tl, .ref sh, .int 0, .int 0])), (tl, .inr (8, [.int 1, .ref ti, .ref to])), (wy, .inr (9, [.int 0, .int 0, .int 5, .ref a1, .ref a2, .ref a3, .ref a4, .ref a5, .ref a6]))] H := hP
  have hD : va_D A [(h0, .inr (10, [.ref rd, .ref wy, .ref tr, .ref im, .ref kp, .ref od, .ref ch, .ref cr, .ref le, .ref mk, .ref tl, .ref sh, .int 0, .int 0])), (tl, .inr (8, [.int 1, .ref ti, .ref to])), (wy, .inr (9, [.int 0, .int 0, .int 5, .ref a1, .ref a2, .ref a3, .ref a4, .ref a5, .ref a6]))] := hD
  refine lv_aload_n hx hb dX10_paths_15 rfl (lv_at hl 0 rfl) ?_
  refine va_get (D := (dC, dI)) (ci := 10) (v := .ref tl) (C := RX10) (T := TX10) (N := 14) hx hb hg inG10 hown hK.1 hP 0 rfl rfl 10 (by decide) (hg _ wt_312) (fun _ h9 => h9) rfl dX10_paths_16 ?_
  refine va_getN (D := (dC, dI)) (ci := 8) (v := .int 1) (C := RX8) (T := TX8) (N := 3) hx hb hg inG8 hown hK.1 hP 1 rfl rfl 0 (by decide) (hK.nest wn_259) (fun _ h9 => h9) rfl dX10_paths_19 ?_
  have hpost : (1 : Int32) = 1 := by
    first | rfl | ((repeat' split) <;> first | rfl | omega)
  refine W.widen (k := 0) (n := 0) (by omega) (by omega) ?_
  exact W.iret (v := 1) hx hb hr (fun t ht hW => ⟨⟨1, (), rfl, ⟨hpost, trivial⟩, trivial⟩, hS.F ht⟩) hS.2.2 dX10_paths_22

set_option maxHeartbeats 4000000 in
set_option maxRecDepth 100000 in
theorem c_X10_eye (l : Launch) (dC : Nat → ClassId) (dI : Nat → Nat → Nat) (G : Nat → ClassId) (sz : Nat) (h0 rd wy tr im kp od ch cr le mk tl sh ti to a1 a2 a3 a4 a5 a6 : Nat) (q : Int32) (ri ro : Nat → Nat)  : Met l yX10_eye (Cond.code yX10_eye cX10_eye 4 (some .int) :: GT) ({ frames := 1, cells := 0, slots := 0, locals := 23 } : Room) (PcW [.ref h0, .int q] dC dI G [(h0, .inr (10, [.ref rd, .ref wy, .ref tr, .ref im, .ref kp, .ref od, .ref ch, .ref cr, .ref le, .ref mk, .ref tl, .ref sh, .int 0, .int 0])), (tl, .inr (8, [.int 0, .ref ti, .ref to])), (ti, .inl (G 4, 11, .inr (.inr (.inr (.inr (fun i => if i < 11 then some (ri i) else none)))))), ((ri 0), .inl (G 0, 10, .inl (fun _ => 0))), (to, .inl (G 4, 11, .inr (.inr (.inr (.inr (fun i => if i < 11 then some (ro i) else none)))))), ((ro 0), .inl (G 0, 10, .inl (fun _ => 0))), (wy, .inr (9, [.int 0, .int 0, .int 5, .ref a1, .ref a2, .ref a3, .ref a4, .ref a5, .ref a6]))] sz) (va_Qi (fun (r : Int32) (u : Unit) => match u with | _ => (r = if 0 ≤ q.toInt ∧ q.toInt ≤ 9 then 0 else -1) ∧ True) (fun _ _ => True) (va_A [(h0, .inr (10, [.ref rd, .ref wy, .ref tr, .ref im, .ref kp, .ref od, .ref ch, .ref cr, .ref le, .ref mk, .ref tl, .ref sh, .int 0, .int 0])), (tl, .inr (8, [.int 0, .ref ti, .ref to])), (ti, .inl (G 4, 11, .inr (.inr (.inr (.inr (fun i => if i < 11 then some (ri i) else none)))))), ((ri 0), .inl (G 0, 10, .inl (fun _ => 0))), (to, .inl (G 4, 11, .inr (.inr (.inr (.inr (fun i => if i < 11 then some (ro i) else none)))))), ((ro 0), .inl (G 0, 10, .inl (fun _ => 0))), (wy, .inr (9, [.int 0, .int 0, .int 5, .ref a1, .ref a2, .ref a3, .ref a4, .ref a5, .ref a6]))] sz)) 0 0 (va_A [(h0, .inr (10, [.ref rd, .ref wy, .ref tr, .ref im, .ref kp, .ref od, .ref ch, .ref cr, .ref le, .ref mk, .ref tl, .ref sh, .int 0, .int 0])), (tl, .inr (8, [.int 0, .ref ti, .ref to])), (ti, .inl (G 4, 11, .inr (.inr (.inr (.inr (fun i => if i < 11 then some (ri i) else none)))))), ((ri 0), .inl (G 0, 10, .inl (fun _ => 0))), (to, .inl (G 4, 11, .inr (.inr (.inr (.inr (fun i => if i < 11 then some (ro i) else none)))))), ((ro 0), .inl (G 0, 10, .inl (fun _ => 0))), (wy, .inr (9, [.int 0, .int 0, .int 5, .ref a1, .ref a2, .ref a3, .ref a4, .ref a5, .ref a6]))] sz) := by
  refine Met.ofW (cc := cX10_eye) (maxL := 4) (ret := (some .int)) (by decide) rfl ?_
  intro p e s m args below meth c s₁ B hml hv
  obtain ⟨rfl, hsz, hP, hK, hD0⟩ := hv
  have hx := B.exec
  have hb := B.bytes
  have hr := B.returns
  have hg : ∀ w ∈ GT, w.before ([.ref h0, .int q] : List Value).toArray s = true := fun w h => atoms_spec (ws := Cond.code yX10_eye cX10_eye 4 (some .int) :: GT) B.pre w (List.mem_cons_of_mem _ h)
  have hown : s.vm.findClass RX10 = some m.cls := findClass_of_methodNamed B.named
  have hlocks := B.notSynchronized
  subst hsz
  have hD := hD0.self (sz := s.heap.size)
  generalize hAe : va_A [(h0, .inr (10, [.ref rd, .ref wy, .ref tr, .ref im, .ref kp, .ref od, .ref ch, .ref cr, .ref le, .ref mk, .ref tl, .ref sh, .int 0, .int 0])), (tl, .inr (8, [.int 0, .ref ti, .ref to])), (ti, .inl (G 4, 11, .inr (.inr (.inr (.inr (fun i => if i < 11 then some (ri i) else none)))))), ((ri 0), .inl (G 0, 10, .inl (fun _ => 0))), (to, .inl (G 4, 11, .inr (.inr (.inr (.inr (fun i => if i < 11 then some (ro i) else none)))))), ((ro 0), .inl (G 0, 10, .inl (fun _ => 0))), (wy, .inr (9, [.int 0, .int 0, .int 5, .ref a1, .ref a2, .ref a3, .ref a4, .ref a5, .ref a6]))] s.heap.size = A at hD ⊢
  have hA : ∀ q : Nat, s.heap.size ≤ q → A q := fun q h => by rw [← hAe]; exact Or.inr h
  have hS : va_S A s.heap s.heap [] := va_S.rf
  have hl := lv_entry ([.ref h0, .int q]) (n := 4) (Nat.le_of_ble_eq_true rfl)
  rw [lg_entry_eq]
  generalize (lg_sl ([.ref h0, .int q]) ++ List.replicate (4 - (lg_sl ([.ref h0, .int q])).length) Slot.unset).toArray = ls at hl ⊢
  have hl : lv_has ls 4 [(0, .ref h0), (1, .int q)] := hl
  refine lv_iload_n hx hb dX10_eye_0 rfl (lv_at hl 1 rfl) ?_
  have hPc := hP.sub (ws' := []) [] rfl
  refine va_calli (va_runS (As := [.int q]) (rest := []) ⟨hx, hb, hml, hown, hg⟩ (c_X10_isDepth l dC dI G _ q ) (kwS hg mfX10_isDepth wt_649 ⟨Nat.le_of_ble_eq_true rfl, Nat.le_of_ble_eq_true rfl⟩) (preSR hK hPc) rfl rfl hl.1 rfl (lv_room (Nat.le_of_ble_eq_true rfl)) dX10_eye_1 ⟨Nat.le_of_ble_eq_true rfl, Nat.le_of_ble_eq_true rfl⟩) hS (fun q h1 h2 => absurd h2 (Nat.not_le.mpr h1)) (fun q h => hA q (Nat.le_trans hS.1 h)) (fun r1 ur1 t H1 locs ht hvm w2 hB hz1 hk1 hS => ?_)
  have hP := keepR hP hk1
  obtain ⟨w2, w2x⟩ := w2
  try simp only [l_ii, show (0 : Int32).toInt = 0 from by decide, show (9 : Int32).toInt = 9 from by decide] at w2
  subst w2
  refine lv_if_ne (tgt := 9) hx hb dX10_eye_4 (by decide) (fun c3 => ?_) (fun c3 => ?_)
  · skip
    have b4 := if10_p c3
    refine lv_aload_n hx hb dX10_eye_9 rfl (lv_at hl 0 rfl) ?_
    refine va_get (D := (dC, dI)) (ci := 10) (v := .ref tl) (C := RX10) (T := TX10) (N := 14) hx hb hg inG10 hown hK.1 hP 0 rfl rfl 10 (by decide) (hg _ wt_312) (fun _ h9 => h9) rfl dX10_eye_10 ?_
    refine lv_aload_n hx hb dX10_eye_13 rfl (lv_at hl 0 rfl) ?_
    refine va_get (D := (dC, dI)) (ci := 10) (v := .ref wy) (C := RX10) (T := TX10) (N := 14) hx hb hg inG10 hown hK.1 hP 0 rfl rfl 1 (by decide) (hg _ wt_303) (fun _ h9 => h9) rfl dX10_eye_14 ?_
    refine lv_aload_n hx hb dX10_eye_17 rfl (lv_at hl 0 rfl) ?_
    refine va_get (D := (dC, dI)) (ci := 10) (v := .ref mk) (C := RX10) (T := TX10) (N := 14) hx hb hg inG10 hown hK.1 hP 0 rfl rfl 9 (by decide) (hg _ wt_311) (fun _ h9 => h9) rfl dX10_eye_18 ?_
    have hPc := hP.sub (ws' := [(tl, .inr (8, [.int 0, .ref ti, .ref to])), (ti, .inl (G 4, 11, .inr (.inr (.inr (.inr (fun i => if i < 11 then some (ri i) else none)))))), ((ri 0), .inl (G 0, 10, .inl (fun _ => 0))), (to, .inl (G 4, 11, .inr (.inr (.inr (.inr (fun i => if i < 11 then some (ro i) else none)))))), ((ro 0), .inl (G 0, 10, .inl (fun _ => 0))), (wy, .inr (9, [.int 0, .int 0, .int 5, .ref a1, .ref a2, .ref a3, .ref a4, .ref a5, .ref a6]))]) [1, 2, 3, 4, 5, 6] rfl
    have hDc := hD.sub (ws' := [(tl, .inr (8, [.int 0, .ref ti, .ref to])), (ti, .inl (G 4, 11, .inr (.inr (.inr (.inr (fun i => if i < 11 then some (ri i) else none)))))), ((ri 0), .inl (G 0, 10, .inl (fun _ => 0))), (to, .inl (G 4, 11, .inr (.inr (.inr (.inr (fun i => if i < 11 then some (ro i) else none)))))), ((ro 0), .inl (G 0, 10, .inl (fun _ => 0))), (wy, .inr (9, [.int 0, .int 0, .int 5, .ref a1, .ref a2, .ref a3, .ref a4, .ref a5, .ref a6]))]) [1, 2, 3, 4, 5, 6] (by decide) rfl
    have hFc := va_free (wc := [(tl, .inr (8, [.int 0, .ref ti, .ref to])), (ti, .inl (G 4, 11, .inr (.inr (.inr (.inr (fun i => if i < 11 then some (ri i) else none)))))), ((ri 0), .inl (G 0, 10, .inl (fun _ => 0))), (to, .inl (G 4, 11, .inr (.inr (.inr (.inr (fun i => if i < 11 then some (ro i) else none)))))), ((ro 0), .inl (G 0, 10, .inl (fun _ => 0))), (wy, .inr (9, [.int 0, .int 0, .int 5, .ref a1, .ref a2, .ref a3, .ref a4, .ref a5, .ref a6]))]) hD hS hA [1, 2, 3, 4, 5, 6] rfl
    refine va_callv (va_runVN (As := [.ref wy, .ref mk]) (rest := []) ⟨hx, hb, hml, hown, hg⟩ (c_X8_explore l dC dI G _ tl ti to wy mk a1 a2 a3 a4 a5 a6 ri ro 0 (fun _ => 0) (fun _ => 0) ) (kwVN hg hK mfX8_explore wn_767 ⟨Nat.le_of_ble_eq_true rfl, Nat.le_of_ble_eq_true rfl⟩) (preVW hK hPc hDc (ci := 8) rfl rfl) rfl rfl hl.1 rfl (lv_room (Nat.le_of_ble_eq_true rfl)) dX10_eye_21 ⟨Nat.le_of_ble_eq_true rfl, Nat.le_of_ble_eq_true rfl⟩) hS (fun q _ h => hFc q h) hFc (fun ur5 t H1 locs ht hvm w6 hB hz1 hk1 hS => ?_)
    obtain ⟨hP1, hD1⟩ := hB
    rw [ht] at hP1
    obtain ⟨hP, hD⟩ := va_join (wr := [(h0, .inr (10, [.ref rd, .ref wy, .ref tr, .ref im, .ref kp, .ref od, .ref ch, .ref cr, .ref le, .ref mk, .ref tl, .ref sh, .int 0, .int 0]))]) (w1 := [(tl, .inr (8, [.int 1, .ref ti, .ref to])), (wy, .inr (9, [.int 0, .int 0, .int 5, .ref a1, .ref a2, .ref a3, .ref a4, .ref a5, .ref a6]))]) hP hD [1, 2, 3, 4, 5, 6] [0] rfl rfl (by decide) (by decide) hk1 hFc hP1 hD1
    generalize H1 = H at hP hS ⊢
    have hP : va_P (dC, dI) vwCl [(h0, .inr (10, [.ref rd, .ref wy, .ref tr, .ref im, .ref kp, .ref od, .ref ch, .ref cr, .ref le, .ref mk, .ref tl, .ref sh, .int 0, .int 0])), (tl, .inr (8, [.int 1, .ref ti, .ref to])), (wy, .inr (9, [.int 0, .int 0, .int 5, .ref a1, .ref a2, .ref a3, .ref a4, .ref a5, .ref a6]))] H := hP
    have hD : va_D A [(h0, .inr (10, [.ref rd, .ref wy, .ref tr, .ref im, .ref kp, .ref od, .ref ch, .ref cr, .ref le, .ref mk, .ref tl, .ref sh, .int 0, .int 0])), (tl, .inr (8, [.int 1, .ref ti, .ref to])), (wy, .inr (9, [.int 0, .int 0, .int 5, .ref a1, .ref a2, .ref a3, .ref a4, .ref a5, .ref a6]))] := hD
    refine lv_iconst (v := 0) hx hb dX10_eye_24 (by decide) ?_
    refine lv_istore_n (lv' := [(2, .int 0), (0, .ref h0), (1, .int q)]) hx hb dX10_eye_25 rfl hl (by decide) rfl (fun ls hl => ?_)
    refine lv_iconst (v := 0) hx hb dX10_eye_26 (by decide) ?_
    refine lv_istore_n (lv' := [(3, .int 0), (2, .int 0), (0, .ref h0), (1, .int q)]) hx hb dX10_eye_27 rfl hl (by decide) rfl (fun ls hl => ?_)
    refine lv_iload_n hx hb dX10_eye_28 rfl (lv_at hl 0 rfl) ?_
    refine lv_aload_n hx hb dX10_eye_29 rfl (lv_at hl 2 rfl) ?_
    refine va_get (D := (dC, dI)) (ci := 10) (v := .ref wy) (C := RX10) (T := TX10) (N := 14) hx hb hg inG10 hown hK.1 hP 0 rfl rfl 1 (by decide) (hg _ wt_303) (fun _ h9 => h9) rfl dX10_eye_30 ?_
    refine va_getN (D := (dC, dI)) (ci := 9) (v := .int 0) (C := RX9) (T := TX9) (N := 9) hx hb hg inG9 hown hK.1 hP 2 rfl rfl 0 (by decide) (hK.nest wn_60) (fun _ h9 => h9) rfl dX10_eye_33 ?_
    refine lv_icmp_ge (tgt := 63) hx hb dX10_eye_36 (by decide) (fun c7 => ?_) (fun c7 => ?_)
    · skip
      refine lv_iload_n hx hb dX10_eye_63 rfl (lv_at hl 1 rfl) ?_
      have hpost : (0 : Int32) = if 0 ≤ q.toInt ∧ q.toInt ≤ 9 then 0 else -1 := by
        have t_b4 := b4
        have t_c7 := leI c7
        have : (0 : Int32).toInt = 0 := (by decide)
        first | rfl | ((repeat' split) <;> first | rfl | omega)
      refine W.widen (k := 0) (n := 0) (by omega) (by omega) ?_
      exact W.iret (v := 0) hx hb hr (fun t ht hW => ⟨⟨0, (), rfl, ⟨hpost, trivial⟩, trivial⟩, hS.F ht⟩) hS.2.2 dX10_eye_64
    · skip
      exact absurd c7 (by decide)
  · skip
    have b8 := if10_n c3
    refine lv_iconst (v := (-1)) hx hb dX10_eye_7 (by decide) ?_
    have hpost : ((-1) : Int32) = if 0 ≤ q.toInt ∧ q.toInt ≤ 9 then 0 else -1 := by
      have t_b8 := b8
      first | rfl | ((repeat' split) <;> first | rfl | omega)
    refine W.widen (k := 0) (n := 0) (by omega) (by omega) ?_
    exact W.iret (v := (-1)) hx hb hr (fun t ht hW => ⟨⟨(-1), (), rfl, ⟨hpost, trivial⟩, trivial⟩, hS.F ht⟩) hS.2.2 dX10_eye_8

set_option maxHeartbeats 4000000 in
set_option maxRecDepth 100000 in
theorem c_X10_sure (l : Launch) (dC : Nat → ClassId) (dI : Nat → Nat → Nat) (G : Nat → ClassId) (sz : Nat) (h0 rd wy tr im kp od ch cr le mk tl sh ti to a1 a2 a3 a4 a5 a6 : Nat) (what : Int32) (ri ro : Nat → Nat)  : Met l yX10_sure (Cond.code yX10_sure cX10_sure 5 (some .int) :: GT) ({ frames := 1, cells := 0, slots := 0, locals := 23 } : Room) (PcW [.ref h0, .int what] dC dI G [(h0, .inr (10, [.ref rd, .ref wy, .ref tr, .ref im, .ref kp, .ref od, .ref ch, .ref cr, .ref le, .ref mk, .ref tl, .ref sh, .int 0, .int 0])), (tl, .inr (8, [.int 0, .ref ti, .ref to])), (ti, .inl (G 4, 11, .inr (.inr (.inr (.inr (fun i => if i < 11 then some (ri i) else none)))))), ((ri 0), .inl (G 0, 10, .inl (fun _ => 0))), (to, .inl (G 4, 11, .inr (.inr (.inr (.inr (fun i => if i < 11 then some (ro i) else none)))))), ((ro 0), .inl (G 0, 10, .inl (fun _ => 0))), (wy, .inr (9, [.int 0, .int 0, .int 5, .ref a1, .ref a2, .ref a3, .ref a4, .ref a5, .ref a6]))] sz) (va_Qi (fun (r : Int32) (u : Unit) => match u with | _ => (r = if 0 ≤ what.toInt ∧ what.toInt ≤ 1 then 0 else -1) ∧ True) (fun _ _ => True) (va_A [(h0, .inr (10, [.ref rd, .ref wy, .ref tr, .ref im, .ref kp, .ref od, .ref ch, .ref cr, .ref le, .ref mk, .ref tl, .ref sh, .int 0, .int 0])), (tl, .inr (8, [.int 0, .ref ti, .ref to])), (ti, .inl (G 4, 11, .inr (.inr (.inr (.inr (fun i => if i < 11 then some (ri i) else none)))))), ((ri 0), .inl (G 0, 10, .inl (fun _ => 0))), (to, .inl (G 4, 11, .inr (.inr (.inr (.inr (fun i => if i < 11 then some (ro i) else none)))))), ((ro 0), .inl (G 0, 10, .inl (fun _ => 0))), (wy, .inr (9, [.int 0, .int 0, .int 5, .ref a1, .ref a2, .ref a3, .ref a4, .ref a5, .ref a6]))] sz)) 0 0 (va_A [(h0, .inr (10, [.ref rd, .ref wy, .ref tr, .ref im, .ref kp, .ref od, .ref ch, .ref cr, .ref le, .ref mk, .ref tl, .ref sh, .int 0, .int 0])), (tl, .inr (8, [.int 0, .ref ti, .ref to])), (ti, .inl (G 4, 11, .inr (.inr (.inr (.inr (fun i => if i < 11 then some (ri i) else none)))))), ((ri 0), .inl (G 0, 10, .inl (fun _ => 0))), (to, .inl (G 4, 11, .inr (.inr (.inr (.inr (fun i => if i < 11 then some (ro i) else none)))))), ((ro 0), .inl (G 0, 10, .inl (fun _ => 0))), (wy, .inr (9, [.int 0, .int 0, .int 5, .ref a1, .ref a2, .ref a3, .ref a4, .ref a5, .ref a6]))] sz) := by
  refine Met.ofW (cc := cX10_sure) (maxL := 5) (ret := (some .int)) (by decide) rfl ?_
  intro p e s m args below meth c s₁ B hml hv
  obtain ⟨rfl, hsz, hP, hK, hD0⟩ := hv
  have hx := B.exec
  have hb := B.bytes
  have hr := B.returns
  have hg : ∀ w ∈ GT, w.before ([.ref h0, .int what] : List Value).toArray s = true := fun w h => atoms_spec (ws := Cond.code yX10_sure cX10_sure 5 (some .int) :: GT) B.pre w (List.mem_cons_of_mem _ h)
  have hown : s.vm.findClass RX10 = some m.cls := findClass_of_methodNamed B.named
  have hlocks := B.notSynchronized
  subst hsz
  have hD := hD0.self (sz := s.heap.size)
  generalize hAe : va_A [(h0, .inr (10, [.ref rd, .ref wy, .ref tr, .ref im, .ref kp, .ref od, .ref ch, .ref cr, .ref le, .ref mk, .ref tl, .ref sh, .int 0, .int 0])), (tl, .inr (8, [.int 0, .ref ti, .ref to])), (ti, .inl (G 4, 11, .inr (.inr (.inr (.inr (fun i => if i < 11 then some (ri i) else none)))))), ((ri 0), .inl (G 0, 10, .inl (fun _ => 0))), (to, .inl (G 4, 11, .inr (.inr (.inr (.inr (fun i => if i < 11 then some (ro i) else none)))))), ((ro 0), .inl (G 0, 10, .inl (fun _ => 0))), (wy, .inr (9, [.int 0, .int 0, .int 5, .ref a1, .ref a2, .ref a3, .ref a4, .ref a5, .ref a6]))] s.heap.size = A at hD ⊢
  have hA : ∀ q : Nat, s.heap.size ≤ q → A q := fun q h => by rw [← hAe]; exact Or.inr h
  have hS : va_S A s.heap s.heap [] := va_S.rf
  have hl := lv_entry ([.ref h0, .int what]) (n := 5) (Nat.le_of_ble_eq_true rfl)
  rw [lg_entry_eq]
  generalize (lg_sl ([.ref h0, .int what]) ++ List.replicate (5 - (lg_sl ([.ref h0, .int what])).length) Slot.unset).toArray = ls at hl ⊢
  have hl : lv_has ls 5 [(0, .ref h0), (1, .int what)] := hl
  refine lv_iload_n hx hb dX10_sure_0 rfl (lv_at hl 1 rfl) ?_
  have hPc := hP.sub (ws' := []) [] rfl
  refine va_calli (va_runS (As := [.int what]) (rest := []) ⟨hx, hb, hml, hown, hg⟩ (c_X10_isFractionPart l dC dI G _ what ) (kwS hg mfX10_isFractionPart wt_604 ⟨Nat.le_of_ble_eq_true rfl, Nat.le_of_ble_eq_true rfl⟩) (preSR hK hPc) rfl rfl hl.1 rfl (lv_room (Nat.le_of_ble_eq_true rfl)) dX10_sure_1 ⟨Nat.le_of_ble_eq_true rfl, Nat.le_of_ble_eq_true rfl⟩) hS (fun q h1 h2 => absurd h2 (Nat.not_le.mpr h1)) (fun q h => hA q (Nat.le_trans hS.1 h)) (fun r1 ur1 t H1 locs ht hvm w2 hB hz1 hk1 hS => ?_)
  have hP := keepR hP hk1
  obtain ⟨w2, w2x⟩ := w2
  try simp only [l_ii, show (0 : Int32).toInt = 0 from by decide, show (1 : Int32).toInt = 1 from by decide] at w2
  subst w2
  refine lv_if_ne (tgt := 9) hx hb dX10_sure_4 (by decide) (fun c3 => ?_) (fun c3 => ?_)
  · skip
    have b4 := if10_p c3
    refine lv_aload_n hx hb dX10_sure_9 rfl (lv_at hl 0 rfl) ?_
    refine va_get (D := (dC, dI)) (ci := 10) (v := .ref tl) (C := RX10) (T := TX10) (N := 14) hx hb hg inG10 hown hK.1 hP 0 rfl rfl 10 (by decide) (hg _ wt_312) (fun _ h9 => h9) rfl dX10_sure_10 ?_
    refine lv_aload_n hx hb dX10_sure_13 rfl (lv_at hl 0 rfl) ?_
    refine va_get (D := (dC, dI)) (ci := 10) (v := .ref wy) (C := RX10) (T := TX10) (N := 14) hx hb hg inG10 hown hK.1 hP 0 rfl rfl 1 (by decide) (hg _ wt_303) (fun _ h9 => h9) rfl dX10_sure_14 ?_
    refine lv_aload_n hx hb dX10_sure_17 rfl (lv_at hl 0 rfl) ?_
    refine va_get (D := (dC, dI)) (ci := 10) (v := .ref mk) (C := RX10) (T := TX10) (N := 14) hx hb hg inG10 hown hK.1 hP 0 rfl rfl 9 (by decide) (hg _ wt_311) (fun _ h9 => h9) rfl dX10_sure_18 ?_
    have hPc := hP.sub (ws' := [(tl, .inr (8, [.int 0, .ref ti, .ref to])), (ti, .inl (G 4, 11, .inr (.inr (.inr (.inr (fun i => if i < 11 then some (ri i) else none)))))), ((ri 0), .inl (G 0, 10, .inl (fun _ => 0))), (to, .inl (G 4, 11, .inr (.inr (.inr (.inr (fun i => if i < 11 then some (ro i) else none)))))), ((ro 0), .inl (G 0, 10, .inl (fun _ => 0))), (wy, .inr (9, [.int 0, .int 0, .int 5, .ref a1, .ref a2, .ref a3, .ref a4, .ref a5, .ref a6]))]) [1, 2, 3, 4, 5, 6] rfl
    have hDc := hD.sub (ws' := [(tl, .inr (8, [.int 0, .ref ti, .ref to])), (ti, .inl (G 4, 11, .inr (.inr (.inr (.inr (fun i => if i < 11 then some (ri i) else none)))))), ((ri 0), .inl (G 0, 10, .inl (fun _ => 0))), (to, .inl (G 4, 11, .inr (.inr (.inr (.inr (fun i => if i < 11 then some (ro i) else none)))))), ((ro 0), .inl (G 0, 10, .inl (fun _ => 0))), (wy, .inr (9, [.int 0, .int 0, .int 5, .ref a1, .ref a2, .ref a3, .ref a4, .ref a5, .ref a6]))]) [1, 2, 3, 4, 5, 6] (by decide) rfl
    have hFc := va_free (wc := [(tl, .inr (8, [.int 0, .ref ti, .ref to])), (ti, .inl (G 4, 11, .inr (.inr (.inr (.inr (fun i => if i < 11 then some (ri i) else none)))))), ((ri 0), .inl (G 0, 10, .inl (fun _ => 0))), (to, .inl (G 4, 11, .inr (.inr (.inr (.inr (fun i => if i < 11 then some (ro i) else none)))))), ((ro 0), .inl (G 0, 10, .inl (fun _ => 0))), (wy, .inr (9, [.int 0, .int 0, .int 5, .ref a1, .ref a2, .ref a3, .ref a4, .ref a5, .ref a6]))]) hD hS hA [1, 2, 3, 4, 5, 6] rfl
    refine va_callv (va_runVN (As := [.ref wy, .ref mk]) (rest := []) ⟨hx, hb, hml, hown, hg⟩ (c_X8_explore l dC dI G _ tl ti to wy mk a1 a2 a3 a4 a5 a6 ri ro 0 (fun _ => 0) (fun _ => 0) ) (kwVN hg hK mfX8_explore wn_767 ⟨Nat.le_of_ble_eq_true rfl, Nat.le_of_ble_eq_true rfl⟩) (preVW hK hPc hDc (ci := 8) rfl rfl) rfl rfl hl.1 rfl (lv_room (Nat.le_of_ble_eq_true rfl)) dX10_sure_21 ⟨Nat.le_of_ble_eq_true rfl, Nat.le_of_ble_eq_true rfl⟩) hS (fun q _ h => hFc q h) hFc (fun ur5 t H1 locs ht hvm w6 hB hz1 hk1 hS => ?_)
    obtain ⟨hP1, hD1⟩ := hB
    rw [ht] at hP1
    obtain ⟨hP, hD⟩ := va_join (wr := [(h0, .inr (10, [.ref rd, .ref wy, .ref tr, .ref im, .ref kp, .ref od, .ref ch, .ref cr, .ref le, .ref mk, .ref tl, .ref sh, .int 0, .int 0]))]) (w1 := [(tl, .inr (8, [.int 1, .ref ti, .ref to])), (wy, .inr (9, [.int 0, .int 0, .int 5, .ref a1, .ref a2, .ref a3, .ref a4, .ref a5, .ref a6]))]) hP hD [1, 2, 3, 4, 5, 6] [0] rfl rfl (by decide) (by decide) hk1 hFc hP1 hD1
    generalize H1 = H at hP hS ⊢
    have hP : va_P (dC, dI) vwCl [(h0, .inr (10, [.ref rd, .ref wy, .ref tr, .ref im, .ref kp, .ref od, .ref ch, .ref cr, .ref le, .ref mk, .ref tl, .ref sh, .int 0, .int 0])), (tl, .inr (8, [.int 1, .ref ti, .ref to])), (wy, .inr (9, [.int 0, .int 0, .int 5, .ref a1, .ref a2, .ref a3, .ref a4, .ref a5, .ref a6]))] H := hP
    have hD : va_D A [(h0, .inr (10, [.ref rd, .ref wy, .ref tr, .ref im, .ref kp, .ref od, .ref ch, .ref cr, .ref le, .ref mk, .ref tl, .ref sh, .int 0, .int 0])), (tl, .inr (8, [.int 1, .ref ti, .ref to])), (wy, .inr (9, [.int 0, .int 0, .int 5, .ref a1, .ref a2, .ref a3, .ref a4, .ref a5, .ref a6]))] := hD
    refine lv_aload_n hx hb dX10_sure_24 rfl (lv_at hl 0 rfl) ?_
    refine va_get (D := (dC, dI)) (ci := 10) (v := .ref tl) (C := RX10) (T := TX10) (N := 14) hx hb hg inG10 hown hK.1 hP 0 rfl rfl 10 (by decide) (hg _ wt_312) (fun _ h9 => h9) rfl dX10_sure_25 ?_
    refine va_getN (D := (dC, dI)) (ci := 8) (v := .int 1) (C := RX8) (T := TX8) (N := 3) hx hb hg inG8 hown hK.1 hP 1 rfl rfl 0 (by decide) (hK.nest wn_259) (fun _ h9 => h9) rfl dX10_sure_28 ?_
    refine lv_if_ne (tgt := 37) hx hb dX10_sure_31 (by decide) (fun c7 => ?_) (fun c7 => ?_)
    · skip
      refine lv_iconst (v := 0) hx hb dX10_sure_37 (by decide) ?_
      refine lv_istore_n (lv' := [(2, .int 0), (0, .ref h0), (1, .int what)]) hx hb dX10_sure_38 rfl hl (by decide) rfl (fun ls hl => ?_)
      refine lv_iconst (v := 0) hx hb dX10_sure_39 (by decide) ?_
      refine lv_istore_n (lv' := [(3, .int 0), (2, .int 0), (0, .ref h0), (1, .int what)]) hx hb dX10_sure_40 rfl hl (by decide) rfl (fun ls hl => ?_)
      refine lv_iload_n hx hb dX10_sure_41 rfl (lv_at hl 0 rfl) ?_
      refine lv_aload_n hx hb dX10_sure_42 rfl (lv_at hl 2 rfl) ?_
      refine va_get (D := (dC, dI)) (ci := 10) (v := .ref wy) (C := RX10) (T := TX10) (N := 14) hx hb hg inG10 hown hK.1 hP 0 rfl rfl 1 (by decide) (hg _ wt_303) (fun _ h9 => h9) rfl dX10_sure_43 ?_
      refine va_getN (D := (dC, dI)) (ci := 9) (v := .int 0) (C := RX9) (T := TX9) (N := 9) hx hb hg inG9 hown hK.1 hP 2 rfl rfl 0 (by decide) (hK.nest wn_60) (fun _ h9 => h9) rfl dX10_sure_46 ?_
      refine lv_icmp_ge (tgt := 109) hx hb dX10_sure_49 (by decide) (fun c8 => ?_) (fun c8 => ?_)
      · skip
        refine lv_iload_n hx hb dX10_sure_109 rfl (lv_at hl 1 rfl) ?_
        have hpost : (0 : Int32) = if 0 ≤ what.toInt ∧ what.toInt ≤ 1 then 0 else -1 := by
          have t_b4 := b4
          have t_c7 := neI c7
          have t_c8 := leI c8
          have : (0 : Int32).toInt = 0 := (by decide)
          have : (1 : Int32).toInt = 1 := (by decide)
          first | rfl | ((repeat' split) <;> first | rfl | omega)
        refine W.widen (k := 0) (n := 0) (by omega) (by omega) ?_
        exact W.iret (v := 0) hx hb hr (fun t ht hW => ⟨⟨0, (), rfl, ⟨hpost, trivial⟩, trivial⟩, hS.F ht⟩) hS.2.2 dX10_sure_110
      · skip
        exact absurd c8 (by decide)
    · skip
      exact absurd c7 (by decide)
  · skip
    have b9 := if10_n c3
    refine lv_iconst (v := (-1)) hx hb dX10_sure_7 (by decide) ?_
    have hpost : ((-1) : Int32) = if 0 ≤ what.toInt ∧ what.toInt ≤ 1 then 0 else -1 := by
      have t_b9 := b9
      first | rfl | ((repeat' split) <;> first | rfl | omega)
    refine W.widen (k := 0) (n := 0) (by omega) (by omega) ?_
    exact W.iret (v := (-1)) hx hb hr (fun t ht hW => ⟨⟨(-1), (), rfl, ⟨hpost, trivial⟩, trivial⟩, hS.F ht⟩) hS.2.2 dX10_sure_8

set_option maxHeartbeats 4000000 in
set_option maxRecDepth 100000 in
theorem c_X10_keep (l : Launch) (dC : Nat → ClassId) (dI : Nat → Nat → Nat) (G : Nat → ClassId) (sz : Nat) (h0 rd wy tr im kp od ch cr le mk tl sh i0 i1 a1 a2 a3 a4 a5 a6 e1 e2 e3 e4 e5 e6 f1 f2 f3 f4 f5 f6 : Nat) (k : Int32)   : Met l yX10_keep (Cond.code yX10_keep cX10_keep 3 (some .int) :: GT) ({ frames := 2, cells := 0, slots := 0, locals := 121 } : Room) (PcW [.ref h0, .int k] dC dI G [(h0, .inr (10, [.ref rd, .ref wy, .ref tr, .ref im, .ref kp, .ref od, .ref ch, .ref cr, .ref le, .ref mk, .ref tl, .ref sh, .int 0, .int 0])), (wy, .inr (9, [.int 0, .int 0, .int 5, .ref a1, .ref a2, .ref a3, .ref a4, .ref a5, .ref a6])), (a1, .inl (G 0, 10, .inl (fun _ => 0))), (a2, .inl (G 0, 10, .inl (fun _ => 0))), (a3, .inl (G 0, 10, .inl (fun _ => 0))), (a4, .inl (G 0, 6, .inl (fun _ => 0))), (a5, .inl (G 0, 6, .inl (fun _ => 0))), (a6, .inl (G 0, 6, .inl (fun _ => 0))), (im, .inl (G 3, 2, .inr (.inr (.inr (.inr (va_up (va_up (fun _ => none) 0 (some i0)) 1 (some i1))))))), (kp, .inl (G 2, 2, .inl (fun _ => 0))), (i0, .inr (9, [.int 0, .int 0, .int 5, .ref e1, .ref e2, .ref e3, .ref e4, .ref e5, .ref e6])), (e1, .inl (G 0, 10, .inl (fun _ => 0))), (e2, .inl (G 0, 10, .inl (fun _ => 0))), (e3, .inl (G 0, 10, .inl (fun _ => 0))), (e4, .inl (G 0, 6, .inl (fun _ => 0))), (e5, .inl (G 0, 6, .inl (fun _ => 0))), (e6, .inl (G 0, 6, .inl (fun _ => 0))), (i1, .inr (9, [.int 0, .int 0, .int 5, .ref f1, .ref f2, .ref f3, .ref f4, .ref f5, .ref f6])), (f1, .inl (G 0, 10, .inl (fun _ => 0))), (f2, .inl (G 0, 10, .inl (fun _ => 0))), (f3, .inl (G 0, 10, .inl (fun _ => 0))), (f4, .inl (G 0, 6, .inl (fun _ => 0))), (f5, .inl (G 0, 6, .inl (fun _ => 0))), (f6, .inl (G 0, 6, .inl (fun _ => 0)))] sz) (va_Qi (fun (r : Int32) (u : Unit) => match u with | _ => (r = if 0 ≤ k.toInt ∧ k.toInt < 2 then 0 else -1) ∧ True) (fun _ _ => True) (va_A [(h0, .inr (10, [.ref rd, .ref wy, .ref tr, .ref im, .ref kp, .ref od, .ref ch, .ref cr, .ref le, .ref mk, .ref tl, .ref sh, .int 0, .int 0])), (wy, .inr (9, [.int 0, .int 0, .int 5, .ref a1, .ref a2, .ref a3, .ref a4, .ref a5, .ref a6])), (a1, .inl (G 0, 10, .inl (fun _ => 0))), (a2, .inl (G 0, 10, .inl (fun _ => 0))), (a3, .inl (G 0, 10, .inl (fun _ => 0))), (a4, .inl (G 0, 6, .inl (fun _ => 0))), (a5, .inl (G 0, 6, .inl (fun _ => 0))), (a6, .inl (G 0, 6, .inl (fun _ => 0))), (im, .inl (G 3, 2, .inr (.inr (.inr (.inr (va_up (va_up (fun _ => none) 0 (some i0)) 1 (some i1))))))), (kp, .inl (G 2, 2, .inl (fun _ => 0))), (i0, .inr (9, [.int 0, .int 0, .int 5, .ref e1, .ref e2, .ref e3, .ref e4, .ref e5, .ref e6])), (e1, .inl (G 0, 10, .inl (fun _ => 0))), (e2, .inl (G 0, 10, .inl (fun _ => 0))), (e3, .inl (G 0, 10, .inl (fun _ => 0))), (e4, .inl (G 0, 6, .inl (fun _ => 0))), (e5, .inl (G 0, 6, .inl (fun _ => 0))), (e6, .inl (G 0, 6, .inl (fun _ => 0))), (i1, .inr (9, [.int 0, .int 0, .int 5, .ref f1, .ref f2, .ref f3, .ref f4, .ref f5, .ref f6])), (f1, .inl (G 0, 10, .inl (fun _ => 0))), (f2, .inl (G 0, 10, .inl (fun _ => 0))), (f3, .inl (G 0, 10, .inl (fun _ => 0))), (f4, .inl (G 0, 6, .inl (fun _ => 0))), (f5, .inl (G 0, 6, .inl (fun _ => 0))), (f6, .inl (G 0, 6, .inl (fun _ => 0)))] sz)) 0 0 (va_A [(h0, .inr (10, [.ref rd, .ref wy, .ref tr, .ref im, .ref kp, .ref od, .ref ch, .ref cr, .ref le, .ref mk, .ref tl, .ref sh, .int 0, .int 0])), (wy, .inr (9, [.int 0, .int 0, .int 5, .ref a1, .ref a2, .ref a3, .ref a4, .ref a5, .ref a6])), (a1, .inl (G 0, 10, .inl (fun _ => 0))), (a2, .inl (G 0, 10, .inl (fun _ => 0))), (a3, .inl (G 0, 10, .inl (fun _ => 0))), (a4, .inl (G 0, 6, .inl (fun _ => 0))), (a5, .inl (G 0, 6, .inl (fun _ => 0))), (a6, .inl (G 0, 6, .inl (fun _ => 0))), (im, .inl (G 3, 2, .inr (.inr (.inr (.inr (va_up (va_up (fun _ => none) 0 (some i0)) 1 (some i1))))))), (kp, .inl (G 2, 2, .inl (fun _ => 0))), (i0, .inr (9, [.int 0, .int 0, .int 5, .ref e1, .ref e2, .ref e3, .ref e4, .ref e5, .ref e6])), (e1, .inl (G 0, 10, .inl (fun _ => 0))), (e2, .inl (G 0, 10, .inl (fun _ => 0))), (e3, .inl (G 0, 10, .inl (fun _ => 0))), (e4, .inl (G 0, 6, .inl (fun _ => 0))), (e5, .inl (G 0, 6, .inl (fun _ => 0))), (e6, .inl (G 0, 6, .inl (fun _ => 0))), (i1, .inr (9, [.int 0, .int 0, .int 5, .ref f1, .ref f2, .ref f3, .ref f4, .ref f5, .ref f6])), (f1, .inl (G 0, 10, .inl (fun _ => 0))), (f2, .inl (G 0, 10, .inl (fun _ => 0))), (f3, .inl (G 0, 10, .inl (fun _ => 0))), (f4, .inl (G 0, 6, .inl (fun _ => 0))), (f5, .inl (G 0, 6, .inl (fun _ => 0))), (f6, .inl (G 0, 6, .inl (fun _ => 0)))] sz) := by
  refine Met.ofW (cc := cX10_keep) (maxL := 3) (ret := (some .int)) (by decide) rfl ?_
  intro p e s m args below meth c s₁ B hml hv
  obtain ⟨rfl, hsz, hP, hK, hD0⟩ := hv
  have hx := B.exec
  have hb := B.bytes
  have hr := B.returns
  have hg : ∀ w ∈ GT, w.before ([.ref h0, .int k] : List Value).toArray s = true := fun w h => atoms_spec (ws := Cond.code yX10_keep cX10_keep 3 (some .int) :: GT) B.pre w (List.mem_cons_of_mem _ h)
  have hown : s.vm.findClass RX10 = some m.cls := findClass_of_methodNamed B.named
  have hlocks := B.notSynchronized
  subst hsz
  have hD := hD0.self (sz := s.heap.size)
  generalize hAe : va_A [(h0, .inr (10, [.ref rd, .ref wy, .ref tr, .ref im, .ref kp, .ref od, .ref ch, .ref cr, .ref le, .ref mk, .ref tl, .ref sh, .int 0, .int 0])), (wy, .inr (9, [.int 0, .int 0, .int 5, .ref a1, .ref a2, .ref a3, .ref a4, .ref a5, .ref a6])), (a1, .inl (G 0, 10, .inl (fun _ => 0))), (a2, .inl (G 0, 10, .inl (fun _ => 0))), (a3, .inl (G 0, 10, .inl (fun _ => 0))), (a4, .inl (G 0, 6, .inl (fun _ => 0))), (a5, .inl (G 0, 6, .inl (fun _ => 0))), (a6, .inl (G 0, 6, .inl (fun _ => 0))), (im, .inl (G 3, 2, .inr (.inr (.inr (.inr (va_up (va_up (fun _ => none) 0 (some i0)) 1 (some i1))))))), (kp, .inl (G 2, 2, .inl (fun _ => 0))), (i0, .inr (9, [.int 0, .int 0, .int 5, .ref e1, .ref e2, .ref e3, .ref e4, .ref e5, .ref e6])), (e1, .inl (G 0, 10, .inl (fun _ => 0))), (e2, .inl (G 0, 10, .inl (fun _ => 0))), (e3, .inl (G 0, 10, .inl (fun _ => 0))), (e4, .inl (G 0, 6, .inl (fun _ => 0))), (e5, .inl (G 0, 6, .inl (fun _ => 0))), (e6, .inl (G 0, 6, .inl (fun _ => 0))), (i1, .inr (9, [.int 0, .int 0, .int 5, .ref f1, .ref f2, .ref f3, .ref f4, .ref f5, .ref f6])), (f1, .inl (G 0, 10, .inl (fun _ => 0))), (f2, .inl (G 0, 10, .inl (fun _ => 0))), (f3, .inl (G 0, 10, .inl (fun _ => 0))), (f4, .inl (G 0, 6, .inl (fun _ => 0))), (f5, .inl (G 0, 6, .inl (fun _ => 0))), (f6, .inl (G 0, 6, .inl (fun _ => 0)))] s.heap.size = A at hD ⊢
  have hA : ∀ q : Nat, s.heap.size ≤ q → A q := fun q h => by rw [← hAe]; exact Or.inr h
  have hS : va_S A s.heap s.heap [] := va_S.rf
  have hl := lv_entry ([.ref h0, .int k]) (n := 3) (Nat.le_of_ble_eq_true rfl)
  rw [lg_entry_eq]
  generalize (lg_sl ([.ref h0, .int k]) ++ List.replicate (3 - (lg_sl ([.ref h0, .int k])).length) Slot.unset).toArray = ls at hl ⊢
  have hl : lv_has ls 3 [(0, .ref h0), (1, .int k)] := hl
  refine lv_iload_n hx hb dX10_keep_0 rfl (lv_at hl 1 rfl) ?_
  have hPc := hP.sub (ws' := []) [] rfl
  refine va_calli (va_runS (As := [.int k]) (rest := []) ⟨hx, hb, hml, hown, hg⟩ (c_X10_isImage l dC dI G _ k ) (kwS hg mfX10_isImage wt_812 ⟨Nat.le_of_ble_eq_true rfl, Nat.le_of_ble_eq_true rfl⟩) (preSR hK hPc) rfl rfl hl.1 rfl (lv_room (Nat.le_of_ble_eq_true rfl)) dX10_keep_1 ⟨Nat.le_of_ble_eq_true rfl, Nat.le_of_ble_eq_true rfl⟩) hS (fun q h1 h2 => absurd h2 (Nat.not_le.mpr h1)) (fun q h => hA q (Nat.le_trans hS.1 h)) (fun r1 ur1 t H1 locs ht hvm w2 hB hz1 hk1 hS => ?_)
  have hP := keepR hP hk1
  obtain ⟨w2, w2x⟩ := w2
  try simp only [l_ii, show (0 : Int32).toInt = 0 from by decide, show (2 : Int32).toInt = 2 from by decide] at w2
  subst w2
  refine lv_if_ne (tgt := 9) hx hb dX10_keep_4 (by decide) (fun c3 => ?_) (fun c3 => ?_)
  · skip
    have b4 := if10_p c3
    have hsp : k = 0 ∨ k = 1 := by
      have t_b4 := b4
      have : (0 : Int32).toInt = 0 := by decide
      have : (1 : Int32).toInt = 1 := by decide
      rcases (show k.toInt = 0 ∨ k.toInt = 1 by omega) with q | q
      · exact Or.inl (Int32.toInt_inj.mp (by rw [q]; rfl))
      · exact Or.inr ((Int32.toInt_inj.mp (by rw [q]; rfl)))
    rcases hsp with rfl | rfl
    · skip
      refine lv_aload_n hx hb dX10_keep_9 rfl (lv_at hl 0 rfl) ?_
      refine va_get (D := (dC, dI)) (ci := 10) (v := .ref kp) (C := RX10) (T := TX10) (N := 14) hx hb hg inG10 hown hK.1 hP 0 rfl rfl 4 (by decide) (hg _ wt_306) (fun _ h9 => h9) rfl dX10_keep_10 ?_
      refine lv_iload_n hx hb dX10_keep_13 rfl (lv_at hl 1 rfl) ?_
      refine va_zald hx hb hK.1 hP 9 2 rfl rfl (vp_in_iff.mpr ⟨by decide, by decide⟩) dX10_keep_14 ?_
      refine lv_cg (y := 0) (by rfl) ?_
      refine lv_if_eq (tgt := 22) hx hb dX10_keep_15 (by decide) (fun c5 => ?_) (fun c5 => ?_)
      · skip
        refine lv_iconst (v := 0) hx hb dX10_keep_22 (by decide) ?_
        refine lv_istore_n (lv' := [(2, .int 0), (0, .ref h0), (1, .int 0)]) hx hb dX10_keep_23 rfl hl (by decide) rfl (fun ls hl => ?_)
        refine lv_aload_n hx hb dX10_keep_24 rfl (lv_at hl 1 rfl) ?_
        refine va_get (D := (dC, dI)) (ci := 10) (v := .ref im) (C := RX10) (T := TX10) (N := 14) hx hb hg inG10 hown hK.1 hP 0 rfl rfl 3 (by decide) (hg _ wt_305) (fun _ h9 => h9) rfl dX10_keep_25 ?_
        refine lv_iload_n hx hb dX10_keep_28 rfl (lv_at hl 2 rfl) ?_
        refine va_aldq hx hb hK.1 hP 8 3 rfl rfl (vp_in_iff.mpr ⟨by decide, by decide⟩) dX10_keep_29 ?_
        refine lv_cgv (y := .ref i0) (by rfl) ?_
        refine lv_aload_n hx hb dX10_keep_30 rfl (lv_at hl 1 rfl) ?_
        refine va_get (D := (dC, dI)) (ci := 10) (v := .ref wy) (C := RX10) (T := TX10) (N := 14) hx hb hg inG10 hown hK.1 hP 0 rfl rfl 1 (by decide) (hg _ wt_303) (fun _ h9 => h9) rfl dX10_keep_31 ?_
        have hPc := hP.sub (ws' := [(i0, .inr (9, [.int 0, .int 0, .int 5, .ref e1, .ref e2, .ref e3, .ref e4, .ref e5, .ref e6])), (e1, .inl (G 0, 10, .inl (fun _ => 0))), (e2, .inl (G 0, 10, .inl (fun _ => 0))), (e3, .inl (G 0, 10, .inl (fun _ => 0))), (e4, .inl (G 0, 6, .inl (fun _ => 0))), (e5, .inl (G 0, 6, .inl (fun _ => 0))), (e6, .inl (G 0, 6, .inl (fun _ => 0))), (wy, .inr (9, [.int 0, .int 0, .int 5, .ref a1, .ref a2, .ref a3, .ref a4, .ref a5, .ref a6])), (a1, .inl (G 0, 10, .inl (fun _ => 0))), (a2, .inl (G 0, 10, .inl (fun _ => 0))), (a3, .inl (G 0, 10, .inl (fun _ => 0))), (a4, .inl (G 0, 6, .inl (fun _ => 0))), (a5, .inl (G 0, 6, .inl (fun _ => 0))), (a6, .inl (G 0, 6, .inl (fun _ => 0)))]) [10, 11, 12, 13, 14, 15, 16, 1, 2, 3, 4, 5, 6, 7] rfl
        have hDc := hD.sub (ws' := [(i0, .inr (9, [.int 0, .int 0, .int 5, .ref e1, .ref e2, .ref e3, .ref e4, .ref e5, .ref e6])), (e1, .inl (G 0, 10, .inl (fun _ => 0))), (e2, .inl (G 0, 10, .inl (fun _ => 0))), (e3, .inl (G 0, 10, .inl (fun _ => 0))), (e4, .inl (G 0, 6, .inl (fun _ => 0))), (e5, .inl (G 0, 6, .inl (fun _ => 0))), (e6, .inl (G 0, 6, .inl (fun _ => 0))), (wy, .inr (9, [.int 0, .int 0, .int 5, .ref a1, .ref a2, .ref a3, .ref a4, .ref a5, .ref a6])), (a1, .inl (G 0, 10, .inl (fun _ => 0))), (a2, .inl (G 0, 10, .inl (fun _ => 0))), (a3, .inl (G 0, 10, .inl (fun _ => 0))), (a4, .inl (G 0, 6, .inl (fun _ => 0))), (a5, .inl (G 0, 6, .inl (fun _ => 0))), (a6, .inl (G 0, 6, .inl (fun _ => 0)))]) [10, 11, 12, 13, 14, 15, 16, 1, 2, 3, 4, 5, 6, 7] (by decide) rfl
        have hFc := va_free (wc := [(i0, .inr (9, [.int 0, .int 0, .int 5, .ref e1, .ref e2, .ref e3, .ref e4, .ref e5, .ref e6])), (e1, .inl (G 0, 10, .inl (fun _ => 0))), (e2, .inl (G 0, 10, .inl (fun _ => 0))), (e3, .inl (G 0, 10, .inl (fun _ => 0))), (e4, .inl (G 0, 6, .inl (fun _ => 0))), (e5, .inl (G 0, 6, .inl (fun _ => 0))), (e6, .inl (G 0, 6, .inl (fun _ => 0))), (wy, .inr (9, [.int 0, .int 0, .int 5, .ref a1, .ref a2, .ref a3, .ref a4, .ref a5, .ref a6])), (a1, .inl (G 0, 10, .inl (fun _ => 0))), (a2, .inl (G 0, 10, .inl (fun _ => 0))), (a3, .inl (G 0, 10, .inl (fun _ => 0))), (a4, .inl (G 0, 6, .inl (fun _ => 0))), (a5, .inl (G 0, 6, .inl (fun _ => 0))), (a6, .inl (G 0, 6, .inl (fun _ => 0)))]) hD hS hA [10, 11, 12, 13, 14, 15, 16, 1, 2, 3, 4, 5, 6, 7] rfl
        refine va_callv (va_runVN (As := [.ref wy]) (rest := []) ⟨hx, hb, hml, hown, hg⟩ (c_X9_copyOf l dC dI G _ i0 wy e1 e2 e3 e4 e5 e6 a1 a2 a3 a4 a5 a6 0 0 5 0 0 5 (fun _ => 0) (fun _ => 0) (fun _ => 0) (fun _ => 0) (fun _ => 0) (fun _ => 0) (fun _ => 0) (fun _ => 0) (fun _ => 0) (fun _ => 0) (fun _ => 0) (fun _ => 0) ) (kwVN hg hK mfX9_copyOf wn_507 ⟨Nat.le_of_ble_eq_true rfl, Nat.le_of_ble_eq_true rfl⟩) (preVW hK hPc hDc (ci := 9) rfl rfl) rfl rfl hl.1 rfl (lv_room (Nat.le_of_ble_eq_true rfl)) dX10_keep_34 ⟨Nat.le_of_ble_eq_true rfl, Nat.le_of_ble_eq_true rfl⟩) hS (fun q _ h => hFc q h) hFc (fun ur6 t H1 locs ht hvm w7 hB hz1 hk1 hS => ?_)
        obtain ⟨hP1, hD1⟩ := hB
        rw [ht] at hP1
        obtain ⟨hP, hD⟩ := va_join (wr := [(h0, .inr (10, [.ref rd, .ref wy, .ref tr, .ref im, .ref kp, .ref od, .ref ch, .ref cr, .ref le, .ref mk, .ref tl, .ref sh, .int 0, .int 0])), (im, .inl (G 3, 2, .inr (.inr (.inr (.inr (va_up (va_up (fun _ => none) 0 (some i0)) 1 (some i1))))))), (kp, .inl (G 2, 2, .inl (fun _ => 0))), (i1, .inr (9, [.int 0, .int 0, .int 5, .ref f1, .ref f2, .ref f3, .ref f4, .ref f5, .ref f6])), (f1, .inl (G 0, 10, .inl (fun _ => 0))), (f2, .inl (G 0, 10, .inl (fun _ => 0))), (f3, .inl (G 0, 10, .inl (fun _ => 0))), (f4, .inl (G 0, 6, .inl (fun _ => 0))), (f5, .inl (G 0, 6, .inl (fun _ => 0))), (f6, .inl (G 0, 6, .inl (fun _ => 0)))]) (w1 := [(wy, .inr (9, [.int 0, .int 0, .int 5, .ref a1, .ref a2, .ref a3, .ref a4, .ref a5, .ref a6]))]) hP hD [10, 11, 12, 13, 14, 15, 16, 1, 2, 3, 4, 5, 6, 7] [0, 8, 9, 17, 18, 19, 20, 21, 22, 23] rfl rfl (by decide) (by decide) hk1 hFc hP1 hD1
        generalize H1 = H at hP hS ⊢
        have hP : va_P (dC, dI) vwCl [(h0, .inr (10, [.ref rd, .ref wy, .ref tr, .ref im, .ref kp, .ref od, .ref ch, .ref cr, .ref le, .ref mk, .ref tl, .ref sh, .int 0, .int 0])), (im, .inl (G 3, 2, .inr (.inr (.inr (.inr (va_up (va_up (fun _ => none) 0 (some i0)) 1 (some i1))))))), (kp, .inl (G 2, 2, .inl (fun _ => 0))), (i1, .inr (9, [.int 0, .int 0, .int 5, .ref f1, .ref f2, .ref f3, .ref f4, .ref f5, .ref f6])), (f1, .inl (G 0, 10, .inl (fun _ => 0))), (f2, .inl (G 0, 10, .inl (fun _ => 0))), (f3, .inl (G 0, 10, .inl (fun _ => 0))), (f4, .inl (G 0, 6, .inl (fun _ => 0))), (f5, .inl (G 0, 6, .inl (fun _ => 0))), (f6, .inl (G 0, 6, .inl (fun _ => 0))), (wy, .inr (9, [.int 0, .int 0, .int 5, .ref a1, .ref a2, .ref a3, .ref a4, .ref a5, .ref a6]))] H := hP
        have hD : va_D A [(h0, .inr (10, [.ref rd, .ref wy, .ref tr, .ref im, .ref kp, .ref od, .ref ch, .ref cr, .ref le, .ref mk, .ref tl, .ref sh, .int 0, .int 0])), (im, .inl (G 3, 2, .inr (.inr (.inr (.inr (va_up (va_up (fun _ => none) 0 (some i0)) 1 (some i1))))))), (kp, .inl (G 2, 2, .inl (fun _ => 0))), (i1, .inr (9, [.int 0, .int 0, .int 5, .ref f1, .ref f2, .ref f3, .ref f4, .ref f5, .ref f6])), (f1, .inl (G 0, 10, .inl (fun _ => 0))), (f2, .inl (G 0, 10, .inl (fun _ => 0))), (f3, .inl (G 0, 10, .inl (fun _ => 0))), (f4, .inl (G 0, 6, .inl (fun _ => 0))), (f5, .inl (G 0, 6, .inl (fun _ => 0))), (f6, .inl (G 0, 6, .inl (fun _ => 0))), (wy, .inr (9, [.int 0, .int 0, .int 5, .ref a1, .ref a2, .ref a3, .ref a4, .ref a5, .ref a6]))] := hD
        refine lv_aload_n hx hb dX10_keep_37 rfl (lv_at hl 1 rfl) ?_
        refine va_get (D := (dC, dI)) (ci := 10) (v := .ref kp) (C := RX10) (T := TX10) (N := 14) hx hb hg inG10 hown hK.1 hP 0 rfl rfl 4 (by decide) (hg _ wt_306) (fun _ h9 => h9) rfl dX10_keep_38 ?_
        refine lv_iload_n hx hb dX10_keep_41 rfl (lv_at hl 2 rfl) ?_
        refine lv_iconst (v := 1) hx hb dX10_keep_42 (by decide) ?_
        refine va_zast hx hb hK.1 hP hD hS 2 2 rfl rfl (vp_in_iff.mpr ⟨by decide, by decide⟩) dX10_keep_43 (fun H locs hP hD hS => ?_)
        have hP : va_P (dC, dI) vwCl [(h0, .inr (10, [.ref rd, .ref wy, .ref tr, .ref im, .ref kp, .ref od, .ref ch, .ref cr, .ref le, .ref mk, .ref tl, .ref sh, .int 0, .int 0])), (im, .inl (G 3, 2, .inr (.inr (.inr (.inr (va_up (va_up (fun _ => none) 0 (some i0)) 1 (some i1))))))), (kp, .inl (G 2, 2, .inl (upd (fun _ => 0) 0 1))), (i1, .inr (9, [.int 0, .int 0, .int 5, .ref f1, .ref f2, .ref f3, .ref f4, .ref f5, .ref f6])), (f1, .inl (G 0, 10, .inl (fun _ => 0))), (f2, .inl (G 0, 10, .inl (fun _ => 0))), (f3, .inl (G 0, 10, .inl (fun _ => 0))), (f4, .inl (G 0, 6, .inl (fun _ => 0))), (f5, .inl (G 0, 6, .inl (fun _ => 0))), (f6, .inl (G 0, 6, .inl (fun _ => 0))), (wy, .inr (9, [.int 0, .int 0, .int 5, .ref a1, .ref a2, .ref a3, .ref a4, .ref a5, .ref a6]))] H := hP
        have hD : va_D A [(h0, .inr (10, [.ref rd, .ref wy, .ref tr, .ref im, .ref kp, .ref od, .ref ch, .ref cr, .ref le, .ref mk, .ref tl, .ref sh, .int 0, .int 0])), (im, .inl (G 3, 2, .inr (.inr (.inr (.inr (va_up (va_up (fun _ => none) 0 (some i0)) 1 (some i1))))))), (kp, .inl (G 2, 2, .inl (upd (fun _ => 0) 0 1))), (i1, .inr (9, [.int 0, .int 0, .int 5, .ref f1, .ref f2, .ref f3, .ref f4, .ref f5, .ref f6])), (f1, .inl (G 0, 10, .inl (fun _ => 0))), (f2, .inl (G 0, 10, .inl (fun _ => 0))), (f3, .inl (G 0, 10, .inl (fun _ => 0))), (f4, .inl (G 0, 6, .inl (fun _ => 0))), (f5, .inl (G 0, 6, .inl (fun _ => 0))), (f6, .inl (G 0, 6, .inl (fun _ => 0))), (wy, .inr (9, [.int 0, .int 0, .int 5, .ref a1, .ref a2, .ref a3, .ref a4, .ref a5, .ref a6]))] := hD
        refine lv_iload_n hx hb dX10_keep_44 rfl (lv_at hl 0 rfl) ?_
        have hpost : (0 : Int32) = if 0 ≤ (0 : Int32).toInt ∧ (0 : Int32).toInt < 2 then 0 else -1 := by
          have t_c5 := eqI c5
          have : (0 : Int32).toInt = 0 := (by decide)
          first | rfl | ((repeat' split) <;> first | rfl | omega)
        refine W.widen (k := 0) (n := 0) (by omega) (by omega) ?_
        exact W.iret (v := 0) hx hb hr (fun t ht hW => ⟨⟨0, (), rfl, ⟨hpost, trivial⟩, trivial⟩, hS.F ht⟩) hS.2.2 dX10_keep_45
      · skip
        exact absurd c5 (by decide)
    · skip
      refine lv_aload_n hx hb dX10_keep_9 rfl (lv_at hl 0 rfl) ?_
      refine va_get (D := (dC, dI)) (ci := 10) (v := .ref kp) (C := RX10) (T := TX10) (N := 14) hx hb hg inG10 hown hK.1 hP 0 rfl rfl 4 (by decide) (hg _ wt_306) (fun _ h9 => h9) rfl dX10_keep_10 ?_
      refine lv_iload_n hx hb dX10_keep_13 rfl (lv_at hl 1 rfl) ?_
      refine va_zald hx hb hK.1 hP 9 2 rfl rfl (vp_in_iff.mpr ⟨by decide, by decide⟩) dX10_keep_14 ?_
      refine lv_cg (y := 0) (by rfl) ?_
      refine lv_if_eq (tgt := 22) hx hb dX10_keep_15 (by decide) (fun c8 => ?_) (fun c8 => ?_)
      · skip
        refine lv_iconst (v := 0) hx hb dX10_keep_22 (by decide) ?_
        refine lv_istore_n (lv' := [(2, .int 0), (0, .ref h0), (1, .int 1)]) hx hb dX10_keep_23 rfl hl (by decide) rfl (fun ls hl => ?_)
        refine lv_aload_n hx hb dX10_keep_24 rfl (lv_at hl 1 rfl) ?_
        refine va_get (D := (dC, dI)) (ci := 10) (v := .ref im) (C := RX10) (T := TX10) (N := 14) hx hb hg inG10 hown hK.1 hP 0 rfl rfl 3 (by decide) (hg _ wt_305) (fun _ h9 => h9) rfl dX10_keep_25 ?_
        refine lv_iload_n hx hb dX10_keep_28 rfl (lv_at hl 2 rfl) ?_
        refine va_aldq hx hb hK.1 hP 8 3 rfl rfl (vp_in_iff.mpr ⟨by decide, by decide⟩) dX10_keep_29 ?_
        refine lv_cgv (y := .ref i1) (by rfl) ?_
        refine lv_aload_n hx hb dX10_keep_30 rfl (lv_at hl 1 rfl) ?_
        refine va_get (D := (dC, dI)) (ci := 10) (v := .ref wy) (C := RX10) (T := TX10) (N := 14) hx hb hg inG10 hown hK.1 hP 0 rfl rfl 1 (by decide) (hg _ wt_303) (fun _ h9 => h9) rfl dX10_keep_31 ?_
        have hPc := hP.sub (ws' := [(i1, .inr (9, [.int 0, .int 0, .int 5, .ref f1, .ref f2, .ref f3, .ref f4, .ref f5, .ref f6])), (f1, .inl (G 0, 10, .inl (fun _ => 0))), (f2, .inl (G 0, 10, .inl (fun _ => 0))), (f3, .inl (G 0, 10, .inl (fun _ => 0))), (f4, .inl (G 0, 6, .inl (fun _ => 0))), (f5, .inl (G 0, 6, .inl (fun _ => 0))), (f6, .inl (G 0, 6, .inl (fun _ => 0))), (wy, .inr (9, [.int 0, .int 0, .int 5, .ref a1, .ref a2, .ref a3, .ref a4, .ref a5, .ref a6])), (a1, .inl (G 0, 10, .inl (fun _ => 0))), (a2, .inl (G 0, 10, .inl (fun _ => 0))), (a3, .inl (G 0, 10, .inl (fun _ => 0))), (a4, .inl (G 0, 6, .inl (fun _ => 0))), (a5, .inl (G 0, 6, .inl (fun _ => 0))), (a6, .inl (G 0, 6, .inl (fun _ => 0)))]) [17, 18, 19, 20, 21, 22, 23, 1, 2, 3, 4, 5, 6, 7] rfl
        have hDc := hD.sub (ws' := [(i1, .inr (9, [.int 0, .int 0, .int 5, .ref f1, .ref f2, .ref f3, .ref f4, .ref f5, .ref f6])), (f1, .inl (G 0, 10, .inl (fun _ => 0))), (f2, .inl (G 0, 10, .inl (fun _ => 0))), (f3, .inl (G 0, 10, .inl (fun _ => 0))), (f4, .inl (G 0, 6, .inl (fun _ => 0))), (f5, .inl (G 0, 6, .inl (fun _ => 0))), (f6, .inl (G 0, 6, .inl (fun _ => 0))), (wy, .inr (9, [.int 0, .int 0, .int 5, .ref a1, .ref a2, .ref a3, .ref a4, .ref a5, .ref a6])), (a1, .inl (G 0, 10, .inl (fun _ => 0))), (a2, .inl (G 0, 10, .inl (fun _ => 0))), (a3, .inl (G 0, 10, .inl (fun _ => 0))), (a4, .inl (G 0, 6, .inl (fun _ => 0))), (a5, .inl (G 0, 6, .inl (fun _ => 0))), (a6, .inl (G 0, 6, .inl (fun _ => 0)))]) [17, 18, 19, 20, 21, 22, 23, 1, 2, 3, 4, 5, 6, 7] (by decide) rfl
        have hFc := va_free (wc := [(i1, .inr (9, [.int 0, .int 0, .int 5, .ref f1, .ref f2, .ref f3, .ref f4, .ref f5, .ref f6])), (f1, .inl (G 0, 10, .inl (fun _ => 0))), (f2, .inl (G 0, 10, .inl (fun _ => 0))), (f3, .inl (G 0, 10, .inl (fun _ => 0))), (f4, .inl (G 0, 6, .inl (fun _ => 0))), (f5, .inl (G 0, 6, .inl (fun _ => 0))), (f6, .inl (G 0, 6, .inl (fun _ => 0))), (wy, .inr (9, [.int 0, .int 0, .int 5, .ref a1, .ref a2, .ref a3, .ref a4, .ref a5, .ref a6])), (a1, .inl (G 0, 10, .inl (fun _ => 0))), (a2, .inl (G 0, 10, .inl (fun _ => 0))), (a3, .inl (G 0, 10, .inl (fun _ => 0))), (a4, .inl (G 0, 6, .inl (fun _ => 0))), (a5, .inl (G 0, 6, .inl (fun _ => 0))), (a6, .inl (G 0, 6, .inl (fun _ => 0)))]) hD hS hA [17, 18, 19, 20, 21, 22, 23, 1, 2, 3, 4, 5, 6, 7] rfl
        refine va_callv (va_runVN (As := [.ref wy]) (rest := []) ⟨hx, hb, hml, hown, hg⟩ (c_X9_copyOf l dC dI G _ i1 wy f1 f2 f3 f4 f5 f6 a1 a2 a3 a4 a5 a6 0 0 5 0 0 5 (fun _ => 0) (fun _ => 0) (fun _ => 0) (fun _ => 0) (fun _ => 0) (fun _ => 0) (fun _ => 0) (fun _ => 0) (fun _ => 0) (fun _ => 0) (fun _ => 0) (fun _ => 0) ) (kwVN hg hK mfX9_copyOf wn_507 ⟨Nat.le_of_ble_eq_true rfl, Nat.le_of_ble_eq_true rfl⟩) (preVW hK hPc hDc (ci := 9) rfl rfl) rfl rfl hl.1 rfl (lv_room (Nat.le_of_ble_eq_true rfl)) dX10_keep_34 ⟨Nat.le_of_ble_eq_true rfl, Nat.le_of_ble_eq_true rfl⟩) hS (fun q _ h => hFc q h) hFc (fun ur9 t H1 locs ht hvm w10 hB hz1 hk1 hS => ?_)
        obtain ⟨hP1, hD1⟩ := hB
        rw [ht] at hP1
        obtain ⟨hP, hD⟩ := va_join (wr := [(h0, .inr (10, [.ref rd, .ref wy, .ref tr, .ref im, .ref kp, .ref od, .ref ch, .ref cr, .ref le, .ref mk, .ref tl, .ref sh, .int 0, .int 0])), (im, .inl (G 3, 2, .inr (.inr (.inr (.inr (va_up (va_up (fun _ => none) 0 (some i0)) 1 (some i1))))))), (kp, .inl (G 2, 2, .inl (fun _ => 0))), (i0, .inr (9, [.int 0, .int 0, .int 5, .ref e1, .ref e2, .ref e3, .ref e4, .ref e5, .ref e6])), (e1, .inl (G 0, 10, .inl (fun _ => 0))), (e2, .inl (G 0, 10, .inl (fun _ => 0))), (e3, .inl (G 0, 10, .inl (fun _ => 0))), (e4, .inl (G 0, 6, .inl (fun _ => 0))), (e5, .inl (G 0, 6, .inl (fun _ => 0))), (e6, .inl (G 0, 6, .inl (fun _ => 0)))]) (w1 := [(wy, .inr (9, [.int 0, .int 0, .int 5, .ref a1, .ref a2, .ref a3, .ref a4, .ref a5, .ref a6]))]) hP hD [17, 18, 19, 20, 21, 22, 23, 1, 2, 3, 4, 5, 6, 7] [0, 8, 9, 10, 11, 12, 13, 14, 15, 16] rfl rfl (by decide) (by decide) hk1 hFc hP1 hD1
        generalize H1 = H at hP hS ⊢
        have hP : va_P (dC, dI) vwCl [(h0, .inr (10, [.ref rd, .ref wy, .ref tr, .ref im, .ref kp, .ref od, .ref ch, .ref cr, .ref le, .ref mk, .ref tl, .ref sh, .int 0, .int 0])), (im, .inl (G 3, 2, .inr (.inr (.inr (.inr (va_up (va_up (fun _ => none) 0 (some i0)) 1 (some i1))))))), (kp, .inl (G 2, 2, .inl (fun _ => 0))), (i0, .inr (9, [.int 0, .int 0, .int 5, .ref e1, .ref e2, .ref e3, .ref e4, .ref e5, .ref e6])), (e1, .inl (G 0, 10, .inl (fun _ => 0))), (e2, .inl (G 0, 10, .inl (fun _ => 0))), (e3, .inl (G 0, 10, .inl (fun _ => 0))), (e4, .inl (G 0, 6, .inl (fun _ => 0))), (e5, .inl (G 0, 6, .inl (fun _ => 0))), (e6, .inl (G 0, 6, .inl (fun _ => 0))), (wy, .inr (9, [.int 0, .int 0, .int 5, .ref a1, .ref a2, .ref a3, .ref a4, .ref a5, .ref a6]))] H := hP
        have hD : va_D A [(h0, .inr (10, [.ref rd, .ref wy, .ref tr, .ref im, .ref kp, .ref od, .ref ch, .ref cr, .ref le, .ref mk, .ref tl, .ref sh, .int 0, .int 0])), (im, .inl (G 3, 2, .inr (.inr (.inr (.inr (va_up (va_up (fun _ => none) 0 (some i0)) 1 (some i1))))))), (kp, .inl (G 2, 2, .inl (fun _ => 0))), (i0, .inr (9, [.int 0, .int 0, .int 5, .ref e1, .ref e2, .ref e3, .ref e4, .ref e5, .ref e6])), (e1, .inl (G 0, 10, .inl (fun _ => 0))), (e2, .inl (G 0, 10, .inl (fun _ => 0))), (e3, .inl (G 0, 10, .inl (fun _ => 0))), (e4, .inl (G 0, 6, .inl (fun _ => 0))), (e5, .inl (G 0, 6, .inl (fun _ => 0))), (e6, .inl (G 0, 6, .inl (fun _ => 0))), (wy, .inr (9, [.int 0, .int 0, .int 5, .ref a1, .ref a2, .ref a3, .ref a4, .ref a5, .ref a6]))] := hD
        refine lv_aload_n hx hb dX10_keep_37 rfl (lv_at hl 1 rfl) ?_
        refine va_get (D := (dC, dI)) (ci := 10) (v := .ref kp) (C := RX10) (T := TX10) (N := 14) hx hb hg inG10 hown hK.1 hP 0 rfl rfl 4 (by decide) (hg _ wt_306) (fun _ h9 => h9) rfl dX10_keep_38 ?_
        refine lv_iload_n hx hb dX10_keep_41 rfl (lv_at hl 2 rfl) ?_
        refine lv_iconst (v := 1) hx hb dX10_keep_42 (by decide) ?_
        refine va_zast hx hb hK.1 hP hD hS 2 2 rfl rfl (vp_in_iff.mpr ⟨by decide, by decide⟩) dX10_keep_43 (fun H locs hP hD hS => ?_)
        have hP : va_P (dC, dI) vwCl [(h0, .inr (10, [.ref rd, .ref wy, .ref tr, .ref im, .ref kp, .ref od, .ref ch, .ref cr, .ref le, .ref mk, .ref tl, .ref sh, .int 0, .int 0])), (im, .inl (G 3, 2, .inr (.inr (.inr (.inr (va_up (va_up (fun _ => none) 0 (some i0)) 1 (some i1))))))), (kp, .inl (G 2, 2, .inl (upd (fun _ => 0) 1 1))), (i0, .inr (9, [.int 0, .int 0, .int 5, .ref e1, .ref e2, .ref e3, .ref e4, .ref e5, .ref e6])), (e1, .inl (G 0, 10, .inl (fun _ => 0))), (e2, .inl (G 0, 10, .inl (fun _ => 0))), (e3, .inl (G 0, 10, .inl (fun _ => 0))), (e4, .inl (G 0, 6, .inl (fun _ => 0))), (e5, .inl (G 0, 6, .inl (fun _ => 0))), (e6, .inl (G 0, 6, .inl (fun _ => 0))), (wy, .inr (9, [.int 0, .int 0, .int 5, .ref a1, .ref a2, .ref a3, .ref a4, .ref a5, .ref a6]))] H := hP
        have hD : va_D A [(h0, .inr (10, [.ref rd, .ref wy, .ref tr, .ref im, .ref kp, .ref od, .ref ch, .ref cr, .ref le, .ref mk, .ref tl, .ref sh, .int 0, .int 0])), (im, .inl (G 3, 2, .inr (.inr (.inr (.inr (va_up (va_up (fun _ => none) 0 (some i0)) 1 (some i1))))))), (kp, .inl (G 2, 2, .inl (upd (fun _ => 0) 1 1))), (i0, .inr (9, [.int 0, .int 0, .int 5, .ref e1, .ref e2, .ref e3, .ref e4, .ref e5, .ref e6])), (e1, .inl (G 0, 10, .inl (fun _ => 0))), (e2, .inl (G 0, 10, .inl (fun _ => 0))), (e3, .inl (G 0, 10, .inl (fun _ => 0))), (e4, .inl (G 0, 6, .inl (fun _ => 0))), (e5, .inl (G 0, 6, .inl (fun _ => 0))), (e6, .inl (G 0, 6, .inl (fun _ => 0))), (wy, .inr (9, [.int 0, .int 0, .int 5, .ref a1, .ref a2, .ref a3, .ref a4, .ref a5, .ref a6]))] := hD
        refine lv_iload_n hx hb dX10_keep_44 rfl (lv_at hl 0 rfl) ?_
        have hpost : (0 : Int32) = if 0 ≤ (1 : Int32).toInt ∧ (1 : Int32).toInt < 2 then 0 else -1 := by
          have t_c8 := eqI c8
          have : (0 : Int32).toInt = 0 := (by decide)
          first | rfl | ((repeat' split) <;> first | rfl | omega)
        refine W.widen (k := 0) (n := 0) (by omega) (by omega) ?_
        exact W.iret (v := 0) hx hb hr (fun t ht hW => ⟨⟨0, (), rfl, ⟨hpost, trivial⟩, trivial⟩, hS.F ht⟩) hS.2.2 dX10_keep_45
      · skip
        exact absurd c8 (by decide)
  · skip
    have b11 := if10_n c3
    refine lv_iconst (v := (-1)) hx hb dX10_keep_7 (by decide) ?_
    have hpost : ((-1) : Int32) = if 0 ≤ k.toInt ∧ k.toInt < 2 then 0 else -1 := by
      have t_b11 := b11
      first | rfl | ((repeat' split) <;> first | rfl | omega)
    refine W.widen (k := 0) (n := 0) (by omega) (by omega) ?_
    exact W.iret (v := (-1)) hx hb hr (fun t ht hW => ⟨⟨(-1), (), rfl, ⟨hpost, trivial⟩, trivial⟩, hS.F ht⟩) hS.2.2 dX10_keep_8

set_option maxHeartbeats 4000000 in
set_option maxRecDepth 100000 in
theorem c_X10_back (l : Launch) (dC : Nat → ClassId) (dI : Nat → Nat → Nat) (G : Nat → ClassId) (sz : Nat) (h0 rd wy tr im kp od ch cr le mk tl sh : Nat) (k : Int32)   : Met l yX10_back (Cond.code yX10_back cX10_back 2 (some .int) :: GT) ({ frames := 1, cells := 0, slots := 0, locals := 20 } : Room) (PcW [.ref h0, .int k] dC dI G [(h0, .inr (10, [.ref rd, .ref wy, .ref tr, .ref im, .ref kp, .ref od, .ref ch, .ref cr, .ref le, .ref mk, .ref tl, .ref sh, .int 0, .int 0])), (kp, .inl (G 2, 2, .inl (fun _ => 0)))] sz) (va_Qi (fun (r : Int32) (u : Unit) => match u with | _ => (r = if 0 ≤ k.toInt ∧ k.toInt < 2 then -2 else -1) ∧ True) (fun _ _ => True) (va_A [(h0, .inr (10, [.ref rd, .ref wy, .ref tr, .ref im, .ref kp, .ref od, .ref ch, .ref cr, .ref le, .ref mk, .ref tl, .ref sh, .int 0, .int 0])), (kp, .inl (G 2, 2, .inl (fun _ => 0)))] sz)) 0 0 (va_A [(h0, .inr (10, [.ref rd, .ref wy, .ref tr, .ref im, .ref kp, .ref od, .ref ch, .ref cr, .ref le, .ref mk, .ref tl, .ref sh, .int 0, .int 0])), (kp, .inl (G 2, 2, .inl (fun _ => 0)))] sz) := by
  refine Met.ofW (cc := cX10_back) (maxL := 2) (ret := (some .int)) (by decide) rfl ?_
  intro p e s m args below meth c s₁ B hml hv
  obtain ⟨rfl, hsz, hP, hK, hD0⟩ := hv
  have hx := B.exec
  have hb := B.bytes
  have hr := B.returns
  have hg : ∀ w ∈ GT, w.before ([.ref h0, .int k] : List Value).toArray s = true := fun w h => atoms_spec (ws := Cond.code yX10_back cX10_back 2 (some .int) :: GT) B.pre w (List.mem_cons_of_mem _ h)
  have hown : s.vm.findClass RX10 = some m.cls := findClass_of_methodNamed B.named
  have hlocks := B.notSynchronized
  subst hsz
  have hD := hD0.self (sz := s.heap.size)
  generalize hAe : va_A [(h0, .inr (10, [.ref rd, .ref wy, .ref tr, .ref im, .ref kp, .ref od, .ref ch, .ref cr, .ref le, .ref mk, .ref tl, .ref sh, .int 0, .int 0])), (kp, .inl (G 2, 2, .inl (fun _ => 0)))] s.heap.size = A at hD ⊢
  have hA : ∀ q : Nat, s.heap.size ≤ q → A q := fun q h => by rw [← hAe]; exact Or.inr h
  have hS : va_S A s.heap s.heap [] := va_S.rf
  have hl := lv_entry ([.ref h0, .int k]) (n := 2) (Nat.le_of_ble_eq_true rfl)
  rw [lg_entry_eq]
  generalize (lg_sl ([.ref h0, .int k]) ++ List.replicate (2 - (lg_sl ([.ref h0, .int k])).length) Slot.unset).toArray = ls at hl ⊢
  have hl : lv_has ls 2 [(0, .ref h0), (1, .int k)] := hl
  refine lv_iload_n hx hb dX10_back_0 rfl (lv_at hl 1 rfl) ?_
  have hPc := hP.sub (ws' := []) [] rfl
  refine va_calli (va_runS (As := [.int k]) (rest := []) ⟨hx, hb, hml, hown, hg⟩ (c_X10_isImage l dC dI G _ k ) (kwS hg mfX10_isImage wt_812 ⟨Nat.le_of_ble_eq_true rfl, Nat.le_of_ble_eq_true rfl⟩) (preSR hK hPc) rfl rfl hl.1 rfl (lv_room (Nat.le_of_ble_eq_true rfl)) dX10_back_1 ⟨Nat.le_of_ble_eq_true rfl, Nat.le_of_ble_eq_true rfl⟩) hS (fun q h1 h2 => absurd h2 (Nat.not_le.mpr h1)) (fun q h => hA q (Nat.le_trans hS.1 h)) (fun r1 ur1 t H1 locs ht hvm w2 hB hz1 hk1 hS => ?_)
  have hP := keepR hP hk1
  obtain ⟨w2, w2x⟩ := w2
  try simp only [l_ii, show (0 : Int32).toInt = 0 from by decide, show (2 : Int32).toInt = 2 from by decide] at w2
  subst w2
  refine lv_if_ne (tgt := 9) hx hb dX10_back_4 (by decide) (fun c3 => ?_) (fun c3 => ?_)
  · skip
    have b4 := if10_p c3
    refine lv_aload_n hx hb dX10_back_9 rfl (lv_at hl 0 rfl) ?_
    refine va_get (D := (dC, dI)) (ci := 10) (v := .ref kp) (C := RX10) (T := TX10) (N := 14) hx hb hg inG10 hown hK.1 hP 0 rfl rfl 4 (by decide) (hg _ wt_306) (fun _ h9 => h9) rfl dX10_back_10 ?_
    refine lv_iload_n hx hb dX10_back_13 rfl (lv_at hl 1 rfl) ?_
    refine va_zald hx hb hK.1 hP 1 2 rfl rfl (vp_in_iff.mpr (by have t_b4 := b4; constructor <;> omega)) dX10_back_14 ?_
    refine lv_cg (y := 0) (by rfl) ?_
    refine lv_if_ne (tgt := 21) hx hb dX10_back_15 (by decide) (fun c5 => ?_) (fun c5 => ?_)
    · skip
      exact absurd c5 (by decide)
    · skip
      refine lv_bipush (v := (-2)) hx hb dX10_back_18 (by decide) ?_
      have hpost : ((-2) : Int32) = if 0 ≤ k.toInt ∧ k.toInt < 2 then -2 else -1 := by
        have t_b4 := b4
        have t_c5 := eqI c5
        have : (0 : Int32).toInt = 0 := (by decide)
        first | rfl | ((repeat' split) <;> first | rfl | omega)
      refine W.widen (k := 0) (n := 0) (by omega) (by omega) ?_
      exact W.iret (v := (-2)) hx hb hr (fun t ht hW => ⟨⟨(-2), (), rfl, ⟨hpost, trivial⟩, trivial⟩, hS.F ht⟩) hS.2.2 dX10_back_20
  · skip
    have b6 := if10_n c3
    refine lv_iconst (v := (-1)) hx hb dX10_back_7 (by decide) ?_
    have hpost : ((-1) : Int32) = if 0 ≤ k.toInt ∧ k.toInt < 2 then -2 else -1 := by
      have t_b6 := b6
      first | rfl | ((repeat' split) <;> first | rfl | omega)
    refine W.widen (k := 0) (n := 0) (by omega) (by omega) ?_
    exact W.iret (v := (-1)) hx hb hr (fun t ht hW => ⟨⟨(-1), (), rfl, ⟨hpost, trivial⟩, trivial⟩, hS.F ht⟩) hS.2.2 dX10_back_8

set_option maxHeartbeats 4000000 in
set_option maxRecDepth 100000 in
theorem c_X10_sheet (l : Launch) (dC : Nat → ClassId) (dI : Nat → Nat → Nat) (G : Nat → ClassId) (sz : Nat) (h0 rd wy tr im kp od ch cr le mk tl sh la si ce fi se : Nat) (k lane n : Int32) (rc : Nat → Nat)  : Met l yX10_sheet (Cond.code yX10_sheet cX10_sheet 4 (some .int) :: GT) ({ frames := 2, cells := 0, slots := 0, locals := 44 } : Room) (PcW [.ref h0, .int k, .int lane, .int n] dC dI G [(h0, .inr (10, [.ref rd, .ref wy, .ref tr, .ref im, .ref kp, .ref od, .ref ch, .ref cr, .ref le, .ref mk, .ref tl, .ref sh, .int 0, .int 0])), (sh, .inr (6, [.ref la, .ref si, .ref ce, .int 0, .int 0, .ref fi, .ref se])), (la, .inl (G 0, 4, .inl (upd (upd (upd (upd (fun _ => 0) 0 (-1)) 1 (-1)) 2 (-1)) 3 (-1)))), (si, .inl (G 0, 4, .inl (fun _ => 0))), (ce, .inl (G 4, 4, .inr (.inr (.inr (.inr (fun i => if i < 4 then some (rc i) else none)))))), ((rc 0), .inl (G 0, 40, .inl (fun _ => 0))), ((rc 1), .inl (G 0, 40, .inl (fun _ => 0))), ((rc 2), .inl (G 0, 40, .inl (fun _ => 0))), ((rc 3), .inl (G 0, 40, .inl (fun _ => 0)))] sz) (va_Qi (fun (r : Int32) (u : Unit) => match u with | _ => (r = if (0 ≤ k.toInt ∧ k.toInt < 4) ∧ (0 ≤ lane.toInt ∧ lane.toInt ≤ 2) ∧ n.toInt ≤ 40 then (if n.toInt < 0 then -14 else 1) else -1) ∧ True) (fun _ _ => True) (va_A [(h0, .inr (10, [.ref rd, .ref wy, .ref tr, .ref im, .ref kp, .ref od, .ref ch, .ref cr, .ref le, .ref mk, .ref tl, .ref sh, .int 0, .int 0])), (sh, .inr (6, [.ref la, .ref si, .ref ce, .int 0, .int 0, .ref fi, .ref se])), (la, .inl (G 0, 4, .inl (upd (upd (upd (upd (fun _ => 0) 0 (-1)) 1 (-1)) 2 (-1)) 3 (-1)))), (si, .inl (G 0, 4, .inl (fun _ => 0))), (ce, .inl (G 4, 4, .inr (.inr (.inr (.inr (fun i => if i < 4 then some (rc i) else none)))))), ((rc 0), .inl (G 0, 40, .inl (fun _ => 0))), ((rc 1), .inl (G 0, 40, .inl (fun _ => 0))), ((rc 2), .inl (G 0, 40, .inl (fun _ => 0))), ((rc 3), .inl (G 0, 40, .inl (fun _ => 0)))] sz)) 0 0 (va_A [(h0, .inr (10, [.ref rd, .ref wy, .ref tr, .ref im, .ref kp, .ref od, .ref ch, .ref cr, .ref le, .ref mk, .ref tl, .ref sh, .int 0, .int 0])), (sh, .inr (6, [.ref la, .ref si, .ref ce, .int 0, .int 0, .ref fi, .ref se])), (la, .inl (G 0, 4, .inl (upd (upd (upd (upd (fun _ => 0) 0 (-1)) 1 (-1)) 2 (-1)) 3 (-1)))), (si, .inl (G 0, 4, .inl (fun _ => 0))), (ce, .inl (G 4, 4, .inr (.inr (.inr (.inr (fun i => if i < 4 then some (rc i) else none)))))), ((rc 0), .inl (G 0, 40, .inl (fun _ => 0))), ((rc 1), .inl (G 0, 40, .inl (fun _ => 0))), ((rc 2), .inl (G 0, 40, .inl (fun _ => 0))), ((rc 3), .inl (G 0, 40, .inl (fun _ => 0)))] sz) := by
  refine Met.ofW (cc := cX10_sheet) (maxL := 4) (ret := (some .int)) (by decide) rfl ?_
  intro p e s m args below meth c s₁ B hml hv
  obtain ⟨rfl, hsz, hP, hK, hD0⟩ := hv
  have hx := B.exec
  have hb := B.bytes
  have hr := B.returns
  have hg : ∀ w ∈ GT, w.before ([.ref h0, .int k, .int lane, .int n] : List Value).toArray s = true := fun w h => atoms_spec (ws := Cond.code yX10_sheet cX10_sheet 4 (some .int) :: GT) B.pre w (List.mem_cons_of_mem _ h)
  have hown : s.vm.findClass RX10 = some m.cls := findClass_of_methodNamed B.named
  have hlocks := B.notSynchronized
  subst hsz
  have hD := hD0.self (sz := s.heap.size)
  generalize hAe : va_A [(h0, .inr (10, [.ref rd, .ref wy, .ref tr, .ref im, .ref kp, .ref od, .ref ch, .ref cr, .ref le, .ref mk, .ref tl, .ref sh, .int 0, .int 0])), (sh, .inr (6, [.ref la, .ref si, .ref ce, .int 0, .int 0, .ref fi, .ref se])), (la, .inl (G 0, 4, .inl (upd (upd (upd (upd (fun _ => 0) 0 (-1)) 1 (-1)) 2 (-1)) 3 (-1)))), (si, .inl (G 0, 4, .inl (fun _ => 0))), (ce, .inl (G 4, 4, .inr (.inr (.inr (.inr (fun i => if i < 4 then some (rc i) else none)))))), ((rc 0), .inl (G 0, 40, .inl (fun _ => 0))), ((rc 1), .inl (G 0, 40, .inl (fun _ => 0))), ((rc 2), .inl (G 0, 40, .inl (fun _ => 0))), ((rc 3), .inl (G 0, 40, .inl (fun _ => 0)))] s.heap.size = A at hD ⊢
  have hA : ∀ q : Nat, s.heap.size ≤ q → A q := fun q h => by rw [← hAe]; exact Or.inr h
  have hS : va_S A s.heap s.heap [] := va_S.rf
  have hl := lv_entry ([.ref h0, .int k, .int lane, .int n]) (n := 4) (Nat.le_of_ble_eq_true rfl)
  rw [lg_entry_eq]
  generalize (lg_sl ([.ref h0, .int k, .int lane, .int n]) ++ List.replicate (4 - (lg_sl ([.ref h0, .int k, .int lane, .int n])).length) Slot.unset).toArray = ls at hl ⊢
  have hl : lv_has ls 4 [(0, .ref h0), (1, .int k), (2, .int lane), (3, .int n)] := hl
  refine lv_iload_n hx hb dX10_sheet_0 rfl (lv_at hl 1 rfl) ?_
  have hPc := hP.sub (ws' := []) [] rfl
  refine va_calli (va_runSN (As := [.int k]) (rest := []) ⟨hx, hb, hml, hown, hg⟩ (c_X6_isSheet l dC dI G _ k ) (kwSN hg hK mfX6_isSheet wn_823 ⟨Nat.le_of_ble_eq_true rfl, Nat.le_of_ble_eq_true rfl⟩) (preSR hK hPc) rfl rfl hl.1 rfl (lv_room (Nat.le_of_ble_eq_true rfl)) dX10_sheet_1 ⟨Nat.le_of_ble_eq_true rfl, Nat.le_of_ble_eq_true rfl⟩) hS (fun q h1 h2 => absurd h2 (Nat.not_le.mpr h1)) (fun q h => hA q (Nat.le_trans hS.1 h)) (fun r1 ur1 t H1 locs ht hvm w2 hB hz1 hk1 hS => ?_)
  have hP := keepR hP hk1
  obtain ⟨w2, w2x⟩ := w2
  try simp only [l_ii, show (0 : Int32).toInt = 0 from by decide, show (4 : Int32).toInt = 4 from by decide] at w2
  subst w2
  refine lv_if_eq (tgt := 20) hx hb dX10_sheet_4 (by decide) (fun c3 => ?_) (fun c3 => ?_)
  · skip
    have b4 := if10_n c3
    refine lv_iconst (v := (-1)) hx hb dX10_sheet_20 (by decide) ?_
    have hpost : ((-1) : Int32) = if (0 ≤ k.toInt ∧ k.toInt < 4) ∧ (0 ≤ lane.toInt ∧ lane.toInt ≤ 2) ∧ n.toInt ≤ 40 then (if n.toInt < 0 then -14 else 1) else -1 := by
      have t_b4 := b4
      first | rfl | ((repeat' split) <;> first | rfl | omega)
    refine W.widen (k := 0) (n := 0) (by omega) (by omega) ?_
    exact W.iret (v := (-1)) hx hb hr (fun t ht hW => ⟨⟨(-1), (), rfl, ⟨hpost, trivial⟩, trivial⟩, hS.F ht⟩) hS.2.2 dX10_sheet_21
  · skip
    have b5 := if10_p c3
    refine lv_iload_n hx hb dX10_sheet_7 rfl (lv_at hl 2 rfl) ?_
    have hPc := hP.sub (ws' := []) [] rfl
    refine va_calli (va_runSN (As := [.int lane]) (rest := []) ⟨hx, hb, hml, hown, hg⟩ (c_X6_isLane l dC dI G _ lane ) (kwSN hg hK mfX6_isLane wn_826 ⟨Nat.le_of_ble_eq_true rfl, Nat.le_of_ble_eq_true rfl⟩) (preSR hK hPc) rfl rfl hl.1 rfl (lv_room (Nat.le_of_ble_eq_true rfl)) dX10_sheet_8 ⟨Nat.le_of_ble_eq_true rfl, Nat.le_of_ble_eq_true rfl⟩) hS (fun q h1 h2 => absurd h2 (Nat.not_le.mpr h1)) (fun q h => hA q (Nat.le_trans hS.1 h)) (fun r6 ur6 t H1 locs ht hvm w7 hB hz1 hk1 hS => ?_)
    have hP := keepR hP hk1
    obtain ⟨w7, w7x⟩ := w7
    try simp only [l_ii, show (0 : Int32).toInt = 0 from by decide, show (2 : Int32).toInt = 2 from by decide] at w7
    subst w7
    refine lv_if_eq (tgt := 20) hx hb dX10_sheet_11 (by decide) (fun c8 => ?_) (fun c8 => ?_)
    · skip
      have b9 := if10_n c8
      refine lv_iconst (v := (-1)) hx hb dX10_sheet_20 (by decide) ?_
      have hpost : ((-1) : Int32) = if (0 ≤ k.toInt ∧ k.toInt < 4) ∧ (0 ≤ lane.toInt ∧ lane.toInt ≤ 2) ∧ n.toInt ≤ 40 then (if n.toInt < 0 then -14 else 1) else -1 := by
        have t_b5 := b5
        have t_b9 := b9
        first | rfl | ((repeat' split) <;> first | rfl | omega)
      refine W.widen (k := 0) (n := 0) (by omega) (by omega) ?_
      exact W.iret (v := (-1)) hx hb hr (fun t ht hW => ⟨⟨(-1), (), rfl, ⟨hpost, trivial⟩, trivial⟩, hS.F ht⟩) hS.2.2 dX10_sheet_21
    · skip
      have b10 := if10_p c8
      refine lv_iload_n hx hb dX10_sheet_14 rfl (lv_at hl 3 rfl) ?_
      refine lv_bipush (v := 40) hx hb dX10_sheet_15 (by decide) ?_
      refine lv_icmp_le (tgt := 22) hx hb dX10_sheet_17 (by decide) (fun c11 => ?_) (fun c11 => ?_)
      · skip
        refine lv_iload_n hx hb dX10_sheet_22 rfl (lv_at hl 3 rfl) ?_
        refine lv_if_ge (tgt := 29) hx hb dX10_sheet_23 (by decide) (fun c12 => ?_) (fun c12 => ?_)
        · skip
          obtain ⟨nn, hnn, rfl⟩ : ∃ j : Nat, j ≤ 40 ∧ n = nI j := by
            have t_b5 := b5
            have t_b10 := b10
            have t_c11 := leI c11
            have t_c12 := leI c12
            have : (0 : Int32).toInt = 0 := (by decide)
            have : (40 : Int32).toInt = 40 := (by decide)
            have q0 : ¬ n < 0 := fun q => by have := ltI q; omega
            have q1 : n ≤ 40 := Int32.le_iff_toInt_le.mpr (by omega)
            exact nI_of2 (by decide) q0 q1
          refine lv_aload_n hx hb dX10_sheet_29 rfl (lv_at hl 0 rfl) ?_
          refine va_get (D := (dC, dI)) (ci := 10) (v := .ref sh) (C := RX10) (T := TX10) (N := 14) hx hb hg inG10 hown hK.1 hP 0 rfl rfl 11 (by decide) (hg _ wt_313) (fun _ h9 => h9) rfl dX10_sheet_30 ?_
          refine lv_iload_n hx hb dX10_sheet_33 rfl (lv_at hl 1 rfl) ?_
          refine lv_iload_n hx hb dX10_sheet_34 rfl (lv_at hl 2 rfl) ?_
          refine lv_iload_n hx hb dX10_sheet_35 rfl (lv_at hl 3 rfl) ?_
          have hPc := hP.sub (ws' := [(sh, .inr (6, [.ref la, .ref si, .ref ce, .int 0, .int 0, .ref fi, .ref se])), (la, .inl (G 0, 4, .inl (upd (upd (upd (upd (fun _ => 0) 0 (-1)) 1 (-1)) 2 (-1)) 3 (-1)))), (si, .inl (G 0, 4, .inl (fun _ => 0))), (ce, .inl (G 4, 4, .inr (.inr (.inr (.inr (fun i => if i < 4 then some (rc i) else none)))))), ((rc 0), .inl (G 0, 40, .inl (fun _ => 0))), ((rc 1), .inl (G 0, 40, .inl (fun _ => 0))), ((rc 2), .inl (G 0, 40, .inl (fun _ => 0))), ((rc 3), .inl (G 0, 40, .inl (fun _ => 0)))]) [1, 2, 3, 4, 5, 6, 7, 8] rfl
          have hDc := hD.sub (ws' := [(sh, .inr (6, [.ref la, .ref si, .ref ce, .int 0, .int 0, .ref fi, .ref se])), (la, .inl (G 0, 4, .inl (upd (upd (upd (upd (fun _ => 0) 0 (-1)) 1 (-1)) 2 (-1)) 3 (-1)))), (si, .inl (G 0, 4, .inl (fun _ => 0))), (ce, .inl (G 4, 4, .inr (.inr (.inr (.inr (fun i => if i < 4 then some (rc i) else none)))))), ((rc 0), .inl (G 0, 40, .inl (fun _ => 0))), ((rc 1), .inl (G 0, 40, .inl (fun _ => 0))), ((rc 2), .inl (G 0, 40, .inl (fun _ => 0))), ((rc 3), .inl (G 0, 40, .inl (fun _ => 0)))]) [1, 2, 3, 4, 5, 6, 7, 8] (by decide) rfl
          have hFc := va_free (wc := [(sh, .inr (6, [.ref la, .ref si, .ref ce, .int 0, .int 0, .ref fi, .ref se])), (la, .inl (G 0, 4, .inl (upd (upd (upd (upd (fun _ => 0) 0 (-1)) 1 (-1)) 2 (-1)) 3 (-1)))), (si, .inl (G 0, 4, .inl (fun _ => 0))), (ce, .inl (G 4, 4, .inr (.inr (.inr (.inr (fun i => if i < 4 then some (rc i) else none)))))), ((rc 0), .inl (G 0, 40, .inl (fun _ => 0))), ((rc 1), .inl (G 0, 40, .inl (fun _ => 0))), ((rc 2), .inl (G 0, 40, .inl (fun _ => 0))), ((rc 3), .inl (G 0, 40, .inl (fun _ => 0)))]) hD hS hA [1, 2, 3, 4, 5, 6, 7, 8] rfl
          refine va_callv (va_runVN (As := [.int k, .int lane, .int (nI nn)]) (rest := []) ⟨hx, hb, hml, hown, hg⟩ (c_X6_renew l dC dI G _ sh la si ce fi se nn rc k lane (by have t_b5 := b5; have t_b10 := b10; have t_tn := nI_toInt (n := nn) (by omega); omega) (by have t_b5 := b5; have t_b10 := b10; have t_tn := nI_toInt (n := nn) (by omega); omega)) (kwVN hg hK mfX6_renew wn_829 ⟨Nat.le_of_ble_eq_true rfl, Nat.le_of_ble_eq_true rfl⟩) (preVW hK hPc hDc (ci := 6) rfl rfl) rfl rfl hl.1 rfl (lv_room (Nat.le_of_ble_eq_true rfl)) dX10_sheet_36 ⟨Nat.le_of_ble_eq_true rfl, Nat.le_of_ble_eq_true rfl⟩) hS (fun q _ h => hFc q h) hFc (fun ur13 t H1 locs ht hvm w14 hB hz1 hk1 hS => ?_)
          obtain ⟨hP1, hD1⟩ := hB
          rw [ht] at hP1
          obtain ⟨hP, hD⟩ := va_join (wr := [(h0, .inr (10, [.ref rd, .ref wy, .ref tr, .ref im, .ref kp, .ref od, .ref ch, .ref cr, .ref le, .ref mk, .ref tl, .ref sh, .int 0, .int 0]))]) (w1 := []) hP hD [1, 2, 3, 4, 5, 6, 7, 8] [0] rfl rfl (by decide) (by decide) hk1 hFc hP1 hD1
          generalize H1 = H at hP hS ⊢
          have hP : va_P (dC, dI) vwCl [(h0, .inr (10, [.ref rd, .ref wy, .ref tr, .ref im, .ref kp, .ref od, .ref ch, .ref cr, .ref le, .ref mk, .ref tl, .ref sh, .int 0, .int 0]))] H := hP
          have hD : va_D A [(h0, .inr (10, [.ref rd, .ref wy, .ref tr, .ref im, .ref kp, .ref od, .ref ch, .ref cr, .ref le, .ref mk, .ref tl, .ref sh, .int 0, .int 0]))] := hD
          refine lv_iconst (v := 1) hx hb dX10_sheet_39 (by decide) ?_
          have hpost : (1 : Int32) = if (0 ≤ k.toInt ∧ k.toInt < 4) ∧ (0 ≤ lane.toInt ∧ lane.toInt ≤ 2) ∧ (nI nn).toInt ≤ 40 then (if (nI nn).toInt < 0 then -14 else 1) else -1 := by
            have t_b5 := b5
            have t_b10 := b10
            have t_tn := nI_toInt (n := nn) (by omega)
            first | rfl | ((repeat' split) <;> first | rfl | omega)
          refine W.widen (k := 0) (n := 0) (by omega) (by omega) ?_
          exact W.iret (v := 1) hx hb hr (fun t ht hW => ⟨⟨1, (), rfl, ⟨hpost, trivial⟩, trivial⟩, hS.F ht⟩) hS.2.2 dX10_sheet_40
        · skip
          refine lv_bipush (v := (-14)) hx hb dX10_sheet_26 (by decide) ?_
          have hpost : ((-14) : Int32) = if (0 ≤ k.toInt ∧ k.toInt < 4) ∧ (0 ≤ lane.toInt ∧ lane.toInt ≤ 2) ∧ n.toInt ≤ 40 then (if n.toInt < 0 then -14 else 1) else -1 := by
            have t_b5 := b5
            have t_b10 := b10
            have t_c11 := leI c11
            have t_c12 := nleI c12
            have : (0 : Int32).toInt = 0 := (by decide)
            have : (40 : Int32).toInt = 40 := (by decide)
            first | rfl | ((repeat' split) <;> first | rfl | omega)
          refine W.widen (k := 0) (n := 0) (by omega) (by omega) ?_
          exact W.iret (v := (-14)) hx hb hr (fun t ht hW => ⟨⟨(-14), (), rfl, ⟨hpost, trivial⟩, trivial⟩, hS.F ht⟩) hS.2.2 dX10_sheet_28
      · skip
        refine lv_iconst (v := (-1)) hx hb dX10_sheet_20 (by decide) ?_
        have hpost : ((-1) : Int32) = if (0 ≤ k.toInt ∧ k.toInt < 4) ∧ (0 ≤ lane.toInt ∧ lane.toInt ≤ 2) ∧ n.toInt ≤ 40 then (if n.toInt < 0 then -14 else 1) else -1 := by
          have t_b5 := b5
          have t_b10 := b10
          have t_c11 := nleI c11
          have : (40 : Int32).toInt = 40 := (by decide)
          first | rfl | ((repeat' split) <;> first | rfl | omega)
        refine W.widen (k := 0) (n := 0) (by omega) (by omega) ?_
        exact W.iret (v := (-1)) hx hb hr (fun t ht hW => ⟨⟨(-1), (), rfl, ⟨hpost, trivial⟩, trivial⟩, hS.F ht⟩) hS.2.2 dX10_sheet_21

set_option maxHeartbeats 4000000 in
set_option maxRecDepth 100000 in
theorem c_X10_lay (l : Launch) (dC : Nat → ClassId) (dI : Nat → Nat → Nat) (G : Nat → ClassId) (sz : Nat) (h0 rd wy tr im kp od ch cr le mk tl sh la si ce fi se : Nat) (k i v : Int32)   : Met l yX10_lay (Cond.code yX10_lay cX10_lay 5 (some .int) :: GT) ({ frames := 1, cells := 0, slots := 0, locals := 23 } : Room) (PcW [.ref h0, .int k, .int i, .int v] dC dI G [(h0, .inr (10, [.ref rd, .ref wy, .ref tr, .ref im, .ref kp, .ref od, .ref ch, .ref cr, .ref le, .ref mk, .ref tl, .ref sh, .int 0, .int 0])), (sh, .inr (6, [.ref la, .ref si, .ref ce, .int 0, .int 0, .ref fi, .ref se])), (la, .inl (G 0, 4, .inl (upd (upd (upd (upd (fun _ => 0) 0 (-1)) 1 (-1)) 2 (-1)) 3 (-1))))] sz) (va_Qi (fun (r : Int32) (u : Unit) => match u with | _ => (r = if 0 ≤ k.toInt ∧ k.toInt < 4 then -11 else -1) ∧ True) (fun _ _ => True) (va_A [(h0, .inr (10, [.ref rd, .ref wy, .ref tr, .ref im, .ref kp, .ref od, .ref ch, .ref cr, .ref le, .ref mk, .ref tl, .ref sh, .int 0, .int 0])), (sh, .inr (6, [.ref la, .ref si, .ref ce, .int 0, .int 0, .ref fi, .ref se])), (la, .inl (G 0, 4, .inl (upd (upd (upd (upd (fun _ => 0) 0 (-1)) 1 (-1)) 2 (-1)) 3 (-1))))] sz)) 0 0 (va_A [(h0, .inr (10, [.ref rd, .ref wy, .ref tr, .ref im, .ref kp, .ref od, .ref ch, .ref cr, .ref le, .ref mk, .ref tl, .ref sh, .int 0, .int 0])), (sh, .inr (6, [.ref la, .ref si, .ref ce, .int 0, .int 0, .ref fi, .ref se])), (la, .inl (G 0, 4, .inl (upd (upd (upd (upd (fun _ => 0) 0 (-1)) 1 (-1)) 2 (-1)) 3 (-1))))] sz) := by
  refine Met.ofW (cc := cX10_lay) (maxL := 5) (ret := (some .int)) (by decide) rfl ?_
  intro p e s m args below meth c s₁ B hml hv
  obtain ⟨rfl, hsz, hP, hK, hD0⟩ := hv
  have hx := B.exec
  have hb := B.bytes
  have hr := B.returns
  have hg : ∀ w ∈ GT, w.before ([.ref h0, .int k, .int i, .int v] : List Value).toArray s = true := fun w h => atoms_spec (ws := Cond.code yX10_lay cX10_lay 5 (some .int) :: GT) B.pre w (List.mem_cons_of_mem _ h)
  have hown : s.vm.findClass RX10 = some m.cls := findClass_of_methodNamed B.named
  have hlocks := B.notSynchronized
  subst hsz
  have hD := hD0.self (sz := s.heap.size)
  generalize hAe : va_A [(h0, .inr (10, [.ref rd, .ref wy, .ref tr, .ref im, .ref kp, .ref od, .ref ch, .ref cr, .ref le, .ref mk, .ref tl, .ref sh, .int 0, .int 0])), (sh, .inr (6, [.ref la, .ref si, .ref ce, .int 0, .int 0, .ref fi, .ref se])), (la, .inl (G 0, 4, .inl (upd (upd (upd (upd (fun _ => 0) 0 (-1)) 1 (-1)) 2 (-1)) 3 (-1))))] s.heap.size = A at hD ⊢
  have hA : ∀ q : Nat, s.heap.size ≤ q → A q := fun q h => by rw [← hAe]; exact Or.inr h
  have hS : va_S A s.heap s.heap [] := va_S.rf
  have hl := lv_entry ([.ref h0, .int k, .int i, .int v]) (n := 5) (Nat.le_of_ble_eq_true rfl)
  rw [lg_entry_eq]
  generalize (lg_sl ([.ref h0, .int k, .int i, .int v]) ++ List.replicate (5 - (lg_sl ([.ref h0, .int k, .int i, .int v])).length) Slot.unset).toArray = ls at hl ⊢
  have hl : lv_has ls 5 [(0, .ref h0), (1, .int k), (2, .int i), (3, .int v)] := hl
  refine lv_iload_n hx hb dX10_lay_0 rfl (lv_at hl 1 rfl) ?_
  have hPc := hP.sub (ws' := []) [] rfl
  refine va_calli (va_runSN (As := [.int k]) (rest := []) ⟨hx, hb, hml, hown, hg⟩ (c_X6_isSheet l dC dI G _ k ) (kwSN hg hK mfX6_isSheet wn_823 ⟨Nat.le_of_ble_eq_true rfl, Nat.le_of_ble_eq_true rfl⟩) (preSR hK hPc) rfl rfl hl.1 rfl (lv_room (Nat.le_of_ble_eq_true rfl)) dX10_lay_1 ⟨Nat.le_of_ble_eq_true rfl, Nat.le_of_ble_eq_true rfl⟩) hS (fun q h1 h2 => absurd h2 (Nat.not_le.mpr h1)) (fun q h => hA q (Nat.le_trans hS.1 h)) (fun r1 ur1 t H1 locs ht hvm w2 hB hz1 hk1 hS => ?_)
  have hP := keepR hP hk1
  obtain ⟨w2, w2x⟩ := w2
  try simp only [l_ii, show (0 : Int32).toInt = 0 from by decide, show (4 : Int32).toInt = 4 from by decide] at w2
  subst w2
  refine lv_if_ne (tgt := 9) hx hb dX10_lay_4 (by decide) (fun c3 => ?_) (fun c3 => ?_)
  · skip
    have b4 := if10_p c3
    refine lv_aload_n hx hb dX10_lay_9 rfl (lv_at hl 0 rfl) ?_
    refine va_get (D := (dC, dI)) (ci := 10) (v := .ref sh) (C := RX10) (T := TX10) (N := 14) hx hb hg inG10 hown hK.1 hP 0 rfl rfl 11 (by decide) (hg _ wt_313) (fun _ h9 => h9) rfl dX10_lay_10 ?_
    refine lv_iload_n hx hb dX10_lay_13 rfl (lv_at hl 1 rfl) ?_
    refine lv_iload_n hx hb dX10_lay_14 rfl (lv_at hl 2 rfl) ?_
    refine lv_i2l (v := i.toInt64) hx hb dX10_lay_15 rfl ?_
    have hPc := hP.sub (ws' := [(sh, .inr (6, [.ref la, .ref si, .ref ce, .int 0, .int 0, .ref fi, .ref se])), (la, .inl (G 0, 4, .inl (upd (upd (upd (upd (fun _ => 0) 0 (-1)) 1 (-1)) 2 (-1)) 3 (-1))))]) [1, 2] rfl
    refine va_calli (va_runVN (As := [.int k, .long i.toInt64]) (rest := []) ⟨hx, hb, hml, hown, hg⟩ (c_X6_faultAt l dC dI G _ sh la si ce fi se 0 0 k i.toInt64 (by have t_b4 := b4; omega)) (kwVN hg hK mfX6_faultAt wn_838 ⟨Nat.le_of_ble_eq_true rfl, Nat.le_of_ble_eq_true rfl⟩) (preVR hK hPc (ci := 6) rfl rfl) rfl rfl hl.1 rfl (lv_room (Nat.le_of_ble_eq_true rfl)) dX10_lay_16 ⟨Nat.le_of_ble_eq_true rfl, Nat.le_of_ble_eq_true rfl⟩) hS (fun q h1 h2 => absurd h2 (Nat.not_le.mpr h1)) (fun q h => hA q (Nat.le_trans hS.1 h)) (fun r5 ur5 t H1 locs ht hvm w6 hB hz1 hk1 hS => ?_)
    have hP := keepR hP hk1
    obtain ⟨w6, w6x⟩ := w6
    subst w6
    refine lv_istore (lv' := [(4, .int 1), (0, .ref h0), (1, .int k), (2, .int i), (3, .int v)]) hx hb dX10_lay_19 hl (by decide) rfl (fun ls hl => ?_)
    refine lv_iload hx hb dX10_lay_21 (lv_at hl 0 rfl) ?_
    refine lv_if_eq (tgt := 32) hx hb dX10_lay_23 (by decide) (fun c7 => ?_) (fun c7 => ?_)
    · skip
      exact absurd c7 (by decide)
    · skip
      refine lv_bipush (v := (-10)) hx hb dX10_lay_26 (by decide) ?_
      refine lv_iload hx hb dX10_lay_28 (lv_at hl 0 rfl) ?_
      refine lv_isub hx hb dX10_lay_30 ?_
      refine lv_cg (y := (-11)) (by decide) ?_
      have hpost : ((-11) : Int32) = if 0 ≤ k.toInt ∧ k.toInt < 4 then -11 else -1 := by
        have t_b4 := b4
        have t_c7 := neI c7
        have : (0 : Int32).toInt = 0 := (by decide)
        have : (1 : Int32).toInt = 1 := (by decide)
        first | rfl | ((repeat' split) <;> first | rfl | omega)
      refine W.widen (k := 0) (n := 0) (by omega) (by omega) ?_
      exact W.iret (v := (-11)) hx hb hr (fun t ht hW => ⟨⟨(-11), (), rfl, ⟨hpost, trivial⟩, trivial⟩, hS.F ht⟩) hS.2.2 dX10_lay_31
  · skip
    have b8 := if10_n c3
    refine lv_iconst (v := (-1)) hx hb dX10_lay_7 (by decide) ?_
    have hpost : ((-1) : Int32) = if 0 ≤ k.toInt ∧ k.toInt < 4 then -11 else -1 := by
      have t_b8 := b8
      first | rfl | ((repeat' split) <;> first | rfl | omega)
    refine W.widen (k := 0) (n := 0) (by omega) (by omega) ?_
    exact W.iret (v := (-1)) hx hb hr (fun t ht hW => ⟨⟨(-1), (), rfl, ⟨hpost, trivial⟩, trivial⟩, hS.F ht⟩) hS.2.2 dX10_lay_8

set_option maxHeartbeats 4000000 in
set_option maxRecDepth 100000 in
theorem c_X10_read (l : Launch) (dC : Nat → ClassId) (dI : Nat → Nat → Nat) (G : Nat → ClassId) (sz : Nat) (h0 rd wy tr im kp od ch cr le mk tl sh la si ce fi se a1 a2 a3 a4 a5 a6 : Nat) (k lane f n : Int32)   : Met l yX10_read (Cond.code yX10_read cX10_read 6 (some .int) :: GT) ({ frames := 2, cells := 0, slots := 0, locals := 50 } : Room) (PcW [.ref h0, .int k, .int lane, .int f, .int n] dC dI G [(h0, .inr (10, [.ref rd, .ref wy, .ref tr, .ref im, .ref kp, .ref od, .ref ch, .ref cr, .ref le, .ref mk, .ref tl, .ref sh, .int 0, .int 0])), (sh, .inr (6, [.ref la, .ref si, .ref ce, .int 0, .int 0, .ref fi, .ref se])), (la, .inl (G 0, 4, .inl (upd (upd (upd (upd (fun _ => 0) 0 (-1)) 1 (-1)) 2 (-1)) 3 (-1)))), (wy, .inr (9, [.int 0, .int 0, .int 5, .ref a1, .ref a2, .ref a3, .ref a4, .ref a5, .ref a6]))] sz) (va_Qi (fun (r : Int32) (u : Unit) => match u with | _ => (r = if (0 ≤ k.toInt ∧ k.toInt < 4) ∧ (0 ≤ lane.toInt ∧ lane.toInt ≤ 2) ∧ (0 ≤ n.toInt ∧ n.toInt ≤ 20) then 0 else -1) ∧ True) (fun _ _ => True) (va_A [(h0, .inr (10, [.ref rd, .ref wy, .ref tr, .ref im, .ref kp, .ref od, .ref ch, .ref cr, .ref le, .ref mk, .ref tl, .ref sh, .int 0, .int 0])), (sh, .inr (6, [.ref la, .ref si, .ref ce, .int 0, .int 0, .ref fi, .ref se])), (la, .inl (G 0, 4, .inl (upd (upd (upd (upd (fun _ => 0) 0 (-1)) 1 (-1)) 2 (-1)) 3 (-1)))), (wy, .inr (9, [.int 0, .int 0, .int 5, .ref a1, .ref a2, .ref a3, .ref a4, .ref a5, .ref a6]))] sz)) 0 0 (va_A [(h0, .inr (10, [.ref rd, .ref wy, .ref tr, .ref im, .ref kp, .ref od, .ref ch, .ref cr, .ref le, .ref mk, .ref tl, .ref sh, .int 0, .int 0])), (sh, .inr (6, [.ref la, .ref si, .ref ce, .int 0, .int 0, .ref fi, .ref se])), (la, .inl (G 0, 4, .inl (upd (upd (upd (upd (fun _ => 0) 0 (-1)) 1 (-1)) 2 (-1)) 3 (-1)))), (wy, .inr (9, [.int 0, .int 0, .int 5, .ref a1, .ref a2, .ref a3, .ref a4, .ref a5, .ref a6]))] sz) := by
  refine Met.ofW (cc := cX10_read) (maxL := 6) (ret := (some .int)) (by decide) rfl ?_
  intro p e s m args below meth c s₁ B hml hv
  obtain ⟨rfl, hsz, hP, hK, hD0⟩ := hv
  have hx := B.exec
  have hb := B.bytes
  have hr := B.returns
  have hg : ∀ w ∈ GT, w.before ([.ref h0, .int k, .int lane, .int f, .int n] : List Value).toArray s = true := fun w h => atoms_spec (ws := Cond.code yX10_read cX10_read 6 (some .int) :: GT) B.pre w (List.mem_cons_of_mem _ h)
  have hown : s.vm.findClass RX10 = some m.cls := findClass_of_methodNamed B.named
  have hlocks := B.notSynchronized
  subst hsz
  have hD := hD0.self (sz := s.heap.size)
  generalize hAe : va_A [(h0, .inr (10, [.ref rd, .ref wy, .ref tr, .ref im, .ref kp, .ref od, .ref ch, .ref cr, .ref le, .ref mk, .ref tl, .ref sh, .int 0, .int 0])), (sh, .inr (6, [.ref la, .ref si, .ref ce, .int 0, .int 0, .ref fi, .ref se])), (la, .inl (G 0, 4, .inl (upd (upd (upd (upd (fun _ => 0) 0 (-1)) 1 (-1)) 2 (-1)) 3 (-1)))), (wy, .inr (9, [.int 0, .int 0, .int 5, .ref a1, .ref a2, .ref a3, .ref a4, .ref a5, .ref a6]))] s.heap.size = A at hD ⊢
  have hA : ∀ q : Nat, s.heap.size ≤ q → A q := fun q h => by rw [← hAe]; exact Or.inr h
  have hS : va_S A s.heap s.heap [] := va_S.rf
  have hl := lv_entry ([.ref h0, .int k, .int lane, .int f, .int n]) (n := 6) (Nat.le_of_ble_eq_true rfl)
  rw [lg_entry_eq]
  generalize (lg_sl ([.ref h0, .int k, .int lane, .int f, .int n]) ++ List.replicate (6 - (lg_sl ([.ref h0, .int k, .int lane, .int f, .int n])).length) Slot.unset).toArray = ls at hl ⊢
  have hl : lv_has ls 6 [(0, .ref h0), (1, .int k), (2, .int lane), (3, .int f), (4, .int n)] := hl
  refine lv_iload_n hx hb dX10_read_0 rfl (lv_at hl 1 rfl) ?_
  have hPc := hP.sub (ws' := []) [] rfl
  refine va_calli (va_runSN (As := [.int k]) (rest := []) ⟨hx, hb, hml, hown, hg⟩ (c_X6_isSheet l dC dI G _ k ) (kwSN hg hK mfX6_isSheet wn_823 ⟨Nat.le_of_ble_eq_true rfl, Nat.le_of_ble_eq_true rfl⟩) (preSR hK hPc) rfl rfl hl.1 rfl (lv_room (Nat.le_of_ble_eq_true rfl)) dX10_read_1 ⟨Nat.le_of_ble_eq_true rfl, Nat.le_of_ble_eq_true rfl⟩) hS (fun q h1 h2 => absurd h2 (Nat.not_le.mpr h1)) (fun q h => hA q (Nat.le_trans hS.1 h)) (fun r1 ur1 t H1 locs ht hvm w2 hB hz1 hk1 hS => ?_)
  have hP := keepR hP hk1
  obtain ⟨w2, w2x⟩ := w2
  try simp only [l_ii, show (0 : Int32).toInt = 0 from by decide, show (4 : Int32).toInt = 4 from by decide] at w2
  subst w2
  refine lv_if_eq (tgt := 26) hx hb dX10_read_4 (by decide) (fun c3 => ?_) (fun c3 => ?_)
  · skip
    have b4 := if10_n c3
    refine lv_iconst (v := (-1)) hx hb dX10_read_26 (by decide) ?_
    have hpost : ((-1) : Int32) = if (0 ≤ k.toInt ∧ k.toInt < 4) ∧ (0 ≤ lane.toInt ∧ lane.toInt ≤ 2) ∧ (0 ≤ n.toInt ∧ n.toInt ≤ 20) then 0 else -1 := by
      have t_b4 := b4
      first | rfl | ((repeat' split) <;> first | rfl | omega)
    refine W.widen (k := 0) (n := 0) (by omega) (by omega) ?_
    exact W.iret (v := (-1)) hx hb hr (fun t ht hW => ⟨⟨(-1), (), rfl, ⟨hpost, trivial⟩, trivial⟩, hS.F ht⟩) hS.2.2 dX10_read_27
  · skip
    have b5 := if10_p c3
    refine lv_iload_n hx hb dX10_read_7 rfl (lv_at hl 2 rfl) ?_
    have hPc := hP.sub (ws' := []) [] rfl
    refine va_calli (va_runSN (As := [.int lane]) (rest := []) ⟨hx, hb, hml, hown, hg⟩ (c_X6_isLane l dC dI G _ lane ) (kwSN hg hK mfX6_isLane wn_826 ⟨Nat.le_of_ble_eq_true rfl, Nat.le_of_ble_eq_true rfl⟩) (preSR hK hPc) rfl rfl hl.1 rfl (lv_room (Nat.le_of_ble_eq_true rfl)) dX10_read_8 ⟨Nat.le_of_ble_eq_true rfl, Nat.le_of_ble_eq_true rfl⟩) hS (fun q h1 h2 => absurd h2 (Nat.not_le.mpr h1)) (fun q h => hA q (Nat.le_trans hS.1 h)) (fun r6 ur6 t H1 locs ht hvm w7 hB hz1 hk1 hS => ?_)
    have hP := keepR hP hk1
    obtain ⟨w7, w7x⟩ := w7
    try simp only [l_ii, show (0 : Int32).toInt = 0 from by decide, show (2 : Int32).toInt = 2 from by decide] at w7
    subst w7
    refine lv_if_eq (tgt := 26) hx hb dX10_read_11 (by decide) (fun c8 => ?_) (fun c8 => ?_)
    · skip
      have b9 := if10_n c8
      refine lv_iconst (v := (-1)) hx hb dX10_read_26 (by decide) ?_
      have hpost : ((-1) : Int32) = if (0 ≤ k.toInt ∧ k.toInt < 4) ∧ (0 ≤ lane.toInt ∧ lane.toInt ≤ 2) ∧ (0 ≤ n.toInt ∧ n.toInt ≤ 20) then 0 else -1 := by
        have t_b5 := b5
        have t_b9 := b9
        first | rfl | ((repeat' split) <;> first | rfl | omega)
      refine W.widen (k := 0) (n := 0) (by omega) (by omega) ?_
      exact W.iret (v := (-1)) hx hb hr (fun t ht hW => ⟨⟨(-1), (), rfl, ⟨hpost, trivial⟩, trivial⟩, hS.F ht⟩) hS.2.2 dX10_read_27
    · skip
      have b10 := if10_p c8
      refine lv_iload hx hb dX10_read_14 (lv_at hl 4 rfl) ?_
      refine lv_if_lt (tgt := 26) hx hb dX10_read_16 (by decide) (fun c11 => ?_) (fun c11 => ?_)
      · skip
        refine lv_iconst (v := (-1)) hx hb dX10_read_26 (by decide) ?_
        have hpost : ((-1) : Int32) = if (0 ≤ k.toInt ∧ k.toInt < 4) ∧ (0 ≤ lane.toInt ∧ lane.toInt ≤ 2) ∧ (0 ≤ n.toInt ∧ n.toInt ≤ 20) then 0 else -1 := by
          have t_b5 := b5
          have t_b10 := b10
          have t_c11 := ltI c11
          have : (0 : Int32).toInt = 0 := (by decide)
          first | rfl | ((repeat' split) <;> first | rfl | omega)
        refine W.widen (k := 0) (n := 0) (by omega) (by omega) ?_
        exact W.iret (v := (-1)) hx hb hr (fun t ht hW => ⟨⟨(-1), (), rfl, ⟨hpost, trivial⟩, trivial⟩, hS.F ht⟩) hS.2.2 dX10_read_27
      · skip
        refine lv_iload hx hb dX10_read_19 (lv_at hl 4 rfl) ?_
        refine lv_bipush (v := 20) hx hb dX10_read_21 (by decide) ?_
        refine lv_icmp_le (tgt := 28) hx hb dX10_read_23 (by decide) (fun c12 => ?_) (fun c12 => ?_)
        · skip
          refine lv_aload_n hx hb dX10_read_28 rfl (lv_at hl 0 rfl) ?_
          refine va_get (D := (dC, dI)) (ci := 10) (v := .ref sh) (C := RX10) (T := TX10) (N := 14) hx hb hg inG10 hown hK.1 hP 0 rfl rfl 11 (by decide) (hg _ wt_313) (fun _ h9 => h9) rfl dX10_read_29 ?_
          refine lv_iload_n hx hb dX10_read_32 rfl (lv_at hl 1 rfl) ?_
          refine lv_iload_n hx hb dX10_read_33 rfl (lv_at hl 2 rfl) ?_
          refine lv_iload_n hx hb dX10_read_34 rfl (lv_at hl 3 rfl) ?_
          refine lv_iload hx hb dX10_read_35 (lv_at hl 4 rfl) ?_
          have hPc := hP.sub (ws' := [(sh, .inr (6, [.ref la, .ref si, .ref ce, .int 0, .int 0, .ref fi, .ref se])), (la, .inl (G 0, 4, .inl (upd (upd (upd (upd (fun _ => 0) 0 (-1)) 1 (-1)) 2 (-1)) 3 (-1))))]) [1, 2] rfl
          have hDc := hD.sub (ws' := [(sh, .inr (6, [.ref la, .ref si, .ref ce, .int 0, .int 0, .ref fi, .ref se])), (la, .inl (G 0, 4, .inl (upd (upd (upd (upd (fun _ => 0) 0 (-1)) 1 (-1)) 2 (-1)) 3 (-1))))]) [1, 2] (by decide) rfl
          have hFc := va_free (wc := [(sh, .inr (6, [.ref la, .ref si, .ref ce, .int 0, .int 0, .ref fi, .ref se])), (la, .inl (G 0, 4, .inl (upd (upd (upd (upd (fun _ => 0) 0 (-1)) 1 (-1)) 2 (-1)) 3 (-1))))]) hD hS hA [1, 2] rfl
          refine va_callv (va_runVN (As := [.int k, .int lane, .int f, .int n]) (rest := []) ⟨hx, hb, hml, hown, hg⟩ (c_X6_takePairs l dC dI G _ sh la si ce fi se k lane f n (by have t_b5 := b5; have t_b10 := b10; have t_c11 := nltI c11; have t_c12 := leI c12; have : (0 : Int32).toInt = 0 := (by decide); have : (20 : Int32).toInt = 20 := (by decide); omega)) (kwVN hg hK mfX6_takePairs wn_851 ⟨Nat.le_of_ble_eq_true rfl, Nat.le_of_ble_eq_true rfl⟩) (preVW hK hPc hDc (ci := 6) rfl rfl) rfl rfl hl.1 rfl (lv_room (Nat.le_of_ble_eq_true rfl)) dX10_read_37 ⟨Nat.le_of_ble_eq_true rfl, Nat.le_of_ble_eq_true rfl⟩) hS (fun q _ h => hFc q h) hFc (fun ur13 t H1 locs ht hvm w14 hB hz1 hk1 hS => ?_)
          obtain ⟨u15, rfl⟩ : ∃ z, z = ur13 := ⟨_, rfl⟩
          obtain ⟨hP1, hD1⟩ := hB
          rw [ht] at hP1
          obtain ⟨hP, hD⟩ := va_join (wr := [(h0, .inr (10, [.ref rd, .ref wy, .ref tr, .ref im, .ref kp, .ref od, .ref ch, .ref cr, .ref le, .ref mk, .ref tl, .ref sh, .int 0, .int 0])), (wy, .inr (9, [.int 0, .int 0, .int 5, .ref a1, .ref a2, .ref a3, .ref a4, .ref a5, .ref a6]))]) (w1 := [(sh, .inr (6, [.ref la, .ref si, .ref ce, .int u15, .int 0, .ref fi, .ref se]))]) hP hD [1, 2] [0, 3] rfl rfl (by decide) (by decide) hk1 hFc hP1 hD1
          generalize H1 = H at hP hS ⊢
          have hP : va_P (dC, dI) vwCl [(h0, .inr (10, [.ref rd, .ref wy, .ref tr, .ref im, .ref kp, .ref od, .ref ch, .ref cr, .ref le, .ref mk, .ref tl, .ref sh, .int 0, .int 0])), (wy, .inr (9, [.int 0, .int 0, .int 5, .ref a1, .ref a2, .ref a3, .ref a4, .ref a5, .ref a6])), (sh, .inr (6, [.ref la, .ref si, .ref ce, .int u15, .int 0, .ref fi, .ref se]))] H := hP
          have hD : va_D A [(h0, .inr (10, [.ref rd, .ref wy, .ref tr, .ref im, .ref kp, .ref od, .ref ch, .ref cr, .ref le, .ref mk, .ref tl, .ref sh, .int 0, .int 0])), (wy, .inr (9, [.int 0, .int 0, .int 5, .ref a1, .ref a2, .ref a3, .ref a4, .ref a5, .ref a6])), (sh, .inr (6, [.ref la, .ref si, .ref ce, .int u15, .int 0, .ref fi, .ref se]))] := hD
          refine lv_iconst (v := 0) hx hb dX10_read_40 (by decide) ?_
          refine lv_istore (lv' := [(5, .int 0), (0, .ref h0), (1, .int k), (2, .int lane), (3, .int f), (4, .int n)]) hx hb dX10_read_41 hl (by decide) rfl (fun ls hl => ?_)
          refine lv_iload hx hb dX10_read_43 (lv_at hl 0 rfl) ?_
          refine lv_aload_n hx hb dX10_read_45 rfl (lv_at hl 1 rfl) ?_
          refine va_get (D := (dC, dI)) (ci := 10) (v := .ref sh) (C := RX10) (T := TX10) (N := 14) hx hb hg inG10 hown hK.1 hP 0 rfl rfl 11 (by decide) (hg _ wt_313) (fun _ h9 => h9) rfl dX10_read_46 ?_
          refine va_getN (D := (dC, dI)) (ci := 6) (v := .int 0) (C := RX6) (T := TX6) (N := 7) hx hb hg inG6 hown hK.1 hP 2 rfl rfl 4 (by decide) (hK.nest wn_282) (fun _ h9 => h9) rfl dX10_read_49 ?_
          refine lv_icmp_ge (tgt := 107) hx hb dX10_read_52 (by decide) (fun c16 => ?_) (fun c16 => ?_)
          · skip
            refine lv_iconst (v := 0) hx hb dX10_read_107 (by decide) ?_
            refine lv_istore (lv' := [(5, .int 0), (0, .ref h0), (1, .int k), (2, .int lane), (3, .int f), (4, .int n)]) hx hb dX10_read_108 hl (by decide) rfl (fun ls hl => ?_)
            refine lv_iload hx hb dX10_read_110 (lv_at hl 0 rfl) ?_
            refine lv_aload_n hx hb dX10_read_112 rfl (lv_at hl 1 rfl) ?_
            refine va_get (D := (dC, dI)) (ci := 10) (v := .ref sh) (C := RX10) (T := TX10) (N := 14) hx hb hg inG10 hown hK.1 hP 0 rfl rfl 11 (by decide) (hg _ wt_313) (fun _ h9 => h9) rfl dX10_read_113 ?_
            refine va_getN (D := (dC, dI)) (ci := 6) (v := .int 0) (C := RX6) (T := TX6) (N := 7) hx hb hg inG6 hown hK.1 hP 2 rfl rfl 4 (by decide) (hK.nest wn_282) (fun _ h9 => h9) rfl dX10_read_116 ?_
            refine lv_icmp_ge (tgt := 156) hx hb dX10_read_119 (by decide) (fun c17 => ?_) (fun c17 => ?_)
            · skip
              refine lv_aload_n hx hb dX10_read_156 rfl (lv_at hl 1 rfl) ?_
              refine lv_aload_n hx hb dX10_read_157 rfl (lv_at hl 1 rfl) ?_
              refine va_get (D := (dC, dI)) (ci := 10) (v := .ref sh) (C := RX10) (T := TX10) (N := 14) hx hb hg inG10 hown hK.1 hP 0 rfl rfl 11 (by decide) (hg _ wt_313) (fun _ h9 => h9) rfl dX10_read_158 ?_
              refine va_getN (D := (dC, dI)) (ci := 6) (v := .int u15) (C := RX6) (T := TX6) (N := 7) hx hb hg inG6 hown hK.1 hP 2 rfl rfl 3 (by decide) (hK.nest wn_280) (fun _ h9 => h9) rfl dX10_read_161 ?_
              refine va_put (D := (dC, dI)) (ci := 10) (v := .int u15) (ty := .int) (C := RX10) (T := TX10) (N := 14) hx hb hg inG10 tyX10 tyX10_ok nmX10 hown hK.1 hP hD hS 0 rfl rfl 13 (by decide) (hg _ wt_315) (fun _ h9 => h9) rfl (by decide +kernel) rfl rfl (Nat.le_of_ble_eq_true rfl) dX10_read_164 (fun H locs hP hD hS => ?_)
              have hP : va_P (dC, dI) vwCl [(h0, .inr (10, [.ref rd, .ref wy, .ref tr, .ref im, .ref kp, .ref od, .ref ch, .ref cr, .ref le, .ref mk, .ref tl, .ref sh, .int 0, .int u15])), (wy, .inr (9, [.int 0, .int 0, .int 5, .ref a1, .ref a2, .ref a3, .ref a4, .ref a5, .ref a6])), (sh, .inr (6, [.ref la, .ref si, .ref ce, .int u15, .int 0, .ref fi, .ref se]))] H := hP
              have hD : va_D A [(h0, .inr (10, [.ref rd, .ref wy, .ref tr, .ref im, .ref kp, .ref od, .ref ch, .ref cr, .ref le, .ref mk, .ref tl, .ref sh, .int 0, .int u15])), (wy, .inr (9, [.int 0, .int 0, .int 5, .ref a1, .ref a2, .ref a3, .ref a4, .ref a5, .ref a6])), (sh, .inr (6, [.ref la, .ref si, .ref ce, .int u15, .int 0, .ref fi, .ref se]))] := hD
              refine lv_aload_n hx hb dX10_read_167 rfl (lv_at hl 1 rfl) ?_
              refine va_get (D := (dC, dI)) (ci := 10) (v := .ref sh) (C := RX10) (T := TX10) (N := 14) hx hb hg inG10 hown hK.1 hP 0 rfl rfl 11 (by decide) (hg _ wt_313) (fun _ h9 => h9) rfl dX10_read_168 ?_
              refine va_getN (D := (dC, dI)) (ci := 6) (v := .int 0) (C := RX6) (T := TX6) (N := 7) hx hb hg inG6 hown hK.1 hP 2 rfl rfl 4 (by decide) (hK.nest wn_282) (fun _ h9 => h9) rfl dX10_read_171 ?_
              have hpost : (0 : Int32) = if (0 ≤ k.toInt ∧ k.toInt < 4) ∧ (0 ≤ lane.toInt ∧ lane.toInt ≤ 2) ∧ (0 ≤ n.toInt ∧ n.toInt ≤ 20) then 0 else -1 := by
                have t_b5 := b5
                have t_b10 := b10
                have t_c11 := nltI c11
                have t_c12 := leI c12
                have t_c16 := leI c16
                have t_c17 := leI c17
                have : (0 : Int32).toInt = 0 := (by decide)
                have : (20 : Int32).toInt = 20 := (by decide)
                first | rfl | ((repeat' split) <;> first | rfl | omega)
              refine W.widen (k := 0) (n := 0) (by omega) (by omega) ?_
              exact W.iret (v := 0) hx hb hr (fun t ht hW => ⟨⟨0, (), rfl, ⟨hpost, trivial⟩, trivial⟩, hS.F ht⟩) hS.2.2 dX10_read_174
            · skip
              exact absurd c17 (by decide)
          · skip
            exact absurd c16 (by decide)
        · skip
          refine lv_iconst (v := (-1)) hx hb dX10_read_26 (by decide) ?_
          have hpost : ((-1) : Int32) = if (0 ≤ k.toInt ∧ k.toInt < 4) ∧ (0 ≤ lane.toInt ∧ lane.toInt ≤ 2) ∧ (0 ≤ n.toInt ∧ n.toInt ≤ 20) then 0 else -1 := by
            have t_b5 := b5
            have t_b10 := b10
            have t_c11 := nltI c11
            have t_c12 := nleI c12
            have : (0 : Int32).toInt = 0 := (by decide)
            have : (20 : Int32).toInt = 20 := (by decide)
            first | rfl | ((repeat' split) <;> first | rfl | omega)
          refine W.widen (k := 0) (n := 0) (by omega) (by omega) ?_
          exact W.iret (v := (-1)) hx hb hr (fun t ht hW => ⟨⟨(-1), (), rfl, ⟨hpost, trivial⟩, trivial⟩, hS.F ht⟩) hS.2.2 dX10_read_27

set_option maxHeartbeats 4000000 in
set_option maxRecDepth 100000 in
theorem c_X10_torn (l : Launch) (dC : Nat → ClassId) (dI : Nat → Nat → Nat) (G : Nat → ClassId) (sz : Nat) (h0 rd wy tr im kp od ch cr le mk tl sh : Nat)   : Met l yX10_torn (Cond.code yX10_torn cX10_torn 1 (some .int) :: GT) ({ frames := 0, cells := 0, slots := 0, locals := 0 } : Room) (PcW [.ref h0] dC dI G [(h0, .inr (10, [.ref rd, .ref wy, .ref tr, .ref im, .ref kp, .ref od, .ref ch, .ref cr, .ref le, .ref mk, .ref tl, .ref sh, .int 0, .int 0]))] sz) (va_Qi (fun (r : Int32) (u : Unit) => match u with | _ => (r = 0) ∧ True) (fun _ _ => True) (va_A [(h0, .inr (10, [.ref rd, .ref wy, .ref tr, .ref im, .ref kp, .ref od, .ref ch, .ref cr, .ref le, .ref mk, .ref tl, .ref sh, .int 0, .int 0]))] sz)) 0 0 (va_A [(h0, .inr (10, [.ref rd, .ref wy, .ref tr, .ref im, .ref kp, .ref od, .ref ch, .ref cr, .ref le, .ref mk, .ref tl, .ref sh, .int 0, .int 0]))] sz) := by
  refine Met.ofW (cc := cX10_torn) (maxL := 1) (ret := (some .int)) (by decide) rfl ?_
  intro p e s m args below meth c s₁ B hml hv
  obtain ⟨rfl, hsz, hP, hK, hD0⟩ := hv
  have hx := B.exec
  have hb := B.bytes
  have hr := B.returns
  have hg : ∀ w ∈ GT, w.before ([.ref h0] : List Value).toArray s = true := fun w h => atoms_spec (ws := Cond.code yX10_torn cX10_torn 1 (some .int) :: GT) B.pre w (List.mem_cons_of_mem _ h)
  have hown : s.vm.findClass RX10 = some m.cls := findClass_of_methodNamed B.named
  have hlocks := B.notSynchronized
  subst hsz
  have hD := hD0.self (sz := s.heap.size)
  generalize hAe : va_A [(h0, .inr (10, [.ref rd, .ref wy, .ref tr, .ref im, .ref kp, .ref od, .ref ch, .ref cr, .ref le, .ref mk, .ref tl, .ref sh, .int 0, .int 0]))] s.heap.size = A at hD ⊢
  have hA : ∀ q : Nat, s.heap.size ≤ q → A q := fun q h => by rw [← hAe]; exact Or.inr h
  have hS : va_S A s.heap s.heap [] := va_S.rf
  have hl := lv_entry ([.ref h0]) (n := 1) (Nat.le_of_ble_eq_true rfl)
  rw [lg_entry_eq]
  generalize (lg_sl ([.ref h0]) ++ List.replicate (1 - (lg_sl ([.ref h0])).length) Slot.unset).toArray = ls at hl ⊢
  have hl : lv_has ls 1 [(0, .ref h0)] := hl
  refine lv_aload_n hx hb dX10_torn_0 rfl (lv_at hl 0 rfl) ?_
  refine va_get (D := (dC, dI)) (ci := 10) (v := .int 0) (C := RX10) (T := TX10) (N := 14) hx hb hg inG10 hown hK.1 hP 0 rfl rfl 13 (by decide) (hg _ wt_315) (fun _ h9 => h9) rfl dX10_torn_1 ?_
  have hpost : (0 : Int32) = 0 := by
    first | rfl | ((repeat' split) <;> first | rfl | omega)
  refine W.widen (k := 0) (n := 0) (by omega) (by omega) ?_
  exact W.iret (v := 0) hx hb hr (fun t ht hW => ⟨⟨0, (), rfl, ⟨hpost, trivial⟩, trivial⟩, hS.F ht⟩) hS.2.2 dX10_torn_4

set_option maxHeartbeats 4000000 in
set_option maxRecDepth 100000 in
theorem c_X10_count (l : Launch) (dC : Nat → ClassId) (dI : Nat → Nat → Nat) (G : Nat → ClassId) (sz : Nat) (h0 rd wy tr im kp od ch cr le mk tl sh l1 l2 l3 l4 m1 m2 tp td ta a1 a2 a3 a4 a5 a6 la si ce fi se : Nat) (what : Int32)   : Met l yX10_count (Cond.code yX10_count cX10_count 2 (some .int) :: GT) ({ frames := 1, cells := 0, slots := 0, locals := 22 } : Room) (PcW [.ref h0, .int what] dC dI G [(h0, .inr (10, [.ref rd, .ref wy, .ref tr, .ref im, .ref kp, .ref od, .ref ch, .ref cr, .ref le, .ref mk, .ref tl, .ref sh, .int 0, .int 0])), (le, .inr (2, [.int 0, .ref l1, .ref l2, .ref l3, .ref l4])), (mk, .inr (3, [.int 0, .ref m1, .ref m2])), (kp, .inl (G 2, 2, .inl (fun _ => 0))), (rd, .inr (5, [.ref tp, .ref td, .int 0, .int 0, .int 0, .int 0, .int 0, .int 0, .int 0, .int 0, .int 0, .int 0])), (tp, .inr (7, [.int 0, .ref ta])), (wy, .inr (9, [.int 0, .int 0, .int 5, .ref a1, .ref a2, .ref a3, .ref a4, .ref a5, .ref a6])), (sh, .inr (6, [.ref la, .ref si, .ref ce, .int 0, .int 0, .ref fi, .ref se])), (la, .inl (G 0, 4, .inl (upd (upd (upd (upd (fun _ => 0) 0 (-1)) 1 (-1)) 2 (-1)) 3 (-1))))] sz) (va_Qi (fun (r : Int32) (u : Unit) => match u with | _ => (r = if what.toInt = 0 then 0 else if what.toInt = 1 then 0 else if what.toInt = 2 then 0 else if what.toInt = 3 then 0 else if what.toInt = 4 then -4 else if what.toInt = 5 then 0 else -1) ∧ True) (fun _ _ => True) (va_A [(h0, .inr (10, [.ref rd, .ref wy, .ref tr, .ref im, .ref kp, .ref od, .ref ch, .ref cr, .ref le, .ref mk, .ref tl, .ref sh, .int 0, .int 0])), (le, .inr (2, [.int 0, .ref l1, .ref l2, .ref l3, .ref l4])), (mk, .inr (3, [.int 0, .ref m1, .ref m2])), (kp, .inl (G 2, 2, .inl (fun _ => 0))), (rd, .inr (5, [.ref tp, .ref td, .int 0, .int 0, .int 0, .int 0, .int 0, .int 0, .int 0, .int 0, .int 0, .int 0])), (tp, .inr (7, [.int 0, .ref ta])), (wy, .inr (9, [.int 0, .int 0, .int 5, .ref a1, .ref a2, .ref a3, .ref a4, .ref a5, .ref a6])), (sh, .inr (6, [.ref la, .ref si, .ref ce, .int 0, .int 0, .ref fi, .ref se])), (la, .inl (G 0, 4, .inl (upd (upd (upd (upd (fun _ => 0) 0 (-1)) 1 (-1)) 2 (-1)) 3 (-1))))] sz)) 0 0 (va_A [(h0, .inr (10, [.ref rd, .ref wy, .ref tr, .ref im, .ref kp, .ref od, .ref ch, .ref cr, .ref le, .ref mk, .ref tl, .ref sh, .int 0, .int 0])), (le, .inr (2, [.int 0, .ref l1, .ref l2, .ref l3, .ref l4])), (mk, .inr (3, [.int 0, .ref m1, .ref m2])), (kp, .inl (G 2, 2, .inl (fun _ => 0))), (rd, .inr (5, [.ref tp, .ref td, .int 0, .int 0, .int 0, .int 0, .int 0, .int 0, .int 0, .int 0, .int 0, .int 0])), (tp, .inr (7, [.int 0, .ref ta])), (wy, .inr (9, [.int 0, .int 0, .int 5, .ref a1, .ref a2, .ref a3, .ref a4, .ref a5, .ref a6])), (sh, .inr (6, [.ref la, .ref si, .ref ce, .int 0, .int 0, .ref fi, .ref se])), (la, .inl (G 0, 4, .inl (upd (upd (upd (upd (fun _ => 0) 0 (-1)) 1 (-1)) 2 (-1)) 3 (-1))))] sz) := by
  refine Met.ofW (cc := cX10_count) (maxL := 2) (ret := (some .int)) (by decide) rfl ?_
  intro p e s m args below meth c s₁ B hml hv
  obtain ⟨rfl, hsz, hP, hK, hD0⟩ := hv
  have hx := B.exec
  have hb := B.bytes
  have hr := B.returns
  have hg : ∀ w ∈ GT, w.before ([.ref h0, .int what] : List Value).toArray s = true := fun w h => atoms_spec (ws := Cond.code yX10_count cX10_count 2 (some .int) :: GT) B.pre w (List.mem_cons_of_mem _ h)
  have hown : s.vm.findClass RX10 = some m.cls := findClass_of_methodNamed B.named
  have hlocks := B.notSynchronized
  subst hsz
  have hD := hD0.self (sz := s.heap.size)
  generalize hAe : va_A [(h0, .inr (10, [.ref rd, .ref wy, .ref tr, .ref im, .ref kp, .ref od, .ref ch, .ref cr, .ref le, .ref mk, .ref tl, .ref sh, .int 0, .int 0])), (le, .inr (2, [.int 0, .ref l1, .ref l2, .ref l3, .ref l4])), (mk, .inr (3, [.int 0, .ref m1, .ref m2])), (kp, .inl (G 2, 2, .inl (fun _ => 0))), (rd, .inr (5, [.ref tp, .ref td, .int 0, .int 0, .int 0, .int 0, .int 0, .int 0, .int 0, .int 0, .int 0, .int 0])), (tp, .inr (7, [.int 0, .ref ta])), (wy, .inr (9, [.int 0, .int 0, .int 5, .ref a1, .ref a2, .ref a3, .ref a4, .ref a5, .ref a6])), (sh, .inr (6, [.ref la, .ref si, .ref ce, .int 0, .int 0, .ref fi, .ref se])), (la, .inl (G 0, 4, .inl (upd (upd (upd (upd (fun _ => 0) 0 (-1)) 1 (-1)) 2 (-1)) 3 (-1))))] s.heap.size = A at hD ⊢
  have hA : ∀ q : Nat, s.heap.size ≤ q → A q := fun q h => by rw [← hAe]; exact Or.inr h
  have hS : va_S A s.heap s.heap [] := va_S.rf
  have hl := lv_entry ([.ref h0, .int what]) (n := 2) (Nat.le_of_ble_eq_true rfl)
  rw [lg_entry_eq]
  generalize (lg_sl ([.ref h0, .int what]) ++ List.replicate (2 - (lg_sl ([.ref h0, .int what])).length) Slot.unset).toArray = ls at hl ⊢
  have hl : lv_has ls 2 [(0, .ref h0), (1, .int what)] := hl
  refine lv_iload_n hx hb dX10_count_0 rfl (lv_at hl 1 rfl) ?_
  by_cases c1 : what = 0
  · skip
    refine lv_cg c1 ?_
    refine lv_tableIn (tgt := 40) hx hb dX10_count_1 (by decide) (by decide) rfl (by decide) ?_
    refine lv_aload_n hx hb dX10_count_40 rfl (lv_at hl 0 rfl) ?_
    refine va_get (D := (dC, dI)) (ci := 10) (v := .ref le) (C := RX10) (T := TX10) (N := 14) hx hb hg inG10 hown hK.1 hP 0 rfl rfl 8 (by decide) (hg _ wt_310) (fun _ h9 => h9) rfl dX10_count_41 ?_
    refine va_getN (D := (dC, dI)) (ci := 2) (v := .int 0) (C := RX2) (T := TX2) (N := 5) hx hb hg inG2 hown hK.1 hP 1 rfl rfl 0 (by decide) (hK.nest wn_218) (fun _ h9 => h9) rfl dX10_count_44 ?_
    have hpost : (0 : Int32) = if what.toInt = 0 then 0 else if what.toInt = 1 then 0 else if what.toInt = 2 then 0 else if what.toInt = 3 then 0 else if what.toInt = 4 then -4 else if what.toInt = 5 then 0 else -1 := by
      have t_c1 := eqI c1
      have : (0 : Int32).toInt = 0 := (by decide)
      first | rfl | ((repeat' split) <;> first | rfl | omega)
    refine W.widen (k := 0) (n := 0) (by omega) (by omega) ?_
    exact W.iret (v := 0) hx hb hr (fun t ht hW => ⟨⟨0, (), rfl, ⟨hpost, trivial⟩, trivial⟩, hS.F ht⟩) hS.2.2 dX10_count_47
  · skip
    by_cases c2 : what = 1
    · skip
      refine lv_cg c2 ?_
      refine lv_tableIn (tgt := 48) hx hb dX10_count_1 (by decide) (by decide) rfl (by decide) ?_
      refine lv_aload_n hx hb dX10_count_48 rfl (lv_at hl 0 rfl) ?_
      refine va_get (D := (dC, dI)) (ci := 10) (v := .ref mk) (C := RX10) (T := TX10) (N := 14) hx hb hg inG10 hown hK.1 hP 0 rfl rfl 9 (by decide) (hg _ wt_311) (fun _ h9 => h9) rfl dX10_count_49 ?_
      refine va_getN (D := (dC, dI)) (ci := 3) (v := .int 0) (C := RX3) (T := TX3) (N := 3) hx hb hg inG3 hown hK.1 hP 2 rfl rfl 0 (by decide) (hK.nest wn_241) (fun _ h9 => h9) rfl dX10_count_52 ?_
      have hpost : (0 : Int32) = if what.toInt = 0 then 0 else if what.toInt = 1 then 0 else if what.toInt = 2 then 0 else if what.toInt = 3 then 0 else if what.toInt = 4 then -4 else if what.toInt = 5 then 0 else -1 := by
        have t_c1 := neI c1
        have t_c2 := eqI c2
        have : (0 : Int32).toInt = 0 := (by decide)
        have : (1 : Int32).toInt = 1 := (by decide)
        first | rfl | ((repeat' split) <;> first | rfl | omega)
      refine W.widen (k := 0) (n := 0) (by omega) (by omega) ?_
      exact W.iret (v := 0) hx hb hr (fun t ht hW => ⟨⟨0, (), rfl, ⟨hpost, trivial⟩, trivial⟩, hS.F ht⟩) hS.2.2 dX10_count_55
    · skip
      by_cases c3 : what = 2
      · skip
        refine lv_cg c3 ?_
        refine lv_tableIn (tgt := 56) hx hb dX10_count_1 (by decide) (by decide) rfl (by decide) ?_
        refine lv_aload_n hx hb dX10_count_56 rfl (lv_at hl 0 rfl) ?_
        refine va_get (D := (dC, dI)) (ci := 10) (v := .ref kp) (C := RX10) (T := TX10) (N := 14) hx hb hg inG10 hown hK.1 hP 0 rfl rfl 4 (by decide) (hg _ wt_306) (fun _ h9 => h9) rfl dX10_count_57 ?_
        refine lv_iconst (v := 0) hx hb dX10_count_60 (by decide) ?_
        refine va_zald hx hb hK.1 hP 3 2 rfl rfl (vp_in_iff.mpr ⟨by decide, by decide⟩) dX10_count_61 ?_
        refine lv_cg (y := 0) (by rfl) ?_
        refine lv_if_eq (tgt := 69) hx hb dX10_count_62 (by decide) (fun c4 => ?_) (fun c4 => ?_)
        · skip
          refine lv_iconst (v := 0) hx hb dX10_count_69 (by decide) ?_
          refine lv_aload_n hx hb dX10_count_70 rfl (lv_at hl 0 rfl) ?_
          refine va_get (D := (dC, dI)) (ci := 10) (v := .ref kp) (C := RX10) (T := TX10) (N := 14) hx hb hg inG10 hown hK.1 hP 0 rfl rfl 4 (by decide) (hg _ wt_306) (fun _ h9 => h9) rfl dX10_count_71 ?_
          refine lv_iconst (v := 1) hx hb dX10_count_74 (by decide) ?_
          refine va_zald hx hb hK.1 hP 3 2 rfl rfl (vp_in_iff.mpr ⟨by decide, by decide⟩) dX10_count_75 ?_
          refine lv_cg (y := 0) (by rfl) ?_
          refine lv_if_eq (tgt := 83) hx hb dX10_count_76 (by decide) (fun c5 => ?_) (fun c5 => ?_)
          · skip
            refine lv_iconst (v := 0) hx hb dX10_count_83 (by decide) ?_
            refine lv_iadd hx hb dX10_count_84 ?_
            refine lv_cg (y := 0) (by decide) ?_
            have hpost : (0 : Int32) = if what.toInt = 0 then 0 else if what.toInt = 1 then 0 else if what.toInt = 2 then 0 else if what.toInt = 3 then 0 else if what.toInt = 4 then -4 else if what.toInt = 5 then 0 else -1 := by
              have t_c1 := neI c1
              have t_c2 := neI c2
              have t_c3 := eqI c3
              have t_c4 := eqI c4
              have t_c5 := eqI c5
              have : (0 : Int32).toInt = 0 := (by decide)
              have : (1 : Int32).toInt = 1 := (by decide)
              have : (2 : Int32).toInt = 2 := (by decide)
              first | rfl | ((repeat' split) <;> first | rfl | omega)
            refine W.widen (k := 0) (n := 0) (by omega) (by omega) ?_
            exact W.iret (v := 0) hx hb hr (fun t ht hW => ⟨⟨0, (), rfl, ⟨hpost, trivial⟩, trivial⟩, hS.F ht⟩) hS.2.2 dX10_count_85
          · skip
            exact absurd c5 (by decide)
        · skip
          exact absurd c4 (by decide)
      · skip
        by_cases c6 : what = 3
        · skip
          refine lv_cg c6 ?_
          refine lv_tableIn (tgt := 86) hx hb dX10_count_1 (by decide) (by decide) rfl (by decide) ?_
          refine lv_aload_n hx hb dX10_count_86 rfl (lv_at hl 0 rfl) ?_
          refine va_get (D := (dC, dI)) (ci := 10) (v := .ref rd) (C := RX10) (T := TX10) (N := 14) hx hb hg inG10 hown hK.1 hP 0 rfl rfl 0 (by decide) (hg _ wt_302) (fun _ h9 => h9) rfl dX10_count_87 ?_
          refine va_getN (D := (dC, dI)) (ci := 5) (v := .ref tp) (C := RX5) (T := TX5) (N := 12) hx hb hg inG5 hown hK.1 hP 4 rfl rfl 0 (by decide) (hK.nest wn_106) (fun _ h9 => h9) rfl dX10_count_90 ?_
          refine va_getN (D := (dC, dI)) (ci := 7) (v := .int 0) (C := RX7) (T := TX7) (N := 2) hx hb hg inG7 hown hK.1 hP 5 rfl rfl 0 (by decide) (hK.nest wn_42) (fun _ h9 => h9) rfl dX10_count_93 ?_
          have hpost : (0 : Int32) = if what.toInt = 0 then 0 else if what.toInt = 1 then 0 else if what.toInt = 2 then 0 else if what.toInt = 3 then 0 else if what.toInt = 4 then -4 else if what.toInt = 5 then 0 else -1 := by
            have t_c1 := neI c1
            have t_c2 := neI c2
            have t_c3 := neI c3
            have t_c6 := eqI c6
            have : (0 : Int32).toInt = 0 := (by decide)
            have : (1 : Int32).toInt = 1 := (by decide)
            have : (2 : Int32).toInt = 2 := (by decide)
            have : (3 : Int32).toInt = 3 := (by decide)
            first | rfl | ((repeat' split) <;> first | rfl | omega)
          refine W.widen (k := 0) (n := 0) (by omega) (by omega) ?_
          exact W.iret (v := 0) hx hb hr (fun t ht hW => ⟨⟨0, (), rfl, ⟨hpost, trivial⟩, trivial⟩, hS.F ht⟩) hS.2.2 dX10_count_96
        · skip
          by_cases c7 : what = 4
          · skip
            refine lv_cg c7 ?_
            refine lv_tableIn (tgt := 97) hx hb dX10_count_1 (by decide) (by decide) rfl (by decide) ?_
            refine lv_aload_n hx hb dX10_count_97 rfl (lv_at hl 0 rfl) ?_
            refine va_get (D := (dC, dI)) (ci := 10) (v := .ref sh) (C := RX10) (T := TX10) (N := 14) hx hb hg inG10 hown hK.1 hP 0 rfl rfl 11 (by decide) (hg _ wt_313) (fun _ h9 => h9) rfl dX10_count_98 ?_
            refine lv_iconst (v := 0) hx hb dX10_count_101 (by decide) ?_
            have hPc := hP.sub (ws' := [(sh, .inr (6, [.ref la, .ref si, .ref ce, .int 0, .int 0, .ref fi, .ref se])), (la, .inl (G 0, 4, .inl (upd (upd (upd (upd (fun _ => 0) 0 (-1)) 1 (-1)) 2 (-1)) 3 (-1))))]) [7, 8] rfl
            refine va_calli (va_runVN (As := [.int 0]) (rest := []) ⟨hx, hb, hml, hown, hg⟩ (c_X6_sizeOf l dC dI G _ sh la si ce fi se ) (kwVN hg hK mfX6_sizeOf wn_864 ⟨Nat.le_of_ble_eq_true rfl, Nat.le_of_ble_eq_true rfl⟩) (preVR hK hPc (ci := 6) rfl rfl) rfl rfl hl.1 rfl (lv_room (Nat.le_of_ble_eq_true rfl)) dX10_count_102 ⟨Nat.le_of_ble_eq_true rfl, Nat.le_of_ble_eq_true rfl⟩) hS (fun q h1 h2 => absurd h2 (Nat.not_le.mpr h1)) (fun q h => hA q (Nat.le_trans hS.1 h)) (fun r8 ur8 t H1 locs ht hvm w9 hB hz1 hk1 hS => ?_)
            have hP := keepR hP hk1
            obtain ⟨w9, w9x⟩ := w9
            subst w9
            have hpost : ((-4) : Int32) = if what.toInt = 0 then 0 else if what.toInt = 1 then 0 else if what.toInt = 2 then 0 else if what.toInt = 3 then 0 else if what.toInt = 4 then -4 else if what.toInt = 5 then 0 else -1 := by
              have t_c1 := neI c1
              have t_c2 := neI c2
              have t_c3 := neI c3
              have t_c6 := neI c6
              have t_c7 := eqI c7
              have : (0 : Int32).toInt = 0 := (by decide)
              have : (1 : Int32).toInt = 1 := (by decide)
              have : (2 : Int32).toInt = 2 := (by decide)
              have : (3 : Int32).toInt = 3 := (by decide)
              have : (4 : Int32).toInt = 4 := (by decide)
              first | rfl | ((repeat' split) <;> first | rfl | omega)
            refine W.widen (k := 0) (n := 0) (by omega) (by omega) ?_
            exact W.iret (v := (-4)) hx hb hr (fun t ht hW => ⟨⟨(-4), (), rfl, ⟨hpost, trivial⟩, trivial⟩, hS.F ht⟩) hS.2.2 dX10_count_105
          · skip
            by_cases c10 : what = 5
            · skip
              refine lv_cg c10 ?_
              refine lv_tableIn (tgt := 106) hx hb dX10_count_1 (by decide) (by decide) rfl (by decide) ?_
              refine lv_aload_n hx hb dX10_count_106 rfl (lv_at hl 0 rfl) ?_
              refine va_get (D := (dC, dI)) (ci := 10) (v := .ref wy) (C := RX10) (T := TX10) (N := 14) hx hb hg inG10 hown hK.1 hP 0 rfl rfl 1 (by decide) (hg _ wt_303) (fun _ h9 => h9) rfl dX10_count_107 ?_
              have hPc := hP.sub (ws' := [(wy, .inr (9, [.int 0, .int 0, .int 5, .ref a1, .ref a2, .ref a3, .ref a4, .ref a5, .ref a6]))]) [6] rfl
              refine va_calli (va_runVN (As := []) (rest := []) ⟨hx, hb, hml, hown, hg⟩ (c_X9_handOvers l dC dI G _ wy a1 a2 a3 a4 a5 a6 ) (kwVN hg hK mfX9_handOvers wn_868 ⟨Nat.le_of_ble_eq_true rfl, Nat.le_of_ble_eq_true rfl⟩) (preVR hK hPc (ci := 9) rfl rfl) rfl rfl hl.1 rfl (lv_room (Nat.le_of_ble_eq_true rfl)) dX10_count_110 ⟨Nat.le_of_ble_eq_true rfl, Nat.le_of_ble_eq_true rfl⟩) hS (fun q h1 h2 => absurd h2 (Nat.not_le.mpr h1)) (fun q h => hA q (Nat.le_trans hS.1 h)) (fun r11 ur11 t H1 locs ht hvm w12 hB hz1 hk1 hS => ?_)
              have hP := keepR hP hk1
              obtain ⟨w12, w12x⟩ := w12
              subst w12
              have hpost : (0 : Int32) = if what.toInt = 0 then 0 else if what.toInt = 1 then 0 else if what.toInt = 2 then 0 else if what.toInt = 3 then 0 else if what.toInt = 4 then -4 else if what.toInt = 5 then 0 else -1 := by
                have t_c1 := neI c1
                have t_c2 := neI c2
                have t_c3 := neI c3
                have t_c6 := neI c6
                have t_c7 := neI c7
                have t_c10 := eqI c10
                have : (0 : Int32).toInt = 0 := (by decide)
                have : (1 : Int32).toInt = 1 := (by decide)
                have : (2 : Int32).toInt = 2 := (by decide)
                have : (3 : Int32).toInt = 3 := (by decide)
                have : (4 : Int32).toInt = 4 := (by decide)
                have : (5 : Int32).toInt = 5 := (by decide)
                first | rfl | ((repeat' split) <;> first | rfl | omega)
              refine W.widen (k := 0) (n := 0) (by omega) (by omega) ?_
              exact W.iret (v := 0) hx hb hr (fun t ht hW => ⟨⟨0, (), rfl, ⟨hpost, trivial⟩, trivial⟩, hS.F ht⟩) hS.2.2 dX10_count_113
            · skip
              refine lv_tableOut (tgt := 114) hx hb dX10_count_1 (by have t_c1 := neI c1; have t_c2 := neI c2; have t_c3 := neI c3; have t_c6 := neI c6; have t_c7 := neI c7; have t_c10 := neI c10; have : (0 : Int32).toInt = 0 := (by decide); have : (1 : Int32).toInt = 1 := (by decide); have : (2 : Int32).toInt = 2 := (by decide); have : (3 : Int32).toInt = 3 := (by decide); have : (4 : Int32).toInt = 4 := (by decide); have : (5 : Int32).toInt = 5 := (by decide); omega) (by decide) ?_
              refine lv_iconst (v := (-1)) hx hb dX10_count_114 (by decide) ?_
              have hpost : ((-1) : Int32) = if what.toInt = 0 then 0 else if what.toInt = 1 then 0 else if what.toInt = 2 then 0 else if what.toInt = 3 then 0 else if what.toInt = 4 then -4 else if what.toInt = 5 then 0 else -1 := by
                have t_c1 := neI c1
                have t_c2 := neI c2
                have t_c3 := neI c3
                have t_c6 := neI c6
                have t_c7 := neI c7
                have t_c10 := neI c10
                have : (0 : Int32).toInt = 0 := (by decide)
                have : (1 : Int32).toInt = 1 := (by decide)
                have : (2 : Int32).toInt = 2 := (by decide)
                have : (3 : Int32).toInt = 3 := (by decide)
                have : (4 : Int32).toInt = 4 := (by decide)
                have : (5 : Int32).toInt = 5 := (by decide)
                first | rfl | ((repeat' split) <;> first | rfl | omega)
              refine W.widen (k := 0) (n := 0) (by omega) (by omega) ?_
              exact W.iret (v := (-1)) hx hb hr (fun t ht hW => ⟨⟨(-1), (), rfl, ⟨hpost, trivial⟩, trivial⟩, hS.F ht⟩) hS.2.2 dX10_count_115
